/-! ===== 26: walks (by program) ===== -/
section WK6
variable {p : Program} {l : Launch} {e : Env} {s : State} {m : MethodId} {args : Array Value} {below : List Frame} {meth : Method} {c : Code} {g : GD}
set_option maxHeartbeats 4000000 in
set_option maxRecDepth 100000 in
theorem c_X10_assist {l : Launch} {g : GD} {h : PH} {a0 : Nat} {x1 : Int32} {x2 : Int32} {r : Int32} {h' : PH} (hf : mX10_assist h a0 x1 x2 = some (r, h')) : Met l yX10_assist (Cond.code yX10_assist cX10_assist 3 (some .int) :: TB) (rmD 1 0 0) (PcH g [.ref (gB g + a0), .int x1, .int x2] h) (QcI g r h') 0 0 (aB g) := by
  refine Met.ofW (cc := cX10_assist) (maxL := 3) (ret := some .int) (by decide) rfl ?_
  intro p e s m args below meth c s₁ B hml hv
  obtain ⟨rfl, hH0, hkk0⟩ := hv
  have C : CT g RX10 cX10_assist 3 (Cond.code yX10_assist cX10_assist 3 (some .int) :: TB) p s m _ meth c := pg_ct (Tw := []) B hml hH0 hkk0
  have hr := B.returns
  have hH : HS g s s.heap [] h := ⟨hH0, va_S.rf⟩
  have hl := lv_entry ([.ref (gB g + a0), .int x1, .int x2]) (n := 3) (Nat.le_of_ble_eq_true rfl)
  rw [lg_entry_eq]
  generalize (lg_sl ([.ref (gB g + a0), .int x1, .int x2]) ++ List.replicate (3 - (lg_sl ([.ref (gB g + a0), .int x1, .int x2])).length) Slot.unset).toArray = ls at hl ⊢
  have hl : lv_has ls 3 [(0, .ref (gB g + a0)), (1, .int x1), (2, .int x2)] := hl
  show W p l e (rmD 1 0 0) _ _ _ _ _ _ _ _ _ _ _ _
  unfold mX10_assist at hf
  obtain ⟨hO, hf⟩ := oO_sp hf
  obtain ⟨⟨hx, hb, hml, hown, hts⟩, htb, hlk, hkk, hbs⟩ := id C
  refine lv_aload_n hx hb dX10_assist_0 rfl (lv_at hl 0 rfl) ?_
  refine lv_iconst (v := (0 : Int32)) hx hb dX10_assist_1 (by decide) ?_
  refine pg_pI C hH fl_X10_1 fm_10_0 hf dX10_assist_2 (fun H locs h2 hH hf => ?_)
  refine lv_aload_n hx hb dX10_assist_5 rfl (lv_at hl 0 rfl) ?_
  refine pg_gR C hH fl_X10_13 hf dX10_assist_6 (fun v6 hf => ?_)
  refine lv_iconst (v := (2 : Int32)) hx hb dX10_assist_9 (by decide) ?_
  refine pg_aI C hH hf dX10_assist_10 (fun v10 hf => ?_)
  refine lv_iload_n hx hb dX10_assist_11 rfl (lv_at hl 1 rfl) ?_
  refine pg_Si (As := [.int v10, .int x1]) C hH mi_X10_isIn sl_X10_278 hf (fun _ _ e1 => c_X10_isIn e1) rfl rfl hl.1 (Nat.le_of_ble_eq_true rfl) ⟨Nat.le_of_ble_eq_true rfl, Nat.le_of_ble_eq_true rfl⟩ ⟨Nat.zero_le _, Nat.zero_le _⟩ dX10_assist_12 (fun H locs v12 h12 hH hf => ?_)
  refine lv_if_eq (tgt := 37) hx hb dX10_assist_15 (by decide) (fun cn => ?_) (fun cn => ?_)
  · have hf := (if_pos cn).symm.trans hf
    refine lv_iconst (v := (-1 : Int32)) hx hb dX10_assist_37 (by decide) ?_
    exact pg_iret C hr hH hf dX10_assist_38
  · have hf := (if_neg cn).symm.trans hf
    refine lv_iload_n hx hb dX10_assist_18 rfl (lv_at hl 2 rfl) ?_
    refine lv_i2l (v := (Int32.toInt64 x2)) hx hb dX10_assist_19 rfl ?_
    refine lv_lconst (v := (0 : Int64)) hx hb dX10_assist_20 (by decide) ?_
    refine lv_lconst (v := (1 : Int64)) hx hb dX10_assist_21 (by decide) ?_
    refine pg_Si (As := [.long (Int32.toInt64 x2), .long (0 : Int64), .long (1 : Int64)]) C hH mi_X10_within sl_X10_97 hf (fun _ _ e1 => c_X10_within e1) rfl rfl hl.1 (Nat.le_of_ble_eq_true rfl) ⟨Nat.le_of_ble_eq_true rfl, Nat.le_of_ble_eq_true rfl⟩ ⟨Nat.zero_le _, Nat.zero_le _⟩ dX10_assist_22 (fun H locs v22 h22 hH hf => ?_)
    refine lv_if_eq (tgt := 37) hx hb dX10_assist_25 (by decide) (fun cn => ?_) (fun cn => ?_)
    · have hf := (if_pos cn).symm.trans hf
      refine lv_iconst (v := (-1 : Int32)) hx hb dX10_assist_37 (by decide) ?_
      exact pg_iret C hr hH hf dX10_assist_38
    · have hf := (if_neg cn).symm.trans hf
      refine lv_aload_n hx hb dX10_assist_28 rfl (lv_at hl 0 rfl) ?_
      refine lv_iload_n hx hb dX10_assist_29 rfl (lv_at hl 1 rfl) ?_
      refine lv_iload_n hx hb dX10_assist_30 rfl (lv_at hl 2 rfl) ?_
      refine pg_Vi (As := [.int x1, .int x2]) C hH mi_X10_assistOf vl_X10_320 (q := (RX10, TX10, 34)) (ci := 10) rfl rfl hf (fun _ e1 => (oO_sp e1).1) (fun _ _ e1 => c_X10_assistOf e1) rfl rfl hl.1 (Nat.le_of_ble_eq_true rfl) ⟨Nat.le_of_ble_eq_true rfl, Nat.le_of_ble_eq_true rfl⟩ ⟨Nat.zero_le _, Nat.zero_le _⟩ dX10_assist_31 (fun H locs v31 h31 hH hf => ?_)
      refine lv_goto (tgt := 38) hx hb dX10_assist_34 (by decide) ?_
      exact pg_iret C hr hH hf dX10_assist_38
set_option maxHeartbeats 4000000 in
set_option maxRecDepth 100000 in
theorem c_X10_share {l : Launch} {g : GD} {h : PH} {a0 : Nat} {x1 : Int32} {x2 : Int32} {r : Int32} {h' : PH} (hf : mX10_share h a0 x1 x2 = some (r, h')) : Met l yX10_share (Cond.code yX10_share cX10_share 3 (some .int) :: TB) (rmD 4 0 0) (PcH g [.ref (gB g + a0), .int x1, .int x2] h) (QcI g r h') 0 0 (aB g) := by
  refine Met.ofW (cc := cX10_share) (maxL := 3) (ret := some .int) (by decide) rfl ?_
  intro p e s m args below meth c s₁ B hml hv
  obtain ⟨rfl, hH0, hkk0⟩ := hv
  have C : CT g RX10 cX10_share 3 (Cond.code yX10_share cX10_share 3 (some .int) :: TB) p s m _ meth c := pg_ct (Tw := []) B hml hH0 hkk0
  have hr := B.returns
  have hH : HS g s s.heap [] h := ⟨hH0, va_S.rf⟩
  have hl := lv_entry ([.ref (gB g + a0), .int x1, .int x2]) (n := 3) (Nat.le_of_ble_eq_true rfl)
  rw [lg_entry_eq]
  generalize (lg_sl ([.ref (gB g + a0), .int x1, .int x2]) ++ List.replicate (3 - (lg_sl ([.ref (gB g + a0), .int x1, .int x2])).length) Slot.unset).toArray = ls at hl ⊢
  have hl : lv_has ls 3 [(0, .ref (gB g + a0)), (1, .int x1), (2, .int x2)] := hl
  show W p l e (rmD 4 0 0) _ _ _ _ _ _ _ _ _ _ _ _
  unfold mX10_share at hf
  obtain ⟨hO, hf⟩ := oO_sp hf
  obtain ⟨⟨hx, hb, hml, hown, hts⟩, htb, hlk, hkk, hbs⟩ := id C
  refine lv_aload_n hx hb dX10_share_0 rfl (lv_at hl 0 rfl) ?_
  refine lv_iconst (v := (0 : Int32)) hx hb dX10_share_1 (by decide) ?_
  refine pg_pI C hH fl_X10_1 fm_10_0 hf dX10_share_2 (fun H locs h2 hH hf => ?_)
  refine lv_aload_n hx hb dX10_share_5 rfl (lv_at hl 0 rfl) ?_
  refine pg_gR C hH fl_X10_13 hf dX10_share_6 (fun v6 hf => ?_)
  refine lv_iconst (v := (2 : Int32)) hx hb dX10_share_9 (by decide) ?_
  refine pg_aI C hH hf dX10_share_10 (fun v10 hf => ?_)
  refine lv_iload_n hx hb dX10_share_11 rfl (lv_at hl 1 rfl) ?_
  refine pg_Si (As := [.int v10, .int x1]) C hH mi_X10_isIn sl_X10_278 hf (fun _ _ e1 => c_X10_isIn e1) rfl rfl hl.1 (Nat.le_of_ble_eq_true rfl) ⟨Nat.le_of_ble_eq_true rfl, Nat.le_of_ble_eq_true rfl⟩ ⟨Nat.zero_le _, Nat.zero_le _⟩ dX10_share_12 (fun H locs v12 h12 hH hf => ?_)
  refine lv_if_eq (tgt := 35) hx hb dX10_share_15 (by decide) (fun cn => ?_) (fun cn => ?_)
  · have hf := (if_pos cn).symm.trans hf
    refine lv_iconst (v := (-1 : Int32)) hx hb dX10_share_35 (by decide) ?_
    exact pg_iret C hr hH hf dX10_share_36
  · have hf := (if_neg cn).symm.trans hf
    refine lv_aload_n hx hb dX10_share_18 rfl (lv_at hl 0 rfl) ?_
    refine lv_iload_n hx hb dX10_share_19 rfl (lv_at hl 2 rfl) ?_
    refine pg_Vi (As := [.int x2]) C hH mi_X10_isSale vl_X10_288 (q := (RX10, TX10, 34)) (ci := 10) rfl rfl hf (fun _ e1 => (oO_sp e1).1) (fun _ _ e1 => c_X10_isSale e1) rfl rfl hl.1 (Nat.le_of_ble_eq_true rfl) ⟨Nat.le_of_ble_eq_true rfl, Nat.le_of_ble_eq_true rfl⟩ ⟨Nat.zero_le _, Nat.zero_le _⟩ dX10_share_20 (fun H locs v20 h20 hH hf => ?_)
    refine lv_if_eq (tgt := 35) hx hb dX10_share_23 (by decide) (fun cn => ?_) (fun cn => ?_)
    · have hf := (if_pos cn).symm.trans hf
      refine lv_iconst (v := (-1 : Int32)) hx hb dX10_share_35 (by decide) ?_
      exact pg_iret C hr hH hf dX10_share_36
    · have hf := (if_neg cn).symm.trans hf
      refine lv_aload_n hx hb dX10_share_26 rfl (lv_at hl 0 rfl) ?_
      refine lv_iload_n hx hb dX10_share_27 rfl (lv_at hl 1 rfl) ?_
      refine lv_iload_n hx hb dX10_share_28 rfl (lv_at hl 2 rfl) ?_
      refine pg_Vi (As := [.int x1, .int x2]) C hH mi_X10_shareOf vl_X10_323 (q := (RX10, TX10, 34)) (ci := 10) rfl rfl hf (fun _ e1 => (oO_sp e1).1) (fun _ _ e1 => c_X10_shareOf e1) rfl rfl hl.1 (Nat.le_of_ble_eq_true rfl) ⟨Nat.le_of_ble_eq_true rfl, Nat.le_of_ble_eq_true rfl⟩ ⟨Nat.zero_le _, Nat.zero_le _⟩ dX10_share_29 (fun H locs v29 h29 hH hf => ?_)
      refine lv_goto (tgt := 36) hx hb dX10_share_32 (by decide) ?_
      exact pg_iret C hr hH hf dX10_share_36
set_option maxHeartbeats 4000000 in
set_option maxRecDepth 100000 in
theorem wX10_rest_b29 {r29 : PH → Nat → Int32 → Int32 → Int32 → Option (Int32 × PH)} {r : Int32} {h' : PH} (C : CT g RX10 cX10_rest 4 (Cond.code yX10_rest cX10_rest 4 (some .int) :: TB) p s m args meth c) (hr : meth.sig.returnType = some .int) (k29 : ∀ {h : PH} {a0 : Nat} {x1 : Int32} {x2 : Int32} {x3 : Int32} {H : Heap} {locs : List Loc} {ls : Array Slot}, HS g s H locs h → r29 h a0 x1 x2 x3 = some (r, h') → lv_has ls 4 [(0, .ref (gB g + a0)), (1, .int x1), (2, .int x2), (3, .int x3)] → W p l e (rmD 4 0 0) s m args below meth c H locs 0 0 (MQ below (QcI g r h') args s 0 0 (aB g)) (F0 m 29 ls [])) {h : PH} {a0 : Nat} {x1 : Int32} {x2 : Int32} {x3 : Int32} {H : Heap} {locs : List Loc} {ls : Array Slot} (hH : HS g s H locs h) (hf : mX10_rest_b29 r29 h a0 x1 x2 x3 = some (r, h')) (hl : lv_has ls 4 [(0, .ref (gB g + a0)), (1, .int x1), (2, .int x2), (3, .int x3)]) : W p l e (rmD 4 0 0) s m args below meth c H locs 0 0 (MQ below (QcI g r h') args s 0 0 (aB g)) (F0 m 29 ls []) := by
  obtain ⟨⟨hx, hb, hml, hown, hts⟩, htb, hlk, hkk, hbs⟩ := id C
  unfold mX10_rest_b29 at hf
  refine lv_iload_n hx hb dX10_rest_29 rfl (lv_at hl 3 rfl) ?_
  refine lv_aload_n hx hb dX10_rest_30 rfl (lv_at hl 0 rfl) ?_
  refine pg_gR C hH fl_X10_13 hf dX10_rest_31 (fun v31 hf => ?_)
  refine lv_iconst (v := (3 : Int32)) hx hb dX10_rest_34 (by decide) ?_
  refine pg_aI C hH hf dX10_rest_35 (fun v35 hf => ?_)
  refine lv_icmp_ge (tgt := 54) hx hb dX10_rest_36 (by decide) (fun cn => ?_) (fun cn => ?_)
  · have hf := (if_pos cn).symm.trans hf
    refine lv_iload_n hx hb dX10_rest_54 rfl (lv_at hl 2 rfl) ?_
    exact pg_iret C hr hH hf dX10_rest_55
  · have hf := (if_neg cn).symm.trans hf
    refine lv_iload_n hx hb dX10_rest_39 rfl (lv_at hl 2 rfl) ?_
    refine lv_aload_n hx hb dX10_rest_40 rfl (lv_at hl 0 rfl) ?_
    refine lv_iload_n hx hb dX10_rest_41 rfl (lv_at hl 1 rfl) ?_
    refine lv_iload_n hx hb dX10_rest_42 rfl (lv_at hl 3 rfl) ?_
    refine pg_Vi (As := [.int x1, .int x3]) C hH mi_X10_shareOf vl_X10_323 (q := (RX10, TX10, 34)) (ci := 10) rfl rfl hf (fun _ e1 => (oO_sp e1).1) (fun _ _ e1 => c_X10_shareOf e1) rfl rfl hl.1 (Nat.le_of_ble_eq_true rfl) ⟨Nat.le_of_ble_eq_true rfl, Nat.le_of_ble_eq_true rfl⟩ ⟨Nat.zero_le _, Nat.zero_le _⟩ dX10_rest_43 (fun H locs v43 h43 hH hf => ?_)
    refine lv_isub hx hb dX10_rest_46 ?_
    refine lv_istore_n (lv' := [(2, .int (x2 - v43)), (0, .ref (gB g + a0)), (1, .int x1), (3, .int x3)]) hx hb dX10_rest_47 rfl hl (by decide) rfl (fun ls hl => ?_)
    refine lv_iinc (v := (x3 + 1)) (lv' := [(3, .int (x3 + 1)), (2, .int (x2 - v43)), (0, .ref (gB g + a0)), (1, .int x1)]) hx hb dX10_rest_48 hl (k := 3) rfl rfl (by decide) rfl (fun ls hl => ?_)
    refine lv_goto (tgt := 29) hx hb dX10_rest_51 (by decide) ?_
    exact k29 hH hf (lv_sub hl [2, 3, 1, 0] rfl)
set_option maxHeartbeats 4000000 in
set_option maxRecDepth 100000 in
theorem wX10_rest_L29 {r : Int32} {h' : PH} (C : CT g RX10 cX10_rest 4 (Cond.code yX10_rest cX10_rest 4 (some .int) :: TB) p s m args meth c) (hr : meth.sig.returnType = some .int) : ∀ (n : Nat) {h : PH} {a0 : Nat} {x1 : Int32} {x2 : Int32} {x3 : Int32} {H : Heap} {locs : List Loc} {ls : Array Slot}, HS g s H locs h → mX10_rest_L29 n h a0 x1 x2 x3 = some (r, h') → lv_has ls 4 [(0, .ref (gB g + a0)), (1, .int x1), (2, .int x2), (3, .int x3)] → W p l e (rmD 4 0 0) s m args below meth c H locs 0 0 (MQ below (QcI g r h') args s 0 0 (aB g)) (F0 m 29 ls []) := by
  intro n
  induction n with
  | zero =>
    intro h a0 x1 x2 x3 H locs ls hH hf hl
    exact absurd hf (by intro z; cases z)
  | succ n ih =>
    intro h a0 x1 x2 x3 H locs ls hH hf hl
    have hf : mX10_rest_b29 (mX10_rest_L29 n) h a0 x1 x2 x3 = some (r, h') := hf
    exact wX10_rest_b29 C hr (fun a b c => ih a b c) hH hf hl
set_option maxHeartbeats 4000000 in
set_option maxRecDepth 100000 in
theorem c_X10_rest {l : Launch} {g : GD} {h : PH} {a0 : Nat} {x1 : Int32} {r : Int32} {h' : PH} (hf : mX10_rest h a0 x1 = some (r, h')) : Met l yX10_rest (Cond.code yX10_rest cX10_rest 4 (some .int) :: TB) (rmD 4 0 0) (PcH g [.ref (gB g + a0), .int x1] h) (QcI g r h') 0 0 (aB g) := by
  refine Met.ofW (cc := cX10_rest) (maxL := 4) (ret := some .int) (by decide) rfl ?_
  intro p e s m args below meth c s₁ B hml hv
  obtain ⟨rfl, hH0, hkk0⟩ := hv
  have C : CT g RX10 cX10_rest 4 (Cond.code yX10_rest cX10_rest 4 (some .int) :: TB) p s m _ meth c := pg_ct (Tw := []) B hml hH0 hkk0
  have hr := B.returns
  have hH : HS g s s.heap [] h := ⟨hH0, va_S.rf⟩
  have hl := lv_entry ([.ref (gB g + a0), .int x1]) (n := 4) (Nat.le_of_ble_eq_true rfl)
  rw [lg_entry_eq]
  generalize (lg_sl ([.ref (gB g + a0), .int x1]) ++ List.replicate (4 - (lg_sl ([.ref (gB g + a0), .int x1])).length) Slot.unset).toArray = ls at hl ⊢
  have hl : lv_has ls 4 [(0, .ref (gB g + a0)), (1, .int x1)] := hl
  show W p l e (rmD 4 0 0) _ _ _ _ _ _ _ _ _ _ _ _
  unfold mX10_rest at hf
  obtain ⟨hO, hf⟩ := oO_sp hf
  obtain ⟨⟨hx, hb, hml, hown, hts⟩, htb, hlk, hkk, hbs⟩ := id C
  refine lv_aload_n hx hb dX10_rest_0 rfl (lv_at hl 0 rfl) ?_
  refine lv_iconst (v := (0 : Int32)) hx hb dX10_rest_1 (by decide) ?_
  refine pg_pI C hH fl_X10_1 fm_10_0 hf dX10_rest_2 (fun H locs h2 hH hf => ?_)
  refine lv_aload_n hx hb dX10_rest_5 rfl (lv_at hl 0 rfl) ?_
  refine pg_gR C hH fl_X10_13 hf dX10_rest_6 (fun v6 hf => ?_)
  refine lv_iconst (v := (2 : Int32)) hx hb dX10_rest_9 (by decide) ?_
  refine pg_aI C hH hf dX10_rest_10 (fun v10 hf => ?_)
  refine lv_iload_n hx hb dX10_rest_11 rfl (lv_at hl 1 rfl) ?_
  refine pg_Si (As := [.int v10, .int x1]) C hH mi_X10_isIn sl_X10_278 hf (fun _ _ e1 => c_X10_isIn e1) rfl rfl hl.1 (Nat.le_of_ble_eq_true rfl) ⟨Nat.le_of_ble_eq_true rfl, Nat.le_of_ble_eq_true rfl⟩ ⟨Nat.zero_le _, Nat.zero_le _⟩ dX10_rest_12 (fun H locs v12 h12 hH hf => ?_)
  refine lv_if_ne (tgt := 20) hx hb dX10_rest_15 (by decide) (fun cn => ?_) (fun cn => ?_)
  · have hf := (if_neg cn).symm.trans hf
    refine lv_aload_n hx hb dX10_rest_20 rfl (lv_at hl 0 rfl) ?_
    refine lv_iload_n hx hb dX10_rest_21 rfl (lv_at hl 1 rfl) ?_
    refine lv_iconst (v := (0 : Int32)) hx hb dX10_rest_22 (by decide) ?_
    refine pg_Vi (As := [.int x1, .int (0 : Int32)]) C hH mi_X10_assistOf vl_X10_320 (q := (RX10, TX10, 34)) (ci := 10) rfl rfl hf (fun _ e1 => (oO_sp e1).1) (fun _ _ e1 => c_X10_assistOf e1) rfl rfl hl.1 (Nat.le_of_ble_eq_true rfl) ⟨Nat.le_of_ble_eq_true rfl, Nat.le_of_ble_eq_true rfl⟩ ⟨Nat.zero_le _, Nat.zero_le _⟩ dX10_rest_23 (fun H locs v23 h23 hH hf => ?_)
    refine lv_istore_n (lv' := [(2, .int v23), (0, .ref (gB g + a0)), (1, .int x1)]) hx hb dX10_rest_26 rfl hl (by decide) rfl (fun ls hl => ?_)
    refine lv_iconst (v := (0 : Int32)) hx hb dX10_rest_27 (by decide) ?_
    refine lv_istore_n (lv' := [(3, .int (0 : Int32)), (2, .int v23), (0, .ref (gB g + a0)), (1, .int x1)]) hx hb dX10_rest_28 rfl hl (by decide) rfl (fun ls hl => ?_)
    exact wX10_rest_L29 C hr FU hH hf (lv_sub hl [2, 3, 1, 0] rfl)
  · have hf := (if_pos cn).symm.trans hf
    refine lv_iconst (v := (-1 : Int32)) hx hb dX10_rest_18 (by decide) ?_
    exact pg_iret C hr hH hf dX10_rest_19
set_option maxHeartbeats 4000000 in
set_option maxRecDepth 100000 in
theorem c_X10_ownAt {l : Launch} {g : GD} {h : PH} {a0 : Nat} {x1 : Int32} {x2 : Int32} {r : Int64} {h' : PH} (hf : mX10_ownAt h a0 x1 x2 = some (r, h')) : Met l yX10_ownAt (Cond.code yX10_ownAt cX10_ownAt 5 (some .long) :: TB) (rmD 5 0 0) (PcH g [.ref (gB g + a0), .int x1, .int x2] h) (QcL g r h') 0 0 (aB g) := by
  refine Met.ofW (cc := cX10_ownAt) (maxL := 5) (ret := some .long) (by decide) rfl ?_
  intro p e s m args below meth c s₁ B hml hv
  obtain ⟨rfl, hH0, hkk0⟩ := hv
  have C : CT g RX10 cX10_ownAt 5 (Cond.code yX10_ownAt cX10_ownAt 5 (some .long) :: TB) p s m _ meth c := pg_ct (Tw := []) B hml hH0 hkk0
  have hr := B.returns
  have hH : HS g s s.heap [] h := ⟨hH0, va_S.rf⟩
  have hl := lv_entry ([.ref (gB g + a0), .int x1, .int x2]) (n := 5) (Nat.le_of_ble_eq_true rfl)
  rw [lg_entry_eq]
  generalize (lg_sl ([.ref (gB g + a0), .int x1, .int x2]) ++ List.replicate (5 - (lg_sl ([.ref (gB g + a0), .int x1, .int x2])).length) Slot.unset).toArray = ls at hl ⊢
  have hl : lv_has ls 5 [(0, .ref (gB g + a0)), (1, .int x1), (2, .int x2)] := hl
  show W p l e (rmD 5 0 0) _ _ _ _ _ _ _ _ _ _ _ _
  unfold mX10_ownAt at hf
  obtain ⟨hO, hf⟩ := oO_sp hf
  obtain ⟨⟨hx, hb, hml, hown, hts⟩, htb, hlk, hkk, hbs⟩ := id C
  refine lv_iload_n hx hb dX10_ownAt_0 rfl (lv_at hl 2 rfl) ?_
  refine lv_i2l (v := (Int32.toInt64 x2)) hx hb dX10_ownAt_1 rfl ?_
  refine lv_aload_n hx hb dX10_ownAt_2 rfl (lv_at hl 0 rfl) ?_
  refine lv_iload_n hx hb dX10_ownAt_3 rfl (lv_at hl 1 rfl) ?_
  refine lv_iconst (v := (3 : Int32)) hx hb dX10_ownAt_4 (by decide) ?_
  refine pg_Vi (As := [.int x1, .int (3 : Int32)]) C hH mi_X10_of vl_X10_281 (q := (RX10, TX10, 34)) (ci := 10) rfl rfl hf (fun _ e1 => (oO_sp e1).1) (fun _ _ e1 => c_X10_of e1) rfl rfl hl.1 (Nat.le_of_ble_eq_true rfl) ⟨Nat.le_of_ble_eq_true rfl, Nat.le_of_ble_eq_true rfl⟩ ⟨Nat.zero_le _, Nat.zero_le _⟩ dX10_ownAt_5 (fun H locs v5 h5 hH hf => ?_)
  refine lv_i2l (v := (Int32.toInt64 v5)) hx hb dX10_ownAt_8 rfl ?_
  refine lv_lmul hx hb dX10_ownAt_9 ?_
  refine lv_lstore_n (lv' := [(3, .long ((Int32.toInt64 x2) * (Int32.toInt64 v5))), (0, .ref (gB g + a0)), (1, .int x1), (2, .int x2)]) hx hb dX10_ownAt_10 rfl hl (by decide) rfl (fun ls hl => ?_)
  refine lv_lload_n hx hb dX10_ownAt_11 rfl (lv_at hl 0 rfl) ?_
  refine lv_lload_n hx hb dX10_ownAt_12 rfl (lv_at hl 0 rfl) ?_
  refine lv_aload_n hx hb dX10_ownAt_13 rfl (lv_at hl 1 rfl) ?_
  refine lv_iload_n hx hb dX10_ownAt_14 rfl (lv_at hl 2 rfl) ?_
  refine lv_bipush (v := (7 : Int32)) hx hb dX10_ownAt_15 (by decide) ?_
  refine pg_Vi (As := [.int x1, .int (7 : Int32)]) C hH mi_X10_of vl_X10_281 (q := (RX10, TX10, 34)) (ci := 10) rfl rfl hf (fun _ e1 => (oO_sp e1).1) (fun _ _ e1 => c_X10_of e1) rfl rfl hl.1 (Nat.le_of_ble_eq_true rfl) ⟨Nat.le_of_ble_eq_true rfl, Nat.le_of_ble_eq_true rfl⟩ ⟨Nat.zero_le _, Nat.zero_le _⟩ dX10_ownAt_17 (fun H locs v17 h17 hH hf => ?_)
  refine lv_i2l (v := (Int32.toInt64 v17)) hx hb dX10_ownAt_20 rfl ?_
  refine lv_lmul hx hb dX10_ownAt_21 ?_
  refine lv_ldc2 (v := (100 : Int64)) hx hb hown (hts _ (htb _ kl_X10_326)) dX10_ownAt_22 ?_
  refine lv_ldiv hx hb dX10_ownAt_25 (by decide) ?_
  refine lv_ladd hx hb dX10_ownAt_26 ?_
  refine lv_aload_n hx hb dX10_ownAt_27 rfl (lv_at hl 1 rfl) ?_
  refine lv_iload_n hx hb dX10_ownAt_28 rfl (lv_at hl 2 rfl) ?_
  refine lv_bipush (v := (8 : Int32)) hx hb dX10_ownAt_29 (by decide) ?_
  refine pg_Vi (As := [.int x1, .int (8 : Int32)]) C hH mi_X10_of vl_X10_281 (q := (RX10, TX10, 34)) (ci := 10) rfl rfl hf (fun _ e1 => (oO_sp e1).1) (fun _ _ e1 => c_X10_of e1) rfl rfl hl.1 (Nat.le_of_ble_eq_true rfl) ⟨Nat.le_of_ble_eq_true rfl, Nat.le_of_ble_eq_true rfl⟩ ⟨Nat.zero_le _, Nat.zero_le _⟩ dX10_ownAt_31 (fun H locs v31 h31 hH hf => ?_)
  refine lv_i2l (v := (Int32.toInt64 v31)) hx hb dX10_ownAt_34 rfl ?_
  refine lv_ladd hx hb dX10_ownAt_35 ?_
  refine lv_aload_n hx hb dX10_ownAt_36 rfl (lv_at hl 1 rfl) ?_
  refine lv_iload_n hx hb dX10_ownAt_37 rfl (lv_at hl 2 rfl) ?_
  refine lv_bipush (v := (9 : Int32)) hx hb dX10_ownAt_38 (by decide) ?_
  refine pg_Vi (As := [.int x1, .int (9 : Int32)]) C hH mi_X10_of vl_X10_281 (q := (RX10, TX10, 34)) (ci := 10) rfl rfl hf (fun _ e1 => (oO_sp e1).1) (fun _ _ e1 => c_X10_of e1) rfl rfl hl.1 (Nat.le_of_ble_eq_true rfl) ⟨Nat.le_of_ble_eq_true rfl, Nat.le_of_ble_eq_true rfl⟩ ⟨Nat.zero_le _, Nat.zero_le _⟩ dX10_ownAt_40 (fun H locs v40 h40 hH hf => ?_)
  refine lv_i2l (v := (Int32.toInt64 v40)) hx hb dX10_ownAt_43 rfl ?_
  refine lv_ladd hx hb dX10_ownAt_44 ?_
  refine lv_aload_n hx hb dX10_ownAt_45 rfl (lv_at hl 1 rfl) ?_
  refine lv_iload_n hx hb dX10_ownAt_46 rfl (lv_at hl 2 rfl) ?_
  refine lv_bipush (v := (10 : Int32)) hx hb dX10_ownAt_47 (by decide) ?_
  refine pg_Vi (As := [.int x1, .int (10 : Int32)]) C hH mi_X10_of vl_X10_281 (q := (RX10, TX10, 34)) (ci := 10) rfl rfl hf (fun _ e1 => (oO_sp e1).1) (fun _ _ e1 => c_X10_of e1) rfl rfl hl.1 (Nat.le_of_ble_eq_true rfl) ⟨Nat.le_of_ble_eq_true rfl, Nat.le_of_ble_eq_true rfl⟩ ⟨Nat.zero_le _, Nat.zero_le _⟩ dX10_ownAt_49 (fun H locs v49 h49 hH hf => ?_)
  refine lv_i2l (v := (Int32.toInt64 v49)) hx hb dX10_ownAt_52 rfl ?_
  refine lv_ladd hx hb dX10_ownAt_53 ?_
  refine lv_aload_n hx hb dX10_ownAt_54 rfl (lv_at hl 1 rfl) ?_
  refine lv_iload_n hx hb dX10_ownAt_55 rfl (lv_at hl 2 rfl) ?_
  refine pg_Vi (As := [.int x1]) C hH mi_X10_sharesOf vl_X10_328 (q := (RX10, TX10, 34)) (ci := 10) rfl rfl hf (fun _ e1 => (oO_sp e1).1) (fun _ _ e1 => c_X10_sharesOf e1) rfl rfl hl.1 (Nat.le_of_ble_eq_true rfl) ⟨Nat.le_of_ble_eq_true rfl, Nat.le_of_ble_eq_true rfl⟩ ⟨Nat.zero_le _, Nat.zero_le _⟩ dX10_ownAt_56 (fun H locs v56 h56 hH hf => ?_)
  refine lv_i2l (v := (Int32.toInt64 v56)) hx hb dX10_ownAt_59 rfl ?_
  refine lv_ladd hx hb dX10_ownAt_60 ?_
  exact pg_lret C hr hH hf dX10_ownAt_61
set_option maxHeartbeats 4000000 in
set_option maxRecDepth 100000 in
theorem c_X10_ownOf {l : Launch} {g : GD} {h : PH} {a0 : Nat} {x1 : Int32} {r : Int64} {h' : PH} (hf : mX10_ownOf h a0 x1 = some (r, h')) : Met l yX10_ownOf (Cond.code yX10_ownOf cX10_ownOf 2 (some .long) :: TB) (rmD 6 0 0) (PcH g [.ref (gB g + a0), .int x1] h) (QcL g r h') 0 0 (aB g) := by
  refine Met.ofW (cc := cX10_ownOf) (maxL := 2) (ret := some .long) (by decide) rfl ?_
  intro p e s m args below meth c s₁ B hml hv
  obtain ⟨rfl, hH0, hkk0⟩ := hv
  have C : CT g RX10 cX10_ownOf 2 (Cond.code yX10_ownOf cX10_ownOf 2 (some .long) :: TB) p s m _ meth c := pg_ct (Tw := []) B hml hH0 hkk0
  have hr := B.returns
  have hH : HS g s s.heap [] h := ⟨hH0, va_S.rf⟩
  have hl := lv_entry ([.ref (gB g + a0), .int x1]) (n := 2) (Nat.le_of_ble_eq_true rfl)
  rw [lg_entry_eq]
  generalize (lg_sl ([.ref (gB g + a0), .int x1]) ++ List.replicate (2 - (lg_sl ([.ref (gB g + a0), .int x1])).length) Slot.unset).toArray = ls at hl ⊢
  have hl : lv_has ls 2 [(0, .ref (gB g + a0)), (1, .int x1)] := hl
  show W p l e (rmD 6 0 0) _ _ _ _ _ _ _ _ _ _ _ _
  unfold mX10_ownOf at hf
  obtain ⟨hO, hf⟩ := oO_sp hf
  obtain ⟨⟨hx, hb, hml, hown, hts⟩, htb, hlk, hkk, hbs⟩ := id C
  refine lv_aload_n hx hb dX10_ownOf_0 rfl (lv_at hl 0 rfl) ?_
  refine lv_iload_n hx hb dX10_ownOf_1 rfl (lv_at hl 1 rfl) ?_
  refine lv_aload_n hx hb dX10_ownOf_2 rfl (lv_at hl 0 rfl) ?_
  refine lv_iload_n hx hb dX10_ownOf_3 rfl (lv_at hl 1 rfl) ?_
  refine lv_iconst (v := (4 : Int32)) hx hb dX10_ownOf_4 (by decide) ?_
  refine pg_Vi (As := [.int x1, .int (4 : Int32)]) C hH mi_X10_of vl_X10_281 (q := (RX10, TX10, 34)) (ci := 10) rfl rfl hf (fun _ e1 => (oO_sp e1).1) (fun _ _ e1 => c_X10_of e1) rfl rfl hl.1 (Nat.le_of_ble_eq_true rfl) ⟨Nat.le_of_ble_eq_true rfl, Nat.le_of_ble_eq_true rfl⟩ ⟨Nat.zero_le _, Nat.zero_le _⟩ dX10_ownOf_5 (fun H locs v5 h5 hH hf => ?_)
  refine pg_Vl (As := [.int x1, .int v5]) C hH mi_X10_ownAt vl_X10_331 (q := (RX10, TX10, 34)) (ci := 10) rfl rfl hf (fun _ e1 => (oO_sp e1).1) (fun _ _ e1 => c_X10_ownAt e1) rfl rfl hl.1 (Nat.le_of_ble_eq_true rfl) ⟨Nat.le_of_ble_eq_true rfl, Nat.le_of_ble_eq_true rfl⟩ ⟨Nat.zero_le _, Nat.zero_le _⟩ dX10_ownOf_8 (fun H locs v8 h8 hH hf => ?_)
  exact pg_lret C hr hH hf dX10_ownOf_11
set_option maxHeartbeats 4000000 in
set_option maxRecDepth 100000 in
theorem c_X10_own {l : Launch} {g : GD} {h : PH} {a0 : Nat} {x1 : Int32} {r : Int64} {h' : PH} (hf : mX10_own h a0 x1 = some (r, h')) : Met l yX10_own (Cond.code yX10_own cX10_own 2 (some .long) :: TB) (rmD 7 0 0) (PcH g [.ref (gB g + a0), .int x1] h) (QcL g r h') 0 0 (aB g) := by
  refine Met.ofW (cc := cX10_own) (maxL := 2) (ret := some .long) (by decide) rfl ?_
  intro p e s m args below meth c s₁ B hml hv
  obtain ⟨rfl, hH0, hkk0⟩ := hv
  have C : CT g RX10 cX10_own 2 (Cond.code yX10_own cX10_own 2 (some .long) :: TB) p s m _ meth c := pg_ct (Tw := []) B hml hH0 hkk0
  have hr := B.returns
  have hH : HS g s s.heap [] h := ⟨hH0, va_S.rf⟩
  have hl := lv_entry ([.ref (gB g + a0), .int x1]) (n := 2) (Nat.le_of_ble_eq_true rfl)
  rw [lg_entry_eq]
  generalize (lg_sl ([.ref (gB g + a0), .int x1]) ++ List.replicate (2 - (lg_sl ([.ref (gB g + a0), .int x1])).length) Slot.unset).toArray = ls at hl ⊢
  have hl : lv_has ls 2 [(0, .ref (gB g + a0)), (1, .int x1)] := hl
  show W p l e (rmD 7 0 0) _ _ _ _ _ _ _ _ _ _ _ _
  unfold mX10_own at hf
  obtain ⟨hO, hf⟩ := oO_sp hf
  obtain ⟨⟨hx, hb, hml, hown, hts⟩, htb, hlk, hkk, hbs⟩ := id C
  refine lv_aload_n hx hb dX10_own_0 rfl (lv_at hl 0 rfl) ?_
  refine lv_iconst (v := (0 : Int32)) hx hb dX10_own_1 (by decide) ?_
  refine pg_pI C hH fl_X10_1 fm_10_0 hf dX10_own_2 (fun H locs h2 hH hf => ?_)
  refine lv_aload_n hx hb dX10_own_5 rfl (lv_at hl 0 rfl) ?_
  refine lv_iload_n hx hb dX10_own_6 rfl (lv_at hl 1 rfl) ?_
  refine pg_Vi (As := [.int x1]) C hH mi_X10_isSale vl_X10_288 (q := (RX10, TX10, 34)) (ci := 10) rfl rfl hf (fun _ e1 => (oO_sp e1).1) (fun _ _ e1 => c_X10_isSale e1) rfl rfl hl.1 (Nat.le_of_ble_eq_true rfl) ⟨Nat.le_of_ble_eq_true rfl, Nat.le_of_ble_eq_true rfl⟩ ⟨Nat.zero_le _, Nat.zero_le _⟩ dX10_own_7 (fun H locs v7 h7 hH hf => ?_)
  refine lv_if_eq (tgt := 21) hx hb dX10_own_10 (by decide) (fun cn => ?_) (fun cn => ?_)
  · have hf := (if_pos cn).symm.trans hf
    refine lv_ldc2 (v := (-1 : Int64)) hx hb hown (hts _ (htb _ kl_X10_339)) dX10_own_21 ?_
    exact pg_lret C hr hH hf dX10_own_24
  · have hf := (if_neg cn).symm.trans hf
    refine lv_aload_n hx hb dX10_own_13 rfl (lv_at hl 0 rfl) ?_
    refine lv_iload_n hx hb dX10_own_14 rfl (lv_at hl 1 rfl) ?_
    refine pg_Vl (As := [.int x1]) C hH mi_X10_ownOf vl_X10_335 (q := (RX10, TX10, 34)) (ci := 10) rfl rfl hf (fun _ e1 => (oO_sp e1).1) (fun _ _ e1 => c_X10_ownOf e1) rfl rfl hl.1 (Nat.le_of_ble_eq_true rfl) ⟨Nat.le_of_ble_eq_true rfl, Nat.le_of_ble_eq_true rfl⟩ ⟨Nat.zero_le _, Nat.zero_le _⟩ dX10_own_15 (fun H locs v15 h15 hH hf => ?_)
    refine lv_goto (tgt := 24) hx hb dX10_own_18 (by decide) ?_
    exact pg_lret C hr hH hf dX10_own_24
set_option maxHeartbeats 4000000 in
set_option maxRecDepth 100000 in
theorem c_X10_isBetweenKin {l : Launch} {g : GD} {h : PH} {a0 : Nat} {x1 : Int32} {r : Int32} {h' : PH} (hf : mX10_isBetweenKin h a0 x1 = some (r, h')) : Met l yX10_isBetweenKin (Cond.code yX10_isBetweenKin cX10_isBetweenKin 2 (some .boolean) :: TB) (rmD 2 0 0) (PcH g [.ref (gB g + a0), .int x1] h) (QcI g r h') 0 0 (aB g) := by
  refine Met.ofW (cc := cX10_isBetweenKin) (maxL := 2) (ret := some .boolean) (by decide) rfl ?_
  intro p e s m args below meth c s₁ B hml hv
  obtain ⟨rfl, hH0, hkk0⟩ := hv
  have C : CT g RX10 cX10_isBetweenKin 2 (Cond.code yX10_isBetweenKin cX10_isBetweenKin 2 (some .boolean) :: TB) p s m _ meth c := pg_ct (Tw := []) B hml hH0 hkk0
  have hr := B.returns
  have hH : HS g s s.heap [] h := ⟨hH0, va_S.rf⟩
  have hl := lv_entry ([.ref (gB g + a0), .int x1]) (n := 2) (Nat.le_of_ble_eq_true rfl)
  rw [lg_entry_eq]
  generalize (lg_sl ([.ref (gB g + a0), .int x1]) ++ List.replicate (2 - (lg_sl ([.ref (gB g + a0), .int x1])).length) Slot.unset).toArray = ls at hl ⊢
  have hl : lv_has ls 2 [(0, .ref (gB g + a0)), (1, .int x1)] := hl
  show W p l e (rmD 2 0 0) _ _ _ _ _ _ _ _ _ _ _ _
  unfold mX10_isBetweenKin at hf
  obtain ⟨hO, hf⟩ := oO_sp hf
  obtain ⟨⟨hx, hb, hml, hown, hts⟩, htb, hlk, hkk, hbs⟩ := id C
  refine lv_aload_n hx hb dX10_isBetweenKin_0 rfl (lv_at hl 0 rfl) ?_
  refine lv_aload_n hx hb dX10_isBetweenKin_1 rfl (lv_at hl 0 rfl) ?_
  refine lv_iload_n hx hb dX10_isBetweenKin_2 rfl (lv_at hl 1 rfl) ?_
  refine lv_iconst (v := (1 : Int32)) hx hb dX10_isBetweenKin_3 (by decide) ?_
  refine pg_Vi (As := [.int x1, .int (1 : Int32)]) C hH mi_X10_of vl_X10_281 (q := (RX10, TX10, 34)) (ci := 10) rfl rfl hf (fun _ e1 => (oO_sp e1).1) (fun _ _ e1 => c_X10_of e1) rfl rfl hl.1 (Nat.le_of_ble_eq_true rfl) ⟨Nat.le_of_ble_eq_true rfl, Nat.le_of_ble_eq_true rfl⟩ ⟨Nat.zero_le _, Nat.zero_le _⟩ dX10_isBetweenKin_4 (fun H locs v4 h4 hH hf => ?_)
  refine lv_aload_n hx hb dX10_isBetweenKin_7 rfl (lv_at hl 0 rfl) ?_
  refine lv_iload_n hx hb dX10_isBetweenKin_8 rfl (lv_at hl 1 rfl) ?_
  refine lv_iconst (v := (2 : Int32)) hx hb dX10_isBetweenKin_9 (by decide) ?_
  refine pg_Vi (As := [.int x1, .int (2 : Int32)]) C hH mi_X10_of vl_X10_281 (q := (RX10, TX10, 34)) (ci := 10) rfl rfl hf (fun _ e1 => (oO_sp e1).1) (fun _ _ e1 => c_X10_of e1) rfl rfl hl.1 (Nat.le_of_ble_eq_true rfl) ⟨Nat.le_of_ble_eq_true rfl, Nat.le_of_ble_eq_true rfl⟩ ⟨Nat.zero_le _, Nat.zero_le _⟩ dX10_isBetweenKin_10 (fun H locs v10 h10 hH hf => ?_)
  refine pg_Vi (As := [.int v4, .int v10]) C hH mi_X10_areKin vl_X10_295 (q := (RX10, TX10, 34)) (ci := 10) rfl rfl hf (fun _ e1 => (oO_sp e1).1) (fun _ _ e1 => c_X10_areKin e1) rfl rfl hl.1 (Nat.le_of_ble_eq_true rfl) ⟨Nat.le_of_ble_eq_true rfl, Nat.le_of_ble_eq_true rfl⟩ ⟨Nat.zero_le _, Nat.zero_le _⟩ dX10_isBetweenKin_13 (fun H locs v13 h13 hH hf => ?_)
  exact pg_zret C hr hH hf dX10_isBetweenKin_16
set_option maxHeartbeats 4000000 in
set_option maxRecDepth 100000 in
theorem c_X10_isNearDay {l : Launch} {g : GD} {h : PH} {a0 : Nat} {x1 : Int32} {x2 : Int32} {r : Int32} {h' : PH} (hf : mX10_isNearDay h a0 x1 x2 = some (r, h')) : Met l yX10_isNearDay (Cond.code yX10_isNearDay cX10_isNearDay 4 (some .boolean) :: TB) (rmD 1 0 0) (PcH g [.ref (gB g + a0), .int x1, .int x2] h) (QcI g r h') 0 0 (aB g) := by
  refine Met.ofW (cc := cX10_isNearDay) (maxL := 4) (ret := some .boolean) (by decide) rfl ?_
  intro p e s m args below meth c s₁ B hml hv
  obtain ⟨rfl, hH0, hkk0⟩ := hv
  have C : CT g RX10 cX10_isNearDay 4 (Cond.code yX10_isNearDay cX10_isNearDay 4 (some .boolean) :: TB) p s m _ meth c := pg_ct (Tw := []) B hml hH0 hkk0
  have hr := B.returns
  have hH : HS g s s.heap [] h := ⟨hH0, va_S.rf⟩
  have hl := lv_entry ([.ref (gB g + a0), .int x1, .int x2]) (n := 4) (Nat.le_of_ble_eq_true rfl)
  rw [lg_entry_eq]
  generalize (lg_sl ([.ref (gB g + a0), .int x1, .int x2]) ++ List.replicate (4 - (lg_sl ([.ref (gB g + a0), .int x1, .int x2])).length) Slot.unset).toArray = ls at hl ⊢
  have hl : lv_has ls 4 [(0, .ref (gB g + a0)), (1, .int x1), (2, .int x2)] := hl
  show W p l e (rmD 1 0 0) _ _ _ _ _ _ _ _ _ _ _ _
  unfold mX10_isNearDay at hf
  obtain ⟨hO, hf⟩ := oO_sp hf
  obtain ⟨⟨hx, hb, hml, hown, hts⟩, htb, hlk, hkk, hbs⟩ := id C
  refine lv_aload_n hx hb dX10_isNearDay_0 rfl (lv_at hl 0 rfl) ?_
  refine lv_iload_n hx hb dX10_isNearDay_1 rfl (lv_at hl 1 rfl) ?_
  refine lv_iconst (v := (5 : Int32)) hx hb dX10_isNearDay_2 (by decide) ?_
  refine pg_Vi (As := [.int x1, .int (5 : Int32)]) C hH mi_X10_of vl_X10_281 (q := (RX10, TX10, 34)) (ci := 10) rfl rfl hf (fun _ e1 => (oO_sp e1).1) (fun _ _ e1 => c_X10_of e1) rfl rfl hl.1 (Nat.le_of_ble_eq_true rfl) ⟨Nat.le_of_ble_eq_true rfl, Nat.le_of_ble_eq_true rfl⟩ ⟨Nat.zero_le _, Nat.zero_le _⟩ dX10_isNearDay_3 (fun H locs v3 h3 hH hf => ?_)
  refine lv_aload_n hx hb dX10_isNearDay_6 rfl (lv_at hl 0 rfl) ?_
  refine lv_iload_n hx hb dX10_isNearDay_7 rfl (lv_at hl 2 rfl) ?_
  refine lv_iconst (v := (5 : Int32)) hx hb dX10_isNearDay_8 (by decide) ?_
  refine pg_Vi (As := [.int x2, .int (5 : Int32)]) C hH mi_X10_of vl_X10_281 (q := (RX10, TX10, 34)) (ci := 10) rfl rfl hf (fun _ e1 => (oO_sp e1).1) (fun _ _ e1 => c_X10_of e1) rfl rfl hl.1 (Nat.le_of_ble_eq_true rfl) ⟨Nat.le_of_ble_eq_true rfl, Nat.le_of_ble_eq_true rfl⟩ ⟨Nat.zero_le _, Nat.zero_le _⟩ dX10_isNearDay_9 (fun H locs v9 h9 hH hf => ?_)
  refine lv_isub hx hb dX10_isNearDay_12 ?_
  refine lv_istore_n (lv' := [(3, .int (v3 - v9)), (0, .ref (gB g + a0)), (1, .int x1), (2, .int x2)]) hx hb dX10_isNearDay_13 rfl hl (by decide) rfl (fun ls hl => ?_)
  refine lv_iload_n hx hb dX10_isNearDay_14 rfl (lv_at hl 0 rfl) ?_
  refine lv_aload_n hx hb dX10_isNearDay_15 rfl (lv_at hl 1 rfl) ?_
  refine pg_gR C hH fl_X10_13 hf dX10_isNearDay_16 (fun v16 hf => ?_)
  refine lv_bipush (v := (7 : Int32)) hx hb dX10_isNearDay_19 (by decide) ?_
  refine pg_aI C hH hf dX10_isNearDay_21 (fun v21 hf => ?_)
  refine lv_icmp_gt (tgt := 41) hx hb dX10_isNearDay_22 (by decide) (fun cn => ?_) (fun cn => ?_)
  · have hf := (if_pos cn).symm.trans hf
    refine lv_iconst (v := (0 : Int32)) hx hb dX10_isNearDay_41 (by decide) ?_
    exact pg_zret C hr hH hf dX10_isNearDay_42
  · have hf := (if_neg cn).symm.trans hf
    refine lv_iload_n hx hb dX10_isNearDay_25 rfl (lv_at hl 0 rfl) ?_
    refine lv_ineg hx hb dX10_isNearDay_26 ?_
    refine lv_aload_n hx hb dX10_isNearDay_27 rfl (lv_at hl 1 rfl) ?_
    refine pg_gR C hH fl_X10_13 hf dX10_isNearDay_28 (fun v28 hf => ?_)
    refine lv_bipush (v := (7 : Int32)) hx hb dX10_isNearDay_31 (by decide) ?_
    refine pg_aI C hH hf dX10_isNearDay_33 (fun v33 hf => ?_)
    refine lv_icmp_gt (tgt := 41) hx hb dX10_isNearDay_34 (by decide) (fun cn => ?_) (fun cn => ?_)
    · have hf := (if_pos cn).symm.trans hf
      refine lv_iconst (v := (0 : Int32)) hx hb dX10_isNearDay_41 (by decide) ?_
      exact pg_zret C hr hH hf dX10_isNearDay_42
    · have hf := (if_neg cn).symm.trans hf
      refine lv_iconst (v := (1 : Int32)) hx hb dX10_isNearDay_37 (by decide) ?_
      refine lv_goto (tgt := 42) hx hb dX10_isNearDay_38 (by decide) ?_
      exact pg_zret C hr hH hf dX10_isNearDay_42
set_option maxHeartbeats 4000000 in
set_option maxRecDepth 100000 in
theorem c_X10_likeSales {l : Launch} {g : GD} {h : PH} {a0 : Nat} {x1 : Int32} {x2 : Int32} {r : Int32} {h' : PH} (hf : mX10_likeSales h a0 x1 x2 = some (r, h')) : Met l yX10_likeSales (Cond.code yX10_likeSales cX10_likeSales 3 (some .int) :: TB) (rmD 2 0 0) (PcH g [.ref (gB g + a0), .int x1, .int x2] h) (QcI g r h') 0 0 (aB g) := by
  refine Met.ofW (cc := cX10_likeSales) (maxL := 3) (ret := some .int) (by decide) rfl ?_
  intro p e s m args below meth c s₁ B hml hv
  obtain ⟨rfl, hH0, hkk0⟩ := hv
  have C : CT g RX10 cX10_likeSales 3 (Cond.code yX10_likeSales cX10_likeSales 3 (some .int) :: TB) p s m _ meth c := pg_ct (Tw := []) B hml hH0 hkk0
  have hr := B.returns
  have hH : HS g s s.heap [] h := ⟨hH0, va_S.rf⟩
  have hl := lv_entry ([.ref (gB g + a0), .int x1, .int x2]) (n := 3) (Nat.le_of_ble_eq_true rfl)
  rw [lg_entry_eq]
  generalize (lg_sl ([.ref (gB g + a0), .int x1, .int x2]) ++ List.replicate (3 - (lg_sl ([.ref (gB g + a0), .int x1, .int x2])).length) Slot.unset).toArray = ls at hl ⊢
  have hl : lv_has ls 3 [(0, .ref (gB g + a0)), (1, .int x1), (2, .int x2)] := hl
  show W p l e (rmD 2 0 0) _ _ _ _ _ _ _ _ _ _ _ _
  unfold mX10_likeSales at hf
  obtain ⟨hO, hf⟩ := oO_sp hf
  obtain ⟨⟨hx, hb, hml, hown, hts⟩, htb, hlk, hkk, hbs⟩ := id C
  refine lv_aload_n hx hb dX10_likeSales_0 rfl (lv_at hl 0 rfl) ?_
  refine lv_aload_n hx hb dX10_likeSales_1 rfl (lv_at hl 0 rfl) ?_
  refine lv_iload_n hx hb dX10_likeSales_2 rfl (lv_at hl 1 rfl) ?_
  refine lv_iconst (v := (0 : Int32)) hx hb dX10_likeSales_3 (by decide) ?_
  refine pg_Vi (As := [.int x1, .int (0 : Int32)]) C hH mi_X10_of vl_X10_281 (q := (RX10, TX10, 34)) (ci := 10) rfl rfl hf (fun _ e1 => (oO_sp e1).1) (fun _ _ e1 => c_X10_of e1) rfl rfl hl.1 (Nat.le_of_ble_eq_true rfl) ⟨Nat.le_of_ble_eq_true rfl, Nat.le_of_ble_eq_true rfl⟩ ⟨Nat.zero_le _, Nat.zero_le _⟩ dX10_likeSales_4 (fun H locs v4 h4 hH hf => ?_)
  refine lv_aload_n hx hb dX10_likeSales_7 rfl (lv_at hl 0 rfl) ?_
  refine lv_iload_n hx hb dX10_likeSales_8 rfl (lv_at hl 2 rfl) ?_
  refine lv_iconst (v := (0 : Int32)) hx hb dX10_likeSales_9 (by decide) ?_
  refine pg_Vi (As := [.int x2, .int (0 : Int32)]) C hH mi_X10_of vl_X10_281 (q := (RX10, TX10, 34)) (ci := 10) rfl rfl hf (fun _ e1 => (oO_sp e1).1) (fun _ _ e1 => c_X10_of e1) rfl rfl hl.1 (Nat.le_of_ble_eq_true rfl) ⟨Nat.le_of_ble_eq_true rfl, Nat.le_of_ble_eq_true rfl⟩ ⟨Nat.zero_le _, Nat.zero_le _⟩ dX10_likeSales_10 (fun H locs v10 h10 hH hf => ?_)
  refine pg_Vi (As := [.int v4, .int v10]) C hH mi_X10_likeness vl_X10_301 (q := (RX10, TX10, 34)) (ci := 10) rfl rfl hf (fun _ e1 => (oO_sp e1).1) (fun _ _ e1 => c_X10_likeness e1) rfl rfl hl.1 (Nat.le_of_ble_eq_true rfl) ⟨Nat.le_of_ble_eq_true rfl, Nat.le_of_ble_eq_true rfl⟩ ⟨Nat.zero_le _, Nat.zero_le _⟩ dX10_likeSales_13 (fun H locs v13 h13 hH hf => ?_)
  exact pg_iret C hr hH hf dX10_likeSales_16
set_option maxHeartbeats 4000000 in
set_option maxRecDepth 100000 in
theorem c_X10_brought {l : Launch} {g : GD} {h : PH} {a0 : Nat} {x1 : Int32} {x2 : Int32} {r : Int64} {h' : PH} (hf : mX10_brought h a0 x1 x2 = some (r, h')) : Met l yX10_brought (Cond.code yX10_brought cX10_brought 3 (some .long) :: TB) (rmD 7 0 0) (PcH g [.ref (gB g + a0), .int x1, .int x2] h) (QcL g r h') 0 0 (aB g) := by
  refine Met.ofW (cc := cX10_brought) (maxL := 3) (ret := some .long) (by decide) rfl ?_
  intro p e s m args below meth c s₁ B hml hv
  obtain ⟨rfl, hH0, hkk0⟩ := hv
  have C : CT g RX10 cX10_brought 3 (Cond.code yX10_brought cX10_brought 3 (some .long) :: TB) p s m _ meth c := pg_ct (Tw := []) B hml hH0 hkk0
  have hr := B.returns
  have hH : HS g s s.heap [] h := ⟨hH0, va_S.rf⟩
  have hl := lv_entry ([.ref (gB g + a0), .int x1, .int x2]) (n := 3) (Nat.le_of_ble_eq_true rfl)
  rw [lg_entry_eq]
  generalize (lg_sl ([.ref (gB g + a0), .int x1, .int x2]) ++ List.replicate (3 - (lg_sl ([.ref (gB g + a0), .int x1, .int x2])).length) Slot.unset).toArray = ls at hl ⊢
  have hl : lv_has ls 3 [(0, .ref (gB g + a0)), (1, .int x1), (2, .int x2)] := hl
  show W p l e (rmD 7 0 0) _ _ _ _ _ _ _ _ _ _ _ _
  unfold mX10_brought at hf
  obtain ⟨hO, hf⟩ := oO_sp hf
  obtain ⟨⟨hx, hb, hml, hown, hts⟩, htb, hlk, hkk, hbs⟩ := id C
  refine lv_aload_n hx hb dX10_brought_0 rfl (lv_at hl 0 rfl) ?_
  refine lv_iload_n hx hb dX10_brought_1 rfl (lv_at hl 2 rfl) ?_
  refine pg_Vl (As := [.int x2]) C hH mi_X10_ownOf vl_X10_335 (q := (RX10, TX10, 34)) (ci := 10) rfl rfl hf (fun _ e1 => (oO_sp e1).1) (fun _ _ e1 => c_X10_ownOf e1) rfl rfl hl.1 (Nat.le_of_ble_eq_true rfl) ⟨Nat.le_of_ble_eq_true rfl, Nat.le_of_ble_eq_true rfl⟩ ⟨Nat.zero_le _, Nat.zero_le _⟩ dX10_brought_2 (fun H locs v2 h2 hH hf => ?_)
  refine lv_aload_n hx hb dX10_brought_5 rfl (lv_at hl 0 rfl) ?_
  refine lv_iload_n hx hb dX10_brought_6 rfl (lv_at hl 1 rfl) ?_
  refine lv_iconst (v := (3 : Int32)) hx hb dX10_brought_7 (by decide) ?_
  refine pg_Vi (As := [.int x1, .int (3 : Int32)]) C hH mi_X10_of vl_X10_281 (q := (RX10, TX10, 34)) (ci := 10) rfl rfl hf (fun _ e1 => (oO_sp e1).1) (fun _ _ e1 => c_X10_of e1) rfl rfl hl.1 (Nat.le_of_ble_eq_true rfl) ⟨Nat.le_of_ble_eq_true rfl, Nat.le_of_ble_eq_true rfl⟩ ⟨Nat.zero_le _, Nat.zero_le _⟩ dX10_brought_8 (fun H locs v8 h8 hH hf => ?_)
  refine lv_i2l (v := (Int32.toInt64 v8)) hx hb dX10_brought_11 rfl ?_
  refine lv_lmul hx hb dX10_brought_12 ?_
  refine lv_bipush (v := (100 : Int32)) hx hb dX10_brought_13 (by decide) ?_
  refine lv_aload_n hx hb dX10_brought_15 rfl (lv_at hl 0 rfl) ?_
  refine lv_iload_n hx hb dX10_brought_16 rfl (lv_at hl 1 rfl) ?_
  refine pg_Vi (As := [.int x1]) C hH mi_X10_lessOf vl_X10_341 (q := (RX10, TX10, 34)) (ci := 10) rfl rfl hf (fun _ e1 => (oO_sp e1).1) (fun _ _ e1 => c_X10_lessOf e1) rfl rfl hl.1 (Nat.le_of_ble_eq_true rfl) ⟨Nat.le_of_ble_eq_true rfl, Nat.le_of_ble_eq_true rfl⟩ ⟨Nat.zero_le _, Nat.zero_le _⟩ dX10_brought_17 (fun H locs v17 h17 hH hf => ?_)
  refine lv_isub hx hb dX10_brought_20 ?_
  refine lv_i2l (v := (Int32.toInt64 ((100 : Int32) - v17))) hx hb dX10_brought_21 rfl ?_
  refine lv_lmul hx hb dX10_brought_22 ?_
  refine lv_aload_n hx hb dX10_brought_23 rfl (lv_at hl 0 rfl) ?_
  refine lv_iload_n hx hb dX10_brought_24 rfl (lv_at hl 2 rfl) ?_
  refine lv_iconst (v := (3 : Int32)) hx hb dX10_brought_25 (by decide) ?_
  refine pg_Vi (As := [.int x2, .int (3 : Int32)]) C hH mi_X10_of vl_X10_281 (q := (RX10, TX10, 34)) (ci := 10) rfl rfl hf (fun _ e1 => (oO_sp e1).1) (fun _ _ e1 => c_X10_of e1) rfl rfl hl.1 (Nat.le_of_ble_eq_true rfl) ⟨Nat.le_of_ble_eq_true rfl, Nat.le_of_ble_eq_true rfl⟩ ⟨Nat.zero_le _, Nat.zero_le _⟩ dX10_brought_26 (fun H locs v26 h26 hH hf => ?_)
  refine lv_i2l (v := (Int32.toInt64 v26)) hx hb dX10_brought_29 rfl ?_
  refine lv_bipush (v := (100 : Int32)) hx hb dX10_brought_30 (by decide) ?_
  refine lv_aload_n hx hb dX10_brought_32 rfl (lv_at hl 0 rfl) ?_
  refine lv_iload_n hx hb dX10_brought_33 rfl (lv_at hl 2 rfl) ?_
  refine pg_Vi (As := [.int x2]) C hH mi_X10_lessOf vl_X10_341 (q := (RX10, TX10, 34)) (ci := 10) rfl rfl hf (fun _ e1 => (oO_sp e1).1) (fun _ _ e1 => c_X10_lessOf e1) rfl rfl hl.1 (Nat.le_of_ble_eq_true rfl) ⟨Nat.le_of_ble_eq_true rfl, Nat.le_of_ble_eq_true rfl⟩ ⟨Nat.zero_le _, Nat.zero_le _⟩ dX10_brought_34 (fun H locs v34 h34 hH hf => ?_)
  refine lv_isub hx hb dX10_brought_37 ?_
  refine lv_i2l (v := (Int32.toInt64 ((100 : Int32) - v34))) hx hb dX10_brought_38 rfl ?_
  refine lv_lmul hx hb dX10_brought_39 ?_
  obtain ⟨hz40, hf⟩ := dz_sp hf
  refine lv_ldiv hx hb dX10_brought_40 hz40 ?_
  exact pg_lret C hr hH hf dX10_brought_41
set_option maxHeartbeats 4000000 in
set_option maxRecDepth 100000 in
theorem c_X10_adds {l : Launch} {g : GD} {h : PH} {a0 : Nat} {x1 : Int64} {h' : PH} (hf : mX10_adds h a0 x1 = some h') : Met l yX10_adds (Cond.code yX10_adds cX10_adds 3 (none) :: TB) (rmD 0 0 0) (PcH g [.ref (gB g + a0), .long x1] h) (QcV g h') 0 0 (aB g) := by
  refine Met.ofW (cc := cX10_adds) (maxL := 3) (ret := none) (by decide) rfl ?_
  intro p e s m args below meth c s₁ B hml hv
  obtain ⟨rfl, hH0, hkk0⟩ := hv
  have C : CT g RX10 cX10_adds 3 (Cond.code yX10_adds cX10_adds 3 (none) :: TB) p s m _ meth c := pg_ct (Tw := []) B hml hH0 hkk0
  have hr := B.returns
  have hH : HS g s s.heap [] h := ⟨hH0, va_S.rf⟩
  have hl := lv_entry ([.ref (gB g + a0), .long x1]) (n := 3) (Nat.le_of_ble_eq_true rfl)
  rw [lg_entry_eq]
  generalize (lg_sl ([.ref (gB g + a0), .long x1]) ++ List.replicate (3 - (lg_sl ([.ref (gB g + a0), .long x1])).length) Slot.unset).toArray = ls at hl ⊢
  have hl : lv_has ls 3 [(0, .ref (gB g + a0)), (1, .long x1)] := hl
  show W p l e (rmD 0 0 0) _ _ _ _ _ _ _ _ _ _ _ _
  unfold mX10_adds at hf
  obtain ⟨hO, hf⟩ := oO_sp hf
  obtain ⟨⟨hx, hb, hml, hown, hts⟩, htb, hlk, hkk, hbs⟩ := id C
  refine lv_lload_n hx hb dX10_adds_0 rfl (lv_at hl 1 rfl) ?_
  refine lv_lconst (v := (0 : Int64)) hx hb dX10_adds_1 (by decide) ?_
  refine W.lcmp hx hb dX10_adds_2 ?_
  refine lv_if_lt (tgt := 26) hx hb dX10_adds_3 (by decide) (fun cn => ?_) (fun cn => ?_)
  · have hf := (if_pos ((lg_cmp_lt _ _).mp cn)).symm.trans hf
    exact pg_vret C hr hH hf dX10_adds_26
  · have hf := (if_neg (fun z => cn ((lg_cmp_lt _ _).mpr z))).symm.trans hf
    refine lv_aload_n hx hb dX10_adds_6 rfl (lv_at hl 0 rfl) ?_
    refine pg_gR C hH fl_X10_50 hf dX10_adds_7 (fun v7 hf => ?_)
    refine lv_aload_n hx hb dX10_adds_10 rfl (lv_at hl 0 rfl) ?_
    refine pg_gI C hH fl_X10_344 hf dX10_adds_11 (fun v11 hf => ?_)
    refine lv_lload_n hx hb dX10_adds_14 rfl (lv_at hl 1 rfl) ?_
    refine pg_sL C hH hf dX10_adds_15 (fun H locs h15 hH hf => ?_)
    refine lv_aload_n hx hb dX10_adds_16 rfl (lv_at hl 0 rfl) ?_
    refine lv_dup hx hb dX10_adds_17 rfl ?_
    refine pg_gI C hH fl_X10_344 hf dX10_adds_18 (fun v18 hf => ?_)
    refine lv_iconst (v := (1 : Int32)) hx hb dX10_adds_21 (by decide) ?_
    refine lv_iadd hx hb dX10_adds_22 ?_
    refine pg_pI C hH fl_X10_344 fm_10_27 hf dX10_adds_23 (fun H locs h23 hH hf => ?_)
    exact pg_vret C hr hH hf dX10_adds_26
set_option maxHeartbeats 4000000 in
set_option maxRecDepth 100000 in
theorem c_X10_row {l : Launch} {g : GD} {h : PH} {a0 : Nat} {x1 : Int32} {x2 : Int32} {r : Int32} {h' : PH} (hf : mX10_row h a0 x1 x2 = some (r, h')) : Met l yX10_row (Cond.code yX10_row cX10_row 3 (some .int) :: TB) (rmD 0 0 0) (PcH g [.ref (gB g + a0), .int x1, .int x2] h) (QcI g r h') 0 0 (aB g) := by
  refine Met.ofW (cc := cX10_row) (maxL := 3) (ret := some .int) (by decide) rfl ?_
  intro p e s m args below meth c s₁ B hml hv
  obtain ⟨rfl, hH0, hkk0⟩ := hv
  have C : CT g RX10 cX10_row 3 (Cond.code yX10_row cX10_row 3 (some .int) :: TB) p s m _ meth c := pg_ct (Tw := []) B hml hH0 hkk0
  have hr := B.returns
  have hH : HS g s s.heap [] h := ⟨hH0, va_S.rf⟩
  have hl := lv_entry ([.ref (gB g + a0), .int x1, .int x2]) (n := 3) (Nat.le_of_ble_eq_true rfl)
  rw [lg_entry_eq]
  generalize (lg_sl ([.ref (gB g + a0), .int x1, .int x2]) ++ List.replicate (3 - (lg_sl ([.ref (gB g + a0), .int x1, .int x2])).length) Slot.unset).toArray = ls at hl ⊢
  have hl : lv_has ls 3 [(0, .ref (gB g + a0)), (1, .int x1), (2, .int x2)] := hl
  show W p l e (rmD 0 0 0) _ _ _ _ _ _ _ _ _ _ _ _
  unfold mX10_row at hf
  obtain ⟨hO, hf⟩ := oO_sp hf
  obtain ⟨⟨hx, hb, hml, hown, hts⟩, htb, hlk, hkk, hbs⟩ := id C
  refine lv_aload_n hx hb dX10_row_0 rfl (lv_at hl 0 rfl) ?_
  refine pg_gR C hH fl_X10_13 hf dX10_row_1 (fun v1 hf => ?_)
  refine lv_sipush (v := (176 : Int32)) hx hb dX10_row_4 (by decide) ?_
  refine lv_iconst (v := (4 : Int32)) hx hb dX10_row_7 (by decide) ?_
  refine lv_iload_n hx hb dX10_row_8 rfl (lv_at hl 1 rfl) ?_
  refine lv_imul hx hb dX10_row_9 ?_
  refine lv_iadd hx hb dX10_row_10 ?_
  refine lv_iload_n hx hb dX10_row_11 rfl (lv_at hl 2 rfl) ?_
  refine lv_iadd hx hb dX10_row_12 ?_
  refine pg_aI C hH hf dX10_row_13 (fun v13 hf => ?_)
  exact pg_iret C hr hH hf dX10_row_14
set_option maxHeartbeats 4000000 in
set_option maxRecDepth 100000 in
theorem c_X10_isRowFor {l : Launch} {g : GD} {h : PH} {a0 : Nat} {x1 : Int32} {x2 : Int32} {x3 : Int32} {r : Int32} {h' : PH} (hf : mX10_isRowFor h a0 x1 x2 x3 = some (r, h')) : Met l yX10_isRowFor (Cond.code yX10_isRowFor cX10_isRowFor 5 (some .boolean) :: TB) (rmD 2 0 0) (PcH g [.ref (gB g + a0), .int x1, .int x2, .int x3] h) (QcI g r h') 0 0 (aB g) := by
  refine Met.ofW (cc := cX10_isRowFor) (maxL := 5) (ret := some .boolean) (by decide) rfl ?_
  intro p e s m args below meth c s₁ B hml hv
  obtain ⟨rfl, hH0, hkk0⟩ := hv
  have C : CT g RX10 cX10_isRowFor 5 (Cond.code yX10_isRowFor cX10_isRowFor 5 (some .boolean) :: TB) p s m _ meth c := pg_ct (Tw := []) B hml hH0 hkk0
  have hr := B.returns
  have hH : HS g s s.heap [] h := ⟨hH0, va_S.rf⟩
  have hl := lv_entry ([.ref (gB g + a0), .int x1, .int x2, .int x3]) (n := 5) (Nat.le_of_ble_eq_true rfl)
  rw [lg_entry_eq]
  generalize (lg_sl ([.ref (gB g + a0), .int x1, .int x2, .int x3]) ++ List.replicate (5 - (lg_sl ([.ref (gB g + a0), .int x1, .int x2, .int x3])).length) Slot.unset).toArray = ls at hl ⊢
  have hl : lv_has ls 5 [(0, .ref (gB g + a0)), (1, .int x1), (2, .int x2), (3, .int x3)] := hl
  show W p l e (rmD 2 0 0) _ _ _ _ _ _ _ _ _ _ _ _
  unfold mX10_isRowFor at hf
  obtain ⟨hO, hf⟩ := oO_sp hf
  obtain ⟨⟨hx, hb, hml, hown, hts⟩, htb, hlk, hkk, hbs⟩ := id C
  refine lv_aload_n hx hb dX10_isRowFor_0 rfl (lv_at hl 0 rfl) ?_
  refine lv_iload_n hx hb dX10_isRowFor_1 rfl (lv_at hl 2 rfl) ?_
  refine lv_iconst (v := (3 : Int32)) hx hb dX10_isRowFor_2 (by decide) ?_
  refine pg_Vi (As := [.int x2, .int (3 : Int32)]) C hH mi_X10_row vl_X10_394 (q := (RX10, TX10, 34)) (ci := 10) rfl rfl hf (fun _ e1 => (oO_sp e1).1) (fun _ _ e1 => c_X10_row e1) rfl rfl hl.1 (Nat.le_of_ble_eq_true rfl) ⟨Nat.le_of_ble_eq_true rfl, Nat.le_of_ble_eq_true rfl⟩ ⟨Nat.zero_le _, Nat.zero_le _⟩ dX10_isRowFor_3 (fun H locs v3 h3 hH hf => ?_)
  refine lv_aload_n hx hb dX10_isRowFor_6 rfl (lv_at hl 0 rfl) ?_
  refine lv_iload_n hx hb dX10_isRowFor_7 rfl (lv_at hl 1 rfl) ?_
  refine lv_iconst (v := (5 : Int32)) hx hb dX10_isRowFor_8 (by decide) ?_
  refine pg_Vi (As := [.int x1, .int (5 : Int32)]) C hH mi_X10_of vl_X10_281 (q := (RX10, TX10, 34)) (ci := 10) rfl rfl hf (fun _ e1 => (oO_sp e1).1) (fun _ _ e1 => c_X10_of e1) rfl rfl hl.1 (Nat.le_of_ble_eq_true rfl) ⟨Nat.le_of_ble_eq_true rfl, Nat.le_of_ble_eq_true rfl⟩ ⟨Nat.zero_le _, Nat.zero_le _⟩ dX10_isRowFor_9 (fun H locs v9 h9 hH hf => ?_)
  refine lv_isub hx hb dX10_isRowFor_12 ?_
  refine lv_istore (lv' := [(4, .int (v3 - v9)), (0, .ref (gB g + a0)), (1, .int x1), (2, .int x2), (3, .int x3)]) hx hb dX10_isRowFor_13 hl (by decide) rfl (fun ls hl => ?_)
  refine lv_aload_n hx hb dX10_isRowFor_15 rfl (lv_at hl 1 rfl) ?_
  refine lv_aload_n hx hb dX10_isRowFor_16 rfl (lv_at hl 1 rfl) ?_
  refine lv_iload_n hx hb dX10_isRowFor_17 rfl (lv_at hl 2 rfl) ?_
  refine lv_iconst (v := (0 : Int32)) hx hb dX10_isRowFor_18 (by decide) ?_
  refine pg_Vi (As := [.int x1, .int (0 : Int32)]) C hH mi_X10_of vl_X10_281 (q := (RX10, TX10, 34)) (ci := 10) rfl rfl hf (fun _ e1 => (oO_sp e1).1) (fun _ _ e1 => c_X10_of e1) rfl rfl hl.1 (Nat.le_of_ble_eq_true rfl) ⟨Nat.le_of_ble_eq_true rfl, Nat.le_of_ble_eq_true rfl⟩ ⟨Nat.zero_le _, Nat.zero_le _⟩ dX10_isRowFor_19 (fun H locs v19 h19 hH hf => ?_)
  refine lv_aload_n hx hb dX10_isRowFor_22 rfl (lv_at hl 1 rfl) ?_
  refine lv_iload_n hx hb dX10_isRowFor_23 rfl (lv_at hl 3 rfl) ?_
  refine lv_iconst (v := (0 : Int32)) hx hb dX10_isRowFor_24 (by decide) ?_
  refine pg_Vi (As := [.int x2, .int (0 : Int32)]) C hH mi_X10_row vl_X10_394 (q := (RX10, TX10, 34)) (ci := 10) rfl rfl hf (fun _ e1 => (oO_sp e1).1) (fun _ _ e1 => c_X10_row e1) rfl rfl hl.1 (Nat.le_of_ble_eq_true rfl) ⟨Nat.le_of_ble_eq_true rfl, Nat.le_of_ble_eq_true rfl⟩ ⟨Nat.zero_le _, Nat.zero_le _⟩ dX10_isRowFor_25 (fun H locs v25 h25 hH hf => ?_)
  refine pg_Vi (As := [.int v19, .int v25]) C hH mi_X10_likeness vl_X10_301 (q := (RX10, TX10, 34)) (ci := 10) rfl rfl hf (fun _ e1 => (oO_sp e1).1) (fun _ _ e1 => c_X10_likeness e1) rfl rfl hl.1 (Nat.le_of_ble_eq_true rfl) ⟨Nat.le_of_ble_eq_true rfl, Nat.le_of_ble_eq_true rfl⟩ ⟨Nat.zero_le _, Nat.zero_le _⟩ dX10_isRowFor_28 (fun H locs v28 h28 hH hf => ?_)
  refine lv_iload_n hx hb dX10_isRowFor_31 rfl (lv_at hl 4 rfl) ?_
  refine lv_icmp_ne (tgt := 58) hx hb dX10_isRowFor_32 (by decide) (fun cn => ?_) (fun cn => ?_)
  · have hf := (if_neg cn).symm.trans hf
    refine lv_iconst (v := (0 : Int32)) hx hb dX10_isRowFor_58 (by decide) ?_
    exact pg_zret C hr hH hf dX10_isRowFor_59
  · have hf := (if_pos cn).symm.trans hf
    refine lv_iload hx hb dX10_isRowFor_35 (lv_at hl 0 rfl) ?_
    refine lv_if_lt (tgt := 58) hx hb dX10_isRowFor_37 (by decide) (fun cn => ?_) (fun cn => ?_)
    · have hf := (if_pos cn).symm.trans hf
      refine lv_iconst (v := (0 : Int32)) hx hb dX10_isRowFor_58 (by decide) ?_
      exact pg_zret C hr hH hf dX10_isRowFor_59
    · have hf := (if_neg cn).symm.trans hf
      refine lv_iload hx hb dX10_isRowFor_40 (lv_at hl 0 rfl) ?_
      refine lv_iconst (v := (3 : Int32)) hx hb dX10_isRowFor_42 (by decide) ?_
      refine lv_aload_n hx hb dX10_isRowFor_43 rfl (lv_at hl 1 rfl) ?_
      refine pg_gR C hH fl_X10_13 hf dX10_isRowFor_44 (fun v44 hf => ?_)
      refine lv_bipush (v := (7 : Int32)) hx hb dX10_isRowFor_47 (by decide) ?_
      refine pg_aI C hH hf dX10_isRowFor_49 (fun v49 hf => ?_)
      refine lv_imul hx hb dX10_isRowFor_50 ?_
      refine lv_icmp_gt (tgt := 58) hx hb dX10_isRowFor_51 (by decide) (fun cn => ?_) (fun cn => ?_)
      · have hf := (if_pos cn).symm.trans hf
        refine lv_iconst (v := (0 : Int32)) hx hb dX10_isRowFor_58 (by decide) ?_
        exact pg_zret C hr hH hf dX10_isRowFor_59
      · have hf := (if_neg cn).symm.trans hf
        refine lv_iconst (v := (1 : Int32)) hx hb dX10_isRowFor_54 (by decide) ?_
        refine lv_goto (tgt := 59) hx hb dX10_isRowFor_55 (by decide) ?_
        exact pg_zret C hr hH hf dX10_isRowFor_59
set_option maxHeartbeats 4000000 in
set_option maxRecDepth 100000 in
theorem wX10_piecesAt_b6 {r6 : PH → Nat → Int32 → Int32 → Int32 → Int32 → Int32 → Option (Int32 × PH)} {r : Int32} {h' : PH} (C : CT g RX10 cX10_piecesAt 6 (Cond.code yX10_piecesAt cX10_piecesAt 6 (some .int) :: TB) p s m args meth c) (hr : meth.sig.returnType = some .int) (k6 : ∀ {h : PH} {a0 : Nat} {x1 : Int32} {x2 : Int32} {x3 : Int32} {x4 : Int32} {x5 : Int32} {H : Heap} {locs : List Loc} {ls : Array Slot}, HS g s H locs h → r6 h a0 x1 x2 x3 x4 x5 = some (r, h') → lv_has ls 6 [(0, .ref (gB g + a0)), (1, .int x1), (2, .int x2), (3, .int x3), (4, .int x4), (5, .int x5)] → W p l e (rmD 3 0 0) s m args below meth c H locs 0 0 (MQ below (QcI g r h') args s 0 0 (aB g)) (F0 m 6 ls [])) {h : PH} {a0 : Nat} {x1 : Int32} {x2 : Int32} {x3 : Int32} {x4 : Int32} {x5 : Int32} {H : Heap} {locs : List Loc} {ls : Array Slot} (hH : HS g s H locs h) (hf : mX10_piecesAt_b6 r6 h a0 x1 x2 x3 x4 x5 = some (r, h')) (hl : lv_has ls 6 [(0, .ref (gB g + a0)), (1, .int x1), (2, .int x2), (3, .int x3), (4, .int x4), (5, .int x5)]) : W p l e (rmD 3 0 0) s m args below meth c H locs 0 0 (MQ below (QcI g r h') args s 0 0 (aB g)) (F0 m 6 ls []) := by
  obtain ⟨⟨hx, hb, hml, hown, hts⟩, htb, hlk, hkk, hbs⟩ := id C
  unfold mX10_piecesAt_b6 at hf
  refine lv_iload hx hb dX10_piecesAt_6 (lv_at hl 5 rfl) ?_
  refine lv_aload_n hx hb dX10_piecesAt_8 rfl (lv_at hl 0 rfl) ?_
  refine pg_gR C hH fl_X10_13 hf dX10_piecesAt_9 (fun v9 hf => ?_)
  refine lv_iconst (v := (4 : Int32)) hx hb dX10_piecesAt_12 (by decide) ?_
  refine pg_aI C hH hf dX10_piecesAt_13 (fun v13 hf => ?_)
  refine lv_icmp_ge (tgt := 61) hx hb dX10_piecesAt_14 (by decide) (fun cn => ?_) (fun cn => ?_)
  · have hf := (if_pos cn).symm.trans hf
    refine lv_iload hx hb dX10_piecesAt_61 (lv_at hl 4 rfl) ?_
    exact pg_iret C hr hH hf dX10_piecesAt_63
  · have hf := (if_neg cn).symm.trans hf
    refine lv_iload hx hb dX10_piecesAt_17 (lv_at hl 4 rfl) ?_
    refine lv_aload_n hx hb dX10_piecesAt_19 rfl (lv_at hl 0 rfl) ?_
    refine lv_iload_n hx hb dX10_piecesAt_20 rfl (lv_at hl 1 rfl) ?_
    refine lv_iload hx hb dX10_piecesAt_21 (lv_at hl 5 rfl) ?_
    refine lv_iload_n hx hb dX10_piecesAt_23 rfl (lv_at hl 3 rfl) ?_
    refine pg_Vi (As := [.int x1, .int x5, .int x3]) C hH mi_X10_isRowFor vl_X10_397 (q := (RX10, TX10, 34)) (ci := 10) rfl rfl hf (fun _ e1 => (oO_sp e1).1) (fun _ _ e1 => c_X10_isRowFor e1) rfl rfl hl.1 (Nat.le_of_ble_eq_true rfl) ⟨Nat.le_of_ble_eq_true rfl, Nat.le_of_ble_eq_true rfl⟩ ⟨Nat.zero_le _, Nat.zero_le _⟩ dX10_piecesAt_24 (fun H locs v24 h24 hH hf => ?_)
    refine lv_if_eq (tgt := 51) hx hb dX10_piecesAt_27 (by decide) (fun cn => ?_) (fun cn => ?_)
    · have hf := (if_pos cn).symm.trans hf
      refine lv_iconst (v := (0 : Int32)) hx hb dX10_piecesAt_51 (by decide) ?_
      refine lv_iadd hx hb dX10_piecesAt_52 ?_
      refine lv_istore (lv' := [(4, .int (x4 + (0 : Int32))), (0, .ref (gB g + a0)), (1, .int x1), (2, .int x2), (3, .int x3), (5, .int x5)]) hx hb dX10_piecesAt_53 hl (by decide) rfl (fun ls hl => ?_)
      refine lv_iinc (v := (x5 + 1)) (lv' := [(5, .int (x5 + 1)), (4, .int (x4 + (0 : Int32))), (0, .ref (gB g + a0)), (1, .int x1), (2, .int x2), (3, .int x3)]) hx hb dX10_piecesAt_55 hl (k := 5) rfl rfl (by decide) rfl (fun ls hl => ?_)
      refine lv_goto (tgt := 6) hx hb dX10_piecesAt_58 (by decide) ?_
      exact k6 hH hf (lv_sub hl [2, 3, 4, 5, 1, 0] rfl)
    · have hf := (if_neg cn).symm.trans hf
      refine lv_aload_n hx hb dX10_piecesAt_30 rfl (lv_at hl 0 rfl) ?_
      refine lv_iload hx hb dX10_piecesAt_31 (lv_at hl 5 rfl) ?_
      refine lv_iconst (v := (2 : Int32)) hx hb dX10_piecesAt_33 (by decide) ?_
      refine pg_Vi (As := [.int x5, .int (2 : Int32)]) C hH mi_X10_row vl_X10_394 (q := (RX10, TX10, 34)) (ci := 10) rfl rfl hf (fun _ e1 => (oO_sp e1).1) (fun _ _ e1 => c_X10_row e1) rfl rfl hl.1 (Nat.le_of_ble_eq_true rfl) ⟨Nat.le_of_ble_eq_true rfl, Nat.le_of_ble_eq_true rfl⟩ ⟨Nat.zero_le _, Nat.zero_le _⟩ dX10_piecesAt_34 (fun H locs v34 h34 hH hf => ?_)
      refine lv_iload_n hx hb dX10_piecesAt_37 rfl (lv_at hl 2 rfl) ?_
      refine lv_icmp_ne (tgt := 51) hx hb dX10_piecesAt_38 (by decide) (fun cn => ?_) (fun cn => ?_)
      · have hf := (if_neg cn).symm.trans hf
        refine lv_iconst (v := (0 : Int32)) hx hb dX10_piecesAt_51 (by decide) ?_
        refine lv_iadd hx hb dX10_piecesAt_52 ?_
        refine lv_istore (lv' := [(4, .int (x4 + (0 : Int32))), (0, .ref (gB g + a0)), (1, .int x1), (2, .int x2), (3, .int x3), (5, .int x5)]) hx hb dX10_piecesAt_53 hl (by decide) rfl (fun ls hl => ?_)
        refine lv_iinc (v := (x5 + 1)) (lv' := [(5, .int (x5 + 1)), (4, .int (x4 + (0 : Int32))), (0, .ref (gB g + a0)), (1, .int x1), (2, .int x2), (3, .int x3)]) hx hb dX10_piecesAt_55 hl (k := 5) rfl rfl (by decide) rfl (fun ls hl => ?_)
        refine lv_goto (tgt := 6) hx hb dX10_piecesAt_58 (by decide) ?_
        exact k6 hH hf (lv_sub hl [2, 3, 4, 5, 1, 0] rfl)
      · have hf := (if_pos cn).symm.trans hf
        refine lv_aload_n hx hb dX10_piecesAt_41 rfl (lv_at hl 0 rfl) ?_
        refine lv_iload hx hb dX10_piecesAt_42 (lv_at hl 5 rfl) ?_
        refine lv_iconst (v := (1 : Int32)) hx hb dX10_piecesAt_44 (by decide) ?_
        refine pg_Vi (As := [.int x5, .int (1 : Int32)]) C hH mi_X10_row vl_X10_394 (q := (RX10, TX10, 34)) (ci := 10) rfl rfl hf (fun _ e1 => (oO_sp e1).1) (fun _ _ e1 => c_X10_row e1) rfl rfl hl.1 (Nat.le_of_ble_eq_true rfl) ⟨Nat.le_of_ble_eq_true rfl, Nat.le_of_ble_eq_true rfl⟩ ⟨Nat.zero_le _, Nat.zero_le _⟩ dX10_piecesAt_45 (fun H locs v45 h45 hH hf => ?_)
        refine lv_goto (tgt := 52) hx hb dX10_piecesAt_48 (by decide) ?_
        refine lv_iadd hx hb dX10_piecesAt_52 ?_
        refine lv_istore (lv' := [(4, .int (x4 + v45)), (0, .ref (gB g + a0)), (1, .int x1), (2, .int x2), (3, .int x3), (5, .int x5)]) hx hb dX10_piecesAt_53 hl (by decide) rfl (fun ls hl => ?_)
        refine lv_iinc (v := (x5 + 1)) (lv' := [(5, .int (x5 + 1)), (4, .int (x4 + v45)), (0, .ref (gB g + a0)), (1, .int x1), (2, .int x2), (3, .int x3)]) hx hb dX10_piecesAt_55 hl (k := 5) rfl rfl (by decide) rfl (fun ls hl => ?_)
        refine lv_goto (tgt := 6) hx hb dX10_piecesAt_58 (by decide) ?_
        exact k6 hH hf (lv_sub hl [2, 3, 4, 5, 1, 0] rfl)
set_option maxHeartbeats 4000000 in
set_option maxRecDepth 100000 in
theorem wX10_piecesAt_L6 {r : Int32} {h' : PH} (C : CT g RX10 cX10_piecesAt 6 (Cond.code yX10_piecesAt cX10_piecesAt 6 (some .int) :: TB) p s m args meth c) (hr : meth.sig.returnType = some .int) : ∀ (n : Nat) {h : PH} {a0 : Nat} {x1 : Int32} {x2 : Int32} {x3 : Int32} {x4 : Int32} {x5 : Int32} {H : Heap} {locs : List Loc} {ls : Array Slot}, HS g s H locs h → mX10_piecesAt_L6 n h a0 x1 x2 x3 x4 x5 = some (r, h') → lv_has ls 6 [(0, .ref (gB g + a0)), (1, .int x1), (2, .int x2), (3, .int x3), (4, .int x4), (5, .int x5)] → W p l e (rmD 3 0 0) s m args below meth c H locs 0 0 (MQ below (QcI g r h') args s 0 0 (aB g)) (F0 m 6 ls []) := by
  intro n
  induction n with
  | zero =>
    intro h a0 x1 x2 x3 x4 x5 H locs ls hH hf hl
    exact absurd hf (by intro z; cases z)
  | succ n ih =>
    intro h a0 x1 x2 x3 x4 x5 H locs ls hH hf hl
    have hf : mX10_piecesAt_b6 (mX10_piecesAt_L6 n) h a0 x1 x2 x3 x4 x5 = some (r, h') := hf
    exact wX10_piecesAt_b6 C hr (fun a b c => ih a b c) hH hf hl
set_option maxHeartbeats 4000000 in
set_option maxRecDepth 100000 in
theorem c_X10_piecesAt {l : Launch} {g : GD} {h : PH} {a0 : Nat} {x1 : Int32} {x2 : Int32} {x3 : Int32} {r : Int32} {h' : PH} (hf : mX10_piecesAt h a0 x1 x2 x3 = some (r, h')) : Met l yX10_piecesAt (Cond.code yX10_piecesAt cX10_piecesAt 6 (some .int) :: TB) (rmD 3 0 0) (PcH g [.ref (gB g + a0), .int x1, .int x2, .int x3] h) (QcI g r h') 0 0 (aB g) := by
  refine Met.ofW (cc := cX10_piecesAt) (maxL := 6) (ret := some .int) (by decide) rfl ?_
  intro p e s m args below meth c s₁ B hml hv
  obtain ⟨rfl, hH0, hkk0⟩ := hv
  have C : CT g RX10 cX10_piecesAt 6 (Cond.code yX10_piecesAt cX10_piecesAt 6 (some .int) :: TB) p s m _ meth c := pg_ct (Tw := []) B hml hH0 hkk0
  have hr := B.returns
  have hH : HS g s s.heap [] h := ⟨hH0, va_S.rf⟩
  have hl := lv_entry ([.ref (gB g + a0), .int x1, .int x2, .int x3]) (n := 6) (Nat.le_of_ble_eq_true rfl)
  rw [lg_entry_eq]
  generalize (lg_sl ([.ref (gB g + a0), .int x1, .int x2, .int x3]) ++ List.replicate (6 - (lg_sl ([.ref (gB g + a0), .int x1, .int x2, .int x3])).length) Slot.unset).toArray = ls at hl ⊢
  have hl : lv_has ls 6 [(0, .ref (gB g + a0)), (1, .int x1), (2, .int x2), (3, .int x3)] := hl
  show W p l e (rmD 3 0 0) _ _ _ _ _ _ _ _ _ _ _ _
  unfold mX10_piecesAt at hf
  obtain ⟨hO, hf⟩ := oO_sp hf
  obtain ⟨⟨hx, hb, hml, hown, hts⟩, htb, hlk, hkk, hbs⟩ := id C
  refine lv_iconst (v := (0 : Int32)) hx hb dX10_piecesAt_0 (by decide) ?_
  refine lv_istore (lv' := [(4, .int (0 : Int32)), (0, .ref (gB g + a0)), (1, .int x1), (2, .int x2), (3, .int x3)]) hx hb dX10_piecesAt_1 hl (by decide) rfl (fun ls hl => ?_)
  refine lv_iconst (v := (0 : Int32)) hx hb dX10_piecesAt_3 (by decide) ?_
  refine lv_istore (lv' := [(5, .int (0 : Int32)), (4, .int (0 : Int32)), (0, .ref (gB g + a0)), (1, .int x1), (2, .int x2), (3, .int x3)]) hx hb dX10_piecesAt_4 hl (by decide) rfl (fun ls hl => ?_)
  exact wX10_piecesAt_L6 C hr FU hH hf (lv_sub hl [2, 3, 4, 5, 1, 0] rfl)
set_option maxHeartbeats 4000000 in
set_option maxRecDepth 100000 in
theorem wX10_bestPrice_b8 {r8 : PH → Nat → Int32 → Int32 → Int32 → Int32 → Int32 → Option (Int32 × PH)} {r : Int32} {h' : PH} (C : CT g RX10 cX10_bestPrice 8 (Cond.code yX10_bestPrice cX10_bestPrice 8 (some .int) :: TB) p s m args meth c) (hr : meth.sig.returnType = some .int) (k8 : ∀ {h : PH} {a0 : Nat} {x1 : Int32} {x2 : Int32} {x3 : Int32} {x4 : Int32} {x5 : Int32} {H : Heap} {locs : List Loc} {ls : Array Slot}, HS g s H locs h → r8 h a0 x1 x2 x3 x4 x5 = some (r, h') → lv_has ls 8 [(0, .ref (gB g + a0)), (1, .int x1), (2, .int x2), (3, .int x3), (4, .int x4), (5, .int x5)] → W p l e (rmD 4 0 0) s m args below meth c H locs 0 0 (MQ below (QcI g r h') args s 0 0 (aB g)) (F0 m 8 ls [])) {h : PH} {a0 : Nat} {x1 : Int32} {x2 : Int32} {x3 : Int32} {x4 : Int32} {x5 : Int32} {H : Heap} {locs : List Loc} {ls : Array Slot} (hH : HS g s H locs h) (hf : mX10_bestPrice_b8 r8 h a0 x1 x2 x3 x4 x5 = some (r, h')) (hl : lv_has ls 8 [(0, .ref (gB g + a0)), (1, .int x1), (2, .int x2), (3, .int x3), (4, .int x4), (5, .int x5)]) : W p l e (rmD 4 0 0) s m args below meth c H locs 0 0 (MQ below (QcI g r h') args s 0 0 (aB g)) (F0 m 8 ls []) := by
  obtain ⟨⟨hx, hb, hml, hown, hts⟩, htb, hlk, hkk, hbs⟩ := id C
  unfold mX10_bestPrice_b8 at hf
  refine lv_iload hx hb dX10_bestPrice_8 (lv_at hl 5 rfl) ?_
  refine lv_aload_n hx hb dX10_bestPrice_10 rfl (lv_at hl 0 rfl) ?_
  refine pg_gR C hH fl_X10_13 hf dX10_bestPrice_11 (fun v11 hf => ?_)
  refine lv_iconst (v := (4 : Int32)) hx hb dX10_bestPrice_14 (by decide) ?_
  refine pg_aI C hH hf dX10_bestPrice_15 (fun v15 hf => ?_)
  refine lv_icmp_ge (tgt := 90) hx hb dX10_bestPrice_16 (by decide) (fun cn => ?_) (fun cn => ?_)
  · have hf := (if_pos cn).symm.trans hf
    refine lv_iload_n hx hb dX10_bestPrice_90 rfl (lv_at hl 3 rfl) ?_
    exact pg_iret C hr hH hf dX10_bestPrice_91
  · have hf := (if_neg cn).symm.trans hf
    refine lv_aload_n hx hb dX10_bestPrice_19 rfl (lv_at hl 0 rfl) ?_
    refine lv_iload_n hx hb dX10_bestPrice_20 rfl (lv_at hl 1 rfl) ?_
    refine lv_iload hx hb dX10_bestPrice_21 (lv_at hl 5 rfl) ?_
    refine lv_iload_n hx hb dX10_bestPrice_23 rfl (lv_at hl 2 rfl) ?_
    refine pg_Vi (As := [.int x1, .int x5, .int x2]) C hH mi_X10_isRowFor vl_X10_397 (q := (RX10, TX10, 34)) (ci := 10) rfl rfl hf (fun _ e1 => (oO_sp e1).1) (fun _ _ e1 => c_X10_isRowFor e1) rfl rfl hl.1 (Nat.le_of_ble_eq_true rfl) ⟨Nat.le_of_ble_eq_true rfl, Nat.le_of_ble_eq_true rfl⟩ ⟨Nat.zero_le _, Nat.zero_le _⟩ dX10_bestPrice_24 (fun H locs v24 h24 hH hf => ?_)
    refine lv_if_ne (tgt := 33) hx hb dX10_bestPrice_27 (by decide) (fun cn => ?_) (fun cn => ?_)
    · have hf := (if_neg cn).symm.trans hf
      refine lv_aload_n hx hb dX10_bestPrice_33 rfl (lv_at hl 0 rfl) ?_
      refine lv_iload hx hb dX10_bestPrice_34 (lv_at hl 5 rfl) ?_
      refine lv_iconst (v := (2 : Int32)) hx hb dX10_bestPrice_36 (by decide) ?_
      refine pg_Vi (As := [.int x5, .int (2 : Int32)]) C hH mi_X10_row vl_X10_394 (q := (RX10, TX10, 34)) (ci := 10) rfl rfl hf (fun _ e1 => (oO_sp e1).1) (fun _ _ e1 => c_X10_row e1) rfl rfl hl.1 (Nat.le_of_ble_eq_true rfl) ⟨Nat.le_of_ble_eq_true rfl, Nat.le_of_ble_eq_true rfl⟩ ⟨Nat.zero_le _, Nat.zero_le _⟩ dX10_bestPrice_37 (fun H locs v37 h37 hH hf => ?_)
      refine lv_istore (lv' := [(6, .int v37), (0, .ref (gB g + a0)), (1, .int x1), (2, .int x2), (3, .int x3), (4, .int x4), (5, .int x5)]) hx hb dX10_bestPrice_40 hl (by decide) rfl (fun ls hl => ?_)
      refine lv_aload_n hx hb dX10_bestPrice_42 rfl (lv_at hl 1 rfl) ?_
      refine lv_iload_n hx hb dX10_bestPrice_43 rfl (lv_at hl 2 rfl) ?_
      refine lv_iload hx hb dX10_bestPrice_44 (lv_at hl 0 rfl) ?_
      refine lv_iload_n hx hb dX10_bestPrice_46 rfl (lv_at hl 3 rfl) ?_
      refine pg_Vi (As := [.int x1, .int v37, .int x2]) C hH mi_X10_piecesAt vl_X10_400 (q := (RX10, TX10, 34)) (ci := 10) rfl rfl hf (fun _ e1 => (oO_sp e1).1) (fun _ _ e1 => c_X10_piecesAt e1) rfl rfl hl.1 (Nat.le_of_ble_eq_true rfl) ⟨Nat.le_of_ble_eq_true rfl, Nat.le_of_ble_eq_true rfl⟩ ⟨Nat.zero_le _, Nat.zero_le _⟩ dX10_bestPrice_47 (fun H locs v47 h47 hH hf => ?_)
      refine lv_istore (lv' := [(7, .int v47), (6, .int v37), (0, .ref (gB g + a0)), (1, .int x1), (2, .int x2), (3, .int x3), (4, .int x4), (5, .int x5)]) hx hb dX10_bestPrice_50 hl (by decide) rfl (fun ls hl => ?_)
      refine lv_iload_n hx hb dX10_bestPrice_52 rfl (lv_at hl 5 rfl) ?_
      refine lv_iconst (v := (-1 : Int32)) hx hb dX10_bestPrice_53 (by decide) ?_
      refine lv_icmp_eq (tgt := 77) hx hb dX10_bestPrice_54 (by decide) (fun cn => ?_) (fun cn => ?_)
      · have hf := (if_pos cn).symm.trans hf
        refine lv_iload hx hb dX10_bestPrice_77 (lv_at hl 1 rfl) ?_
        refine lv_istore_n (lv' := [(3, .int v37), (7, .int v47), (6, .int v37), (0, .ref (gB g + a0)), (1, .int x1), (2, .int x2), (4, .int x4), (5, .int x5)]) hx hb dX10_bestPrice_79 rfl hl (by decide) rfl (fun ls hl => ?_)
        refine lv_iload hx hb dX10_bestPrice_80 (lv_at hl 1 rfl) ?_
        refine lv_istore (lv' := [(4, .int v47), (3, .int v37), (7, .int v47), (6, .int v37), (0, .ref (gB g + a0)), (1, .int x1), (2, .int x2), (5, .int x5)]) hx hb dX10_bestPrice_82 hl (by decide) rfl (fun ls hl => ?_)
        refine lv_iinc (v := (x5 + 1)) (lv' := [(5, .int (x5 + 1)), (4, .int v47), (3, .int v37), (7, .int v47), (6, .int v37), (0, .ref (gB g + a0)), (1, .int x1), (2, .int x2)]) hx hb dX10_bestPrice_84 hl (k := 7) rfl rfl (by decide) rfl (fun ls hl => ?_)
        refine lv_goto (tgt := 8) hx hb dX10_bestPrice_87 (by decide) ?_
        exact k8 hH hf (lv_sub hl [5, 6, 7, 2, 1, 0] rfl)
      · have hf := (if_neg cn).symm.trans hf
        refine lv_iload hx hb dX10_bestPrice_57 (lv_at hl 0 rfl) ?_
        refine lv_iload hx hb dX10_bestPrice_59 (lv_at hl 6 rfl) ?_
        refine lv_icmp_gt (tgt := 77) hx hb dX10_bestPrice_61 (by decide) (fun cn => ?_) (fun cn => ?_)
        · have hf := (if_pos cn).symm.trans hf
          refine lv_iload hx hb dX10_bestPrice_77 (lv_at hl 1 rfl) ?_
          refine lv_istore_n (lv' := [(3, .int v37), (7, .int v47), (6, .int v37), (0, .ref (gB g + a0)), (1, .int x1), (2, .int x2), (4, .int x4), (5, .int x5)]) hx hb dX10_bestPrice_79 rfl hl (by decide) rfl (fun ls hl => ?_)
          refine lv_iload hx hb dX10_bestPrice_80 (lv_at hl 1 rfl) ?_
          refine lv_istore (lv' := [(4, .int v47), (3, .int v37), (7, .int v47), (6, .int v37), (0, .ref (gB g + a0)), (1, .int x1), (2, .int x2), (5, .int x5)]) hx hb dX10_bestPrice_82 hl (by decide) rfl (fun ls hl => ?_)
          refine lv_iinc (v := (x5 + 1)) (lv' := [(5, .int (x5 + 1)), (4, .int v47), (3, .int v37), (7, .int v47), (6, .int v37), (0, .ref (gB g + a0)), (1, .int x1), (2, .int x2)]) hx hb dX10_bestPrice_84 hl (k := 7) rfl rfl (by decide) rfl (fun ls hl => ?_)
          refine lv_goto (tgt := 8) hx hb dX10_bestPrice_87 (by decide) ?_
          exact k8 hH hf (lv_sub hl [5, 6, 7, 2, 1, 0] rfl)
        · have hf := (if_neg cn).symm.trans hf
          refine lv_iload hx hb dX10_bestPrice_64 (lv_at hl 0 rfl) ?_
          refine lv_iload hx hb dX10_bestPrice_66 (lv_at hl 6 rfl) ?_
          refine lv_icmp_ne (tgt := 84) hx hb dX10_bestPrice_68 (by decide) (fun cn => ?_) (fun cn => ?_)
          · have hf := (if_neg cn).symm.trans hf
            refine lv_iinc (v := (x5 + 1)) (lv' := [(5, .int (x5 + 1)), (7, .int v47), (6, .int v37), (0, .ref (gB g + a0)), (1, .int x1), (2, .int x2), (3, .int x3), (4, .int x4)]) hx hb dX10_bestPrice_84 hl (k := 7) rfl rfl (by decide) rfl (fun ls hl => ?_)
            refine lv_goto (tgt := 8) hx hb dX10_bestPrice_87 (by decide) ?_
            exact k8 hH hf (lv_sub hl [3, 4, 5, 6, 7, 0] rfl)
          · have hf := (if_pos cn).symm.trans hf
            refine lv_iload hx hb dX10_bestPrice_71 (lv_at hl 1 rfl) ?_
            refine lv_iload_n hx hb dX10_bestPrice_73 rfl (lv_at hl 5 rfl) ?_
            refine lv_icmp_ge (tgt := 84) hx hb dX10_bestPrice_74 (by decide) (fun cn => ?_) (fun cn => ?_)
            · have hf := (if_pos cn).symm.trans hf
              refine lv_iinc (v := (x5 + 1)) (lv' := [(5, .int (x5 + 1)), (7, .int v47), (6, .int v37), (0, .ref (gB g + a0)), (1, .int x1), (2, .int x2), (3, .int x3), (4, .int x4)]) hx hb dX10_bestPrice_84 hl (k := 7) rfl rfl (by decide) rfl (fun ls hl => ?_)
              refine lv_goto (tgt := 8) hx hb dX10_bestPrice_87 (by decide) ?_
              exact k8 hH hf (lv_sub hl [3, 4, 5, 6, 7, 0] rfl)
            · have hf := (if_neg cn).symm.trans hf
              refine lv_iload hx hb dX10_bestPrice_77 (lv_at hl 1 rfl) ?_
              refine lv_istore_n (lv' := [(3, .int v37), (7, .int v47), (6, .int v37), (0, .ref (gB g + a0)), (1, .int x1), (2, .int x2), (4, .int x4), (5, .int x5)]) hx hb dX10_bestPrice_79 rfl hl (by decide) rfl (fun ls hl => ?_)
              refine lv_iload hx hb dX10_bestPrice_80 (lv_at hl 1 rfl) ?_
              refine lv_istore (lv' := [(4, .int v47), (3, .int v37), (7, .int v47), (6, .int v37), (0, .ref (gB g + a0)), (1, .int x1), (2, .int x2), (5, .int x5)]) hx hb dX10_bestPrice_82 hl (by decide) rfl (fun ls hl => ?_)
              refine lv_iinc (v := (x5 + 1)) (lv' := [(5, .int (x5 + 1)), (4, .int v47), (3, .int v37), (7, .int v47), (6, .int v37), (0, .ref (gB g + a0)), (1, .int x1), (2, .int x2)]) hx hb dX10_bestPrice_84 hl (k := 7) rfl rfl (by decide) rfl (fun ls hl => ?_)
              refine lv_goto (tgt := 8) hx hb dX10_bestPrice_87 (by decide) ?_
              exact k8 hH hf (lv_sub hl [5, 6, 7, 2, 1, 0] rfl)
    · have hf := (if_pos cn).symm.trans hf
      refine lv_goto (tgt := 84) hx hb dX10_bestPrice_30 (by decide) ?_
      refine lv_iinc (v := (x5 + 1)) (lv' := [(5, .int (x5 + 1)), (0, .ref (gB g + a0)), (1, .int x1), (2, .int x2), (3, .int x3), (4, .int x4)]) hx hb dX10_bestPrice_84 hl (k := 5) rfl rfl (by decide) rfl (fun ls hl => ?_)
      refine lv_goto (tgt := 8) hx hb dX10_bestPrice_87 (by decide) ?_
      exact k8 hH hf (lv_sub hl [1, 2, 3, 4, 5, 0] rfl)
set_option maxHeartbeats 4000000 in
set_option maxRecDepth 100000 in
theorem wX10_bestPrice_L8 {r : Int32} {h' : PH} (C : CT g RX10 cX10_bestPrice 8 (Cond.code yX10_bestPrice cX10_bestPrice 8 (some .int) :: TB) p s m args meth c) (hr : meth.sig.returnType = some .int) : ∀ (n : Nat) {h : PH} {a0 : Nat} {x1 : Int32} {x2 : Int32} {x3 : Int32} {x4 : Int32} {x5 : Int32} {H : Heap} {locs : List Loc} {ls : Array Slot}, HS g s H locs h → mX10_bestPrice_L8 n h a0 x1 x2 x3 x4 x5 = some (r, h') → lv_has ls 8 [(0, .ref (gB g + a0)), (1, .int x1), (2, .int x2), (3, .int x3), (4, .int x4), (5, .int x5)] → W p l e (rmD 4 0 0) s m args below meth c H locs 0 0 (MQ below (QcI g r h') args s 0 0 (aB g)) (F0 m 8 ls []) := by
  intro n
  induction n with
  | zero =>
    intro h a0 x1 x2 x3 x4 x5 H locs ls hH hf hl
    exact absurd hf (by intro z; cases z)
  | succ n ih =>
    intro h a0 x1 x2 x3 x4 x5 H locs ls hH hf hl
    have hf : mX10_bestPrice_b8 (mX10_bestPrice_L8 n) h a0 x1 x2 x3 x4 x5 = some (r, h') := hf
    exact wX10_bestPrice_b8 C hr (fun a b c => ih a b c) hH hf hl
set_option maxHeartbeats 4000000 in
set_option maxRecDepth 100000 in
theorem c_X10_bestPrice {l : Launch} {g : GD} {h : PH} {a0 : Nat} {x1 : Int32} {x2 : Int32} {r : Int32} {h' : PH} (hf : mX10_bestPrice h a0 x1 x2 = some (r, h')) : Met l yX10_bestPrice (Cond.code yX10_bestPrice cX10_bestPrice 8 (some .int) :: TB) (rmD 4 0 0) (PcH g [.ref (gB g + a0), .int x1, .int x2] h) (QcI g r h') 0 0 (aB g) := by
  refine Met.ofW (cc := cX10_bestPrice) (maxL := 8) (ret := some .int) (by decide) rfl ?_
  intro p e s m args below meth c s₁ B hml hv
  obtain ⟨rfl, hH0, hkk0⟩ := hv
  have C : CT g RX10 cX10_bestPrice 8 (Cond.code yX10_bestPrice cX10_bestPrice 8 (some .int) :: TB) p s m _ meth c := pg_ct (Tw := []) B hml hH0 hkk0
  have hr := B.returns
  have hH : HS g s s.heap [] h := ⟨hH0, va_S.rf⟩
  have hl := lv_entry ([.ref (gB g + a0), .int x1, .int x2]) (n := 8) (Nat.le_of_ble_eq_true rfl)
  rw [lg_entry_eq]
  generalize (lg_sl ([.ref (gB g + a0), .int x1, .int x2]) ++ List.replicate (8 - (lg_sl ([.ref (gB g + a0), .int x1, .int x2])).length) Slot.unset).toArray = ls at hl ⊢
  have hl : lv_has ls 8 [(0, .ref (gB g + a0)), (1, .int x1), (2, .int x2)] := hl
  show W p l e (rmD 4 0 0) _ _ _ _ _ _ _ _ _ _ _ _
  unfold mX10_bestPrice at hf
  obtain ⟨hO, hf⟩ := oO_sp hf
  obtain ⟨⟨hx, hb, hml, hown, hts⟩, htb, hlk, hkk, hbs⟩ := id C
  refine lv_iconst (v := (-1 : Int32)) hx hb dX10_bestPrice_0 (by decide) ?_
  refine lv_istore_n (lv' := [(3, .int (-1 : Int32)), (0, .ref (gB g + a0)), (1, .int x1), (2, .int x2)]) hx hb dX10_bestPrice_1 rfl hl (by decide) rfl (fun ls hl => ?_)
  refine lv_iconst (v := (0 : Int32)) hx hb dX10_bestPrice_2 (by decide) ?_
  refine lv_istore (lv' := [(4, .int (0 : Int32)), (3, .int (-1 : Int32)), (0, .ref (gB g + a0)), (1, .int x1), (2, .int x2)]) hx hb dX10_bestPrice_3 hl (by decide) rfl (fun ls hl => ?_)
  refine lv_iconst (v := (0 : Int32)) hx hb dX10_bestPrice_5 (by decide) ?_
  refine lv_istore (lv' := [(5, .int (0 : Int32)), (4, .int (0 : Int32)), (3, .int (-1 : Int32)), (0, .ref (gB g + a0)), (1, .int x1), (2, .int x2)]) hx hb dX10_bestPrice_6 hl (by decide) rfl (fun ls hl => ?_)
  exact wX10_bestPrice_L8 C hr FU hH hf (lv_sub hl [3, 4, 5, 2, 1, 0] rfl)
set_option maxHeartbeats 4000000 in
set_option maxRecDepth 100000 in
theorem c_X10_fails {l : Launch} {g : GD} {h : PH} {x0 : Int32} {r : Int64} {h' : PH} (hf : mX10_fails h x0 = some (r, h')) : Met l yX10_fails (Cond.code yX10_fails cX10_fails 1 (some .long) :: TB) (rmD 0 0 0) (PcH g [.int x0] h) (QcL g r h') 0 0 (aB g) := by
  refine Met.ofW (cc := cX10_fails) (maxL := 1) (ret := some .long) (by decide) rfl ?_
  intro p e s m args below meth c s₁ B hml hv
  obtain ⟨rfl, hH0, hkk0⟩ := hv
  have C : CT g RX10 cX10_fails 1 (Cond.code yX10_fails cX10_fails 1 (some .long) :: TB) p s m _ meth c := pg_ct (Tw := []) B hml hH0 hkk0
  have hr := B.returns
  have hH : HS g s s.heap [] h := ⟨hH0, va_S.rf⟩
  have hl := lv_entry ([.int x0]) (n := 1) (Nat.le_of_ble_eq_true rfl)
  rw [lg_entry_eq]
  generalize (lg_sl ([.int x0]) ++ List.replicate (1 - (lg_sl ([.int x0])).length) Slot.unset).toArray = ls at hl ⊢
  have hl : lv_has ls 1 [(0, .int x0)] := hl
  show W p l e (rmD 0 0 0) _ _ _ _ _ _ _ _ _ _ _ _
  unfold mX10_fails at hf
  obtain ⟨⟨hx, hb, hml, hown, hts⟩, htb, hlk, hkk, hbs⟩ := id C
  refine lv_bipush (v := (-2 : Int32)) hx hb dX10_fails_0 (by decide) ?_
  refine lv_iload_n hx hb dX10_fails_2 rfl (lv_at hl 0 rfl) ?_
  refine lv_isub hx hb dX10_fails_3 ?_
  refine lv_i2l (v := (Int32.toInt64 ((-2 : Int32) - x0))) hx hb dX10_fails_4 rfl ?_
  exact pg_lret C hr hH hf dX10_fails_5
set_option maxHeartbeats 4000000 in
set_option maxRecDepth 100000 in
theorem wX10_byResold_b22 {r : Int64} {h' : PH} (C : CT g RX10 cX10_byResold 3 (Cond.code yX10_byResold cX10_byResold 3 (some .long) :: TB) p s m args meth c) (hr : meth.sig.returnType = some .long) {h : PH} {a0 : Nat} {x1 : Int32} {s0 : Int32} {H : Heap} {locs : List Loc} {ls : Array Slot} (hH : HS g s H locs h) (hf : mX10_byResold_b22 h a0 x1 s0 = some (r, h')) (hl : lv_has ls 3 [(0, .ref (gB g + a0)), (1, .int x1)]) : W p l e (rmD 5 0 0) s m args below meth c H locs 0 0 (MQ below (QcL g r h') args s 0 0 (aB g)) (F0 m 22 ls [.int s0]) := by
  obtain ⟨⟨hx, hb, hml, hown, hts⟩, htb, hlk, hkk, hbs⟩ := id C
  unfold mX10_byResold_b22 at hf
  refine lv_istore_n (lv' := [(2, .int s0), (0, .ref (gB g + a0)), (1, .int x1)]) hx hb dX10_byResold_22 rfl hl (by decide) rfl (fun ls hl => ?_)
  refine lv_aload_n hx hb dX10_byResold_23 rfl (lv_at hl 1 rfl) ?_
  refine lv_iload_n hx hb dX10_byResold_24 rfl (lv_at hl 0 rfl) ?_
  refine pg_pI C hH fl_X10_391 fm_10_28 hf dX10_byResold_25 (fun H locs h25 hH hf => ?_)
  refine lv_iload_n hx hb dX10_byResold_28 rfl (lv_at hl 0 rfl) ?_
  refine lv_iconst (v := (-1 : Int32)) hx hb dX10_byResold_29 (by decide) ?_
  refine lv_icmp_ne (tgt := 41) hx hb dX10_byResold_30 (by decide) (fun cn => ?_) (fun cn => ?_)
  · have hf := (if_neg cn).symm.trans hf
    refine lv_aload_n hx hb dX10_byResold_41 rfl (lv_at hl 1 rfl) ?_
    refine lv_iload_n hx hb dX10_byResold_42 rfl (lv_at hl 2 rfl) ?_
    refine lv_iconst (v := (3 : Int32)) hx hb dX10_byResold_43 (by decide) ?_
    refine pg_Vi (As := [.int x1, .int (3 : Int32)]) C hH mi_X10_of vl_X10_281 (q := (RX10, TX10, 34)) (ci := 10) rfl rfl hf (fun _ e1 => (oO_sp e1).1) (fun _ _ e1 => c_X10_of e1) rfl rfl hl.1 (Nat.le_of_ble_eq_true rfl) ⟨Nat.le_of_ble_eq_true rfl, Nat.le_of_ble_eq_true rfl⟩ ⟨Nat.zero_le _, Nat.zero_le _⟩ dX10_byResold_44 (fun H locs v44 h44 hH hf => ?_)
    refine lv_i2l (v := (Int32.toInt64 v44)) hx hb dX10_byResold_47 rfl ?_
    refine lv_iload_n hx hb dX10_byResold_48 rfl (lv_at hl 0 rfl) ?_
    refine lv_i2l (v := (Int32.toInt64 s0)) hx hb dX10_byResold_49 rfl ?_
    refine lv_lmul hx hb dX10_byResold_50 ?_
    refine lv_bipush (v := (100 : Int32)) hx hb dX10_byResold_51 (by decide) ?_
    refine lv_aload_n hx hb dX10_byResold_53 rfl (lv_at hl 1 rfl) ?_
    refine pg_gR C hH fl_X10_13 hf dX10_byResold_54 (fun v54 hf => ?_)
    refine lv_bipush (v := (8 : Int32)) hx hb dX10_byResold_57 (by decide) ?_
    refine pg_aI C hH hf dX10_byResold_59 (fun v59 hf => ?_)
    refine lv_isub hx hb dX10_byResold_60 ?_
    refine lv_i2l (v := (Int32.toInt64 ((100 : Int32) - v59))) hx hb dX10_byResold_61 rfl ?_
    refine lv_lmul hx hb dX10_byResold_62 ?_
    refine lv_bipush (v := (100 : Int32)) hx hb dX10_byResold_63 (by decide) ?_
    refine lv_aload_n hx hb dX10_byResold_65 rfl (lv_at hl 1 rfl) ?_
    refine pg_gR C hH fl_X10_13 hf dX10_byResold_66 (fun v66 hf => ?_)
    refine lv_bipush (v := (9 : Int32)) hx hb dX10_byResold_69 (by decide) ?_
    refine pg_aI C hH hf dX10_byResold_71 (fun v71 hf => ?_)
    refine lv_iadd hx hb dX10_byResold_72 ?_
    refine lv_i2l (v := (Int32.toInt64 ((100 : Int32) + v71))) hx hb dX10_byResold_73 rfl ?_
    obtain ⟨hz74, hf⟩ := dz_sp hf
    refine lv_ldiv hx hb dX10_byResold_74 hz74 ?_
    exact pg_lret C hr hH hf dX10_byResold_75
  · have hf := (if_pos cn).symm.trans hf
    refine lv_bipush (v := (41 : Int32)) hx hb dX10_byResold_33 (by decide) ?_
    refine pg_Sl (As := [.int (41 : Int32)]) C hH mi_X10_fails sl_X10_376 hf (fun _ _ e1 => c_X10_fails e1) rfl rfl hl.1 (Nat.le_of_ble_eq_true rfl) ⟨Nat.le_of_ble_eq_true rfl, Nat.le_of_ble_eq_true rfl⟩ ⟨Nat.zero_le _, Nat.zero_le _⟩ dX10_byResold_35 (fun H locs v35 h35 hH hf => ?_)
    refine lv_goto (tgt := 75) hx hb dX10_byResold_38 (by decide) ?_
    exact pg_lret C hr hH hf dX10_byResold_75
set_option maxHeartbeats 4000000 in
set_option maxRecDepth 100000 in
theorem c_X10_byResold {l : Launch} {g : GD} {h : PH} {a0 : Nat} {x1 : Int32} {r : Int64} {h' : PH} (hf : mX10_byResold h a0 x1 = some (r, h')) : Met l yX10_byResold (Cond.code yX10_byResold cX10_byResold 3 (some .long) :: TB) (rmD 5 0 0) (PcH g [.ref (gB g + a0), .int x1] h) (QcL g r h') 0 0 (aB g) := by
  refine Met.ofW (cc := cX10_byResold) (maxL := 3) (ret := some .long) (by decide) rfl ?_
  intro p e s m args below meth c s₁ B hml hv
  obtain ⟨rfl, hH0, hkk0⟩ := hv
  have C : CT g RX10 cX10_byResold 3 (Cond.code yX10_byResold cX10_byResold 3 (some .long) :: TB) p s m _ meth c := pg_ct (Tw := []) B hml hH0 hkk0
  have hr := B.returns
  have hH : HS g s s.heap [] h := ⟨hH0, va_S.rf⟩
  have hl := lv_entry ([.ref (gB g + a0), .int x1]) (n := 3) (Nat.le_of_ble_eq_true rfl)
  rw [lg_entry_eq]
  generalize (lg_sl ([.ref (gB g + a0), .int x1]) ++ List.replicate (3 - (lg_sl ([.ref (gB g + a0), .int x1])).length) Slot.unset).toArray = ls at hl ⊢
  have hl : lv_has ls 3 [(0, .ref (gB g + a0)), (1, .int x1)] := hl
  show W p l e (rmD 5 0 0) _ _ _ _ _ _ _ _ _ _ _ _
  unfold mX10_byResold at hf
  obtain ⟨hO, hf⟩ := oO_sp hf
  obtain ⟨⟨hx, hb, hml, hown, hts⟩, htb, hlk, hkk, hbs⟩ := id C
  refine lv_aload_n hx hb dX10_byResold_0 rfl (lv_at hl 0 rfl) ?_
  refine lv_iload_n hx hb dX10_byResold_1 rfl (lv_at hl 1 rfl) ?_
  refine lv_iconst (v := (1 : Int32)) hx hb dX10_byResold_2 (by decide) ?_
  refine pg_Vi (As := [.int x1, .int (1 : Int32)]) C hH mi_X10_bestPrice vl_X10_404 (q := (RX10, TX10, 34)) (ci := 10) rfl rfl hf (fun _ e1 => (oO_sp e1).1) (fun _ _ e1 => c_X10_bestPrice e1) rfl rfl hl.1 (Nat.le_of_ble_eq_true rfl) ⟨Nat.le_of_ble_eq_true rfl, Nat.le_of_ble_eq_true rfl⟩ ⟨Nat.zero_le _, Nat.zero_le _⟩ dX10_byResold_3 (fun H locs v3 h3 hH hf => ?_)
  refine lv_istore_n (lv' := [(2, .int v3), (0, .ref (gB g + a0)), (1, .int x1)]) hx hb dX10_byResold_6 rfl hl (by decide) rfl (fun ls hl => ?_)
  refine lv_iload_n hx hb dX10_byResold_7 rfl (lv_at hl 0 rfl) ?_
  refine lv_iconst (v := (-1 : Int32)) hx hb dX10_byResold_8 (by decide) ?_
  refine lv_icmp_ne (tgt := 21) hx hb dX10_byResold_9 (by decide) (fun cn => ?_) (fun cn => ?_)
  · have hf := (if_neg cn).symm.trans hf
    refine lv_iload_n hx hb dX10_byResold_21 rfl (lv_at hl 0 rfl) ?_
    exact wX10_byResold_b22 C hr hH hf (lv_sub hl [1, 2] rfl)
  · have hf := (if_pos cn).symm.trans hf
    refine lv_aload_n hx hb dX10_byResold_12 rfl (lv_at hl 1 rfl) ?_
    refine lv_iload_n hx hb dX10_byResold_13 rfl (lv_at hl 2 rfl) ?_
    refine lv_iconst (v := (2 : Int32)) hx hb dX10_byResold_14 (by decide) ?_
    refine pg_Vi (As := [.int x1, .int (2 : Int32)]) C hH mi_X10_bestPrice vl_X10_404 (q := (RX10, TX10, 34)) (ci := 10) rfl rfl hf (fun _ e1 => (oO_sp e1).1) (fun _ _ e1 => c_X10_bestPrice e1) rfl rfl hl.1 (Nat.le_of_ble_eq_true rfl) ⟨Nat.le_of_ble_eq_true rfl, Nat.le_of_ble_eq_true rfl⟩ ⟨Nat.zero_le _, Nat.zero_le _⟩ dX10_byResold_15 (fun H locs v15 h15 hH hf => ?_)
    refine lv_goto (tgt := 22) hx hb dX10_byResold_18 (by decide) ?_
    exact wX10_byResold_b22 C hr hH hf (lv_sub hl [1, 2] rfl)
set_option maxHeartbeats 4000000 in
set_option maxRecDepth 100000 in
theorem c_X10_byMaking {l : Launch} {g : GD} {h : PH} {a0 : Nat} {x1 : Int32} {r : Int64} {h' : PH} (hf : mX10_byMaking h a0 x1 = some (r, h')) : Met l yX10_byMaking (Cond.code yX10_byMaking cX10_byMaking 3 (some .long) :: TB) (rmD 5 0 0) (PcH g [.ref (gB g + a0), .int x1] h) (QcL g r h') 0 0 (aB g) := by
  refine Met.ofW (cc := cX10_byMaking) (maxL := 3) (ret := some .long) (by decide) rfl ?_
  intro p e s m args below meth c s₁ B hml hv
  obtain ⟨rfl, hH0, hkk0⟩ := hv
  have C : CT g RX10 cX10_byMaking 3 (Cond.code yX10_byMaking cX10_byMaking 3 (some .long) :: TB) p s m _ meth c := pg_ct (Tw := []) B hml hH0 hkk0
  have hr := B.returns
  have hH : HS g s s.heap [] h := ⟨hH0, va_S.rf⟩
  have hl := lv_entry ([.ref (gB g + a0), .int x1]) (n := 3) (Nat.le_of_ble_eq_true rfl)
  rw [lg_entry_eq]
  generalize (lg_sl ([.ref (gB g + a0), .int x1]) ++ List.replicate (3 - (lg_sl ([.ref (gB g + a0), .int x1])).length) Slot.unset).toArray = ls at hl ⊢
  have hl : lv_has ls 3 [(0, .ref (gB g + a0)), (1, .int x1)] := hl
  show W p l e (rmD 5 0 0) _ _ _ _ _ _ _ _ _ _ _ _
  unfold mX10_byMaking at hf
  obtain ⟨hO, hf⟩ := oO_sp hf
  obtain ⟨⟨hx, hb, hml, hown, hts⟩, htb, hlk, hkk, hbs⟩ := id C
  refine lv_aload_n hx hb dX10_byMaking_0 rfl (lv_at hl 0 rfl) ?_
  refine lv_aload_n hx hb dX10_byMaking_1 rfl (lv_at hl 0 rfl) ?_
  refine lv_iload_n hx hb dX10_byMaking_2 rfl (lv_at hl 1 rfl) ?_
  refine lv_iconst (v := (0 : Int32)) hx hb dX10_byMaking_3 (by decide) ?_
  refine pg_Vi (As := [.int x1, .int (0 : Int32)]) C hH mi_X10_of vl_X10_281 (q := (RX10, TX10, 34)) (ci := 10) rfl rfl hf (fun _ e1 => (oO_sp e1).1) (fun _ _ e1 => c_X10_of e1) rfl rfl hl.1 (Nat.le_of_ble_eq_true rfl) ⟨Nat.le_of_ble_eq_true rfl, Nat.le_of_ble_eq_true rfl⟩ ⟨Nat.zero_le _, Nat.zero_le _⟩ dX10_byMaking_4 (fun H locs v4 h4 hH hf => ?_)
  refine lv_iconst (v := (2 : Int32)) hx hb dX10_byMaking_7 (by decide) ?_
  refine pg_Vi (As := [.int v4, .int (2 : Int32)]) C hH mi_X10_good vl_X10_298 (q := (RX10, TX10, 34)) (ci := 10) rfl rfl hf (fun _ e1 => (oO_sp e1).1) (fun _ _ e1 => c_X10_good e1) rfl rfl hl.1 (Nat.le_of_ble_eq_true rfl) ⟨Nat.le_of_ble_eq_true rfl, Nat.le_of_ble_eq_true rfl⟩ ⟨Nat.zero_le _, Nat.zero_le _⟩ dX10_byMaking_8 (fun H locs v8 h8 hH hf => ?_)
  refine lv_istore_n (lv' := [(2, .int v8), (0, .ref (gB g + a0)), (1, .int x1)]) hx hb dX10_byMaking_11 rfl hl (by decide) rfl (fun ls hl => ?_)
  refine lv_iload_n hx hb dX10_byMaking_12 rfl (lv_at hl 0 rfl) ?_
  refine lv_if_ne (tgt := 22) hx hb dX10_byMaking_13 (by decide) (fun cn => ?_) (fun cn => ?_)
  · have hf := (if_neg cn).symm.trans hf
    refine lv_aload_n hx hb dX10_byMaking_22 rfl (lv_at hl 1 rfl) ?_
    refine lv_iload_n hx hb dX10_byMaking_23 rfl (lv_at hl 2 rfl) ?_
    refine lv_iconst (v := (3 : Int32)) hx hb dX10_byMaking_24 (by decide) ?_
    refine pg_Vi (As := [.int x1, .int (3 : Int32)]) C hH mi_X10_of vl_X10_281 (q := (RX10, TX10, 34)) (ci := 10) rfl rfl hf (fun _ e1 => (oO_sp e1).1) (fun _ _ e1 => c_X10_of e1) rfl rfl hl.1 (Nat.le_of_ble_eq_true rfl) ⟨Nat.le_of_ble_eq_true rfl, Nat.le_of_ble_eq_true rfl⟩ ⟨Nat.zero_le _, Nat.zero_le _⟩ dX10_byMaking_25 (fun H locs v25 h25 hH hf => ?_)
    refine lv_i2l (v := (Int32.toInt64 v25)) hx hb dX10_byMaking_28 rfl ?_
    refine lv_iload_n hx hb dX10_byMaking_29 rfl (lv_at hl 0 rfl) ?_
    refine lv_i2l (v := (Int32.toInt64 v8)) hx hb dX10_byMaking_30 rfl ?_
    refine lv_lmul hx hb dX10_byMaking_31 ?_
    refine lv_bipush (v := (100 : Int32)) hx hb dX10_byMaking_32 (by decide) ?_
    refine lv_aload_n hx hb dX10_byMaking_34 rfl (lv_at hl 1 rfl) ?_
    refine lv_aload_n hx hb dX10_byMaking_35 rfl (lv_at hl 1 rfl) ?_
    refine lv_iload_n hx hb dX10_byMaking_36 rfl (lv_at hl 2 rfl) ?_
    refine lv_iconst (v := (0 : Int32)) hx hb dX10_byMaking_37 (by decide) ?_
    refine pg_Vi (As := [.int x1, .int (0 : Int32)]) C hH mi_X10_of vl_X10_281 (q := (RX10, TX10, 34)) (ci := 10) rfl rfl hf (fun _ e1 => (oO_sp e1).1) (fun _ _ e1 => c_X10_of e1) rfl rfl hl.1 (Nat.le_of_ble_eq_true rfl) ⟨Nat.le_of_ble_eq_true rfl, Nat.le_of_ble_eq_true rfl⟩ ⟨Nat.zero_le _, Nat.zero_le _⟩ dX10_byMaking_38 (fun H locs v38 h38 hH hf => ?_)
    refine lv_iconst (v := (3 : Int32)) hx hb dX10_byMaking_41 (by decide) ?_
    refine pg_Vi (As := [.int v38, .int (3 : Int32)]) C hH mi_X10_good vl_X10_298 (q := (RX10, TX10, 34)) (ci := 10) rfl rfl hf (fun _ e1 => (oO_sp e1).1) (fun _ _ e1 => c_X10_good e1) rfl rfl hl.1 (Nat.le_of_ble_eq_true rfl) ⟨Nat.le_of_ble_eq_true rfl, Nat.le_of_ble_eq_true rfl⟩ ⟨Nat.zero_le _, Nat.zero_le _⟩ dX10_byMaking_42 (fun H locs v42 h42 hH hf => ?_)
    refine lv_iadd hx hb dX10_byMaking_45 ?_
    refine lv_i2l (v := (Int32.toInt64 ((100 : Int32) + v42))) hx hb dX10_byMaking_46 rfl ?_
    refine lv_lmul hx hb dX10_byMaking_47 ?_
    refine lv_ldc2 (v := (100 : Int64)) hx hb hown (hts _ (htb _ kl_X10_326)) dX10_byMaking_48 ?_
    refine lv_ldiv hx hb dX10_byMaking_51 (by decide) ?_
    refine lv_aload_n hx hb dX10_byMaking_52 rfl (lv_at hl 1 rfl) ?_
    refine lv_iload_n hx hb dX10_byMaking_53 rfl (lv_at hl 2 rfl) ?_
    refine lv_bipush (v := (9 : Int32)) hx hb dX10_byMaking_54 (by decide) ?_
    refine pg_Vi (As := [.int x1, .int (9 : Int32)]) C hH mi_X10_of vl_X10_281 (q := (RX10, TX10, 34)) (ci := 10) rfl rfl hf (fun _ e1 => (oO_sp e1).1) (fun _ _ e1 => c_X10_of e1) rfl rfl hl.1 (Nat.le_of_ble_eq_true rfl) ⟨Nat.le_of_ble_eq_true rfl, Nat.le_of_ble_eq_true rfl⟩ ⟨Nat.zero_le _, Nat.zero_le _⟩ dX10_byMaking_56 (fun H locs v56 h56 hH hf => ?_)
    refine lv_i2l (v := (Int32.toInt64 v56)) hx hb dX10_byMaking_59 rfl ?_
    refine lv_ladd hx hb dX10_byMaking_60 ?_
    refine lv_aload_n hx hb dX10_byMaking_61 rfl (lv_at hl 1 rfl) ?_
    refine lv_iload_n hx hb dX10_byMaking_62 rfl (lv_at hl 2 rfl) ?_
    refine lv_bipush (v := (10 : Int32)) hx hb dX10_byMaking_63 (by decide) ?_
    refine pg_Vi (As := [.int x1, .int (10 : Int32)]) C hH mi_X10_of vl_X10_281 (q := (RX10, TX10, 34)) (ci := 10) rfl rfl hf (fun _ e1 => (oO_sp e1).1) (fun _ _ e1 => c_X10_of e1) rfl rfl hl.1 (Nat.le_of_ble_eq_true rfl) ⟨Nat.le_of_ble_eq_true rfl, Nat.le_of_ble_eq_true rfl⟩ ⟨Nat.zero_le _, Nat.zero_le _⟩ dX10_byMaking_65 (fun H locs v65 h65 hH hf => ?_)
    refine lv_i2l (v := (Int32.toInt64 v65)) hx hb dX10_byMaking_68 rfl ?_
    refine lv_ladd hx hb dX10_byMaking_69 ?_
    refine lv_aload_n hx hb dX10_byMaking_70 rfl (lv_at hl 1 rfl) ?_
    refine lv_iload_n hx hb dX10_byMaking_71 rfl (lv_at hl 2 rfl) ?_
    refine pg_Vi (As := [.int x1]) C hH mi_X10_sharesOf vl_X10_328 (q := (RX10, TX10, 34)) (ci := 10) rfl rfl hf (fun _ e1 => (oO_sp e1).1) (fun _ _ e1 => c_X10_sharesOf e1) rfl rfl hl.1 (Nat.le_of_ble_eq_true rfl) ⟨Nat.le_of_ble_eq_true rfl, Nat.le_of_ble_eq_true rfl⟩ ⟨Nat.zero_le _, Nat.zero_le _⟩ dX10_byMaking_72 (fun H locs v72 h72 hH hf => ?_)
    refine lv_i2l (v := (Int32.toInt64 v72)) hx hb dX10_byMaking_75 rfl ?_
    refine lv_ladd hx hb dX10_byMaking_76 ?_
    exact pg_lret C hr hH hf dX10_byMaking_77
  · have hf := (if_pos cn).symm.trans hf
    refine lv_bipush (v := (51 : Int32)) hx hb dX10_byMaking_16 (by decide) ?_
    refine pg_Sl (As := [.int (51 : Int32)]) C hH mi_X10_fails sl_X10_376 hf (fun _ _ e1 => c_X10_fails e1) rfl rfl hl.1 (Nat.le_of_ble_eq_true rfl) ⟨Nat.le_of_ble_eq_true rfl, Nat.le_of_ble_eq_true rfl⟩ ⟨Nat.zero_le _, Nat.zero_le _⟩ dX10_byMaking_18 (fun H locs v18 h18 hH hf => ?_)
    exact pg_lret C hr hH hf dX10_byMaking_21
set_option maxHeartbeats 4000000 in
set_option maxRecDepth 100000 in
theorem wX10_laysTests_b7 {r7 : PH → Nat → Int32 → Int32 → Option (PH)} {h' : PH} (C : CT g RX10 cX10_laysTests 3 (Cond.code yX10_laysTests cX10_laysTests 3 (none) :: TB) p s m args meth c) (hr : meth.sig.returnType = none) (k7 : ∀ {h : PH} {a0 : Nat} {x1 : Int32} {x2 : Int32} {H : Heap} {locs : List Loc} {ls : Array Slot}, HS g s H locs h → r7 h a0 x1 x2 = some h' → lv_has ls 3 [(0, .ref (gB g + a0)), (1, .int x1), (2, .int x2)] → W p l e (rmD 8 0 0) s m args below meth c H locs 0 0 (MQ below (QcV g h') args s 0 0 (aB g)) (F0 m 7 ls [])) {h : PH} {a0 : Nat} {x1 : Int32} {x2 : Int32} {H : Heap} {locs : List Loc} {ls : Array Slot} (hH : HS g s H locs h) (hf : mX10_laysTests_b7 r7 h a0 x1 x2 = some h') (hl : lv_has ls 3 [(0, .ref (gB g + a0)), (1, .int x1), (2, .int x2)]) : W p l e (rmD 8 0 0) s m args below meth c H locs 0 0 (MQ below (QcV g h') args s 0 0 (aB g)) (F0 m 7 ls []) := by
  obtain ⟨⟨hx, hb, hml, hown, hts⟩, htb, hlk, hkk, hbs⟩ := id C
  unfold mX10_laysTests_b7 at hf
  refine lv_iload_n hx hb dX10_laysTests_7 rfl (lv_at hl 2 rfl) ?_
  refine lv_aload_n hx hb dX10_laysTests_8 rfl (lv_at hl 0 rfl) ?_
  refine pg_gR C hH fl_X10_13 hf dX10_laysTests_9 (fun v9 hf => ?_)
  refine lv_iconst (v := (3 : Int32)) hx hb dX10_laysTests_12 (by decide) ?_
  refine pg_aI C hH hf dX10_laysTests_13 (fun v13 hf => ?_)
  refine lv_icmp_ge (tgt := 82) hx hb dX10_laysTests_14 (by decide) (fun cn => ?_) (fun cn => ?_)
  · have hf := (if_pos cn).symm.trans hf
    refine lv_aload_n hx hb dX10_laysTests_82 rfl (lv_at hl 0 rfl) ?_
    refine lv_aload_n hx hb dX10_laysTests_83 rfl (lv_at hl 0 rfl) ?_
    refine lv_iload_n hx hb dX10_laysTests_84 rfl (lv_at hl 1 rfl) ?_
    refine pg_Vl (As := [.int x1]) C hH mi_X10_byResold vl_X10_363 (q := (RX10, TX10, 34)) (ci := 10) rfl rfl hf (fun _ e1 => (oO_sp e1).1) (fun _ _ e1 => c_X10_byResold e1) rfl rfl hl.1 (Nat.le_of_ble_eq_true rfl) ⟨Nat.le_of_ble_eq_true rfl, Nat.le_of_ble_eq_true rfl⟩ ⟨Nat.zero_le _, Nat.zero_le _⟩ dX10_laysTests_85 (fun H locs v85 h85 hH hf => ?_)
    refine pg_Vv (As := [.long v85]) C hH mi_X10_adds vl_X10_359 (q := (RX10, TX10, 34)) (ci := 10) rfl rfl hf (fun _ e1 => (oO_sp e1).1) (fun _ e1 => c_X10_adds e1) rfl rfl hl.1 (Nat.le_of_ble_eq_true rfl) ⟨Nat.le_of_ble_eq_true rfl, Nat.le_of_ble_eq_true rfl⟩ ⟨Nat.zero_le _, Nat.zero_le _⟩ dX10_laysTests_88 (fun H locs h88 hH hf => ?_)
    refine lv_aload_n hx hb dX10_laysTests_91 rfl (lv_at hl 0 rfl) ?_
    refine lv_aload_n hx hb dX10_laysTests_92 rfl (lv_at hl 0 rfl) ?_
    refine lv_iload_n hx hb dX10_laysTests_93 rfl (lv_at hl 1 rfl) ?_
    refine pg_Vl (As := [.int x1]) C hH mi_X10_byMaking vl_X10_366 (q := (RX10, TX10, 34)) (ci := 10) rfl rfl hf (fun _ e1 => (oO_sp e1).1) (fun _ _ e1 => c_X10_byMaking e1) rfl rfl hl.1 (Nat.le_of_ble_eq_true rfl) ⟨Nat.le_of_ble_eq_true rfl, Nat.le_of_ble_eq_true rfl⟩ ⟨Nat.zero_le _, Nat.zero_le _⟩ dX10_laysTests_94 (fun H locs v94 h94 hH hf => ?_)
    refine pg_Vv (As := [.long v94]) C hH mi_X10_adds vl_X10_359 (q := (RX10, TX10, 34)) (ci := 10) rfl rfl hf (fun _ e1 => (oO_sp e1).1) (fun _ e1 => c_X10_adds e1) rfl rfl hl.1 (Nat.le_of_ble_eq_true rfl) ⟨Nat.le_of_ble_eq_true rfl, Nat.le_of_ble_eq_true rfl⟩ ⟨Nat.zero_le _, Nat.zero_le _⟩ dX10_laysTests_97 (fun H locs h97 hH hf => ?_)
    exact pg_vret C hr hH hf dX10_laysTests_100
  · have hf := (if_neg cn).symm.trans hf
    refine lv_iload_n hx hb dX10_laysTests_17 rfl (lv_at hl 2 rfl) ?_
    refine lv_iload_n hx hb dX10_laysTests_18 rfl (lv_at hl 1 rfl) ?_
    refine lv_icmp_eq (tgt := 76) hx hb dX10_laysTests_19 (by decide) (fun cn => ?_) (fun cn => ?_)
    · have hf := (if_pos cn).symm.trans hf
      refine lv_iinc (v := (x2 + 1)) (lv' := [(2, .int (x2 + 1)), (0, .ref (gB g + a0)), (1, .int x1)]) hx hb dX10_laysTests_76 hl (k := 2) rfl rfl (by decide) rfl (fun ls hl => ?_)
      refine lv_goto (tgt := 7) hx hb dX10_laysTests_79 (by decide) ?_
      exact k7 hH hf (lv_sub hl [1, 2, 0] rfl)
    · have hf := (if_neg cn).symm.trans hf
      refine lv_aload_n hx hb dX10_laysTests_22 rfl (lv_at hl 0 rfl) ?_
      refine lv_iload_n hx hb dX10_laysTests_23 rfl (lv_at hl 2 rfl) ?_
      refine pg_Vi (As := [.int x2]) C hH mi_X10_isThere vl_X10_304 (q := (RX10, TX10, 34)) (ci := 10) rfl rfl hf (fun _ e1 => (oO_sp e1).1) (fun _ _ e1 => c_X10_isThere e1) rfl rfl hl.1 (Nat.le_of_ble_eq_true rfl) ⟨Nat.le_of_ble_eq_true rfl, Nat.le_of_ble_eq_true rfl⟩ ⟨Nat.zero_le _, Nat.zero_le _⟩ dX10_laysTests_24 (fun H locs v24 h24 hH hf => ?_)
      refine lv_if_eq (tgt := 76) hx hb dX10_laysTests_27 (by decide) (fun cn => ?_) (fun cn => ?_)
      · have hf := (if_pos cn).symm.trans hf
        refine lv_iinc (v := (x2 + 1)) (lv' := [(2, .int (x2 + 1)), (0, .ref (gB g + a0)), (1, .int x1)]) hx hb dX10_laysTests_76 hl (k := 2) rfl rfl (by decide) rfl (fun ls hl => ?_)
        refine lv_goto (tgt := 7) hx hb dX10_laysTests_79 (by decide) ?_
        exact k7 hH hf (lv_sub hl [1, 2, 0] rfl)
      · have hf := (if_neg cn).symm.trans hf
        refine lv_aload_n hx hb dX10_laysTests_30 rfl (lv_at hl 0 rfl) ?_
        refine lv_iload_n hx hb dX10_laysTests_31 rfl (lv_at hl 2 rfl) ?_
        refine lv_bipush (v := (6 : Int32)) hx hb dX10_laysTests_32 (by decide) ?_
        refine pg_Vi (As := [.int x2, .int (6 : Int32)]) C hH mi_X10_of vl_X10_281 (q := (RX10, TX10, 34)) (ci := 10) rfl rfl hf (fun _ e1 => (oO_sp e1).1) (fun _ _ e1 => c_X10_of e1) rfl rfl hl.1 (Nat.le_of_ble_eq_true rfl) ⟨Nat.le_of_ble_eq_true rfl, Nat.le_of_ble_eq_true rfl⟩ ⟨Nat.zero_le _, Nat.zero_le _⟩ dX10_laysTests_34 (fun H locs v34 h34 hH hf => ?_)
        refine lv_if_ne (tgt := 76) hx hb dX10_laysTests_37 (by decide) (fun cn => ?_) (fun cn => ?_)
        · have hf := (if_neg cn).symm.trans hf
          refine lv_iinc (v := (x2 + 1)) (lv' := [(2, .int (x2 + 1)), (0, .ref (gB g + a0)), (1, .int x1)]) hx hb dX10_laysTests_76 hl (k := 2) rfl rfl (by decide) rfl (fun ls hl => ?_)
          refine lv_goto (tgt := 7) hx hb dX10_laysTests_79 (by decide) ?_
          exact k7 hH hf (lv_sub hl [1, 2, 0] rfl)
        · have hf := (if_pos cn).symm.trans hf
          refine lv_aload_n hx hb dX10_laysTests_40 rfl (lv_at hl 0 rfl) ?_
          refine lv_iload_n hx hb dX10_laysTests_41 rfl (lv_at hl 2 rfl) ?_
          refine pg_Vi (As := [.int x2]) C hH mi_X10_isBetweenKin vl_X10_347 (q := (RX10, TX10, 34)) (ci := 10) rfl rfl hf (fun _ e1 => (oO_sp e1).1) (fun _ _ e1 => c_X10_isBetweenKin e1) rfl rfl hl.1 (Nat.le_of_ble_eq_true rfl) ⟨Nat.le_of_ble_eq_true rfl, Nat.le_of_ble_eq_true rfl⟩ ⟨Nat.zero_le _, Nat.zero_le _⟩ dX10_laysTests_42 (fun H locs v42 h42 hH hf => ?_)
          refine lv_if_ne (tgt := 76) hx hb dX10_laysTests_45 (by decide) (fun cn => ?_) (fun cn => ?_)
          · have hf := (if_neg cn).symm.trans hf
            refine lv_iinc (v := (x2 + 1)) (lv' := [(2, .int (x2 + 1)), (0, .ref (gB g + a0)), (1, .int x1)]) hx hb dX10_laysTests_76 hl (k := 2) rfl rfl (by decide) rfl (fun ls hl => ?_)
            refine lv_goto (tgt := 7) hx hb dX10_laysTests_79 (by decide) ?_
            exact k7 hH hf (lv_sub hl [1, 2, 0] rfl)
          · have hf := (if_pos cn).symm.trans hf
            refine lv_aload_n hx hb dX10_laysTests_48 rfl (lv_at hl 0 rfl) ?_
            refine lv_iload_n hx hb dX10_laysTests_49 rfl (lv_at hl 1 rfl) ?_
            refine lv_iload_n hx hb dX10_laysTests_50 rfl (lv_at hl 2 rfl) ?_
            refine pg_Vi (As := [.int x1, .int x2]) C hH mi_X10_likeSales vl_X10_350 (q := (RX10, TX10, 34)) (ci := 10) rfl rfl hf (fun _ e1 => (oO_sp e1).1) (fun _ _ e1 => c_X10_likeSales e1) rfl rfl hl.1 (Nat.le_of_ble_eq_true rfl) ⟨Nat.le_of_ble_eq_true rfl, Nat.le_of_ble_eq_true rfl⟩ ⟨Nat.zero_le _, Nat.zero_le _⟩ dX10_laysTests_51 (fun H locs v51 h51 hH hf => ?_)
            refine lv_if_le (tgt := 76) hx hb dX10_laysTests_54 (by decide) (fun cn => ?_) (fun cn => ?_)
            · have hf := (if_pos cn).symm.trans hf
              refine lv_iinc (v := (x2 + 1)) (lv' := [(2, .int (x2 + 1)), (0, .ref (gB g + a0)), (1, .int x1)]) hx hb dX10_laysTests_76 hl (k := 2) rfl rfl (by decide) rfl (fun ls hl => ?_)
              refine lv_goto (tgt := 7) hx hb dX10_laysTests_79 (by decide) ?_
              exact k7 hH hf (lv_sub hl [1, 2, 0] rfl)
            · have hf := (if_neg cn).symm.trans hf
              refine lv_aload_n hx hb dX10_laysTests_57 rfl (lv_at hl 0 rfl) ?_
              refine lv_iload_n hx hb dX10_laysTests_58 rfl (lv_at hl 1 rfl) ?_
              refine lv_iload_n hx hb dX10_laysTests_59 rfl (lv_at hl 2 rfl) ?_
              refine pg_Vi (As := [.int x1, .int x2]) C hH mi_X10_isNearDay vl_X10_353 (q := (RX10, TX10, 34)) (ci := 10) rfl rfl hf (fun _ e1 => (oO_sp e1).1) (fun _ _ e1 => c_X10_isNearDay e1) rfl rfl hl.1 (Nat.le_of_ble_eq_true rfl) ⟨Nat.le_of_ble_eq_true rfl, Nat.le_of_ble_eq_true rfl⟩ ⟨Nat.zero_le _, Nat.zero_le _⟩ dX10_laysTests_60 (fun H locs v60 h60 hH hf => ?_)
              refine lv_if_eq (tgt := 76) hx hb dX10_laysTests_63 (by decide) (fun cn => ?_) (fun cn => ?_)
              · have hf := (if_pos cn).symm.trans hf
                refine lv_iinc (v := (x2 + 1)) (lv' := [(2, .int (x2 + 1)), (0, .ref (gB g + a0)), (1, .int x1)]) hx hb dX10_laysTests_76 hl (k := 2) rfl rfl (by decide) rfl (fun ls hl => ?_)
                refine lv_goto (tgt := 7) hx hb dX10_laysTests_79 (by decide) ?_
                exact k7 hH hf (lv_sub hl [1, 2, 0] rfl)
              · have hf := (if_neg cn).symm.trans hf
                refine lv_aload_n hx hb dX10_laysTests_66 rfl (lv_at hl 0 rfl) ?_
                refine lv_aload_n hx hb dX10_laysTests_67 rfl (lv_at hl 0 rfl) ?_
                refine lv_iload_n hx hb dX10_laysTests_68 rfl (lv_at hl 1 rfl) ?_
                refine lv_iload_n hx hb dX10_laysTests_69 rfl (lv_at hl 2 rfl) ?_
                refine pg_Vl (As := [.int x1, .int x2]) C hH mi_X10_brought vl_X10_356 (q := (RX10, TX10, 34)) (ci := 10) rfl rfl hf (fun _ e1 => (oO_sp e1).1) (fun _ _ e1 => c_X10_brought e1) rfl rfl hl.1 (Nat.le_of_ble_eq_true rfl) ⟨Nat.le_of_ble_eq_true rfl, Nat.le_of_ble_eq_true rfl⟩ ⟨Nat.zero_le _, Nat.zero_le _⟩ dX10_laysTests_70 (fun H locs v70 h70 hH hf => ?_)
                refine pg_Vv (As := [.long v70]) C hH mi_X10_adds vl_X10_359 (q := (RX10, TX10, 34)) (ci := 10) rfl rfl hf (fun _ e1 => (oO_sp e1).1) (fun _ e1 => c_X10_adds e1) rfl rfl hl.1 (Nat.le_of_ble_eq_true rfl) ⟨Nat.le_of_ble_eq_true rfl, Nat.le_of_ble_eq_true rfl⟩ ⟨Nat.zero_le _, Nat.zero_le _⟩ dX10_laysTests_73 (fun H locs h73 hH hf => ?_)
                refine lv_iinc (v := (x2 + 1)) (lv' := [(2, .int (x2 + 1)), (0, .ref (gB g + a0)), (1, .int x1)]) hx hb dX10_laysTests_76 hl (k := 2) rfl rfl (by decide) rfl (fun ls hl => ?_)
                refine lv_goto (tgt := 7) hx hb dX10_laysTests_79 (by decide) ?_
                exact k7 hH hf (lv_sub hl [1, 2, 0] rfl)
set_option maxHeartbeats 4000000 in
set_option maxRecDepth 100000 in
theorem wX10_laysTests_L7 {h' : PH} (C : CT g RX10 cX10_laysTests 3 (Cond.code yX10_laysTests cX10_laysTests 3 (none) :: TB) p s m args meth c) (hr : meth.sig.returnType = none) : ∀ (n : Nat) {h : PH} {a0 : Nat} {x1 : Int32} {x2 : Int32} {H : Heap} {locs : List Loc} {ls : Array Slot}, HS g s H locs h → mX10_laysTests_L7 n h a0 x1 x2 = some h' → lv_has ls 3 [(0, .ref (gB g + a0)), (1, .int x1), (2, .int x2)] → W p l e (rmD 8 0 0) s m args below meth c H locs 0 0 (MQ below (QcV g h') args s 0 0 (aB g)) (F0 m 7 ls []) := by
  intro n
  induction n with
  | zero =>
    intro h a0 x1 x2 H locs ls hH hf hl
    exact absurd hf (by intro z; cases z)
  | succ n ih =>
    intro h a0 x1 x2 H locs ls hH hf hl
    have hf : mX10_laysTests_b7 (mX10_laysTests_L7 n) h a0 x1 x2 = some h' := hf
    exact wX10_laysTests_b7 C hr (fun a b c => ih a b c) hH hf hl
set_option maxHeartbeats 4000000 in
set_option maxRecDepth 100000 in
theorem c_X10_laysTests {l : Launch} {g : GD} {h : PH} {a0 : Nat} {x1 : Int32} {h' : PH} (hf : mX10_laysTests h a0 x1 = some h') : Met l yX10_laysTests (Cond.code yX10_laysTests cX10_laysTests 3 (none) :: TB) (rmD 8 0 0) (PcH g [.ref (gB g + a0), .int x1] h) (QcV g h') 0 0 (aB g) := by
  refine Met.ofW (cc := cX10_laysTests) (maxL := 3) (ret := none) (by decide) rfl ?_
  intro p e s m args below meth c s₁ B hml hv
  obtain ⟨rfl, hH0, hkk0⟩ := hv
  have C : CT g RX10 cX10_laysTests 3 (Cond.code yX10_laysTests cX10_laysTests 3 (none) :: TB) p s m _ meth c := pg_ct (Tw := []) B hml hH0 hkk0
  have hr := B.returns
  have hH : HS g s s.heap [] h := ⟨hH0, va_S.rf⟩
  have hl := lv_entry ([.ref (gB g + a0), .int x1]) (n := 3) (Nat.le_of_ble_eq_true rfl)
  rw [lg_entry_eq]
  generalize (lg_sl ([.ref (gB g + a0), .int x1]) ++ List.replicate (3 - (lg_sl ([.ref (gB g + a0), .int x1])).length) Slot.unset).toArray = ls at hl ⊢
  have hl : lv_has ls 3 [(0, .ref (gB g + a0)), (1, .int x1)] := hl
  show W p l e (rmD 8 0 0) _ _ _ _ _ _ _ _ _ _ _ _
  unfold mX10_laysTests at hf
  obtain ⟨hO, hf⟩ := oO_sp hf
  obtain ⟨⟨hx, hb, hml, hown, hts⟩, htb, hlk, hkk, hbs⟩ := id C
  refine lv_aload_n hx hb dX10_laysTests_0 rfl (lv_at hl 0 rfl) ?_
  refine lv_iconst (v := (0 : Int32)) hx hb dX10_laysTests_1 (by decide) ?_
  refine pg_pI C hH fl_X10_344 fm_10_27 hf dX10_laysTests_2 (fun H locs h2 hH hf => ?_)
  refine lv_iconst (v := (0 : Int32)) hx hb dX10_laysTests_5 (by decide) ?_
  refine lv_istore_n (lv' := [(2, .int (0 : Int32)), (0, .ref (gB g + a0)), (1, .int x1)]) hx hb dX10_laysTests_6 rfl hl (by decide) rfl (fun ls hl => ?_)
  exact wX10_laysTests_L7 C hr FU hH hf (lv_sub hl [1, 2, 0] rfl)
set_option maxHeartbeats 4000000 in
set_option maxRecDepth 100000 in
theorem wX10_isNear_b45 {r3 : PH → Nat → Int64 → Int32 → Int32 → Option (Int32 × PH)} {r : Int32} {h' : PH} (C : CT g RX10 cX10_isNear 7 (Cond.code yX10_isNear cX10_isNear 7 (some .boolean) :: TB) p s m args meth c) (hr : meth.sig.returnType = some .boolean) (k3 : ∀ {h : PH} {a0 : Nat} {x1 : Int64} {x3 : Int32} {x4 : Int32} {H : Heap} {locs : List Loc} {ls : Array Slot}, HS g s H locs h → r3 h a0 x1 x3 x4 = some (r, h') → lv_has ls 7 [(0, .ref (gB g + a0)), (1, .long x1), (3, .int x3), (4, .int x4)] → W p l e (rmD 0 0 0) s m args below meth c H locs 0 0 (MQ below (QcI g r h') args s 0 0 (aB g)) (F0 m 3 ls [])) {h : PH} {a0 : Nat} {x1 : Int64} {x3 : Int32} {x4 : Int32} {s0 : Int64} {H : Heap} {locs : List Loc} {ls : Array Slot} (hH : HS g s H locs h) (hf : mX10_isNear_b45 r3 h a0 x1 x3 x4 s0 = some (r, h')) (hl : lv_has ls 7 [(0, .ref (gB g + a0)), (1, .long x1), (3, .int x3), (4, .int x4)]) : W p l e (rmD 0 0 0) s m args below meth c H locs 0 0 (MQ below (QcI g r h') args s 0 0 (aB g)) (F0 m 45 ls [.long s0]) := by
  obtain ⟨⟨hx, hb, hml, hown, hts⟩, htb, hlk, hkk, hbs⟩ := id C
  unfold mX10_isNear_b45 at hf
  refine lv_lstore (lv' := [(5, .long s0), (0, .ref (gB g + a0)), (1, .long x1), (3, .int x3), (4, .int x4)]) hx hb dX10_isNear_45 hl (by decide) rfl (fun ls hl => ?_)
  refine lv_ldc2 (v := (100 : Int64)) hx hb hown (hts _ (htb _ kl_X10_326)) dX10_isNear_47 ?_
  refine lv_lload hx hb dX10_isNear_50 (lv_at hl 0 rfl) ?_
  refine lv_lmul hx hb dX10_isNear_52 ?_
  refine lv_iload_n hx hb dX10_isNear_53 rfl (lv_at hl 3 rfl) ?_
  refine lv_i2l (v := (Int32.toInt64 x3)) hx hb dX10_isNear_54 rfl ?_
  refine lv_aload_n hx hb dX10_isNear_55 rfl (lv_at hl 1 rfl) ?_
  refine pg_gR C hH fl_X10_50 hf dX10_isNear_56 (fun v56 hf => ?_)
  refine lv_iload hx hb dX10_isNear_59 (lv_at hl 4 rfl) ?_
  refine pg_aL C hH hf dX10_isNear_61 (fun v61 hf => ?_)
  refine lv_lmul hx hb dX10_isNear_62 ?_
  refine W.lcmp hx hb dX10_isNear_63 ?_
  refine lv_if_gt (tgt := 69) hx hb dX10_isNear_64 (by decide) (fun cn => ?_) (fun cn => ?_)
  · have hf := (if_pos ((lg_cmp_gt _ _).mp cn)).symm.trans hf
    refine lv_iinc (v := (x4 + 1)) (lv' := [(4, .int (x4 + 1)), (5, .long s0), (0, .ref (gB g + a0)), (1, .long x1), (3, .int x3)]) hx hb dX10_isNear_69 hl (k := 4) rfl rfl (by decide) rfl (fun ls hl => ?_)
    refine lv_goto (tgt := 3) hx hb dX10_isNear_72 (by decide) ?_
    exact k3 hH hf (lv_sub hl [2, 3, 4, 0] rfl)
  · have hf := (if_neg (fun z => cn ((lg_cmp_gt _ _).mpr z))).symm.trans hf
    refine lv_iconst (v := (1 : Int32)) hx hb dX10_isNear_67 (by decide) ?_
    exact pg_zret C hr hH hf dX10_isNear_68
set_option maxHeartbeats 4000000 in
set_option maxRecDepth 100000 in
theorem wX10_isNear_b3 {r3 : PH → Nat → Int64 → Int32 → Int32 → Option (Int32 × PH)} {r : Int32} {h' : PH} (C : CT g RX10 cX10_isNear 7 (Cond.code yX10_isNear cX10_isNear 7 (some .boolean) :: TB) p s m args meth c) (hr : meth.sig.returnType = some .boolean) (k3 : ∀ {h : PH} {a0 : Nat} {x1 : Int64} {x3 : Int32} {x4 : Int32} {H : Heap} {locs : List Loc} {ls : Array Slot}, HS g s H locs h → r3 h a0 x1 x3 x4 = some (r, h') → lv_has ls 7 [(0, .ref (gB g + a0)), (1, .long x1), (3, .int x3), (4, .int x4)] → W p l e (rmD 0 0 0) s m args below meth c H locs 0 0 (MQ below (QcI g r h') args s 0 0 (aB g)) (F0 m 3 ls [])) {h : PH} {a0 : Nat} {x1 : Int64} {x3 : Int32} {x4 : Int32} {H : Heap} {locs : List Loc} {ls : Array Slot} (hH : HS g s H locs h) (hf : mX10_isNear_b3 r3 h a0 x1 x3 x4 = some (r, h')) (hl : lv_has ls 7 [(0, .ref (gB g + a0)), (1, .long x1), (3, .int x3), (4, .int x4)]) : W p l e (rmD 0 0 0) s m args below meth c H locs 0 0 (MQ below (QcI g r h') args s 0 0 (aB g)) (F0 m 3 ls []) := by
  obtain ⟨⟨hx, hb, hml, hown, hts⟩, htb, hlk, hkk, hbs⟩ := id C
  unfold mX10_isNear_b3 at hf
  refine lv_iload hx hb dX10_isNear_3 (lv_at hl 3 rfl) ?_
  refine lv_aload_n hx hb dX10_isNear_5 rfl (lv_at hl 0 rfl) ?_
  refine pg_gI C hH fl_X10_344 hf dX10_isNear_6 (fun v6 hf => ?_)
  refine lv_icmp_ge (tgt := 75) hx hb dX10_isNear_9 (by decide) (fun cn => ?_) (fun cn => ?_)
  · have hf := (if_pos cn).symm.trans hf
    refine lv_iconst (v := (0 : Int32)) hx hb dX10_isNear_75 (by decide) ?_
    exact pg_zret C hr hH hf dX10_isNear_76
  · have hf := (if_neg cn).symm.trans hf
    refine lv_lload_n hx hb dX10_isNear_12 rfl (lv_at hl 1 rfl) ?_
    refine lv_aload_n hx hb dX10_isNear_13 rfl (lv_at hl 0 rfl) ?_
    refine pg_gR C hH fl_X10_50 hf dX10_isNear_14 (fun v14 hf => ?_)
    refine lv_iload hx hb dX10_isNear_17 (lv_at hl 3 rfl) ?_
    refine pg_aL C hH hf dX10_isNear_19 (fun v19 hf => ?_)
    refine W.lcmp hx hb dX10_isNear_20 ?_
    refine lv_if_le (tgt := 36) hx hb dX10_isNear_21 (by decide) (fun cn => ?_) (fun cn => ?_)
    · have hf := (if_pos ((lg_cmp_le _ _).mp cn)).symm.trans hf
      refine lv_aload_n hx hb dX10_isNear_36 rfl (lv_at hl 0 rfl) ?_
      refine pg_gR C hH fl_X10_50 hf dX10_isNear_37 (fun v37 hf => ?_)
      refine lv_iload hx hb dX10_isNear_40 (lv_at hl 3 rfl) ?_
      refine pg_aL C hH hf dX10_isNear_42 (fun v42 hf => ?_)
      refine lv_lload_n hx hb dX10_isNear_43 rfl (lv_at hl 1 rfl) ?_
      refine lv_lsub hx hb dX10_isNear_44 ?_
      exact wX10_isNear_b45 C hr k3 hH hf (lv_sub hl [0, 1, 2, 3] rfl)
    · have hf := (if_neg (fun z => cn ((lg_cmp_le _ _).mpr z))).symm.trans hf
      refine lv_lload_n hx hb dX10_isNear_24 rfl (lv_at hl 1 rfl) ?_
      refine lv_aload_n hx hb dX10_isNear_25 rfl (lv_at hl 0 rfl) ?_
      refine pg_gR C hH fl_X10_50 hf dX10_isNear_26 (fun v26 hf => ?_)
      refine lv_iload hx hb dX10_isNear_29 (lv_at hl 3 rfl) ?_
      refine pg_aL C hH hf dX10_isNear_31 (fun v31 hf => ?_)
      refine lv_lsub hx hb dX10_isNear_32 ?_
      refine lv_goto (tgt := 45) hx hb dX10_isNear_33 (by decide) ?_
      exact wX10_isNear_b45 C hr k3 hH hf (lv_sub hl [0, 1, 2, 3] rfl)
set_option maxHeartbeats 4000000 in
set_option maxRecDepth 100000 in
theorem wX10_isNear_L3 {r : Int32} {h' : PH} (C : CT g RX10 cX10_isNear 7 (Cond.code yX10_isNear cX10_isNear 7 (some .boolean) :: TB) p s m args meth c) (hr : meth.sig.returnType = some .boolean) : ∀ (n : Nat) {h : PH} {a0 : Nat} {x1 : Int64} {x3 : Int32} {x4 : Int32} {H : Heap} {locs : List Loc} {ls : Array Slot}, HS g s H locs h → mX10_isNear_L3 n h a0 x1 x3 x4 = some (r, h') → lv_has ls 7 [(0, .ref (gB g + a0)), (1, .long x1), (3, .int x3), (4, .int x4)] → W p l e (rmD 0 0 0) s m args below meth c H locs 0 0 (MQ below (QcI g r h') args s 0 0 (aB g)) (F0 m 3 ls []) := by
  intro n
  induction n with
  | zero =>
    intro h a0 x1 x3 x4 H locs ls hH hf hl
    exact absurd hf (by intro z; cases z)
  | succ n ih =>
    intro h a0 x1 x3 x4 H locs ls hH hf hl
    have hf : mX10_isNear_b3 (mX10_isNear_L3 n) h a0 x1 x3 x4 = some (r, h') := hf
    exact wX10_isNear_b3 C hr (fun a b c => ih a b c) hH hf hl
set_option maxHeartbeats 4000000 in
set_option maxRecDepth 100000 in
theorem c_X10_isNear {l : Launch} {g : GD} {h : PH} {a0 : Nat} {x1 : Int64} {x3 : Int32} {r : Int32} {h' : PH} (hf : mX10_isNear h a0 x1 x3 = some (r, h')) : Met l yX10_isNear (Cond.code yX10_isNear cX10_isNear 7 (some .boolean) :: TB) (rmD 0 0 0) (PcH g [.ref (gB g + a0), .long x1, .int x3] h) (QcI g r h') 0 0 (aB g) := by
  refine Met.ofW (cc := cX10_isNear) (maxL := 7) (ret := some .boolean) (by decide) rfl ?_
  intro p e s m args below meth c s₁ B hml hv
  obtain ⟨rfl, hH0, hkk0⟩ := hv
  have C : CT g RX10 cX10_isNear 7 (Cond.code yX10_isNear cX10_isNear 7 (some .boolean) :: TB) p s m _ meth c := pg_ct (Tw := []) B hml hH0 hkk0
  have hr := B.returns
  have hH : HS g s s.heap [] h := ⟨hH0, va_S.rf⟩
  have hl := lv_entry ([.ref (gB g + a0), .long x1, .int x3]) (n := 7) (Nat.le_of_ble_eq_true rfl)
  rw [lg_entry_eq]
  generalize (lg_sl ([.ref (gB g + a0), .long x1, .int x3]) ++ List.replicate (7 - (lg_sl ([.ref (gB g + a0), .long x1, .int x3])).length) Slot.unset).toArray = ls at hl ⊢
  have hl : lv_has ls 7 [(0, .ref (gB g + a0)), (1, .long x1), (3, .int x3)] := hl
  show W p l e (rmD 0 0 0) _ _ _ _ _ _ _ _ _ _ _ _
  unfold mX10_isNear at hf
  obtain ⟨hO, hf⟩ := oO_sp hf
  obtain ⟨⟨hx, hb, hml, hown, hts⟩, htb, hlk, hkk, hbs⟩ := id C
  refine lv_iconst (v := (0 : Int32)) hx hb dX10_isNear_0 (by decide) ?_
  refine lv_istore (lv' := [(4, .int (0 : Int32)), (0, .ref (gB g + a0)), (1, .long x1), (3, .int x3)]) hx hb dX10_isNear_1 hl (by decide) rfl (fun ls hl => ?_)
  exact wX10_isNear_L3 C hr FU hH hf (lv_sub hl [1, 2, 3, 0] rfl)
set_option maxHeartbeats 4000000 in
set_option maxRecDepth 100000 in
theorem c_X10_doesPass {l : Launch} {g : GD} {h : PH} {a0 : Nat} {x1 : Int32} {r : Int32} {h' : PH} (hf : mX10_doesPass h a0 x1 = some (r, h')) : Met l yX10_doesPass (Cond.code yX10_doesPass cX10_doesPass 2 (some .boolean) :: TB) (rmD 9 0 0) (PcH g [.ref (gB g + a0), .int x1] h) (QcI g r h') 0 0 (aB g) := by
  refine Met.ofW (cc := cX10_doesPass) (maxL := 2) (ret := some .boolean) (by decide) rfl ?_
  intro p e s m args below meth c s₁ B hml hv
  obtain ⟨rfl, hH0, hkk0⟩ := hv
  have C : CT g RX10 cX10_doesPass 2 (Cond.code yX10_doesPass cX10_doesPass 2 (some .boolean) :: TB) p s m _ meth c := pg_ct (Tw := []) B hml hH0 hkk0
  have hr := B.returns
  have hH : HS g s s.heap [] h := ⟨hH0, va_S.rf⟩
  have hl := lv_entry ([.ref (gB g + a0), .int x1]) (n := 2) (Nat.le_of_ble_eq_true rfl)
  rw [lg_entry_eq]
  generalize (lg_sl ([.ref (gB g + a0), .int x1]) ++ List.replicate (2 - (lg_sl ([.ref (gB g + a0), .int x1])).length) Slot.unset).toArray = ls at hl ⊢
  have hl : lv_has ls 2 [(0, .ref (gB g + a0)), (1, .int x1)] := hl
  show W p l e (rmD 9 0 0) _ _ _ _ _ _ _ _ _ _ _ _
  unfold mX10_doesPass at hf
  obtain ⟨hO, hf⟩ := oO_sp hf
  obtain ⟨⟨hx, hb, hml, hown, hts⟩, htb, hlk, hkk, hbs⟩ := id C
  refine lv_aload_n hx hb dX10_doesPass_0 rfl (lv_at hl 0 rfl) ?_
  refine lv_iload_n hx hb dX10_doesPass_1 rfl (lv_at hl 1 rfl) ?_
  refine pg_Vv (As := [.int x1]) C hH mi_X10_laysTests vl_X10_369 (q := (RX10, TX10, 34)) (ci := 10) rfl rfl hf (fun _ e1 => (oO_sp e1).1) (fun _ e1 => c_X10_laysTests e1) rfl rfl hl.1 (Nat.le_of_ble_eq_true rfl) ⟨Nat.le_of_ble_eq_true rfl, Nat.le_of_ble_eq_true rfl⟩ ⟨Nat.zero_le _, Nat.zero_le _⟩ dX10_doesPass_2 (fun H locs h2 hH hf => ?_)
  refine lv_aload_n hx hb dX10_doesPass_5 rfl (lv_at hl 0 rfl) ?_
  refine lv_aload_n hx hb dX10_doesPass_6 rfl (lv_at hl 0 rfl) ?_
  refine lv_iload_n hx hb dX10_doesPass_7 rfl (lv_at hl 1 rfl) ?_
  refine pg_Vl (As := [.int x1]) C hH mi_X10_ownOf vl_X10_335 (q := (RX10, TX10, 34)) (ci := 10) rfl rfl hf (fun _ e1 => (oO_sp e1).1) (fun _ _ e1 => c_X10_ownOf e1) rfl rfl hl.1 (Nat.le_of_ble_eq_true rfl) ⟨Nat.le_of_ble_eq_true rfl, Nat.le_of_ble_eq_true rfl⟩ ⟨Nat.zero_le _, Nat.zero_le _⟩ dX10_doesPass_8 (fun H locs v8 h8 hH hf => ?_)
  refine lv_aload_n hx hb dX10_doesPass_11 rfl (lv_at hl 0 rfl) ?_
  refine pg_gR C hH fl_X10_13 hf dX10_doesPass_12 (fun v12 hf => ?_)
  refine lv_bipush (v := (6 : Int32)) hx hb dX10_doesPass_15 (by decide) ?_
  refine pg_aI C hH hf dX10_doesPass_17 (fun v17 hf => ?_)
  refine pg_Vi (As := [.long v8, .int v17]) C hH mi_X10_isNear vl_X10_372 (q := (RX10, TX10, 34)) (ci := 10) rfl rfl hf (fun _ e1 => (oO_sp e1).1) (fun _ _ e1 => c_X10_isNear e1) rfl rfl hl.1 (Nat.le_of_ble_eq_true rfl) ⟨Nat.le_of_ble_eq_true rfl, Nat.le_of_ble_eq_true rfl⟩ ⟨Nat.zero_le _, Nat.zero_le _⟩ dX10_doesPass_18 (fun H locs v18 h18 hH hf => ?_)
  exact pg_zret C hr hH hf dX10_doesPass_21
set_option maxHeartbeats 4000000 in
set_option maxRecDepth 100000 in
theorem wX10_byOwn_b33 {r : Int64} {h' : PH} (C : CT g RX10 cX10_byOwn 2 (Cond.code yX10_byOwn cX10_byOwn 2 (some .long) :: TB) p s m args meth c) (hr : meth.sig.returnType = some .long) {h : PH} {a0 : Nat} {x1 : Int32} {H : Heap} {locs : List Loc} {ls : Array Slot} (hH : HS g s H locs h) (hf : mX10_byOwn_b33 h a0 x1 = some (r, h')) (hl : lv_has ls 2 [(0, .ref (gB g + a0)), (1, .int x1)]) : W p l e (rmD 10 0 0) s m args below meth c H locs 0 0 (MQ below (QcL g r h') args s 0 0 (aB g)) (F0 m 33 ls []) := by
  obtain ⟨⟨hx, hb, hml, hown, hts⟩, htb, hlk, hkk, hbs⟩ := id C
  unfold mX10_byOwn_b33 at hf
  refine lv_aload_n hx hb dX10_byOwn_33 rfl (lv_at hl 0 rfl) ?_
  refine lv_iload_n hx hb dX10_byOwn_34 rfl (lv_at hl 1 rfl) ?_
  refine pg_Vl (As := [.int x1]) C hH mi_X10_ownOf vl_X10_335 (q := (RX10, TX10, 34)) (ci := 10) rfl rfl hf (fun _ e1 => (oO_sp e1).1) (fun _ _ e1 => c_X10_ownOf e1) rfl rfl hl.1 (Nat.le_of_ble_eq_true rfl) ⟨Nat.le_of_ble_eq_true rfl, Nat.le_of_ble_eq_true rfl⟩ ⟨Nat.zero_le _, Nat.zero_le _⟩ dX10_byOwn_35 (fun H locs v35 h35 hH hf => ?_)
  exact pg_lret C hr hH hf dX10_byOwn_38
set_option maxHeartbeats 4000000 in
set_option maxRecDepth 100000 in
theorem wX10_byOwn_b53 {r : Int64} {h' : PH} (C : CT g RX10 cX10_byOwn 2 (Cond.code yX10_byOwn cX10_byOwn 2 (some .long) :: TB) p s m args meth c) (hr : meth.sig.returnType = some .long) {h : PH} {s0 : Int32} {H : Heap} {locs : List Loc} {ls : Array Slot} (hH : HS g s H locs h) (hf : mX10_byOwn_b53 h s0 = some (r, h')) (hl : lv_has ls 2 []) : W p l e (rmD 10 0 0) s m args below meth c H locs 0 0 (MQ below (QcL g r h') args s 0 0 (aB g)) (F0 m 53 ls [.int s0]) := by
  obtain ⟨⟨hx, hb, hml, hown, hts⟩, htb, hlk, hkk, hbs⟩ := id C
  unfold mX10_byOwn_b53 at hf
  refine pg_Sl (As := [.int s0]) C hH mi_X10_fails sl_X10_376 hf (fun _ _ e1 => c_X10_fails e1) rfl rfl hl.1 (Nat.le_of_ble_eq_true rfl) ⟨Nat.le_of_ble_eq_true rfl, Nat.le_of_ble_eq_true rfl⟩ ⟨Nat.zero_le _, Nat.zero_le _⟩ dX10_byOwn_53 (fun H locs v53 h53 hH hf => ?_)
  exact pg_lret C hr hH hf dX10_byOwn_56
set_option maxHeartbeats 4000000 in
set_option maxRecDepth 100000 in
theorem c_X10_byOwn {l : Launch} {g : GD} {h : PH} {a0 : Nat} {x1 : Int32} {r : Int64} {h' : PH} (hf : mX10_byOwn h a0 x1 = some (r, h')) : Met l yX10_byOwn (Cond.code yX10_byOwn cX10_byOwn 2 (some .long) :: TB) (rmD 10 0 0) (PcH g [.ref (gB g + a0), .int x1] h) (QcL g r h') 0 0 (aB g) := by
  refine Met.ofW (cc := cX10_byOwn) (maxL := 2) (ret := some .long) (by decide) rfl ?_
  intro p e s m args below meth c s₁ B hml hv
  obtain ⟨rfl, hH0, hkk0⟩ := hv
  have C : CT g RX10 cX10_byOwn 2 (Cond.code yX10_byOwn cX10_byOwn 2 (some .long) :: TB) p s m _ meth c := pg_ct (Tw := []) B hml hH0 hkk0
  have hr := B.returns
  have hH : HS g s s.heap [] h := ⟨hH0, va_S.rf⟩
  have hl := lv_entry ([.ref (gB g + a0), .int x1]) (n := 2) (Nat.le_of_ble_eq_true rfl)
  rw [lg_entry_eq]
  generalize (lg_sl ([.ref (gB g + a0), .int x1]) ++ List.replicate (2 - (lg_sl ([.ref (gB g + a0), .int x1])).length) Slot.unset).toArray = ls at hl ⊢
  have hl : lv_has ls 2 [(0, .ref (gB g + a0)), (1, .int x1)] := hl
  show W p l e (rmD 10 0 0) _ _ _ _ _ _ _ _ _ _ _ _
  unfold mX10_byOwn at hf
  obtain ⟨hO, hf⟩ := oO_sp hf
  obtain ⟨⟨hx, hb, hml, hown, hts⟩, htb, hlk, hkk, hbs⟩ := id C
  refine lv_aload_n hx hb dX10_byOwn_0 rfl (lv_at hl 0 rfl) ?_
  refine lv_iload_n hx hb dX10_byOwn_1 rfl (lv_at hl 1 rfl) ?_
  refine lv_bipush (v := (6 : Int32)) hx hb dX10_byOwn_2 (by decide) ?_
  refine pg_Vi (As := [.int x1, .int (6 : Int32)]) C hH mi_X10_of vl_X10_281 (q := (RX10, TX10, 34)) (ci := 10) rfl rfl hf (fun _ e1 => (oO_sp e1).1) (fun _ _ e1 => c_X10_of e1) rfl rfl hl.1 (Nat.le_of_ble_eq_true rfl) ⟨Nat.le_of_ble_eq_true rfl, Nat.le_of_ble_eq_true rfl⟩ ⟨Nat.zero_le _, Nat.zero_le _⟩ dX10_byOwn_4 (fun H locs v4 h4 hH hf => ?_)
  refine lv_iconst (v := (1 : Int32)) hx hb dX10_byOwn_7 (by decide) ?_
  refine lv_icmp_ne (tgt := 17) hx hb dX10_byOwn_8 (by decide) (fun cn => ?_) (fun cn => ?_)
  · have hf := (if_neg cn).symm.trans hf
    refine lv_aload_n hx hb dX10_byOwn_17 rfl (lv_at hl 0 rfl) ?_
    refine lv_iload_n hx hb dX10_byOwn_18 rfl (lv_at hl 1 rfl) ?_
    refine pg_Vi (As := [.int x1]) C hH mi_X10_isBetweenKin vl_X10_347 (q := (RX10, TX10, 34)) (ci := 10) rfl rfl hf (fun _ e1 => (oO_sp e1).1) (fun _ _ e1 => c_X10_isBetweenKin e1) rfl rfl hl.1 (Nat.le_of_ble_eq_true rfl) ⟨Nat.le_of_ble_eq_true rfl, Nat.le_of_ble_eq_true rfl⟩ ⟨Nat.zero_le _, Nat.zero_le _⟩ dX10_byOwn_19 (fun H locs v19 h19 hH hf => ?_)
    refine lv_if_eq (tgt := 33) hx hb dX10_byOwn_22 (by decide) (fun cn => ?_) (fun cn => ?_)
    · have hf := (if_pos cn).symm.trans hf
      exact wX10_byOwn_b33 C hr hH hf (lv_sub hl [0, 1] rfl)
    · have hf := (if_neg cn).symm.trans hf
      refine lv_aload_n hx hb dX10_byOwn_25 rfl (lv_at hl 0 rfl) ?_
      refine lv_iload_n hx hb dX10_byOwn_26 rfl (lv_at hl 1 rfl) ?_
      refine pg_Vi (As := [.int x1]) C hH mi_X10_doesPass vl_X10_379 (q := (RX10, TX10, 34)) (ci := 10) rfl rfl hf (fun _ e1 => (oO_sp e1).1) (fun _ _ e1 => c_X10_doesPass e1) rfl rfl hl.1 (Nat.le_of_ble_eq_true rfl) ⟨Nat.le_of_ble_eq_true rfl, Nat.le_of_ble_eq_true rfl⟩ ⟨Nat.zero_le _, Nat.zero_le _⟩ dX10_byOwn_27 (fun H locs v27 h27 hH hf => ?_)
      refine lv_if_eq (tgt := 39) hx hb dX10_byOwn_30 (by decide) (fun cn => ?_) (fun cn => ?_)
      · have hf := (if_pos cn).symm.trans hf
        refine lv_aload_n hx hb dX10_byOwn_39 rfl (lv_at hl 0 rfl) ?_
        refine pg_gI C hH fl_X10_344 hf dX10_byOwn_40 (fun v40 hf => ?_)
        refine lv_if_ne (tgt := 51) hx hb dX10_byOwn_43 (by decide) (fun cn => ?_) (fun cn => ?_)
        · have hf := (if_neg cn).symm.trans hf
          refine lv_bipush (v := (13 : Int32)) hx hb dX10_byOwn_51 (by decide) ?_
          exact wX10_byOwn_b53 C hr hH hf (lv_sub hl [] rfl)
        · have hf := (if_pos cn).symm.trans hf
          refine lv_bipush (v := (12 : Int32)) hx hb dX10_byOwn_46 (by decide) ?_
          refine lv_goto (tgt := 53) hx hb dX10_byOwn_48 (by decide) ?_
          exact wX10_byOwn_b53 C hr hH hf (lv_sub hl [] rfl)
      · have hf := (if_neg cn).symm.trans hf
        exact wX10_byOwn_b33 C hr hH hf (lv_sub hl [0, 1] rfl)
  · have hf := (if_pos cn).symm.trans hf
    refine lv_bipush (v := (11 : Int32)) hx hb dX10_byOwn_11 (by decide) ?_
    refine pg_Sl (As := [.int (11 : Int32)]) C hH mi_X10_fails sl_X10_376 hf (fun _ _ e1 => c_X10_fails e1) rfl rfl hl.1 (Nat.le_of_ble_eq_true rfl) ⟨Nat.le_of_ble_eq_true rfl, Nat.le_of_ble_eq_true rfl⟩ ⟨Nat.zero_le _, Nat.zero_le _⟩ dX10_byOwn_13 (fun H locs v13 h13 hH hf => ?_)
    exact pg_lret C hr hH hf dX10_byOwn_16
set_option maxHeartbeats 4000000 in
set_option maxRecDepth 100000 in
theorem c_X10_isOf {l : Launch} {g : GD} {h : PH} {a0 : Nat} {x1 : Int32} {x2 : Int32} {x3 : Int32} {r : Int32} {h' : PH} (hf : mX10_isOf h a0 x1 x2 x3 = some (r, h')) : Met l yX10_isOf (Cond.code yX10_isOf cX10_isOf 4 (some .boolean) :: TB) (rmD 3 0 0) (PcH g [.ref (gB g + a0), .int x1, .int x2, .int x3] h) (QcI g r h') 0 0 (aB g) := by
  refine Met.ofW (cc := cX10_isOf) (maxL := 4) (ret := some .boolean) (by decide) rfl ?_
  intro p e s m args below meth c s₁ B hml hv
  obtain ⟨rfl, hH0, hkk0⟩ := hv
  have C : CT g RX10 cX10_isOf 4 (Cond.code yX10_isOf cX10_isOf 4 (some .boolean) :: TB) p s m _ meth c := pg_ct (Tw := []) B hml hH0 hkk0
  have hr := B.returns
  have hH : HS g s s.heap [] h := ⟨hH0, va_S.rf⟩
  have hl := lv_entry ([.ref (gB g + a0), .int x1, .int x2, .int x3]) (n := 4) (Nat.le_of_ble_eq_true rfl)
  rw [lg_entry_eq]
  generalize (lg_sl ([.ref (gB g + a0), .int x1, .int x2, .int x3]) ++ List.replicate (4 - (lg_sl ([.ref (gB g + a0), .int x1, .int x2, .int x3])).length) Slot.unset).toArray = ls at hl ⊢
  have hl : lv_has ls 4 [(0, .ref (gB g + a0)), (1, .int x1), (2, .int x2), (3, .int x3)] := hl
  show W p l e (rmD 3 0 0) _ _ _ _ _ _ _ _ _ _ _ _
  unfold mX10_isOf at hf
  obtain ⟨hO, hf⟩ := oO_sp hf
  obtain ⟨⟨hx, hb, hml, hown, hts⟩, htb, hlk, hkk, hbs⟩ := id C
  refine lv_iload_n hx hb dX10_isOf_0 rfl (lv_at hl 3 rfl) ?_
  refine lv_iconst (v := (3 : Int32)) hx hb dX10_isOf_1 (by decide) ?_
  refine lv_icmp_ne (tgt := 38) hx hb dX10_isOf_2 (by decide) (fun cn => ?_) (fun cn => ?_)
  · have hf := (if_neg cn).symm.trans hf
    refine lv_aload_n hx hb dX10_isOf_38 rfl (lv_at hl 0 rfl) ?_
    refine lv_iload_n hx hb dX10_isOf_39 rfl (lv_at hl 1 rfl) ?_
    refine lv_iload_n hx hb dX10_isOf_40 rfl (lv_at hl 2 rfl) ?_
    refine pg_Vi (As := [.int x1, .int x2]) C hH mi_X10_likeSales vl_X10_350 (q := (RX10, TX10, 34)) (ci := 10) rfl rfl hf (fun _ e1 => (oO_sp e1).1) (fun _ _ e1 => c_X10_likeSales e1) rfl rfl hl.1 (Nat.le_of_ble_eq_true rfl) ⟨Nat.le_of_ble_eq_true rfl, Nat.le_of_ble_eq_true rfl⟩ ⟨Nat.zero_le _, Nat.zero_le _⟩ dX10_isOf_41 (fun H locs v41 h41 hH hf => ?_)
    refine lv_iload_n hx hb dX10_isOf_44 rfl (lv_at hl 3 rfl) ?_
    refine lv_icmp_ne (tgt := 61) hx hb dX10_isOf_45 (by decide) (fun cn => ?_) (fun cn => ?_)
    · have hf := (if_neg cn).symm.trans hf
      refine lv_iconst (v := (0 : Int32)) hx hb dX10_isOf_61 (by decide) ?_
      exact pg_zret C hr hH hf dX10_isOf_62
    · have hf := (if_pos cn).symm.trans hf
      refine lv_aload_n hx hb dX10_isOf_48 rfl (lv_at hl 0 rfl) ?_
      refine lv_iload_n hx hb dX10_isOf_49 rfl (lv_at hl 1 rfl) ?_
      refine lv_iload_n hx hb dX10_isOf_50 rfl (lv_at hl 2 rfl) ?_
      refine pg_Vi (As := [.int x1, .int x2]) C hH mi_X10_isNearDay vl_X10_353 (q := (RX10, TX10, 34)) (ci := 10) rfl rfl hf (fun _ e1 => (oO_sp e1).1) (fun _ _ e1 => c_X10_isNearDay e1) rfl rfl hl.1 (Nat.le_of_ble_eq_true rfl) ⟨Nat.le_of_ble_eq_true rfl, Nat.le_of_ble_eq_true rfl⟩ ⟨Nat.zero_le _, Nat.zero_le _⟩ dX10_isOf_51 (fun H locs v51 h51 hH hf => ?_)
      refine lv_if_eq (tgt := 61) hx hb dX10_isOf_54 (by decide) (fun cn => ?_) (fun cn => ?_)
      · have hf := (if_pos cn).symm.trans hf
        refine lv_iconst (v := (0 : Int32)) hx hb dX10_isOf_61 (by decide) ?_
        exact pg_zret C hr hH hf dX10_isOf_62
      · have hf := (if_neg cn).symm.trans hf
        refine lv_iconst (v := (1 : Int32)) hx hb dX10_isOf_57 (by decide) ?_
        refine lv_goto (tgt := 62) hx hb dX10_isOf_58 (by decide) ?_
        exact pg_zret C hr hH hf dX10_isOf_62
  · have hf := (if_pos cn).symm.trans hf
    refine lv_aload_n hx hb dX10_isOf_5 rfl (lv_at hl 0 rfl) ?_
    refine lv_aload_n hx hb dX10_isOf_6 rfl (lv_at hl 0 rfl) ?_
    refine lv_iload_n hx hb dX10_isOf_7 rfl (lv_at hl 1 rfl) ?_
    refine lv_iconst (v := (0 : Int32)) hx hb dX10_isOf_8 (by decide) ?_
    refine pg_Vi (As := [.int x1, .int (0 : Int32)]) C hH mi_X10_of vl_X10_281 (q := (RX10, TX10, 34)) (ci := 10) rfl rfl hf (fun _ e1 => (oO_sp e1).1) (fun _ _ e1 => c_X10_of e1) rfl rfl hl.1 (Nat.le_of_ble_eq_true rfl) ⟨Nat.le_of_ble_eq_true rfl, Nat.le_of_ble_eq_true rfl⟩ ⟨Nat.zero_le _, Nat.zero_le _⟩ dX10_isOf_9 (fun H locs v9 h9 hH hf => ?_)
    refine lv_iconst (v := (0 : Int32)) hx hb dX10_isOf_12 (by decide) ?_
    refine pg_Vi (As := [.int v9, .int (0 : Int32)]) C hH mi_X10_good vl_X10_298 (q := (RX10, TX10, 34)) (ci := 10) rfl rfl hf (fun _ e1 => (oO_sp e1).1) (fun _ _ e1 => c_X10_good e1) rfl rfl hl.1 (Nat.le_of_ble_eq_true rfl) ⟨Nat.le_of_ble_eq_true rfl, Nat.le_of_ble_eq_true rfl⟩ ⟨Nat.zero_le _, Nat.zero_le _⟩ dX10_isOf_13 (fun H locs v13 h13 hH hf => ?_)
    refine lv_aload_n hx hb dX10_isOf_16 rfl (lv_at hl 0 rfl) ?_
    refine lv_aload_n hx hb dX10_isOf_17 rfl (lv_at hl 0 rfl) ?_
    refine lv_iload_n hx hb dX10_isOf_18 rfl (lv_at hl 2 rfl) ?_
    refine lv_iconst (v := (0 : Int32)) hx hb dX10_isOf_19 (by decide) ?_
    refine pg_Vi (As := [.int x2, .int (0 : Int32)]) C hH mi_X10_of vl_X10_281 (q := (RX10, TX10, 34)) (ci := 10) rfl rfl hf (fun _ e1 => (oO_sp e1).1) (fun _ _ e1 => c_X10_of e1) rfl rfl hl.1 (Nat.le_of_ble_eq_true rfl) ⟨Nat.le_of_ble_eq_true rfl, Nat.le_of_ble_eq_true rfl⟩ ⟨Nat.zero_le _, Nat.zero_le _⟩ dX10_isOf_20 (fun H locs v20 h20 hH hf => ?_)
    refine lv_iconst (v := (0 : Int32)) hx hb dX10_isOf_23 (by decide) ?_
    refine pg_Vi (As := [.int v20, .int (0 : Int32)]) C hH mi_X10_good vl_X10_298 (q := (RX10, TX10, 34)) (ci := 10) rfl rfl hf (fun _ e1 => (oO_sp e1).1) (fun _ _ e1 => c_X10_good e1) rfl rfl hl.1 (Nat.le_of_ble_eq_true rfl) ⟨Nat.le_of_ble_eq_true rfl, Nat.le_of_ble_eq_true rfl⟩ ⟨Nat.zero_le _, Nat.zero_le _⟩ dX10_isOf_24 (fun H locs v24 h24 hH hf => ?_)
    refine lv_icmp_ne (tgt := 34) hx hb dX10_isOf_27 (by decide) (fun cn => ?_) (fun cn => ?_)
    · have hf := (if_neg cn).symm.trans hf
      refine lv_iconst (v := (0 : Int32)) hx hb dX10_isOf_34 (by decide) ?_
      refine lv_goto (tgt := 62) hx hb dX10_isOf_35 (by decide) ?_
      exact pg_zret C hr hH hf dX10_isOf_62
    · have hf := (if_pos cn).symm.trans hf
      refine lv_iconst (v := (1 : Int32)) hx hb dX10_isOf_30 (by decide) ?_
      refine lv_goto (tgt := 62) hx hb dX10_isOf_31 (by decide) ?_
      exact pg_zret C hr hH hf dX10_isOf_62
set_option maxHeartbeats 4000000 in
set_option maxRecDepth 100000 in
theorem wX10_byOthers_b151 {r13 : PH → Nat → Int32 → Int32 → Int32 → Int64 → Int32 → Int32 → Option (Int64 × PH)} {r : Int64} {h' : PH} (C : CT g RX10 cX10_byOthers 11 (Cond.code yX10_byOthers cX10_byOthers 11 (some .long) :: TB) p s m args meth c) (hr : meth.sig.returnType = some .long) (k13 : ∀ {h : PH} {a0 : Nat} {x1 : Int32} {x2 : Int32} {x3 : Int32} {x4 : Int64} {x6 : Int32} {x7 : Int32} {H : Heap} {locs : List Loc} {ls : Array Slot}, HS g s H locs h → r13 h a0 x1 x2 x3 x4 x6 x7 = some (r, h') → lv_has ls 11 [(0, .ref (gB g + a0)), (1, .int x1), (2, .int x2), (3, .int x3), (4, .long x4), (6, .int x6), (7, .int x7)] → W p l e (rmD 11 0 0) s m args below meth c H locs 0 0 (MQ below (QcL g r h') args s 0 0 (aB g)) (F0 m 13 ls [])) {h : PH} {a0 : Nat} {x1 : Int32} {x2 : Int32} {x4 : Int64} {x6 : Int32} {x7 : Int32} {H : Heap} {locs : List Loc} {ls : Array Slot} (hH : HS g s H locs h) (hf : mX10_byOthers_b151 r13 h a0 x1 x2 x4 x6 x7 = some (r, h')) (hl : lv_has ls 11 [(0, .ref (gB g + a0)), (1, .int x1), (2, .int x2), (4, .long x4), (6, .int x6), (7, .int x7)]) : W p l e (rmD 11 0 0) s m args below meth c H locs 0 0 (MQ below (QcL g r h') args s 0 0 (aB g)) (F0 m 151 ls []) := by
  obtain ⟨⟨hx, hb, hml, hown, hts⟩, htb, hlk, hkk, hbs⟩ := id C
  unfold mX10_byOthers_b151 at hf
  refine lv_iconst (v := (1 : Int32)) hx hb dX10_byOthers_151 (by decide) ?_
  refine lv_goto (tgt := 156) hx hb dX10_byOthers_152 (by decide) ?_
  refine lv_istore_n (lv' := [(3, .int (1 : Int32)), (0, .ref (gB g + a0)), (1, .int x1), (2, .int x2), (4, .long x4), (6, .int x6), (7, .int x7)]) hx hb dX10_byOthers_156 rfl hl (by decide) rfl (fun ls hl => ?_)
  refine lv_iinc (v := (x7 + 1)) (lv' := [(7, .int (x7 + 1)), (3, .int (1 : Int32)), (0, .ref (gB g + a0)), (1, .int x1), (2, .int x2), (4, .long x4), (6, .int x6)]) hx hb dX10_byOthers_157 hl (k := 6) rfl rfl (by decide) rfl (fun ls hl => ?_)
  refine lv_goto (tgt := 13) hx hb dX10_byOthers_160 (by decide) ?_
  exact k13 hH hf (lv_sub hl [2, 3, 4, 1, 5, 6, 0] rfl)
set_option maxHeartbeats 4000000 in
set_option maxRecDepth 100000 in
theorem wX10_byOthers_b142 {r13 : PH → Nat → Int32 → Int32 → Int32 → Int64 → Int32 → Int32 → Option (Int64 × PH)} {r : Int64} {h' : PH} (C : CT g RX10 cX10_byOthers 11 (Cond.code yX10_byOthers cX10_byOthers 11 (some .long) :: TB) p s m args meth c) (hr : meth.sig.returnType = some .long) (k13 : ∀ {h : PH} {a0 : Nat} {x1 : Int32} {x2 : Int32} {x3 : Int32} {x4 : Int64} {x6 : Int32} {x7 : Int32} {H : Heap} {locs : List Loc} {ls : Array Slot}, HS g s H locs h → r13 h a0 x1 x2 x3 x4 x6 x7 = some (r, h') → lv_has ls 11 [(0, .ref (gB g + a0)), (1, .int x1), (2, .int x2), (3, .int x3), (4, .long x4), (6, .int x6), (7, .int x7)] → W p l e (rmD 11 0 0) s m args below meth c H locs 0 0 (MQ below (QcL g r h') args s 0 0 (aB g)) (F0 m 13 ls [])) {h : PH} {a0 : Nat} {x1 : Int32} {x2 : Int32} {x3 : Int32} {x4 : Int64} {x6 : Int32} {x7 : Int32} {x8 : Int32} {H : Heap} {locs : List Loc} {ls : Array Slot} (hH : HS g s H locs h) (hf : mX10_byOthers_b142 r13 h a0 x1 x2 x3 x4 x6 x7 x8 = some (r, h')) (hl : lv_has ls 11 [(0, .ref (gB g + a0)), (1, .int x1), (2, .int x2), (3, .int x3), (4, .long x4), (6, .int x6), (7, .int x7), (8, .int x8)]) : W p l e (rmD 11 0 0) s m args below meth c H locs 0 0 (MQ below (QcL g r h') args s 0 0 (aB g)) (F0 m 142 ls []) := by
  obtain ⟨⟨hx, hb, hml, hown, hts⟩, htb, hlk, hkk, hbs⟩ := id C
  unfold mX10_byOthers_b142 at hf
  refine lv_iload_n hx hb dX10_byOthers_142 rfl (lv_at hl 3 rfl) ?_
  refine lv_if_ne (tgt := 151) hx hb dX10_byOthers_143 (by decide) (fun cn => ?_) (fun cn => ?_)
  · have hf := (if_neg cn).symm.trans hf
    exact wX10_byOthers_b151 C hr k13 hH hf (lv_sub hl [0, 1, 2, 4, 5, 6] rfl)
  · have hf := (if_pos cn).symm.trans hf
    refine lv_iload hx hb dX10_byOthers_146 (lv_at hl 7 rfl) ?_
    refine lv_if_eq (tgt := 155) hx hb dX10_byOthers_148 (by decide) (fun cn => ?_) (fun cn => ?_)
    · have hf := (if_pos cn).symm.trans hf
      refine lv_iconst (v := (0 : Int32)) hx hb dX10_byOthers_155 (by decide) ?_
      refine lv_istore_n (lv' := [(3, .int (0 : Int32)), (0, .ref (gB g + a0)), (1, .int x1), (2, .int x2), (4, .long x4), (6, .int x6), (7, .int x7), (8, .int x8)]) hx hb dX10_byOthers_156 rfl hl (by decide) rfl (fun ls hl => ?_)
      refine lv_iinc (v := (x7 + 1)) (lv' := [(7, .int (x7 + 1)), (3, .int (0 : Int32)), (0, .ref (gB g + a0)), (1, .int x1), (2, .int x2), (4, .long x4), (6, .int x6), (8, .int x8)]) hx hb dX10_byOthers_157 hl (k := 6) rfl rfl (by decide) rfl (fun ls hl => ?_)
      refine lv_goto (tgt := 13) hx hb dX10_byOthers_160 (by decide) ?_
      exact k13 hH hf (lv_sub hl [2, 3, 4, 1, 5, 6, 0] rfl)
    · have hf := (if_neg cn).symm.trans hf
      exact wX10_byOthers_b151 C hr k13 hH hf (lv_sub hl [0, 1, 2, 4, 5, 6] rfl)
set_option maxHeartbeats 4000000 in
set_option maxRecDepth 100000 in
theorem wX10_byOthers_b134 {r13 : PH → Nat → Int32 → Int32 → Int32 → Int64 → Int32 → Int32 → Option (Int64 × PH)} {r : Int64} {h' : PH} (C : CT g RX10 cX10_byOthers 11 (Cond.code yX10_byOthers cX10_byOthers 11 (some .long) :: TB) p s m args meth c) (hr : meth.sig.returnType = some .long) (k13 : ∀ {h : PH} {a0 : Nat} {x1 : Int32} {x2 : Int32} {x3 : Int32} {x4 : Int64} {x6 : Int32} {x7 : Int32} {H : Heap} {locs : List Loc} {ls : Array Slot}, HS g s H locs h → r13 h a0 x1 x2 x3 x4 x6 x7 = some (r, h') → lv_has ls 11 [(0, .ref (gB g + a0)), (1, .int x1), (2, .int x2), (3, .int x3), (4, .long x4), (6, .int x6), (7, .int x7)] → W p l e (rmD 11 0 0) s m args below meth c H locs 0 0 (MQ below (QcL g r h') args s 0 0 (aB g)) (F0 m 13 ls [])) {h : PH} {a0 : Nat} {x1 : Int32} {x2 : Int32} {x3 : Int32} {x7 : Int32} {x8 : Int32} {x9 : Int64} {H : Heap} {locs : List Loc} {ls : Array Slot} (hH : HS g s H locs h) (hf : mX10_byOthers_b134 r13 h a0 x1 x2 x3 x7 x8 x9 = some (r, h')) (hl : lv_has ls 11 [(0, .ref (gB g + a0)), (1, .int x1), (2, .int x2), (3, .int x3), (7, .int x7), (8, .int x8), (9, .long x9)]) : W p l e (rmD 11 0 0) s m args below meth c H locs 0 0 (MQ below (QcL g r h') args s 0 0 (aB g)) (F0 m 134 ls []) := by
  obtain ⟨⟨hx, hb, hml, hown, hts⟩, htb, hlk, hkk, hbs⟩ := id C
  unfold mX10_byOthers_b134 at hf
  refine lv_lload hx hb dX10_byOthers_134 (lv_at hl 6 rfl) ?_
  refine lv_lstore (lv' := [(4, .long x9), (0, .ref (gB g + a0)), (1, .int x1), (2, .int x2), (3, .int x3), (7, .int x7), (8, .int x8), (9, .long x9)]) hx hb dX10_byOthers_136 hl (by decide) rfl (fun ls hl => ?_)
  refine lv_iload hx hb dX10_byOthers_138 (lv_at hl 5 rfl) ?_
  refine lv_istore (lv' := [(6, .int x7), (4, .long x9), (0, .ref (gB g + a0)), (1, .int x1), (2, .int x2), (3, .int x3), (7, .int x7), (8, .int x8), (9, .long x9)]) hx hb dX10_byOthers_140 hl (by decide) rfl (fun ls hl => ?_)
  exact wX10_byOthers_b142 C hr k13 hH hf (lv_sub hl [2, 3, 4, 5, 1, 0, 6, 7] rfl)
set_option maxHeartbeats 4000000 in
set_option maxRecDepth 100000 in
theorem wX10_byOthers_b126 {r13 : PH → Nat → Int32 → Int32 → Int32 → Int64 → Int32 → Int32 → Option (Int64 × PH)} {r : Int64} {h' : PH} (C : CT g RX10 cX10_byOthers 11 (Cond.code yX10_byOthers cX10_byOthers 11 (some .long) :: TB) p s m args meth c) (hr : meth.sig.returnType = some .long) (k13 : ∀ {h : PH} {a0 : Nat} {x1 : Int32} {x2 : Int32} {x3 : Int32} {x4 : Int64} {x6 : Int32} {x7 : Int32} {H : Heap} {locs : List Loc} {ls : Array Slot}, HS g s H locs h → r13 h a0 x1 x2 x3 x4 x6 x7 = some (r, h') → lv_has ls 11 [(0, .ref (gB g + a0)), (1, .int x1), (2, .int x2), (3, .int x3), (4, .long x4), (6, .int x6), (7, .int x7)] → W p l e (rmD 11 0 0) s m args below meth c H locs 0 0 (MQ below (QcL g r h') args s 0 0 (aB g)) (F0 m 13 ls [])) {h : PH} {a0 : Nat} {x1 : Int32} {x2 : Int32} {x3 : Int32} {x4 : Int64} {x6 : Int32} {x7 : Int32} {x8 : Int32} {x9 : Int64} {H : Heap} {locs : List Loc} {ls : Array Slot} (hH : HS g s H locs h) (hf : mX10_byOthers_b126 r13 h a0 x1 x2 x3 x4 x6 x7 x8 x9 = some (r, h')) (hl : lv_has ls 11 [(0, .ref (gB g + a0)), (1, .int x1), (2, .int x2), (3, .int x3), (4, .long x4), (6, .int x6), (7, .int x7), (8, .int x8), (9, .long x9)]) : W p l e (rmD 11 0 0) s m args below meth c H locs 0 0 (MQ below (QcL g r h') args s 0 0 (aB g)) (F0 m 126 ls []) := by
  obtain ⟨⟨hx, hb, hml, hown, hts⟩, htb, hlk, hkk, hbs⟩ := id C
  unfold mX10_byOthers_b126 at hf
  refine lv_lload hx hb dX10_byOthers_126 (lv_at hl 8 rfl) ?_
  refine lv_lload hx hb dX10_byOthers_128 (lv_at hl 4 rfl) ?_
  refine W.lcmp hx hb dX10_byOthers_130 ?_
  refine lv_if_ge (tgt := 142) hx hb dX10_byOthers_131 (by decide) (fun cn => ?_) (fun cn => ?_)
  · have hf := (if_pos ((lg_cmp_ge _ _).mp cn)).symm.trans hf
    exact wX10_byOthers_b142 C hr k13 hH hf (lv_sub hl [0, 1, 2, 3, 4, 5, 6, 7] rfl)
  · have hf := (if_neg (fun z => cn ((lg_cmp_ge _ _).mpr z))).symm.trans hf
    exact wX10_byOthers_b134 C hr k13 hH hf (lv_sub hl [0, 1, 2, 3, 6, 7, 8] rfl)
set_option maxHeartbeats 4000000 in
set_option maxRecDepth 100000 in
theorem wX10_byOthers_b102 {r13 : PH → Nat → Int32 → Int32 → Int32 → Int64 → Int32 → Int32 → Option (Int64 × PH)} {r : Int64} {h' : PH} (C : CT g RX10 cX10_byOthers 11 (Cond.code yX10_byOthers cX10_byOthers 11 (some .long) :: TB) p s m args meth c) (hr : meth.sig.returnType = some .long) (k13 : ∀ {h : PH} {a0 : Nat} {x1 : Int32} {x2 : Int32} {x3 : Int32} {x4 : Int64} {x6 : Int32} {x7 : Int32} {H : Heap} {locs : List Loc} {ls : Array Slot}, HS g s H locs h → r13 h a0 x1 x2 x3 x4 x6 x7 = some (r, h') → lv_has ls 11 [(0, .ref (gB g + a0)), (1, .int x1), (2, .int x2), (3, .int x3), (4, .long x4), (6, .int x6), (7, .int x7)] → W p l e (rmD 11 0 0) s m args below meth c H locs 0 0 (MQ below (QcL g r h') args s 0 0 (aB g)) (F0 m 13 ls [])) {h : PH} {a0 : Nat} {x1 : Int32} {x2 : Int32} {x3 : Int32} {x4 : Int64} {x6 : Int32} {x7 : Int32} {x8 : Int32} {H : Heap} {locs : List Loc} {ls : Array Slot} (hH : HS g s H locs h) (hf : mX10_byOthers_b102 r13 h a0 x1 x2 x3 x4 x6 x7 x8 = some (r, h')) (hl : lv_has ls 11 [(0, .ref (gB g + a0)), (1, .int x1), (2, .int x2), (3, .int x3), (4, .long x4), (6, .int x6), (7, .int x7), (8, .int x8)]) : W p l e (rmD 11 0 0) s m args below meth c H locs 0 0 (MQ below (QcL g r h') args s 0 0 (aB g)) (F0 m 102 ls []) := by
  obtain ⟨⟨hx, hb, hml, hown, hts⟩, htb, hlk, hkk, hbs⟩ := id C
  unfold mX10_byOthers_b102 at hf
  refine lv_aload_n hx hb dX10_byOthers_102 rfl (lv_at hl 0 rfl) ?_
  refine lv_iload_n hx hb dX10_byOthers_103 rfl (lv_at hl 1 rfl) ?_
  refine lv_iload hx hb dX10_byOthers_104 (lv_at hl 6 rfl) ?_
  refine pg_Vl (As := [.int x1, .int x7]) C hH mi_X10_brought vl_X10_356 (q := (RX10, TX10, 34)) (ci := 10) rfl rfl hf (fun _ e1 => (oO_sp e1).1) (fun _ _ e1 => c_X10_brought e1) rfl rfl hl.1 (Nat.le_of_ble_eq_true rfl) ⟨Nat.le_of_ble_eq_true rfl, Nat.le_of_ble_eq_true rfl⟩ ⟨Nat.zero_le _, Nat.zero_le _⟩ dX10_byOthers_106 (fun H locs v106 h106 hH hf => ?_)
  refine lv_lstore (lv' := [(9, .long v106), (0, .ref (gB g + a0)), (1, .int x1), (2, .int x2), (3, .int x3), (4, .long x4), (6, .int x6), (7, .int x7), (8, .int x8)]) hx hb dX10_byOthers_109 hl (by decide) rfl (fun ls hl => ?_)
  refine lv_iload hx hb dX10_byOthers_111 (lv_at hl 6 rfl) ?_
  refine lv_iconst (v := (-1 : Int32)) hx hb dX10_byOthers_113 (by decide) ?_
  refine lv_icmp_eq (tgt := 134) hx hb dX10_byOthers_114 (by decide) (fun cn => ?_) (fun cn => ?_)
  · have hf := (if_pos cn).symm.trans hf
    exact wX10_byOthers_b134 C hr k13 hH hf (lv_sub hl [1, 2, 3, 4, 7, 8, 0] rfl)
  · have hf := (if_neg cn).symm.trans hf
    refine lv_iload hx hb dX10_byOthers_117 (lv_at hl 8 rfl) ?_
    refine lv_if_eq (tgt := 126) hx hb dX10_byOthers_119 (by decide) (fun cn => ?_) (fun cn => ?_)
    · have hf := (if_pos cn).symm.trans hf
      exact wX10_byOthers_b126 C hr k13 hH hf (lv_sub hl [1, 2, 3, 4, 5, 6, 7, 8, 0] rfl)
    · have hf := (if_neg cn).symm.trans hf
      refine lv_iload_n hx hb dX10_byOthers_122 rfl (lv_at hl 4 rfl) ?_
      refine lv_if_eq (tgt := 134) hx hb dX10_byOthers_123 (by decide) (fun cn => ?_) (fun cn => ?_)
      · have hf := (if_pos cn).symm.trans hf
        exact wX10_byOthers_b134 C hr k13 hH hf (lv_sub hl [1, 2, 3, 4, 7, 8, 0] rfl)
      · have hf := (if_neg cn).symm.trans hf
        exact wX10_byOthers_b126 C hr k13 hH hf (lv_sub hl [1, 2, 3, 4, 5, 6, 7, 8, 0] rfl)
set_option maxHeartbeats 4000000 in
set_option maxRecDepth 100000 in
theorem wX10_byOthers_b88 {r13 : PH → Nat → Int32 → Int32 → Int32 → Int64 → Int32 → Int32 → Option (Int64 × PH)} {r : Int64} {h' : PH} (C : CT g RX10 cX10_byOthers 11 (Cond.code yX10_byOthers cX10_byOthers 11 (some .long) :: TB) p s m args meth c) (hr : meth.sig.returnType = some .long) (k13 : ∀ {h : PH} {a0 : Nat} {x1 : Int32} {x2 : Int32} {x3 : Int32} {x4 : Int64} {x6 : Int32} {x7 : Int32} {H : Heap} {locs : List Loc} {ls : Array Slot}, HS g s H locs h → r13 h a0 x1 x2 x3 x4 x6 x7 = some (r, h') → lv_has ls 11 [(0, .ref (gB g + a0)), (1, .int x1), (2, .int x2), (3, .int x3), (4, .long x4), (6, .int x6), (7, .int x7)] → W p l e (rmD 11 0 0) s m args below meth c H locs 0 0 (MQ below (QcL g r h') args s 0 0 (aB g)) (F0 m 13 ls [])) {h : PH} {a0 : Nat} {x1 : Int32} {x2 : Int32} {x3 : Int32} {x4 : Int64} {x6 : Int32} {x7 : Int32} {s0 : Int32} {H : Heap} {locs : List Loc} {ls : Array Slot} (hH : HS g s H locs h) (hf : mX10_byOthers_b88 r13 h a0 x1 x2 x3 x4 x6 x7 s0 = some (r, h')) (hl : lv_has ls 11 [(0, .ref (gB g + a0)), (1, .int x1), (2, .int x2), (3, .int x3), (4, .long x4), (6, .int x6), (7, .int x7)]) : W p l e (rmD 11 0 0) s m args below meth c H locs 0 0 (MQ below (QcL g r h') args s 0 0 (aB g)) (F0 m 88 ls [.int s0]) := by
  obtain ⟨⟨hx, hb, hml, hown, hts⟩, htb, hlk, hkk, hbs⟩ := id C
  unfold mX10_byOthers_b88 at hf
  refine lv_istore (lv' := [(8, .int s0), (0, .ref (gB g + a0)), (1, .int x1), (2, .int x2), (3, .int x3), (4, .long x4), (6, .int x6), (7, .int x7)]) hx hb dX10_byOthers_88 hl (by decide) rfl (fun ls hl => ?_)
  refine lv_iload_n hx hb dX10_byOthers_90 rfl (lv_at hl 4 rfl) ?_
  refine lv_if_eq (tgt := 102) hx hb dX10_byOthers_91 (by decide) (fun cn => ?_) (fun cn => ?_)
  · have hf := (if_pos cn).symm.trans hf
    exact wX10_byOthers_b102 C hr k13 hH hf (lv_sub hl [1, 2, 3, 4, 5, 6, 7, 0] rfl)
  · have hf := (if_neg cn).symm.trans hf
    refine lv_iload hx hb dX10_byOthers_94 (lv_at hl 0 rfl) ?_
    refine lv_if_ne (tgt := 102) hx hb dX10_byOthers_96 (by decide) (fun cn => ?_) (fun cn => ?_)
    · have hf := (if_neg cn).symm.trans hf
      exact wX10_byOthers_b102 C hr k13 hH hf (lv_sub hl [1, 2, 3, 4, 5, 6, 7, 0] rfl)
    · have hf := (if_pos cn).symm.trans hf
      refine lv_goto (tgt := 157) hx hb dX10_byOthers_99 (by decide) ?_
      refine lv_iinc (v := (x7 + 1)) (lv' := [(7, .int (x7 + 1)), (8, .int s0), (0, .ref (gB g + a0)), (1, .int x1), (2, .int x2), (3, .int x3), (4, .long x4), (6, .int x6)]) hx hb dX10_byOthers_157 hl (k := 7) rfl rfl (by decide) rfl (fun ls hl => ?_)
      refine lv_goto (tgt := 13) hx hb dX10_byOthers_160 (by decide) ?_
      exact k13 hH hf (lv_sub hl [2, 3, 4, 5, 6, 7, 0] rfl)
set_option maxHeartbeats 4000000 in
set_option maxRecDepth 100000 in
theorem wX10_byOthers_b87 {r13 : PH → Nat → Int32 → Int32 → Int32 → Int64 → Int32 → Int32 → Option (Int64 × PH)} {r : Int64} {h' : PH} (C : CT g RX10 cX10_byOthers 11 (Cond.code yX10_byOthers cX10_byOthers 11 (some .long) :: TB) p s m args meth c) (hr : meth.sig.returnType = some .long) (k13 : ∀ {h : PH} {a0 : Nat} {x1 : Int32} {x2 : Int32} {x3 : Int32} {x4 : Int64} {x6 : Int32} {x7 : Int32} {H : Heap} {locs : List Loc} {ls : Array Slot}, HS g s H locs h → r13 h a0 x1 x2 x3 x4 x6 x7 = some (r, h') → lv_has ls 11 [(0, .ref (gB g + a0)), (1, .int x1), (2, .int x2), (3, .int x3), (4, .long x4), (6, .int x6), (7, .int x7)] → W p l e (rmD 11 0 0) s m args below meth c H locs 0 0 (MQ below (QcL g r h') args s 0 0 (aB g)) (F0 m 13 ls [])) {h : PH} {a0 : Nat} {x1 : Int32} {x2 : Int32} {x3 : Int32} {x4 : Int64} {x6 : Int32} {x7 : Int32} {H : Heap} {locs : List Loc} {ls : Array Slot} (hH : HS g s H locs h) (hf : mX10_byOthers_b87 r13 h a0 x1 x2 x3 x4 x6 x7 = some (r, h')) (hl : lv_has ls 11 [(0, .ref (gB g + a0)), (1, .int x1), (2, .int x2), (3, .int x3), (4, .long x4), (6, .int x6), (7, .int x7)]) : W p l e (rmD 11 0 0) s m args below meth c H locs 0 0 (MQ below (QcL g r h') args s 0 0 (aB g)) (F0 m 87 ls []) := by
  obtain ⟨⟨hx, hb, hml, hown, hts⟩, htb, hlk, hkk, hbs⟩ := id C
  unfold mX10_byOthers_b87 at hf
  refine lv_iconst (v := (0 : Int32)) hx hb dX10_byOthers_87 (by decide) ?_
  exact wX10_byOthers_b88 C hr k13 hH hf (lv_sub hl [0, 1, 2, 3, 4, 5, 6] rfl)
set_option maxHeartbeats 4000000 in
set_option maxRecDepth 100000 in
theorem wX10_byOthers_b192 {r : Int64} {h' : PH} (C : CT g RX10 cX10_byOthers 11 (Cond.code yX10_byOthers cX10_byOthers 11 (some .long) :: TB) p s m args meth c) (hr : meth.sig.returnType = some .long) {h : PH} {s0 : Int32} {H : Heap} {locs : List Loc} {ls : Array Slot} (hH : HS g s H locs h) (hf : mX10_byOthers_b192 h s0 = some (r, h')) (hl : lv_has ls 11 []) : W p l e (rmD 11 0 0) s m args below meth c H locs 0 0 (MQ below (QcL g r h') args s 0 0 (aB g)) (F0 m 192 ls [.int s0]) := by
  obtain ⟨⟨hx, hb, hml, hown, hts⟩, htb, hlk, hkk, hbs⟩ := id C
  unfold mX10_byOthers_b192 at hf
  refine pg_Sl (As := [.int s0]) C hH mi_X10_fails sl_X10_376 hf (fun _ _ e1 => c_X10_fails e1) rfl rfl hl.1 (Nat.le_of_ble_eq_true rfl) ⟨Nat.le_of_ble_eq_true rfl, Nat.le_of_ble_eq_true rfl⟩ ⟨Nat.zero_le _, Nat.zero_le _⟩ dX10_byOthers_192 (fun H locs v192 h192 hH hf => ?_)
  refine lv_goto (tgt := 200) hx hb dX10_byOthers_195 (by decide) ?_
  exact pg_lret C hr hH hf dX10_byOthers_200
set_option maxHeartbeats 4000000 in
set_option maxRecDepth 100000 in
theorem wX10_byOthers_b13 {r13 : PH → Nat → Int32 → Int32 → Int32 → Int64 → Int32 → Int32 → Option (Int64 × PH)} {r : Int64} {h' : PH} (C : CT g RX10 cX10_byOthers 11 (Cond.code yX10_byOthers cX10_byOthers 11 (some .long) :: TB) p s m args meth c) (hr : meth.sig.returnType = some .long) (k13 : ∀ {h : PH} {a0 : Nat} {x1 : Int32} {x2 : Int32} {x3 : Int32} {x4 : Int64} {x6 : Int32} {x7 : Int32} {H : Heap} {locs : List Loc} {ls : Array Slot}, HS g s H locs h → r13 h a0 x1 x2 x3 x4 x6 x7 = some (r, h') → lv_has ls 11 [(0, .ref (gB g + a0)), (1, .int x1), (2, .int x2), (3, .int x3), (4, .long x4), (6, .int x6), (7, .int x7)] → W p l e (rmD 11 0 0) s m args below meth c H locs 0 0 (MQ below (QcL g r h') args s 0 0 (aB g)) (F0 m 13 ls [])) {h : PH} {a0 : Nat} {x1 : Int32} {x2 : Int32} {x3 : Int32} {x4 : Int64} {x6 : Int32} {x7 : Int32} {H : Heap} {locs : List Loc} {ls : Array Slot} (hH : HS g s H locs h) (hf : mX10_byOthers_b13 r13 h a0 x1 x2 x3 x4 x6 x7 = some (r, h')) (hl : lv_has ls 11 [(0, .ref (gB g + a0)), (1, .int x1), (2, .int x2), (3, .int x3), (4, .long x4), (6, .int x6), (7, .int x7)]) : W p l e (rmD 11 0 0) s m args below meth c H locs 0 0 (MQ below (QcL g r h') args s 0 0 (aB g)) (F0 m 13 ls []) := by
  obtain ⟨⟨hx, hb, hml, hown, hts⟩, htb, hlk, hkk, hbs⟩ := id C
  unfold mX10_byOthers_b13 at hf
  refine lv_iload hx hb dX10_byOthers_13 (lv_at hl 6 rfl) ?_
  refine lv_aload_n hx hb dX10_byOthers_15 rfl (lv_at hl 0 rfl) ?_
  refine pg_gR C hH fl_X10_13 hf dX10_byOthers_16 (fun v16 hf => ?_)
  refine lv_iconst (v := (3 : Int32)) hx hb dX10_byOthers_19 (by decide) ?_
  refine pg_aI C hH hf dX10_byOthers_20 (fun v20 hf => ?_)
  refine lv_icmp_ge (tgt := 163) hx hb dX10_byOthers_21 (by decide) (fun cn => ?_) (fun cn => ?_)
  · have hf := (if_pos cn).symm.trans hf
    refine lv_aload_n hx hb dX10_byOthers_163 rfl (lv_at hl 0 rfl) ?_
    refine lv_iload hx hb dX10_byOthers_164 (lv_at hl 5 rfl) ?_
    refine pg_pI C hH fl_X10_391 fm_10_28 hf dX10_byOthers_166 (fun H locs h166 hH hf => ?_)
    refine lv_iload hx hb dX10_byOthers_169 (lv_at hl 5 rfl) ?_
    refine lv_iconst (v := (-1 : Int32)) hx hb dX10_byOthers_171 (by decide) ?_
    refine lv_icmp_ne (tgt := 198) hx hb dX10_byOthers_172 (by decide) (fun cn => ?_) (fun cn => ?_)
    · have hf := (if_neg cn).symm.trans hf
      refine lv_lload hx hb dX10_byOthers_198 (lv_at hl 4 rfl) ?_
      exact pg_lret C hr hH hf dX10_byOthers_200
    · have hf := (if_pos cn).symm.trans hf
      refine lv_iload_n hx hb dX10_byOthers_175 rfl (lv_at hl 2 rfl) ?_
      refine lv_iconst (v := (3 : Int32)) hx hb dX10_byOthers_176 (by decide) ?_
      refine lv_icmp_ne (tgt := 185) hx hb dX10_byOthers_177 (by decide) (fun cn => ?_) (fun cn => ?_)
      · have hf := (if_neg cn).symm.trans hf
        refine lv_bipush (v := (10 : Int32)) hx hb dX10_byOthers_185 (by decide) ?_
        refine lv_iload_n hx hb dX10_byOthers_187 rfl (lv_at hl 2 rfl) ?_
        refine lv_imul hx hb dX10_byOthers_188 ?_
        refine lv_bipush (v := (11 : Int32)) hx hb dX10_byOthers_189 (by decide) ?_
        refine lv_iadd hx hb dX10_byOthers_191 ?_
        exact wX10_byOthers_b192 C hr hH hf (lv_sub hl [] rfl)
      · have hf := (if_pos cn).symm.trans hf
        refine lv_bipush (v := (61 : Int32)) hx hb dX10_byOthers_180 (by decide) ?_
        refine lv_goto (tgt := 192) hx hb dX10_byOthers_182 (by decide) ?_
        exact wX10_byOthers_b192 C hr hH hf (lv_sub hl [] rfl)
  · have hf := (if_neg cn).symm.trans hf
    refine lv_iload hx hb dX10_byOthers_24 (lv_at hl 6 rfl) ?_
    refine lv_iload_n hx hb dX10_byOthers_26 rfl (lv_at hl 1 rfl) ?_
    refine lv_icmp_eq (tgt := 157) hx hb dX10_byOthers_27 (by decide) (fun cn => ?_) (fun cn => ?_)
    · have hf := (if_pos cn).symm.trans hf
      refine lv_iinc (v := (x7 + 1)) (lv' := [(7, .int (x7 + 1)), (0, .ref (gB g + a0)), (1, .int x1), (2, .int x2), (3, .int x3), (4, .long x4), (6, .int x6)]) hx hb dX10_byOthers_157 hl (k := 6) rfl rfl (by decide) rfl (fun ls hl => ?_)
      refine lv_goto (tgt := 13) hx hb dX10_byOthers_160 (by decide) ?_
      exact k13 hH hf (lv_sub hl [1, 2, 3, 4, 5, 6, 0] rfl)
    · have hf := (if_neg cn).symm.trans hf
      refine lv_aload_n hx hb dX10_byOthers_30 rfl (lv_at hl 0 rfl) ?_
      refine lv_iload hx hb dX10_byOthers_31 (lv_at hl 6 rfl) ?_
      refine pg_Vi (As := [.int x7]) C hH mi_X10_isThere vl_X10_304 (q := (RX10, TX10, 34)) (ci := 10) rfl rfl hf (fun _ e1 => (oO_sp e1).1) (fun _ _ e1 => c_X10_isThere e1) rfl rfl hl.1 (Nat.le_of_ble_eq_true rfl) ⟨Nat.le_of_ble_eq_true rfl, Nat.le_of_ble_eq_true rfl⟩ ⟨Nat.zero_le _, Nat.zero_le _⟩ dX10_byOthers_33 (fun H locs v33 h33 hH hf => ?_)
      refine lv_if_eq (tgt := 157) hx hb dX10_byOthers_36 (by decide) (fun cn => ?_) (fun cn => ?_)
      · have hf := (if_pos cn).symm.trans hf
        refine lv_iinc (v := (x7 + 1)) (lv' := [(7, .int (x7 + 1)), (0, .ref (gB g + a0)), (1, .int x1), (2, .int x2), (3, .int x3), (4, .long x4), (6, .int x6)]) hx hb dX10_byOthers_157 hl (k := 6) rfl rfl (by decide) rfl (fun ls hl => ?_)
        refine lv_goto (tgt := 13) hx hb dX10_byOthers_160 (by decide) ?_
        exact k13 hH hf (lv_sub hl [1, 2, 3, 4, 5, 6, 0] rfl)
      · have hf := (if_neg cn).symm.trans hf
        refine lv_aload_n hx hb dX10_byOthers_39 rfl (lv_at hl 0 rfl) ?_
        refine lv_iload_n hx hb dX10_byOthers_40 rfl (lv_at hl 1 rfl) ?_
        refine lv_iload hx hb dX10_byOthers_41 (lv_at hl 6 rfl) ?_
        refine lv_iload_n hx hb dX10_byOthers_43 rfl (lv_at hl 2 rfl) ?_
        refine pg_Vi (As := [.int x1, .int x7, .int x2]) C hH mi_X10_isOf vl_X10_384 (q := (RX10, TX10, 34)) (ci := 10) rfl rfl hf (fun _ e1 => (oO_sp e1).1) (fun _ _ e1 => c_X10_isOf e1) rfl rfl hl.1 (Nat.le_of_ble_eq_true rfl) ⟨Nat.le_of_ble_eq_true rfl, Nat.le_of_ble_eq_true rfl⟩ ⟨Nat.zero_le _, Nat.zero_le _⟩ dX10_byOthers_44 (fun H locs v44 h44 hH hf => ?_)
        refine lv_if_eq (tgt := 157) hx hb dX10_byOthers_47 (by decide) (fun cn => ?_) (fun cn => ?_)
        · have hf := (if_pos cn).symm.trans hf
          refine lv_iinc (v := (x7 + 1)) (lv' := [(7, .int (x7 + 1)), (0, .ref (gB g + a0)), (1, .int x1), (2, .int x2), (3, .int x3), (4, .long x4), (6, .int x6)]) hx hb dX10_byOthers_157 hl (k := 6) rfl rfl (by decide) rfl (fun ls hl => ?_)
          refine lv_goto (tgt := 13) hx hb dX10_byOthers_160 (by decide) ?_
          exact k13 hH hf (lv_sub hl [1, 2, 3, 4, 5, 6, 0] rfl)
        · have hf := (if_neg cn).symm.trans hf
          refine lv_aload_n hx hb dX10_byOthers_50 rfl (lv_at hl 0 rfl) ?_
          refine lv_iload hx hb dX10_byOthers_51 (lv_at hl 6 rfl) ?_
          refine pg_Vl (As := [.int x7]) C hH mi_X10_byOwn vl_X10_388 (q := (RX10, TX10, 34)) (ci := 10) rfl rfl hf (fun _ e1 => (oO_sp e1).1) (fun _ _ e1 => c_X10_byOwn e1) rfl rfl hl.1 (Nat.le_of_ble_eq_true rfl) ⟨Nat.le_of_ble_eq_true rfl, Nat.le_of_ble_eq_true rfl⟩ ⟨Nat.zero_le _, Nat.zero_le _⟩ dX10_byOthers_53 (fun H locs v53 h53 hH hf => ?_)
          refine lv_lconst (v := (0 : Int64)) hx hb dX10_byOthers_56 (by decide) ?_
          refine W.lcmp hx hb dX10_byOthers_57 ?_
          refine lv_if_ge (tgt := 64) hx hb dX10_byOthers_58 (by decide) (fun cn => ?_) (fun cn => ?_)
          · have hf := (if_pos ((lg_cmp_ge _ _).mp cn)).symm.trans hf
            refine lv_iload_n hx hb dX10_byOthers_64 rfl (lv_at hl 2 rfl) ?_
            refine lv_iconst (v := (3 : Int32)) hx hb dX10_byOthers_65 (by decide) ?_
            refine lv_icmp_ge (tgt := 87) hx hb dX10_byOthers_66 (by decide) (fun cn => ?_) (fun cn => ?_)
            · have hf := (if_pos cn).symm.trans hf
              exact wX10_byOthers_b87 C hr k13 hH hf (lv_sub hl [0, 1, 2, 3, 4, 5, 6] rfl)
            · have hf := (if_neg cn).symm.trans hf
              refine lv_aload_n hx hb dX10_byOthers_69 rfl (lv_at hl 0 rfl) ?_
              refine lv_iload_n hx hb dX10_byOthers_70 rfl (lv_at hl 1 rfl) ?_
              refine pg_Vi (As := [.int x1]) C hH mi_X10_levelOf vl_X10_285 (q := (RX10, TX10, 34)) (ci := 10) rfl rfl hf (fun _ e1 => (oO_sp e1).1) (fun _ _ e1 => c_X10_levelOf e1) rfl rfl hl.1 (Nat.le_of_ble_eq_true rfl) ⟨Nat.le_of_ble_eq_true rfl, Nat.le_of_ble_eq_true rfl⟩ ⟨Nat.zero_le _, Nat.zero_le _⟩ dX10_byOthers_71 (fun H locs v71 h71 hH hf => ?_)
              refine lv_aload_n hx hb dX10_byOthers_74 rfl (lv_at hl 0 rfl) ?_
              refine lv_iload hx hb dX10_byOthers_75 (lv_at hl 6 rfl) ?_
              refine pg_Vi (As := [.int x7]) C hH mi_X10_levelOf vl_X10_285 (q := (RX10, TX10, 34)) (ci := 10) rfl rfl hf (fun _ e1 => (oO_sp e1).1) (fun _ _ e1 => c_X10_levelOf e1) rfl rfl hl.1 (Nat.le_of_ble_eq_true rfl) ⟨Nat.le_of_ble_eq_true rfl, Nat.le_of_ble_eq_true rfl⟩ ⟨Nat.zero_le _, Nat.zero_le _⟩ dX10_byOthers_77 (fun H locs v77 h77 hH hf => ?_)
              refine lv_icmp_ne (tgt := 87) hx hb dX10_byOthers_80 (by decide) (fun cn => ?_) (fun cn => ?_)
              · have hf := (if_neg cn).symm.trans hf
                exact wX10_byOthers_b87 C hr k13 hH hf (lv_sub hl [0, 1, 2, 3, 4, 5, 6] rfl)
              · have hf := (if_pos cn).symm.trans hf
                refine lv_iconst (v := (1 : Int32)) hx hb dX10_byOthers_83 (by decide) ?_
                refine lv_goto (tgt := 88) hx hb dX10_byOthers_84 (by decide) ?_
                exact wX10_byOthers_b88 C hr k13 hH hf (lv_sub hl [0, 1, 2, 3, 4, 5, 6] rfl)
          · have hf := (if_neg (fun z => cn ((lg_cmp_ge _ _).mpr z))).symm.trans hf
            refine lv_goto (tgt := 157) hx hb dX10_byOthers_61 (by decide) ?_
            refine lv_iinc (v := (x7 + 1)) (lv' := [(7, .int (x7 + 1)), (0, .ref (gB g + a0)), (1, .int x1), (2, .int x2), (3, .int x3), (4, .long x4), (6, .int x6)]) hx hb dX10_byOthers_157 hl (k := 6) rfl rfl (by decide) rfl (fun ls hl => ?_)
            refine lv_goto (tgt := 13) hx hb dX10_byOthers_160 (by decide) ?_
            exact k13 hH hf (lv_sub hl [1, 2, 3, 4, 5, 6, 0] rfl)
set_option maxHeartbeats 4000000 in
set_option maxRecDepth 100000 in
theorem wX10_byOthers_L13 {r : Int64} {h' : PH} (C : CT g RX10 cX10_byOthers 11 (Cond.code yX10_byOthers cX10_byOthers 11 (some .long) :: TB) p s m args meth c) (hr : meth.sig.returnType = some .long) : ∀ (n : Nat) {h : PH} {a0 : Nat} {x1 : Int32} {x2 : Int32} {x3 : Int32} {x4 : Int64} {x6 : Int32} {x7 : Int32} {H : Heap} {locs : List Loc} {ls : Array Slot}, HS g s H locs h → mX10_byOthers_L13 n h a0 x1 x2 x3 x4 x6 x7 = some (r, h') → lv_has ls 11 [(0, .ref (gB g + a0)), (1, .int x1), (2, .int x2), (3, .int x3), (4, .long x4), (6, .int x6), (7, .int x7)] → W p l e (rmD 11 0 0) s m args below meth c H locs 0 0 (MQ below (QcL g r h') args s 0 0 (aB g)) (F0 m 13 ls []) := by
  intro n
  induction n with
  | zero =>
    intro h a0 x1 x2 x3 x4 x6 x7 H locs ls hH hf hl
    exact absurd hf (by intro z; cases z)
  | succ n ih =>
    intro h a0 x1 x2 x3 x4 x6 x7 H locs ls hH hf hl
    have hf : mX10_byOthers_b13 (mX10_byOthers_L13 n) h a0 x1 x2 x3 x4 x6 x7 = some (r, h') := hf
    exact wX10_byOthers_b13 C hr (fun a b c => ih a b c) hH hf hl
set_option maxHeartbeats 4000000 in
set_option maxRecDepth 100000 in
theorem c_X10_byOthers {l : Launch} {g : GD} {h : PH} {a0 : Nat} {x1 : Int32} {x2 : Int32} {r : Int64} {h' : PH} (hf : mX10_byOthers h a0 x1 x2 = some (r, h')) : Met l yX10_byOthers (Cond.code yX10_byOthers cX10_byOthers 11 (some .long) :: TB) (rmD 11 0 0) (PcH g [.ref (gB g + a0), .int x1, .int x2] h) (QcL g r h') 0 0 (aB g) := by
  refine Met.ofW (cc := cX10_byOthers) (maxL := 11) (ret := some .long) (by decide) rfl ?_
  intro p e s m args below meth c s₁ B hml hv
  obtain ⟨rfl, hH0, hkk0⟩ := hv
  have C : CT g RX10 cX10_byOthers 11 (Cond.code yX10_byOthers cX10_byOthers 11 (some .long) :: TB) p s m _ meth c := pg_ct (Tw := []) B hml hH0 hkk0
  have hr := B.returns
  have hH : HS g s s.heap [] h := ⟨hH0, va_S.rf⟩
  have hl := lv_entry ([.ref (gB g + a0), .int x1, .int x2]) (n := 11) (Nat.le_of_ble_eq_true rfl)
  rw [lg_entry_eq]
  generalize (lg_sl ([.ref (gB g + a0), .int x1, .int x2]) ++ List.replicate (11 - (lg_sl ([.ref (gB g + a0), .int x1, .int x2])).length) Slot.unset).toArray = ls at hl ⊢
  have hl : lv_has ls 11 [(0, .ref (gB g + a0)), (1, .int x1), (2, .int x2)] := hl
  show W p l e (rmD 11 0 0) _ _ _ _ _ _ _ _ _ _ _ _
  unfold mX10_byOthers at hf
  obtain ⟨hO, hf⟩ := oO_sp hf
  obtain ⟨⟨hx, hb, hml, hown, hts⟩, htb, hlk, hkk, hbs⟩ := id C
  refine lv_iconst (v := (0 : Int32)) hx hb dX10_byOthers_0 (by decide) ?_
  refine lv_istore_n (lv' := [(3, .int (0 : Int32)), (0, .ref (gB g + a0)), (1, .int x1), (2, .int x2)]) hx hb dX10_byOthers_1 rfl hl (by decide) rfl (fun ls hl => ?_)
  refine lv_ldc2 (v := (-2 : Int64)) hx hb hown (hts _ (htb _ kl_X10_382)) dX10_byOthers_2 ?_
  refine lv_lstore (lv' := [(4, .long (-2 : Int64)), (3, .int (0 : Int32)), (0, .ref (gB g + a0)), (1, .int x1), (2, .int x2)]) hx hb dX10_byOthers_5 hl (by decide) rfl (fun ls hl => ?_)
  refine lv_iconst (v := (-1 : Int32)) hx hb dX10_byOthers_7 (by decide) ?_
  refine lv_istore (lv' := [(6, .int (-1 : Int32)), (4, .long (-2 : Int64)), (3, .int (0 : Int32)), (0, .ref (gB g + a0)), (1, .int x1), (2, .int x2)]) hx hb dX10_byOthers_8 hl (by decide) rfl (fun ls hl => ?_)
  refine lv_iconst (v := (0 : Int32)) hx hb dX10_byOthers_10 (by decide) ?_
  refine lv_istore (lv' := [(7, .int (0 : Int32)), (6, .int (-1 : Int32)), (4, .long (-2 : Int64)), (3, .int (0 : Int32)), (0, .ref (gB g + a0)), (1, .int x1), (2, .int x2)]) hx hb dX10_byOthers_11 hl (by decide) rfl (fun ls hl => ?_)
  exact wX10_byOthers_L13 C hr FU hH hf (lv_sub hl [4, 5, 6, 3, 2, 1, 0] rfl)
set_option maxHeartbeats 4000000 in
set_option maxRecDepth 100000 in
theorem c_X10_byMethod {l : Launch} {g : GD} {h : PH} {a0 : Nat} {x1 : Int32} {x2 : Int32} {r : Int64} {h' : PH} (hf : mX10_byMethod h a0 x1 x2 = some (r, h')) : Met l yX10_byMethod (Cond.code yX10_byMethod cX10_byMethod 3 (some .long) :: TB) (rmD 12 0 0) (PcH g [.ref (gB g + a0), .int x1, .int x2] h) (QcL g r h') 0 0 (aB g) := by
  refine Met.ofW (cc := cX10_byMethod) (maxL := 3) (ret := some .long) (by decide) rfl ?_
  intro p e s m args below meth c s₁ B hml hv
  obtain ⟨rfl, hH0, hkk0⟩ := hv
  have C : CT g RX10 cX10_byMethod 3 (Cond.code yX10_byMethod cX10_byMethod 3 (some .long) :: TB) p s m _ meth c := pg_ct (Tw := []) B hml hH0 hkk0
  have hr := B.returns
  have hH : HS g s s.heap [] h := ⟨hH0, va_S.rf⟩
  have hl := lv_entry ([.ref (gB g + a0), .int x1, .int x2]) (n := 3) (Nat.le_of_ble_eq_true rfl)
  rw [lg_entry_eq]
  generalize (lg_sl ([.ref (gB g + a0), .int x1, .int x2]) ++ List.replicate (3 - (lg_sl ([.ref (gB g + a0), .int x1, .int x2])).length) Slot.unset).toArray = ls at hl ⊢
  have hl : lv_has ls 3 [(0, .ref (gB g + a0)), (1, .int x1), (2, .int x2)] := hl
  show W p l e (rmD 12 0 0) _ _ _ _ _ _ _ _ _ _ _ _
  unfold mX10_byMethod at hf
  obtain ⟨hO, hf⟩ := oO_sp hf
  obtain ⟨⟨hx, hb, hml, hown, hts⟩, htb, hlk, hkk, hbs⟩ := id C
  refine lv_iload_n hx hb dX10_byMethod_0 rfl (lv_at hl 2 rfl) ?_
  by_cases c1 : x2 = (1 : Int32)
  · have hf := (if_pos c1).symm.trans hf
    refine lv_tableIn (off := 35) (tgt := 36) hx hb dX10_byMethod_1 (by rw [c1]; decide) (by rw [c1]; decide) (by rw [c1]; decide) (by decide) ?_
    refine lv_aload_n hx hb dX10_byMethod_36 rfl (lv_at hl 0 rfl) ?_
    refine lv_iload_n hx hb dX10_byMethod_37 rfl (lv_at hl 1 rfl) ?_
    refine pg_Vl (As := [.int x1]) C hH mi_X10_byOwn vl_X10_388 (q := (RX10, TX10, 34)) (ci := 10) rfl rfl hf (fun _ e1 => (oO_sp e1).1) (fun _ _ e1 => c_X10_byOwn e1) rfl rfl hl.1 (Nat.le_of_ble_eq_true rfl) ⟨Nat.le_of_ble_eq_true rfl, Nat.le_of_ble_eq_true rfl⟩ ⟨Nat.zero_le _, Nat.zero_le _⟩ dX10_byMethod_38 (fun H locs v38 h38 hH hf => ?_)
    exact pg_lret C hr hH hf dX10_byMethod_41
  · have hf := (if_neg c1).symm.trans hf
    by_cases c2 : x2 = (2 : Int32)
    · have hf := (if_pos c2).symm.trans hf
      refine lv_tableIn (off := 41) (tgt := 42) hx hb dX10_byMethod_1 (by rw [c2]; decide) (by rw [c2]; decide) (by rw [c2]; decide) (by decide) ?_
      refine lv_aload_n hx hb dX10_byMethod_42 rfl (lv_at hl 0 rfl) ?_
      refine lv_iload_n hx hb dX10_byMethod_43 rfl (lv_at hl 1 rfl) ?_
      refine lv_iconst (v := (1 : Int32)) hx hb dX10_byMethod_44 (by decide) ?_
      refine pg_Vl (As := [.int x1, .int (1 : Int32)]) C hH mi_X10_byOthers vl_X10_407 (q := (RX10, TX10, 34)) (ci := 10) rfl rfl hf (fun _ e1 => (oO_sp e1).1) (fun _ _ e1 => c_X10_byOthers e1) rfl rfl hl.1 (Nat.le_of_ble_eq_true rfl) ⟨Nat.le_of_ble_eq_true rfl, Nat.le_of_ble_eq_true rfl⟩ ⟨Nat.zero_le _, Nat.zero_le _⟩ dX10_byMethod_45 (fun H locs v45 h45 hH hf => ?_)
      exact pg_lret C hr hH hf dX10_byMethod_48
    · have hf := (if_neg c2).symm.trans hf
      by_cases c3 : x2 = (3 : Int32)
      · have hf := (if_pos c3).symm.trans hf
        refine lv_tableIn (off := 48) (tgt := 49) hx hb dX10_byMethod_1 (by rw [c3]; decide) (by rw [c3]; decide) (by rw [c3]; decide) (by decide) ?_
        refine lv_aload_n hx hb dX10_byMethod_49 rfl (lv_at hl 0 rfl) ?_
        refine lv_iload_n hx hb dX10_byMethod_50 rfl (lv_at hl 1 rfl) ?_
        refine lv_iconst (v := (2 : Int32)) hx hb dX10_byMethod_51 (by decide) ?_
        refine pg_Vl (As := [.int x1, .int (2 : Int32)]) C hH mi_X10_byOthers vl_X10_407 (q := (RX10, TX10, 34)) (ci := 10) rfl rfl hf (fun _ e1 => (oO_sp e1).1) (fun _ _ e1 => c_X10_byOthers e1) rfl rfl hl.1 (Nat.le_of_ble_eq_true rfl) ⟨Nat.le_of_ble_eq_true rfl, Nat.le_of_ble_eq_true rfl⟩ ⟨Nat.zero_le _, Nat.zero_le _⟩ dX10_byMethod_52 (fun H locs v52 h52 hH hf => ?_)
        exact pg_lret C hr hH hf dX10_byMethod_55
      · have hf := (if_neg c3).symm.trans hf
        by_cases c4 : x2 = (4 : Int32)
        · have hf := (if_pos c4).symm.trans hf
          refine lv_tableIn (off := 55) (tgt := 56) hx hb dX10_byMethod_1 (by rw [c4]; decide) (by rw [c4]; decide) (by rw [c4]; decide) (by decide) ?_
          refine lv_aload_n hx hb dX10_byMethod_56 rfl (lv_at hl 0 rfl) ?_
          refine lv_iload_n hx hb dX10_byMethod_57 rfl (lv_at hl 1 rfl) ?_
          refine pg_Vl (As := [.int x1]) C hH mi_X10_byResold vl_X10_363 (q := (RX10, TX10, 34)) (ci := 10) rfl rfl hf (fun _ e1 => (oO_sp e1).1) (fun _ _ e1 => c_X10_byResold e1) rfl rfl hl.1 (Nat.le_of_ble_eq_true rfl) ⟨Nat.le_of_ble_eq_true rfl, Nat.le_of_ble_eq_true rfl⟩ ⟨Nat.zero_le _, Nat.zero_le _⟩ dX10_byMethod_58 (fun H locs v58 h58 hH hf => ?_)
          exact pg_lret C hr hH hf dX10_byMethod_61
        · have hf := (if_neg c4).symm.trans hf
          by_cases c5 : x2 = (5 : Int32)
          · have hf := (if_pos c5).symm.trans hf
            refine lv_tableIn (off := 61) (tgt := 62) hx hb dX10_byMethod_1 (by rw [c5]; decide) (by rw [c5]; decide) (by rw [c5]; decide) (by decide) ?_
            refine lv_aload_n hx hb dX10_byMethod_62 rfl (lv_at hl 0 rfl) ?_
            refine lv_iload_n hx hb dX10_byMethod_63 rfl (lv_at hl 1 rfl) ?_
            refine pg_Vl (As := [.int x1]) C hH mi_X10_byMaking vl_X10_366 (q := (RX10, TX10, 34)) (ci := 10) rfl rfl hf (fun _ e1 => (oO_sp e1).1) (fun _ _ e1 => c_X10_byMaking e1) rfl rfl hl.1 (Nat.le_of_ble_eq_true rfl) ⟨Nat.le_of_ble_eq_true rfl, Nat.le_of_ble_eq_true rfl⟩ ⟨Nat.zero_le _, Nat.zero_le _⟩ dX10_byMethod_64 (fun H locs v64 h64 hH hf => ?_)
            exact pg_lret C hr hH hf dX10_byMethod_67
          · have hf := (if_neg c5).symm.trans hf
            refine lv_tableOut (tgt := 68) hx hb dX10_byMethod_1 (by have q1 := tb_n (v := 1) (by decide) c1; have q2 := tb_n (v := 2) (by decide) c2; have q3 := tb_n (v := 3) (by decide) c3; have q4 := tb_n (v := 4) (by decide) c4; have q5 := tb_n (v := 5) (by decide) c5; omega) (by decide) ?_
            refine lv_aload_n hx hb dX10_byMethod_68 rfl (lv_at hl 0 rfl) ?_
            refine lv_iload_n hx hb dX10_byMethod_69 rfl (lv_at hl 1 rfl) ?_
            refine lv_iconst (v := (3 : Int32)) hx hb dX10_byMethod_70 (by decide) ?_
            refine pg_Vl (As := [.int x1, .int (3 : Int32)]) C hH mi_X10_byOthers vl_X10_407 (q := (RX10, TX10, 34)) (ci := 10) rfl rfl hf (fun _ e1 => (oO_sp e1).1) (fun _ _ e1 => c_X10_byOthers e1) rfl rfl hl.1 (Nat.le_of_ble_eq_true rfl) ⟨Nat.le_of_ble_eq_true rfl, Nat.le_of_ble_eq_true rfl⟩ ⟨Nat.zero_le _, Nat.zero_le _⟩ dX10_byMethod_71 (fun H locs v71 h71 hH hf => ?_)
            exact pg_lret C hr hH hf dX10_byMethod_74
set_option maxHeartbeats 4000000 in
set_option maxRecDepth 100000 in
theorem c_X10_by {l : Launch} {g : GD} {h : PH} {a0 : Nat} {x1 : Int32} {x2 : Int32} {r : Int64} {h' : PH} (hf : mX10_by h a0 x1 x2 = some (r, h')) : Met l yX10_by (Cond.code yX10_by cX10_by 3 (some .long) :: TB) (rmD 13 0 0) (PcH g [.ref (gB g + a0), .int x1, .int x2] h) (QcL g r h') 0 0 (aB g) := by
  refine Met.ofW (cc := cX10_by) (maxL := 3) (ret := some .long) (by decide) rfl ?_
  intro p e s m args below meth c s₁ B hml hv
  obtain ⟨rfl, hH0, hkk0⟩ := hv
  have C : CT g RX10 cX10_by 3 (Cond.code yX10_by cX10_by 3 (some .long) :: TB) p s m _ meth c := pg_ct (Tw := []) B hml hH0 hkk0
  have hr := B.returns
  have hH : HS g s s.heap [] h := ⟨hH0, va_S.rf⟩
  have hl := lv_entry ([.ref (gB g + a0), .int x1, .int x2]) (n := 3) (Nat.le_of_ble_eq_true rfl)
  rw [lg_entry_eq]
  generalize (lg_sl ([.ref (gB g + a0), .int x1, .int x2]) ++ List.replicate (3 - (lg_sl ([.ref (gB g + a0), .int x1, .int x2])).length) Slot.unset).toArray = ls at hl ⊢
  have hl : lv_has ls 3 [(0, .ref (gB g + a0)), (1, .int x1), (2, .int x2)] := hl
  show W p l e (rmD 13 0 0) _ _ _ _ _ _ _ _ _ _ _ _
  unfold mX10_by at hf
  obtain ⟨hO, hf⟩ := oO_sp hf
  obtain ⟨⟨hx, hb, hml, hown, hts⟩, htb, hlk, hkk, hbs⟩ := id C
  refine lv_aload_n hx hb dX10_by_0 rfl (lv_at hl 0 rfl) ?_
  refine lv_iconst (v := (0 : Int32)) hx hb dX10_by_1 (by decide) ?_
  refine pg_pI C hH fl_X10_1 fm_10_0 hf dX10_by_2 (fun H locs h2 hH hf => ?_)
  refine lv_aload_n hx hb dX10_by_5 rfl (lv_at hl 0 rfl) ?_
  refine lv_iload_n hx hb dX10_by_6 rfl (lv_at hl 1 rfl) ?_
  refine pg_Vi (As := [.int x1]) C hH mi_X10_isSale vl_X10_288 (q := (RX10, TX10, 34)) (ci := 10) rfl rfl hf (fun _ e1 => (oO_sp e1).1) (fun _ _ e1 => c_X10_isSale e1) rfl rfl hl.1 (Nat.le_of_ble_eq_true rfl) ⟨Nat.le_of_ble_eq_true rfl, Nat.le_of_ble_eq_true rfl⟩ ⟨Nat.zero_le _, Nat.zero_le _⟩ dX10_by_7 (fun H locs v7 h7 hH hf => ?_)
  refine lv_if_eq (tgt := 34) hx hb dX10_by_10 (by decide) (fun cn => ?_) (fun cn => ?_)
  · have hf := (if_pos cn).symm.trans hf
    refine lv_ldc2 (v := (-1 : Int64)) hx hb hown (hts _ (htb _ kl_X10_339)) dX10_by_34 ?_
    exact pg_lret C hr hH hf dX10_by_37
  · have hf := (if_neg cn).symm.trans hf
    refine lv_iload_n hx hb dX10_by_13 rfl (lv_at hl 2 rfl) ?_
    refine lv_i2l (v := (Int32.toInt64 x2)) hx hb dX10_by_14 rfl ?_
    refine lv_lconst (v := (1 : Int64)) hx hb dX10_by_15 (by decide) ?_
    refine lv_ldc2 (v := (6 : Int64)) hx hb hown (hts _ (htb _ kl_X10_410)) dX10_by_16 ?_
    refine pg_Si (As := [.long (Int32.toInt64 x2), .long (1 : Int64), .long (6 : Int64)]) C hH mi_X10_within sl_X10_97 hf (fun _ _ e1 => c_X10_within e1) rfl rfl hl.1 (Nat.le_of_ble_eq_true rfl) ⟨Nat.le_of_ble_eq_true rfl, Nat.le_of_ble_eq_true rfl⟩ ⟨Nat.zero_le _, Nat.zero_le _⟩ dX10_by_19 (fun H locs v19 h19 hH hf => ?_)
    refine lv_if_eq (tgt := 34) hx hb dX10_by_22 (by decide) (fun cn => ?_) (fun cn => ?_)
    · have hf := (if_pos cn).symm.trans hf
      refine lv_ldc2 (v := (-1 : Int64)) hx hb hown (hts _ (htb _ kl_X10_339)) dX10_by_34 ?_
      exact pg_lret C hr hH hf dX10_by_37
    · have hf := (if_neg cn).symm.trans hf
      refine lv_aload_n hx hb dX10_by_25 rfl (lv_at hl 0 rfl) ?_
      refine lv_iload_n hx hb dX10_by_26 rfl (lv_at hl 1 rfl) ?_
      refine lv_iload_n hx hb dX10_by_27 rfl (lv_at hl 2 rfl) ?_
      refine pg_Vl (As := [.int x1, .int x2]) C hH mi_X10_byMethod vl_X10_412 (q := (RX10, TX10, 34)) (ci := 10) rfl rfl hf (fun _ e1 => (oO_sp e1).1) (fun _ _ e1 => c_X10_byMethod e1) rfl rfl hl.1 (Nat.le_of_ble_eq_true rfl) ⟨Nat.le_of_ble_eq_true rfl, Nat.le_of_ble_eq_true rfl⟩ ⟨Nat.zero_le _, Nat.zero_le _⟩ dX10_by_28 (fun H locs v28 h28 hH hf => ?_)
      refine lv_goto (tgt := 37) hx hb dX10_by_31 (by decide) ?_
      exact pg_lret C hr hH hf dX10_by_37
set_option maxHeartbeats 4000000 in
set_option maxRecDepth 100000 in
theorem c_X10_base {l : Launch} {g : GD} {h : PH} {a0 : Nat} {x1 : Int32} {x2 : Int32} {r : Int32} {h' : PH} (hf : mX10_base h a0 x1 x2 = some (r, h')) : Met l yX10_base (Cond.code yX10_base cX10_base 5 (some .int) :: TB) (rmD 13 0 0) (PcH g [.ref (gB g + a0), .int x1, .int x2] h) (QcI g r h') 0 0 (aB g) := by
  refine Met.ofW (cc := cX10_base) (maxL := 5) (ret := some .int) (by decide) rfl ?_
  intro p e s m args below meth c s₁ B hml hv
  obtain ⟨rfl, hH0, hkk0⟩ := hv
  have C : CT g RX10 cX10_base 5 (Cond.code yX10_base cX10_base 5 (some .int) :: TB) p s m _ meth c := pg_ct (Tw := []) B hml hH0 hkk0
  have hr := B.returns
  have hH : HS g s s.heap [] h := ⟨hH0, va_S.rf⟩
  have hl := lv_entry ([.ref (gB g + a0), .int x1, .int x2]) (n := 5) (Nat.le_of_ble_eq_true rfl)
  rw [lg_entry_eq]
  generalize (lg_sl ([.ref (gB g + a0), .int x1, .int x2]) ++ List.replicate (5 - (lg_sl ([.ref (gB g + a0), .int x1, .int x2])).length) Slot.unset).toArray = ls at hl ⊢
  have hl : lv_has ls 5 [(0, .ref (gB g + a0)), (1, .int x1), (2, .int x2)] := hl
  show W p l e (rmD 13 0 0) _ _ _ _ _ _ _ _ _ _ _ _
  unfold mX10_base at hf
  obtain ⟨hO, hf⟩ := oO_sp hf
  obtain ⟨⟨hx, hb, hml, hown, hts⟩, htb, hlk, hkk, hbs⟩ := id C
  refine lv_aload_n hx hb dX10_base_0 rfl (lv_at hl 0 rfl) ?_
  refine lv_iconst (v := (0 : Int32)) hx hb dX10_base_1 (by decide) ?_
  refine pg_pI C hH fl_X10_1 fm_10_0 hf dX10_base_2 (fun H locs h2 hH hf => ?_)
  refine lv_aload_n hx hb dX10_base_5 rfl (lv_at hl 0 rfl) ?_
  refine lv_iload_n hx hb dX10_base_6 rfl (lv_at hl 1 rfl) ?_
  refine pg_Vi (As := [.int x1]) C hH mi_X10_isSale vl_X10_288 (q := (RX10, TX10, 34)) (ci := 10) rfl rfl hf (fun _ e1 => (oO_sp e1).1) (fun _ _ e1 => c_X10_isSale e1) rfl rfl hl.1 (Nat.le_of_ble_eq_true rfl) ⟨Nat.le_of_ble_eq_true rfl, Nat.le_of_ble_eq_true rfl⟩ ⟨Nat.zero_le _, Nat.zero_le _⟩ dX10_base_7 (fun H locs v7 h7 hH hf => ?_)
  refine lv_if_eq (tgt := 32) hx hb dX10_base_10 (by decide) (fun cn => ?_) (fun cn => ?_)
  · have hf := (if_pos cn).symm.trans hf
    refine lv_iconst (v := (-1 : Int32)) hx hb dX10_base_32 (by decide) ?_
    exact pg_iret C hr hH hf dX10_base_33
  · have hf := (if_neg cn).symm.trans hf
    refine lv_iload_n hx hb dX10_base_13 rfl (lv_at hl 2 rfl) ?_
    refine lv_i2l (v := (Int32.toInt64 x2)) hx hb dX10_base_14 rfl ?_
    refine lv_ldc2 (v := (2 : Int64)) hx hb hown (hts _ (htb _ kl_X10_415)) dX10_base_15 ?_
    refine lv_ldc2 (v := (6 : Int64)) hx hb hown (hts _ (htb _ kl_X10_410)) dX10_base_18 ?_
    refine pg_Si (As := [.long (Int32.toInt64 x2), .long (2 : Int64), .long (6 : Int64)]) C hH mi_X10_within sl_X10_97 hf (fun _ _ e1 => c_X10_within e1) rfl rfl hl.1 (Nat.le_of_ble_eq_true rfl) ⟨Nat.le_of_ble_eq_true rfl, Nat.le_of_ble_eq_true rfl⟩ ⟨Nat.zero_le _, Nat.zero_le _⟩ dX10_base_21 (fun H locs v21 h21 hH hf => ?_)
    refine lv_if_eq (tgt := 32) hx hb dX10_base_24 (by decide) (fun cn => ?_) (fun cn => ?_)
    · have hf := (if_pos cn).symm.trans hf
      refine lv_iconst (v := (-1 : Int32)) hx hb dX10_base_32 (by decide) ?_
      exact pg_iret C hr hH hf dX10_base_33
    · have hf := (if_neg cn).symm.trans hf
      refine lv_iload_n hx hb dX10_base_27 rfl (lv_at hl 2 rfl) ?_
      refine lv_iconst (v := (5 : Int32)) hx hb dX10_base_28 (by decide) ?_
      refine lv_icmp_ne (tgt := 34) hx hb dX10_base_29 (by decide) (fun cn => ?_) (fun cn => ?_)
      · have hf := (if_neg cn).symm.trans hf
        refine lv_aload_n hx hb dX10_base_34 rfl (lv_at hl 0 rfl) ?_
        refine lv_iload_n hx hb dX10_base_35 rfl (lv_at hl 1 rfl) ?_
        refine lv_iload_n hx hb dX10_base_36 rfl (lv_at hl 2 rfl) ?_
        refine pg_Vl (As := [.int x1, .int x2]) C hH mi_X10_byMethod vl_X10_412 (q := (RX10, TX10, 34)) (ci := 10) rfl rfl hf (fun _ e1 => (oO_sp e1).1) (fun _ _ e1 => c_X10_byMethod e1) rfl rfl hl.1 (Nat.le_of_ble_eq_true rfl) ⟨Nat.le_of_ble_eq_true rfl, Nat.le_of_ble_eq_true rfl⟩ ⟨Nat.zero_le _, Nat.zero_le _⟩ dX10_base_37 (fun H locs v37 h37 hH hf => ?_)
        refine lv_lstore_n (lv' := [(3, .long v37), (0, .ref (gB g + a0)), (1, .int x1), (2, .int x2)]) hx hb dX10_base_40 rfl hl (by decide) rfl (fun ls hl => ?_)
        refine lv_lload_n hx hb dX10_base_41 rfl (lv_at hl 0 rfl) ?_
        refine lv_lconst (v := (0 : Int64)) hx hb dX10_base_42 (by decide) ?_
        refine W.lcmp hx hb dX10_base_43 ?_
        refine lv_if_ge (tgt := 52) hx hb dX10_base_44 (by decide) (fun cn => ?_) (fun cn => ?_)
        · have hf := (if_pos ((lg_cmp_ge _ _).mp cn)).symm.trans hf
          refine lv_aload_n hx hb dX10_base_52 rfl (lv_at hl 1 rfl) ?_
          refine pg_gI C hH fl_X10_391 hf dX10_base_53 (fun v53 hf => ?_)
          exact pg_iret C hr hH hf dX10_base_56
        · have hf := (if_neg (fun z => cn ((lg_cmp_ge _ _).mpr z))).symm.trans hf
          refine lv_lload_n hx hb dX10_base_47 rfl (lv_at hl 0 rfl) ?_
          refine lv_l2i (v := (Int64.toInt32 v37)) hx hb dX10_base_48 rfl ?_
          refine lv_goto (tgt := 56) hx hb dX10_base_49 (by decide) ?_
          exact pg_iret C hr hH hf dX10_base_56
      · have hf := (if_pos cn).symm.trans hf
        refine lv_iconst (v := (-1 : Int32)) hx hb dX10_base_32 (by decide) ?_
        exact pg_iret C hr hH hf dX10_base_33
set_option maxHeartbeats 4000000 in
set_option maxRecDepth 100000 in
theorem wX10_methodAt_b14 {r : Int32} {h' : PH} (C : CT g RX10 cX10_methodAt 2 (Cond.code yX10_methodAt cX10_methodAt 2 (some .int) :: TB) p s m args meth c) (hr : meth.sig.returnType = some .int) {h : PH} {x0 : Int32} {x1 : Int32} {H : Heap} {locs : List Loc} {ls : Array Slot} (hH : HS g s H locs h) (hf : mX10_methodAt_b14 h x0 x1 = some (r, h')) (hl : lv_has ls 2 [(0, .int x0), (1, .int x1)]) : W p l e (rmD 0 0 0) s m args below meth c H locs 0 0 (MQ below (QcI g r h') args s 0 0 (aB g)) (F0 m 14 ls []) := by
  obtain ⟨⟨hx, hb, hml, hown, hts⟩, htb, hlk, hkk, hbs⟩ := id C
  unfold mX10_methodAt_b14 at hf
  refine lv_iload_n hx hb dX10_methodAt_14 rfl (lv_at hl 1 rfl) ?_
  refine lv_iconst (v := (1 : Int32)) hx hb dX10_methodAt_15 (by decide) ?_
  refine lv_icmp_ne (tgt := 28) hx hb dX10_methodAt_16 (by decide) (fun cn => ?_) (fun cn => ?_)
  · have hf := (if_neg cn).symm.trans hf
    refine lv_iload_n hx hb dX10_methodAt_28 rfl (lv_at hl 0 rfl) ?_
    refine lv_iconst (v := (1 : Int32)) hx hb dX10_methodAt_29 (by decide) ?_
    refine lv_iadd hx hb dX10_methodAt_30 ?_
    exact pg_iret C hr hH hf dX10_methodAt_31
  · have hf := (if_pos cn).symm.trans hf
    refine lv_iload_n hx hb dX10_methodAt_19 rfl (lv_at hl 0 rfl) ?_
    refine lv_iconst (v := (4 : Int32)) hx hb dX10_methodAt_20 (by decide) ?_
    refine lv_icmp_ne (tgt := 28) hx hb dX10_methodAt_21 (by decide) (fun cn => ?_) (fun cn => ?_)
    · have hf := (if_neg cn).symm.trans hf
      refine lv_iload_n hx hb dX10_methodAt_28 rfl (lv_at hl 0 rfl) ?_
      refine lv_iconst (v := (1 : Int32)) hx hb dX10_methodAt_29 (by decide) ?_
      refine lv_iadd hx hb dX10_methodAt_30 ?_
      exact pg_iret C hr hH hf dX10_methodAt_31
    · have hf := (if_pos cn).symm.trans hf
      refine lv_iconst (v := (4 : Int32)) hx hb dX10_methodAt_24 (by decide) ?_
      refine lv_goto (tgt := 31) hx hb dX10_methodAt_25 (by decide) ?_
      exact pg_iret C hr hH hf dX10_methodAt_31
set_option maxHeartbeats 4000000 in
set_option maxRecDepth 100000 in
theorem c_X10_methodAt {l : Launch} {g : GD} {h : PH} {x0 : Int32} {x1 : Int32} {r : Int32} {h' : PH} (hf : mX10_methodAt h x0 x1 = some (r, h')) : Met l yX10_methodAt (Cond.code yX10_methodAt cX10_methodAt 2 (some .int) :: TB) (rmD 0 0 0) (PcH g [.int x0, .int x1] h) (QcI g r h') 0 0 (aB g) := by
  refine Met.ofW (cc := cX10_methodAt) (maxL := 2) (ret := some .int) (by decide) rfl ?_
  intro p e s m args below meth c s₁ B hml hv
  obtain ⟨rfl, hH0, hkk0⟩ := hv
  have C : CT g RX10 cX10_methodAt 2 (Cond.code yX10_methodAt cX10_methodAt 2 (some .int) :: TB) p s m _ meth c := pg_ct (Tw := []) B hml hH0 hkk0
  have hr := B.returns
  have hH : HS g s s.heap [] h := ⟨hH0, va_S.rf⟩
  have hl := lv_entry ([.int x0, .int x1]) (n := 2) (Nat.le_of_ble_eq_true rfl)
  rw [lg_entry_eq]
  generalize (lg_sl ([.int x0, .int x1]) ++ List.replicate (2 - (lg_sl ([.int x0, .int x1])).length) Slot.unset).toArray = ls at hl ⊢
  have hl : lv_has ls 2 [(0, .int x0), (1, .int x1)] := hl
  show W p l e (rmD 0 0 0) _ _ _ _ _ _ _ _ _ _ _ _
  unfold mX10_methodAt at hf
  obtain ⟨⟨hx, hb, hml, hown, hts⟩, htb, hlk, hkk, hbs⟩ := id C
  refine lv_iload_n hx hb dX10_methodAt_0 rfl (lv_at hl 1 rfl) ?_
  refine lv_iconst (v := (1 : Int32)) hx hb dX10_methodAt_1 (by decide) ?_
  refine lv_icmp_ne (tgt := 14) hx hb dX10_methodAt_2 (by decide) (fun cn => ?_) (fun cn => ?_)
  · have hf := (if_neg cn).symm.trans hf
    exact wX10_methodAt_b14 C hr hH hf (lv_sub hl [0, 1] rfl)
  · have hf := (if_pos cn).symm.trans hf
    refine lv_iload_n hx hb dX10_methodAt_5 rfl (lv_at hl 0 rfl) ?_
    refine lv_iconst (v := (3 : Int32)) hx hb dX10_methodAt_6 (by decide) ?_
    refine lv_icmp_ne (tgt := 14) hx hb dX10_methodAt_7 (by decide) (fun cn => ?_) (fun cn => ?_)
    · have hf := (if_neg cn).symm.trans hf
      exact wX10_methodAt_b14 C hr hH hf (lv_sub hl [0, 1] rfl)
    · have hf := (if_pos cn).symm.trans hf
      refine lv_iconst (v := (5 : Int32)) hx hb dX10_methodAt_10 (by decide) ?_
      refine lv_goto (tgt := 31) hx hb dX10_methodAt_11 (by decide) ?_
      exact pg_iret C hr hH hf dX10_methodAt_31
set_option maxHeartbeats 4000000 in
set_option maxRecDepth 100000 in
theorem wX10_worthBy_b13 {r13 : PH → Nat → Int32 → Int32 → Int32 → Option (Int64 × PH)} {r : Int64} {h' : PH} (C : CT g RX10 cX10_worthBy 7 (Cond.code yX10_worthBy cX10_worthBy 7 (some .long) :: TB) p s m args meth c) (hr : meth.sig.returnType = some .long) (k13 : ∀ {h : PH} {a0 : Nat} {x1 : Int32} {x2 : Int32} {x3 : Int32} {H : Heap} {locs : List Loc} {ls : Array Slot}, HS g s H locs h → r13 h a0 x1 x2 x3 = some (r, h') → lv_has ls 7 [(0, .ref (gB g + a0)), (1, .int x1), (2, .int x2), (3, .int x3)] → W p l e (rmD 13 0 0) s m args below meth c H locs 0 0 (MQ below (QcL g r h') args s 0 0 (aB g)) (F0 m 13 ls [])) {h : PH} {a0 : Nat} {x1 : Int32} {x2 : Int32} {x3 : Int32} {H : Heap} {locs : List Loc} {ls : Array Slot} (hH : HS g s H locs h) (hf : mX10_worthBy_b13 r13 h a0 x1 x2 x3 = some (r, h')) (hl : lv_has ls 7 [(0, .ref (gB g + a0)), (1, .int x1), (2, .int x2), (3, .int x3)]) : W p l e (rmD 13 0 0) s m args below meth c H locs 0 0 (MQ below (QcL g r h') args s 0 0 (aB g)) (F0 m 13 ls []) := by
  obtain ⟨⟨hx, hb, hml, hown, hts⟩, htb, hlk, hkk, hbs⟩ := id C
  unfold mX10_worthBy_b13 at hf
  refine lv_iload_n hx hb dX10_worthBy_13 rfl (lv_at hl 3 rfl) ?_
  refine lv_bipush (v := (6 : Int32)) hx hb dX10_worthBy_14 (by decide) ?_
  refine lv_icmp_ge (tgt := 83) hx hb dX10_worthBy_16 (by decide) (fun cn => ?_) (fun cn => ?_)
  · have hf := (if_pos cn).symm.trans hf
    refine lv_ldc2 (v := (-2 : Int64)) hx hb hown (hts _ (htb _ kl_X10_382)) dX10_worthBy_83 ?_
    exact pg_lret C hr hH hf dX10_worthBy_86
  · have hf := (if_neg cn).symm.trans hf
    refine lv_iload_n hx hb dX10_worthBy_19 rfl (lv_at hl 3 rfl) ?_
    refine lv_iload_n hx hb dX10_worthBy_20 rfl (lv_at hl 2 rfl) ?_
    refine pg_Si (As := [.int x3, .int x2]) C hH mi_X10_methodAt sl_X10_423 hf (fun _ _ e1 => c_X10_methodAt e1) rfl rfl hl.1 (Nat.le_of_ble_eq_true rfl) ⟨Nat.le_of_ble_eq_true rfl, Nat.le_of_ble_eq_true rfl⟩ ⟨Nat.zero_le _, Nat.zero_le _⟩ dX10_worthBy_21 (fun H locs v21 h21 hH hf => ?_)
    refine lv_istore (lv' := [(4, .int v21), (0, .ref (gB g + a0)), (1, .int x1), (2, .int x2), (3, .int x3)]) hx hb dX10_worthBy_24 hl (by decide) rfl (fun ls hl => ?_)
    refine lv_aload_n hx hb dX10_worthBy_26 rfl (lv_at hl 1 rfl) ?_
    refine lv_iload_n hx hb dX10_worthBy_27 rfl (lv_at hl 2 rfl) ?_
    refine lv_iload hx hb dX10_worthBy_28 (lv_at hl 0 rfl) ?_
    refine pg_Vl (As := [.int x1, .int v21]) C hH mi_X10_byMethod vl_X10_412 (q := (RX10, TX10, 34)) (ci := 10) rfl rfl hf (fun _ e1 => (oO_sp e1).1) (fun _ _ e1 => c_X10_byMethod e1) rfl rfl hl.1 (Nat.le_of_ble_eq_true rfl) ⟨Nat.le_of_ble_eq_true rfl, Nat.le_of_ble_eq_true rfl⟩ ⟨Nat.zero_le _, Nat.zero_le _⟩ dX10_worthBy_30 (fun H locs v30 h30 hH hf => ?_)
    refine lv_lstore (lv' := [(5, .long v30), (4, .int v21), (0, .ref (gB g + a0)), (1, .int x1), (2, .int x2), (3, .int x3)]) hx hb dX10_worthBy_33 hl (by decide) rfl (fun ls hl => ?_)
    refine lv_lload hx hb dX10_worthBy_35 (lv_at hl 0 rfl) ?_
    refine lv_lconst (v := (0 : Int64)) hx hb dX10_worthBy_37 (by decide) ?_
    refine W.lcmp hx hb dX10_worthBy_38 ?_
    refine lv_if_lt (tgt := 51) hx hb dX10_worthBy_39 (by decide) (fun cn => ?_) (fun cn => ?_)
    · have hf := (if_pos ((lg_cmp_lt _ _).mp cn)).symm.trans hf
      refine lv_aload_n hx hb dX10_worthBy_51 rfl (lv_at hl 2 rfl) ?_
      refine pg_gR C hH fl_X10_53 hf dX10_worthBy_52 (fun v52 hf => ?_)
      refine lv_aload_n hx hb dX10_worthBy_55 rfl (lv_at hl 2 rfl) ?_
      refine pg_gI C hH fl_X10_417 hf dX10_worthBy_56 (fun v56 hf => ?_)
      refine lv_ldc2 (v := (-2 : Int64)) hx hb hown (hts _ (htb _ kl_X10_382)) dX10_worthBy_59 ?_
      refine lv_lload hx hb dX10_worthBy_62 (lv_at hl 0 rfl) ?_
      refine lv_lsub hx hb dX10_worthBy_64 ?_
      refine lv_l2i (v := (Int64.toInt32 ((-2 : Int64) - v30))) hx hb dX10_worthBy_65 rfl ?_
      refine pg_sI C hH hf dX10_worthBy_66 (fun H locs h66 hH hf => ?_)
      refine lv_aload_n hx hb dX10_worthBy_67 rfl (lv_at hl 2 rfl) ?_
      refine lv_dup hx hb dX10_worthBy_68 rfl ?_
      refine pg_gI C hH fl_X10_417 hf dX10_worthBy_69 (fun v69 hf => ?_)
      refine lv_iconst (v := (1 : Int32)) hx hb dX10_worthBy_72 (by decide) ?_
      refine lv_iadd hx hb dX10_worthBy_73 ?_
      refine pg_pI C hH fl_X10_417 fm_10_30 hf dX10_worthBy_74 (fun H locs h74 hH hf => ?_)
      refine lv_iinc (v := (x3 + 1)) (lv' := [(3, .int (x3 + 1)), (5, .long v30), (4, .int v21), (0, .ref (gB g + a0)), (1, .int x1), (2, .int x2)]) hx hb dX10_worthBy_77 hl (k := 5) rfl rfl (by decide) rfl (fun ls hl => ?_)
      refine lv_goto (tgt := 13) hx hb dX10_worthBy_80 (by decide) ?_
      exact k13 hH hf (lv_sub hl [3, 4, 5, 0] rfl)
    · have hf := (if_neg (fun z => cn ((lg_cmp_lt _ _).mpr z))).symm.trans hf
      refine lv_aload_n hx hb dX10_worthBy_42 rfl (lv_at hl 2 rfl) ?_
      refine lv_iload hx hb dX10_worthBy_43 (lv_at hl 1 rfl) ?_
      refine pg_pI C hH fl_X10_420 fm_10_31 hf dX10_worthBy_45 (fun H locs h45 hH hf => ?_)
      refine lv_lload hx hb dX10_worthBy_48 (lv_at hl 0 rfl) ?_
      exact pg_lret C hr hH hf dX10_worthBy_50
set_option maxHeartbeats 4000000 in
set_option maxRecDepth 100000 in
theorem wX10_worthBy_L13 {r : Int64} {h' : PH} (C : CT g RX10 cX10_worthBy 7 (Cond.code yX10_worthBy cX10_worthBy 7 (some .long) :: TB) p s m args meth c) (hr : meth.sig.returnType = some .long) : ∀ (n : Nat) {h : PH} {a0 : Nat} {x1 : Int32} {x2 : Int32} {x3 : Int32} {H : Heap} {locs : List Loc} {ls : Array Slot}, HS g s H locs h → mX10_worthBy_L13 n h a0 x1 x2 x3 = some (r, h') → lv_has ls 7 [(0, .ref (gB g + a0)), (1, .int x1), (2, .int x2), (3, .int x3)] → W p l e (rmD 13 0 0) s m args below meth c H locs 0 0 (MQ below (QcL g r h') args s 0 0 (aB g)) (F0 m 13 ls []) := by
  intro n
  induction n with
  | zero =>
    intro h a0 x1 x2 x3 H locs ls hH hf hl
    exact absurd hf (by intro z; cases z)
  | succ n ih =>
    intro h a0 x1 x2 x3 H locs ls hH hf hl
    have hf : mX10_worthBy_b13 (mX10_worthBy_L13 n) h a0 x1 x2 x3 = some (r, h') := hf
    exact wX10_worthBy_b13 C hr (fun a b c => ih a b c) hH hf hl
set_option maxHeartbeats 4000000 in
set_option maxRecDepth 100000 in
theorem c_X10_worthBy {l : Launch} {g : GD} {h : PH} {a0 : Nat} {x1 : Int32} {x2 : Int32} {r : Int64} {h' : PH} (hf : mX10_worthBy h a0 x1 x2 = some (r, h')) : Met l yX10_worthBy (Cond.code yX10_worthBy cX10_worthBy 7 (some .long) :: TB) (rmD 13 0 0) (PcH g [.ref (gB g + a0), .int x1, .int x2] h) (QcL g r h') 0 0 (aB g) := by
  refine Met.ofW (cc := cX10_worthBy) (maxL := 7) (ret := some .long) (by decide) rfl ?_
  intro p e s m args below meth c s₁ B hml hv
  obtain ⟨rfl, hH0, hkk0⟩ := hv
  have C : CT g RX10 cX10_worthBy 7 (Cond.code yX10_worthBy cX10_worthBy 7 (some .long) :: TB) p s m _ meth c := pg_ct (Tw := []) B hml hH0 hkk0
  have hr := B.returns
  have hH : HS g s s.heap [] h := ⟨hH0, va_S.rf⟩
  have hl := lv_entry ([.ref (gB g + a0), .int x1, .int x2]) (n := 7) (Nat.le_of_ble_eq_true rfl)
  rw [lg_entry_eq]
  generalize (lg_sl ([.ref (gB g + a0), .int x1, .int x2]) ++ List.replicate (7 - (lg_sl ([.ref (gB g + a0), .int x1, .int x2])).length) Slot.unset).toArray = ls at hl ⊢
  have hl : lv_has ls 7 [(0, .ref (gB g + a0)), (1, .int x1), (2, .int x2)] := hl
  show W p l e (rmD 13 0 0) _ _ _ _ _ _ _ _ _ _ _ _
  unfold mX10_worthBy at hf
  obtain ⟨hO, hf⟩ := oO_sp hf
  obtain ⟨⟨hx, hb, hml, hown, hts⟩, htb, hlk, hkk, hbs⟩ := id C
  refine lv_aload_n hx hb dX10_worthBy_0 rfl (lv_at hl 0 rfl) ?_
  refine lv_iconst (v := (0 : Int32)) hx hb dX10_worthBy_1 (by decide) ?_
  refine pg_pI C hH fl_X10_417 fm_10_30 hf dX10_worthBy_2 (fun H locs h2 hH hf => ?_)
  refine lv_aload_n hx hb dX10_worthBy_5 rfl (lv_at hl 0 rfl) ?_
  refine lv_bipush (v := (-2 : Int32)) hx hb dX10_worthBy_6 (by decide) ?_
  refine pg_pI C hH fl_X10_420 fm_10_31 hf dX10_worthBy_8 (fun H locs h8 hH hf => ?_)
  refine lv_iconst (v := (0 : Int32)) hx hb dX10_worthBy_11 (by decide) ?_
  refine lv_istore_n (lv' := [(3, .int (0 : Int32)), (0, .ref (gB g + a0)), (1, .int x1), (2, .int x2)]) hx hb dX10_worthBy_12 rfl hl (by decide) rfl (fun ls hl => ?_)
  exact wX10_worthBy_L13 C hr FU hH hf (lv_sub hl [1, 2, 3, 0] rfl)
set_option maxHeartbeats 4000000 in
set_option maxRecDepth 100000 in
theorem c_X10_worthOf {l : Launch} {g : GD} {h : PH} {a0 : Nat} {x1 : Int32} {r : Int64} {h' : PH} (hf : mX10_worthOf h a0 x1 = some (r, h')) : Met l yX10_worthOf (Cond.code yX10_worthOf cX10_worthOf 2 (some .long) :: TB) (rmD 14 0 0) (PcH g [.ref (gB g + a0), .int x1] h) (QcL g r h') 0 0 (aB g) := by
  refine Met.ofW (cc := cX10_worthOf) (maxL := 2) (ret := some .long) (by decide) rfl ?_
  intro p e s m args below meth c s₁ B hml hv
  obtain ⟨rfl, hH0, hkk0⟩ := hv
  have C : CT g RX10 cX10_worthOf 2 (Cond.code yX10_worthOf cX10_worthOf 2 (some .long) :: TB) p s m _ meth c := pg_ct (Tw := []) B hml hH0 hkk0
  have hr := B.returns
  have hH : HS g s s.heap [] h := ⟨hH0, va_S.rf⟩
  have hl := lv_entry ([.ref (gB g + a0), .int x1]) (n := 2) (Nat.le_of_ble_eq_true rfl)
  rw [lg_entry_eq]
  generalize (lg_sl ([.ref (gB g + a0), .int x1]) ++ List.replicate (2 - (lg_sl ([.ref (gB g + a0), .int x1])).length) Slot.unset).toArray = ls at hl ⊢
  have hl : lv_has ls 2 [(0, .ref (gB g + a0)), (1, .int x1)] := hl
  show W p l e (rmD 14 0 0) _ _ _ _ _ _ _ _ _ _ _ _
  unfold mX10_worthOf at hf
  obtain ⟨hO, hf⟩ := oO_sp hf
  obtain ⟨⟨hx, hb, hml, hown, hts⟩, htb, hlk, hkk, hbs⟩ := id C
  refine lv_aload_n hx hb dX10_worthOf_0 rfl (lv_at hl 0 rfl) ?_
  refine lv_iload_n hx hb dX10_worthOf_1 rfl (lv_at hl 1 rfl) ?_
  refine lv_aload_n hx hb dX10_worthOf_2 rfl (lv_at hl 0 rfl) ?_
  refine pg_gR C hH fl_X10_13 hf dX10_worthOf_3 (fun v3 hf => ?_)
  refine lv_bipush (v := (10 : Int32)) hx hb dX10_worthOf_6 (by decide) ?_
  refine pg_aI C hH hf dX10_worthOf_8 (fun v8 hf => ?_)
  refine pg_Vl (As := [.int x1, .int v8]) C hH mi_X10_worthBy vl_X10_426 (q := (RX10, TX10, 34)) (ci := 10) rfl rfl hf (fun _ e1 => (oO_sp e1).1) (fun _ _ e1 => c_X10_worthBy e1) rfl rfl hl.1 (Nat.le_of_ble_eq_true rfl) ⟨Nat.le_of_ble_eq_true rfl, Nat.le_of_ble_eq_true rfl⟩ ⟨Nat.zero_le _, Nat.zero_le _⟩ dX10_worthOf_9 (fun H locs v9 h9 hH hf => ?_)
  exact pg_lret C hr hH hf dX10_worthOf_12
set_option maxHeartbeats 4000000 in
set_option maxRecDepth 100000 in
theorem c_X10_worth {l : Launch} {g : GD} {h : PH} {a0 : Nat} {x1 : Int32} {r : Int64} {h' : PH} (hf : mX10_worth h a0 x1 = some (r, h')) : Met l yX10_worth (Cond.code yX10_worth cX10_worth 2 (some .long) :: TB) (rmD 15 0 0) (PcH g [.ref (gB g + a0), .int x1] h) (QcL g r h') 0 0 (aB g) := by
  refine Met.ofW (cc := cX10_worth) (maxL := 2) (ret := some .long) (by decide) rfl ?_
  intro p e s m args below meth c s₁ B hml hv
  obtain ⟨rfl, hH0, hkk0⟩ := hv
  have C : CT g RX10 cX10_worth 2 (Cond.code yX10_worth cX10_worth 2 (some .long) :: TB) p s m _ meth c := pg_ct (Tw := []) B hml hH0 hkk0
  have hr := B.returns
  have hH : HS g s s.heap [] h := ⟨hH0, va_S.rf⟩
  have hl := lv_entry ([.ref (gB g + a0), .int x1]) (n := 2) (Nat.le_of_ble_eq_true rfl)
  rw [lg_entry_eq]
  generalize (lg_sl ([.ref (gB g + a0), .int x1]) ++ List.replicate (2 - (lg_sl ([.ref (gB g + a0), .int x1])).length) Slot.unset).toArray = ls at hl ⊢
  have hl : lv_has ls 2 [(0, .ref (gB g + a0)), (1, .int x1)] := hl
  show W p l e (rmD 15 0 0) _ _ _ _ _ _ _ _ _ _ _ _
  unfold mX10_worth at hf
  obtain ⟨hO, hf⟩ := oO_sp hf
  obtain ⟨⟨hx, hb, hml, hown, hts⟩, htb, hlk, hkk, hbs⟩ := id C
  refine lv_aload_n hx hb dX10_worth_0 rfl (lv_at hl 0 rfl) ?_
  refine lv_iconst (v := (0 : Int32)) hx hb dX10_worth_1 (by decide) ?_
  refine pg_pI C hH fl_X10_1 fm_10_0 hf dX10_worth_2 (fun H locs h2 hH hf => ?_)
  refine lv_aload_n hx hb dX10_worth_5 rfl (lv_at hl 0 rfl) ?_
  refine lv_iload_n hx hb dX10_worth_6 rfl (lv_at hl 1 rfl) ?_
  refine pg_Vi (As := [.int x1]) C hH mi_X10_isSale vl_X10_288 (q := (RX10, TX10, 34)) (ci := 10) rfl rfl hf (fun _ e1 => (oO_sp e1).1) (fun _ _ e1 => c_X10_isSale e1) rfl rfl hl.1 (Nat.le_of_ble_eq_true rfl) ⟨Nat.le_of_ble_eq_true rfl, Nat.le_of_ble_eq_true rfl⟩ ⟨Nat.zero_le _, Nat.zero_le _⟩ dX10_worth_7 (fun H locs v7 h7 hH hf => ?_)
  refine lv_if_eq (tgt := 21) hx hb dX10_worth_10 (by decide) (fun cn => ?_) (fun cn => ?_)
  · have hf := (if_pos cn).symm.trans hf
    refine lv_ldc2 (v := (-1 : Int64)) hx hb hown (hts _ (htb _ kl_X10_339)) dX10_worth_21 ?_
    exact pg_lret C hr hH hf dX10_worth_24
  · have hf := (if_neg cn).symm.trans hf
    refine lv_aload_n hx hb dX10_worth_13 rfl (lv_at hl 0 rfl) ?_
    refine lv_iload_n hx hb dX10_worth_14 rfl (lv_at hl 1 rfl) ?_
    refine pg_Vl (As := [.int x1]) C hH mi_X10_worthOf vl_X10_429 (q := (RX10, TX10, 34)) (ci := 10) rfl rfl hf (fun _ e1 => (oO_sp e1).1) (fun _ _ e1 => c_X10_worthOf e1) rfl rfl hl.1 (Nat.le_of_ble_eq_true rfl) ⟨Nat.le_of_ble_eq_true rfl, Nat.le_of_ble_eq_true rfl⟩ ⟨Nat.zero_le _, Nat.zero_le _⟩ dX10_worth_15 (fun H locs v15 h15 hH hf => ?_)
    refine lv_goto (tgt := 24) hx hb dX10_worth_18 (by decide) ?_
    exact pg_lret C hr hH hf dX10_worth_24
set_option maxHeartbeats 4000000 in
set_option maxRecDepth 100000 in
theorem c_X10_method {l : Launch} {g : GD} {h : PH} {a0 : Nat} {x1 : Int32} {r : Int32} {h' : PH} (hf : mX10_method h a0 x1 = some (r, h')) : Met l yX10_method (Cond.code yX10_method cX10_method 4 (some .int) :: TB) (rmD 15 0 0) (PcH g [.ref (gB g + a0), .int x1] h) (QcI g r h') 0 0 (aB g) := by
  refine Met.ofW (cc := cX10_method) (maxL := 4) (ret := some .int) (by decide) rfl ?_
  intro p e s m args below meth c s₁ B hml hv
  obtain ⟨rfl, hH0, hkk0⟩ := hv
  have C : CT g RX10 cX10_method 4 (Cond.code yX10_method cX10_method 4 (some .int) :: TB) p s m _ meth c := pg_ct (Tw := []) B hml hH0 hkk0
  have hr := B.returns
  have hH : HS g s s.heap [] h := ⟨hH0, va_S.rf⟩
  have hl := lv_entry ([.ref (gB g + a0), .int x1]) (n := 4) (Nat.le_of_ble_eq_true rfl)
  rw [lg_entry_eq]
  generalize (lg_sl ([.ref (gB g + a0), .int x1]) ++ List.replicate (4 - (lg_sl ([.ref (gB g + a0), .int x1])).length) Slot.unset).toArray = ls at hl ⊢
  have hl : lv_has ls 4 [(0, .ref (gB g + a0)), (1, .int x1)] := hl
  show W p l e (rmD 15 0 0) _ _ _ _ _ _ _ _ _ _ _ _
  unfold mX10_method at hf
  obtain ⟨hO, hf⟩ := oO_sp hf
  obtain ⟨⟨hx, hb, hml, hown, hts⟩, htb, hlk, hkk, hbs⟩ := id C
  refine lv_aload_n hx hb dX10_method_0 rfl (lv_at hl 0 rfl) ?_
  refine lv_iconst (v := (0 : Int32)) hx hb dX10_method_1 (by decide) ?_
  refine pg_pI C hH fl_X10_1 fm_10_0 hf dX10_method_2 (fun H locs h2 hH hf => ?_)
  refine lv_aload_n hx hb dX10_method_5 rfl (lv_at hl 0 rfl) ?_
  refine lv_iload_n hx hb dX10_method_6 rfl (lv_at hl 1 rfl) ?_
  refine pg_Vi (As := [.int x1]) C hH mi_X10_isSale vl_X10_288 (q := (RX10, TX10, 34)) (ci := 10) rfl rfl hf (fun _ e1 => (oO_sp e1).1) (fun _ _ e1 => c_X10_isSale e1) rfl rfl hl.1 (Nat.le_of_ble_eq_true rfl) ⟨Nat.le_of_ble_eq_true rfl, Nat.le_of_ble_eq_true rfl⟩ ⟨Nat.zero_le _, Nat.zero_le _⟩ dX10_method_7 (fun H locs v7 h7 hH hf => ?_)
  refine lv_if_ne (tgt := 15) hx hb dX10_method_10 (by decide) (fun cn => ?_) (fun cn => ?_)
  · have hf := (if_neg cn).symm.trans hf
    refine lv_aload_n hx hb dX10_method_15 rfl (lv_at hl 0 rfl) ?_
    refine lv_iload_n hx hb dX10_method_16 rfl (lv_at hl 1 rfl) ?_
    refine pg_Vl (As := [.int x1]) C hH mi_X10_worthOf vl_X10_429 (q := (RX10, TX10, 34)) (ci := 10) rfl rfl hf (fun _ e1 => (oO_sp e1).1) (fun _ _ e1 => c_X10_worthOf e1) rfl rfl hl.1 (Nat.le_of_ble_eq_true rfl) ⟨Nat.le_of_ble_eq_true rfl, Nat.le_of_ble_eq_true rfl⟩ ⟨Nat.zero_le _, Nat.zero_le _⟩ dX10_method_17 (fun H locs v17 h17 hH hf => ?_)
    refine lv_lstore_n (lv' := [(2, .long v17), (0, .ref (gB g + a0)), (1, .int x1)]) hx hb dX10_method_20 rfl hl (by decide) rfl (fun ls hl => ?_)
    refine lv_lload_n hx hb dX10_method_21 rfl (lv_at hl 0 rfl) ?_
    refine lv_lconst (v := (0 : Int64)) hx hb dX10_method_22 (by decide) ?_
    refine W.lcmp hx hb dX10_method_23 ?_
    refine lv_if_ge (tgt := 32) hx hb dX10_method_24 (by decide) (fun cn => ?_) (fun cn => ?_)
    · have hf := (if_pos ((lg_cmp_ge _ _).mp cn)).symm.trans hf
      refine lv_aload_n hx hb dX10_method_32 rfl (lv_at hl 1 rfl) ?_
      refine pg_gI C hH fl_X10_420 hf dX10_method_33 (fun v33 hf => ?_)
      exact pg_iret C hr hH hf dX10_method_36
    · have hf := (if_neg (fun z => cn ((lg_cmp_ge _ _).mpr z))).symm.trans hf
      refine lv_bipush (v := (-2 : Int32)) hx hb dX10_method_27 (by decide) ?_
      refine lv_goto (tgt := 36) hx hb dX10_method_29 (by decide) ?_
      exact pg_iret C hr hH hf dX10_method_36
  · have hf := (if_pos cn).symm.trans hf
    refine lv_iconst (v := (-1 : Int32)) hx hb dX10_method_13 (by decide) ?_
    exact pg_iret C hr hH hf dX10_method_14
set_option maxHeartbeats 4000000 in
set_option maxRecDepth 100000 in
theorem wX10_why_b44 {r : Int32} {h' : PH} (C : CT g RX10 cX10_why 5 (Cond.code yX10_why cX10_why 5 (some .int) :: TB) p s m args meth c) (hr : meth.sig.returnType = some .int) {h : PH} {a0 : Nat} {x2 : Int32} {s0 : Nat} {s1 : Int32} {H : Heap} {locs : List Loc} {ls : Array Slot} (hH : HS g s H locs h) (hf : mX10_why_b44 h a0 x2 s0 s1 = some (r, h')) (hl : lv_has ls 5 [(0, .ref (gB g + a0)), (2, .int x2)]) : W p l e (rmD 15 0 0) s m args below meth c H locs 0 0 (MQ below (QcI g r h') args s 0 0 (aB g)) (F0 m 44 ls [.int s1, .ref (gB g + s0)]) := by
  obtain ⟨⟨hx, hb, hml, hown, hts⟩, htb, hlk, hkk, hbs⟩ := id C
  unfold mX10_why_b44 at hf
  refine pg_pI C hH fl_X10_417 fm_10_30 hf dX10_why_44 (fun H locs h44 hH hf => ?_)
  refine lv_iload_n hx hb dX10_why_47 rfl (lv_at hl 1 rfl) ?_
  refine lv_iconst (v := (-1 : Int32)) hx hb dX10_why_48 (by decide) ?_
  refine lv_icmp_ne (tgt := 59) hx hb dX10_why_49 (by decide) (fun cn => ?_) (fun cn => ?_)
  · have hf := (if_neg cn).symm.trans hf
    refine lv_iload_n hx hb dX10_why_59 rfl (lv_at hl 1 rfl) ?_
    refine lv_aload_n hx hb dX10_why_60 rfl (lv_at hl 0 rfl) ?_
    refine pg_gI C hH fl_X10_417 hf dX10_why_61 (fun v61 hf => ?_)
    refine lv_icmp_ge (tgt := 76) hx hb dX10_why_64 (by decide) (fun cn => ?_) (fun cn => ?_)
    · have hf := (if_pos cn).symm.trans hf
      refine lv_bipush (v := (-2 : Int32)) hx hb dX10_why_76 (by decide) ?_
      exact pg_iret C hr hH hf dX10_why_78
    · have hf := (if_neg cn).symm.trans hf
      refine lv_aload_n hx hb dX10_why_67 rfl (lv_at hl 0 rfl) ?_
      refine pg_gR C hH fl_X10_53 hf dX10_why_68 (fun v68 hf => ?_)
      refine lv_iload_n hx hb dX10_why_71 rfl (lv_at hl 1 rfl) ?_
      refine pg_aI C hH hf dX10_why_72 (fun v72 hf => ?_)
      refine lv_goto (tgt := 78) hx hb dX10_why_73 (by decide) ?_
      exact pg_iret C hr hH hf dX10_why_78
  · have hf := (if_pos cn).symm.trans hf
    refine lv_aload_n hx hb dX10_why_52 rfl (lv_at hl 0 rfl) ?_
    refine pg_gI C hH fl_X10_417 hf dX10_why_53 (fun v53 hf => ?_)
    refine lv_goto (tgt := 78) hx hb dX10_why_56 (by decide) ?_
    exact pg_iret C hr hH hf dX10_why_78
set_option maxHeartbeats 4000000 in
set_option maxRecDepth 100000 in
theorem c_X10_why {l : Launch} {g : GD} {h : PH} {a0 : Nat} {x1 : Int32} {x2 : Int32} {r : Int32} {h' : PH} (hf : mX10_why h a0 x1 x2 = some (r, h')) : Met l yX10_why (Cond.code yX10_why cX10_why 5 (some .int) :: TB) (rmD 15 0 0) (PcH g [.ref (gB g + a0), .int x1, .int x2] h) (QcI g r h') 0 0 (aB g) := by
  refine Met.ofW (cc := cX10_why) (maxL := 5) (ret := some .int) (by decide) rfl ?_
  intro p e s m args below meth c s₁ B hml hv
  obtain ⟨rfl, hH0, hkk0⟩ := hv
  have C : CT g RX10 cX10_why 5 (Cond.code yX10_why cX10_why 5 (some .int) :: TB) p s m _ meth c := pg_ct (Tw := []) B hml hH0 hkk0
  have hr := B.returns
  have hH : HS g s s.heap [] h := ⟨hH0, va_S.rf⟩
  have hl := lv_entry ([.ref (gB g + a0), .int x1, .int x2]) (n := 5) (Nat.le_of_ble_eq_true rfl)
  rw [lg_entry_eq]
  generalize (lg_sl ([.ref (gB g + a0), .int x1, .int x2]) ++ List.replicate (5 - (lg_sl ([.ref (gB g + a0), .int x1, .int x2])).length) Slot.unset).toArray = ls at hl ⊢
  have hl : lv_has ls 5 [(0, .ref (gB g + a0)), (1, .int x1), (2, .int x2)] := hl
  show W p l e (rmD 15 0 0) _ _ _ _ _ _ _ _ _ _ _ _
  unfold mX10_why at hf
  obtain ⟨hO, hf⟩ := oO_sp hf
  obtain ⟨⟨hx, hb, hml, hown, hts⟩, htb, hlk, hkk, hbs⟩ := id C
  refine lv_aload_n hx hb dX10_why_0 rfl (lv_at hl 0 rfl) ?_
  refine lv_iconst (v := (0 : Int32)) hx hb dX10_why_1 (by decide) ?_
  refine pg_pI C hH fl_X10_1 fm_10_0 hf dX10_why_2 (fun H locs h2 hH hf => ?_)
  refine lv_aload_n hx hb dX10_why_5 rfl (lv_at hl 0 rfl) ?_
  refine lv_iload_n hx hb dX10_why_6 rfl (lv_at hl 1 rfl) ?_
  refine pg_Vi (As := [.int x1]) C hH mi_X10_isSale vl_X10_288 (q := (RX10, TX10, 34)) (ci := 10) rfl rfl hf (fun _ e1 => (oO_sp e1).1) (fun _ _ e1 => c_X10_isSale e1) rfl rfl hl.1 (Nat.le_of_ble_eq_true rfl) ⟨Nat.le_of_ble_eq_true rfl, Nat.le_of_ble_eq_true rfl⟩ ⟨Nat.zero_le _, Nat.zero_le _⟩ dX10_why_7 (fun H locs v7 h7 hH hf => ?_)
  refine lv_if_eq (tgt := 18) hx hb dX10_why_10 (by decide) (fun cn => ?_) (fun cn => ?_)
  · have hf := (if_pos cn).symm.trans hf
    refine lv_iconst (v := (-1 : Int32)) hx hb dX10_why_18 (by decide) ?_
    exact pg_iret C hr hH hf dX10_why_19
  · have hf := (if_neg cn).symm.trans hf
    refine lv_iload_n hx hb dX10_why_13 rfl (lv_at hl 2 rfl) ?_
    refine lv_iconst (v := (-1 : Int32)) hx hb dX10_why_14 (by decide) ?_
    refine lv_icmp_ge (tgt := 20) hx hb dX10_why_15 (by decide) (fun cn => ?_) (fun cn => ?_)
    · have hf := (if_pos cn).symm.trans hf
      refine lv_aload_n hx hb dX10_why_20 rfl (lv_at hl 0 rfl) ?_
      refine lv_iload_n hx hb dX10_why_21 rfl (lv_at hl 1 rfl) ?_
      refine pg_Vl (As := [.int x1]) C hH mi_X10_worthOf vl_X10_429 (q := (RX10, TX10, 34)) (ci := 10) rfl rfl hf (fun _ e1 => (oO_sp e1).1) (fun _ _ e1 => c_X10_worthOf e1) rfl rfl hl.1 (Nat.le_of_ble_eq_true rfl) ⟨Nat.le_of_ble_eq_true rfl, Nat.le_of_ble_eq_true rfl⟩ ⟨Nat.zero_le _, Nat.zero_le _⟩ dX10_why_22 (fun H locs v22 h22 hH hf => ?_)
      refine lv_lstore_n (lv' := [(3, .long v22), (0, .ref (gB g + a0)), (1, .int x1), (2, .int x2)]) hx hb dX10_why_25 rfl hl (by decide) rfl (fun ls hl => ?_)
      refine lv_aload_n hx hb dX10_why_26 rfl (lv_at hl 1 rfl) ?_
      refine lv_lload_n hx hb dX10_why_27 rfl (lv_at hl 0 rfl) ?_
      refine lv_ldc2 (v := (-2 : Int64)) hx hb hown (hts _ (htb _ kl_X10_382)) dX10_why_28 ?_
      refine W.lcmp hx hb dX10_why_31 ?_
      refine lv_if_ne (tgt := 40) hx hb dX10_why_32 (by decide) (fun cn => ?_) (fun cn => ?_)
      · have hf := (if_neg (fun z => cn ((lg_cmp_eq _ _).mpr z))).symm.trans hf
        refine lv_aload_n hx hb dX10_why_40 rfl (lv_at hl 1 rfl) ?_
        refine pg_gI C hH fl_X10_417 hf dX10_why_41 (fun v41 hf => ?_)
        exact wX10_why_b44 C hr hH hf (lv_sub hl [1, 3] rfl)
      · have hf := (if_pos ((lg_cmp_eq _ _).mp cn)).symm.trans hf
        refine lv_bipush (v := (6 : Int32)) hx hb dX10_why_35 (by decide) ?_
        refine lv_goto (tgt := 44) hx hb dX10_why_37 (by decide) ?_
        exact wX10_why_b44 C hr hH hf (lv_sub hl [1, 3] rfl)
    · have hf := (if_neg cn).symm.trans hf
      refine lv_iconst (v := (-1 : Int32)) hx hb dX10_why_18 (by decide) ?_
      exact pg_iret C hr hH hf dX10_why_19
set_option maxHeartbeats 4000000 in
set_option maxRecDepth 100000 in
theorem c_X10_test {l : Launch} {g : GD} {h : PH} {a0 : Nat} {x1 : Int32} {x2 : Int32} {r : Int64} {h' : PH} (hf : mX10_test h a0 x1 x2 = some (r, h')) : Met l yX10_test (Cond.code yX10_test cX10_test 3 (some .long) :: TB) (rmD 9 0 0) (PcH g [.ref (gB g + a0), .int x1, .int x2] h) (QcL g r h') 0 0 (aB g) := by
  refine Met.ofW (cc := cX10_test) (maxL := 3) (ret := some .long) (by decide) rfl ?_
  intro p e s m args below meth c s₁ B hml hv
  obtain ⟨rfl, hH0, hkk0⟩ := hv
  have C : CT g RX10 cX10_test 3 (Cond.code yX10_test cX10_test 3 (some .long) :: TB) p s m _ meth c := pg_ct (Tw := []) B hml hH0 hkk0
  have hr := B.returns
  have hH : HS g s s.heap [] h := ⟨hH0, va_S.rf⟩
  have hl := lv_entry ([.ref (gB g + a0), .int x1, .int x2]) (n := 3) (Nat.le_of_ble_eq_true rfl)
  rw [lg_entry_eq]
  generalize (lg_sl ([.ref (gB g + a0), .int x1, .int x2]) ++ List.replicate (3 - (lg_sl ([.ref (gB g + a0), .int x1, .int x2])).length) Slot.unset).toArray = ls at hl ⊢
  have hl : lv_has ls 3 [(0, .ref (gB g + a0)), (1, .int x1), (2, .int x2)] := hl
  show W p l e (rmD 9 0 0) _ _ _ _ _ _ _ _ _ _ _ _
  unfold mX10_test at hf
  obtain ⟨hO, hf⟩ := oO_sp hf
  obtain ⟨⟨hx, hb, hml, hown, hts⟩, htb, hlk, hkk, hbs⟩ := id C
  refine lv_aload_n hx hb dX10_test_0 rfl (lv_at hl 0 rfl) ?_
  refine lv_iconst (v := (0 : Int32)) hx hb dX10_test_1 (by decide) ?_
  refine pg_pI C hH fl_X10_1 fm_10_0 hf dX10_test_2 (fun H locs h2 hH hf => ?_)
  refine lv_aload_n hx hb dX10_test_5 rfl (lv_at hl 0 rfl) ?_
  refine lv_iload_n hx hb dX10_test_6 rfl (lv_at hl 1 rfl) ?_
  refine pg_Vi (As := [.int x1]) C hH mi_X10_isSale vl_X10_288 (q := (RX10, TX10, 34)) (ci := 10) rfl rfl hf (fun _ e1 => (oO_sp e1).1) (fun _ _ e1 => c_X10_isSale e1) rfl rfl hl.1 (Nat.le_of_ble_eq_true rfl) ⟨Nat.le_of_ble_eq_true rfl, Nat.le_of_ble_eq_true rfl⟩ ⟨Nat.zero_le _, Nat.zero_le _⟩ dX10_test_7 (fun H locs v7 h7 hH hf => ?_)
  refine lv_if_eq (tgt := 18) hx hb dX10_test_10 (by decide) (fun cn => ?_) (fun cn => ?_)
  · have hf := (if_pos cn).symm.trans hf
    refine lv_ldc2 (v := (-1 : Int64)) hx hb hown (hts _ (htb _ kl_X10_339)) dX10_test_18 ?_
    exact pg_lret C hr hH hf dX10_test_21
  · have hf := (if_neg cn).symm.trans hf
    refine lv_iload_n hx hb dX10_test_13 rfl (lv_at hl 2 rfl) ?_
    refine lv_iconst (v := (-1 : Int32)) hx hb dX10_test_14 (by decide) ?_
    refine lv_icmp_ge (tgt := 22) hx hb dX10_test_15 (by decide) (fun cn => ?_) (fun cn => ?_)
    · have hf := (if_pos cn).symm.trans hf
      refine lv_aload_n hx hb dX10_test_22 rfl (lv_at hl 0 rfl) ?_
      refine lv_iload_n hx hb dX10_test_23 rfl (lv_at hl 1 rfl) ?_
      refine pg_Vv (As := [.int x1]) C hH mi_X10_laysTests vl_X10_369 (q := (RX10, TX10, 34)) (ci := 10) rfl rfl hf (fun _ e1 => (oO_sp e1).1) (fun _ e1 => c_X10_laysTests e1) rfl rfl hl.1 (Nat.le_of_ble_eq_true rfl) ⟨Nat.le_of_ble_eq_true rfl, Nat.le_of_ble_eq_true rfl⟩ ⟨Nat.zero_le _, Nat.zero_le _⟩ dX10_test_24 (fun H locs h24 hH hf => ?_)
      refine lv_iload_n hx hb dX10_test_27 rfl (lv_at hl 2 rfl) ?_
      refine lv_iconst (v := (-1 : Int32)) hx hb dX10_test_28 (by decide) ?_
      refine lv_icmp_ne (tgt := 40) hx hb dX10_test_29 (by decide) (fun cn => ?_) (fun cn => ?_)
      · have hf := (if_neg cn).symm.trans hf
        refine lv_iload_n hx hb dX10_test_40 rfl (lv_at hl 2 rfl) ?_
        refine lv_aload_n hx hb dX10_test_41 rfl (lv_at hl 0 rfl) ?_
        refine pg_gI C hH fl_X10_344 hf dX10_test_42 (fun v42 hf => ?_)
        refine lv_icmp_ge (tgt := 57) hx hb dX10_test_45 (by decide) (fun cn => ?_) (fun cn => ?_)
        · have hf := (if_pos cn).symm.trans hf
          refine lv_ldc2 (v := (-2 : Int64)) hx hb hown (hts _ (htb _ kl_X10_382)) dX10_test_57 ?_
          exact pg_lret C hr hH hf dX10_test_60
        · have hf := (if_neg cn).symm.trans hf
          refine lv_aload_n hx hb dX10_test_48 rfl (lv_at hl 0 rfl) ?_
          refine pg_gR C hH fl_X10_50 hf dX10_test_49 (fun v49 hf => ?_)
          refine lv_iload_n hx hb dX10_test_52 rfl (lv_at hl 2 rfl) ?_
          refine pg_aL C hH hf dX10_test_53 (fun v53 hf => ?_)
          refine lv_goto (tgt := 60) hx hb dX10_test_54 (by decide) ?_
          exact pg_lret C hr hH hf dX10_test_60
      · have hf := (if_pos cn).symm.trans hf
        refine lv_aload_n hx hb dX10_test_32 rfl (lv_at hl 0 rfl) ?_
        refine pg_gI C hH fl_X10_344 hf dX10_test_33 (fun v33 hf => ?_)
        refine lv_i2l (v := (Int32.toInt64 v33)) hx hb dX10_test_36 rfl ?_
        refine lv_goto (tgt := 60) hx hb dX10_test_37 (by decide) ?_
        exact pg_lret C hr hH hf dX10_test_60
    · have hf := (if_neg cn).symm.trans hf
      refine lv_ldc2 (v := (-1 : Int64)) hx hb hown (hts _ (htb _ kl_X10_339)) dX10_test_18 ?_
      exact pg_lret C hr hH hf dX10_test_21
set_option maxHeartbeats 4000000 in
set_option maxRecDepth 100000 in
theorem c_X10_passes {l : Launch} {g : GD} {h : PH} {a0 : Nat} {x1 : Int32} {r : Int32} {h' : PH} (hf : mX10_passes h a0 x1 = some (r, h')) : Met l yX10_passes (Cond.code yX10_passes cX10_passes 2 (some .int) :: TB) (rmD 10 0 0) (PcH g [.ref (gB g + a0), .int x1] h) (QcI g r h') 0 0 (aB g) := by
  refine Met.ofW (cc := cX10_passes) (maxL := 2) (ret := some .int) (by decide) rfl ?_
  intro p e s m args below meth c s₁ B hml hv
  obtain ⟨rfl, hH0, hkk0⟩ := hv
  have C : CT g RX10 cX10_passes 2 (Cond.code yX10_passes cX10_passes 2 (some .int) :: TB) p s m _ meth c := pg_ct (Tw := []) B hml hH0 hkk0
  have hr := B.returns
  have hH : HS g s s.heap [] h := ⟨hH0, va_S.rf⟩
  have hl := lv_entry ([.ref (gB g + a0), .int x1]) (n := 2) (Nat.le_of_ble_eq_true rfl)
  rw [lg_entry_eq]
  generalize (lg_sl ([.ref (gB g + a0), .int x1]) ++ List.replicate (2 - (lg_sl ([.ref (gB g + a0), .int x1])).length) Slot.unset).toArray = ls at hl ⊢
  have hl : lv_has ls 2 [(0, .ref (gB g + a0)), (1, .int x1)] := hl
  show W p l e (rmD 10 0 0) _ _ _ _ _ _ _ _ _ _ _ _
  unfold mX10_passes at hf
  obtain ⟨hO, hf⟩ := oO_sp hf
  obtain ⟨⟨hx, hb, hml, hown, hts⟩, htb, hlk, hkk, hbs⟩ := id C
  refine lv_aload_n hx hb dX10_passes_0 rfl (lv_at hl 0 rfl) ?_
  refine lv_iconst (v := (0 : Int32)) hx hb dX10_passes_1 (by decide) ?_
  refine pg_pI C hH fl_X10_1 fm_10_0 hf dX10_passes_2 (fun H locs h2 hH hf => ?_)
  refine lv_aload_n hx hb dX10_passes_5 rfl (lv_at hl 0 rfl) ?_
  refine lv_iload_n hx hb dX10_passes_6 rfl (lv_at hl 1 rfl) ?_
  refine pg_Vi (As := [.int x1]) C hH mi_X10_isSale vl_X10_288 (q := (RX10, TX10, 34)) (ci := 10) rfl rfl hf (fun _ e1 => (oO_sp e1).1) (fun _ _ e1 => c_X10_isSale e1) rfl rfl hl.1 (Nat.le_of_ble_eq_true rfl) ⟨Nat.le_of_ble_eq_true rfl, Nat.le_of_ble_eq_true rfl⟩ ⟨Nat.zero_le _, Nat.zero_le _⟩ dX10_passes_7 (fun H locs v7 h7 hH hf => ?_)
  refine lv_if_ne (tgt := 17) hx hb dX10_passes_10 (by decide) (fun cn => ?_) (fun cn => ?_)
  · have hf := (if_neg cn).symm.trans hf
    refine lv_aload_n hx hb dX10_passes_17 rfl (lv_at hl 0 rfl) ?_
    refine lv_iload_n hx hb dX10_passes_18 rfl (lv_at hl 1 rfl) ?_
    refine pg_Vi (As := [.int x1]) C hH mi_X10_doesPass vl_X10_379 (q := (RX10, TX10, 34)) (ci := 10) rfl rfl hf (fun _ e1 => (oO_sp e1).1) (fun _ _ e1 => c_X10_doesPass e1) rfl rfl hl.1 (Nat.le_of_ble_eq_true rfl) ⟨Nat.le_of_ble_eq_true rfl, Nat.le_of_ble_eq_true rfl⟩ ⟨Nat.zero_le _, Nat.zero_le _⟩ dX10_passes_19 (fun H locs v19 h19 hH hf => ?_)
    refine lv_if_eq (tgt := 29) hx hb dX10_passes_22 (by decide) (fun cn => ?_) (fun cn => ?_)
    · have hf := (if_pos cn).symm.trans hf
      refine lv_iconst (v := (0 : Int32)) hx hb dX10_passes_29 (by decide) ?_
      exact pg_iret C hr hH hf dX10_passes_30
    · have hf := (if_neg cn).symm.trans hf
      refine lv_iconst (v := (1 : Int32)) hx hb dX10_passes_25 (by decide) ?_
      refine lv_goto (tgt := 30) hx hb dX10_passes_26 (by decide) ?_
      exact pg_iret C hr hH hf dX10_passes_30
  · have hf := (if_pos cn).symm.trans hf
    refine lv_iconst (v := (-1 : Int32)) hx hb dX10_passes_13 (by decide) ?_
    refine lv_goto (tgt := 30) hx hb dX10_passes_14 (by decide) ?_
    exact pg_iret C hr hH hf dX10_passes_30
set_option maxHeartbeats 4000000 in
set_option maxRecDepth 100000 in
theorem wX10_prices_b44 {r44 : PH → Nat → Int32 → Int32 → Int32 → Int32 → Int32 → Int32 → Option (Int32 × PH)} {r : Int32} {h' : PH} (C : CT g RX10 cX10_prices 7 (Cond.code yX10_prices cX10_prices 7 (some .int) :: TB) p s m args meth c) (hr : meth.sig.returnType = some .int) (k44 : ∀ {h : PH} {a0 : Nat} {x1 : Int32} {x2 : Int32} {x3 : Int32} {x4 : Int32} {x5 : Int32} {x6 : Int32} {H : Heap} {locs : List Loc} {ls : Array Slot}, HS g s H locs h → r44 h a0 x1 x2 x3 x4 x5 x6 = some (r, h') → lv_has ls 7 [(0, .ref (gB g + a0)), (1, .int x1), (2, .int x2), (3, .int x3), (4, .int x4), (5, .int x5), (6, .int x6)] → W p l e (rmD 9 0 0) s m args below meth c H locs 0 0 (MQ below (QcI g r h') args s 0 0 (aB g)) (F0 m 44 ls [])) {h : PH} {a0 : Nat} {x1 : Int32} {x2 : Int32} {x3 : Int32} {x4 : Int32} {x5 : Int32} {x6 : Int32} {H : Heap} {locs : List Loc} {ls : Array Slot} (hH : HS g s H locs h) (hf : mX10_prices_b44 r44 h a0 x1 x2 x3 x4 x5 x6 = some (r, h')) (hl : lv_has ls 7 [(0, .ref (gB g + a0)), (1, .int x1), (2, .int x2), (3, .int x3), (4, .int x4), (5, .int x5), (6, .int x6)]) : W p l e (rmD 9 0 0) s m args below meth c H locs 0 0 (MQ below (QcI g r h') args s 0 0 (aB g)) (F0 m 44 ls []) := by
  obtain ⟨⟨hx, hb, hml, hown, hts⟩, htb, hlk, hkk, hbs⟩ := id C
  unfold mX10_prices_b44 at hf
  refine lv_iload hx hb dX10_prices_44 (lv_at hl 6 rfl) ?_
  refine lv_sipush (v := (9999 : Int32)) hx hb dX10_prices_46 (by decide) ?_
  refine lv_icmp_gt (tgt := 101) hx hb dX10_prices_49 (by decide) (fun cn => ?_) (fun cn => ?_)
  · have hf := (if_pos cn).symm.trans hf
    refine lv_iload_n hx hb dX10_prices_101 rfl (lv_at hl 2 rfl) ?_
    refine lv_if_ne (tgt := 109) hx hb dX10_prices_102 (by decide) (fun cn => ?_) (fun cn => ?_)
    · have hf := (if_neg cn).symm.trans hf
      refine lv_iload_n hx hb dX10_prices_109 rfl (lv_at hl 2 rfl) ?_
      refine lv_iconst (v := (1 : Int32)) hx hb dX10_prices_110 (by decide) ?_
      refine lv_icmp_ne (tgt := 119) hx hb dX10_prices_111 (by decide) (fun cn => ?_) (fun cn => ?_)
      · have hf := (if_neg cn).symm.trans hf
        refine lv_iload hx hb dX10_prices_119 (lv_at hl 5 rfl) ?_
        exact pg_iret C hr hH hf dX10_prices_121
      · have hf := (if_pos cn).symm.trans hf
        refine lv_iload hx hb dX10_prices_114 (lv_at hl 4 rfl) ?_
        refine lv_goto (tgt := 121) hx hb dX10_prices_116 (by decide) ?_
        exact pg_iret C hr hH hf dX10_prices_121
    · have hf := (if_pos cn).symm.trans hf
      refine lv_iload_n hx hb dX10_prices_105 rfl (lv_at hl 3 rfl) ?_
      refine lv_goto (tgt := 121) hx hb dX10_prices_106 (by decide) ?_
      exact pg_iret C hr hH hf dX10_prices_121
  · have hf := (if_neg cn).symm.trans hf
    refine lv_aload_n hx hb dX10_prices_52 rfl (lv_at hl 0 rfl) ?_
    refine lv_aload_n hx hb dX10_prices_53 rfl (lv_at hl 0 rfl) ?_
    refine lv_iload_n hx hb dX10_prices_54 rfl (lv_at hl 1 rfl) ?_
    refine lv_iload hx hb dX10_prices_55 (lv_at hl 6 rfl) ?_
    refine pg_Vl (As := [.int x1, .int x6]) C hH mi_X10_ownAt vl_X10_331 (q := (RX10, TX10, 34)) (ci := 10) rfl rfl hf (fun _ e1 => (oO_sp e1).1) (fun _ _ e1 => c_X10_ownAt e1) rfl rfl hl.1 (Nat.le_of_ble_eq_true rfl) ⟨Nat.le_of_ble_eq_true rfl, Nat.le_of_ble_eq_true rfl⟩ ⟨Nat.zero_le _, Nat.zero_le _⟩ dX10_prices_57 (fun H locs v57 h57 hH hf => ?_)
    refine lv_aload_n hx hb dX10_prices_60 rfl (lv_at hl 0 rfl) ?_
    refine pg_gR C hH fl_X10_13 hf dX10_prices_61 (fun v61 hf => ?_)
    refine lv_bipush (v := (6 : Int32)) hx hb dX10_prices_64 (by decide) ?_
    refine pg_aI C hH hf dX10_prices_66 (fun v66 hf => ?_)
    refine pg_Vi (As := [.long v57, .int v66]) C hH mi_X10_isNear vl_X10_372 (q := (RX10, TX10, 34)) (ci := 10) rfl rfl hf (fun _ e1 => (oO_sp e1).1) (fun _ _ e1 => c_X10_isNear e1) rfl rfl hl.1 (Nat.le_of_ble_eq_true rfl) ⟨Nat.le_of_ble_eq_true rfl, Nat.le_of_ble_eq_true rfl⟩ ⟨Nat.zero_le _, Nat.zero_le _⟩ dX10_prices_67 (fun H locs v67 h67 hH hf => ?_)
    refine lv_if_eq (tgt := 95) hx hb dX10_prices_70 (by decide) (fun cn => ?_) (fun cn => ?_)
    · have hf := (if_pos cn).symm.trans hf
      refine lv_iinc (v := (x6 + 1)) (lv' := [(6, .int (x6 + 1)), (0, .ref (gB g + a0)), (1, .int x1), (2, .int x2), (3, .int x3), (4, .int x4), (5, .int x5)]) hx hb dX10_prices_95 hl (k := 6) rfl rfl (by decide) rfl (fun ls hl => ?_)
      refine lv_goto (tgt := 44) hx hb dX10_prices_98 (by decide) ?_
      exact k44 hH hf (lv_sub hl [1, 2, 3, 4, 5, 6, 0] rfl)
    · have hf := (if_neg cn).symm.trans hf
      refine lv_iinc (v := (x3 + 1)) (lv' := [(3, .int (x3 + 1)), (0, .ref (gB g + a0)), (1, .int x1), (2, .int x2), (4, .int x4), (5, .int x5), (6, .int x6)]) hx hb dX10_prices_73 hl (k := 3) rfl rfl (by decide) rfl (fun ls hl => ?_)
      refine lv_iload hx hb dX10_prices_76 (lv_at hl 4 rfl) ?_
      refine lv_iconst (v := (-1 : Int32)) hx hb dX10_prices_78 (by decide) ?_
      refine lv_icmp_ne (tgt := 87) hx hb dX10_prices_79 (by decide) (fun cn => ?_) (fun cn => ?_)
      · have hf := (if_neg cn).symm.trans hf
        refine lv_iload hx hb dX10_prices_87 (lv_at hl 4 rfl) ?_
        refine lv_istore (lv' := [(4, .int x4), (3, .int (x3 + 1)), (0, .ref (gB g + a0)), (1, .int x1), (2, .int x2), (5, .int x5), (6, .int x6)]) hx hb dX10_prices_89 hl (by decide) rfl (fun ls hl => ?_)
        refine lv_iload hx hb dX10_prices_91 (lv_at hl 6 rfl) ?_
        refine lv_istore (lv' := [(5, .int x6), (4, .int x4), (3, .int (x3 + 1)), (0, .ref (gB g + a0)), (1, .int x1), (2, .int x2), (6, .int x6)]) hx hb dX10_prices_93 hl (by decide) rfl (fun ls hl => ?_)
        refine lv_iinc (v := (x6 + 1)) (lv' := [(6, .int (x6 + 1)), (5, .int x6), (4, .int x4), (3, .int (x3 + 1)), (0, .ref (gB g + a0)), (1, .int x1), (2, .int x2)]) hx hb dX10_prices_95 hl (k := 6) rfl rfl (by decide) rfl (fun ls hl => ?_)
        refine lv_goto (tgt := 44) hx hb dX10_prices_98 (by decide) ?_
        exact k44 hH hf (lv_sub hl [4, 5, 6, 3, 2, 1, 0] rfl)
      · have hf := (if_pos cn).symm.trans hf
        refine lv_iload hx hb dX10_prices_82 (lv_at hl 6 rfl) ?_
        refine lv_goto (tgt := 89) hx hb dX10_prices_84 (by decide) ?_
        refine lv_istore (lv' := [(4, .int x6), (3, .int (x3 + 1)), (0, .ref (gB g + a0)), (1, .int x1), (2, .int x2), (5, .int x5), (6, .int x6)]) hx hb dX10_prices_89 hl (by decide) rfl (fun ls hl => ?_)
        refine lv_iload hx hb dX10_prices_91 (lv_at hl 6 rfl) ?_
        refine lv_istore (lv' := [(5, .int x6), (4, .int x6), (3, .int (x3 + 1)), (0, .ref (gB g + a0)), (1, .int x1), (2, .int x2), (6, .int x6)]) hx hb dX10_prices_93 hl (by decide) rfl (fun ls hl => ?_)
        refine lv_iinc (v := (x6 + 1)) (lv' := [(6, .int (x6 + 1)), (5, .int x6), (4, .int x6), (3, .int (x3 + 1)), (0, .ref (gB g + a0)), (1, .int x1), (2, .int x2)]) hx hb dX10_prices_95 hl (k := 6) rfl rfl (by decide) rfl (fun ls hl => ?_)
        refine lv_goto (tgt := 44) hx hb dX10_prices_98 (by decide) ?_
        exact k44 hH hf (lv_sub hl [4, 5, 6, 3, 2, 1, 0] rfl)
set_option maxHeartbeats 4000000 in
set_option maxRecDepth 100000 in
theorem wX10_prices_L44 {r : Int32} {h' : PH} (C : CT g RX10 cX10_prices 7 (Cond.code yX10_prices cX10_prices 7 (some .int) :: TB) p s m args meth c) (hr : meth.sig.returnType = some .int) : ∀ (n : Nat) {h : PH} {a0 : Nat} {x1 : Int32} {x2 : Int32} {x3 : Int32} {x4 : Int32} {x5 : Int32} {x6 : Int32} {H : Heap} {locs : List Loc} {ls : Array Slot}, HS g s H locs h → mX10_prices_L44 n h a0 x1 x2 x3 x4 x5 x6 = some (r, h') → lv_has ls 7 [(0, .ref (gB g + a0)), (1, .int x1), (2, .int x2), (3, .int x3), (4, .int x4), (5, .int x5), (6, .int x6)] → W p l e (rmD 9 0 0) s m args below meth c H locs 0 0 (MQ below (QcI g r h') args s 0 0 (aB g)) (F0 m 44 ls []) := by
  intro n
  induction n with
  | zero =>
    intro h a0 x1 x2 x3 x4 x5 x6 H locs ls hH hf hl
    exact absurd hf (by intro z; cases z)
  | succ n ih =>
    intro h a0 x1 x2 x3 x4 x5 x6 H locs ls hH hf hl
    have hf : mX10_prices_b44 (mX10_prices_L44 n) h a0 x1 x2 x3 x4 x5 x6 = some (r, h') := hf
    exact wX10_prices_b44 C hr (fun a b c => ih a b c) hH hf hl
set_option maxHeartbeats 4000000 in
set_option maxRecDepth 100000 in
theorem c_X10_prices {l : Launch} {g : GD} {h : PH} {a0 : Nat} {x1 : Int32} {x2 : Int32} {r : Int32} {h' : PH} (hf : mX10_prices h a0 x1 x2 = some (r, h')) : Met l yX10_prices (Cond.code yX10_prices cX10_prices 7 (some .int) :: TB) (rmD 9 0 0) (PcH g [.ref (gB g + a0), .int x1, .int x2] h) (QcI g r h') 0 0 (aB g) := by
  refine Met.ofW (cc := cX10_prices) (maxL := 7) (ret := some .int) (by decide) rfl ?_
  intro p e s m args below meth c s₁ B hml hv
  obtain ⟨rfl, hH0, hkk0⟩ := hv
  have C : CT g RX10 cX10_prices 7 (Cond.code yX10_prices cX10_prices 7 (some .int) :: TB) p s m _ meth c := pg_ct (Tw := []) B hml hH0 hkk0
  have hr := B.returns
  have hH : HS g s s.heap [] h := ⟨hH0, va_S.rf⟩
  have hl := lv_entry ([.ref (gB g + a0), .int x1, .int x2]) (n := 7) (Nat.le_of_ble_eq_true rfl)
  rw [lg_entry_eq]
  generalize (lg_sl ([.ref (gB g + a0), .int x1, .int x2]) ++ List.replicate (7 - (lg_sl ([.ref (gB g + a0), .int x1, .int x2])).length) Slot.unset).toArray = ls at hl ⊢
  have hl : lv_has ls 7 [(0, .ref (gB g + a0)), (1, .int x1), (2, .int x2)] := hl
  show W p l e (rmD 9 0 0) _ _ _ _ _ _ _ _ _ _ _ _
  unfold mX10_prices at hf
  obtain ⟨hO, hf⟩ := oO_sp hf
  obtain ⟨⟨hx, hb, hml, hown, hts⟩, htb, hlk, hkk, hbs⟩ := id C
  refine lv_aload_n hx hb dX10_prices_0 rfl (lv_at hl 0 rfl) ?_
  refine lv_iconst (v := (0 : Int32)) hx hb dX10_prices_1 (by decide) ?_
  refine pg_pI C hH fl_X10_1 fm_10_0 hf dX10_prices_2 (fun H locs h2 hH hf => ?_)
  refine lv_aload_n hx hb dX10_prices_5 rfl (lv_at hl 0 rfl) ?_
  refine lv_iload_n hx hb dX10_prices_6 rfl (lv_at hl 1 rfl) ?_
  refine pg_Vi (As := [.int x1]) C hH mi_X10_isSale vl_X10_288 (q := (RX10, TX10, 34)) (ci := 10) rfl rfl hf (fun _ e1 => (oO_sp e1).1) (fun _ _ e1 => c_X10_isSale e1) rfl rfl hl.1 (Nat.le_of_ble_eq_true rfl) ⟨Nat.le_of_ble_eq_true rfl, Nat.le_of_ble_eq_true rfl⟩ ⟨Nat.zero_le _, Nat.zero_le _⟩ dX10_prices_7 (fun H locs v7 h7 hH hf => ?_)
  refine lv_if_eq (tgt := 25) hx hb dX10_prices_10 (by decide) (fun cn => ?_) (fun cn => ?_)
  · have hf := (if_pos cn).symm.trans hf
    refine lv_bipush (v := (-2 : Int32)) hx hb dX10_prices_25 (by decide) ?_
    exact pg_iret C hr hH hf dX10_prices_27
  · have hf := (if_neg cn).symm.trans hf
    refine lv_iload_n hx hb dX10_prices_13 rfl (lv_at hl 2 rfl) ?_
    refine lv_i2l (v := (Int32.toInt64 x2)) hx hb dX10_prices_14 rfl ?_
    refine lv_lconst (v := (0 : Int64)) hx hb dX10_prices_15 (by decide) ?_
    refine lv_ldc2 (v := (2 : Int64)) hx hb hown (hts _ (htb _ kl_X10_415)) dX10_prices_16 ?_
    refine pg_Si (As := [.long (Int32.toInt64 x2), .long (0 : Int64), .long (2 : Int64)]) C hH mi_X10_within sl_X10_97 hf (fun _ _ e1 => c_X10_within e1) rfl rfl hl.1 (Nat.le_of_ble_eq_true rfl) ⟨Nat.le_of_ble_eq_true rfl, Nat.le_of_ble_eq_true rfl⟩ ⟨Nat.zero_le _, Nat.zero_le _⟩ dX10_prices_19 (fun H locs v19 h19 hH hf => ?_)
    refine lv_if_ne (tgt := 28) hx hb dX10_prices_22 (by decide) (fun cn => ?_) (fun cn => ?_)
    · have hf := (if_neg cn).symm.trans hf
      refine lv_aload_n hx hb dX10_prices_28 rfl (lv_at hl 0 rfl) ?_
      refine lv_iload_n hx hb dX10_prices_29 rfl (lv_at hl 1 rfl) ?_
      refine pg_Vv (As := [.int x1]) C hH mi_X10_laysTests vl_X10_369 (q := (RX10, TX10, 34)) (ci := 10) rfl rfl hf (fun _ e1 => (oO_sp e1).1) (fun _ e1 => c_X10_laysTests e1) rfl rfl hl.1 (Nat.le_of_ble_eq_true rfl) ⟨Nat.le_of_ble_eq_true rfl, Nat.le_of_ble_eq_true rfl⟩ ⟨Nat.zero_le _, Nat.zero_le _⟩ dX10_prices_30 (fun H locs h30 hH hf => ?_)
      refine lv_iconst (v := (0 : Int32)) hx hb dX10_prices_33 (by decide) ?_
      refine lv_istore_n (lv' := [(3, .int (0 : Int32)), (0, .ref (gB g + a0)), (1, .int x1), (2, .int x2)]) hx hb dX10_prices_34 rfl hl (by decide) rfl (fun ls hl => ?_)
      refine lv_iconst (v := (-1 : Int32)) hx hb dX10_prices_35 (by decide) ?_
      refine lv_istore (lv' := [(4, .int (-1 : Int32)), (3, .int (0 : Int32)), (0, .ref (gB g + a0)), (1, .int x1), (2, .int x2)]) hx hb dX10_prices_36 hl (by decide) rfl (fun ls hl => ?_)
      refine lv_iconst (v := (-1 : Int32)) hx hb dX10_prices_38 (by decide) ?_
      refine lv_istore (lv' := [(5, .int (-1 : Int32)), (4, .int (-1 : Int32)), (3, .int (0 : Int32)), (0, .ref (gB g + a0)), (1, .int x1), (2, .int x2)]) hx hb dX10_prices_39 hl (by decide) rfl (fun ls hl => ?_)
      refine lv_iconst (v := (1 : Int32)) hx hb dX10_prices_41 (by decide) ?_
      refine lv_istore (lv' := [(6, .int (1 : Int32)), (5, .int (-1 : Int32)), (4, .int (-1 : Int32)), (3, .int (0 : Int32)), (0, .ref (gB g + a0)), (1, .int x1), (2, .int x2)]) hx hb dX10_prices_42 hl (by decide) rfl (fun ls hl => ?_)
      exact wX10_prices_L44 C hr FU hH hf (lv_sub hl [4, 5, 6, 3, 2, 1, 0] rfl)
    · have hf := (if_pos cn).symm.trans hf
      refine lv_bipush (v := (-2 : Int32)) hx hb dX10_prices_25 (by decide) ?_
      exact pg_iret C hr hH hf dX10_prices_27
end WK6
