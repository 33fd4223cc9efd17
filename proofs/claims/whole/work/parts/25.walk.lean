/-! ===== 25: walks (by program) ===== -/
section WK5
variable {p : Program} {l : Launch} {e : Env} {s : State} {m : MethodId} {args : Array Value} {below : List Frame} {meth : Method} {c : Code} {g : GD}
set_option maxHeartbeats 4000000 in
set_option maxRecDepth 100000 in
theorem wX10_isHere_b15 {r15 : PH → Nat → Int32 → Int32 → Option (Int32 × PH)} {r : Int32} {h' : PH} (C : CT g RX10 cX10_isHere 3 (Cond.code yX10_isHere cX10_isHere 3 (some .boolean) :: TB) p s m args meth c) (hr : meth.sig.returnType = some .boolean) (k15 : ∀ {h : PH} {a0 : Nat} {x1 : Int32} {x2 : Int32} {H : Heap} {locs : List Loc} {ls : Array Slot}, HS g s H locs h → r15 h a0 x1 x2 = some (r, h') → lv_has ls 3 [(0, .ref (gB g + a0)), (1, .int x1), (2, .int x2)] → W p l e (rmD 2 0 0) s m args below meth c H locs 0 0 (MQ below (QcI g r h') args s 0 0 (aB g)) (F0 m 15 ls [])) {h : PH} {a0 : Nat} {x1 : Int32} {x2 : Int32} {H : Heap} {locs : List Loc} {ls : Array Slot} (hH : HS g s H locs h) (hf : mX10_isHere_b15 r15 h a0 x1 x2 = some (r, h')) (hl : lv_has ls 3 [(0, .ref (gB g + a0)), (1, .int x1), (2, .int x2)]) : W p l e (rmD 2 0 0) s m args below meth c H locs 0 0 (MQ below (QcI g r h') args s 0 0 (aB g)) (F0 m 15 ls []) := by
  obtain ⟨⟨hx, hb, hml, hown, hts⟩, htb, hlk, hkk, hbs⟩ := id C
  unfold mX10_isHere_b15 at hf
  refine lv_iload_n hx hb dX10_isHere_15 rfl (lv_at hl 2 rfl) ?_
  refine lv_aload_n hx hb dX10_isHere_16 rfl (lv_at hl 0 rfl) ?_
  refine pg_gI C hH fl_X10_194 hf dX10_isHere_17 (fun v17 hf => ?_)
  refine lv_icmp_ge (tgt := 65) hx hb dX10_isHere_20 (by decide) (fun cn => ?_) (fun cn => ?_)
  · have hf := (if_pos cn).symm.trans hf
    refine lv_aload_n hx hb dX10_isHere_65 rfl (lv_at hl 0 rfl) ?_
    refine lv_iconst (v := (3 : Int32)) hx hb dX10_isHere_66 (by decide) ?_
    refine pg_Vi (As := [.int (3 : Int32)]) C hH mi_X10_bad vl_X10_112 (q := (RX10, TX10, 34)) (ci := 10) rfl rfl hf (fun _ e1 => (oO_sp e1).1) (fun _ _ e1 => c_X10_bad e1) rfl rfl hl.1 (Nat.le_of_ble_eq_true rfl) ⟨Nat.le_of_ble_eq_true rfl, Nat.le_of_ble_eq_true rfl⟩ ⟨Nat.zero_le _, Nat.zero_le _⟩ dX10_isHere_67 (fun H locs v67 h67 hH hf => ?_)
    exact pg_zret C hr hH hf dX10_isHere_70
  · have hf := (if_neg cn).symm.trans hf
    refine lv_aload_n hx hb dX10_isHere_23 rfl (lv_at hl 0 rfl) ?_
    refine pg_gR C hH fl_X10_34 hf dX10_isHere_24 (fun v24 hf => ?_)
    refine lv_iload_n hx hb dX10_isHere_27 rfl (lv_at hl 2 rfl) ?_
    refine pg_aL C hH hf dX10_isHere_28 (fun v28 hf => ?_)
    refine lv_aload_n hx hb dX10_isHere_29 rfl (lv_at hl 0 rfl) ?_
    refine pg_gL C hH fl_X10_86 hf dX10_isHere_30 (fun v30 hf => ?_)
    refine W.lcmp hx hb dX10_isHere_33 ?_
    refine lv_if_ne (tgt := 59) hx hb dX10_isHere_34 (by decide) (fun cn => ?_) (fun cn => ?_)
    · have hf := (if_neg (fun z => cn ((lg_cmp_eq _ _).mpr z))).symm.trans hf
      refine lv_iinc (v := (x2 + 1)) (lv' := [(2, .int (x2 + 1)), (0, .ref (gB g + a0)), (1, .int x1)]) hx hb dX10_isHere_59 hl (k := 2) rfl rfl (by decide) rfl (fun ls hl => ?_)
      refine lv_goto (tgt := 15) hx hb dX10_isHere_62 (by decide) ?_
      exact k15 hH hf (lv_sub hl [1, 2, 0] rfl)
    · have hf := (if_pos ((lg_cmp_eq _ _).mp cn)).symm.trans hf
      refine lv_aload_n hx hb dX10_isHere_37 rfl (lv_at hl 0 rfl) ?_
      refine pg_gR C hH fl_X10_38 hf dX10_isHere_38 (fun v38 hf => ?_)
      refine lv_iload_n hx hb dX10_isHere_41 rfl (lv_at hl 2 rfl) ?_
      refine pg_aI C hH hf dX10_isHere_42 (fun v42 hf => ?_)
      refine lv_iload_n hx hb dX10_isHere_43 rfl (lv_at hl 1 rfl) ?_
      refine lv_icmp_ne (tgt := 59) hx hb dX10_isHere_44 (by decide) (fun cn => ?_) (fun cn => ?_)
      · have hf := (if_neg cn).symm.trans hf
        refine lv_iinc (v := (x2 + 1)) (lv' := [(2, .int (x2 + 1)), (0, .ref (gB g + a0)), (1, .int x1)]) hx hb dX10_isHere_59 hl (k := 2) rfl rfl (by decide) rfl (fun ls hl => ?_)
        refine lv_goto (tgt := 15) hx hb dX10_isHere_62 (by decide) ?_
        exact k15 hH hf (lv_sub hl [1, 2, 0] rfl)
      · have hf := (if_pos cn).symm.trans hf
        refine lv_aload_n hx hb dX10_isHere_47 rfl (lv_at hl 0 rfl) ?_
        refine lv_aload_n hx hb dX10_isHere_48 rfl (lv_at hl 0 rfl) ?_
        refine pg_gR C hH fl_X10_41 hf dX10_isHere_49 (fun v49 hf => ?_)
        refine lv_iload_n hx hb dX10_isHere_52 rfl (lv_at hl 2 rfl) ?_
        refine pg_aI C hH hf dX10_isHere_53 (fun v53 hf => ?_)
        refine pg_pI C hH fl_X10_116 fm_10_16 hf dX10_isHere_54 (fun H locs h54 hH hf => ?_)
        refine lv_iconst (v := (1 : Int32)) hx hb dX10_isHere_57 (by decide) ?_
        exact pg_zret C hr hH hf dX10_isHere_58
set_option maxHeartbeats 4000000 in
set_option maxRecDepth 100000 in
theorem wX10_isHere_L15 {r : Int32} {h' : PH} (C : CT g RX10 cX10_isHere 3 (Cond.code yX10_isHere cX10_isHere 3 (some .boolean) :: TB) p s m args meth c) (hr : meth.sig.returnType = some .boolean) : ∀ (n : Nat) {h : PH} {a0 : Nat} {x1 : Int32} {x2 : Int32} {H : Heap} {locs : List Loc} {ls : Array Slot}, HS g s H locs h → mX10_isHere_L15 n h a0 x1 x2 = some (r, h') → lv_has ls 3 [(0, .ref (gB g + a0)), (1, .int x1), (2, .int x2)] → W p l e (rmD 2 0 0) s m args below meth c H locs 0 0 (MQ below (QcI g r h') args s 0 0 (aB g)) (F0 m 15 ls []) := by
  intro n
  induction n with
  | zero =>
    intro h a0 x1 x2 H locs ls hH hf hl
    exact absurd hf (by intro z; cases z)
  | succ n ih =>
    intro h a0 x1 x2 H locs ls hH hf hl
    have hf : mX10_isHere_b15 (mX10_isHere_L15 n) h a0 x1 x2 = some (r, h') := hf
    exact wX10_isHere_b15 C hr (fun a b c => ih a b c) hH hf hl
set_option maxHeartbeats 4000000 in
set_option maxRecDepth 100000 in
theorem c_X10_isHere {l : Launch} {g : GD} {h : PH} {a0 : Nat} {x1 : Int32} {r : Int32} {h' : PH} (hf : mX10_isHere h a0 x1 = some (r, h')) : Met l yX10_isHere (Cond.code yX10_isHere cX10_isHere 3 (some .boolean) :: TB) (rmD 2 0 0) (PcH g [.ref (gB g + a0), .int x1] h) (QcI g r h') 0 0 (aB g) := by
  refine Met.ofW (cc := cX10_isHere) (maxL := 3) (ret := some .boolean) (by decide) rfl ?_
  intro p e s m args below meth c s₁ B hml hv
  obtain ⟨rfl, hH0, hkk0⟩ := hv
  have C : CT g RX10 cX10_isHere 3 (Cond.code yX10_isHere cX10_isHere 3 (some .boolean) :: TB) p s m _ meth c := pg_ct (Tw := []) B hml hH0 hkk0
  have hr := B.returns
  have hH : HS g s s.heap [] h := ⟨hH0, va_S.rf⟩
  have hl := lv_entry ([.ref (gB g + a0), .int x1]) (n := 3) (Nat.le_of_ble_eq_true rfl)
  rw [lg_entry_eq]
  generalize (lg_sl ([.ref (gB g + a0), .int x1]) ++ List.replicate (3 - (lg_sl ([.ref (gB g + a0), .int x1])).length) Slot.unset).toArray = ls at hl ⊢
  have hl : lv_has ls 3 [(0, .ref (gB g + a0)), (1, .int x1)] := hl
  show W p l e (rmD 2 0 0) _ _ _ _ _ _ _ _ _ _ _ _
  unfold mX10_isHere at hf
  obtain ⟨hO, hf⟩ := oO_sp hf
  obtain ⟨⟨hx, hb, hml, hown, hts⟩, htb, hlk, hkk, hbs⟩ := id C
  refine lv_aload_n hx hb dX10_isHere_0 rfl (lv_at hl 0 rfl) ?_
  refine pg_Vi (As := []) C hH mi_X10_isName vl_X10_190 (q := (RX10, TX10, 34)) (ci := 10) rfl rfl hf (fun _ e1 => (oO_sp e1).1) (fun _ _ e1 => c_X10_isName e1) rfl rfl hl.1 (Nat.le_of_ble_eq_true rfl) ⟨Nat.le_of_ble_eq_true rfl, Nat.le_of_ble_eq_true rfl⟩ ⟨Nat.zero_le _, Nat.zero_le _⟩ dX10_isHere_1 (fun H locs v1 h1 hH hf => ?_)
  refine lv_if_ne (tgt := 13) hx hb dX10_isHere_4 (by decide) (fun cn => ?_) (fun cn => ?_)
  · have hf := (if_neg cn).symm.trans hf
    refine lv_iconst (v := (0 : Int32)) hx hb dX10_isHere_13 (by decide) ?_
    refine lv_istore_n (lv' := [(2, .int (0 : Int32)), (0, .ref (gB g + a0)), (1, .int x1)]) hx hb dX10_isHere_14 rfl hl (by decide) rfl (fun ls hl => ?_)
    exact wX10_isHere_L15 C hr FU hH hf (lv_sub hl [1, 2, 0] rfl)
  · have hf := (if_pos cn).symm.trans hf
    refine lv_aload_n hx hb dX10_isHere_7 rfl (lv_at hl 0 rfl) ?_
    refine lv_iconst (v := (1 : Int32)) hx hb dX10_isHere_8 (by decide) ?_
    refine pg_Vi (As := [.int (1 : Int32)]) C hH mi_X10_bad vl_X10_112 (q := (RX10, TX10, 34)) (ci := 10) rfl rfl hf (fun _ e1 => (oO_sp e1).1) (fun _ _ e1 => c_X10_bad e1) rfl rfl hl.1 (Nat.le_of_ble_eq_true rfl) ⟨Nat.le_of_ble_eq_true rfl, Nat.le_of_ble_eq_true rfl⟩ ⟨Nat.zero_le _, Nat.zero_le _⟩ dX10_isHere_9 (fun H locs v9 h9 hH hf => ?_)
    exact pg_zret C hr hH hf dX10_isHere_12
set_option maxHeartbeats 4000000 in
set_option maxRecDepth 100000 in
theorem c_X10_known {l : Launch} {g : GD} {h : PH} {a0 : Nat} {x1 : Int32} {r : Int32} {h' : PH} (hf : mX10_known h a0 x1 = some (r, h')) : Met l yX10_known (Cond.code yX10_known cX10_known 2 (some .boolean) :: TB) (rmD 3 0 0) (PcH g [.ref (gB g + a0), .int x1] h) (QcI g r h') 0 0 (aB g) := by
  refine Met.ofW (cc := cX10_known) (maxL := 2) (ret := some .boolean) (by decide) rfl ?_
  intro p e s m args below meth c s₁ B hml hv
  obtain ⟨rfl, hH0, hkk0⟩ := hv
  have C : CT g RX10 cX10_known 2 (Cond.code yX10_known cX10_known 2 (some .boolean) :: TB) p s m _ meth c := pg_ct (Tw := []) B hml hH0 hkk0
  have hr := B.returns
  have hH : HS g s s.heap [] h := ⟨hH0, va_S.rf⟩
  have hl := lv_entry ([.ref (gB g + a0), .int x1]) (n := 2) (Nat.le_of_ble_eq_true rfl)
  rw [lg_entry_eq]
  generalize (lg_sl ([.ref (gB g + a0), .int x1]) ++ List.replicate (2 - (lg_sl ([.ref (gB g + a0), .int x1])).length) Slot.unset).toArray = ls at hl ⊢
  have hl : lv_has ls 2 [(0, .ref (gB g + a0)), (1, .int x1)] := hl
  show W p l e (rmD 3 0 0) _ _ _ _ _ _ _ _ _ _ _ _
  unfold mX10_known at hf
  obtain ⟨hO, hf⟩ := oO_sp hf
  obtain ⟨⟨hx, hb, hml, hown, hts⟩, htb, hlk, hkk, hbs⟩ := id C
  refine lv_aload_n hx hb dX10_known_0 rfl (lv_at hl 0 rfl) ?_
  refine lv_iload_n hx hb dX10_known_1 rfl (lv_at hl 1 rfl) ?_
  refine pg_Vi (As := [.int x1]) C hH mi_X10_isHere vl_X10_197 (q := (RX10, TX10, 34)) (ci := 10) rfl rfl hf (fun _ e1 => (oO_sp e1).1) (fun _ _ e1 => c_X10_isHere e1) rfl rfl hl.1 (Nat.le_of_ble_eq_true rfl) ⟨Nat.le_of_ble_eq_true rfl, Nat.le_of_ble_eq_true rfl⟩ ⟨Nat.zero_le _, Nat.zero_le _⟩ dX10_known_2 (fun H locs v2 h2 hH hf => ?_)
  refine lv_if_ne (tgt := 10) hx hb dX10_known_5 (by decide) (fun cn => ?_) (fun cn => ?_)
  · have hf := (if_neg cn).symm.trans hf
    refine lv_aload_n hx hb dX10_known_10 rfl (lv_at hl 0 rfl) ?_
    refine pg_Vv (As := []) C hH mi_X10_go vl_X10_119 (q := (RX10, TX10, 34)) (ci := 10) rfl rfl hf (fun _ e1 => (oO_sp e1).1) (fun _ e1 => c_X10_go e1) rfl rfl hl.1 (Nat.le_of_ble_eq_true rfl) ⟨Nat.le_of_ble_eq_true rfl, Nat.le_of_ble_eq_true rfl⟩ ⟨Nat.zero_le _, Nat.zero_le _⟩ dX10_known_11 (fun H locs h11 hH hf => ?_)
    refine lv_iconst (v := (1 : Int32)) hx hb dX10_known_14 (by decide) ?_
    exact pg_zret C hr hH hf dX10_known_15
  · have hf := (if_pos cn).symm.trans hf
    refine lv_iconst (v := (0 : Int32)) hx hb dX10_known_8 (by decide) ?_
    exact pg_zret C hr hH hf dX10_known_9
set_option maxHeartbeats 4000000 in
set_option maxRecDepth 100000 in
theorem c_X10_begins {l : Launch} {g : GD} {h : PH} {a0 : Nat} {x1 : Int32} {x2 : Int32} {r : Int32} {h' : PH} (hf : mX10_begins h a0 x1 x2 = some (r, h')) : Met l yX10_begins (Cond.code yX10_begins cX10_begins 3 (some .boolean) :: TB) (rmD 2 0 0) (PcH g [.ref (gB g + a0), .int x1, .int x2] h) (QcI g r h') 0 0 (aB g) := by
  refine Met.ofW (cc := cX10_begins) (maxL := 3) (ret := some .boolean) (by decide) rfl ?_
  intro p e s m args below meth c s₁ B hml hv
  obtain ⟨rfl, hH0, hkk0⟩ := hv
  have C : CT g RX10 cX10_begins 3 (Cond.code yX10_begins cX10_begins 3 (some .boolean) :: TB) p s m _ meth c := pg_ct (Tw := []) B hml hH0 hkk0
  have hr := B.returns
  have hH : HS g s s.heap [] h := ⟨hH0, va_S.rf⟩
  have hl := lv_entry ([.ref (gB g + a0), .int x1, .int x2]) (n := 3) (Nat.le_of_ble_eq_true rfl)
  rw [lg_entry_eq]
  generalize (lg_sl ([.ref (gB g + a0), .int x1, .int x2]) ++ List.replicate (3 - (lg_sl ([.ref (gB g + a0), .int x1, .int x2])).length) Slot.unset).toArray = ls at hl ⊢
  have hl : lv_has ls 3 [(0, .ref (gB g + a0)), (1, .int x1), (2, .int x2)] := hl
  show W p l e (rmD 2 0 0) _ _ _ _ _ _ _ _ _ _ _ _
  unfold mX10_begins at hf
  obtain ⟨hO, hf⟩ := oO_sp hf
  obtain ⟨⟨hx, hb, hml, hown, hts⟩, htb, hlk, hkk, hbs⟩ := id C
  refine lv_aload_n hx hb dX10_begins_0 rfl (lv_at hl 0 rfl) ?_
  refine pg_gR C hH fl_X10_17 hf dX10_begins_1 (fun v1 hf => ?_)
  refine lv_iload_n hx hb dX10_begins_4 rfl (lv_at hl 1 rfl) ?_
  refine pg_aI C hH hf dX10_begins_5 (fun v5 hf => ?_)
  refine lv_iload_n hx hb dX10_begins_6 rfl (lv_at hl 2 rfl) ?_
  refine lv_icmp_ne (tgt := 16) hx hb dX10_begins_7 (by decide) (fun cn => ?_) (fun cn => ?_)
  · have hf := (if_neg cn).symm.trans hf
    refine lv_aload_n hx hb dX10_begins_16 rfl (lv_at hl 0 rfl) ?_
    refine pg_Vv (As := []) C hH mi_X10_go vl_X10_119 (q := (RX10, TX10, 34)) (ci := 10) rfl rfl hf (fun _ e1 => (oO_sp e1).1) (fun _ e1 => c_X10_go e1) rfl rfl hl.1 (Nat.le_of_ble_eq_true rfl) ⟨Nat.le_of_ble_eq_true rfl, Nat.le_of_ble_eq_true rfl⟩ ⟨Nat.zero_le _, Nat.zero_le _⟩ dX10_begins_17 (fun H locs h17 hH hf => ?_)
    refine lv_iconst (v := (1 : Int32)) hx hb dX10_begins_20 (by decide) ?_
    exact pg_zret C hr hH hf dX10_begins_21
  · have hf := (if_pos cn).symm.trans hf
    refine lv_aload_n hx hb dX10_begins_10 rfl (lv_at hl 0 rfl) ?_
    refine lv_iconst (v := (5 : Int32)) hx hb dX10_begins_11 (by decide) ?_
    refine pg_Vi (As := [.int (5 : Int32)]) C hH mi_X10_bad vl_X10_112 (q := (RX10, TX10, 34)) (ci := 10) rfl rfl hf (fun _ e1 => (oO_sp e1).1) (fun _ _ e1 => c_X10_bad e1) rfl rfl hl.1 (Nat.le_of_ble_eq_true rfl) ⟨Nat.le_of_ble_eq_true rfl, Nat.le_of_ble_eq_true rfl⟩ ⟨Nat.zero_le _, Nat.zero_le _⟩ dX10_begins_12 (fun H locs v12 h12 hH hf => ?_)
    exact pg_zret C hr hH hf dX10_begins_15
set_option maxHeartbeats 4000000 in
set_option maxRecDepth 100000 in
theorem c_X10_partyLine {l : Launch} {g : GD} {h : PH} {a0 : Nat} {r : Int32} {h' : PH} (hf : mX10_partyLine h a0 = some (r, h')) : Met l yX10_partyLine (Cond.code yX10_partyLine cX10_partyLine 1 (some .boolean) :: TB) (rmD 3 0 0) (PcH g [.ref (gB g + a0)] h) (QcI g r h') 0 0 (aB g) := by
  refine Met.ofW (cc := cX10_partyLine) (maxL := 1) (ret := some .boolean) (by decide) rfl ?_
  intro p e s m args below meth c s₁ B hml hv
  obtain ⟨rfl, hH0, hkk0⟩ := hv
  have C : CT g RX10 cX10_partyLine 1 (Cond.code yX10_partyLine cX10_partyLine 1 (some .boolean) :: TB) p s m _ meth c := pg_ct (Tw := []) B hml hH0 hkk0
  have hr := B.returns
  have hH : HS g s s.heap [] h := ⟨hH0, va_S.rf⟩
  have hl := lv_entry ([.ref (gB g + a0)]) (n := 1) (Nat.le_of_ble_eq_true rfl)
  rw [lg_entry_eq]
  generalize (lg_sl ([.ref (gB g + a0)]) ++ List.replicate (1 - (lg_sl ([.ref (gB g + a0)])).length) Slot.unset).toArray = ls at hl ⊢
  have hl : lv_has ls 1 [(0, .ref (gB g + a0))] := hl
  show W p l e (rmD 3 0 0) _ _ _ _ _ _ _ _ _ _ _ _
  unfold mX10_partyLine at hf
  obtain ⟨hO, hf⟩ := oO_sp hf
  obtain ⟨⟨hx, hb, hml, hown, hts⟩, htb, hlk, hkk, hbs⟩ := id C
  refine lv_aload_n hx hb dX10_partyLine_0 rfl (lv_at hl 0 rfl) ?_
  refine lv_iconst (v := (0 : Int32)) hx hb dX10_partyLine_1 (by decide) ?_
  refine lv_bipush (v := (6 : Int32)) hx hb dX10_partyLine_2 (by decide) ?_
  refine pg_Vi (As := [.int (0 : Int32), .int (6 : Int32)]) C hH mi_X10_begins vl_X10_200 (q := (RX10, TX10, 34)) (ci := 10) rfl rfl hf (fun _ e1 => (oO_sp e1).1) (fun _ _ e1 => c_X10_begins e1) rfl rfl hl.1 (Nat.le_of_ble_eq_true rfl) ⟨Nat.le_of_ble_eq_true rfl, Nat.le_of_ble_eq_true rfl⟩ ⟨Nat.zero_le _, Nat.zero_le _⟩ dX10_partyLine_4 (fun H locs v4 h4 hH hf => ?_)
  refine lv_if_eq (tgt := 18) hx hb dX10_partyLine_7 (by decide) (fun cn => ?_) (fun cn => ?_)
  · have hf := (if_pos cn).symm.trans hf
    refine lv_iconst (v := (0 : Int32)) hx hb dX10_partyLine_18 (by decide) ?_
    exact pg_zret C hr hH hf dX10_partyLine_19
  · have hf := (if_neg cn).symm.trans hf
    refine lv_aload_n hx hb dX10_partyLine_10 rfl (lv_at hl 0 rfl) ?_
    refine lv_iconst (v := (0 : Int32)) hx hb dX10_partyLine_11 (by decide) ?_
    refine pg_Vi (As := [.int (0 : Int32)]) C hH mi_X10_name vl_X10_203 (q := (RX10, TX10, 34)) (ci := 10) rfl rfl hf (fun _ e1 => (oO_sp e1).1) (fun _ _ e1 => c_X10_name e1) rfl rfl hl.1 (Nat.le_of_ble_eq_true rfl) ⟨Nat.le_of_ble_eq_true rfl, Nat.le_of_ble_eq_true rfl⟩ ⟨Nat.zero_le _, Nat.zero_le _⟩ dX10_partyLine_12 (fun H locs v12 h12 hH hf => ?_)
    refine lv_if_ne (tgt := 20) hx hb dX10_partyLine_15 (by decide) (fun cn => ?_) (fun cn => ?_)
    · have hf := (if_neg cn).symm.trans hf
      refine lv_aload_n hx hb dX10_partyLine_20 rfl (lv_at hl 0 rfl) ?_
      refine pg_gR C hH fl_X10_17 hf dX10_partyLine_21 (fun v21 hf => ?_)
      refine lv_iconst (v := (0 : Int32)) hx hb dX10_partyLine_24 (by decide) ?_
      refine lv_dup2_11 hx hb dX10_partyLine_25 rfl rfl ?_
      refine pg_aI C hH hf dX10_partyLine_26 (fun v26 hf => ?_)
      refine lv_iconst (v := (1 : Int32)) hx hb dX10_partyLine_27 (by decide) ?_
      refine lv_iadd hx hb dX10_partyLine_28 ?_
      refine pg_sI C hH hf dX10_partyLine_29 (fun H locs h29 hH hf => ?_)
      refine lv_iconst (v := (1 : Int32)) hx hb dX10_partyLine_30 (by decide) ?_
      exact pg_zret C hr hH hf dX10_partyLine_31
    · have hf := (if_pos cn).symm.trans hf
      refine lv_iconst (v := (0 : Int32)) hx hb dX10_partyLine_18 (by decide) ?_
      exact pg_zret C hr hH hf dX10_partyLine_19
set_option maxHeartbeats 4000000 in
set_option maxRecDepth 100000 in
theorem wX10_pairOf_b44 {r2 : PH → Nat → Int32 → Int32 → Int32 → Option (Int32 × PH)} {r : Int32} {h' : PH} (C : CT g RX10 cX10_pairOf 6 (Cond.code yX10_pairOf cX10_pairOf 6 (some .int) :: TB) p s m args meth c) (hr : meth.sig.returnType = some .int) (k2 : ∀ {h : PH} {a0 : Nat} {x1 : Int32} {x2 : Int32} {x3 : Int32} {H : Heap} {locs : List Loc} {ls : Array Slot}, HS g s H locs h → r2 h a0 x1 x2 x3 = some (r, h') → lv_has ls 6 [(0, .ref (gB g + a0)), (1, .int x1), (2, .int x2), (3, .int x3)] → W p l e (rmD 0 0 0) s m args below meth c H locs 0 0 (MQ below (QcI g r h') args s 0 0 (aB g)) (F0 m 2 ls [])) {h : PH} {a0 : Nat} {x1 : Int32} {x2 : Int32} {x3 : Int32} {x4 : Int32} {x5 : Int32} {H : Heap} {locs : List Loc} {ls : Array Slot} (hH : HS g s H locs h) (hf : mX10_pairOf_b44 r2 h a0 x1 x2 x3 x4 x5 = some (r, h')) (hl : lv_has ls 6 [(0, .ref (gB g + a0)), (1, .int x1), (2, .int x2), (3, .int x3), (4, .int x4), (5, .int x5)]) : W p l e (rmD 0 0 0) s m args below meth c H locs 0 0 (MQ below (QcI g r h') args s 0 0 (aB g)) (F0 m 44 ls []) := by
  obtain ⟨⟨hx, hb, hml, hown, hts⟩, htb, hlk, hkk, hbs⟩ := id C
  unfold mX10_pairOf_b44 at hf
  refine lv_iload hx hb dX10_pairOf_44 (lv_at hl 4 rfl) ?_
  refine lv_iload_n hx hb dX10_pairOf_46 rfl (lv_at hl 2 rfl) ?_
  refine lv_icmp_ne (tgt := 58) hx hb dX10_pairOf_47 (by decide) (fun cn => ?_) (fun cn => ?_)
  · have hf := (if_neg cn).symm.trans hf
    refine lv_iinc (v := (x3 + 1)) (lv' := [(3, .int (x3 + 1)), (0, .ref (gB g + a0)), (1, .int x1), (2, .int x2), (4, .int x4), (5, .int x5)]) hx hb dX10_pairOf_58 hl (k := 3) rfl rfl (by decide) rfl (fun ls hl => ?_)
    refine lv_goto (tgt := 2) hx hb dX10_pairOf_61 (by decide) ?_
    exact k2 hH hf (lv_sub hl [1, 2, 3, 0] rfl)
  · have hf := (if_pos cn).symm.trans hf
    refine lv_iload hx hb dX10_pairOf_50 (lv_at hl 5 rfl) ?_
    refine lv_iload_n hx hb dX10_pairOf_52 rfl (lv_at hl 1 rfl) ?_
    refine lv_icmp_ne (tgt := 58) hx hb dX10_pairOf_53 (by decide) (fun cn => ?_) (fun cn => ?_)
    · have hf := (if_neg cn).symm.trans hf
      refine lv_iinc (v := (x3 + 1)) (lv' := [(3, .int (x3 + 1)), (0, .ref (gB g + a0)), (1, .int x1), (2, .int x2), (4, .int x4), (5, .int x5)]) hx hb dX10_pairOf_58 hl (k := 3) rfl rfl (by decide) rfl (fun ls hl => ?_)
      refine lv_goto (tgt := 2) hx hb dX10_pairOf_61 (by decide) ?_
      exact k2 hH hf (lv_sub hl [1, 2, 3, 0] rfl)
    · have hf := (if_pos cn).symm.trans hf
      refine lv_iload_n hx hb dX10_pairOf_56 rfl (lv_at hl 3 rfl) ?_
      exact pg_iret C hr hH hf dX10_pairOf_57
set_option maxHeartbeats 4000000 in
set_option maxRecDepth 100000 in
theorem wX10_pairOf_b2 {r2 : PH → Nat → Int32 → Int32 → Int32 → Option (Int32 × PH)} {r : Int32} {h' : PH} (C : CT g RX10 cX10_pairOf 6 (Cond.code yX10_pairOf cX10_pairOf 6 (some .int) :: TB) p s m args meth c) (hr : meth.sig.returnType = some .int) (k2 : ∀ {h : PH} {a0 : Nat} {x1 : Int32} {x2 : Int32} {x3 : Int32} {H : Heap} {locs : List Loc} {ls : Array Slot}, HS g s H locs h → r2 h a0 x1 x2 x3 = some (r, h') → lv_has ls 6 [(0, .ref (gB g + a0)), (1, .int x1), (2, .int x2), (3, .int x3)] → W p l e (rmD 0 0 0) s m args below meth c H locs 0 0 (MQ below (QcI g r h') args s 0 0 (aB g)) (F0 m 2 ls [])) {h : PH} {a0 : Nat} {x1 : Int32} {x2 : Int32} {x3 : Int32} {H : Heap} {locs : List Loc} {ls : Array Slot} (hH : HS g s H locs h) (hf : mX10_pairOf_b2 r2 h a0 x1 x2 x3 = some (r, h')) (hl : lv_has ls 6 [(0, .ref (gB g + a0)), (1, .int x1), (2, .int x2), (3, .int x3)]) : W p l e (rmD 0 0 0) s m args below meth c H locs 0 0 (MQ below (QcI g r h') args s 0 0 (aB g)) (F0 m 2 ls []) := by
  obtain ⟨⟨hx, hb, hml, hown, hts⟩, htb, hlk, hkk, hbs⟩ := id C
  unfold mX10_pairOf_b2 at hf
  refine lv_iload_n hx hb dX10_pairOf_2 rfl (lv_at hl 3 rfl) ?_
  refine lv_aload_n hx hb dX10_pairOf_3 rfl (lv_at hl 0 rfl) ?_
  refine lv_bipush (v := (11 : Int32)) hx hb dX10_pairOf_4 (by decide) ?_
  refine pg_aI C hH hf dX10_pairOf_6 (fun v6 hf => ?_)
  refine lv_icmp_ge (tgt := 64) hx hb dX10_pairOf_7 (by decide) (fun cn => ?_) (fun cn => ?_)
  · have hf := (if_pos cn).symm.trans hf
    refine lv_iconst (v := (-1 : Int32)) hx hb dX10_pairOf_64 (by decide) ?_
    exact pg_iret C hr hH hf dX10_pairOf_65
  · have hf := (if_neg cn).symm.trans hf
    refine lv_aload_n hx hb dX10_pairOf_10 rfl (lv_at hl 0 rfl) ?_
    refine lv_bipush (v := (12 : Int32)) hx hb dX10_pairOf_11 (by decide) ?_
    refine lv_iconst (v := (2 : Int32)) hx hb dX10_pairOf_13 (by decide) ?_
    refine lv_iload_n hx hb dX10_pairOf_14 rfl (lv_at hl 3 rfl) ?_
    refine lv_imul hx hb dX10_pairOf_15 ?_
    refine lv_iadd hx hb dX10_pairOf_16 ?_
    refine pg_aI C hH hf dX10_pairOf_17 (fun v17 hf => ?_)
    refine lv_istore (lv' := [(4, .int v17), (0, .ref (gB g + a0)), (1, .int x1), (2, .int x2), (3, .int x3)]) hx hb dX10_pairOf_18 hl (by decide) rfl (fun ls hl => ?_)
    refine lv_aload_n hx hb dX10_pairOf_20 rfl (lv_at hl 1 rfl) ?_
    refine lv_bipush (v := (12 : Int32)) hx hb dX10_pairOf_21 (by decide) ?_
    refine lv_iconst (v := (2 : Int32)) hx hb dX10_pairOf_23 (by decide) ?_
    refine lv_iload_n hx hb dX10_pairOf_24 rfl (lv_at hl 4 rfl) ?_
    refine lv_imul hx hb dX10_pairOf_25 ?_
    refine lv_iadd hx hb dX10_pairOf_26 ?_
    refine lv_iconst (v := (1 : Int32)) hx hb dX10_pairOf_27 (by decide) ?_
    refine lv_iadd hx hb dX10_pairOf_28 ?_
    refine pg_aI C hH hf dX10_pairOf_29 (fun v29 hf => ?_)
    refine lv_istore (lv' := [(5, .int v29), (4, .int v17), (0, .ref (gB g + a0)), (1, .int x1), (2, .int x2), (3, .int x3)]) hx hb dX10_pairOf_30 hl (by decide) rfl (fun ls hl => ?_)
    refine lv_iload hx hb dX10_pairOf_32 (lv_at hl 1 rfl) ?_
    refine lv_iload_n hx hb dX10_pairOf_34 rfl (lv_at hl 3 rfl) ?_
    refine lv_icmp_ne (tgt := 44) hx hb dX10_pairOf_35 (by decide) (fun cn => ?_) (fun cn => ?_)
    · have hf := (if_neg cn).symm.trans hf
      exact wX10_pairOf_b44 C hr k2 hH hf (lv_sub hl [2, 3, 4, 5, 1, 0] rfl)
    · have hf := (if_pos cn).symm.trans hf
      refine lv_iload hx hb dX10_pairOf_38 (lv_at hl 0 rfl) ?_
      refine lv_iload_n hx hb dX10_pairOf_40 rfl (lv_at hl 4 rfl) ?_
      refine lv_icmp_eq (tgt := 56) hx hb dX10_pairOf_41 (by decide) (fun cn => ?_) (fun cn => ?_)
      · have hf := (if_pos cn).symm.trans hf
        refine lv_iload_n hx hb dX10_pairOf_56 rfl (lv_at hl 5 rfl) ?_
        exact pg_iret C hr hH hf dX10_pairOf_57
      · have hf := (if_neg cn).symm.trans hf
        exact wX10_pairOf_b44 C hr k2 hH hf (lv_sub hl [2, 3, 4, 5, 1, 0] rfl)
set_option maxHeartbeats 4000000 in
set_option maxRecDepth 100000 in
theorem wX10_pairOf_L2 {r : Int32} {h' : PH} (C : CT g RX10 cX10_pairOf 6 (Cond.code yX10_pairOf cX10_pairOf 6 (some .int) :: TB) p s m args meth c) (hr : meth.sig.returnType = some .int) : ∀ (n : Nat) {h : PH} {a0 : Nat} {x1 : Int32} {x2 : Int32} {x3 : Int32} {H : Heap} {locs : List Loc} {ls : Array Slot}, HS g s H locs h → mX10_pairOf_L2 n h a0 x1 x2 x3 = some (r, h') → lv_has ls 6 [(0, .ref (gB g + a0)), (1, .int x1), (2, .int x2), (3, .int x3)] → W p l e (rmD 0 0 0) s m args below meth c H locs 0 0 (MQ below (QcI g r h') args s 0 0 (aB g)) (F0 m 2 ls []) := by
  intro n
  induction n with
  | zero =>
    intro h a0 x1 x2 x3 H locs ls hH hf hl
    exact absurd hf (by intro z; cases z)
  | succ n ih =>
    intro h a0 x1 x2 x3 H locs ls hH hf hl
    have hf : mX10_pairOf_b2 (mX10_pairOf_L2 n) h a0 x1 x2 x3 = some (r, h') := hf
    exact wX10_pairOf_b2 C hr (fun a b c => ih a b c) hH hf hl
set_option maxHeartbeats 4000000 in
set_option maxRecDepth 100000 in
theorem c_X10_pairOf {l : Launch} {g : GD} {h : PH} {a0 : Nat} {x1 : Int32} {x2 : Int32} {r : Int32} {h' : PH} (hf : mX10_pairOf h a0 x1 x2 = some (r, h')) : Met l yX10_pairOf (Cond.code yX10_pairOf cX10_pairOf 6 (some .int) :: TB) (rmD 0 0 0) (PcH g [.ref (gB g + a0), .int x1, .int x2] h) (QcI g r h') 0 0 (aB g) := by
  refine Met.ofW (cc := cX10_pairOf) (maxL := 6) (ret := some .int) (by decide) rfl ?_
  intro p e s m args below meth c s₁ B hml hv
  obtain ⟨rfl, hH0, hkk0⟩ := hv
  have C : CT g RX10 cX10_pairOf 6 (Cond.code yX10_pairOf cX10_pairOf 6 (some .int) :: TB) p s m _ meth c := pg_ct (Tw := []) B hml hH0 hkk0
  have hr := B.returns
  have hH : HS g s s.heap [] h := ⟨hH0, va_S.rf⟩
  have hl := lv_entry ([.ref (gB g + a0), .int x1, .int x2]) (n := 6) (Nat.le_of_ble_eq_true rfl)
  rw [lg_entry_eq]
  generalize (lg_sl ([.ref (gB g + a0), .int x1, .int x2]) ++ List.replicate (6 - (lg_sl ([.ref (gB g + a0), .int x1, .int x2])).length) Slot.unset).toArray = ls at hl ⊢
  have hl : lv_has ls 6 [(0, .ref (gB g + a0)), (1, .int x1), (2, .int x2)] := hl
  show W p l e (rmD 0 0 0) _ _ _ _ _ _ _ _ _ _ _ _
  unfold mX10_pairOf at hf
  obtain ⟨⟨hx, hb, hml, hown, hts⟩, htb, hlk, hkk, hbs⟩ := id C
  refine lv_iconst (v := (0 : Int32)) hx hb dX10_pairOf_0 (by decide) ?_
  refine lv_istore_n (lv' := [(3, .int (0 : Int32)), (0, .ref (gB g + a0)), (1, .int x1), (2, .int x2)]) hx hb dX10_pairOf_1 rfl hl (by decide) rfl (fun ls hl => ?_)
  exact wX10_pairOf_L2 C hr FU hH hf (lv_sub hl [1, 2, 3, 0] rfl)
set_option maxHeartbeats 4000000 in
set_option maxRecDepth 100000 in
theorem c_X10_kinLine {l : Launch} {g : GD} {h : PH} {a0 : Nat} {r : Int32} {h' : PH} (hf : mX10_kinLine h a0 = some (r, h')) : Met l yX10_kinLine (Cond.code yX10_kinLine cX10_kinLine 2 (some .boolean) :: TB) (rmD 4 0 0) (PcH g [.ref (gB g + a0)] h) (QcI g r h') 0 0 (aB g) := by
  refine Met.ofW (cc := cX10_kinLine) (maxL := 2) (ret := some .boolean) (by decide) rfl ?_
  intro p e s m args below meth c s₁ B hml hv
  obtain ⟨rfl, hH0, hkk0⟩ := hv
  have C : CT g RX10 cX10_kinLine 2 (Cond.code yX10_kinLine cX10_kinLine 2 (some .boolean) :: TB) p s m _ meth c := pg_ct (Tw := []) B hml hH0 hkk0
  have hr := B.returns
  have hH : HS g s s.heap [] h := ⟨hH0, va_S.rf⟩
  have hl := lv_entry ([.ref (gB g + a0)]) (n := 2) (Nat.le_of_ble_eq_true rfl)
  rw [lg_entry_eq]
  generalize (lg_sl ([.ref (gB g + a0)]) ++ List.replicate (2 - (lg_sl ([.ref (gB g + a0)])).length) Slot.unset).toArray = ls at hl ⊢
  have hl : lv_has ls 2 [(0, .ref (gB g + a0))] := hl
  show W p l e (rmD 4 0 0) _ _ _ _ _ _ _ _ _ _ _ _
  unfold mX10_kinLine at hf
  obtain ⟨hO, hf⟩ := oO_sp hf
  obtain ⟨⟨hx, hb, hml, hown, hts⟩, htb, hlk, hkk, hbs⟩ := id C
  refine lv_aload_n hx hb dX10_kinLine_0 rfl (lv_at hl 0 rfl) ?_
  refine lv_bipush (v := (11 : Int32)) hx hb dX10_kinLine_1 (by decide) ?_
  refine lv_bipush (v := (6 : Int32)) hx hb dX10_kinLine_3 (by decide) ?_
  refine pg_Vi (As := [.int (11 : Int32), .int (6 : Int32)]) C hH mi_X10_begins vl_X10_200 (q := (RX10, TX10, 34)) (ci := 10) rfl rfl hf (fun _ e1 => (oO_sp e1).1) (fun _ _ e1 => c_X10_begins e1) rfl rfl hl.1 (Nat.le_of_ble_eq_true rfl) ⟨Nat.le_of_ble_eq_true rfl, Nat.le_of_ble_eq_true rfl⟩ ⟨Nat.zero_le _, Nat.zero_le _⟩ dX10_kinLine_5 (fun H locs v5 h5 hH hf => ?_)
  refine lv_if_eq (tgt := 19) hx hb dX10_kinLine_8 (by decide) (fun cn => ?_) (fun cn => ?_)
  · have hf := (if_pos cn).symm.trans hf
    refine lv_iconst (v := (0 : Int32)) hx hb dX10_kinLine_19 (by decide) ?_
    exact pg_zret C hr hH hf dX10_kinLine_20
  · have hf := (if_neg cn).symm.trans hf
    refine lv_aload_n hx hb dX10_kinLine_11 rfl (lv_at hl 0 rfl) ?_
    refine lv_iconst (v := (0 : Int32)) hx hb dX10_kinLine_12 (by decide) ?_
    refine pg_Vi (As := [.int (0 : Int32)]) C hH mi_X10_known vl_X10_206 (q := (RX10, TX10, 34)) (ci := 10) rfl rfl hf (fun _ e1 => (oO_sp e1).1) (fun _ _ e1 => c_X10_known e1) rfl rfl hl.1 (Nat.le_of_ble_eq_true rfl) ⟨Nat.le_of_ble_eq_true rfl, Nat.le_of_ble_eq_true rfl⟩ ⟨Nat.zero_le _, Nat.zero_le _⟩ dX10_kinLine_13 (fun H locs v13 h13 hH hf => ?_)
    refine lv_if_ne (tgt := 21) hx hb dX10_kinLine_16 (by decide) (fun cn => ?_) (fun cn => ?_)
    · have hf := (if_neg cn).symm.trans hf
      refine lv_aload_n hx hb dX10_kinLine_21 rfl (lv_at hl 0 rfl) ?_
      refine pg_gI C hH fl_X10_116 hf dX10_kinLine_22 (fun v22 hf => ?_)
      refine lv_istore_n (lv' := [(1, .int v22), (0, .ref (gB g + a0))]) hx hb dX10_kinLine_25 rfl hl (by decide) rfl (fun ls hl => ?_)
      refine lv_aload_n hx hb dX10_kinLine_26 rfl (lv_at hl 1 rfl) ?_
      refine lv_iconst (v := (0 : Int32)) hx hb dX10_kinLine_27 (by decide) ?_
      refine pg_Vi (As := [.int (0 : Int32)]) C hH mi_X10_isHere vl_X10_197 (q := (RX10, TX10, 34)) (ci := 10) rfl rfl hf (fun _ e1 => (oO_sp e1).1) (fun _ _ e1 => c_X10_isHere e1) rfl rfl hl.1 (Nat.le_of_ble_eq_true rfl) ⟨Nat.le_of_ble_eq_true rfl, Nat.le_of_ble_eq_true rfl⟩ ⟨Nat.zero_le _, Nat.zero_le _⟩ dX10_kinLine_28 (fun H locs v28 h28 hH hf => ?_)
      refine lv_if_ne (tgt := 36) hx hb dX10_kinLine_31 (by decide) (fun cn => ?_) (fun cn => ?_)
      · have hf := (if_neg cn).symm.trans hf
        refine lv_aload_n hx hb dX10_kinLine_36 rfl (lv_at hl 1 rfl) ?_
        refine pg_gI C hH fl_X10_116 hf dX10_kinLine_37 (fun v37 hf => ?_)
        refine lv_iload_n hx hb dX10_kinLine_40 rfl (lv_at hl 0 rfl) ?_
        refine lv_icmp_ne (tgt := 50) hx hb dX10_kinLine_41 (by decide) (fun cn => ?_) (fun cn => ?_)
        · have hf := (if_neg cn).symm.trans hf
          refine lv_aload_n hx hb dX10_kinLine_50 rfl (lv_at hl 1 rfl) ?_
          refine pg_gR C hH fl_X10_17 hf dX10_kinLine_51 (fun v51 hf => ?_)
          refine lv_iload_n hx hb dX10_kinLine_54 rfl (lv_at hl 0 rfl) ?_
          refine lv_aload_n hx hb dX10_kinLine_55 rfl (lv_at hl 1 rfl) ?_
          refine pg_gI C hH fl_X10_116 hf dX10_kinLine_56 (fun v56 hf => ?_)
          refine pg_Si (As := [.ref (gB g + v51), .int v22, .int v56]) C hH mi_X10_pairOf sl_X10_209 hf (fun _ _ e1 => c_X10_pairOf e1) rfl rfl hl.1 (Nat.le_of_ble_eq_true rfl) ⟨Nat.le_of_ble_eq_true rfl, Nat.le_of_ble_eq_true rfl⟩ ⟨Nat.zero_le _, Nat.zero_le _⟩ dX10_kinLine_59 (fun H locs v59 h59 hH hf => ?_)
          refine lv_iconst (v := (-1 : Int32)) hx hb dX10_kinLine_62 (by decide) ?_
          refine lv_icmp_eq (tgt := 72) hx hb dX10_kinLine_63 (by decide) (fun cn => ?_) (fun cn => ?_)
          · have hf := (if_pos cn).symm.trans hf
            refine lv_aload_n hx hb dX10_kinLine_72 rfl (lv_at hl 1 rfl) ?_
            refine pg_Vv (As := []) C hH mi_X10_go vl_X10_119 (q := (RX10, TX10, 34)) (ci := 10) rfl rfl hf (fun _ e1 => (oO_sp e1).1) (fun _ e1 => c_X10_go e1) rfl rfl hl.1 (Nat.le_of_ble_eq_true rfl) ⟨Nat.le_of_ble_eq_true rfl, Nat.le_of_ble_eq_true rfl⟩ ⟨Nat.zero_le _, Nat.zero_le _⟩ dX10_kinLine_73 (fun H locs h73 hH hf => ?_)
            refine lv_aload_n hx hb dX10_kinLine_76 rfl (lv_at hl 1 rfl) ?_
            refine pg_gR C hH fl_X10_17 hf dX10_kinLine_77 (fun v77 hf => ?_)
            refine lv_bipush (v := (12 : Int32)) hx hb dX10_kinLine_80 (by decide) ?_
            refine lv_iconst (v := (2 : Int32)) hx hb dX10_kinLine_82 (by decide) ?_
            refine lv_aload_n hx hb dX10_kinLine_83 rfl (lv_at hl 1 rfl) ?_
            refine pg_gR C hH fl_X10_17 hf dX10_kinLine_84 (fun v84 hf => ?_)
            refine lv_bipush (v := (11 : Int32)) hx hb dX10_kinLine_87 (by decide) ?_
            refine pg_aI C hH hf dX10_kinLine_89 (fun v89 hf => ?_)
            refine lv_imul hx hb dX10_kinLine_90 ?_
            refine lv_iadd hx hb dX10_kinLine_91 ?_
            refine lv_iload_n hx hb dX10_kinLine_92 rfl (lv_at hl 0 rfl) ?_
            refine pg_sI C hH hf dX10_kinLine_93 (fun H locs h93 hH hf => ?_)
            refine lv_aload_n hx hb dX10_kinLine_94 rfl (lv_at hl 1 rfl) ?_
            refine pg_gR C hH fl_X10_17 hf dX10_kinLine_95 (fun v95 hf => ?_)
            refine lv_bipush (v := (12 : Int32)) hx hb dX10_kinLine_98 (by decide) ?_
            refine lv_iconst (v := (2 : Int32)) hx hb dX10_kinLine_100 (by decide) ?_
            refine lv_aload_n hx hb dX10_kinLine_101 rfl (lv_at hl 1 rfl) ?_
            refine pg_gR C hH fl_X10_17 hf dX10_kinLine_102 (fun v102 hf => ?_)
            refine lv_bipush (v := (11 : Int32)) hx hb dX10_kinLine_105 (by decide) ?_
            refine pg_aI C hH hf dX10_kinLine_107 (fun v107 hf => ?_)
            refine lv_imul hx hb dX10_kinLine_108 ?_
            refine lv_iadd hx hb dX10_kinLine_109 ?_
            refine lv_iconst (v := (1 : Int32)) hx hb dX10_kinLine_110 (by decide) ?_
            refine lv_iadd hx hb dX10_kinLine_111 ?_
            refine lv_aload_n hx hb dX10_kinLine_112 rfl (lv_at hl 1 rfl) ?_
            refine pg_gI C hH fl_X10_116 hf dX10_kinLine_113 (fun v113 hf => ?_)
            refine pg_sI C hH hf dX10_kinLine_116 (fun H locs h116 hH hf => ?_)
            refine lv_aload_n hx hb dX10_kinLine_117 rfl (lv_at hl 1 rfl) ?_
            refine pg_gR C hH fl_X10_17 hf dX10_kinLine_118 (fun v118 hf => ?_)
            refine lv_bipush (v := (11 : Int32)) hx hb dX10_kinLine_121 (by decide) ?_
            refine lv_dup2_11 hx hb dX10_kinLine_123 rfl rfl ?_
            refine pg_aI C hH hf dX10_kinLine_124 (fun v124 hf => ?_)
            refine lv_iconst (v := (1 : Int32)) hx hb dX10_kinLine_125 (by decide) ?_
            refine lv_iadd hx hb dX10_kinLine_126 ?_
            refine pg_sI C hH hf dX10_kinLine_127 (fun H locs h127 hH hf => ?_)
            refine lv_iconst (v := (1 : Int32)) hx hb dX10_kinLine_128 (by decide) ?_
            exact pg_zret C hr hH hf dX10_kinLine_129
          · have hf := (if_neg cn).symm.trans hf
            refine lv_aload_n hx hb dX10_kinLine_66 rfl (lv_at hl 1 rfl) ?_
            refine lv_iconst (v := (2 : Int32)) hx hb dX10_kinLine_67 (by decide) ?_
            refine pg_Vi (As := [.int (2 : Int32)]) C hH mi_X10_bad vl_X10_112 (q := (RX10, TX10, 34)) (ci := 10) rfl rfl hf (fun _ e1 => (oO_sp e1).1) (fun _ _ e1 => c_X10_bad e1) rfl rfl hl.1 (Nat.le_of_ble_eq_true rfl) ⟨Nat.le_of_ble_eq_true rfl, Nat.le_of_ble_eq_true rfl⟩ ⟨Nat.zero_le _, Nat.zero_le _⟩ dX10_kinLine_68 (fun H locs v68 h68 hH hf => ?_)
            exact pg_zret C hr hH hf dX10_kinLine_71
        · have hf := (if_pos cn).symm.trans hf
          refine lv_aload_n hx hb dX10_kinLine_44 rfl (lv_at hl 1 rfl) ?_
          refine lv_iconst (v := (4 : Int32)) hx hb dX10_kinLine_45 (by decide) ?_
          refine pg_Vi (As := [.int (4 : Int32)]) C hH mi_X10_bad vl_X10_112 (q := (RX10, TX10, 34)) (ci := 10) rfl rfl hf (fun _ e1 => (oO_sp e1).1) (fun _ _ e1 => c_X10_bad e1) rfl rfl hl.1 (Nat.le_of_ble_eq_true rfl) ⟨Nat.le_of_ble_eq_true rfl, Nat.le_of_ble_eq_true rfl⟩ ⟨Nat.zero_le _, Nat.zero_le _⟩ dX10_kinLine_46 (fun H locs v46 h46 hH hf => ?_)
          exact pg_zret C hr hH hf dX10_kinLine_49
      · have hf := (if_pos cn).symm.trans hf
        refine lv_iconst (v := (0 : Int32)) hx hb dX10_kinLine_34 (by decide) ?_
        exact pg_zret C hr hH hf dX10_kinLine_35
    · have hf := (if_pos cn).symm.trans hf
      refine lv_iconst (v := (0 : Int32)) hx hb dX10_kinLine_19 (by decide) ?_
      exact pg_zret C hr hH hf dX10_kinLine_20
set_option maxHeartbeats 4000000 in
set_option maxRecDepth 100000 in
theorem c_X10_goodLine {l : Launch} {g : GD} {h : PH} {a0 : Nat} {r : Int32} {h' : PH} (hf : mX10_goodLine h a0 = some (r, h')) : Met l yX10_goodLine (Cond.code yX10_goodLine cX10_goodLine 2 (some .boolean) :: TB) (rmD 4 0 0) (PcH g [.ref (gB g + a0)] h) (QcI g r h') 0 0 (aB g) := by
  refine Met.ofW (cc := cX10_goodLine) (maxL := 2) (ret := some .boolean) (by decide) rfl ?_
  intro p e s m args below meth c s₁ B hml hv
  obtain ⟨rfl, hH0, hkk0⟩ := hv
  have C : CT g RX10 cX10_goodLine 2 (Cond.code yX10_goodLine cX10_goodLine 2 (some .boolean) :: TB) p s m _ meth c := pg_ct (Tw := []) B hml hH0 hkk0
  have hr := B.returns
  have hH : HS g s s.heap [] h := ⟨hH0, va_S.rf⟩
  have hl := lv_entry ([.ref (gB g + a0)]) (n := 2) (Nat.le_of_ble_eq_true rfl)
  rw [lg_entry_eq]
  generalize (lg_sl ([.ref (gB g + a0)]) ++ List.replicate (2 - (lg_sl ([.ref (gB g + a0)])).length) Slot.unset).toArray = ls at hl ⊢
  have hl : lv_has ls 2 [(0, .ref (gB g + a0))] := hl
  show W p l e (rmD 4 0 0) _ _ _ _ _ _ _ _ _ _ _ _
  unfold mX10_goodLine at hf
  obtain ⟨hO, hf⟩ := oO_sp hf
  obtain ⟨⟨hx, hb, hml, hown, hts⟩, htb, hlk, hkk, hbs⟩ := id C
  refine lv_aload_n hx hb dX10_goodLine_0 rfl (lv_at hl 0 rfl) ?_
  refine lv_iconst (v := (1 : Int32)) hx hb dX10_goodLine_1 (by decide) ?_
  refine lv_bipush (v := (6 : Int32)) hx hb dX10_goodLine_2 (by decide) ?_
  refine pg_Vi (As := [.int (1 : Int32), .int (6 : Int32)]) C hH mi_X10_begins vl_X10_200 (q := (RX10, TX10, 34)) (ci := 10) rfl rfl hf (fun _ e1 => (oO_sp e1).1) (fun _ _ e1 => c_X10_begins e1) rfl rfl hl.1 (Nat.le_of_ble_eq_true rfl) ⟨Nat.le_of_ble_eq_true rfl, Nat.le_of_ble_eq_true rfl⟩ ⟨Nat.zero_le _, Nat.zero_le _⟩ dX10_goodLine_4 (fun H locs v4 h4 hH hf => ?_)
  refine lv_if_eq (tgt := 18) hx hb dX10_goodLine_7 (by decide) (fun cn => ?_) (fun cn => ?_)
  · have hf := (if_pos cn).symm.trans hf
    refine lv_iconst (v := (0 : Int32)) hx hb dX10_goodLine_18 (by decide) ?_
    exact pg_zret C hr hH hf dX10_goodLine_19
  · have hf := (if_neg cn).symm.trans hf
    refine lv_aload_n hx hb dX10_goodLine_10 rfl (lv_at hl 0 rfl) ?_
    refine lv_iconst (v := (1 : Int32)) hx hb dX10_goodLine_11 (by decide) ?_
    refine pg_Vi (As := [.int (1 : Int32)]) C hH mi_X10_name vl_X10_203 (q := (RX10, TX10, 34)) (ci := 10) rfl rfl hf (fun _ e1 => (oO_sp e1).1) (fun _ _ e1 => c_X10_name e1) rfl rfl hl.1 (Nat.le_of_ble_eq_true rfl) ⟨Nat.le_of_ble_eq_true rfl, Nat.le_of_ble_eq_true rfl⟩ ⟨Nat.zero_le _, Nat.zero_le _⟩ dX10_goodLine_12 (fun H locs v12 h12 hH hf => ?_)
    refine lv_if_ne (tgt := 20) hx hb dX10_goodLine_15 (by decide) (fun cn => ?_) (fun cn => ?_)
    · have hf := (if_neg cn).symm.trans hf
      refine lv_bipush (v := (24 : Int32)) hx hb dX10_goodLine_20 (by decide) ?_
      refine lv_iconst (v := (4 : Int32)) hx hb dX10_goodLine_22 (by decide) ?_
      refine lv_aload_n hx hb dX10_goodLine_23 rfl (lv_at hl 0 rfl) ?_
      refine pg_gR C hH fl_X10_17 hf dX10_goodLine_24 (fun v24 hf => ?_)
      refine lv_iconst (v := (1 : Int32)) hx hb dX10_goodLine_27 (by decide) ?_
      refine pg_aI C hH hf dX10_goodLine_28 (fun v28 hf => ?_)
      refine lv_imul hx hb dX10_goodLine_29 ?_
      refine lv_iadd hx hb dX10_goodLine_30 ?_
      refine lv_istore_n (lv' := [(1, .int ((24 : Int32) + ((4 : Int32) * v28))), (0, .ref (gB g + a0))]) hx hb dX10_goodLine_31 rfl hl (by decide) rfl (fun ls hl => ?_)
      refine lv_aload_n hx hb dX10_goodLine_32 rfl (lv_at hl 1 rfl) ?_
      refine lv_ldc2 (v := (7945904 : Int64)) hx hb hown (hts _ (htb _ kl_X10_136)) dX10_goodLine_33 ?_
      refine lv_iconst (v := (0 : Int32)) hx hb dX10_goodLine_36 (by decide) ?_
      refine lv_bipush (v := (9 : Int32)) hx hb dX10_goodLine_37 (by decide) ?_
      refine pg_Vi (As := [.long (7945904 : Int64), .int (0 : Int32), .int (9 : Int32)]) C hH mi_X10_after vl_X10_213 (q := (RX10, TX10, 34)) (ci := 10) rfl rfl hf (fun _ e1 => (oO_sp e1).1) (fun _ _ e1 => c_X10_after e1) rfl rfl hl.1 (Nat.le_of_ble_eq_true rfl) ⟨Nat.le_of_ble_eq_true rfl, Nat.le_of_ble_eq_true rfl⟩ ⟨Nat.zero_le _, Nat.zero_le _⟩ dX10_goodLine_39 (fun H locs v39 h39 hH hf => ?_)
      refine lv_if_ne (tgt := 47) hx hb dX10_goodLine_42 (by decide) (fun cn => ?_) (fun cn => ?_)
      · have hf := (if_neg cn).symm.trans hf
        refine lv_aload_n hx hb dX10_goodLine_47 rfl (lv_at hl 1 rfl) ?_
        refine pg_gR C hH fl_X10_17 hf dX10_goodLine_48 (fun v48 hf => ?_)
        refine lv_iload_n hx hb dX10_goodLine_51 rfl (lv_at hl 0 rfl) ?_
        refine lv_iconst (v := (0 : Int32)) hx hb dX10_goodLine_52 (by decide) ?_
        refine lv_iadd hx hb dX10_goodLine_53 ?_
        refine lv_aload_n hx hb dX10_goodLine_54 rfl (lv_at hl 1 rfl) ?_
        refine pg_gI C hH fl_X10_116 hf dX10_goodLine_55 (fun v55 hf => ?_)
        refine pg_sI C hH hf dX10_goodLine_58 (fun H locs h58 hH hf => ?_)
        refine lv_aload_n hx hb dX10_goodLine_59 rfl (lv_at hl 1 rfl) ?_
        refine lv_ldc2 (v := (394692 : Int64)) hx hb hown (hts _ (htb _ kl_X10_138)) dX10_goodLine_60 ?_
        refine lv_iconst (v := (0 : Int32)) hx hb dX10_goodLine_63 (by decide) ?_
        refine lv_bipush (v := (9 : Int32)) hx hb dX10_goodLine_64 (by decide) ?_
        refine pg_Vi (As := [.long (394692 : Int64), .int (0 : Int32), .int (9 : Int32)]) C hH mi_X10_after vl_X10_213 (q := (RX10, TX10, 34)) (ci := 10) rfl rfl hf (fun _ e1 => (oO_sp e1).1) (fun _ _ e1 => c_X10_after e1) rfl rfl hl.1 (Nat.le_of_ble_eq_true rfl) ⟨Nat.le_of_ble_eq_true rfl, Nat.le_of_ble_eq_true rfl⟩ ⟨Nat.zero_le _, Nat.zero_le _⟩ dX10_goodLine_66 (fun H locs v66 h66 hH hf => ?_)
        refine lv_if_ne (tgt := 74) hx hb dX10_goodLine_69 (by decide) (fun cn => ?_) (fun cn => ?_)
        · have hf := (if_neg cn).symm.trans hf
          refine lv_aload_n hx hb dX10_goodLine_74 rfl (lv_at hl 1 rfl) ?_
          refine pg_gR C hH fl_X10_17 hf dX10_goodLine_75 (fun v75 hf => ?_)
          refine lv_iload_n hx hb dX10_goodLine_78 rfl (lv_at hl 0 rfl) ?_
          refine lv_iconst (v := (1 : Int32)) hx hb dX10_goodLine_79 (by decide) ?_
          refine lv_iadd hx hb dX10_goodLine_80 ?_
          refine lv_aload_n hx hb dX10_goodLine_81 rfl (lv_at hl 1 rfl) ?_
          refine pg_gI C hH fl_X10_116 hf dX10_goodLine_82 (fun v82 hf => ?_)
          refine pg_sI C hH hf dX10_goodLine_85 (fun H locs h85 hH hf => ?_)
          refine lv_aload_n hx hb dX10_goodLine_86 rfl (lv_at hl 1 rfl) ?_
          refine pg_gR C hH fl_X10_17 hf dX10_goodLine_87 (fun v87 hf => ?_)
          refine lv_iconst (v := (1 : Int32)) hx hb dX10_goodLine_90 (by decide) ?_
          refine lv_dup2_11 hx hb dX10_goodLine_91 rfl rfl ?_
          refine pg_aI C hH hf dX10_goodLine_92 (fun v92 hf => ?_)
          refine lv_iconst (v := (1 : Int32)) hx hb dX10_goodLine_93 (by decide) ?_
          refine lv_iadd hx hb dX10_goodLine_94 ?_
          refine pg_sI C hH hf dX10_goodLine_95 (fun H locs h95 hH hf => ?_)
          refine lv_iconst (v := (1 : Int32)) hx hb dX10_goodLine_96 (by decide) ?_
          exact pg_zret C hr hH hf dX10_goodLine_97
        · have hf := (if_pos cn).symm.trans hf
          refine lv_iconst (v := (0 : Int32)) hx hb dX10_goodLine_72 (by decide) ?_
          exact pg_zret C hr hH hf dX10_goodLine_73
      · have hf := (if_pos cn).symm.trans hf
        refine lv_iconst (v := (0 : Int32)) hx hb dX10_goodLine_45 (by decide) ?_
        exact pg_zret C hr hH hf dX10_goodLine_46
    · have hf := (if_pos cn).symm.trans hf
      refine lv_iconst (v := (0 : Int32)) hx hb dX10_goodLine_18 (by decide) ?_
      exact pg_zret C hr hH hf dX10_goodLine_19
set_option maxHeartbeats 4000000 in
set_option maxRecDepth 100000 in
theorem wX10_assistLine_b114 {r : Int32} {h' : PH} (C : CT g RX10 cX10_assistLine 2 (Cond.code yX10_assistLine cX10_assistLine 2 (some .boolean) :: TB) p s m args meth c) (hr : meth.sig.returnType = some .boolean) {h : PH} {a0 : Nat} {H : Heap} {locs : List Loc} {ls : Array Slot} (hH : HS g s H locs h) (hf : mX10_assistLine_b114 h a0 = some (r, h')) (hl : lv_has ls 2 [(0, .ref (gB g + a0))]) : W p l e (rmD 4 0 0) s m args below meth c H locs 0 0 (MQ below (QcI g r h') args s 0 0 (aB g)) (F0 m 114 ls []) := by
  obtain ⟨⟨hx, hb, hml, hown, hts⟩, htb, hlk, hkk, hbs⟩ := id C
  unfold mX10_assistLine_b114 at hf
  refine lv_aload_n hx hb dX10_assistLine_114 rfl (lv_at hl 0 rfl) ?_
  refine pg_gR C hH fl_X10_17 hf dX10_assistLine_115 (fun v115 hf => ?_)
  refine lv_iconst (v := (2 : Int32)) hx hb dX10_assistLine_118 (by decide) ?_
  refine lv_dup2_11 hx hb dX10_assistLine_119 rfl rfl ?_
  refine pg_aI C hH hf dX10_assistLine_120 (fun v120 hf => ?_)
  refine lv_iconst (v := (1 : Int32)) hx hb dX10_assistLine_121 (by decide) ?_
  refine lv_iadd hx hb dX10_assistLine_122 ?_
  refine pg_sI C hH hf dX10_assistLine_123 (fun H locs h123 hH hf => ?_)
  refine lv_iconst (v := (1 : Int32)) hx hb dX10_assistLine_124 (by decide) ?_
  exact pg_zret C hr hH hf dX10_assistLine_125
set_option maxHeartbeats 4000000 in
set_option maxRecDepth 100000 in
theorem c_X10_assistLine {l : Launch} {g : GD} {h : PH} {a0 : Nat} {r : Int32} {h' : PH} (hf : mX10_assistLine h a0 = some (r, h')) : Met l yX10_assistLine (Cond.code yX10_assistLine cX10_assistLine 2 (some .boolean) :: TB) (rmD 4 0 0) (PcH g [.ref (gB g + a0)] h) (QcI g r h') 0 0 (aB g) := by
  refine Met.ofW (cc := cX10_assistLine) (maxL := 2) (ret := some .boolean) (by decide) rfl ?_
  intro p e s m args below meth c s₁ B hml hv
  obtain ⟨rfl, hH0, hkk0⟩ := hv
  have C : CT g RX10 cX10_assistLine 2 (Cond.code yX10_assistLine cX10_assistLine 2 (some .boolean) :: TB) p s m _ meth c := pg_ct (Tw := []) B hml hH0 hkk0
  have hr := B.returns
  have hH : HS g s s.heap [] h := ⟨hH0, va_S.rf⟩
  have hl := lv_entry ([.ref (gB g + a0)]) (n := 2) (Nat.le_of_ble_eq_true rfl)
  rw [lg_entry_eq]
  generalize (lg_sl ([.ref (gB g + a0)]) ++ List.replicate (2 - (lg_sl ([.ref (gB g + a0)])).length) Slot.unset).toArray = ls at hl ⊢
  have hl : lv_has ls 2 [(0, .ref (gB g + a0))] := hl
  show W p l e (rmD 4 0 0) _ _ _ _ _ _ _ _ _ _ _ _
  unfold mX10_assistLine at hf
  obtain ⟨hO, hf⟩ := oO_sp hf
  obtain ⟨⟨hx, hb, hml, hown, hts⟩, htb, hlk, hkk, hbs⟩ := id C
  refine lv_aload_n hx hb dX10_assistLine_0 rfl (lv_at hl 0 rfl) ?_
  refine lv_iconst (v := (2 : Int32)) hx hb dX10_assistLine_1 (by decide) ?_
  refine lv_iconst (v := (4 : Int32)) hx hb dX10_assistLine_2 (by decide) ?_
  refine pg_Vi (As := [.int (2 : Int32), .int (4 : Int32)]) C hH mi_X10_begins vl_X10_200 (q := (RX10, TX10, 34)) (ci := 10) rfl rfl hf (fun _ e1 => (oO_sp e1).1) (fun _ _ e1 => c_X10_begins e1) rfl rfl hl.1 (Nat.le_of_ble_eq_true rfl) ⟨Nat.le_of_ble_eq_true rfl, Nat.le_of_ble_eq_true rfl⟩ ⟨Nat.zero_le _, Nat.zero_le _⟩ dX10_assistLine_3 (fun H locs v3 h3 hH hf => ?_)
  refine lv_if_eq (tgt := 31) hx hb dX10_assistLine_6 (by decide) (fun cn => ?_) (fun cn => ?_)
  · have hf := (if_pos cn).symm.trans hf
    refine lv_iconst (v := (0 : Int32)) hx hb dX10_assistLine_31 (by decide) ?_
    exact pg_zret C hr hH hf dX10_assistLine_32
  · have hf := (if_neg cn).symm.trans hf
    refine lv_aload_n hx hb dX10_assistLine_9 rfl (lv_at hl 0 rfl) ?_
    refine lv_iconst (v := (2 : Int32)) hx hb dX10_assistLine_10 (by decide) ?_
    refine pg_Vi (As := [.int (2 : Int32)]) C hH mi_X10_name vl_X10_203 (q := (RX10, TX10, 34)) (ci := 10) rfl rfl hf (fun _ e1 => (oO_sp e1).1) (fun _ _ e1 => c_X10_name e1) rfl rfl hl.1 (Nat.le_of_ble_eq_true rfl) ⟨Nat.le_of_ble_eq_true rfl, Nat.le_of_ble_eq_true rfl⟩ ⟨Nat.zero_le _, Nat.zero_le _⟩ dX10_assistLine_11 (fun H locs v11 h11 hH hf => ?_)
    refine lv_if_eq (tgt := 31) hx hb dX10_assistLine_14 (by decide) (fun cn => ?_) (fun cn => ?_)
    · have hf := (if_pos cn).symm.trans hf
      refine lv_iconst (v := (0 : Int32)) hx hb dX10_assistLine_31 (by decide) ?_
      exact pg_zret C hr hH hf dX10_assistLine_32
    · have hf := (if_neg cn).symm.trans hf
      refine lv_aload_n hx hb dX10_assistLine_17 rfl (lv_at hl 0 rfl) ?_
      refine lv_ldc2 (v := (24627848 : Int64)) hx hb hown (hts _ (htb _ kl_X10_142)) dX10_assistLine_18 ?_
      refine lv_iconst (v := (1 : Int32)) hx hb dX10_assistLine_21 (by decide) ?_
      refine lv_sipush (v := (9999 : Int32)) hx hb dX10_assistLine_22 (by decide) ?_
      refine pg_Vi (As := [.long (24627848 : Int64), .int (1 : Int32), .int (9999 : Int32)]) C hH mi_X10_after vl_X10_213 (q := (RX10, TX10, 34)) (ci := 10) rfl rfl hf (fun _ e1 => (oO_sp e1).1) (fun _ _ e1 => c_X10_after e1) rfl rfl hl.1 (Nat.le_of_ble_eq_true rfl) ⟨Nat.le_of_ble_eq_true rfl, Nat.le_of_ble_eq_true rfl⟩ ⟨Nat.zero_le _, Nat.zero_le _⟩ dX10_assistLine_25 (fun H locs v25 h25 hH hf => ?_)
      refine lv_if_ne (tgt := 33) hx hb dX10_assistLine_28 (by decide) (fun cn => ?_) (fun cn => ?_)
      · have hf := (if_neg cn).symm.trans hf
        refine lv_bipush (v := (48 : Int32)) hx hb dX10_assistLine_33 (by decide) ?_
        refine lv_iconst (v := (2 : Int32)) hx hb dX10_assistLine_35 (by decide) ?_
        refine lv_aload_n hx hb dX10_assistLine_36 rfl (lv_at hl 0 rfl) ?_
        refine pg_gR C hH fl_X10_17 hf dX10_assistLine_37 (fun v37 hf => ?_)
        refine lv_iconst (v := (2 : Int32)) hx hb dX10_assistLine_40 (by decide) ?_
        refine pg_aI C hH hf dX10_assistLine_41 (fun v41 hf => ?_)
        refine lv_imul hx hb dX10_assistLine_42 ?_
        refine lv_iadd hx hb dX10_assistLine_43 ?_
        refine lv_istore_n (lv' := [(1, .int ((48 : Int32) + ((2 : Int32) * v41))), (0, .ref (gB g + a0))]) hx hb dX10_assistLine_44 rfl hl (by decide) rfl (fun ls hl => ?_)
        refine lv_aload_n hx hb dX10_assistLine_45 rfl (lv_at hl 1 rfl) ?_
        refine pg_gR C hH fl_X10_17 hf dX10_assistLine_46 (fun v46 hf => ?_)
        refine lv_iload_n hx hb dX10_assistLine_49 rfl (lv_at hl 0 rfl) ?_
        refine lv_iconst (v := (0 : Int32)) hx hb dX10_assistLine_50 (by decide) ?_
        refine lv_iadd hx hb dX10_assistLine_51 ?_
        refine lv_aload_n hx hb dX10_assistLine_52 rfl (lv_at hl 1 rfl) ?_
        refine pg_gI C hH fl_X10_116 hf dX10_assistLine_53 (fun v53 hf => ?_)
        refine pg_sI C hH hf dX10_assistLine_56 (fun H locs h56 hH hf => ?_)
        refine lv_aload_n hx hb dX10_assistLine_57 rfl (lv_at hl 1 rfl) ?_
        refine pg_gR C hH fl_X10_17 hf dX10_assistLine_58 (fun v58 hf => ?_)
        refine lv_iload_n hx hb dX10_assistLine_61 rfl (lv_at hl 0 rfl) ?_
        refine lv_iconst (v := (1 : Int32)) hx hb dX10_assistLine_62 (by decide) ?_
        refine lv_iadd hx hb dX10_assistLine_63 ?_
        refine lv_iconst (v := (0 : Int32)) hx hb dX10_assistLine_64 (by decide) ?_
        refine pg_sI C hH hf dX10_assistLine_65 (fun H locs h65 hH hf => ?_)
        refine lv_aload_n hx hb dX10_assistLine_66 rfl (lv_at hl 1 rfl) ?_
        refine lv_ldc2 (v := (6605428 : Int64)) hx hb hown (hts _ (htb _ kl_X10_144)) dX10_assistLine_67 ?_
        refine pg_Vi (As := [.long (6605428 : Int64)]) C hH mi_X10_is vl_X10_122 (q := (RX10, TX10, 34)) (ci := 10) rfl rfl hf (fun _ e1 => (oO_sp e1).1) (fun _ _ e1 => c_X10_is e1) rfl rfl hl.1 (Nat.le_of_ble_eq_true rfl) ⟨Nat.le_of_ble_eq_true rfl, Nat.le_of_ble_eq_true rfl⟩ ⟨Nat.zero_le _, Nat.zero_le _⟩ dX10_assistLine_70 (fun H locs v70 h70 hH hf => ?_)
        refine lv_if_eq (tgt := 83) hx hb dX10_assistLine_73 (by decide) (fun cn => ?_) (fun cn => ?_)
        · have hf := (if_pos cn).symm.trans hf
          refine lv_aload_n hx hb dX10_assistLine_83 rfl (lv_at hl 1 rfl) ?_
          refine lv_ldc2 (v := (89 : Int64)) hx hb hown (hts _ (htb _ kl_X10_146)) dX10_assistLine_84 ?_
          refine lv_iconst (v := (1 : Int32)) hx hb dX10_assistLine_87 (by decide) ?_
          refine lv_sipush (v := (9999 : Int32)) hx hb dX10_assistLine_88 (by decide) ?_
          refine pg_Vi (As := [.long (89 : Int64), .int (1 : Int32), .int (9999 : Int32)]) C hH mi_X10_after vl_X10_213 (q := (RX10, TX10, 34)) (ci := 10) rfl rfl hf (fun _ e1 => (oO_sp e1).1) (fun _ _ e1 => c_X10_after e1) rfl rfl hl.1 (Nat.le_of_ble_eq_true rfl) ⟨Nat.le_of_ble_eq_true rfl, Nat.le_of_ble_eq_true rfl⟩ ⟨Nat.zero_le _, Nat.zero_le _⟩ dX10_assistLine_91 (fun H locs v91 h91 hH hf => ?_)
          refine lv_if_eq (tgt := 112) hx hb dX10_assistLine_94 (by decide) (fun cn => ?_) (fun cn => ?_)
          · have hf := (if_pos cn).symm.trans hf
            refine lv_iconst (v := (0 : Int32)) hx hb dX10_assistLine_112 (by decide) ?_
            exact pg_zret C hr hH hf dX10_assistLine_113
          · have hf := (if_neg cn).symm.trans hf
            refine lv_aload_n hx hb dX10_assistLine_97 rfl (lv_at hl 1 rfl) ?_
            refine pg_gR C hH fl_X10_17 hf dX10_assistLine_98 (fun v98 hf => ?_)
            refine lv_iload_n hx hb dX10_assistLine_101 rfl (lv_at hl 0 rfl) ?_
            refine lv_iconst (v := (1 : Int32)) hx hb dX10_assistLine_102 (by decide) ?_
            refine lv_iadd hx hb dX10_assistLine_103 ?_
            refine lv_aload_n hx hb dX10_assistLine_104 rfl (lv_at hl 1 rfl) ?_
            refine pg_gI C hH fl_X10_116 hf dX10_assistLine_105 (fun v105 hf => ?_)
            refine pg_sI C hH hf dX10_assistLine_108 (fun H locs h108 hH hf => ?_)
            refine lv_goto (tgt := 114) hx hb dX10_assistLine_109 (by decide) ?_
            exact wX10_assistLine_b114 C hr hH hf (lv_sub hl [1] rfl)
        · have hf := (if_neg cn).symm.trans hf
          refine lv_aload_n hx hb dX10_assistLine_76 rfl (lv_at hl 1 rfl) ?_
          refine pg_Vv (As := []) C hH mi_X10_go vl_X10_119 (q := (RX10, TX10, 34)) (ci := 10) rfl rfl hf (fun _ e1 => (oO_sp e1).1) (fun _ e1 => c_X10_go e1) rfl rfl hl.1 (Nat.le_of_ble_eq_true rfl) ⟨Nat.le_of_ble_eq_true rfl, Nat.le_of_ble_eq_true rfl⟩ ⟨Nat.zero_le _, Nat.zero_le _⟩ dX10_assistLine_77 (fun H locs h77 hH hf => ?_)
          refine lv_goto (tgt := 114) hx hb dX10_assistLine_80 (by decide) ?_
          exact wX10_assistLine_b114 C hr hH hf (lv_sub hl [1] rfl)
      · have hf := (if_pos cn).symm.trans hf
        refine lv_iconst (v := (0 : Int32)) hx hb dX10_assistLine_31 (by decide) ?_
        exact pg_zret C hr hH hf dX10_assistLine_32
set_option maxHeartbeats 4000000 in
set_option maxRecDepth 100000 in
theorem c_X10_usesExtra {l : Launch} {g : GD} {h : PH} {a0 : Nat} {x1 : Int32} {r : Int32} {h' : PH} (hf : mX10_usesExtra h a0 x1 = some (r, h')) : Met l yX10_usesExtra (Cond.code yX10_usesExtra cX10_usesExtra 2 (some .boolean) :: TB) (rmD 3 0 0) (PcH g [.ref (gB g + a0), .int x1] h) (QcI g r h') 0 0 (aB g) := by
  refine Met.ofW (cc := cX10_usesExtra) (maxL := 2) (ret := some .boolean) (by decide) rfl ?_
  intro p e s m args below meth c s₁ B hml hv
  obtain ⟨rfl, hH0, hkk0⟩ := hv
  have C : CT g RX10 cX10_usesExtra 2 (Cond.code yX10_usesExtra cX10_usesExtra 2 (some .boolean) :: TB) p s m _ meth c := pg_ct (Tw := []) B hml hH0 hkk0
  have hr := B.returns
  have hH : HS g s s.heap [] h := ⟨hH0, va_S.rf⟩
  have hl := lv_entry ([.ref (gB g + a0), .int x1]) (n := 2) (Nat.le_of_ble_eq_true rfl)
  rw [lg_entry_eq]
  generalize (lg_sl ([.ref (gB g + a0), .int x1]) ++ List.replicate (2 - (lg_sl ([.ref (gB g + a0), .int x1])).length) Slot.unset).toArray = ls at hl ⊢
  have hl : lv_has ls 2 [(0, .ref (gB g + a0)), (1, .int x1)] := hl
  show W p l e (rmD 3 0 0) _ _ _ _ _ _ _ _ _ _ _ _
  unfold mX10_usesExtra at hf
  obtain ⟨hO, hf⟩ := oO_sp hf
  obtain ⟨⟨hx, hb, hml, hown, hts⟩, htb, hlk, hkk, hbs⟩ := id C
  refine lv_aload_n hx hb dX10_usesExtra_0 rfl (lv_at hl 0 rfl) ?_
  refine pg_Vv (As := []) C hH mi_X10_go vl_X10_119 (q := (RX10, TX10, 34)) (ci := 10) rfl rfl hf (fun _ e1 => (oO_sp e1).1) (fun _ e1 => c_X10_go e1) rfl rfl hl.1 (Nat.le_of_ble_eq_true rfl) ⟨Nat.le_of_ble_eq_true rfl, Nat.le_of_ble_eq_true rfl⟩ ⟨Nat.zero_le _, Nat.zero_le _⟩ dX10_usesExtra_1 (fun H locs h1 hH hf => ?_)
  refine lv_aload_n hx hb dX10_usesExtra_4 rfl (lv_at hl 0 rfl) ?_
  refine lv_iconst (v := (2 : Int32)) hx hb dX10_usesExtra_5 (by decide) ?_
  refine pg_Vi (As := [.int (2 : Int32)]) C hH mi_X10_isHere vl_X10_197 (q := (RX10, TX10, 34)) (ci := 10) rfl rfl hf (fun _ e1 => (oO_sp e1).1) (fun _ _ e1 => c_X10_isHere e1) rfl rfl hl.1 (Nat.le_of_ble_eq_true rfl) ⟨Nat.le_of_ble_eq_true rfl, Nat.le_of_ble_eq_true rfl⟩ ⟨Nat.zero_le _, Nat.zero_le _⟩ dX10_usesExtra_6 (fun H locs v6 h6 hH hf => ?_)
  refine lv_if_ne (tgt := 14) hx hb dX10_usesExtra_9 (by decide) (fun cn => ?_) (fun cn => ?_)
  · have hf := (if_neg cn).symm.trans hf
    refine lv_aload_n hx hb dX10_usesExtra_14 rfl (lv_at hl 0 rfl) ?_
    refine pg_gR C hH fl_X10_17 hf dX10_usesExtra_15 (fun v15 hf => ?_)
    refine lv_iload_n hx hb dX10_usesExtra_18 rfl (lv_at hl 1 rfl) ?_
    refine lv_bipush (v := (11 : Int32)) hx hb dX10_usesExtra_19 (by decide) ?_
    refine lv_iadd hx hb dX10_usesExtra_21 ?_
    refine pg_aI C hH hf dX10_usesExtra_22 (fun v22 hf => ?_)
    refine lv_aload_n hx hb dX10_usesExtra_23 rfl (lv_at hl 0 rfl) ?_
    refine pg_gI C hH fl_X10_116 hf dX10_usesExtra_24 (fun v24 hf => ?_)
    refine pg_Si (As := [.int v22, .int v24]) C hH mi_X10_has sl_X10_217 hf (fun _ _ e1 => c_X10_has e1) rfl rfl hl.1 (Nat.le_of_ble_eq_true rfl) ⟨Nat.le_of_ble_eq_true rfl, Nat.le_of_ble_eq_true rfl⟩ ⟨Nat.zero_le _, Nat.zero_le _⟩ dX10_usesExtra_27 (fun H locs v27 h27 hH hf => ?_)
    refine lv_if_eq (tgt := 39) hx hb dX10_usesExtra_30 (by decide) (fun cn => ?_) (fun cn => ?_)
    · have hf := (if_pos cn).symm.trans hf
      refine lv_aload_n hx hb dX10_usesExtra_39 rfl (lv_at hl 0 rfl) ?_
      refine pg_gR C hH fl_X10_17 hf dX10_usesExtra_40 (fun v40 hf => ?_)
      refine lv_iload_n hx hb dX10_usesExtra_43 rfl (lv_at hl 1 rfl) ?_
      refine lv_bipush (v := (11 : Int32)) hx hb dX10_usesExtra_44 (by decide) ?_
      refine lv_iadd hx hb dX10_usesExtra_46 ?_
      refine lv_dup2_11 hx hb dX10_usesExtra_47 rfl rfl ?_
      refine pg_aI C hH hf dX10_usesExtra_48 (fun v48 hf => ?_)
      refine lv_iconst (v := (1 : Int32)) hx hb dX10_usesExtra_49 (by decide) ?_
      refine lv_aload_n hx hb dX10_usesExtra_50 rfl (lv_at hl 0 rfl) ?_
      refine pg_gI C hH fl_X10_116 hf dX10_usesExtra_51 (fun v51 hf => ?_)
      refine lv_ishl hx hb dX10_usesExtra_54 ?_
      refine lv_ior hx hb dX10_usesExtra_55 ?_
      refine pg_sI C hH hf dX10_usesExtra_56 (fun H locs h56 hH hf => ?_)
      refine lv_aload_n hx hb dX10_usesExtra_57 rfl (lv_at hl 0 rfl) ?_
      refine pg_Vv (As := []) C hH mi_X10_go vl_X10_119 (q := (RX10, TX10, 34)) (ci := 10) rfl rfl hf (fun _ e1 => (oO_sp e1).1) (fun _ e1 => c_X10_go e1) rfl rfl hl.1 (Nat.le_of_ble_eq_true rfl) ⟨Nat.le_of_ble_eq_true rfl, Nat.le_of_ble_eq_true rfl⟩ ⟨Nat.zero_le _, Nat.zero_le _⟩ dX10_usesExtra_58 (fun H locs h58 hH hf => ?_)
      refine lv_iconst (v := (1 : Int32)) hx hb dX10_usesExtra_61 (by decide) ?_
      exact pg_zret C hr hH hf dX10_usesExtra_62
    · have hf := (if_neg cn).symm.trans hf
      refine lv_aload_n hx hb dX10_usesExtra_33 rfl (lv_at hl 0 rfl) ?_
      refine lv_iconst (v := (2 : Int32)) hx hb dX10_usesExtra_34 (by decide) ?_
      refine pg_Vi (As := [.int (2 : Int32)]) C hH mi_X10_bad vl_X10_112 (q := (RX10, TX10, 34)) (ci := 10) rfl rfl hf (fun _ e1 => (oO_sp e1).1) (fun _ _ e1 => c_X10_bad e1) rfl rfl hl.1 (Nat.le_of_ble_eq_true rfl) ⟨Nat.le_of_ble_eq_true rfl, Nat.le_of_ble_eq_true rfl⟩ ⟨Nat.zero_le _, Nat.zero_le _⟩ dX10_usesExtra_35 (fun H locs v35 h35 hH hf => ?_)
      exact pg_zret C hr hH hf dX10_usesExtra_38
  · have hf := (if_pos cn).symm.trans hf
    refine lv_iconst (v := (0 : Int32)) hx hb dX10_usesExtra_12 (by decide) ?_
    exact pg_zret C hr hH hf dX10_usesExtra_13
set_option maxHeartbeats 4000000 in
set_option maxRecDepth 100000 in
theorem wX10_extras_b179 {r2 : PH → Nat → Int32 → Int32 → Option (Int32 × PH)} {r : Int32} {h' : PH} (C : CT g RX10 cX10_extras 4 (Cond.code yX10_extras cX10_extras 4 (some .boolean) :: TB) p s m args meth c) (hr : meth.sig.returnType = some .boolean) (k2 : ∀ {h : PH} {a0 : Nat} {x1 : Int32} {x2 : Int32} {H : Heap} {locs : List Loc} {ls : Array Slot}, HS g s H locs h → r2 h a0 x1 x2 = some (r, h') → lv_has ls 4 [(0, .ref (gB g + a0)), (1, .int x1), (2, .int x2)] → W p l e (rmD 4 0 0) s m args below meth c H locs 0 0 (MQ below (QcI g r h') args s 0 0 (aB g)) (F0 m 2 ls [])) {h : PH} {a0 : Nat} {x1 : Int32} {x2 : Int32} {x3 : Int32} {H : Heap} {locs : List Loc} {ls : Array Slot} (hH : HS g s H locs h) (hf : mX10_extras_b179 r2 h a0 x1 x2 x3 = some (r, h')) (hl : lv_has ls 4 [(0, .ref (gB g + a0)), (1, .int x1), (2, .int x2), (3, .int x3)]) : W p l e (rmD 4 0 0) s m args below meth c H locs 0 0 (MQ below (QcI g r h') args s 0 0 (aB g)) (F0 m 179 ls []) := by
  obtain ⟨⟨hx, hb, hml, hown, hts⟩, htb, hlk, hkk, hbs⟩ := id C
  unfold mX10_extras_b179 at hf
  refine lv_aload_n hx hb dX10_extras_179 rfl (lv_at hl 0 rfl) ?_
  refine pg_gR C hH fl_X10_17 hf dX10_extras_180 (fun v180 hf => ?_)
  refine lv_iload_n hx hb dX10_extras_183 rfl (lv_at hl 1 rfl) ?_
  refine lv_iload_n hx hb dX10_extras_184 rfl (lv_at hl 3 rfl) ?_
  refine lv_iadd hx hb dX10_extras_185 ?_
  refine lv_aload_n hx hb dX10_extras_186 rfl (lv_at hl 0 rfl) ?_
  refine pg_gI C hH fl_X10_116 hf dX10_extras_187 (fun v187 hf => ?_)
  refine pg_sI C hH hf dX10_extras_190 (fun H locs h190 hH hf => ?_)
  refine lv_goto (tgt := 2) hx hb dX10_extras_191 (by decide) ?_
  exact k2 hH hf (lv_sub hl [0, 1, 2] rfl)
set_option maxHeartbeats 4000000 in
set_option maxRecDepth 100000 in
theorem wX10_extras_b171 {r2 : PH → Nat → Int32 → Int32 → Option (Int32 × PH)} {r : Int32} {h' : PH} (C : CT g RX10 cX10_extras 4 (Cond.code yX10_extras cX10_extras 4 (some .boolean) :: TB) p s m args meth c) (hr : meth.sig.returnType = some .boolean) (k2 : ∀ {h : PH} {a0 : Nat} {x1 : Int32} {x2 : Int32} {H : Heap} {locs : List Loc} {ls : Array Slot}, HS g s H locs h → r2 h a0 x1 x2 = some (r, h') → lv_has ls 4 [(0, .ref (gB g + a0)), (1, .int x1), (2, .int x2)] → W p l e (rmD 4 0 0) s m args below meth c H locs 0 0 (MQ below (QcI g r h') args s 0 0 (aB g)) (F0 m 2 ls [])) {h : PH} {a0 : Nat} {x1 : Int32} {x2 : Int32} {x3 : Int32} {s0 : Nat} {s1 : Int32} {s2 : Int32} {H : Heap} {locs : List Loc} {ls : Array Slot} (hH : HS g s H locs h) (hf : mX10_extras_b171 r2 h a0 x1 x2 x3 s0 s1 s2 = some (r, h')) (hl : lv_has ls 4 [(0, .ref (gB g + a0)), (1, .int x1), (2, .int x2), (3, .int x3)]) : W p l e (rmD 4 0 0) s m args below meth c H locs 0 0 (MQ below (QcI g r h') args s 0 0 (aB g)) (F0 m 171 ls [.int s2, .int s1, .ref (gB g + s0)]) := by
  obtain ⟨⟨hx, hb, hml, hown, hts⟩, htb, hlk, hkk, hbs⟩ := id C
  unfold mX10_extras_b171 at hf
  refine pg_Vi (As := [.int s1, .int s2]) C hH mi_X10_number vl_X10_126 (q := (RX10, TX10, 34)) (ci := 10) rfl rfl hf (fun _ e1 => (oO_sp e1).1) (fun _ _ e1 => c_X10_number e1) rfl rfl hl.1 (Nat.le_of_ble_eq_true rfl) ⟨Nat.le_of_ble_eq_true rfl, Nat.le_of_ble_eq_true rfl⟩ ⟨Nat.zero_le _, Nat.zero_le _⟩ dX10_extras_171 (fun H locs v171 h171 hH hf => ?_)
  refine lv_if_ne (tgt := 179) hx hb dX10_extras_174 (by decide) (fun cn => ?_) (fun cn => ?_)
  · have hf := (if_neg cn).symm.trans hf
    exact wX10_extras_b179 C hr k2 hH hf (lv_sub hl [0, 1, 2, 3] rfl)
  · have hf := (if_pos cn).symm.trans hf
    refine lv_iconst (v := (0 : Int32)) hx hb dX10_extras_177 (by decide) ?_
    exact pg_zret C hr hH hf dX10_extras_178
set_option maxHeartbeats 4000000 in
set_option maxRecDepth 100000 in
theorem wX10_extras_b93 {r2 : PH → Nat → Int32 → Int32 → Option (Int32 × PH)} {r : Int32} {h' : PH} (C : CT g RX10 cX10_extras 4 (Cond.code yX10_extras cX10_extras 4 (some .boolean) :: TB) p s m args meth c) (hr : meth.sig.returnType = some .boolean) (k2 : ∀ {h : PH} {a0 : Nat} {x1 : Int32} {x2 : Int32} {H : Heap} {locs : List Loc} {ls : Array Slot}, HS g s H locs h → r2 h a0 x1 x2 = some (r, h') → lv_has ls 4 [(0, .ref (gB g + a0)), (1, .int x1), (2, .int x2)] → W p l e (rmD 4 0 0) s m args below meth c H locs 0 0 (MQ below (QcI g r h') args s 0 0 (aB g)) (F0 m 2 ls [])) {h : PH} {a0 : Nat} {x1 : Int32} {x2 : Int32} {s0 : Int32} {H : Heap} {locs : List Loc} {ls : Array Slot} (hH : HS g s H locs h) (hf : mX10_extras_b93 r2 h a0 x1 x2 s0 = some (r, h')) (hl : lv_has ls 4 [(0, .ref (gB g + a0)), (1, .int x1), (2, .int x2)]) : W p l e (rmD 4 0 0) s m args below meth c H locs 0 0 (MQ below (QcI g r h') args s 0 0 (aB g)) (F0 m 93 ls [.int s0]) := by
  obtain ⟨⟨hx, hb, hml, hown, hts⟩, htb, hlk, hkk, hbs⟩ := id C
  unfold mX10_extras_b93 at hf
  refine lv_istore_n (lv' := [(3, .int s0), (0, .ref (gB g + a0)), (1, .int x1), (2, .int x2)]) hx hb dX10_extras_93 rfl hl (by decide) rfl (fun ls hl => ?_)
  refine lv_iload_n hx hb dX10_extras_94 rfl (lv_at hl 0 rfl) ?_
  refine lv_iconst (v := (-1 : Int32)) hx hb dX10_extras_95 (by decide) ?_
  refine lv_icmp_ne (tgt := 101) hx hb dX10_extras_96 (by decide) (fun cn => ?_) (fun cn => ?_)
  · have hf := (if_neg cn).symm.trans hf
    refine lv_iload_n hx hb dX10_extras_101 rfl (lv_at hl 0 rfl) ?_
    refine lv_bipush (v := (11 : Int32)) hx hb dX10_extras_102 (by decide) ?_
    refine lv_icmp_ne (tgt := 117) hx hb dX10_extras_104 (by decide) (fun cn => ?_) (fun cn => ?_)
    · have hf := (if_neg cn).symm.trans hf
      refine lv_iload_n hx hb dX10_extras_117 rfl (lv_at hl 3 rfl) ?_
      refine lv_iload_n hx hb dX10_extras_118 rfl (lv_at hl 0 rfl) ?_
      refine pg_Si (As := [.int x2, .int s0]) C hH mi_X10_has sl_X10_217 hf (fun _ _ e1 => c_X10_has e1) rfl rfl hl.1 (Nat.le_of_ble_eq_true rfl) ⟨Nat.le_of_ble_eq_true rfl, Nat.le_of_ble_eq_true rfl⟩ ⟨Nat.zero_le _, Nat.zero_le _⟩ dX10_extras_119 (fun H locs v119 h119 hH hf => ?_)
      refine lv_if_eq (tgt := 131) hx hb dX10_extras_122 (by decide) (fun cn => ?_) (fun cn => ?_)
      · have hf := (if_pos cn).symm.trans hf
        refine lv_iload_n hx hb dX10_extras_131 rfl (lv_at hl 3 rfl) ?_
        refine lv_iconst (v := (1 : Int32)) hx hb dX10_extras_132 (by decide) ?_
        refine lv_iload_n hx hb dX10_extras_133 rfl (lv_at hl 0 rfl) ?_
        refine lv_ishl hx hb dX10_extras_134 ?_
        refine lv_ior hx hb dX10_extras_135 ?_
        refine lv_istore_n (lv' := [(2, .int (x2 ||| ((1 : Int32) <<< (s0 &&& 31)))), (3, .int s0), (0, .ref (gB g + a0)), (1, .int x1)]) hx hb dX10_extras_136 rfl hl (by decide) rfl (fun ls hl => ?_)
        refine lv_aload_n hx hb dX10_extras_137 rfl (lv_at hl 2 rfl) ?_
        refine pg_Vv (As := []) C hH mi_X10_go vl_X10_119 (q := (RX10, TX10, 34)) (ci := 10) rfl rfl hf (fun _ e1 => (oO_sp e1).1) (fun _ e1 => c_X10_go e1) rfl rfl hl.1 (Nat.le_of_ble_eq_true rfl) ⟨Nat.le_of_ble_eq_true rfl, Nat.le_of_ble_eq_true rfl⟩ ⟨Nat.zero_le _, Nat.zero_le _⟩ dX10_extras_138 (fun H locs h138 hH hf => ?_)
        refine lv_iload_n hx hb dX10_extras_141 rfl (lv_at hl 1 rfl) ?_
        refine lv_bipush (v := (6 : Int32)) hx hb dX10_extras_142 (by decide) ?_
        refine lv_icmp_ne (tgt := 155) hx hb dX10_extras_144 (by decide) (fun cn => ?_) (fun cn => ?_)
        · have hf := (if_neg cn).symm.trans hf
          refine lv_aload_n hx hb dX10_extras_155 rfl (lv_at hl 2 rfl) ?_
          refine lv_iconst (v := (0 : Int32)) hx hb dX10_extras_156 (by decide) ?_
          refine lv_iload_n hx hb dX10_extras_157 rfl (lv_at hl 1 rfl) ?_
          refine lv_bipush (v := (7 : Int32)) hx hb dX10_extras_158 (by decide) ?_
          refine lv_icmp_ne (tgt := 168) hx hb dX10_extras_160 (by decide) (fun cn => ?_) (fun cn => ?_)
          · have hf := (if_neg cn).symm.trans hf
            refine lv_sipush (v := (9999 : Int32)) hx hb dX10_extras_168 (by decide) ?_
            exact wX10_extras_b171 C hr k2 hH hf (lv_sub hl [2, 3, 0, 1] rfl)
          · have hf := (if_pos cn).symm.trans hf
            refine lv_bipush (v := (99 : Int32)) hx hb dX10_extras_163 (by decide) ?_
            refine lv_goto (tgt := 171) hx hb dX10_extras_165 (by decide) ?_
            exact wX10_extras_b171 C hr k2 hH hf (lv_sub hl [2, 3, 0, 1] rfl)
        · have hf := (if_pos cn).symm.trans hf
          refine lv_aload_n hx hb dX10_extras_147 rfl (lv_at hl 2 rfl) ?_
          refine lv_iconst (v := (1 : Int32)) hx hb dX10_extras_148 (by decide) ?_
          refine pg_pI C hH fl_X10_116 fm_10_16 hf dX10_extras_149 (fun H locs h149 hH hf => ?_)
          refine lv_goto (tgt := 179) hx hb dX10_extras_152 (by decide) ?_
          exact wX10_extras_b179 C hr k2 hH hf (lv_sub hl [2, 3, 0, 1] rfl)
      · have hf := (if_neg cn).symm.trans hf
        refine lv_aload_n hx hb dX10_extras_125 rfl (lv_at hl 1 rfl) ?_
        refine lv_iconst (v := (2 : Int32)) hx hb dX10_extras_126 (by decide) ?_
        refine pg_Vi (As := [.int (2 : Int32)]) C hH mi_X10_bad vl_X10_112 (q := (RX10, TX10, 34)) (ci := 10) rfl rfl hf (fun _ e1 => (oO_sp e1).1) (fun _ _ e1 => c_X10_bad e1) rfl rfl hl.1 (Nat.le_of_ble_eq_true rfl) ⟨Nat.le_of_ble_eq_true rfl, Nat.le_of_ble_eq_true rfl⟩ ⟨Nat.zero_le _, Nat.zero_le _⟩ dX10_extras_127 (fun H locs v127 h127 hH hf => ?_)
        exact pg_zret C hr hH hf dX10_extras_130
    · have hf := (if_pos cn).symm.trans hf
      refine lv_aload_n hx hb dX10_extras_107 rfl (lv_at hl 1 rfl) ?_
      refine lv_iload_n hx hb dX10_extras_108 rfl (lv_at hl 2 rfl) ?_
      refine pg_Vi (As := [.int x1]) C hH mi_X10_usesExtra vl_X10_220 (q := (RX10, TX10, 34)) (ci := 10) rfl rfl hf (fun _ e1 => (oO_sp e1).1) (fun _ _ e1 => c_X10_usesExtra e1) rfl rfl hl.1 (Nat.le_of_ble_eq_true rfl) ⟨Nat.le_of_ble_eq_true rfl, Nat.le_of_ble_eq_true rfl⟩ ⟨Nat.zero_le _, Nat.zero_le _⟩ dX10_extras_109 (fun H locs v109 h109 hH hf => ?_)
      refine lv_if_ne (tgt := 2) hx hb dX10_extras_112 (by decide) (fun cn => ?_) (fun cn => ?_)
      · have hf := (if_neg cn).symm.trans hf
        exact k2 hH hf (lv_sub hl [1, 2, 3] rfl)
      · have hf := (if_pos cn).symm.trans hf
        refine lv_iconst (v := (0 : Int32)) hx hb dX10_extras_115 (by decide) ?_
        exact pg_zret C hr hH hf dX10_extras_116
  · have hf := (if_pos cn).symm.trans hf
    refine lv_iconst (v := (1 : Int32)) hx hb dX10_extras_99 (by decide) ?_
    exact pg_zret C hr hH hf dX10_extras_100
set_option maxHeartbeats 4000000 in
set_option maxRecDepth 100000 in
theorem wX10_extras_b2 {r2 : PH → Nat → Int32 → Int32 → Option (Int32 × PH)} {r : Int32} {h' : PH} (C : CT g RX10 cX10_extras 4 (Cond.code yX10_extras cX10_extras 4 (some .boolean) :: TB) p s m args meth c) (hr : meth.sig.returnType = some .boolean) (k2 : ∀ {h : PH} {a0 : Nat} {x1 : Int32} {x2 : Int32} {H : Heap} {locs : List Loc} {ls : Array Slot}, HS g s H locs h → r2 h a0 x1 x2 = some (r, h') → lv_has ls 4 [(0, .ref (gB g + a0)), (1, .int x1), (2, .int x2)] → W p l e (rmD 4 0 0) s m args below meth c H locs 0 0 (MQ below (QcI g r h') args s 0 0 (aB g)) (F0 m 2 ls [])) {h : PH} {a0 : Nat} {x1 : Int32} {x2 : Int32} {H : Heap} {locs : List Loc} {ls : Array Slot} (hH : HS g s H locs h) (hf : mX10_extras_b2 r2 h a0 x1 x2 = some (r, h')) (hl : lv_has ls 4 [(0, .ref (gB g + a0)), (1, .int x1), (2, .int x2)]) : W p l e (rmD 4 0 0) s m args below meth c H locs 0 0 (MQ below (QcI g r h') args s 0 0 (aB g)) (F0 m 2 ls []) := by
  obtain ⟨⟨hx, hb, hml, hown, hts⟩, htb, hlk, hkk, hbs⟩ := id C
  unfold mX10_extras_b2 at hf
  refine lv_aload_n hx hb dX10_extras_2 rfl (lv_at hl 0 rfl) ?_
  refine lv_ldc2 (v := (2610628 : Int64)) hx hb hown (hts _ (htb _ kl_X10_156)) dX10_extras_3 ?_
  refine pg_Vi (As := [.long (2610628 : Int64)]) C hH mi_X10_is vl_X10_122 (q := (RX10, TX10, 34)) (ci := 10) rfl rfl hf (fun _ e1 => (oO_sp e1).1) (fun _ _ e1 => c_X10_is e1) rfl rfl hl.1 (Nat.le_of_ble_eq_true rfl) ⟨Nat.le_of_ble_eq_true rfl, Nat.le_of_ble_eq_true rfl⟩ ⟨Nat.zero_le _, Nat.zero_le _⟩ dX10_extras_6 (fun H locs v6 h6 hH hf => ?_)
  refine lv_if_eq (tgt := 17) hx hb dX10_extras_9 (by decide) (fun cn => ?_) (fun cn => ?_)
  · have hf := (if_pos cn).symm.trans hf
    refine lv_aload_n hx hb dX10_extras_17 rfl (lv_at hl 0 rfl) ?_
    refine lv_ldc2 (v := (19856929433 : Int64)) hx hb hown (hts _ (htb _ kl_X10_158)) dX10_extras_18 ?_
    refine pg_Vi (As := [.long (19856929433 : Int64)]) C hH mi_X10_is vl_X10_122 (q := (RX10, TX10, 34)) (ci := 10) rfl rfl hf (fun _ e1 => (oO_sp e1).1) (fun _ _ e1 => c_X10_is e1) rfl rfl hl.1 (Nat.le_of_ble_eq_true rfl) ⟨Nat.le_of_ble_eq_true rfl, Nat.le_of_ble_eq_true rfl⟩ ⟨Nat.zero_le _, Nat.zero_le _⟩ dX10_extras_21 (fun H locs v21 h21 hH hf => ?_)
    refine lv_if_eq (tgt := 32) hx hb dX10_extras_24 (by decide) (fun cn => ?_) (fun cn => ?_)
    · have hf := (if_pos cn).symm.trans hf
      refine lv_aload_n hx hb dX10_extras_32 rfl (lv_at hl 0 rfl) ?_
      refine lv_ldc2 (v := (6309 : Int64)) hx hb hown (hts _ (htb _ kl_X10_160)) dX10_extras_33 ?_
      refine pg_Vi (As := [.long (6309 : Int64)]) C hH mi_X10_is vl_X10_122 (q := (RX10, TX10, 34)) (ci := 10) rfl rfl hf (fun _ e1 => (oO_sp e1).1) (fun _ _ e1 => c_X10_is e1) rfl rfl hl.1 (Nat.le_of_ble_eq_true rfl) ⟨Nat.le_of_ble_eq_true rfl, Nat.le_of_ble_eq_true rfl⟩ ⟨Nat.zero_le _, Nat.zero_le _⟩ dX10_extras_36 (fun H locs v36 h36 hH hf => ?_)
      refine lv_if_eq (tgt := 47) hx hb dX10_extras_39 (by decide) (fun cn => ?_) (fun cn => ?_)
      · have hf := (if_pos cn).symm.trans hf
        refine lv_aload_n hx hb dX10_extras_47 rfl (lv_at hl 0 rfl) ?_
        refine lv_ldc2 (v := (17216939463 : Int64)) hx hb hown (hts _ (htb _ kl_X10_162)) dX10_extras_48 ?_
        refine pg_Vi (As := [.long (17216939463 : Int64)]) C hH mi_X10_is vl_X10_122 (q := (RX10, TX10, 34)) (ci := 10) rfl rfl hf (fun _ e1 => (oO_sp e1).1) (fun _ _ e1 => c_X10_is e1) rfl rfl hl.1 (Nat.le_of_ble_eq_true rfl) ⟨Nat.le_of_ble_eq_true rfl, Nat.le_of_ble_eq_true rfl⟩ ⟨Nat.zero_le _, Nat.zero_le _⟩ dX10_extras_51 (fun H locs v51 h51 hH hf => ?_)
        refine lv_if_eq (tgt := 62) hx hb dX10_extras_54 (by decide) (fun cn => ?_) (fun cn => ?_)
        · have hf := (if_pos cn).symm.trans hf
          refine lv_aload_n hx hb dX10_extras_62 rfl (lv_at hl 0 rfl) ?_
          refine lv_ldc2 (v := (7051975956 : Int64)) hx hb hown (hts _ (htb _ kl_X10_164)) dX10_extras_63 ?_
          refine pg_Vi (As := [.long (7051975956 : Int64)]) C hH mi_X10_is vl_X10_122 (q := (RX10, TX10, 34)) (ci := 10) rfl rfl hf (fun _ e1 => (oO_sp e1).1) (fun _ _ e1 => c_X10_is e1) rfl rfl hl.1 (Nat.le_of_ble_eq_true rfl) ⟨Nat.le_of_ble_eq_true rfl, Nat.le_of_ble_eq_true rfl⟩ ⟨Nat.zero_le _, Nat.zero_le _⟩ dX10_extras_66 (fun H locs v66 h66 hH hf => ?_)
          refine lv_if_eq (tgt := 77) hx hb dX10_extras_69 (by decide) (fun cn => ?_) (fun cn => ?_)
          · have hf := (if_pos cn).symm.trans hf
            refine lv_aload_n hx hb dX10_extras_77 rfl (lv_at hl 0 rfl) ?_
            refine lv_ldc2 (v := (707763 : Int64)) hx hb hown (hts _ (htb _ kl_X10_166)) dX10_extras_78 ?_
            refine pg_Vi (As := [.long (707763 : Int64)]) C hH mi_X10_is vl_X10_122 (q := (RX10, TX10, 34)) (ci := 10) rfl rfl hf (fun _ e1 => (oO_sp e1).1) (fun _ _ e1 => c_X10_is e1) rfl rfl hl.1 (Nat.le_of_ble_eq_true rfl) ⟨Nat.le_of_ble_eq_true rfl, Nat.le_of_ble_eq_true rfl⟩ ⟨Nat.zero_le _, Nat.zero_le _⟩ dX10_extras_81 (fun H locs v81 h81 hH hf => ?_)
            refine lv_if_eq (tgt := 92) hx hb dX10_extras_84 (by decide) (fun cn => ?_) (fun cn => ?_)
            · have hf := (if_pos cn).symm.trans hf
              refine lv_iconst (v := (-1 : Int32)) hx hb dX10_extras_92 (by decide) ?_
              exact wX10_extras_b93 C hr k2 hH hf (lv_sub hl [0, 1, 2] rfl)
            · have hf := (if_neg cn).symm.trans hf
              refine lv_bipush (v := (11 : Int32)) hx hb dX10_extras_87 (by decide) ?_
              refine lv_goto (tgt := 93) hx hb dX10_extras_89 (by decide) ?_
              exact wX10_extras_b93 C hr k2 hH hf (lv_sub hl [0, 1, 2] rfl)
          · have hf := (if_neg cn).symm.trans hf
            refine lv_bipush (v := (10 : Int32)) hx hb dX10_extras_72 (by decide) ?_
            refine lv_goto (tgt := 93) hx hb dX10_extras_74 (by decide) ?_
            exact wX10_extras_b93 C hr k2 hH hf (lv_sub hl [0, 1, 2] rfl)
        · have hf := (if_neg cn).symm.trans hf
          refine lv_bipush (v := (9 : Int32)) hx hb dX10_extras_57 (by decide) ?_
          refine lv_goto (tgt := 93) hx hb dX10_extras_59 (by decide) ?_
          exact wX10_extras_b93 C hr k2 hH hf (lv_sub hl [0, 1, 2] rfl)
      · have hf := (if_neg cn).symm.trans hf
        refine lv_bipush (v := (8 : Int32)) hx hb dX10_extras_42 (by decide) ?_
        refine lv_goto (tgt := 93) hx hb dX10_extras_44 (by decide) ?_
        exact wX10_extras_b93 C hr k2 hH hf (lv_sub hl [0, 1, 2] rfl)
    · have hf := (if_neg cn).symm.trans hf
      refine lv_bipush (v := (7 : Int32)) hx hb dX10_extras_27 (by decide) ?_
      refine lv_goto (tgt := 93) hx hb dX10_extras_29 (by decide) ?_
      exact wX10_extras_b93 C hr k2 hH hf (lv_sub hl [0, 1, 2] rfl)
  · have hf := (if_neg cn).symm.trans hf
    refine lv_bipush (v := (6 : Int32)) hx hb dX10_extras_12 (by decide) ?_
    refine lv_goto (tgt := 93) hx hb dX10_extras_14 (by decide) ?_
    exact wX10_extras_b93 C hr k2 hH hf (lv_sub hl [0, 1, 2] rfl)
set_option maxHeartbeats 4000000 in
set_option maxRecDepth 100000 in
theorem wX10_extras_L2 {r : Int32} {h' : PH} (C : CT g RX10 cX10_extras 4 (Cond.code yX10_extras cX10_extras 4 (some .boolean) :: TB) p s m args meth c) (hr : meth.sig.returnType = some .boolean) : ∀ (n : Nat) {h : PH} {a0 : Nat} {x1 : Int32} {x2 : Int32} {H : Heap} {locs : List Loc} {ls : Array Slot}, HS g s H locs h → mX10_extras_L2 n h a0 x1 x2 = some (r, h') → lv_has ls 4 [(0, .ref (gB g + a0)), (1, .int x1), (2, .int x2)] → W p l e (rmD 4 0 0) s m args below meth c H locs 0 0 (MQ below (QcI g r h') args s 0 0 (aB g)) (F0 m 2 ls []) := by
  intro n
  induction n with
  | zero =>
    intro h a0 x1 x2 H locs ls hH hf hl
    exact absurd hf (by intro z; cases z)
  | succ n ih =>
    intro h a0 x1 x2 H locs ls hH hf hl
    have hf : mX10_extras_b2 (mX10_extras_L2 n) h a0 x1 x2 = some (r, h') := hf
    exact wX10_extras_b2 C hr (fun a b c => ih a b c) hH hf hl
set_option maxHeartbeats 4000000 in
set_option maxRecDepth 100000 in
theorem c_X10_extras {l : Launch} {g : GD} {h : PH} {a0 : Nat} {x1 : Int32} {r : Int32} {h' : PH} (hf : mX10_extras h a0 x1 = some (r, h')) : Met l yX10_extras (Cond.code yX10_extras cX10_extras 4 (some .boolean) :: TB) (rmD 4 0 0) (PcH g [.ref (gB g + a0), .int x1] h) (QcI g r h') 0 0 (aB g) := by
  refine Met.ofW (cc := cX10_extras) (maxL := 4) (ret := some .boolean) (by decide) rfl ?_
  intro p e s m args below meth c s₁ B hml hv
  obtain ⟨rfl, hH0, hkk0⟩ := hv
  have C : CT g RX10 cX10_extras 4 (Cond.code yX10_extras cX10_extras 4 (some .boolean) :: TB) p s m _ meth c := pg_ct (Tw := []) B hml hH0 hkk0
  have hr := B.returns
  have hH : HS g s s.heap [] h := ⟨hH0, va_S.rf⟩
  have hl := lv_entry ([.ref (gB g + a0), .int x1]) (n := 4) (Nat.le_of_ble_eq_true rfl)
  rw [lg_entry_eq]
  generalize (lg_sl ([.ref (gB g + a0), .int x1]) ++ List.replicate (4 - (lg_sl ([.ref (gB g + a0), .int x1])).length) Slot.unset).toArray = ls at hl ⊢
  have hl : lv_has ls 4 [(0, .ref (gB g + a0)), (1, .int x1)] := hl
  show W p l e (rmD 4 0 0) _ _ _ _ _ _ _ _ _ _ _ _
  unfold mX10_extras at hf
  obtain ⟨hO, hf⟩ := oO_sp hf
  obtain ⟨⟨hx, hb, hml, hown, hts⟩, htb, hlk, hkk, hbs⟩ := id C
  refine lv_iconst (v := (0 : Int32)) hx hb dX10_extras_0 (by decide) ?_
  refine lv_istore_n (lv' := [(2, .int (0 : Int32)), (0, .ref (gB g + a0)), (1, .int x1)]) hx hb dX10_extras_1 rfl hl (by decide) rfl (fun ls hl => ?_)
  exact wX10_extras_L2 C hr FU hH hf (lv_sub hl [1, 2, 0] rfl)
set_option maxHeartbeats 4000000 in
set_option maxRecDepth 100000 in
theorem c_X10_trade {l : Launch} {g : GD} {h : PH} {a0 : Nat} {x1 : Int32} {r : Int32} {h' : PH} (hf : mX10_trade h a0 x1 = some (r, h')) : Met l yX10_trade (Cond.code yX10_trade cX10_trade 2 (some .boolean) :: TB) (rmD 4 0 0) (PcH g [.ref (gB g + a0), .int x1] h) (QcI g r h') 0 0 (aB g) := by
  refine Met.ofW (cc := cX10_trade) (maxL := 2) (ret := some .boolean) (by decide) rfl ?_
  intro p e s m args below meth c s₁ B hml hv
  obtain ⟨rfl, hH0, hkk0⟩ := hv
  have C : CT g RX10 cX10_trade 2 (Cond.code yX10_trade cX10_trade 2 (some .boolean) :: TB) p s m _ meth c := pg_ct (Tw := []) B hml hH0 hkk0
  have hr := B.returns
  have hH : HS g s s.heap [] h := ⟨hH0, va_S.rf⟩
  have hl := lv_entry ([.ref (gB g + a0), .int x1]) (n := 2) (Nat.le_of_ble_eq_true rfl)
  rw [lg_entry_eq]
  generalize (lg_sl ([.ref (gB g + a0), .int x1]) ++ List.replicate (2 - (lg_sl ([.ref (gB g + a0), .int x1])).length) Slot.unset).toArray = ls at hl ⊢
  have hl : lv_has ls 2 [(0, .ref (gB g + a0)), (1, .int x1)] := hl
  show W p l e (rmD 4 0 0) _ _ _ _ _ _ _ _ _ _ _ _
  unfold mX10_trade at hf
  obtain ⟨hO, hf⟩ := oO_sp hf
  obtain ⟨⟨hx, hb, hml, hown, hts⟩, htb, hlk, hkk, hbs⟩ := id C
  refine lv_aload_n hx hb dX10_trade_0 rfl (lv_at hl 0 rfl) ?_
  refine lv_ldc2 (v := (546475187 : Int64)) hx hb hown (hts _ (htb _ kl_X10_150)) dX10_trade_1 ?_
  refine lv_iconst (v := (1 : Int32)) hx hb dX10_trade_4 (by decide) ?_
  refine lv_sipush (v := (9999 : Int32)) hx hb dX10_trade_5 (by decide) ?_
  refine pg_Vi (As := [.long (546475187 : Int64), .int (1 : Int32), .int (9999 : Int32)]) C hH mi_X10_after vl_X10_213 (q := (RX10, TX10, 34)) (ci := 10) rfl rfl hf (fun _ e1 => (oO_sp e1).1) (fun _ _ e1 => c_X10_after e1) rfl rfl hl.1 (Nat.le_of_ble_eq_true rfl) ⟨Nat.le_of_ble_eq_true rfl, Nat.le_of_ble_eq_true rfl⟩ ⟨Nat.zero_le _, Nat.zero_le _⟩ dX10_trade_8 (fun H locs v8 h8 hH hf => ?_)
  refine lv_if_ne (tgt := 16) hx hb dX10_trade_11 (by decide) (fun cn => ?_) (fun cn => ?_)
  · have hf := (if_neg cn).symm.trans hf
    refine lv_aload_n hx hb dX10_trade_16 rfl (lv_at hl 0 rfl) ?_
    refine pg_gR C hH fl_X10_17 hf dX10_trade_17 (fun v17 hf => ?_)
    refine lv_iload_n hx hb dX10_trade_20 rfl (lv_at hl 1 rfl) ?_
    refine lv_aload_n hx hb dX10_trade_21 rfl (lv_at hl 0 rfl) ?_
    refine pg_gI C hH fl_X10_116 hf dX10_trade_22 (fun v22 hf => ?_)
    refine pg_sI C hH hf dX10_trade_25 (fun H locs h25 hH hf => ?_)
    refine lv_aload_n hx hb dX10_trade_26 rfl (lv_at hl 0 rfl) ?_
    refine lv_ldc2 (v := (17376357 : Int64)) hx hb hown (hts _ (htb _ kl_X10_152)) dX10_trade_27 ?_
    refine lv_iconst (v := (1 : Int32)) hx hb dX10_trade_30 (by decide) ?_
    refine lv_sipush (v := (9999 : Int32)) hx hb dX10_trade_31 (by decide) ?_
    refine pg_Vi (As := [.long (17376357 : Int64), .int (1 : Int32), .int (9999 : Int32)]) C hH mi_X10_after vl_X10_213 (q := (RX10, TX10, 34)) (ci := 10) rfl rfl hf (fun _ e1 => (oO_sp e1).1) (fun _ _ e1 => c_X10_after e1) rfl rfl hl.1 (Nat.le_of_ble_eq_true rfl) ⟨Nat.le_of_ble_eq_true rfl, Nat.le_of_ble_eq_true rfl⟩ ⟨Nat.zero_le _, Nat.zero_le _⟩ dX10_trade_34 (fun H locs v34 h34 hH hf => ?_)
    refine lv_if_ne (tgt := 42) hx hb dX10_trade_37 (by decide) (fun cn => ?_) (fun cn => ?_)
    · have hf := (if_neg cn).symm.trans hf
      refine lv_aload_n hx hb dX10_trade_42 rfl (lv_at hl 0 rfl) ?_
      refine pg_gR C hH fl_X10_17 hf dX10_trade_43 (fun v43 hf => ?_)
      refine lv_iload_n hx hb dX10_trade_46 rfl (lv_at hl 1 rfl) ?_
      refine lv_iconst (v := (1 : Int32)) hx hb dX10_trade_47 (by decide) ?_
      refine lv_iadd hx hb dX10_trade_48 ?_
      refine lv_aload_n hx hb dX10_trade_49 rfl (lv_at hl 0 rfl) ?_
      refine pg_gI C hH fl_X10_116 hf dX10_trade_50 (fun v50 hf => ?_)
      refine pg_sI C hH hf dX10_trade_53 (fun H locs h53 hH hf => ?_)
      refine lv_aload_n hx hb dX10_trade_54 rfl (lv_at hl 0 rfl) ?_
      refine lv_ldc2 (v := (4153 : Int64)) hx hb hown (hts _ (htb _ kl_X10_154)) dX10_trade_55 ?_
      refine lv_iconst (v := (0 : Int32)) hx hb dX10_trade_58 (by decide) ?_
      refine lv_sipush (v := (999 : Int32)) hx hb dX10_trade_59 (by decide) ?_
      refine pg_Vi (As := [.long (4153 : Int64), .int (0 : Int32), .int (999 : Int32)]) C hH mi_X10_after vl_X10_213 (q := (RX10, TX10, 34)) (ci := 10) rfl rfl hf (fun _ e1 => (oO_sp e1).1) (fun _ _ e1 => c_X10_after e1) rfl rfl hl.1 (Nat.le_of_ble_eq_true rfl) ⟨Nat.le_of_ble_eq_true rfl, Nat.le_of_ble_eq_true rfl⟩ ⟨Nat.zero_le _, Nat.zero_le _⟩ dX10_trade_62 (fun H locs v62 h62 hH hf => ?_)
      refine lv_if_ne (tgt := 70) hx hb dX10_trade_65 (by decide) (fun cn => ?_) (fun cn => ?_)
      · have hf := (if_neg cn).symm.trans hf
        refine lv_aload_n hx hb dX10_trade_70 rfl (lv_at hl 0 rfl) ?_
        refine pg_gR C hH fl_X10_17 hf dX10_trade_71 (fun v71 hf => ?_)
        refine lv_iload_n hx hb dX10_trade_74 rfl (lv_at hl 1 rfl) ?_
        refine lv_iconst (v := (2 : Int32)) hx hb dX10_trade_75 (by decide) ?_
        refine lv_iadd hx hb dX10_trade_76 ?_
        refine lv_aload_n hx hb dX10_trade_77 rfl (lv_at hl 0 rfl) ?_
        refine pg_gI C hH fl_X10_116 hf dX10_trade_78 (fun v78 hf => ?_)
        refine pg_sI C hH hf dX10_trade_81 (fun H locs h81 hH hf => ?_)
        refine lv_iconst (v := (1 : Int32)) hx hb dX10_trade_82 (by decide) ?_
        exact pg_zret C hr hH hf dX10_trade_83
      · have hf := (if_pos cn).symm.trans hf
        refine lv_iconst (v := (0 : Int32)) hx hb dX10_trade_68 (by decide) ?_
        exact pg_zret C hr hH hf dX10_trade_69
    · have hf := (if_pos cn).symm.trans hf
      refine lv_iconst (v := (0 : Int32)) hx hb dX10_trade_40 (by decide) ?_
      exact pg_zret C hr hH hf dX10_trade_41
  · have hf := (if_pos cn).symm.trans hf
    refine lv_iconst (v := (0 : Int32)) hx hb dX10_trade_14 (by decide) ?_
    exact pg_zret C hr hH hf dX10_trade_15
set_option maxHeartbeats 4000000 in
set_option maxRecDepth 100000 in
theorem c_X10_saleLine {l : Launch} {g : GD} {h : PH} {a0 : Nat} {r : Int32} {h' : PH} (hf : mX10_saleLine h a0 = some (r, h')) : Met l yX10_saleLine (Cond.code yX10_saleLine cX10_saleLine 2 (some .boolean) :: TB) (rmD 5 0 0) (PcH g [.ref (gB g + a0)] h) (QcI g r h') 0 0 (aB g) := by
  refine Met.ofW (cc := cX10_saleLine) (maxL := 2) (ret := some .boolean) (by decide) rfl ?_
  intro p e s m args below meth c s₁ B hml hv
  obtain ⟨rfl, hH0, hkk0⟩ := hv
  have C : CT g RX10 cX10_saleLine 2 (Cond.code yX10_saleLine cX10_saleLine 2 (some .boolean) :: TB) p s m _ meth c := pg_ct (Tw := []) B hml hH0 hkk0
  have hr := B.returns
  have hH : HS g s s.heap [] h := ⟨hH0, va_S.rf⟩
  have hl := lv_entry ([.ref (gB g + a0)]) (n := 2) (Nat.le_of_ble_eq_true rfl)
  rw [lg_entry_eq]
  generalize (lg_sl ([.ref (gB g + a0)]) ++ List.replicate (2 - (lg_sl ([.ref (gB g + a0)])).length) Slot.unset).toArray = ls at hl ⊢
  have hl : lv_has ls 2 [(0, .ref (gB g + a0))] := hl
  show W p l e (rmD 5 0 0) _ _ _ _ _ _ _ _ _ _ _ _
  unfold mX10_saleLine at hf
  obtain ⟨hO, hf⟩ := oO_sp hf
  obtain ⟨⟨hx, hb, hml, hown, hts⟩, htb, hlk, hkk, hbs⟩ := id C
  refine lv_bipush (v := (56 : Int32)) hx hb dX10_saleLine_0 (by decide) ?_
  refine lv_bipush (v := (12 : Int32)) hx hb dX10_saleLine_2 (by decide) ?_
  refine lv_aload_n hx hb dX10_saleLine_4 rfl (lv_at hl 0 rfl) ?_
  refine pg_gR C hH fl_X10_17 hf dX10_saleLine_5 (fun v5 hf => ?_)
  refine lv_iconst (v := (3 : Int32)) hx hb dX10_saleLine_8 (by decide) ?_
  refine pg_aI C hH hf dX10_saleLine_9 (fun v9 hf => ?_)
  refine lv_imul hx hb dX10_saleLine_10 ?_
  refine lv_iadd hx hb dX10_saleLine_11 ?_
  refine lv_istore_n (lv' := [(1, .int ((56 : Int32) + ((12 : Int32) * v9))), (0, .ref (gB g + a0))]) hx hb dX10_saleLine_12 rfl hl (by decide) rfl (fun ls hl => ?_)
  refine lv_aload_n hx hb dX10_saleLine_13 rfl (lv_at hl 1 rfl) ?_
  refine lv_iconst (v := (3 : Int32)) hx hb dX10_saleLine_14 (by decide) ?_
  refine lv_bipush (v := (10 : Int32)) hx hb dX10_saleLine_15 (by decide) ?_
  refine pg_Vi (As := [.int (3 : Int32), .int (10 : Int32)]) C hH mi_X10_begins vl_X10_200 (q := (RX10, TX10, 34)) (ci := 10) rfl rfl hf (fun _ e1 => (oO_sp e1).1) (fun _ _ e1 => c_X10_begins e1) rfl rfl hl.1 (Nat.le_of_ble_eq_true rfl) ⟨Nat.le_of_ble_eq_true rfl, Nat.le_of_ble_eq_true rfl⟩ ⟨Nat.zero_le _, Nat.zero_le _⟩ dX10_saleLine_17 (fun H locs v17 h17 hH hf => ?_)
  refine lv_if_eq (tgt := 39) hx hb dX10_saleLine_20 (by decide) (fun cn => ?_) (fun cn => ?_)
  · have hf := (if_pos cn).symm.trans hf
    refine lv_iconst (v := (0 : Int32)) hx hb dX10_saleLine_39 (by decide) ?_
    exact pg_zret C hr hH hf dX10_saleLine_40
  · have hf := (if_neg cn).symm.trans hf
    refine lv_aload_n hx hb dX10_saleLine_23 rfl (lv_at hl 1 rfl) ?_
    refine lv_iconst (v := (3 : Int32)) hx hb dX10_saleLine_24 (by decide) ?_
    refine pg_Vi (As := [.int (3 : Int32)]) C hH mi_X10_name vl_X10_203 (q := (RX10, TX10, 34)) (ci := 10) rfl rfl hf (fun _ e1 => (oO_sp e1).1) (fun _ _ e1 => c_X10_name e1) rfl rfl hl.1 (Nat.le_of_ble_eq_true rfl) ⟨Nat.le_of_ble_eq_true rfl, Nat.le_of_ble_eq_true rfl⟩ ⟨Nat.zero_le _, Nat.zero_le _⟩ dX10_saleLine_25 (fun H locs v25 h25 hH hf => ?_)
    refine lv_if_eq (tgt := 39) hx hb dX10_saleLine_28 (by decide) (fun cn => ?_) (fun cn => ?_)
    · have hf := (if_pos cn).symm.trans hf
      refine lv_iconst (v := (0 : Int32)) hx hb dX10_saleLine_39 (by decide) ?_
      exact pg_zret C hr hH hf dX10_saleLine_40
    · have hf := (if_neg cn).symm.trans hf
      refine lv_aload_n hx hb dX10_saleLine_31 rfl (lv_at hl 1 rfl) ?_
      refine lv_iconst (v := (1 : Int32)) hx hb dX10_saleLine_32 (by decide) ?_
      refine pg_Vi (As := [.int (1 : Int32)]) C hH mi_X10_known vl_X10_206 (q := (RX10, TX10, 34)) (ci := 10) rfl rfl hf (fun _ e1 => (oO_sp e1).1) (fun _ _ e1 => c_X10_known e1) rfl rfl hl.1 (Nat.le_of_ble_eq_true rfl) ⟨Nat.le_of_ble_eq_true rfl, Nat.le_of_ble_eq_true rfl⟩ ⟨Nat.zero_le _, Nat.zero_le _⟩ dX10_saleLine_33 (fun H locs v33 h33 hH hf => ?_)
      refine lv_if_ne (tgt := 41) hx hb dX10_saleLine_36 (by decide) (fun cn => ?_) (fun cn => ?_)
      · have hf := (if_neg cn).symm.trans hf
        refine lv_aload_n hx hb dX10_saleLine_41 rfl (lv_at hl 1 rfl) ?_
        refine pg_gR C hH fl_X10_17 hf dX10_saleLine_42 (fun v42 hf => ?_)
        refine lv_iload_n hx hb dX10_saleLine_45 rfl (lv_at hl 0 rfl) ?_
        refine lv_iconst (v := (0 : Int32)) hx hb dX10_saleLine_46 (by decide) ?_
        refine lv_iadd hx hb dX10_saleLine_47 ?_
        refine lv_aload_n hx hb dX10_saleLine_48 rfl (lv_at hl 1 rfl) ?_
        refine pg_gI C hH fl_X10_116 hf dX10_saleLine_49 (fun v49 hf => ?_)
        refine pg_sI C hH hf dX10_saleLine_52 (fun H locs h52 hH hf => ?_)
        refine lv_aload_n hx hb dX10_saleLine_53 rfl (lv_at hl 1 rfl) ?_
        refine lv_iconst (v := (0 : Int32)) hx hb dX10_saleLine_54 (by decide) ?_
        refine pg_Vi (As := [.int (0 : Int32)]) C hH mi_X10_known vl_X10_206 (q := (RX10, TX10, 34)) (ci := 10) rfl rfl hf (fun _ e1 => (oO_sp e1).1) (fun _ _ e1 => c_X10_known e1) rfl rfl hl.1 (Nat.le_of_ble_eq_true rfl) ⟨Nat.le_of_ble_eq_true rfl, Nat.le_of_ble_eq_true rfl⟩ ⟨Nat.zero_le _, Nat.zero_le _⟩ dX10_saleLine_55 (fun H locs v55 h55 hH hf => ?_)
        refine lv_if_ne (tgt := 63) hx hb dX10_saleLine_58 (by decide) (fun cn => ?_) (fun cn => ?_)
        · have hf := (if_neg cn).symm.trans hf
          refine lv_aload_n hx hb dX10_saleLine_63 rfl (lv_at hl 1 rfl) ?_
          refine pg_gR C hH fl_X10_17 hf dX10_saleLine_64 (fun v64 hf => ?_)
          refine lv_iload_n hx hb dX10_saleLine_67 rfl (lv_at hl 0 rfl) ?_
          refine lv_iconst (v := (1 : Int32)) hx hb dX10_saleLine_68 (by decide) ?_
          refine lv_iadd hx hb dX10_saleLine_69 ?_
          refine lv_aload_n hx hb dX10_saleLine_70 rfl (lv_at hl 1 rfl) ?_
          refine pg_gI C hH fl_X10_116 hf dX10_saleLine_71 (fun v71 hf => ?_)
          refine pg_sI C hH hf dX10_saleLine_74 (fun H locs h74 hH hf => ?_)
          refine lv_aload_n hx hb dX10_saleLine_75 rfl (lv_at hl 1 rfl) ?_
          refine lv_iconst (v := (0 : Int32)) hx hb dX10_saleLine_76 (by decide) ?_
          refine pg_Vi (As := [.int (0 : Int32)]) C hH mi_X10_isHere vl_X10_197 (q := (RX10, TX10, 34)) (ci := 10) rfl rfl hf (fun _ e1 => (oO_sp e1).1) (fun _ _ e1 => c_X10_isHere e1) rfl rfl hl.1 (Nat.le_of_ble_eq_true rfl) ⟨Nat.le_of_ble_eq_true rfl, Nat.le_of_ble_eq_true rfl⟩ ⟨Nat.zero_le _, Nat.zero_le _⟩ dX10_saleLine_77 (fun H locs v77 h77 hH hf => ?_)
          refine lv_if_ne (tgt := 85) hx hb dX10_saleLine_80 (by decide) (fun cn => ?_) (fun cn => ?_)
          · have hf := (if_neg cn).symm.trans hf
            refine lv_aload_n hx hb dX10_saleLine_85 rfl (lv_at hl 1 rfl) ?_
            refine pg_gI C hH fl_X10_116 hf dX10_saleLine_86 (fun v86 hf => ?_)
            refine lv_aload_n hx hb dX10_saleLine_89 rfl (lv_at hl 1 rfl) ?_
            refine pg_gR C hH fl_X10_17 hf dX10_saleLine_90 (fun v90 hf => ?_)
            refine lv_iload_n hx hb dX10_saleLine_93 rfl (lv_at hl 0 rfl) ?_
            refine lv_iconst (v := (1 : Int32)) hx hb dX10_saleLine_94 (by decide) ?_
            refine lv_iadd hx hb dX10_saleLine_95 ?_
            refine pg_aI C hH hf dX10_saleLine_96 (fun v96 hf => ?_)
            refine lv_icmp_ne (tgt := 106) hx hb dX10_saleLine_97 (by decide) (fun cn => ?_) (fun cn => ?_)
            · have hf := (if_neg cn).symm.trans hf
              refine lv_aload_n hx hb dX10_saleLine_106 rfl (lv_at hl 1 rfl) ?_
              refine pg_gR C hH fl_X10_17 hf dX10_saleLine_107 (fun v107 hf => ?_)
              refine lv_iload_n hx hb dX10_saleLine_110 rfl (lv_at hl 0 rfl) ?_
              refine lv_iconst (v := (2 : Int32)) hx hb dX10_saleLine_111 (by decide) ?_
              refine lv_iadd hx hb dX10_saleLine_112 ?_
              refine lv_aload_n hx hb dX10_saleLine_113 rfl (lv_at hl 1 rfl) ?_
              refine pg_gI C hH fl_X10_116 hf dX10_saleLine_114 (fun v114 hf => ?_)
              refine pg_sI C hH hf dX10_saleLine_117 (fun H locs h117 hH hf => ?_)
              refine lv_aload_n hx hb dX10_saleLine_118 rfl (lv_at hl 1 rfl) ?_
              refine pg_Vv (As := []) C hH mi_X10_go vl_X10_119 (q := (RX10, TX10, 34)) (ci := 10) rfl rfl hf (fun _ e1 => (oO_sp e1).1) (fun _ e1 => c_X10_go e1) rfl rfl hl.1 (Nat.le_of_ble_eq_true rfl) ⟨Nat.le_of_ble_eq_true rfl, Nat.le_of_ble_eq_true rfl⟩ ⟨Nat.zero_le _, Nat.zero_le _⟩ dX10_saleLine_119 (fun H locs h119 hH hf => ?_)
              refine lv_aload_n hx hb dX10_saleLine_122 rfl (lv_at hl 1 rfl) ?_
              refine lv_iload_n hx hb dX10_saleLine_123 rfl (lv_at hl 0 rfl) ?_
              refine lv_iconst (v := (3 : Int32)) hx hb dX10_saleLine_124 (by decide) ?_
              refine lv_iadd hx hb dX10_saleLine_125 ?_
              refine pg_Vi (As := [.int (((56 : Int32) + ((12 : Int32) * v9)) + (3 : Int32))]) C hH mi_X10_trade vl_X10_223 (q := (RX10, TX10, 34)) (ci := 10) rfl rfl hf (fun _ e1 => (oO_sp e1).1) (fun _ _ e1 => c_X10_trade e1) rfl rfl hl.1 (Nat.le_of_ble_eq_true rfl) ⟨Nat.le_of_ble_eq_true rfl, Nat.le_of_ble_eq_true rfl⟩ ⟨Nat.zero_le _, Nat.zero_le _⟩ dX10_saleLine_126 (fun H locs v126 h126 hH hf => ?_)
              refine lv_if_eq (tgt := 140) hx hb dX10_saleLine_129 (by decide) (fun cn => ?_) (fun cn => ?_)
              · have hf := (if_pos cn).symm.trans hf
                refine lv_iconst (v := (0 : Int32)) hx hb dX10_saleLine_140 (by decide) ?_
                exact pg_zret C hr hH hf dX10_saleLine_141
              · have hf := (if_neg cn).symm.trans hf
                refine lv_aload_n hx hb dX10_saleLine_132 rfl (lv_at hl 1 rfl) ?_
                refine lv_iload_n hx hb dX10_saleLine_133 rfl (lv_at hl 0 rfl) ?_
                refine pg_Vi (As := [.int ((56 : Int32) + ((12 : Int32) * v9))]) C hH mi_X10_extras vl_X10_226 (q := (RX10, TX10, 34)) (ci := 10) rfl rfl hf (fun _ e1 => (oO_sp e1).1) (fun _ _ e1 => c_X10_extras e1) rfl rfl hl.1 (Nat.le_of_ble_eq_true rfl) ⟨Nat.le_of_ble_eq_true rfl, Nat.le_of_ble_eq_true rfl⟩ ⟨Nat.zero_le _, Nat.zero_le _⟩ dX10_saleLine_134 (fun H locs v134 h134 hH hf => ?_)
                refine lv_if_ne (tgt := 142) hx hb dX10_saleLine_137 (by decide) (fun cn => ?_) (fun cn => ?_)
                · have hf := (if_neg cn).symm.trans hf
                  refine lv_aload_n hx hb dX10_saleLine_142 rfl (lv_at hl 1 rfl) ?_
                  refine pg_gR C hH fl_X10_17 hf dX10_saleLine_143 (fun v143 hf => ?_)
                  refine lv_iconst (v := (3 : Int32)) hx hb dX10_saleLine_146 (by decide) ?_
                  refine lv_dup2_11 hx hb dX10_saleLine_147 rfl rfl ?_
                  refine pg_aI C hH hf dX10_saleLine_148 (fun v148 hf => ?_)
                  refine lv_iconst (v := (1 : Int32)) hx hb dX10_saleLine_149 (by decide) ?_
                  refine lv_iadd hx hb dX10_saleLine_150 ?_
                  refine pg_sI C hH hf dX10_saleLine_151 (fun H locs h151 hH hf => ?_)
                  refine lv_iconst (v := (1 : Int32)) hx hb dX10_saleLine_152 (by decide) ?_
                  exact pg_zret C hr hH hf dX10_saleLine_153
                · have hf := (if_pos cn).symm.trans hf
                  refine lv_iconst (v := (0 : Int32)) hx hb dX10_saleLine_140 (by decide) ?_
                  exact pg_zret C hr hH hf dX10_saleLine_141
            · have hf := (if_pos cn).symm.trans hf
              refine lv_aload_n hx hb dX10_saleLine_100 rfl (lv_at hl 1 rfl) ?_
              refine lv_iconst (v := (4 : Int32)) hx hb dX10_saleLine_101 (by decide) ?_
              refine pg_Vi (As := [.int (4 : Int32)]) C hH mi_X10_bad vl_X10_112 (q := (RX10, TX10, 34)) (ci := 10) rfl rfl hf (fun _ e1 => (oO_sp e1).1) (fun _ _ e1 => c_X10_bad e1) rfl rfl hl.1 (Nat.le_of_ble_eq_true rfl) ⟨Nat.le_of_ble_eq_true rfl, Nat.le_of_ble_eq_true rfl⟩ ⟨Nat.zero_le _, Nat.zero_le _⟩ dX10_saleLine_102 (fun H locs v102 h102 hH hf => ?_)
              exact pg_zret C hr hH hf dX10_saleLine_105
          · have hf := (if_pos cn).symm.trans hf
            refine lv_iconst (v := (0 : Int32)) hx hb dX10_saleLine_83 (by decide) ?_
            exact pg_zret C hr hH hf dX10_saleLine_84
        · have hf := (if_pos cn).symm.trans hf
          refine lv_iconst (v := (0 : Int32)) hx hb dX10_saleLine_61 (by decide) ?_
          exact pg_zret C hr hH hf dX10_saleLine_62
      · have hf := (if_pos cn).symm.trans hf
        refine lv_iconst (v := (0 : Int32)) hx hb dX10_saleLine_39 (by decide) ?_
        exact pg_zret C hr hH hf dX10_saleLine_40
set_option maxHeartbeats 4000000 in
set_option maxRecDepth 100000 in
theorem c_X10_resoldLine {l : Launch} {g : GD} {h : PH} {a0 : Nat} {r : Int32} {h' : PH} (hf : mX10_resoldLine h a0 = some (r, h')) : Met l yX10_resoldLine (Cond.code yX10_resoldLine cX10_resoldLine 2 (some .boolean) :: TB) (rmD 5 0 0) (PcH g [.ref (gB g + a0)] h) (QcI g r h') 0 0 (aB g) := by
  refine Met.ofW (cc := cX10_resoldLine) (maxL := 2) (ret := some .boolean) (by decide) rfl ?_
  intro p e s m args below meth c s₁ B hml hv
  obtain ⟨rfl, hH0, hkk0⟩ := hv
  have C : CT g RX10 cX10_resoldLine 2 (Cond.code yX10_resoldLine cX10_resoldLine 2 (some .boolean) :: TB) p s m _ meth c := pg_ct (Tw := []) B hml hH0 hkk0
  have hr := B.returns
  have hH : HS g s s.heap [] h := ⟨hH0, va_S.rf⟩
  have hl := lv_entry ([.ref (gB g + a0)]) (n := 2) (Nat.le_of_ble_eq_true rfl)
  rw [lg_entry_eq]
  generalize (lg_sl ([.ref (gB g + a0)]) ++ List.replicate (2 - (lg_sl ([.ref (gB g + a0)])).length) Slot.unset).toArray = ls at hl ⊢
  have hl : lv_has ls 2 [(0, .ref (gB g + a0))] := hl
  show W p l e (rmD 5 0 0) _ _ _ _ _ _ _ _ _ _ _ _
  unfold mX10_resoldLine at hf
  obtain ⟨hO, hf⟩ := oO_sp hf
  obtain ⟨⟨hx, hb, hml, hown, hts⟩, htb, hlk, hkk, hbs⟩ := id C
  refine lv_sipush (v := (176 : Int32)) hx hb dX10_resoldLine_0 (by decide) ?_
  refine lv_iconst (v := (4 : Int32)) hx hb dX10_resoldLine_3 (by decide) ?_
  refine lv_aload_n hx hb dX10_resoldLine_4 rfl (lv_at hl 0 rfl) ?_
  refine pg_gR C hH fl_X10_17 hf dX10_resoldLine_5 (fun v5 hf => ?_)
  refine lv_iconst (v := (4 : Int32)) hx hb dX10_resoldLine_8 (by decide) ?_
  refine pg_aI C hH hf dX10_resoldLine_9 (fun v9 hf => ?_)
  refine lv_imul hx hb dX10_resoldLine_10 ?_
  refine lv_iadd hx hb dX10_resoldLine_11 ?_
  refine lv_istore_n (lv' := [(1, .int ((176 : Int32) + ((4 : Int32) * v9))), (0, .ref (gB g + a0))]) hx hb dX10_resoldLine_12 rfl hl (by decide) rfl (fun ls hl => ?_)
  refine lv_aload_n hx hb dX10_resoldLine_13 rfl (lv_at hl 1 rfl) ?_
  refine lv_iconst (v := (4 : Int32)) hx hb dX10_resoldLine_14 (by decide) ?_
  refine lv_bipush (v := (12 : Int32)) hx hb dX10_resoldLine_15 (by decide) ?_
  refine pg_Vi (As := [.int (4 : Int32), .int (12 : Int32)]) C hH mi_X10_begins vl_X10_200 (q := (RX10, TX10, 34)) (ci := 10) rfl rfl hf (fun _ e1 => (oO_sp e1).1) (fun _ _ e1 => c_X10_begins e1) rfl rfl hl.1 (Nat.le_of_ble_eq_true rfl) ⟨Nat.le_of_ble_eq_true rfl, Nat.le_of_ble_eq_true rfl⟩ ⟨Nat.zero_le _, Nat.zero_le _⟩ dX10_resoldLine_17 (fun H locs v17 h17 hH hf => ?_)
  refine lv_if_eq (tgt := 31) hx hb dX10_resoldLine_20 (by decide) (fun cn => ?_) (fun cn => ?_)
  · have hf := (if_pos cn).symm.trans hf
    refine lv_iconst (v := (0 : Int32)) hx hb dX10_resoldLine_31 (by decide) ?_
    exact pg_zret C hr hH hf dX10_resoldLine_32
  · have hf := (if_neg cn).symm.trans hf
    refine lv_aload_n hx hb dX10_resoldLine_23 rfl (lv_at hl 1 rfl) ?_
    refine lv_iconst (v := (1 : Int32)) hx hb dX10_resoldLine_24 (by decide) ?_
    refine pg_Vi (As := [.int (1 : Int32)]) C hH mi_X10_known vl_X10_206 (q := (RX10, TX10, 34)) (ci := 10) rfl rfl hf (fun _ e1 => (oO_sp e1).1) (fun _ _ e1 => c_X10_known e1) rfl rfl hl.1 (Nat.le_of_ble_eq_true rfl) ⟨Nat.le_of_ble_eq_true rfl, Nat.le_of_ble_eq_true rfl⟩ ⟨Nat.zero_le _, Nat.zero_le _⟩ dX10_resoldLine_25 (fun H locs v25 h25 hH hf => ?_)
    refine lv_if_ne (tgt := 33) hx hb dX10_resoldLine_28 (by decide) (fun cn => ?_) (fun cn => ?_)
    · have hf := (if_neg cn).symm.trans hf
      refine lv_aload_n hx hb dX10_resoldLine_33 rfl (lv_at hl 1 rfl) ?_
      refine pg_gR C hH fl_X10_17 hf dX10_resoldLine_34 (fun v34 hf => ?_)
      refine lv_iload_n hx hb dX10_resoldLine_37 rfl (lv_at hl 0 rfl) ?_
      refine lv_iconst (v := (0 : Int32)) hx hb dX10_resoldLine_38 (by decide) ?_
      refine lv_iadd hx hb dX10_resoldLine_39 ?_
      refine lv_aload_n hx hb dX10_resoldLine_40 rfl (lv_at hl 1 rfl) ?_
      refine pg_gI C hH fl_X10_116 hf dX10_resoldLine_41 (fun v41 hf => ?_)
      refine pg_sI C hH hf dX10_resoldLine_44 (fun H locs h44 hH hf => ?_)
      refine lv_aload_n hx hb dX10_resoldLine_45 rfl (lv_at hl 1 rfl) ?_
      refine lv_iload_n hx hb dX10_resoldLine_46 rfl (lv_at hl 0 rfl) ?_
      refine lv_iconst (v := (1 : Int32)) hx hb dX10_resoldLine_47 (by decide) ?_
      refine lv_iadd hx hb dX10_resoldLine_48 ?_
      refine pg_Vi (As := [.int (((176 : Int32) + ((4 : Int32) * v9)) + (1 : Int32))]) C hH mi_X10_trade vl_X10_223 (q := (RX10, TX10, 34)) (ci := 10) rfl rfl hf (fun _ e1 => (oO_sp e1).1) (fun _ _ e1 => c_X10_trade e1) rfl rfl hl.1 (Nat.le_of_ble_eq_true rfl) ⟨Nat.le_of_ble_eq_true rfl, Nat.le_of_ble_eq_true rfl⟩ ⟨Nat.zero_le _, Nat.zero_le _⟩ dX10_resoldLine_49 (fun H locs v49 h49 hH hf => ?_)
      refine lv_if_ne (tgt := 57) hx hb dX10_resoldLine_52 (by decide) (fun cn => ?_) (fun cn => ?_)
      · have hf := (if_neg cn).symm.trans hf
        refine lv_aload_n hx hb dX10_resoldLine_57 rfl (lv_at hl 1 rfl) ?_
        refine pg_gR C hH fl_X10_17 hf dX10_resoldLine_58 (fun v58 hf => ?_)
        refine lv_iconst (v := (4 : Int32)) hx hb dX10_resoldLine_61 (by decide) ?_
        refine lv_dup2_11 hx hb dX10_resoldLine_62 rfl rfl ?_
        refine pg_aI C hH hf dX10_resoldLine_63 (fun v63 hf => ?_)
        refine lv_iconst (v := (1 : Int32)) hx hb dX10_resoldLine_64 (by decide) ?_
        refine lv_iadd hx hb dX10_resoldLine_65 ?_
        refine pg_sI C hH hf dX10_resoldLine_66 (fun H locs h66 hH hf => ?_)
        refine lv_iconst (v := (1 : Int32)) hx hb dX10_resoldLine_67 (by decide) ?_
        exact pg_zret C hr hH hf dX10_resoldLine_68
      · have hf := (if_pos cn).symm.trans hf
        refine lv_iconst (v := (0 : Int32)) hx hb dX10_resoldLine_55 (by decide) ?_
        exact pg_zret C hr hH hf dX10_resoldLine_56
    · have hf := (if_pos cn).symm.trans hf
      refine lv_iconst (v := (0 : Int32)) hx hb dX10_resoldLine_31 (by decide) ?_
      exact pg_zret C hr hH hf dX10_resoldLine_32
set_option maxHeartbeats 4000000 in
set_option maxRecDepth 100000 in
theorem c_X10_madeLine {l : Launch} {g : GD} {h : PH} {a0 : Nat} {r : Int32} {h' : PH} (hf : mX10_madeLine h a0 = some (r, h')) : Met l yX10_madeLine (Cond.code yX10_madeLine cX10_madeLine 2 (some .boolean) :: TB) (rmD 4 0 0) (PcH g [.ref (gB g + a0)] h) (QcI g r h') 0 0 (aB g) := by
  refine Met.ofW (cc := cX10_madeLine) (maxL := 2) (ret := some .boolean) (by decide) rfl ?_
  intro p e s m args below meth c s₁ B hml hv
  obtain ⟨rfl, hH0, hkk0⟩ := hv
  have C : CT g RX10 cX10_madeLine 2 (Cond.code yX10_madeLine cX10_madeLine 2 (some .boolean) :: TB) p s m _ meth c := pg_ct (Tw := []) B hml hH0 hkk0
  have hr := B.returns
  have hH : HS g s s.heap [] h := ⟨hH0, va_S.rf⟩
  have hl := lv_entry ([.ref (gB g + a0)]) (n := 2) (Nat.le_of_ble_eq_true rfl)
  rw [lg_entry_eq]
  generalize (lg_sl ([.ref (gB g + a0)]) ++ List.replicate (2 - (lg_sl ([.ref (gB g + a0)])).length) Slot.unset).toArray = ls at hl ⊢
  have hl : lv_has ls 2 [(0, .ref (gB g + a0))] := hl
  show W p l e (rmD 4 0 0) _ _ _ _ _ _ _ _ _ _ _ _
  unfold mX10_madeLine at hf
  obtain ⟨hO, hf⟩ := oO_sp hf
  obtain ⟨⟨hx, hb, hml, hown, hts⟩, htb, hlk, hkk, hbs⟩ := id C
  refine lv_aload_n hx hb dX10_madeLine_0 rfl (lv_at hl 0 rfl) ?_
  refine pg_Vv (As := []) C hH mi_X10_go vl_X10_119 (q := (RX10, TX10, 34)) (ci := 10) rfl rfl hf (fun _ e1 => (oO_sp e1).1) (fun _ e1 => c_X10_go e1) rfl rfl hl.1 (Nat.le_of_ble_eq_true rfl) ⟨Nat.le_of_ble_eq_true rfl, Nat.le_of_ble_eq_true rfl⟩ ⟨Nat.zero_le _, Nat.zero_le _⟩ dX10_madeLine_1 (fun H locs h1 hH hf => ?_)
  refine lv_aload_n hx hb dX10_madeLine_4 rfl (lv_at hl 0 rfl) ?_
  refine lv_iconst (v := (1 : Int32)) hx hb dX10_madeLine_5 (by decide) ?_
  refine pg_Vi (As := [.int (1 : Int32)]) C hH mi_X10_isHere vl_X10_197 (q := (RX10, TX10, 34)) (ci := 10) rfl rfl hf (fun _ e1 => (oO_sp e1).1) (fun _ _ e1 => c_X10_isHere e1) rfl rfl hl.1 (Nat.le_of_ble_eq_true rfl) ⟨Nat.le_of_ble_eq_true rfl, Nat.le_of_ble_eq_true rfl⟩ ⟨Nat.zero_le _, Nat.zero_le _⟩ dX10_madeLine_6 (fun H locs v6 h6 hH hf => ?_)
  refine lv_if_ne (tgt := 14) hx hb dX10_madeLine_9 (by decide) (fun cn => ?_) (fun cn => ?_)
  · have hf := (if_neg cn).symm.trans hf
    refine lv_bipush (v := (24 : Int32)) hx hb dX10_madeLine_14 (by decide) ?_
    refine lv_iconst (v := (4 : Int32)) hx hb dX10_madeLine_16 (by decide) ?_
    refine lv_aload_n hx hb dX10_madeLine_17 rfl (lv_at hl 0 rfl) ?_
    refine pg_gI C hH fl_X10_116 hf dX10_madeLine_18 (fun v18 hf => ?_)
    refine lv_imul hx hb dX10_madeLine_21 ?_
    refine lv_iadd hx hb dX10_madeLine_22 ?_
    refine lv_istore_n (lv' := [(1, .int ((24 : Int32) + ((4 : Int32) * v18))), (0, .ref (gB g + a0))]) hx hb dX10_madeLine_23 rfl hl (by decide) rfl (fun ls hl => ?_)
    refine lv_aload_n hx hb dX10_madeLine_24 rfl (lv_at hl 1 rfl) ?_
    refine pg_gR C hH fl_X10_17 hf dX10_madeLine_25 (fun v25 hf => ?_)
    refine lv_iload_n hx hb dX10_madeLine_28 rfl (lv_at hl 0 rfl) ?_
    refine lv_iconst (v := (2 : Int32)) hx hb dX10_madeLine_29 (by decide) ?_
    refine lv_iadd hx hb dX10_madeLine_30 ?_
    refine pg_aI C hH hf dX10_madeLine_31 (fun v31 hf => ?_)
    refine lv_if_le (tgt := 41) hx hb dX10_madeLine_32 (by decide) (fun cn => ?_) (fun cn => ?_)
    · have hf := (if_pos cn).symm.trans hf
      refine lv_aload_n hx hb dX10_madeLine_41 rfl (lv_at hl 1 rfl) ?_
      refine pg_Vv (As := []) C hH mi_X10_go vl_X10_119 (q := (RX10, TX10, 34)) (ci := 10) rfl rfl hf (fun _ e1 => (oO_sp e1).1) (fun _ e1 => c_X10_go e1) rfl rfl hl.1 (Nat.le_of_ble_eq_true rfl) ⟨Nat.le_of_ble_eq_true rfl, Nat.le_of_ble_eq_true rfl⟩ ⟨Nat.zero_le _, Nat.zero_le _⟩ dX10_madeLine_42 (fun H locs h42 hH hf => ?_)
      refine lv_aload_n hx hb dX10_madeLine_45 rfl (lv_at hl 1 rfl) ?_
      refine lv_ldc2 (v := (114292 : Int64)) hx hb hown (hts _ (htb _ kl_X10_172)) dX10_madeLine_46 ?_
      refine lv_iconst (v := (1 : Int32)) hx hb dX10_madeLine_49 (by decide) ?_
      refine lv_sipush (v := (9999 : Int32)) hx hb dX10_madeLine_50 (by decide) ?_
      refine pg_Vi (As := [.long (114292 : Int64), .int (1 : Int32), .int (9999 : Int32)]) C hH mi_X10_after vl_X10_213 (q := (RX10, TX10, 34)) (ci := 10) rfl rfl hf (fun _ e1 => (oO_sp e1).1) (fun _ _ e1 => c_X10_after e1) rfl rfl hl.1 (Nat.le_of_ble_eq_true rfl) ⟨Nat.le_of_ble_eq_true rfl, Nat.le_of_ble_eq_true rfl⟩ ⟨Nat.zero_le _, Nat.zero_le _⟩ dX10_madeLine_53 (fun H locs v53 h53 hH hf => ?_)
      refine lv_if_ne (tgt := 61) hx hb dX10_madeLine_56 (by decide) (fun cn => ?_) (fun cn => ?_)
      · have hf := (if_neg cn).symm.trans hf
        refine lv_aload_n hx hb dX10_madeLine_61 rfl (lv_at hl 1 rfl) ?_
        refine pg_gR C hH fl_X10_17 hf dX10_madeLine_62 (fun v62 hf => ?_)
        refine lv_iload_n hx hb dX10_madeLine_65 rfl (lv_at hl 0 rfl) ?_
        refine lv_iconst (v := (2 : Int32)) hx hb dX10_madeLine_66 (by decide) ?_
        refine lv_iadd hx hb dX10_madeLine_67 ?_
        refine lv_aload_n hx hb dX10_madeLine_68 rfl (lv_at hl 1 rfl) ?_
        refine pg_gI C hH fl_X10_116 hf dX10_madeLine_69 (fun v69 hf => ?_)
        refine pg_sI C hH hf dX10_madeLine_72 (fun H locs h72 hH hf => ?_)
        refine lv_aload_n hx hb dX10_madeLine_73 rfl (lv_at hl 1 rfl) ?_
        refine lv_ldc2 (v := (556243252 : Int64)) hx hb hown (hts _ (htb _ kl_X10_174)) dX10_madeLine_74 ?_
        refine lv_iconst (v := (0 : Int32)) hx hb dX10_madeLine_77 (by decide) ?_
        refine lv_bipush (v := (99 : Int32)) hx hb dX10_madeLine_78 (by decide) ?_
        refine pg_Vi (As := [.long (556243252 : Int64), .int (0 : Int32), .int (99 : Int32)]) C hH mi_X10_after vl_X10_213 (q := (RX10, TX10, 34)) (ci := 10) rfl rfl hf (fun _ e1 => (oO_sp e1).1) (fun _ _ e1 => c_X10_after e1) rfl rfl hl.1 (Nat.le_of_ble_eq_true rfl) ⟨Nat.le_of_ble_eq_true rfl, Nat.le_of_ble_eq_true rfl⟩ ⟨Nat.zero_le _, Nat.zero_le _⟩ dX10_madeLine_80 (fun H locs v80 h80 hH hf => ?_)
        refine lv_if_ne (tgt := 88) hx hb dX10_madeLine_83 (by decide) (fun cn => ?_) (fun cn => ?_)
        · have hf := (if_neg cn).symm.trans hf
          refine lv_aload_n hx hb dX10_madeLine_88 rfl (lv_at hl 1 rfl) ?_
          refine pg_gR C hH fl_X10_17 hf dX10_madeLine_89 (fun v89 hf => ?_)
          refine lv_iload_n hx hb dX10_madeLine_92 rfl (lv_at hl 0 rfl) ?_
          refine lv_iconst (v := (3 : Int32)) hx hb dX10_madeLine_93 (by decide) ?_
          refine lv_iadd hx hb dX10_madeLine_94 ?_
          refine lv_aload_n hx hb dX10_madeLine_95 rfl (lv_at hl 1 rfl) ?_
          refine pg_gI C hH fl_X10_116 hf dX10_madeLine_96 (fun v96 hf => ?_)
          refine pg_sI C hH hf dX10_madeLine_99 (fun H locs h99 hH hf => ?_)
          refine lv_iconst (v := (1 : Int32)) hx hb dX10_madeLine_100 (by decide) ?_
          exact pg_zret C hr hH hf dX10_madeLine_101
        · have hf := (if_pos cn).symm.trans hf
          refine lv_iconst (v := (0 : Int32)) hx hb dX10_madeLine_86 (by decide) ?_
          exact pg_zret C hr hH hf dX10_madeLine_87
      · have hf := (if_pos cn).symm.trans hf
        refine lv_iconst (v := (0 : Int32)) hx hb dX10_madeLine_59 (by decide) ?_
        exact pg_zret C hr hH hf dX10_madeLine_60
    · have hf := (if_neg cn).symm.trans hf
      refine lv_aload_n hx hb dX10_madeLine_35 rfl (lv_at hl 1 rfl) ?_
      refine lv_iconst (v := (2 : Int32)) hx hb dX10_madeLine_36 (by decide) ?_
      refine pg_Vi (As := [.int (2 : Int32)]) C hH mi_X10_bad vl_X10_112 (q := (RX10, TX10, 34)) (ci := 10) rfl rfl hf (fun _ e1 => (oO_sp e1).1) (fun _ _ e1 => c_X10_bad e1) rfl rfl hl.1 (Nat.le_of_ble_eq_true rfl) ⟨Nat.le_of_ble_eq_true rfl, Nat.le_of_ble_eq_true rfl⟩ ⟨Nat.zero_le _, Nat.zero_le _⟩ dX10_madeLine_37 (fun H locs v37 h37 hH hf => ?_)
      exact pg_zret C hr hH hf dX10_madeLine_40
  · have hf := (if_pos cn).symm.trans hf
    refine lv_iconst (v := (0 : Int32)) hx hb dX10_madeLine_12 (by decide) ?_
    exact pg_zret C hr hH hf dX10_madeLine_13
set_option maxHeartbeats 4000000 in
set_option maxRecDepth 100000 in
theorem wX10_bandLine_b36 {r : Int32} {h' : PH} (C : CT g RX10 cX10_bandLine 3 (Cond.code yX10_bandLine cX10_bandLine 3 (some .boolean) :: TB) p s m args meth c) (hr : meth.sig.returnType = some .boolean) {h : PH} {a0 : Nat} {x1 : Int32} {s0 : Int32} {H : Heap} {locs : List Loc} {ls : Array Slot} (hH : HS g s H locs h) (hf : mX10_bandLine_b36 h a0 x1 s0 = some (r, h')) (hl : lv_has ls 3 [(0, .ref (gB g + a0)), (1, .int x1)]) : W p l e (rmD 4 0 0) s m args below meth c H locs 0 0 (MQ below (QcI g r h') args s 0 0 (aB g)) (F0 m 36 ls [.int s0]) := by
  obtain ⟨⟨hx, hb, hml, hown, hts⟩, htb, hlk, hkk, hbs⟩ := id C
  unfold mX10_bandLine_b36 at hf
  refine lv_istore_n (lv' := [(2, .int s0), (0, .ref (gB g + a0)), (1, .int x1)]) hx hb dX10_bandLine_36 rfl hl (by decide) rfl (fun ls hl => ?_)
  refine lv_aload_n hx hb dX10_bandLine_37 rfl (lv_at hl 1 rfl) ?_
  refine lv_iconst (v := (5 : Int32)) hx hb dX10_bandLine_38 (by decide) ?_
  refine lv_iconst (v := (4 : Int32)) hx hb dX10_bandLine_39 (by decide) ?_
  refine pg_Vi (As := [.int (5 : Int32), .int (4 : Int32)]) C hH mi_X10_begins vl_X10_200 (q := (RX10, TX10, 34)) (ci := 10) rfl rfl hf (fun _ e1 => (oO_sp e1).1) (fun _ _ e1 => c_X10_begins e1) rfl rfl hl.1 (Nat.le_of_ble_eq_true rfl) ⟨Nat.le_of_ble_eq_true rfl, Nat.le_of_ble_eq_true rfl⟩ ⟨Nat.zero_le _, Nat.zero_le _⟩ dX10_bandLine_40 (fun H locs v40 h40 hH hf => ?_)
  refine lv_if_eq (tgt := 60) hx hb dX10_bandLine_43 (by decide) (fun cn => ?_) (fun cn => ?_)
  · have hf := (if_pos cn).symm.trans hf
    refine lv_iconst (v := (0 : Int32)) hx hb dX10_bandLine_60 (by decide) ?_
    exact pg_zret C hr hH hf dX10_bandLine_61
  · have hf := (if_neg cn).symm.trans hf
    refine lv_aload_n hx hb dX10_bandLine_46 rfl (lv_at hl 1 rfl) ?_
    refine lv_ldc2 (v := (215533 : Int64)) hx hb hown (hts _ (htb _ kl_X10_178)) dX10_bandLine_47 ?_
    refine lv_iload_n hx hb dX10_bandLine_50 rfl (lv_at hl 0 rfl) ?_
    refine lv_sipush (v := (9999 : Int32)) hx hb dX10_bandLine_51 (by decide) ?_
    refine pg_Vi (As := [.long (215533 : Int64), .int s0, .int (9999 : Int32)]) C hH mi_X10_after vl_X10_213 (q := (RX10, TX10, 34)) (ci := 10) rfl rfl hf (fun _ e1 => (oO_sp e1).1) (fun _ _ e1 => c_X10_after e1) rfl rfl hl.1 (Nat.le_of_ble_eq_true rfl) ⟨Nat.le_of_ble_eq_true rfl, Nat.le_of_ble_eq_true rfl⟩ ⟨Nat.zero_le _, Nat.zero_le _⟩ dX10_bandLine_54 (fun H locs v54 h54 hH hf => ?_)
    refine lv_if_ne (tgt := 62) hx hb dX10_bandLine_57 (by decide) (fun cn => ?_) (fun cn => ?_)
    · have hf := (if_neg cn).symm.trans hf
      refine lv_aload_n hx hb dX10_bandLine_62 rfl (lv_at hl 1 rfl) ?_
      refine pg_gR C hH fl_X10_17 hf dX10_bandLine_63 (fun v63 hf => ?_)
      refine lv_iload_n hx hb dX10_bandLine_66 rfl (lv_at hl 2 rfl) ?_
      refine lv_aload_n hx hb dX10_bandLine_67 rfl (lv_at hl 1 rfl) ?_
      refine pg_gI C hH fl_X10_116 hf dX10_bandLine_68 (fun v68 hf => ?_)
      refine pg_sI C hH hf dX10_bandLine_71 (fun H locs h71 hH hf => ?_)
      refine lv_aload_n hx hb dX10_bandLine_72 rfl (lv_at hl 1 rfl) ?_
      refine lv_ldc2 (v := (398963 : Int64)) hx hb hown (hts _ (htb _ kl_X10_180)) dX10_bandLine_73 ?_
      refine lv_iconst (v := (0 : Int32)) hx hb dX10_bandLine_76 (by decide) ?_
      refine lv_bipush (v := (90 : Int32)) hx hb dX10_bandLine_77 (by decide) ?_
      refine pg_Vi (As := [.long (398963 : Int64), .int (0 : Int32), .int (90 : Int32)]) C hH mi_X10_after vl_X10_213 (q := (RX10, TX10, 34)) (ci := 10) rfl rfl hf (fun _ e1 => (oO_sp e1).1) (fun _ _ e1 => c_X10_after e1) rfl rfl hl.1 (Nat.le_of_ble_eq_true rfl) ⟨Nat.le_of_ble_eq_true rfl, Nat.le_of_ble_eq_true rfl⟩ ⟨Nat.zero_le _, Nat.zero_le _⟩ dX10_bandLine_79 (fun H locs v79 h79 hH hf => ?_)
      refine lv_if_ne (tgt := 87) hx hb dX10_bandLine_82 (by decide) (fun cn => ?_) (fun cn => ?_)
      · have hf := (if_neg cn).symm.trans hf
        refine lv_aload_n hx hb dX10_bandLine_87 rfl (lv_at hl 1 rfl) ?_
        refine pg_gR C hH fl_X10_17 hf dX10_bandLine_88 (fun v88 hf => ?_)
        refine lv_iload_n hx hb dX10_bandLine_91 rfl (lv_at hl 2 rfl) ?_
        refine lv_iconst (v := (1 : Int32)) hx hb dX10_bandLine_92 (by decide) ?_
        refine lv_iadd hx hb dX10_bandLine_93 ?_
        refine lv_aload_n hx hb dX10_bandLine_94 rfl (lv_at hl 1 rfl) ?_
        refine pg_gI C hH fl_X10_116 hf dX10_bandLine_95 (fun v95 hf => ?_)
        refine pg_sI C hH hf dX10_bandLine_98 (fun H locs h98 hH hf => ?_)
        refine lv_aload_n hx hb dX10_bandLine_99 rfl (lv_at hl 1 rfl) ?_
        refine pg_gR C hH fl_X10_17 hf dX10_bandLine_100 (fun v100 hf => ?_)
        refine lv_iconst (v := (5 : Int32)) hx hb dX10_bandLine_103 (by decide) ?_
        refine lv_dup2_11 hx hb dX10_bandLine_104 rfl rfl ?_
        refine pg_aI C hH hf dX10_bandLine_105 (fun v105 hf => ?_)
        refine lv_iconst (v := (1 : Int32)) hx hb dX10_bandLine_106 (by decide) ?_
        refine lv_iadd hx hb dX10_bandLine_107 ?_
        refine pg_sI C hH hf dX10_bandLine_108 (fun H locs h108 hH hf => ?_)
        refine lv_iconst (v := (1 : Int32)) hx hb dX10_bandLine_109 (by decide) ?_
        exact pg_zret C hr hH hf dX10_bandLine_110
      · have hf := (if_pos cn).symm.trans hf
        refine lv_iconst (v := (0 : Int32)) hx hb dX10_bandLine_85 (by decide) ?_
        exact pg_zret C hr hH hf dX10_bandLine_86
    · have hf := (if_pos cn).symm.trans hf
      refine lv_iconst (v := (0 : Int32)) hx hb dX10_bandLine_60 (by decide) ?_
      exact pg_zret C hr hH hf dX10_bandLine_61
set_option maxHeartbeats 4000000 in
set_option maxRecDepth 100000 in
theorem c_X10_bandLine {l : Launch} {g : GD} {h : PH} {a0 : Nat} {r : Int32} {h' : PH} (hf : mX10_bandLine h a0 = some (r, h')) : Met l yX10_bandLine (Cond.code yX10_bandLine cX10_bandLine 3 (some .boolean) :: TB) (rmD 4 0 0) (PcH g [.ref (gB g + a0)] h) (QcI g r h') 0 0 (aB g) := by
  refine Met.ofW (cc := cX10_bandLine) (maxL := 3) (ret := some .boolean) (by decide) rfl ?_
  intro p e s m args below meth c s₁ B hml hv
  obtain ⟨rfl, hH0, hkk0⟩ := hv
  have C : CT g RX10 cX10_bandLine 3 (Cond.code yX10_bandLine cX10_bandLine 3 (some .boolean) :: TB) p s m _ meth c := pg_ct (Tw := []) B hml hH0 hkk0
  have hr := B.returns
  have hH : HS g s s.heap [] h := ⟨hH0, va_S.rf⟩
  have hl := lv_entry ([.ref (gB g + a0)]) (n := 3) (Nat.le_of_ble_eq_true rfl)
  rw [lg_entry_eq]
  generalize (lg_sl ([.ref (gB g + a0)]) ++ List.replicate (3 - (lg_sl ([.ref (gB g + a0)])).length) Slot.unset).toArray = ls at hl ⊢
  have hl : lv_has ls 3 [(0, .ref (gB g + a0))] := hl
  show W p l e (rmD 4 0 0) _ _ _ _ _ _ _ _ _ _ _ _
  unfold mX10_bandLine at hf
  obtain ⟨hO, hf⟩ := oO_sp hf
  obtain ⟨⟨hx, hb, hml, hown, hts⟩, htb, hlk, hkk, hbs⟩ := id C
  refine lv_sipush (v := (224 : Int32)) hx hb dX10_bandLine_0 (by decide) ?_
  refine lv_iconst (v := (2 : Int32)) hx hb dX10_bandLine_3 (by decide) ?_
  refine lv_aload_n hx hb dX10_bandLine_4 rfl (lv_at hl 0 rfl) ?_
  refine pg_gR C hH fl_X10_17 hf dX10_bandLine_5 (fun v5 hf => ?_)
  refine lv_iconst (v := (5 : Int32)) hx hb dX10_bandLine_8 (by decide) ?_
  refine pg_aI C hH hf dX10_bandLine_9 (fun v9 hf => ?_)
  refine lv_imul hx hb dX10_bandLine_10 ?_
  refine lv_iadd hx hb dX10_bandLine_11 ?_
  refine lv_istore_n (lv' := [(1, .int ((224 : Int32) + ((2 : Int32) * v9))), (0, .ref (gB g + a0))]) hx hb dX10_bandLine_12 rfl hl (by decide) rfl (fun ls hl => ?_)
  refine lv_aload_n hx hb dX10_bandLine_13 rfl (lv_at hl 1 rfl) ?_
  refine pg_gR C hH fl_X10_17 hf dX10_bandLine_14 (fun v14 hf => ?_)
  refine lv_iconst (v := (5 : Int32)) hx hb dX10_bandLine_17 (by decide) ?_
  refine pg_aI C hH hf dX10_bandLine_18 (fun v18 hf => ?_)
  refine lv_if_ne (tgt := 26) hx hb dX10_bandLine_19 (by decide) (fun cn => ?_) (fun cn => ?_)
  · have hf := (if_neg cn).symm.trans hf
    refine lv_aload_n hx hb dX10_bandLine_26 rfl (lv_at hl 1 rfl) ?_
    refine pg_gR C hH fl_X10_17 hf dX10_bandLine_27 (fun v27 hf => ?_)
    refine lv_iload_n hx hb dX10_bandLine_30 rfl (lv_at hl 0 rfl) ?_
    refine lv_iconst (v := (2 : Int32)) hx hb dX10_bandLine_31 (by decide) ?_
    refine lv_isub hx hb dX10_bandLine_32 ?_
    refine pg_aI C hH hf dX10_bandLine_33 (fun v33 hf => ?_)
    refine lv_iconst (v := (1 : Int32)) hx hb dX10_bandLine_34 (by decide) ?_
    refine lv_iadd hx hb dX10_bandLine_35 ?_
    exact wX10_bandLine_b36 C hr hH hf (lv_sub hl [1, 0] rfl)
  · have hf := (if_pos cn).symm.trans hf
    refine lv_iconst (v := (2 : Int32)) hx hb dX10_bandLine_22 (by decide) ?_
    refine lv_goto (tgt := 36) hx hb dX10_bandLine_23 (by decide) ?_
    exact wX10_bandLine_b36 C hr hH hf (lv_sub hl [1, 0] rfl)
set_option maxHeartbeats 4000000 in
set_option maxRecDepth 100000 in
theorem c_X10_leastOf {l : Launch} {g : GD} {h : PH} {x0 : Int32} {r : Int32} {h' : PH} (hf : mX10_leastOf h x0 = some (r, h')) : Met l yX10_leastOf (Cond.code yX10_leastOf cX10_leastOf 1 (some .int) :: TB) (rmD 0 0 0) (PcH g [.int x0] h) (QcI g r h') 0 0 (aB g) := by
  refine Met.ofW (cc := cX10_leastOf) (maxL := 1) (ret := some .int) (by decide) rfl ?_
  intro p e s m args below meth c s₁ B hml hv
  obtain ⟨rfl, hH0, hkk0⟩ := hv
  have C : CT g RX10 cX10_leastOf 1 (Cond.code yX10_leastOf cX10_leastOf 1 (some .int) :: TB) p s m _ meth c := pg_ct (Tw := []) B hml hH0 hkk0
  have hr := B.returns
  have hH : HS g s s.heap [] h := ⟨hH0, va_S.rf⟩
  have hl := lv_entry ([.int x0]) (n := 1) (Nat.le_of_ble_eq_true rfl)
  rw [lg_entry_eq]
  generalize (lg_sl ([.int x0]) ++ List.replicate (1 - (lg_sl ([.int x0])).length) Slot.unset).toArray = ls at hl ⊢
  have hl : lv_has ls 1 [(0, .int x0)] := hl
  show W p l e (rmD 0 0 0) _ _ _ _ _ _ _ _ _ _ _ _
  unfold mX10_leastOf at hf
  obtain ⟨⟨hx, hb, hml, hown, hts⟩, htb, hlk, hkk, hbs⟩ := id C
  refine lv_iload_n hx hb dX10_leastOf_0 rfl (lv_at hl 0 rfl) ?_
  refine lv_bipush (v := (7 : Int32)) hx hb dX10_leastOf_1 (by decide) ?_
  refine lv_icmp_ne (tgt := 10) hx hb dX10_leastOf_3 (by decide) (fun cn => ?_) (fun cn => ?_)
  · have hf := (if_neg cn).symm.trans hf
    refine lv_iconst (v := (0 : Int32)) hx hb dX10_leastOf_10 (by decide) ?_
    exact pg_iret C hr hH hf dX10_leastOf_11
  · have hf := (if_pos cn).symm.trans hf
    refine lv_iconst (v := (1 : Int32)) hx hb dX10_leastOf_6 (by decide) ?_
    refine lv_goto (tgt := 11) hx hb dX10_leastOf_7 (by decide) ?_
    exact pg_iret C hr hH hf dX10_leastOf_11
set_option maxHeartbeats 4000000 in
set_option maxRecDepth 100000 in
theorem c_X10_mostOf {l : Launch} {g : GD} {h : PH} {x0 : Int32} {r : Int32} {h' : PH} (hf : mX10_mostOf h x0 = some (r, h')) : Met l yX10_mostOf (Cond.code yX10_mostOf cX10_mostOf 1 (some .int) :: TB) (rmD 0 0 0) (PcH g [.int x0] h) (QcI g r h') 0 0 (aB g) := by
  refine Met.ofW (cc := cX10_mostOf) (maxL := 1) (ret := some .int) (by decide) rfl ?_
  intro p e s m args below meth c s₁ B hml hv
  obtain ⟨rfl, hH0, hkk0⟩ := hv
  have C : CT g RX10 cX10_mostOf 1 (Cond.code yX10_mostOf cX10_mostOf 1 (some .int) :: TB) p s m _ meth c := pg_ct (Tw := []) B hml hH0 hkk0
  have hr := B.returns
  have hH : HS g s s.heap [] h := ⟨hH0, va_S.rf⟩
  have hl := lv_entry ([.int x0]) (n := 1) (Nat.le_of_ble_eq_true rfl)
  rw [lg_entry_eq]
  generalize (lg_sl ([.int x0]) ++ List.replicate (1 - (lg_sl ([.int x0])).length) Slot.unset).toArray = ls at hl ⊢
  have hl : lv_has ls 1 [(0, .int x0)] := hl
  show W p l e (rmD 0 0 0) _ _ _ _ _ _ _ _ _ _ _ _
  unfold mX10_mostOf at hf
  obtain ⟨⟨hx, hb, hml, hown, hts⟩, htb, hlk, hkk, hbs⟩ := id C
  refine lv_iload_n hx hb dX10_mostOf_0 rfl (lv_at hl 0 rfl) ?_
  refine lv_bipush (v := (6 : Int32)) hx hb dX10_mostOf_1 (by decide) ?_
  refine lv_icmp_ne (tgt := 11) hx hb dX10_mostOf_3 (by decide) (fun cn => ?_) (fun cn => ?_)
  · have hf := (if_neg cn).symm.trans hf
    refine lv_iload_n hx hb dX10_mostOf_11 rfl (lv_at hl 0 rfl) ?_
    refine lv_bipush (v := (7 : Int32)) hx hb dX10_mostOf_12 (by decide) ?_
    refine lv_icmp_ne (tgt := 23) hx hb dX10_mostOf_14 (by decide) (fun cn => ?_) (fun cn => ?_)
    · have hf := (if_neg cn).symm.trans hf
      refine lv_iload_n hx hb dX10_mostOf_23 rfl (lv_at hl 0 rfl) ?_
      refine lv_bipush (v := (8 : Int32)) hx hb dX10_mostOf_24 (by decide) ?_
      refine lv_icmp_ne (tgt := 34) hx hb dX10_mostOf_26 (by decide) (fun cn => ?_) (fun cn => ?_)
      · have hf := (if_neg cn).symm.trans hf
        refine lv_bipush (v := (99 : Int32)) hx hb dX10_mostOf_34 (by decide) ?_
        exact pg_iret C hr hH hf dX10_mostOf_36
      · have hf := (if_pos cn).symm.trans hf
        refine lv_bipush (v := (90 : Int32)) hx hb dX10_mostOf_29 (by decide) ?_
        refine lv_goto (tgt := 36) hx hb dX10_mostOf_31 (by decide) ?_
        exact pg_iret C hr hH hf dX10_mostOf_36
    · have hf := (if_pos cn).symm.trans hf
      refine lv_sipush (v := (999 : Int32)) hx hb dX10_mostOf_17 (by decide) ?_
      refine lv_goto (tgt := 36) hx hb dX10_mostOf_20 (by decide) ?_
      exact pg_iret C hr hH hf dX10_mostOf_36
  · have hf := (if_pos cn).symm.trans hf
    refine lv_bipush (v := (50 : Int32)) hx hb dX10_mostOf_6 (by decide) ?_
    refine lv_goto (tgt := 36) hx hb dX10_mostOf_8 (by decide) ?_
    exact pg_iret C hr hH hf dX10_mostOf_36
set_option maxHeartbeats 4000000 in
set_option maxRecDepth 100000 in
theorem c_X10_ruleLine {l : Launch} {g : GD} {h : PH} {a0 : Nat} {x1 : Int32} {r : Int32} {h' : PH} (hf : mX10_ruleLine h a0 x1 = some (r, h')) : Met l yX10_ruleLine (Cond.code yX10_ruleLine cX10_ruleLine 2 (some .boolean) :: TB) (rmD 3 0 0) (PcH g [.ref (gB g + a0), .int x1] h) (QcI g r h') 0 0 (aB g) := by
  refine Met.ofW (cc := cX10_ruleLine) (maxL := 2) (ret := some .boolean) (by decide) rfl ?_
  intro p e s m args below meth c s₁ B hml hv
  obtain ⟨rfl, hH0, hkk0⟩ := hv
  have C : CT g RX10 cX10_ruleLine 2 (Cond.code yX10_ruleLine cX10_ruleLine 2 (some .boolean) :: TB) p s m _ meth c := pg_ct (Tw := []) B hml hH0 hkk0
  have hr := B.returns
  have hH : HS g s s.heap [] h := ⟨hH0, va_S.rf⟩
  have hl := lv_entry ([.ref (gB g + a0), .int x1]) (n := 2) (Nat.le_of_ble_eq_true rfl)
  rw [lg_entry_eq]
  generalize (lg_sl ([.ref (gB g + a0), .int x1]) ++ List.replicate (2 - (lg_sl ([.ref (gB g + a0), .int x1])).length) Slot.unset).toArray = ls at hl ⊢
  have hl : lv_has ls 2 [(0, .ref (gB g + a0)), (1, .int x1)] := hl
  show W p l e (rmD 3 0 0) _ _ _ _ _ _ _ _ _ _ _ _
  unfold mX10_ruleLine at hf
  obtain ⟨hO, hf⟩ := oO_sp hf
  obtain ⟨⟨hx, hb, hml, hown, hts⟩, htb, hlk, hkk, hbs⟩ := id C
  refine lv_aload_n hx hb dX10_ruleLine_0 rfl (lv_at hl 0 rfl) ?_
  refine pg_gI C hH fl_X10_229 hf dX10_ruleLine_1 (fun v1 hf => ?_)
  refine lv_iload_n hx hb dX10_ruleLine_4 rfl (lv_at hl 1 rfl) ?_
  refine pg_Si (As := [.int v1, .int x1]) C hH mi_X10_has sl_X10_217 hf (fun _ _ e1 => c_X10_has e1) rfl rfl hl.1 (Nat.le_of_ble_eq_true rfl) ⟨Nat.le_of_ble_eq_true rfl, Nat.le_of_ble_eq_true rfl⟩ ⟨Nat.zero_le _, Nat.zero_le _⟩ dX10_ruleLine_5 (fun H locs v5 h5 hH hf => ?_)
  refine lv_if_eq (tgt := 17) hx hb dX10_ruleLine_8 (by decide) (fun cn => ?_) (fun cn => ?_)
  · have hf := (if_pos cn).symm.trans hf
    refine lv_aload_n hx hb dX10_ruleLine_17 rfl (lv_at hl 0 rfl) ?_
    refine lv_dup hx hb dX10_ruleLine_18 rfl ?_
    refine pg_gI C hH fl_X10_229 hf dX10_ruleLine_19 (fun v19 hf => ?_)
    refine lv_iconst (v := (1 : Int32)) hx hb dX10_ruleLine_22 (by decide) ?_
    refine lv_iload_n hx hb dX10_ruleLine_23 rfl (lv_at hl 1 rfl) ?_
    refine lv_ishl hx hb dX10_ruleLine_24 ?_
    refine lv_ior hx hb dX10_ruleLine_25 ?_
    refine pg_pI C hH fl_X10_229 fm_10_22 hf dX10_ruleLine_26 (fun H locs h26 hH hf => ?_)
    refine lv_aload_n hx hb dX10_ruleLine_29 rfl (lv_at hl 0 rfl) ?_
    refine pg_Vv (As := []) C hH mi_X10_go vl_X10_119 (q := (RX10, TX10, 34)) (ci := 10) rfl rfl hf (fun _ e1 => (oO_sp e1).1) (fun _ e1 => c_X10_go e1) rfl rfl hl.1 (Nat.le_of_ble_eq_true rfl) ⟨Nat.le_of_ble_eq_true rfl, Nat.le_of_ble_eq_true rfl⟩ ⟨Nat.zero_le _, Nat.zero_le _⟩ dX10_ruleLine_30 (fun H locs h30 hH hf => ?_)
    refine lv_aload_n hx hb dX10_ruleLine_33 rfl (lv_at hl 0 rfl) ?_
    refine lv_iload_n hx hb dX10_ruleLine_34 rfl (lv_at hl 1 rfl) ?_
    refine pg_Si (As := [.int x1]) C hH mi_X10_leastOf sl_X10_232 hf (fun _ _ e1 => c_X10_leastOf e1) rfl rfl hl.1 (Nat.le_of_ble_eq_true rfl) ⟨Nat.le_of_ble_eq_true rfl, Nat.le_of_ble_eq_true rfl⟩ ⟨Nat.zero_le _, Nat.zero_le _⟩ dX10_ruleLine_35 (fun H locs v35 h35 hH hf => ?_)
    refine lv_iload_n hx hb dX10_ruleLine_38 rfl (lv_at hl 1 rfl) ?_
    refine pg_Si (As := [.int x1]) C hH mi_X10_mostOf sl_X10_235 hf (fun _ _ e1 => c_X10_mostOf e1) rfl rfl hl.1 (Nat.le_of_ble_eq_true rfl) ⟨Nat.le_of_ble_eq_true rfl, Nat.le_of_ble_eq_true rfl⟩ ⟨Nat.zero_le _, Nat.zero_le _⟩ dX10_ruleLine_39 (fun H locs v39 h39 hH hf => ?_)
    refine pg_Vi (As := [.int v35, .int v39]) C hH mi_X10_number vl_X10_126 (q := (RX10, TX10, 34)) (ci := 10) rfl rfl hf (fun _ e1 => (oO_sp e1).1) (fun _ _ e1 => c_X10_number e1) rfl rfl hl.1 (Nat.le_of_ble_eq_true rfl) ⟨Nat.le_of_ble_eq_true rfl, Nat.le_of_ble_eq_true rfl⟩ ⟨Nat.zero_le _, Nat.zero_le _⟩ dX10_ruleLine_42 (fun H locs v42 h42 hH hf => ?_)
    refine lv_if_ne (tgt := 50) hx hb dX10_ruleLine_45 (by decide) (fun cn => ?_) (fun cn => ?_)
    · have hf := (if_neg cn).symm.trans hf
      refine lv_aload_n hx hb dX10_ruleLine_50 rfl (lv_at hl 0 rfl) ?_
      refine pg_gR C hH fl_X10_17 hf dX10_ruleLine_51 (fun v51 hf => ?_)
      refine lv_iload_n hx hb dX10_ruleLine_54 rfl (lv_at hl 1 rfl) ?_
      refine lv_aload_n hx hb dX10_ruleLine_55 rfl (lv_at hl 0 rfl) ?_
      refine pg_gI C hH fl_X10_116 hf dX10_ruleLine_56 (fun v56 hf => ?_)
      refine pg_sI C hH hf dX10_ruleLine_59 (fun H locs h59 hH hf => ?_)
      refine lv_iconst (v := (1 : Int32)) hx hb dX10_ruleLine_60 (by decide) ?_
      exact pg_zret C hr hH hf dX10_ruleLine_61
    · have hf := (if_pos cn).symm.trans hf
      refine lv_iconst (v := (0 : Int32)) hx hb dX10_ruleLine_48 (by decide) ?_
      exact pg_zret C hr hH hf dX10_ruleLine_49
  · have hf := (if_neg cn).symm.trans hf
    refine lv_aload_n hx hb dX10_ruleLine_11 rfl (lv_at hl 0 rfl) ?_
    refine lv_iconst (v := (2 : Int32)) hx hb dX10_ruleLine_12 (by decide) ?_
    refine pg_Vi (As := [.int (2 : Int32)]) C hH mi_X10_bad vl_X10_112 (q := (RX10, TX10, 34)) (ci := 10) rfl rfl hf (fun _ e1 => (oO_sp e1).1) (fun _ _ e1 => c_X10_bad e1) rfl rfl hl.1 (Nat.le_of_ble_eq_true rfl) ⟨Nat.le_of_ble_eq_true rfl, Nat.le_of_ble_eq_true rfl⟩ ⟨Nat.zero_le _, Nat.zero_le _⟩ dX10_ruleLine_13 (fun H locs v13 h13 hH hf => ?_)
    exact pg_zret C hr hH hf dX10_ruleLine_16
set_option maxHeartbeats 4000000 in
set_option maxRecDepth 100000 in
theorem wX10_line_b181 {r : Int32} {h' : PH} (C : CT g RX10 cX10_line 2 (Cond.code yX10_line cX10_line 2 (some .boolean) :: TB) p s m args meth c) (hr : meth.sig.returnType = some .boolean) {h : PH} {a0 : Nat} {s0 : Int32} {H : Heap} {locs : List Loc} {ls : Array Slot} (hH : HS g s H locs h) (hf : mX10_line_b181 h a0 s0 = some (r, h')) (hl : lv_has ls 2 [(0, .ref (gB g + a0))]) : W p l e (rmD 6 0 0) s m args below meth c H locs 0 0 (MQ below (QcI g r h') args s 0 0 (aB g)) (F0 m 181 ls [.int s0]) := by
  obtain ⟨⟨hx, hb, hml, hown, hts⟩, htb, hlk, hkk, hbs⟩ := id C
  unfold mX10_line_b181 at hf
  refine lv_istore_n (lv' := [(1, .int s0), (0, .ref (gB g + a0))]) hx hb dX10_line_181 rfl hl (by decide) rfl (fun ls hl => ?_)
  refine lv_iload_n hx hb dX10_line_182 rfl (lv_at hl 0 rfl) ?_
  refine lv_iconst (v := (-1 : Int32)) hx hb dX10_line_183 (by decide) ?_
  refine lv_icmp_ne (tgt := 195) hx hb dX10_line_184 (by decide) (fun cn => ?_) (fun cn => ?_)
  · have hf := (if_neg cn).symm.trans hf
    refine lv_aload_n hx hb dX10_line_195 rfl (lv_at hl 1 rfl) ?_
    refine lv_iload_n hx hb dX10_line_196 rfl (lv_at hl 0 rfl) ?_
    refine pg_Vi (As := [.int s0]) C hH mi_X10_ruleLine vl_X10_262 (q := (RX10, TX10, 34)) (ci := 10) rfl rfl hf (fun _ e1 => (oO_sp e1).1) (fun _ _ e1 => c_X10_ruleLine e1) rfl rfl hl.1 (Nat.le_of_ble_eq_true rfl) ⟨Nat.le_of_ble_eq_true rfl, Nat.le_of_ble_eq_true rfl⟩ ⟨Nat.zero_le _, Nat.zero_le _⟩ dX10_line_197 (fun H locs v197 h197 hH hf => ?_)
    exact pg_zret C hr hH hf dX10_line_200
  · have hf := (if_pos cn).symm.trans hf
    refine lv_aload_n hx hb dX10_line_187 rfl (lv_at hl 1 rfl) ?_
    refine lv_iconst (v := (1 : Int32)) hx hb dX10_line_188 (by decide) ?_
    refine pg_Vi (As := [.int (1 : Int32)]) C hH mi_X10_bad vl_X10_112 (q := (RX10, TX10, 34)) (ci := 10) rfl rfl hf (fun _ e1 => (oO_sp e1).1) (fun _ _ e1 => c_X10_bad e1) rfl rfl hl.1 (Nat.le_of_ble_eq_true rfl) ⟨Nat.le_of_ble_eq_true rfl, Nat.le_of_ble_eq_true rfl⟩ ⟨Nat.zero_le _, Nat.zero_le _⟩ dX10_line_189 (fun H locs v189 h189 hH hf => ?_)
    refine lv_goto (tgt := 200) hx hb dX10_line_192 (by decide) ?_
    exact pg_zret C hr hH hf dX10_line_200
set_option maxHeartbeats 4000000 in
set_option maxRecDepth 100000 in
theorem c_X10_line {l : Launch} {g : GD} {h : PH} {a0 : Nat} {r : Int32} {h' : PH} (hf : mX10_line h a0 = some (r, h')) : Met l yX10_line (Cond.code yX10_line cX10_line 2 (some .boolean) :: TB) (rmD 6 0 0) (PcH g [.ref (gB g + a0)] h) (QcI g r h') 0 0 (aB g) := by
  refine Met.ofW (cc := cX10_line) (maxL := 2) (ret := some .boolean) (by decide) rfl ?_
  intro p e s m args below meth c s₁ B hml hv
  obtain ⟨rfl, hH0, hkk0⟩ := hv
  have C : CT g RX10 cX10_line 2 (Cond.code yX10_line cX10_line 2 (some .boolean) :: TB) p s m _ meth c := pg_ct (Tw := []) B hml hH0 hkk0
  have hr := B.returns
  have hH : HS g s s.heap [] h := ⟨hH0, va_S.rf⟩
  have hl := lv_entry ([.ref (gB g + a0)]) (n := 2) (Nat.le_of_ble_eq_true rfl)
  rw [lg_entry_eq]
  generalize (lg_sl ([.ref (gB g + a0)]) ++ List.replicate (2 - (lg_sl ([.ref (gB g + a0)])).length) Slot.unset).toArray = ls at hl ⊢
  have hl : lv_has ls 2 [(0, .ref (gB g + a0))] := hl
  show W p l e (rmD 6 0 0) _ _ _ _ _ _ _ _ _ _ _ _
  unfold mX10_line at hf
  obtain ⟨hO, hf⟩ := oO_sp hf
  obtain ⟨⟨hx, hb, hml, hown, hts⟩, htb, hlk, hkk, hbs⟩ := id C
  refine lv_aload_n hx hb dX10_line_0 rfl (lv_at hl 0 rfl) ?_
  refine lv_ldc2 (v := (16829081 : Int64)) hx hb hown (hts _ (htb _ kl_X10_130)) dX10_line_1 ?_
  refine pg_Vi (As := [.long (16829081 : Int64)]) C hH mi_X10_is vl_X10_122 (q := (RX10, TX10, 34)) (ci := 10) rfl rfl hf (fun _ e1 => (oO_sp e1).1) (fun _ _ e1 => c_X10_is e1) rfl rfl hl.1 (Nat.le_of_ble_eq_true rfl) ⟨Nat.le_of_ble_eq_true rfl, Nat.le_of_ble_eq_true rfl⟩ ⟨Nat.zero_le _, Nat.zero_le _⟩ dX10_line_4 (fun H locs v4 h4 hH hf => ?_)
  refine lv_if_eq (tgt := 15) hx hb dX10_line_7 (by decide) (fun cn => ?_) (fun cn => ?_)
  · have hf := (if_pos cn).symm.trans hf
    refine lv_aload_n hx hb dX10_line_15 rfl (lv_at hl 0 rfl) ?_
    refine lv_ldc2 (v := (11566 : Int64)) hx hb hown (hts _ (htb _ kl_X10_132)) dX10_line_16 ?_
    refine pg_Vi (As := [.long (11566 : Int64)]) C hH mi_X10_is vl_X10_122 (q := (RX10, TX10, 34)) (ci := 10) rfl rfl hf (fun _ e1 => (oO_sp e1).1) (fun _ _ e1 => c_X10_is e1) rfl rfl hl.1 (Nat.le_of_ble_eq_true rfl) ⟨Nat.le_of_ble_eq_true rfl, Nat.le_of_ble_eq_true rfl⟩ ⟨Nat.zero_le _, Nat.zero_le _⟩ dX10_line_19 (fun H locs v19 h19 hH hf => ?_)
    refine lv_if_eq (tgt := 30) hx hb dX10_line_22 (by decide) (fun cn => ?_) (fun cn => ?_)
    · have hf := (if_pos cn).symm.trans hf
      refine lv_aload_n hx hb dX10_line_30 rfl (lv_at hl 0 rfl) ?_
      refine lv_ldc2 (v := (245220 : Int64)) hx hb hown (hts _ (htb _ kl_X10_134)) dX10_line_31 ?_
      refine pg_Vi (As := [.long (245220 : Int64)]) C hH mi_X10_is vl_X10_122 (q := (RX10, TX10, 34)) (ci := 10) rfl rfl hf (fun _ e1 => (oO_sp e1).1) (fun _ _ e1 => c_X10_is e1) rfl rfl hl.1 (Nat.le_of_ble_eq_true rfl) ⟨Nat.le_of_ble_eq_true rfl, Nat.le_of_ble_eq_true rfl⟩ ⟨Nat.zero_le _, Nat.zero_le _⟩ dX10_line_34 (fun H locs v34 h34 hH hf => ?_)
      refine lv_if_eq (tgt := 45) hx hb dX10_line_37 (by decide) (fun cn => ?_) (fun cn => ?_)
      · have hf := (if_pos cn).symm.trans hf
        refine lv_aload_n hx hb dX10_line_45 rfl (lv_at hl 0 rfl) ?_
        refine lv_ldc2 (v := (54109812 : Int64)) hx hb hown (hts _ (htb _ kl_X10_140)) dX10_line_46 ?_
        refine pg_Vi (As := [.long (54109812 : Int64)]) C hH mi_X10_is vl_X10_122 (q := (RX10, TX10, 34)) (ci := 10) rfl rfl hf (fun _ e1 => (oO_sp e1).1) (fun _ _ e1 => c_X10_is e1) rfl rfl hl.1 (Nat.le_of_ble_eq_true rfl) ⟨Nat.le_of_ble_eq_true rfl, Nat.le_of_ble_eq_true rfl⟩ ⟨Nat.zero_le _, Nat.zero_le _⟩ dX10_line_49 (fun H locs v49 h49 hH hf => ?_)
        refine lv_if_eq (tgt := 60) hx hb dX10_line_52 (by decide) (fun cn => ?_) (fun cn => ?_)
        · have hf := (if_pos cn).symm.trans hf
          refine lv_aload_n hx hb dX10_line_60 rfl (lv_at hl 0 rfl) ?_
          refine lv_ldc2 (v := (624005 : Int64)) hx hb hown (hts _ (htb _ kl_X10_148)) dX10_line_61 ?_
          refine pg_Vi (As := [.long (624005 : Int64)]) C hH mi_X10_is vl_X10_122 (q := (RX10, TX10, 34)) (ci := 10) rfl rfl hf (fun _ e1 => (oO_sp e1).1) (fun _ _ e1 => c_X10_is e1) rfl rfl hl.1 (Nat.le_of_ble_eq_true rfl) ⟨Nat.le_of_ble_eq_true rfl, Nat.le_of_ble_eq_true rfl⟩ ⟨Nat.zero_le _, Nat.zero_le _⟩ dX10_line_64 (fun H locs v64 h64 hH hf => ?_)
          refine lv_if_eq (tgt := 75) hx hb dX10_line_67 (by decide) (fun cn => ?_) (fun cn => ?_)
          · have hf := (if_pos cn).symm.trans hf
            refine lv_aload_n hx hb dX10_line_75 rfl (lv_at hl 0 rfl) ?_
            refine lv_ldc2 (v := (609860996 : Int64)) hx hb hown (hts _ (htb _ kl_X10_168)) dX10_line_76 ?_
            refine pg_Vi (As := [.long (609860996 : Int64)]) C hH mi_X10_is vl_X10_122 (q := (RX10, TX10, 34)) (ci := 10) rfl rfl hf (fun _ e1 => (oO_sp e1).1) (fun _ _ e1 => c_X10_is e1) rfl rfl hl.1 (Nat.le_of_ble_eq_true rfl) ⟨Nat.le_of_ble_eq_true rfl, Nat.le_of_ble_eq_true rfl⟩ ⟨Nat.zero_le _, Nat.zero_le _⟩ dX10_line_79 (fun H locs v79 h79 hH hf => ?_)
            refine lv_if_eq (tgt := 90) hx hb dX10_line_82 (by decide) (fun cn => ?_) (fun cn => ?_)
            · have hf := (if_pos cn).symm.trans hf
              refine lv_aload_n hx hb dX10_line_90 rfl (lv_at hl 0 rfl) ?_
              refine lv_ldc2 (v := (427141 : Int64)) hx hb hown (hts _ (htb _ kl_X10_170)) dX10_line_91 ?_
              refine pg_Vi (As := [.long (427141 : Int64)]) C hH mi_X10_is vl_X10_122 (q := (RX10, TX10, 34)) (ci := 10) rfl rfl hf (fun _ e1 => (oO_sp e1).1) (fun _ _ e1 => c_X10_is e1) rfl rfl hl.1 (Nat.le_of_ble_eq_true rfl) ⟨Nat.le_of_ble_eq_true rfl, Nat.le_of_ble_eq_true rfl⟩ ⟨Nat.zero_le _, Nat.zero_le _⟩ dX10_line_94 (fun H locs v94 h94 hH hf => ?_)
              refine lv_if_eq (tgt := 105) hx hb dX10_line_97 (by decide) (fun cn => ?_) (fun cn => ?_)
              · have hf := (if_pos cn).symm.trans hf
                refine lv_aload_n hx hb dX10_line_105 rfl (lv_at hl 0 rfl) ?_
                refine lv_ldc2 (v := (67012 : Int64)) hx hb hown (hts _ (htb _ kl_X10_176)) dX10_line_106 ?_
                refine pg_Vi (As := [.long (67012 : Int64)]) C hH mi_X10_is vl_X10_122 (q := (RX10, TX10, 34)) (ci := 10) rfl rfl hf (fun _ e1 => (oO_sp e1).1) (fun _ _ e1 => c_X10_is e1) rfl rfl hl.1 (Nat.le_of_ble_eq_true rfl) ⟨Nat.le_of_ble_eq_true rfl, Nat.le_of_ble_eq_true rfl⟩ ⟨Nat.zero_le _, Nat.zero_le _⟩ dX10_line_109 (fun H locs v109 h109 hH hf => ?_)
                refine lv_if_eq (tgt := 120) hx hb dX10_line_112 (by decide) (fun cn => ?_) (fun cn => ?_)
                · have hf := (if_pos cn).symm.trans hf
                  refine lv_aload_n hx hb dX10_line_120 rfl (lv_at hl 0 rfl) ?_
                  refine lv_ldc2 (v := (463922 : Int64)) hx hb hown (hts _ (htb _ kl_X10_182)) dX10_line_121 ?_
                  refine pg_Vi (As := [.long (463922 : Int64)]) C hH mi_X10_is vl_X10_122 (q := (RX10, TX10, 34)) (ci := 10) rfl rfl hf (fun _ e1 => (oO_sp e1).1) (fun _ _ e1 => c_X10_is e1) rfl rfl hl.1 (Nat.le_of_ble_eq_true rfl) ⟨Nat.le_of_ble_eq_true rfl, Nat.le_of_ble_eq_true rfl⟩ ⟨Nat.zero_le _, Nat.zero_le _⟩ dX10_line_124 (fun H locs v124 h124 hH hf => ?_)
                  refine lv_if_eq (tgt := 135) hx hb dX10_line_127 (by decide) (fun cn => ?_) (fun cn => ?_)
                  · have hf := (if_pos cn).symm.trans hf
                    refine lv_aload_n hx hb dX10_line_135 rfl (lv_at hl 0 rfl) ?_
                    refine lv_ldc2 (v := (781652471 : Int64)) hx hb hown (hts _ (htb _ kl_X10_184)) dX10_line_136 ?_
                    refine pg_Vi (As := [.long (781652471 : Int64)]) C hH mi_X10_is vl_X10_122 (q := (RX10, TX10, 34)) (ci := 10) rfl rfl hf (fun _ e1 => (oO_sp e1).1) (fun _ _ e1 => c_X10_is e1) rfl rfl hl.1 (Nat.le_of_ble_eq_true rfl) ⟨Nat.le_of_ble_eq_true rfl, Nat.le_of_ble_eq_true rfl⟩ ⟨Nat.zero_le _, Nat.zero_le _⟩ dX10_line_139 (fun H locs v139 h139 hH hf => ?_)
                    refine lv_if_eq (tgt := 150) hx hb dX10_line_142 (by decide) (fun cn => ?_) (fun cn => ?_)
                    · have hf := (if_pos cn).symm.trans hf
                      refine lv_aload_n hx hb dX10_line_150 rfl (lv_at hl 0 rfl) ?_
                      refine lv_ldc2 (v := (437853486 : Int64)) hx hb hown (hts _ (htb _ kl_X10_186)) dX10_line_151 ?_
                      refine pg_Vi (As := [.long (437853486 : Int64)]) C hH mi_X10_is vl_X10_122 (q := (RX10, TX10, 34)) (ci := 10) rfl rfl hf (fun _ e1 => (oO_sp e1).1) (fun _ _ e1 => c_X10_is e1) rfl rfl hl.1 (Nat.le_of_ble_eq_true rfl) ⟨Nat.le_of_ble_eq_true rfl, Nat.le_of_ble_eq_true rfl⟩ ⟨Nat.zero_le _, Nat.zero_le _⟩ dX10_line_154 (fun H locs v154 h154 hH hf => ?_)
                      refine lv_if_eq (tgt := 165) hx hb dX10_line_157 (by decide) (fun cn => ?_) (fun cn => ?_)
                      · have hf := (if_pos cn).symm.trans hf
                        refine lv_aload_n hx hb dX10_line_165 rfl (lv_at hl 0 rfl) ?_
                        refine lv_ldc2 (v := (153241 : Int64)) hx hb hown (hts _ (htb _ kl_X10_188)) dX10_line_166 ?_
                        refine pg_Vi (As := [.long (153241 : Int64)]) C hH mi_X10_is vl_X10_122 (q := (RX10, TX10, 34)) (ci := 10) rfl rfl hf (fun _ e1 => (oO_sp e1).1) (fun _ _ e1 => c_X10_is e1) rfl rfl hl.1 (Nat.le_of_ble_eq_true rfl) ⟨Nat.le_of_ble_eq_true rfl, Nat.le_of_ble_eq_true rfl⟩ ⟨Nat.zero_le _, Nat.zero_le _⟩ dX10_line_169 (fun H locs v169 h169 hH hf => ?_)
                        refine lv_if_eq (tgt := 180) hx hb dX10_line_172 (by decide) (fun cn => ?_) (fun cn => ?_)
                        · have hf := (if_pos cn).symm.trans hf
                          refine lv_iconst (v := (-1 : Int32)) hx hb dX10_line_180 (by decide) ?_
                          exact wX10_line_b181 C hr hH hf (lv_sub hl [0] rfl)
                        · have hf := (if_neg cn).symm.trans hf
                          refine lv_bipush (v := (9 : Int32)) hx hb dX10_line_175 (by decide) ?_
                          refine lv_goto (tgt := 181) hx hb dX10_line_177 (by decide) ?_
                          exact wX10_line_b181 C hr hH hf (lv_sub hl [0] rfl)
                      · have hf := (if_neg cn).symm.trans hf
                        refine lv_bipush (v := (8 : Int32)) hx hb dX10_line_160 (by decide) ?_
                        refine lv_goto (tgt := 181) hx hb dX10_line_162 (by decide) ?_
                        exact wX10_line_b181 C hr hH hf (lv_sub hl [0] rfl)
                    · have hf := (if_neg cn).symm.trans hf
                      refine lv_bipush (v := (7 : Int32)) hx hb dX10_line_145 (by decide) ?_
                      refine lv_goto (tgt := 181) hx hb dX10_line_147 (by decide) ?_
                      exact wX10_line_b181 C hr hH hf (lv_sub hl [0] rfl)
                  · have hf := (if_neg cn).symm.trans hf
                    refine lv_bipush (v := (6 : Int32)) hx hb dX10_line_130 (by decide) ?_
                    refine lv_goto (tgt := 181) hx hb dX10_line_132 (by decide) ?_
                    exact wX10_line_b181 C hr hH hf (lv_sub hl [0] rfl)
                · have hf := (if_neg cn).symm.trans hf
                  refine lv_aload_n hx hb dX10_line_115 rfl (lv_at hl 0 rfl) ?_
                  refine pg_Vi (As := []) C hH mi_X10_bandLine vl_X10_259 (q := (RX10, TX10, 34)) (ci := 10) rfl rfl hf (fun _ e1 => (oO_sp e1).1) (fun _ _ e1 => c_X10_bandLine e1) rfl rfl hl.1 (Nat.le_of_ble_eq_true rfl) ⟨Nat.le_of_ble_eq_true rfl, Nat.le_of_ble_eq_true rfl⟩ ⟨Nat.zero_le _, Nat.zero_le _⟩ dX10_line_116 (fun H locs v116 h116 hH hf => ?_)
                  exact pg_zret C hr hH hf dX10_line_119
              · have hf := (if_neg cn).symm.trans hf
                refine lv_aload_n hx hb dX10_line_100 rfl (lv_at hl 0 rfl) ?_
                refine pg_Vi (As := []) C hH mi_X10_madeLine vl_X10_256 (q := (RX10, TX10, 34)) (ci := 10) rfl rfl hf (fun _ e1 => (oO_sp e1).1) (fun _ _ e1 => c_X10_madeLine e1) rfl rfl hl.1 (Nat.le_of_ble_eq_true rfl) ⟨Nat.le_of_ble_eq_true rfl, Nat.le_of_ble_eq_true rfl⟩ ⟨Nat.zero_le _, Nat.zero_le _⟩ dX10_line_101 (fun H locs v101 h101 hH hf => ?_)
                exact pg_zret C hr hH hf dX10_line_104
            · have hf := (if_neg cn).symm.trans hf
              refine lv_aload_n hx hb dX10_line_85 rfl (lv_at hl 0 rfl) ?_
              refine pg_Vi (As := []) C hH mi_X10_resoldLine vl_X10_253 (q := (RX10, TX10, 34)) (ci := 10) rfl rfl hf (fun _ e1 => (oO_sp e1).1) (fun _ _ e1 => c_X10_resoldLine e1) rfl rfl hl.1 (Nat.le_of_ble_eq_true rfl) ⟨Nat.le_of_ble_eq_true rfl, Nat.le_of_ble_eq_true rfl⟩ ⟨Nat.zero_le _, Nat.zero_le _⟩ dX10_line_86 (fun H locs v86 h86 hH hf => ?_)
              exact pg_zret C hr hH hf dX10_line_89
          · have hf := (if_neg cn).symm.trans hf
            refine lv_aload_n hx hb dX10_line_70 rfl (lv_at hl 0 rfl) ?_
            refine pg_Vi (As := []) C hH mi_X10_saleLine vl_X10_250 (q := (RX10, TX10, 34)) (ci := 10) rfl rfl hf (fun _ e1 => (oO_sp e1).1) (fun _ _ e1 => c_X10_saleLine e1) rfl rfl hl.1 (Nat.le_of_ble_eq_true rfl) ⟨Nat.le_of_ble_eq_true rfl, Nat.le_of_ble_eq_true rfl⟩ ⟨Nat.zero_le _, Nat.zero_le _⟩ dX10_line_71 (fun H locs v71 h71 hH hf => ?_)
            exact pg_zret C hr hH hf dX10_line_74
        · have hf := (if_neg cn).symm.trans hf
          refine lv_aload_n hx hb dX10_line_55 rfl (lv_at hl 0 rfl) ?_
          refine pg_Vi (As := []) C hH mi_X10_assistLine vl_X10_247 (q := (RX10, TX10, 34)) (ci := 10) rfl rfl hf (fun _ e1 => (oO_sp e1).1) (fun _ _ e1 => c_X10_assistLine e1) rfl rfl hl.1 (Nat.le_of_ble_eq_true rfl) ⟨Nat.le_of_ble_eq_true rfl, Nat.le_of_ble_eq_true rfl⟩ ⟨Nat.zero_le _, Nat.zero_le _⟩ dX10_line_56 (fun H locs v56 h56 hH hf => ?_)
          exact pg_zret C hr hH hf dX10_line_59
      · have hf := (if_neg cn).symm.trans hf
        refine lv_aload_n hx hb dX10_line_40 rfl (lv_at hl 0 rfl) ?_
        refine pg_Vi (As := []) C hH mi_X10_goodLine vl_X10_244 (q := (RX10, TX10, 34)) (ci := 10) rfl rfl hf (fun _ e1 => (oO_sp e1).1) (fun _ _ e1 => c_X10_goodLine e1) rfl rfl hl.1 (Nat.le_of_ble_eq_true rfl) ⟨Nat.le_of_ble_eq_true rfl, Nat.le_of_ble_eq_true rfl⟩ ⟨Nat.zero_le _, Nat.zero_le _⟩ dX10_line_41 (fun H locs v41 h41 hH hf => ?_)
        exact pg_zret C hr hH hf dX10_line_44
    · have hf := (if_neg cn).symm.trans hf
      refine lv_aload_n hx hb dX10_line_25 rfl (lv_at hl 0 rfl) ?_
      refine pg_Vi (As := []) C hH mi_X10_kinLine vl_X10_241 (q := (RX10, TX10, 34)) (ci := 10) rfl rfl hf (fun _ e1 => (oO_sp e1).1) (fun _ _ e1 => c_X10_kinLine e1) rfl rfl hl.1 (Nat.le_of_ble_eq_true rfl) ⟨Nat.le_of_ble_eq_true rfl, Nat.le_of_ble_eq_true rfl⟩ ⟨Nat.zero_le _, Nat.zero_le _⟩ dX10_line_26 (fun H locs v26 h26 hH hf => ?_)
      exact pg_zret C hr hH hf dX10_line_29
  · have hf := (if_neg cn).symm.trans hf
    refine lv_aload_n hx hb dX10_line_10 rfl (lv_at hl 0 rfl) ?_
    refine pg_Vi (As := []) C hH mi_X10_partyLine vl_X10_238 (q := (RX10, TX10, 34)) (ci := 10) rfl rfl hf (fun _ e1 => (oO_sp e1).1) (fun _ _ e1 => c_X10_partyLine e1) rfl rfl hl.1 (Nat.le_of_ble_eq_true rfl) ⟨Nat.le_of_ble_eq_true rfl, Nat.le_of_ble_eq_true rfl⟩ ⟨Nat.zero_le _, Nat.zero_le _⟩ dX10_line_11 (fun H locs v11 h11 hH hf => ?_)
    exact pg_zret C hr hH hf dX10_line_14
set_option maxHeartbeats 4000000 in
set_option maxRecDepth 100000 in
theorem c_X10_ends {l : Launch} {g : GD} {h : PH} {a0 : Nat} {r : Int32} {h' : PH} (hf : mX10_ends h a0 = some (r, h')) : Met l yX10_ends (Cond.code yX10_ends cX10_ends 1 (some .boolean) :: TB) (rmD 2 0 0) (PcH g [.ref (gB g + a0)] h) (QcI g r h') 0 0 (aB g) := by
  refine Met.ofW (cc := cX10_ends) (maxL := 1) (ret := some .boolean) (by decide) rfl ?_
  intro p e s m args below meth c s₁ B hml hv
  obtain ⟨rfl, hH0, hkk0⟩ := hv
  have C : CT g RX10 cX10_ends 1 (Cond.code yX10_ends cX10_ends 1 (some .boolean) :: TB) p s m _ meth c := pg_ct (Tw := []) B hml hH0 hkk0
  have hr := B.returns
  have hH : HS g s s.heap [] h := ⟨hH0, va_S.rf⟩
  have hl := lv_entry ([.ref (gB g + a0)]) (n := 1) (Nat.le_of_ble_eq_true rfl)
  rw [lg_entry_eq]
  generalize (lg_sl ([.ref (gB g + a0)]) ++ List.replicate (1 - (lg_sl ([.ref (gB g + a0)])).length) Slot.unset).toArray = ls at hl ⊢
  have hl : lv_has ls 1 [(0, .ref (gB g + a0))] := hl
  show W p l e (rmD 2 0 0) _ _ _ _ _ _ _ _ _ _ _ _
  unfold mX10_ends at hf
  obtain ⟨hO, hf⟩ := oO_sp hf
  obtain ⟨⟨hx, hb, hml, hown, hts⟩, htb, hlk, hkk, hbs⟩ := id C
  refine lv_aload_n hx hb dX10_ends_0 rfl (lv_at hl 0 rfl) ?_
  refine pg_gI C hH fl_X10_90 hf dX10_ends_1 (fun v1 hf => ?_)
  refine lv_iconst (v := (3 : Int32)) hx hb dX10_ends_4 (by decide) ?_
  refine lv_icmp_eq (tgt := 14) hx hb dX10_ends_5 (by decide) (fun cn => ?_) (fun cn => ?_)
  · have hf := (if_pos cn).symm.trans hf
    refine lv_aload_n hx hb dX10_ends_14 rfl (lv_at hl 0 rfl) ?_
    refine pg_Vv (As := []) C hH mi_X10_go vl_X10_119 (q := (RX10, TX10, 34)) (ci := 10) rfl rfl hf (fun _ e1 => (oO_sp e1).1) (fun _ e1 => c_X10_go e1) rfl rfl hl.1 (Nat.le_of_ble_eq_true rfl) ⟨Nat.le_of_ble_eq_true rfl, Nat.le_of_ble_eq_true rfl⟩ ⟨Nat.zero_le _, Nat.zero_le _⟩ dX10_ends_15 (fun H locs h15 hH hf => ?_)
    refine lv_iconst (v := (1 : Int32)) hx hb dX10_ends_18 (by decide) ?_
    exact pg_zret C hr hH hf dX10_ends_19
  · have hf := (if_neg cn).symm.trans hf
    refine lv_aload_n hx hb dX10_ends_8 rfl (lv_at hl 0 rfl) ?_
    refine lv_iconst (v := (1 : Int32)) hx hb dX10_ends_9 (by decide) ?_
    refine pg_Vi (As := [.int (1 : Int32)]) C hH mi_X10_bad vl_X10_112 (q := (RX10, TX10, 34)) (ci := 10) rfl rfl hf (fun _ e1 => (oO_sp e1).1) (fun _ _ e1 => c_X10_bad e1) rfl rfl hl.1 (Nat.le_of_ble_eq_true rfl) ⟨Nat.le_of_ble_eq_true rfl, Nat.le_of_ble_eq_true rfl⟩ ⟨Nat.zero_le _, Nat.zero_le _⟩ dX10_ends_10 (fun H locs v10 h10 hH hf => ?_)
    exact pg_zret C hr hH hf dX10_ends_13
set_option maxHeartbeats 4000000 in
set_option maxRecDepth 100000 in
theorem wX10_text_b85 {r : Int32} {h' : PH} (C : CT g RX10 cX10_text 4 (Cond.code yX10_text cX10_text 4 (some .int) :: TB) p s m args meth c) (hr : meth.sig.returnType = some .int) {h : PH} {a0 : Nat} {H : Heap} {locs : List Loc} {ls : Array Slot} (hH : HS g s H locs h) (hf : mX10_text_b85 h a0 = some (r, h')) (hl : lv_has ls 4 [(0, .ref (gB g + a0))]) : W p l e (rmD 7 0 0) s m args below meth c H locs 0 0 (MQ below (QcI g r h') args s 0 0 (aB g)) (F0 m 85 ls []) := by
  obtain ⟨⟨hx, hb, hml, hown, hts⟩, htb, hlk, hkk, hbs⟩ := id C
  unfold mX10_text_b85 at hf
  refine lv_bipush (v := (-2 : Int32)) hx hb dX10_text_85 (by decide) ?_
  refine lv_aload_n hx hb dX10_text_87 rfl (lv_at hl 0 rfl) ?_
  refine pg_gI C hH fl_X10_109 hf dX10_text_88 (fun v88 hf => ?_)
  refine lv_isub hx hb dX10_text_91 ?_
  exact pg_iret C hr hH hf dX10_text_92
set_option maxHeartbeats 4000000 in
set_option maxRecDepth 100000 in
theorem wX10_text_b114 {r114 : PH → Nat → Int32 → Int32 → Option (Int32 × PH)} {r : Int32} {h' : PH} (C : CT g RX10 cX10_text 4 (Cond.code yX10_text cX10_text 4 (some .int) :: TB) p s m args meth c) (hr : meth.sig.returnType = some .int) (k114 : ∀ {h : PH} {a0 : Nat} {x2 : Int32} {x3 : Int32} {H : Heap} {locs : List Loc} {ls : Array Slot}, HS g s H locs h → r114 h a0 x2 x3 = some (r, h') → lv_has ls 4 [(0, .ref (gB g + a0)), (2, .int x2), (3, .int x3)] → W p l e (rmD 7 0 0) s m args below meth c H locs 0 0 (MQ below (QcI g r h') args s 0 0 (aB g)) (F0 m 114 ls [])) {h : PH} {a0 : Nat} {x2 : Int32} {x3 : Int32} {H : Heap} {locs : List Loc} {ls : Array Slot} (hH : HS g s H locs h) (hf : mX10_text_b114 r114 h a0 x2 x3 = some (r, h')) (hl : lv_has ls 4 [(0, .ref (gB g + a0)), (2, .int x2), (3, .int x3)]) : W p l e (rmD 7 0 0) s m args below meth c H locs 0 0 (MQ below (QcI g r h') args s 0 0 (aB g)) (F0 m 114 ls []) := by
  obtain ⟨⟨hx, hb, hml, hown, hts⟩, htb, hlk, hkk, hbs⟩ := id C
  unfold mX10_text_b114 at hf
  refine lv_iload_n hx hb dX10_text_114 rfl (lv_at hl 2 rfl) ?_
  refine lv_aload_n hx hb dX10_text_115 rfl (lv_at hl 0 rfl) ?_
  refine pg_gI C hH fl_X10_194 hf dX10_text_116 (fun v116 hf => ?_)
  refine lv_icmp_ge (tgt := 155) hx hb dX10_text_119 (by decide) (fun cn => ?_) (fun cn => ?_)
  · have hf := (if_pos cn).symm.trans hf
    refine lv_aload_n hx hb dX10_text_155 rfl (lv_at hl 0 rfl) ?_
    refine lv_iconst (v := (0 : Int32)) hx hb dX10_text_156 (by decide) ?_
    refine pg_pI C hH fl_X10_275 fm_10_6 hf dX10_text_157 (fun H locs h157 hH hf => ?_)
    refine lv_aload_n hx hb dX10_text_160 rfl (lv_at hl 0 rfl) ?_
    refine pg_gR C hH fl_X10_26 hf dX10_text_161 (fun v161 hf => ?_)
    refine lv_iconst (v := (0 : Int32)) hx hb dX10_text_164 (by decide) ?_
    refine lv_iconst (v := (0 : Int32)) hx hb dX10_text_165 (by decide) ?_
    refine pg_sZ C hH hf dX10_text_166 (fun H locs h166 hH hf => ?_)
    refine lv_aload_n hx hb dX10_text_167 rfl (lv_at hl 0 rfl) ?_
    refine pg_gR C hH fl_X10_26 hf dX10_text_168 (fun v168 hf => ?_)
    refine lv_iconst (v := (1 : Int32)) hx hb dX10_text_171 (by decide) ?_
    refine lv_iconst (v := (0 : Int32)) hx hb dX10_text_172 (by decide) ?_
    refine pg_sZ C hH hf dX10_text_173 (fun H locs h173 hH hf => ?_)
    refine lv_iload_n hx hb dX10_text_174 rfl (lv_at hl 1 rfl) ?_
    exact pg_iret C hr hH hf dX10_text_175
  · have hf := (if_neg cn).symm.trans hf
    refine lv_aload_n hx hb dX10_text_122 rfl (lv_at hl 0 rfl) ?_
    refine pg_gR C hH fl_X10_38 hf dX10_text_123 (fun v123 hf => ?_)
    refine lv_iload_n hx hb dX10_text_126 rfl (lv_at hl 2 rfl) ?_
    refine pg_aI C hH hf dX10_text_127 (fun v127 hf => ?_)
    refine lv_iconst (v := (3 : Int32)) hx hb dX10_text_128 (by decide) ?_
    refine lv_icmp_ne (tgt := 149) hx hb dX10_text_129 (by decide) (fun cn => ?_) (fun cn => ?_)
    · have hf := (if_neg cn).symm.trans hf
      refine lv_iinc (v := (x3 + 1)) (lv' := [(3, .int (x3 + 1)), (0, .ref (gB g + a0)), (2, .int x2)]) hx hb dX10_text_149 hl (k := 2) rfl rfl (by decide) rfl (fun ls hl => ?_)
      refine lv_goto (tgt := 114) hx hb dX10_text_152 (by decide) ?_
      exact k114 hH hf (lv_sub hl [1, 2, 0] rfl)
    · have hf := (if_pos cn).symm.trans hf
      refine lv_aload_n hx hb dX10_text_132 rfl (lv_at hl 0 rfl) ?_
      refine pg_gR C hH fl_X10_44 hf dX10_text_133 (fun v133 hf => ?_)
      refine lv_aload_n hx hb dX10_text_136 rfl (lv_at hl 0 rfl) ?_
      refine pg_gR C hH fl_X10_41 hf dX10_text_137 (fun v137 hf => ?_)
      refine lv_iload_n hx hb dX10_text_140 rfl (lv_at hl 2 rfl) ?_
      refine pg_aI C hH hf dX10_text_141 (fun v141 hf => ?_)
      refine lv_aload_n hx hb dX10_text_142 rfl (lv_at hl 0 rfl) ?_
      refine pg_gR C hH fl_X10_34 hf dX10_text_143 (fun v143 hf => ?_)
      refine lv_iload_n hx hb dX10_text_146 rfl (lv_at hl 2 rfl) ?_
      refine pg_aL C hH hf dX10_text_147 (fun v147 hf => ?_)
      refine pg_sL C hH hf dX10_text_148 (fun H locs h148 hH hf => ?_)
      refine lv_iinc (v := (x3 + 1)) (lv' := [(3, .int (x3 + 1)), (0, .ref (gB g + a0)), (2, .int x2)]) hx hb dX10_text_149 hl (k := 2) rfl rfl (by decide) rfl (fun ls hl => ?_)
      refine lv_goto (tgt := 114) hx hb dX10_text_152 (by decide) ?_
      exact k114 hH hf (lv_sub hl [1, 2, 0] rfl)
set_option maxHeartbeats 4000000 in
set_option maxRecDepth 100000 in
theorem wX10_text_L114 {r : Int32} {h' : PH} (C : CT g RX10 cX10_text 4 (Cond.code yX10_text cX10_text 4 (some .int) :: TB) p s m args meth c) (hr : meth.sig.returnType = some .int) : ∀ (n : Nat) {h : PH} {a0 : Nat} {x2 : Int32} {x3 : Int32} {H : Heap} {locs : List Loc} {ls : Array Slot}, HS g s H locs h → mX10_text_L114 n h a0 x2 x3 = some (r, h') → lv_has ls 4 [(0, .ref (gB g + a0)), (2, .int x2), (3, .int x3)] → W p l e (rmD 7 0 0) s m args below meth c H locs 0 0 (MQ below (QcI g r h') args s 0 0 (aB g)) (F0 m 114 ls []) := by
  intro n
  induction n with
  | zero =>
    intro h a0 x2 x3 H locs ls hH hf hl
    exact absurd hf (by intro z; cases z)
  | succ n ih =>
    intro h a0 x2 x3 H locs ls hH hf hl
    have hf : mX10_text_b114 (mX10_text_L114 n) h a0 x2 x3 = some (r, h') := hf
    exact wX10_text_b114 C hr (fun a b c => ih a b c) hH hf hl
set_option maxHeartbeats 4000000 in
set_option maxRecDepth 100000 in
theorem wX10_text_b64 {r64 : PH → Nat → Int32 → Option (Int32 × PH)} {r : Int32} {h' : PH} (C : CT g RX10 cX10_text 4 (Cond.code yX10_text cX10_text 4 (some .int) :: TB) p s m args meth c) (hr : meth.sig.returnType = some .int) (k64 : ∀ {h : PH} {a0 : Nat} {x2 : Int32} {H : Heap} {locs : List Loc} {ls : Array Slot}, HS g s H locs h → r64 h a0 x2 = some (r, h') → lv_has ls 4 [(0, .ref (gB g + a0)), (2, .int x2)] → W p l e (rmD 7 0 0) s m args below meth c H locs 0 0 (MQ below (QcI g r h') args s 0 0 (aB g)) (F0 m 64 ls [])) {h : PH} {a0 : Nat} {x2 : Int32} {H : Heap} {locs : List Loc} {ls : Array Slot} (hH : HS g s H locs h) (hf : mX10_text_b64 r64 h a0 x2 = some (r, h')) (hl : lv_has ls 4 [(0, .ref (gB g + a0)), (2, .int x2)]) : W p l e (rmD 7 0 0) s m args below meth c H locs 0 0 (MQ below (QcI g r h') args s 0 0 (aB g)) (F0 m 64 ls []) := by
  obtain ⟨⟨hx, hb, hml, hown, hts⟩, htb, hlk, hkk, hbs⟩ := id C
  unfold mX10_text_b64 at hf
  refine lv_aload_n hx hb dX10_text_64 rfl (lv_at hl 0 rfl) ?_
  refine pg_gI C hH fl_X10_90 hf dX10_text_65 (fun v65 hf => ?_)
  refine lv_if_eq (tgt := 99) hx hb dX10_text_68 (by decide) (fun cn => ?_) (fun cn => ?_)
  · have hf := (if_pos cn).symm.trans hf
    refine lv_aload_n hx hb dX10_text_99 rfl (lv_at hl 0 rfl) ?_
    refine pg_gR C hH fl_X10_17 hf dX10_text_100 (fun v100 hf => ?_)
    refine lv_iconst (v := (0 : Int32)) hx hb dX10_text_103 (by decide) ?_
    refine lv_aload_n hx hb dX10_text_104 rfl (lv_at hl 0 rfl) ?_
    refine pg_gR C hH fl_X10_13 hf dX10_text_105 (fun v105 hf => ?_)
    refine lv_iconst (v := (0 : Int32)) hx hb dX10_text_108 (by decide) ?_
    refine pg_Sv (As := [.ref (gB g + v100), .int (0 : Int32), .ref (gB g + v105), .int (0 : Int32)]) C hH mi_X10_copies sl_X10_271 hf (fun _ e1 => c_X10_copies e1) rfl rfl hl.1 (Nat.le_of_ble_eq_true rfl) ⟨Nat.le_of_ble_eq_true rfl, Nat.le_of_ble_eq_true rfl⟩ ⟨Nat.zero_le _, Nat.zero_le _⟩ dX10_text_109 (fun H locs h109 hH hf => ?_)
    refine lv_iconst (v := (0 : Int32)) hx hb dX10_text_112 (by decide) ?_
    refine lv_istore_n (lv' := [(3, .int (0 : Int32)), (0, .ref (gB g + a0)), (2, .int x2)]) hx hb dX10_text_113 rfl hl (by decide) rfl (fun ls hl => ?_)
    exact wX10_text_L114 C hr FU hH hf (lv_sub hl [1, 2, 0] rfl)
  · have hf := (if_neg cn).symm.trans hf
    refine lv_aload_n hx hb dX10_text_71 rfl (lv_at hl 0 rfl) ?_
    refine pg_Vi (As := []) C hH mi_X10_line vl_X10_265 (q := (RX10, TX10, 34)) (ci := 10) rfl rfl hf (fun _ e1 => (oO_sp e1).1) (fun _ _ e1 => c_X10_line e1) rfl rfl hl.1 (Nat.le_of_ble_eq_true rfl) ⟨Nat.le_of_ble_eq_true rfl, Nat.le_of_ble_eq_true rfl⟩ ⟨Nat.zero_le _, Nat.zero_le _⟩ dX10_text_72 (fun H locs v72 h72 hH hf => ?_)
    refine lv_if_eq (tgt := 85) hx hb dX10_text_75 (by decide) (fun cn => ?_) (fun cn => ?_)
    · have hf := (if_pos cn).symm.trans hf
      exact wX10_text_b85 C hr hH hf (lv_sub hl [0] rfl)
    · have hf := (if_neg cn).symm.trans hf
      refine lv_aload_n hx hb dX10_text_78 rfl (lv_at hl 0 rfl) ?_
      refine pg_Vi (As := []) C hH mi_X10_ends vl_X10_268 (q := (RX10, TX10, 34)) (ci := 10) rfl rfl hf (fun _ e1 => (oO_sp e1).1) (fun _ _ e1 => c_X10_ends e1) rfl rfl hl.1 (Nat.le_of_ble_eq_true rfl) ⟨Nat.le_of_ble_eq_true rfl, Nat.le_of_ble_eq_true rfl⟩ ⟨Nat.zero_le _, Nat.zero_le _⟩ dX10_text_79 (fun H locs v79 h79 hH hf => ?_)
      refine lv_if_ne (tgt := 93) hx hb dX10_text_82 (by decide) (fun cn => ?_) (fun cn => ?_)
      · have hf := (if_neg cn).symm.trans hf
        refine lv_iinc (v := (x2 + 1)) (lv' := [(2, .int (x2 + 1)), (0, .ref (gB g + a0))]) hx hb dX10_text_93 hl (k := 1) rfl rfl (by decide) rfl (fun ls hl => ?_)
        refine lv_goto (tgt := 64) hx hb dX10_text_96 (by decide) ?_
        exact k64 hH hf (lv_sub hl [1, 0] rfl)
      · have hf := (if_pos cn).symm.trans hf
        exact wX10_text_b85 C hr hH hf (lv_sub hl [0] rfl)
set_option maxHeartbeats 4000000 in
set_option maxRecDepth 100000 in
theorem wX10_text_L64 {r : Int32} {h' : PH} (C : CT g RX10 cX10_text 4 (Cond.code yX10_text cX10_text 4 (some .int) :: TB) p s m args meth c) (hr : meth.sig.returnType = some .int) : ∀ (n : Nat) {h : PH} {a0 : Nat} {x2 : Int32} {H : Heap} {locs : List Loc} {ls : Array Slot}, HS g s H locs h → mX10_text_L64 n h a0 x2 = some (r, h') → lv_has ls 4 [(0, .ref (gB g + a0)), (2, .int x2)] → W p l e (rmD 7 0 0) s m args below meth c H locs 0 0 (MQ below (QcI g r h') args s 0 0 (aB g)) (F0 m 64 ls []) := by
  intro n
  induction n with
  | zero =>
    intro h a0 x2 H locs ls hH hf hl
    exact absurd hf (by intro z; cases z)
  | succ n ih =>
    intro h a0 x2 H locs ls hH hf hl
    have hf : mX10_text_b64 (mX10_text_L64 n) h a0 x2 = some (r, h') := hf
    exact wX10_text_b64 C hr (fun a b c => ih a b c) hH hf hl
set_option maxHeartbeats 4000000 in
set_option maxRecDepth 100000 in
theorem c_X10_text {l : Launch} {g : GD} {h : PH} {a0 : Nat} {x1 : Int32} {r : Int32} {h' : PH} (hf : mX10_text h a0 x1 = some (r, h')) : Met l yX10_text (Cond.code yX10_text cX10_text 4 (some .int) :: TB) (rmD 7 0 0) (PcH g [.ref (gB g + a0), .int x1] h) (QcI g r h') 0 0 (aB g) := by
  refine Met.ofW (cc := cX10_text) (maxL := 4) (ret := some .int) (by decide) rfl ?_
  intro p e s m args below meth c s₁ B hml hv
  obtain ⟨rfl, hH0, hkk0⟩ := hv
  have C : CT g RX10 cX10_text 4 (Cond.code yX10_text cX10_text 4 (some .int) :: TB) p s m _ meth c := pg_ct (Tw := []) B hml hH0 hkk0
  have hr := B.returns
  have hH : HS g s s.heap [] h := ⟨hH0, va_S.rf⟩
  have hl := lv_entry ([.ref (gB g + a0), .int x1]) (n := 4) (Nat.le_of_ble_eq_true rfl)
  rw [lg_entry_eq]
  generalize (lg_sl ([.ref (gB g + a0), .int x1]) ++ List.replicate (4 - (lg_sl ([.ref (gB g + a0), .int x1])).length) Slot.unset).toArray = ls at hl ⊢
  have hl : lv_has ls 4 [(0, .ref (gB g + a0)), (1, .int x1)] := hl
  show W p l e (rmD 7 0 0) _ _ _ _ _ _ _ _ _ _ _ _
  unfold mX10_text at hf
  obtain ⟨hO, hf⟩ := oO_sp hf
  obtain ⟨⟨hx, hb, hml, hown, hts⟩, htb, hlk, hkk, hbs⟩ := id C
  refine lv_aload_n hx hb dX10_text_0 rfl (lv_at hl 0 rfl) ?_
  refine lv_iconst (v := (0 : Int32)) hx hb dX10_text_1 (by decide) ?_
  refine pg_pI C hH fl_X10_1 fm_10_0 hf dX10_text_2 (fun H locs h2 hH hf => ?_)
  refine lv_iload_n hx hb dX10_text_5 rfl (lv_at hl 1 rfl) ?_
  refine lv_i2l (v := (Int32.toInt64 x1)) hx hb dX10_text_6 rfl ?_
  refine lv_lconst (v := (0 : Int64)) hx hb dX10_text_7 (by decide) ?_
  refine lv_aload_n hx hb dX10_text_8 rfl (lv_at hl 0 rfl) ?_
  refine pg_gI C hH fl_X10_63 hf dX10_text_9 (fun v9 hf => ?_)
  refine lv_i2l (v := (Int32.toInt64 v9)) hx hb dX10_text_12 rfl ?_
  refine pg_Si (As := [.long (Int32.toInt64 x1), .long (0 : Int64), .long (Int32.toInt64 v9)]) C hH mi_X10_within sl_X10_97 hf (fun _ _ e1 => c_X10_within e1) rfl rfl hl.1 (Nat.le_of_ble_eq_true rfl) ⟨Nat.le_of_ble_eq_true rfl, Nat.le_of_ble_eq_true rfl⟩ ⟨Nat.zero_le _, Nat.zero_le _⟩ dX10_text_13 (fun H locs v13 h13 hH hf => ?_)
  refine lv_if_ne (tgt := 21) hx hb dX10_text_16 (by decide) (fun cn => ?_) (fun cn => ?_)
  · have hf := (if_neg cn).symm.trans hf
    refine lv_aload_n hx hb dX10_text_21 rfl (lv_at hl 0 rfl) ?_
    refine lv_iload_n hx hb dX10_text_22 rfl (lv_at hl 1 rfl) ?_
    refine pg_pI C hH fl_X10_70 fm_10_9 hf dX10_text_23 (fun H locs h23 hH hf => ?_)
    refine lv_aload_n hx hb dX10_text_26 rfl (lv_at hl 0 rfl) ?_
    refine lv_iconst (v := (0 : Int32)) hx hb dX10_text_27 (by decide) ?_
    refine pg_pI C hH fl_X10_63 fm_10_8 hf dX10_text_28 (fun H locs h28 hH hf => ?_)
    refine lv_aload_n hx hb dX10_text_31 rfl (lv_at hl 0 rfl) ?_
    refine lv_iconst (v := (0 : Int32)) hx hb dX10_text_32 (by decide) ?_
    refine pg_pI C hH fl_X10_73 fm_10_11 hf dX10_text_33 (fun H locs h33 hH hf => ?_)
    refine lv_aload_n hx hb dX10_text_36 rfl (lv_at hl 0 rfl) ?_
    refine lv_iconst (v := (0 : Int32)) hx hb dX10_text_37 (by decide) ?_
    refine pg_pI C hH fl_X10_109 fm_10_15 hf dX10_text_38 (fun H locs h38 hH hf => ?_)
    refine lv_aload_n hx hb dX10_text_41 rfl (lv_at hl 0 rfl) ?_
    refine lv_iconst (v := (0 : Int32)) hx hb dX10_text_42 (by decide) ?_
    refine pg_pI C hH fl_X10_194 fm_10_20 hf dX10_text_43 (fun H locs h43 hH hf => ?_)
    refine lv_aload_n hx hb dX10_text_46 rfl (lv_at hl 0 rfl) ?_
    refine lv_iconst (v := (0 : Int32)) hx hb dX10_text_47 (by decide) ?_
    refine pg_pI C hH fl_X10_229 fm_10_22 hf dX10_text_48 (fun H locs h48 hH hf => ?_)
    refine lv_aload_n hx hb dX10_text_51 rfl (lv_at hl 0 rfl) ?_
    refine pg_gR C hH fl_X10_17 hf dX10_text_52 (fun v52 hf => ?_)
    refine pg_Sv (As := [.ref (gB g + v52)]) C hH mi_X10_rules sl_X10_59 hf (fun _ e1 => c_X10_rules e1) rfl rfl hl.1 (Nat.le_of_ble_eq_true rfl) ⟨Nat.le_of_ble_eq_true rfl, Nat.le_of_ble_eq_true rfl⟩ ⟨Nat.zero_le _, Nat.zero_le _⟩ dX10_text_55 (fun H locs h55 hH hf => ?_)
    refine lv_aload_n hx hb dX10_text_58 rfl (lv_at hl 0 rfl) ?_
    refine pg_Vv (As := []) C hH mi_X10_go vl_X10_119 (q := (RX10, TX10, 34)) (ci := 10) rfl rfl hf (fun _ e1 => (oO_sp e1).1) (fun _ e1 => c_X10_go e1) rfl rfl hl.1 (Nat.le_of_ble_eq_true rfl) ⟨Nat.le_of_ble_eq_true rfl, Nat.le_of_ble_eq_true rfl⟩ ⟨Nat.zero_le _, Nat.zero_le _⟩ dX10_text_59 (fun H locs h59 hH hf => ?_)
    refine lv_iconst (v := (0 : Int32)) hx hb dX10_text_62 (by decide) ?_
    refine lv_istore_n (lv' := [(2, .int (0 : Int32)), (0, .ref (gB g + a0)), (1, .int x1)]) hx hb dX10_text_63 rfl hl (by decide) rfl (fun ls hl => ?_)
    exact wX10_text_L64 C hr FU hH hf (lv_sub hl [1, 0] rfl)
  · have hf := (if_pos cn).symm.trans hf
    refine lv_iconst (v := (-1 : Int32)) hx hb dX10_text_19 (by decide) ?_
    exact pg_iret C hr hH hf dX10_text_20
set_option maxHeartbeats 4000000 in
set_option maxRecDepth 100000 in
theorem c_X10_isIn {l : Launch} {g : GD} {h : PH} {x0 : Int32} {x1 : Int32} {r : Int32} {h' : PH} (hf : mX10_isIn h x0 x1 = some (r, h')) : Met l yX10_isIn (Cond.code yX10_isIn cX10_isIn 2 (some .boolean) :: TB) (rmD 0 0 0) (PcH g [.int x0, .int x1] h) (QcI g r h') 0 0 (aB g) := by
  refine Met.ofW (cc := cX10_isIn) (maxL := 2) (ret := some .boolean) (by decide) rfl ?_
  intro p e s m args below meth c s₁ B hml hv
  obtain ⟨rfl, hH0, hkk0⟩ := hv
  have C : CT g RX10 cX10_isIn 2 (Cond.code yX10_isIn cX10_isIn 2 (some .boolean) :: TB) p s m _ meth c := pg_ct (Tw := []) B hml hH0 hkk0
  have hr := B.returns
  have hH : HS g s s.heap [] h := ⟨hH0, va_S.rf⟩
  have hl := lv_entry ([.int x0, .int x1]) (n := 2) (Nat.le_of_ble_eq_true rfl)
  rw [lg_entry_eq]
  generalize (lg_sl ([.int x0, .int x1]) ++ List.replicate (2 - (lg_sl ([.int x0, .int x1])).length) Slot.unset).toArray = ls at hl ⊢
  have hl : lv_has ls 2 [(0, .int x0), (1, .int x1)] := hl
  show W p l e (rmD 0 0 0) _ _ _ _ _ _ _ _ _ _ _ _
  unfold mX10_isIn at hf
  obtain ⟨⟨hx, hb, hml, hown, hts⟩, htb, hlk, hkk, hbs⟩ := id C
  refine lv_iload_n hx hb dX10_isIn_0 rfl (lv_at hl 1 rfl) ?_
  refine lv_if_lt (tgt := 13) hx hb dX10_isIn_1 (by decide) (fun cn => ?_) (fun cn => ?_)
  · have hf := (if_pos cn).symm.trans hf
    refine lv_iconst (v := (0 : Int32)) hx hb dX10_isIn_13 (by decide) ?_
    exact pg_zret C hr hH hf dX10_isIn_14
  · have hf := (if_neg cn).symm.trans hf
    refine lv_iload_n hx hb dX10_isIn_4 rfl (lv_at hl 1 rfl) ?_
    refine lv_iload_n hx hb dX10_isIn_5 rfl (lv_at hl 0 rfl) ?_
    refine lv_icmp_ge (tgt := 13) hx hb dX10_isIn_6 (by decide) (fun cn => ?_) (fun cn => ?_)
    · have hf := (if_pos cn).symm.trans hf
      refine lv_iconst (v := (0 : Int32)) hx hb dX10_isIn_13 (by decide) ?_
      exact pg_zret C hr hH hf dX10_isIn_14
    · have hf := (if_neg cn).symm.trans hf
      refine lv_iconst (v := (1 : Int32)) hx hb dX10_isIn_9 (by decide) ?_
      refine lv_goto (tgt := 14) hx hb dX10_isIn_10 (by decide) ?_
      exact pg_zret C hr hH hf dX10_isIn_14
set_option maxHeartbeats 4000000 in
set_option maxRecDepth 100000 in
theorem c_X10_count {l : Launch} {g : GD} {h : PH} {a0 : Nat} {x1 : Int32} {r : Int32} {h' : PH} (hf : mX10_count h a0 x1 = some (r, h')) : Met l yX10_count (Cond.code yX10_count cX10_count 2 (some .int) :: TB) (rmD 0 0 0) (PcH g [.ref (gB g + a0), .int x1] h) (QcI g r h') 0 0 (aB g) := by
  refine Met.ofW (cc := cX10_count) (maxL := 2) (ret := some .int) (by decide) rfl ?_
  intro p e s m args below meth c s₁ B hml hv
  obtain ⟨rfl, hH0, hkk0⟩ := hv
  have C : CT g RX10 cX10_count 2 (Cond.code yX10_count cX10_count 2 (some .int) :: TB) p s m _ meth c := pg_ct (Tw := []) B hml hH0 hkk0
  have hr := B.returns
  have hH : HS g s s.heap [] h := ⟨hH0, va_S.rf⟩
  have hl := lv_entry ([.ref (gB g + a0), .int x1]) (n := 2) (Nat.le_of_ble_eq_true rfl)
  rw [lg_entry_eq]
  generalize (lg_sl ([.ref (gB g + a0), .int x1]) ++ List.replicate (2 - (lg_sl ([.ref (gB g + a0), .int x1])).length) Slot.unset).toArray = ls at hl ⊢
  have hl : lv_has ls 2 [(0, .ref (gB g + a0)), (1, .int x1)] := hl
  show W p l e (rmD 0 0 0) _ _ _ _ _ _ _ _ _ _ _ _
  unfold mX10_count at hf
  obtain ⟨hO, hf⟩ := oO_sp hf
  obtain ⟨⟨hx, hb, hml, hown, hts⟩, htb, hlk, hkk, hbs⟩ := id C
  refine lv_aload_n hx hb dX10_count_0 rfl (lv_at hl 0 rfl) ?_
  refine lv_iconst (v := (0 : Int32)) hx hb dX10_count_1 (by decide) ?_
  refine pg_pI C hH fl_X10_1 fm_10_0 hf dX10_count_2 (fun H locs h2 hH hf => ?_)
  refine lv_iload_n hx hb dX10_count_5 rfl (lv_at hl 1 rfl) ?_
  by_cases c0 : x1 = (0 : Int32)
  · have hf := (if_pos c0).symm.trans hf
    refine lv_tableIn (off := 70) (tgt := 76) hx hb dX10_count_6 (by rw [c0]; decide) (by rw [c0]; decide) (by rw [c0]; decide) (by decide) ?_
    refine lv_aload_n hx hb dX10_count_76 rfl (lv_at hl 0 rfl) ?_
    refine pg_gR C hH fl_X10_13 hf dX10_count_77 (fun v77 hf => ?_)
    refine lv_iload_n hx hb dX10_count_80 rfl (lv_at hl 1 rfl) ?_
    refine pg_aI C hH hf dX10_count_81 (fun v81 hf => ?_)
    exact pg_iret C hr hH hf dX10_count_82
  · have hf := (if_neg c0).symm.trans hf
    by_cases c1 : x1 = (1 : Int32)
    · have hf := (if_pos c1).symm.trans hf
      refine lv_tableIn (off := 70) (tgt := 76) hx hb dX10_count_6 (by rw [c1]; decide) (by rw [c1]; decide) (by rw [c1]; decide) (by decide) ?_
      refine lv_aload_n hx hb dX10_count_76 rfl (lv_at hl 0 rfl) ?_
      refine pg_gR C hH fl_X10_13 hf dX10_count_77 (fun v77 hf => ?_)
      refine lv_iload_n hx hb dX10_count_80 rfl (lv_at hl 1 rfl) ?_
      refine pg_aI C hH hf dX10_count_81 (fun v81 hf => ?_)
      exact pg_iret C hr hH hf dX10_count_82
    · have hf := (if_neg c1).symm.trans hf
      by_cases c2 : x1 = (2 : Int32)
      · have hf := (if_pos c2).symm.trans hf
        refine lv_tableIn (off := 70) (tgt := 76) hx hb dX10_count_6 (by rw [c2]; decide) (by rw [c2]; decide) (by rw [c2]; decide) (by decide) ?_
        refine lv_aload_n hx hb dX10_count_76 rfl (lv_at hl 0 rfl) ?_
        refine pg_gR C hH fl_X10_13 hf dX10_count_77 (fun v77 hf => ?_)
        refine lv_iload_n hx hb dX10_count_80 rfl (lv_at hl 1 rfl) ?_
        refine pg_aI C hH hf dX10_count_81 (fun v81 hf => ?_)
        exact pg_iret C hr hH hf dX10_count_82
      · have hf := (if_neg c2).symm.trans hf
        by_cases c3 : x1 = (3 : Int32)
        · have hf := (if_pos c3).symm.trans hf
          refine lv_tableIn (off := 70) (tgt := 76) hx hb dX10_count_6 (by rw [c3]; decide) (by rw [c3]; decide) (by rw [c3]; decide) (by decide) ?_
          refine lv_aload_n hx hb dX10_count_76 rfl (lv_at hl 0 rfl) ?_
          refine pg_gR C hH fl_X10_13 hf dX10_count_77 (fun v77 hf => ?_)
          refine lv_iload_n hx hb dX10_count_80 rfl (lv_at hl 1 rfl) ?_
          refine pg_aI C hH hf dX10_count_81 (fun v81 hf => ?_)
          exact pg_iret C hr hH hf dX10_count_82
        · have hf := (if_neg c3).symm.trans hf
          by_cases c4 : x1 = (4 : Int32)
          · have hf := (if_pos c4).symm.trans hf
            refine lv_tableIn (off := 70) (tgt := 76) hx hb dX10_count_6 (by rw [c4]; decide) (by rw [c4]; decide) (by rw [c4]; decide) (by decide) ?_
            refine lv_aload_n hx hb dX10_count_76 rfl (lv_at hl 0 rfl) ?_
            refine pg_gR C hH fl_X10_13 hf dX10_count_77 (fun v77 hf => ?_)
            refine lv_iload_n hx hb dX10_count_80 rfl (lv_at hl 1 rfl) ?_
            refine pg_aI C hH hf dX10_count_81 (fun v81 hf => ?_)
            exact pg_iret C hr hH hf dX10_count_82
          · have hf := (if_neg c4).symm.trans hf
            by_cases c5 : x1 = (5 : Int32)
            · have hf := (if_pos c5).symm.trans hf
              refine lv_tableIn (off := 70) (tgt := 76) hx hb dX10_count_6 (by rw [c5]; decide) (by rw [c5]; decide) (by rw [c5]; decide) (by decide) ?_
              refine lv_aload_n hx hb dX10_count_76 rfl (lv_at hl 0 rfl) ?_
              refine pg_gR C hH fl_X10_13 hf dX10_count_77 (fun v77 hf => ?_)
              refine lv_iload_n hx hb dX10_count_80 rfl (lv_at hl 1 rfl) ?_
              refine pg_aI C hH hf dX10_count_81 (fun v81 hf => ?_)
              exact pg_iret C hr hH hf dX10_count_82
            · have hf := (if_neg c5).symm.trans hf
              by_cases c6 : x1 = (6 : Int32)
              · have hf := (if_pos c6).symm.trans hf
                refine lv_tableIn (off := 70) (tgt := 76) hx hb dX10_count_6 (by rw [c6]; decide) (by rw [c6]; decide) (by rw [c6]; decide) (by decide) ?_
                refine lv_aload_n hx hb dX10_count_76 rfl (lv_at hl 0 rfl) ?_
                refine pg_gR C hH fl_X10_13 hf dX10_count_77 (fun v77 hf => ?_)
                refine lv_iload_n hx hb dX10_count_80 rfl (lv_at hl 1 rfl) ?_
                refine pg_aI C hH hf dX10_count_81 (fun v81 hf => ?_)
                exact pg_iret C hr hH hf dX10_count_82
              · have hf := (if_neg c6).symm.trans hf
                by_cases c7 : x1 = (7 : Int32)
                · have hf := (if_pos c7).symm.trans hf
                  refine lv_tableIn (off := 70) (tgt := 76) hx hb dX10_count_6 (by rw [c7]; decide) (by rw [c7]; decide) (by rw [c7]; decide) (by decide) ?_
                  refine lv_aload_n hx hb dX10_count_76 rfl (lv_at hl 0 rfl) ?_
                  refine pg_gR C hH fl_X10_13 hf dX10_count_77 (fun v77 hf => ?_)
                  refine lv_iload_n hx hb dX10_count_80 rfl (lv_at hl 1 rfl) ?_
                  refine pg_aI C hH hf dX10_count_81 (fun v81 hf => ?_)
                  exact pg_iret C hr hH hf dX10_count_82
                · have hf := (if_neg c7).symm.trans hf
                  by_cases c8 : x1 = (8 : Int32)
                  · have hf := (if_pos c8).symm.trans hf
                    refine lv_tableIn (off := 70) (tgt := 76) hx hb dX10_count_6 (by rw [c8]; decide) (by rw [c8]; decide) (by rw [c8]; decide) (by decide) ?_
                    refine lv_aload_n hx hb dX10_count_76 rfl (lv_at hl 0 rfl) ?_
                    refine pg_gR C hH fl_X10_13 hf dX10_count_77 (fun v77 hf => ?_)
                    refine lv_iload_n hx hb dX10_count_80 rfl (lv_at hl 1 rfl) ?_
                    refine pg_aI C hH hf dX10_count_81 (fun v81 hf => ?_)
                    exact pg_iret C hr hH hf dX10_count_82
                  · have hf := (if_neg c8).symm.trans hf
                    by_cases c9 : x1 = (9 : Int32)
                    · have hf := (if_pos c9).symm.trans hf
                      refine lv_tableIn (off := 70) (tgt := 76) hx hb dX10_count_6 (by rw [c9]; decide) (by rw [c9]; decide) (by rw [c9]; decide) (by decide) ?_
                      refine lv_aload_n hx hb dX10_count_76 rfl (lv_at hl 0 rfl) ?_
                      refine pg_gR C hH fl_X10_13 hf dX10_count_77 (fun v77 hf => ?_)
                      refine lv_iload_n hx hb dX10_count_80 rfl (lv_at hl 1 rfl) ?_
                      refine pg_aI C hH hf dX10_count_81 (fun v81 hf => ?_)
                      exact pg_iret C hr hH hf dX10_count_82
                    · have hf := (if_neg c9).symm.trans hf
                      by_cases c10 : x1 = (10 : Int32)
                      · have hf := (if_pos c10).symm.trans hf
                        refine lv_tableIn (off := 70) (tgt := 76) hx hb dX10_count_6 (by rw [c10]; decide) (by rw [c10]; decide) (by rw [c10]; decide) (by decide) ?_
                        refine lv_aload_n hx hb dX10_count_76 rfl (lv_at hl 0 rfl) ?_
                        refine pg_gR C hH fl_X10_13 hf dX10_count_77 (fun v77 hf => ?_)
                        refine lv_iload_n hx hb dX10_count_80 rfl (lv_at hl 1 rfl) ?_
                        refine pg_aI C hH hf dX10_count_81 (fun v81 hf => ?_)
                        exact pg_iret C hr hH hf dX10_count_82
                      · have hf := (if_neg c10).symm.trans hf
                        by_cases c11 : x1 = (11 : Int32)
                        · have hf := (if_pos c11).symm.trans hf
                          refine lv_tableIn (off := 77) (tgt := 83) hx hb dX10_count_6 (by rw [c11]; decide) (by rw [c11]; decide) (by rw [c11]; decide) (by decide) ?_
                          refine lv_aload_n hx hb dX10_count_83 rfl (lv_at hl 0 rfl) ?_
                          refine pg_gI C hH fl_X10_275 hf dX10_count_84 (fun v84 hf => ?_)
                          exact pg_iret C hr hH hf dX10_count_87
                        · have hf := (if_neg c11).symm.trans hf
                          by_cases c12 : x1 = (12 : Int32)
                          · have hf := (if_pos c12).symm.trans hf
                            refine lv_tableIn (off := 82) (tgt := 88) hx hb dX10_count_6 (by rw [c12]; decide) (by rw [c12]; decide) (by rw [c12]; decide) (by decide) ?_
                            refine lv_aload_n hx hb dX10_count_88 rfl (lv_at hl 0 rfl) ?_
                            refine pg_gI C hH fl_X10_63 hf dX10_count_89 (fun v89 hf => ?_)
                            exact pg_iret C hr hH hf dX10_count_92
                          · have hf := (if_neg c12).symm.trans hf
                            by_cases c13 : x1 = (13 : Int32)
                            · have hf := (if_pos c13).symm.trans hf
                              refine lv_tableIn (off := 87) (tgt := 93) hx hb dX10_count_6 (by rw [c13]; decide) (by rw [c13]; decide) (by rw [c13]; decide) (by decide) ?_
                              refine lv_aload_n hx hb dX10_count_93 rfl (lv_at hl 0 rfl) ?_
                              refine pg_gR C hH fl_X10_13 hf dX10_count_94 (fun v94 hf => ?_)
                              refine lv_bipush (v := (11 : Int32)) hx hb dX10_count_97 (by decide) ?_
                              refine pg_aI C hH hf dX10_count_99 (fun v99 hf => ?_)
                              exact pg_iret C hr hH hf dX10_count_100
                            · have hf := (if_neg c13).symm.trans hf
                              refine lv_tableOut (tgt := 101) hx hb dX10_count_6 (by have q0 := tb_n (v := 0) (by decide) c0; have q1 := tb_n (v := 1) (by decide) c1; have q2 := tb_n (v := 2) (by decide) c2; have q3 := tb_n (v := 3) (by decide) c3; have q4 := tb_n (v := 4) (by decide) c4; have q5 := tb_n (v := 5) (by decide) c5; have q6 := tb_n (v := 6) (by decide) c6; have q7 := tb_n (v := 7) (by decide) c7; have q8 := tb_n (v := 8) (by decide) c8; have q9 := tb_n (v := 9) (by decide) c9; have q10 := tb_n (v := 10) (by decide) c10; have q11 := tb_n (v := 11) (by decide) c11; have q12 := tb_n (v := 12) (by decide) c12; have q13 := tb_n (v := 13) (by decide) c13; omega) (by decide) ?_
                              refine lv_iconst (v := (-1 : Int32)) hx hb dX10_count_101 (by decide) ?_
                              exact pg_iret C hr hH hf dX10_count_102
end WK5
