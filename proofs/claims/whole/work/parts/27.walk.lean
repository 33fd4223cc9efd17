/-! ===== 27: walks (by program) ===== -/
section WK7
variable {p : Program} {l : Launch} {e : Env} {s : State} {m : MethodId} {args : Array Value} {below : List Frame} {meth : Method} {c : Code} {g : GD}
set_option maxHeartbeats 4000000 in
set_option maxRecDepth 100000 in
theorem c_X10_isOf {l : Launch} {g : GD} {h : PH} {a0 : Nat} {x1 : Int32} {x2 : Int32} {x3 : Int32} {r : Int32} {h' : PH} (hf : mX10_isOf h a0 x1 x2 x3 = some (r, h')) : Met l yX10_isOf (Cond.code yX10_isOf cX10_isOf 4 (some .boolean) :: TB) (rmD 3 0 0) (PcH g [.ref (gB g + a0), .int x1, .int x2, .int x3] h) (QcI g r h') 0 0 (aB g) := by
  refine Met.ofW (cc := cX10_isOf) (maxL := 4) (ret := some .boolean) (by decide) rfl ?_
  intro p e s m args below meth c s₁ B hml hv
  obtain ⟨rfl, hH0, hkk0⟩ := hv
  have C : CT g RX10 cX10_isOf 4 (Cond.code yX10_isOf cX10_isOf 4 (some .boolean) :: TB) p s m _ meth c := pg_ct (Tw := []) B hml hH0 hkk0
  have hr := B.returns
  have hH : HS g s s.heap [] h := ⟨hH0, va_S.rf⟩
  have hl := lv_entry ([.ref (gB g + a0), .int x1, .int x2, .int x3]) (n := 4) (Nat.le_of_ble_eq_true rfl)
  rw [lg_entry_eq]
  generalize (lg_sl ([.ref (gB g + a0), .int x1, .int x2, .int x3]) ++ List.replicate (4 - (lg_sl ([.ref (gB g + a0), .int x1, .int x2, .int x3])).length) Slot.unset).toArray = ls at hl ⊢
  have hl : lv_has ls 4 [(0, .ref (gB g + a0)), (1, .int x1), (2, .int x2), (3, .int x3)] := hl
  show W p l e (rmD 3 0 0) _ _ _ _ _ _ _ _ _ _ _ _
  unfold mX10_isOf at hf
  obtain ⟨hO, hf⟩ := oO_sp hf
  obtain ⟨⟨hx, hb, hml, hown, hts⟩, htb, hlk, hkk, hbs⟩ := id C
  refine lv_iload_n hx hb dX10_isOf_0 rfl (lv_at hl 3 rfl) ?_
  refine lv_iconst (v := (3 : Int32)) hx hb dX10_isOf_1 (by decide) ?_
  refine lv_icmp_ne (tgt := 38) hx hb dX10_isOf_2 (by decide) (fun cn => ?_) (fun cn => ?_)
  · have hf := (if_neg cn).symm.trans hf
    refine lv_aload_n hx hb dX10_isOf_38 rfl (lv_at hl 0 rfl) ?_
    refine lv_iload_n hx hb dX10_isOf_39 rfl (lv_at hl 1 rfl) ?_
    refine lv_iload_n hx hb dX10_isOf_40 rfl (lv_at hl 2 rfl) ?_
    refine pg_Vi (As := [.int x1, .int x2]) C hH mi_X10_likeSales vl_X10_350 (q := (RX10, TX10, 34)) (ci := 10) rfl rfl hf (fun _ e1 => (oO_sp e1).1) (fun _ _ e1 => c_X10_likeSales e1) rfl rfl hl.1 (Nat.le_of_ble_eq_true rfl) ⟨Nat.le_of_ble_eq_true rfl, Nat.le_of_ble_eq_true rfl⟩ ⟨Nat.zero_le _, Nat.zero_le _⟩ dX10_isOf_41 (fun H locs v41 h41 hH hf => ?_)
    refine lv_iload_n hx hb dX10_isOf_44 rfl (lv_at hl 3 rfl) ?_
    refine lv_icmp_ne (tgt := 61) hx hb dX10_isOf_45 (by decide) (fun cn => ?_) (fun cn => ?_)
    · have hf := (if_neg cn).symm.trans hf
      refine lv_iconst (v := (0 : Int32)) hx hb dX10_isOf_61 (by decide) ?_
      exact pg_zret C hr hH hf dX10_isOf_62
    · have hf := (if_pos cn).symm.trans hf
      refine lv_aload_n hx hb dX10_isOf_48 rfl (lv_at hl 0 rfl) ?_
      refine lv_iload_n hx hb dX10_isOf_49 rfl (lv_at hl 1 rfl) ?_
      refine lv_iload_n hx hb dX10_isOf_50 rfl (lv_at hl 2 rfl) ?_
      refine pg_Vi (As := [.int x1, .int x2]) C hH mi_X10_isNearDay vl_X10_353 (q := (RX10, TX10, 34)) (ci := 10) rfl rfl hf (fun _ e1 => (oO_sp e1).1) (fun _ _ e1 => c_X10_isNearDay e1) rfl rfl hl.1 (Nat.le_of_ble_eq_true rfl) ⟨Nat.le_of_ble_eq_true rfl, Nat.le_of_ble_eq_true rfl⟩ ⟨Nat.zero_le _, Nat.zero_le _⟩ dX10_isOf_51 (fun H locs v51 h51 hH hf => ?_)
      refine lv_if_eq (tgt := 61) hx hb dX10_isOf_54 (by decide) (fun cn => ?_) (fun cn => ?_)
      · have hf := (if_pos cn).symm.trans hf
        refine lv_iconst (v := (0 : Int32)) hx hb dX10_isOf_61 (by decide) ?_
        exact pg_zret C hr hH hf dX10_isOf_62
      · have hf := (if_neg cn).symm.trans hf
        refine lv_iconst (v := (1 : Int32)) hx hb dX10_isOf_57 (by decide) ?_
        refine lv_goto (tgt := 62) hx hb dX10_isOf_58 (by decide) ?_
        exact pg_zret C hr hH hf dX10_isOf_62
  · have hf := (if_pos cn).symm.trans hf
    refine lv_aload_n hx hb dX10_isOf_5 rfl (lv_at hl 0 rfl) ?_
    refine lv_aload_n hx hb dX10_isOf_6 rfl (lv_at hl 0 rfl) ?_
    refine lv_iload_n hx hb dX10_isOf_7 rfl (lv_at hl 1 rfl) ?_
    refine lv_iconst (v := (0 : Int32)) hx hb dX10_isOf_8 (by decide) ?_
    refine pg_Vi (As := [.int x1, .int (0 : Int32)]) C hH mi_X10_of vl_X10_281 (q := (RX10, TX10, 34)) (ci := 10) rfl rfl hf (fun _ e1 => (oO_sp e1).1) (fun _ _ e1 => c_X10_of e1) rfl rfl hl.1 (Nat.le_of_ble_eq_true rfl) ⟨Nat.le_of_ble_eq_true rfl, Nat.le_of_ble_eq_true rfl⟩ ⟨Nat.zero_le _, Nat.zero_le _⟩ dX10_isOf_9 (fun H locs v9 h9 hH hf => ?_)
    refine lv_iconst (v := (0 : Int32)) hx hb dX10_isOf_12 (by decide) ?_
    refine pg_Vi (As := [.int v9, .int (0 : Int32)]) C hH mi_X10_good vl_X10_298 (q := (RX10, TX10, 34)) (ci := 10) rfl rfl hf (fun _ e1 => (oO_sp e1).1) (fun _ _ e1 => c_X10_good e1) rfl rfl hl.1 (Nat.le_of_ble_eq_true rfl) ⟨Nat.le_of_ble_eq_true rfl, Nat.le_of_ble_eq_true rfl⟩ ⟨Nat.zero_le _, Nat.zero_le _⟩ dX10_isOf_13 (fun H locs v13 h13 hH hf => ?_)
    refine lv_aload_n hx hb dX10_isOf_16 rfl (lv_at hl 0 rfl) ?_
    refine lv_aload_n hx hb dX10_isOf_17 rfl (lv_at hl 0 rfl) ?_
    refine lv_iload_n hx hb dX10_isOf_18 rfl (lv_at hl 2 rfl) ?_
    refine lv_iconst (v := (0 : Int32)) hx hb dX10_isOf_19 (by decide) ?_
    refine pg_Vi (As := [.int x2, .int (0 : Int32)]) C hH mi_X10_of vl_X10_281 (q := (RX10, TX10, 34)) (ci := 10) rfl rfl hf (fun _ e1 => (oO_sp e1).1) (fun _ _ e1 => c_X10_of e1) rfl rfl hl.1 (Nat.le_of_ble_eq_true rfl) ⟨Nat.le_of_ble_eq_true rfl, Nat.le_of_ble_eq_true rfl⟩ ⟨Nat.zero_le _, Nat.zero_le _⟩ dX10_isOf_20 (fun H locs v20 h20 hH hf => ?_)
    refine lv_iconst (v := (0 : Int32)) hx hb dX10_isOf_23 (by decide) ?_
    refine pg_Vi (As := [.int v20, .int (0 : Int32)]) C hH mi_X10_good vl_X10_298 (q := (RX10, TX10, 34)) (ci := 10) rfl rfl hf (fun _ e1 => (oO_sp e1).1) (fun _ _ e1 => c_X10_good e1) rfl rfl hl.1 (Nat.le_of_ble_eq_true rfl) ⟨Nat.le_of_ble_eq_true rfl, Nat.le_of_ble_eq_true rfl⟩ ⟨Nat.zero_le _, Nat.zero_le _⟩ dX10_isOf_24 (fun H locs v24 h24 hH hf => ?_)
    refine lv_icmp_ne (tgt := 34) hx hb dX10_isOf_27 (by decide) (fun cn => ?_) (fun cn => ?_)
    · have hf := (if_neg cn).symm.trans hf
      refine lv_iconst (v := (0 : Int32)) hx hb dX10_isOf_34 (by decide) ?_
      refine lv_goto (tgt := 62) hx hb dX10_isOf_35 (by decide) ?_
      exact pg_zret C hr hH hf dX10_isOf_62
    · have hf := (if_pos cn).symm.trans hf
      refine lv_iconst (v := (1 : Int32)) hx hb dX10_isOf_30 (by decide) ?_
      refine lv_goto (tgt := 62) hx hb dX10_isOf_31 (by decide) ?_
      exact pg_zret C hr hH hf dX10_isOf_62
set_option maxHeartbeats 4000000 in
set_option maxRecDepth 100000 in
theorem wX10_byOthers_b151 {r13 : PH → Nat → Int32 → Int32 → Int32 → Int64 → Int32 → Int32 → Option (Int64 × PH)} {r : Int64} {h' : PH} (C : CT g RX10 cX10_byOthers 11 (Cond.code yX10_byOthers cX10_byOthers 11 (some .long) :: TB) p s m args meth c) (hr : meth.sig.returnType = some .long) (k13 : ∀ {h : PH} {a0 : Nat} {x1 : Int32} {x2 : Int32} {x3 : Int32} {x4 : Int64} {x6 : Int32} {x7 : Int32} {H : Heap} {locs : List Loc} {ls : Array Slot}, HS g s H locs h → r13 h a0 x1 x2 x3 x4 x6 x7 = some (r, h') → lv_has ls 11 [(0, .ref (gB g + a0)), (1, .int x1), (2, .int x2), (3, .int x3), (4, .long x4), (6, .int x6), (7, .int x7)] → W p l e (rmD 11 0 0) s m args below meth c H locs 0 0 (MQ below (QcL g r h') args s 0 0 (aB g)) (F0 m 13 ls [])) {h : PH} {a0 : Nat} {x1 : Int32} {x2 : Int32} {x4 : Int64} {x6 : Int32} {x7 : Int32} {H : Heap} {locs : List Loc} {ls : Array Slot} (hH : HS g s H locs h) (hf : mX10_byOthers_b151 r13 h a0 x1 x2 x4 x6 x7 = some (r, h')) (hl : lv_has ls 11 [(0, .ref (gB g + a0)), (1, .int x1), (2, .int x2), (4, .long x4), (6, .int x6), (7, .int x7)]) : W p l e (rmD 11 0 0) s m args below meth c H locs 0 0 (MQ below (QcL g r h') args s 0 0 (aB g)) (F0 m 151 ls []) := by
  obtain ⟨⟨hx, hb, hml, hown, hts⟩, htb, hlk, hkk, hbs⟩ := id C
  unfold mX10_byOthers_b151 at hf
  refine lv_iconst (v := (1 : Int32)) hx hb dX10_byOthers_151 (by decide) ?_
  refine lv_goto (tgt := 156) hx hb dX10_byOthers_152 (by decide) ?_
  refine lv_istore_n (lv' := [(3, .int (1 : Int32)), (0, .ref (gB g + a0)), (1, .int x1), (2, .int x2), (4, .long x4), (6, .int x6), (7, .int x7)]) hx hb dX10_byOthers_156 rfl hl (by decide) rfl (fun ls hl => ?_)
  refine lv_iinc (v := (x7 + 1)) (lv' := [(7, .int (x7 + 1)), (3, .int (1 : Int32)), (0, .ref (gB g + a0)), (1, .int x1), (2, .int x2), (4, .long x4), (6, .int x6)]) hx hb dX10_byOthers_157 hl (k := 6) rfl rfl (by decide) rfl (fun ls hl => ?_)
  refine lv_goto (tgt := 13) hx hb dX10_byOthers_160 (by decide) ?_
  exact k13 hH hf (lv_sub hl [2, 3, 4, 1, 5, 6, 0] rfl)
set_option maxHeartbeats 4000000 in
set_option maxRecDepth 100000 in
theorem wX10_byOthers_b142 {r13 : PH → Nat → Int32 → Int32 → Int32 → Int64 → Int32 → Int32 → Option (Int64 × PH)} {r : Int64} {h' : PH} (C : CT g RX10 cX10_byOthers 11 (Cond.code yX10_byOthers cX10_byOthers 11 (some .long) :: TB) p s m args meth c) (hr : meth.sig.returnType = some .long) (k13 : ∀ {h : PH} {a0 : Nat} {x1 : Int32} {x2 : Int32} {x3 : Int32} {x4 : Int64} {x6 : Int32} {x7 : Int32} {H : Heap} {locs : List Loc} {ls : Array Slot}, HS g s H locs h → r13 h a0 x1 x2 x3 x4 x6 x7 = some (r, h') → lv_has ls 11 [(0, .ref (gB g + a0)), (1, .int x1), (2, .int x2), (3, .int x3), (4, .long x4), (6, .int x6), (7, .int x7)] → W p l e (rmD 11 0 0) s m args below meth c H locs 0 0 (MQ below (QcL g r h') args s 0 0 (aB g)) (F0 m 13 ls [])) {h : PH} {a0 : Nat} {x1 : Int32} {x2 : Int32} {x3 : Int32} {x4 : Int64} {x6 : Int32} {x7 : Int32} {x8 : Int32} {H : Heap} {locs : List Loc} {ls : Array Slot} (hH : HS g s H locs h) (hf : mX10_byOthers_b142 r13 h a0 x1 x2 x3 x4 x6 x7 x8 = some (r, h')) (hl : lv_has ls 11 [(0, .ref (gB g + a0)), (1, .int x1), (2, .int x2), (3, .int x3), (4, .long x4), (6, .int x6), (7, .int x7), (8, .int x8)]) : W p l e (rmD 11 0 0) s m args below meth c H locs 0 0 (MQ below (QcL g r h') args s 0 0 (aB g)) (F0 m 142 ls []) := by
  obtain ⟨⟨hx, hb, hml, hown, hts⟩, htb, hlk, hkk, hbs⟩ := id C
  unfold mX10_byOthers_b142 at hf
  refine lv_iload_n hx hb dX10_byOthers_142 rfl (lv_at hl 3 rfl) ?_
  refine lv_if_ne (tgt := 151) hx hb dX10_byOthers_143 (by decide) (fun cn => ?_) (fun cn => ?_)
  · have hf := (if_neg cn).symm.trans hf
    exact wX10_byOthers_b151 C hr k13 hH hf (lv_sub hl [0, 1, 2, 4, 5, 6] rfl)
  · have hf := (if_pos cn).symm.trans hf
    refine lv_iload hx hb dX10_byOthers_146 (lv_at hl 7 rfl) ?_
    refine lv_if_eq (tgt := 155) hx hb dX10_byOthers_148 (by decide) (fun cn => ?_) (fun cn => ?_)
    · have hf := (if_pos cn).symm.trans hf
      refine lv_iconst (v := (0 : Int32)) hx hb dX10_byOthers_155 (by decide) ?_
      refine lv_istore_n (lv' := [(3, .int (0 : Int32)), (0, .ref (gB g + a0)), (1, .int x1), (2, .int x2), (4, .long x4), (6, .int x6), (7, .int x7), (8, .int x8)]) hx hb dX10_byOthers_156 rfl hl (by decide) rfl (fun ls hl => ?_)
      refine lv_iinc (v := (x7 + 1)) (lv' := [(7, .int (x7 + 1)), (3, .int (0 : Int32)), (0, .ref (gB g + a0)), (1, .int x1), (2, .int x2), (4, .long x4), (6, .int x6), (8, .int x8)]) hx hb dX10_byOthers_157 hl (k := 6) rfl rfl (by decide) rfl (fun ls hl => ?_)
      refine lv_goto (tgt := 13) hx hb dX10_byOthers_160 (by decide) ?_
      exact k13 hH hf (lv_sub hl [2, 3, 4, 1, 5, 6, 0] rfl)
    · have hf := (if_neg cn).symm.trans hf
      exact wX10_byOthers_b151 C hr k13 hH hf (lv_sub hl [0, 1, 2, 4, 5, 6] rfl)
set_option maxHeartbeats 4000000 in
set_option maxRecDepth 100000 in
theorem wX10_byOthers_b134 {r13 : PH → Nat → Int32 → Int32 → Int32 → Int64 → Int32 → Int32 → Option (Int64 × PH)} {r : Int64} {h' : PH} (C : CT g RX10 cX10_byOthers 11 (Cond.code yX10_byOthers cX10_byOthers 11 (some .long) :: TB) p s m args meth c) (hr : meth.sig.returnType = some .long) (k13 : ∀ {h : PH} {a0 : Nat} {x1 : Int32} {x2 : Int32} {x3 : Int32} {x4 : Int64} {x6 : Int32} {x7 : Int32} {H : Heap} {locs : List Loc} {ls : Array Slot}, HS g s H locs h → r13 h a0 x1 x2 x3 x4 x6 x7 = some (r, h') → lv_has ls 11 [(0, .ref (gB g + a0)), (1, .int x1), (2, .int x2), (3, .int x3), (4, .long x4), (6, .int x6), (7, .int x7)] → W p l e (rmD 11 0 0) s m args below meth c H locs 0 0 (MQ below (QcL g r h') args s 0 0 (aB g)) (F0 m 13 ls [])) {h : PH} {a0 : Nat} {x1 : Int32} {x2 : Int32} {x3 : Int32} {x7 : Int32} {x8 : Int32} {x9 : Int64} {H : Heap} {locs : List Loc} {ls : Array Slot} (hH : HS g s H locs h) (hf : mX10_byOthers_b134 r13 h a0 x1 x2 x3 x7 x8 x9 = some (r, h')) (hl : lv_has ls 11 [(0, .ref (gB g + a0)), (1, .int x1), (2, .int x2), (3, .int x3), (7, .int x7), (8, .int x8), (9, .long x9)]) : W p l e (rmD 11 0 0) s m args below meth c H locs 0 0 (MQ below (QcL g r h') args s 0 0 (aB g)) (F0 m 134 ls []) := by
  obtain ⟨⟨hx, hb, hml, hown, hts⟩, htb, hlk, hkk, hbs⟩ := id C
  unfold mX10_byOthers_b134 at hf
  refine lv_lload hx hb dX10_byOthers_134 (lv_at hl 6 rfl) ?_
  refine lv_lstore (lv' := [(4, .long x9), (0, .ref (gB g + a0)), (1, .int x1), (2, .int x2), (3, .int x3), (7, .int x7), (8, .int x8), (9, .long x9)]) hx hb dX10_byOthers_136 hl (by decide) rfl (fun ls hl => ?_)
  refine lv_iload hx hb dX10_byOthers_138 (lv_at hl 5 rfl) ?_
  refine lv_istore (lv' := [(6, .int x7), (4, .long x9), (0, .ref (gB g + a0)), (1, .int x1), (2, .int x2), (3, .int x3), (7, .int x7), (8, .int x8), (9, .long x9)]) hx hb dX10_byOthers_140 hl (by decide) rfl (fun ls hl => ?_)
  exact wX10_byOthers_b142 C hr k13 hH hf (lv_sub hl [2, 3, 4, 5, 1, 0, 6, 7] rfl)
set_option maxHeartbeats 4000000 in
set_option maxRecDepth 100000 in
theorem wX10_byOthers_b126 {r13 : PH → Nat → Int32 → Int32 → Int32 → Int64 → Int32 → Int32 → Option (Int64 × PH)} {r : Int64} {h' : PH} (C : CT g RX10 cX10_byOthers 11 (Cond.code yX10_byOthers cX10_byOthers 11 (some .long) :: TB) p s m args meth c) (hr : meth.sig.returnType = some .long) (k13 : ∀ {h : PH} {a0 : Nat} {x1 : Int32} {x2 : Int32} {x3 : Int32} {x4 : Int64} {x6 : Int32} {x7 : Int32} {H : Heap} {locs : List Loc} {ls : Array Slot}, HS g s H locs h → r13 h a0 x1 x2 x3 x4 x6 x7 = some (r, h') → lv_has ls 11 [(0, .ref (gB g + a0)), (1, .int x1), (2, .int x2), (3, .int x3), (4, .long x4), (6, .int x6), (7, .int x7)] → W p l e (rmD 11 0 0) s m args below meth c H locs 0 0 (MQ below (QcL g r h') args s 0 0 (aB g)) (F0 m 13 ls [])) {h : PH} {a0 : Nat} {x1 : Int32} {x2 : Int32} {x3 : Int32} {x4 : Int64} {x6 : Int32} {x7 : Int32} {x8 : Int32} {x9 : Int64} {H : Heap} {locs : List Loc} {ls : Array Slot} (hH : HS g s H locs h) (hf : mX10_byOthers_b126 r13 h a0 x1 x2 x3 x4 x6 x7 x8 x9 = some (r, h')) (hl : lv_has ls 11 [(0, .ref (gB g + a0)), (1, .int x1), (2, .int x2), (3, .int x3), (4, .long x4), (6, .int x6), (7, .int x7), (8, .int x8), (9, .long x9)]) : W p l e (rmD 11 0 0) s m args below meth c H locs 0 0 (MQ below (QcL g r h') args s 0 0 (aB g)) (F0 m 126 ls []) := by
  obtain ⟨⟨hx, hb, hml, hown, hts⟩, htb, hlk, hkk, hbs⟩ := id C
  unfold mX10_byOthers_b126 at hf
  refine lv_lload hx hb dX10_byOthers_126 (lv_at hl 8 rfl) ?_
  refine lv_lload hx hb dX10_byOthers_128 (lv_at hl 4 rfl) ?_
  refine W.lcmp hx hb dX10_byOthers_130 ?_
  refine lv_if_ge (tgt := 142) hx hb dX10_byOthers_131 (by decide) (fun cn => ?_) (fun cn => ?_)
  · have hf := (if_pos ((lg_cmp_ge _ _).mp cn)).symm.trans hf
    exact wX10_byOthers_b142 C hr k13 hH hf (lv_sub hl [0, 1, 2, 3, 4, 5, 6, 7] rfl)
  · have hf := (if_neg (fun z => cn ((lg_cmp_ge _ _).mpr z))).symm.trans hf
    exact wX10_byOthers_b134 C hr k13 hH hf (lv_sub hl [0, 1, 2, 3, 6, 7, 8] rfl)
set_option maxHeartbeats 4000000 in
set_option maxRecDepth 100000 in
theorem wX10_byOthers_b102 {r13 : PH → Nat → Int32 → Int32 → Int32 → Int64 → Int32 → Int32 → Option (Int64 × PH)} {r : Int64} {h' : PH} (C : CT g RX10 cX10_byOthers 11 (Cond.code yX10_byOthers cX10_byOthers 11 (some .long) :: TB) p s m args meth c) (hr : meth.sig.returnType = some .long) (k13 : ∀ {h : PH} {a0 : Nat} {x1 : Int32} {x2 : Int32} {x3 : Int32} {x4 : Int64} {x6 : Int32} {x7 : Int32} {H : Heap} {locs : List Loc} {ls : Array Slot}, HS g s H locs h → r13 h a0 x1 x2 x3 x4 x6 x7 = some (r, h') → lv_has ls 11 [(0, .ref (gB g + a0)), (1, .int x1), (2, .int x2), (3, .int x3), (4, .long x4), (6, .int x6), (7, .int x7)] → W p l e (rmD 11 0 0) s m args below meth c H locs 0 0 (MQ below (QcL g r h') args s 0 0 (aB g)) (F0 m 13 ls [])) {h : PH} {a0 : Nat} {x1 : Int32} {x2 : Int32} {x3 : Int32} {x4 : Int64} {x6 : Int32} {x7 : Int32} {x8 : Int32} {H : Heap} {locs : List Loc} {ls : Array Slot} (hH : HS g s H locs h) (hf : mX10_byOthers_b102 r13 h a0 x1 x2 x3 x4 x6 x7 x8 = some (r, h')) (hl : lv_has ls 11 [(0, .ref (gB g + a0)), (1, .int x1), (2, .int x2), (3, .int x3), (4, .long x4), (6, .int x6), (7, .int x7), (8, .int x8)]) : W p l e (rmD 11 0 0) s m args below meth c H locs 0 0 (MQ below (QcL g r h') args s 0 0 (aB g)) (F0 m 102 ls []) := by
  obtain ⟨⟨hx, hb, hml, hown, hts⟩, htb, hlk, hkk, hbs⟩ := id C
  unfold mX10_byOthers_b102 at hf
  refine lv_aload_n hx hb dX10_byOthers_102 rfl (lv_at hl 0 rfl) ?_
  refine lv_iload_n hx hb dX10_byOthers_103 rfl (lv_at hl 1 rfl) ?_
  refine lv_iload hx hb dX10_byOthers_104 (lv_at hl 6 rfl) ?_
  refine pg_Vl (As := [.int x1, .int x7]) C hH mi_X10_brought vl_X10_356 (q := (RX10, TX10, 34)) (ci := 10) rfl rfl hf (fun _ e1 => (oO_sp e1).1) (fun _ _ e1 => c_X10_brought e1) rfl rfl hl.1 (Nat.le_of_ble_eq_true rfl) ⟨Nat.le_of_ble_eq_true rfl, Nat.le_of_ble_eq_true rfl⟩ ⟨Nat.zero_le _, Nat.zero_le _⟩ dX10_byOthers_106 (fun H locs v106 h106 hH hf => ?_)
  refine lv_lstore (lv' := [(9, .long v106), (0, .ref (gB g + a0)), (1, .int x1), (2, .int x2), (3, .int x3), (4, .long x4), (6, .int x6), (7, .int x7), (8, .int x8)]) hx hb dX10_byOthers_109 hl (by decide) rfl (fun ls hl => ?_)
  refine lv_iload hx hb dX10_byOthers_111 (lv_at hl 6 rfl) ?_
  refine lv_iconst (v := (-1 : Int32)) hx hb dX10_byOthers_113 (by decide) ?_
  refine lv_icmp_eq (tgt := 134) hx hb dX10_byOthers_114 (by decide) (fun cn => ?_) (fun cn => ?_)
  · have hf := (if_pos cn).symm.trans hf
    exact wX10_byOthers_b134 C hr k13 hH hf (lv_sub hl [1, 2, 3, 4, 7, 8, 0] rfl)
  · have hf := (if_neg cn).symm.trans hf
    refine lv_iload hx hb dX10_byOthers_117 (lv_at hl 8 rfl) ?_
    refine lv_if_eq (tgt := 126) hx hb dX10_byOthers_119 (by decide) (fun cn => ?_) (fun cn => ?_)
    · have hf := (if_pos cn).symm.trans hf
      exact wX10_byOthers_b126 C hr k13 hH hf (lv_sub hl [1, 2, 3, 4, 5, 6, 7, 8, 0] rfl)
    · have hf := (if_neg cn).symm.trans hf
      refine lv_iload_n hx hb dX10_byOthers_122 rfl (lv_at hl 4 rfl) ?_
      refine lv_if_eq (tgt := 134) hx hb dX10_byOthers_123 (by decide) (fun cn => ?_) (fun cn => ?_)
      · have hf := (if_pos cn).symm.trans hf
        exact wX10_byOthers_b134 C hr k13 hH hf (lv_sub hl [1, 2, 3, 4, 7, 8, 0] rfl)
      · have hf := (if_neg cn).symm.trans hf
        exact wX10_byOthers_b126 C hr k13 hH hf (lv_sub hl [1, 2, 3, 4, 5, 6, 7, 8, 0] rfl)
set_option maxHeartbeats 4000000 in
set_option maxRecDepth 100000 in
theorem wX10_byOthers_b88 {r13 : PH → Nat → Int32 → Int32 → Int32 → Int64 → Int32 → Int32 → Option (Int64 × PH)} {r : Int64} {h' : PH} (C : CT g RX10 cX10_byOthers 11 (Cond.code yX10_byOthers cX10_byOthers 11 (some .long) :: TB) p s m args meth c) (hr : meth.sig.returnType = some .long) (k13 : ∀ {h : PH} {a0 : Nat} {x1 : Int32} {x2 : Int32} {x3 : Int32} {x4 : Int64} {x6 : Int32} {x7 : Int32} {H : Heap} {locs : List Loc} {ls : Array Slot}, HS g s H locs h → r13 h a0 x1 x2 x3 x4 x6 x7 = some (r, h') → lv_has ls 11 [(0, .ref (gB g + a0)), (1, .int x1), (2, .int x2), (3, .int x3), (4, .long x4), (6, .int x6), (7, .int x7)] → W p l e (rmD 11 0 0) s m args below meth c H locs 0 0 (MQ below (QcL g r h') args s 0 0 (aB g)) (F0 m 13 ls [])) {h : PH} {a0 : Nat} {x1 : Int32} {x2 : Int32} {x3 : Int32} {x4 : Int64} {x6 : Int32} {x7 : Int32} {s0 : Int32} {H : Heap} {locs : List Loc} {ls : Array Slot} (hH : HS g s H locs h) (hf : mX10_byOthers_b88 r13 h a0 x1 x2 x3 x4 x6 x7 s0 = some (r, h')) (hl : lv_has ls 11 [(0, .ref (gB g + a0)), (1, .int x1), (2, .int x2), (3, .int x3), (4, .long x4), (6, .int x6), (7, .int x7)]) : W p l e (rmD 11 0 0) s m args below meth c H locs 0 0 (MQ below (QcL g r h') args s 0 0 (aB g)) (F0 m 88 ls [.int s0]) := by
  obtain ⟨⟨hx, hb, hml, hown, hts⟩, htb, hlk, hkk, hbs⟩ := id C
  unfold mX10_byOthers_b88 at hf
  refine lv_istore (lv' := [(8, .int s0), (0, .ref (gB g + a0)), (1, .int x1), (2, .int x2), (3, .int x3), (4, .long x4), (6, .int x6), (7, .int x7)]) hx hb dX10_byOthers_88 hl (by decide) rfl (fun ls hl => ?_)
  refine lv_iload_n hx hb dX10_byOthers_90 rfl (lv_at hl 4 rfl) ?_
  refine lv_if_eq (tgt := 102) hx hb dX10_byOthers_91 (by decide) (fun cn => ?_) (fun cn => ?_)
  · have hf := (if_pos cn).symm.trans hf
    exact wX10_byOthers_b102 C hr k13 hH hf (lv_sub hl [1, 2, 3, 4, 5, 6, 7, 0] rfl)
  · have hf := (if_neg cn).symm.trans hf
    refine lv_iload hx hb dX10_byOthers_94 (lv_at hl 0 rfl) ?_
    refine lv_if_ne (tgt := 102) hx hb dX10_byOthers_96 (by decide) (fun cn => ?_) (fun cn => ?_)
    · have hf := (if_neg cn).symm.trans hf
      exact wX10_byOthers_b102 C hr k13 hH hf (lv_sub hl [1, 2, 3, 4, 5, 6, 7, 0] rfl)
    · have hf := (if_pos cn).symm.trans hf
      refine lv_goto (tgt := 157) hx hb dX10_byOthers_99 (by decide) ?_
      refine lv_iinc (v := (x7 + 1)) (lv' := [(7, .int (x7 + 1)), (8, .int s0), (0, .ref (gB g + a0)), (1, .int x1), (2, .int x2), (3, .int x3), (4, .long x4), (6, .int x6)]) hx hb dX10_byOthers_157 hl (k := 7) rfl rfl (by decide) rfl (fun ls hl => ?_)
      refine lv_goto (tgt := 13) hx hb dX10_byOthers_160 (by decide) ?_
      exact k13 hH hf (lv_sub hl [2, 3, 4, 5, 6, 7, 0] rfl)
set_option maxHeartbeats 4000000 in
set_option maxRecDepth 100000 in
theorem wX10_byOthers_b87 {r13 : PH → Nat → Int32 → Int32 → Int32 → Int64 → Int32 → Int32 → Option (Int64 × PH)} {r : Int64} {h' : PH} (C : CT g RX10 cX10_byOthers 11 (Cond.code yX10_byOthers cX10_byOthers 11 (some .long) :: TB) p s m args meth c) (hr : meth.sig.returnType = some .long) (k13 : ∀ {h : PH} {a0 : Nat} {x1 : Int32} {x2 : Int32} {x3 : Int32} {x4 : Int64} {x6 : Int32} {x7 : Int32} {H : Heap} {locs : List Loc} {ls : Array Slot}, HS g s H locs h → r13 h a0 x1 x2 x3 x4 x6 x7 = some (r, h') → lv_has ls 11 [(0, .ref (gB g + a0)), (1, .int x1), (2, .int x2), (3, .int x3), (4, .long x4), (6, .int x6), (7, .int x7)] → W p l e (rmD 11 0 0) s m args below meth c H locs 0 0 (MQ below (QcL g r h') args s 0 0 (aB g)) (F0 m 13 ls [])) {h : PH} {a0 : Nat} {x1 : Int32} {x2 : Int32} {x3 : Int32} {x4 : Int64} {x6 : Int32} {x7 : Int32} {H : Heap} {locs : List Loc} {ls : Array Slot} (hH : HS g s H locs h) (hf : mX10_byOthers_b87 r13 h a0 x1 x2 x3 x4 x6 x7 = some (r, h')) (hl : lv_has ls 11 [(0, .ref (gB g + a0)), (1, .int x1), (2, .int x2), (3, .int x3), (4, .long x4), (6, .int x6), (7, .int x7)]) : W p l e (rmD 11 0 0) s m args below meth c H locs 0 0 (MQ below (QcL g r h') args s 0 0 (aB g)) (F0 m 87 ls []) := by
  obtain ⟨⟨hx, hb, hml, hown, hts⟩, htb, hlk, hkk, hbs⟩ := id C
  unfold mX10_byOthers_b87 at hf
  refine lv_iconst (v := (0 : Int32)) hx hb dX10_byOthers_87 (by decide) ?_
  exact wX10_byOthers_b88 C hr k13 hH hf (lv_sub hl [0, 1, 2, 3, 4, 5, 6] rfl)
set_option maxHeartbeats 4000000 in
set_option maxRecDepth 100000 in
theorem wX10_byOthers_b192 {r : Int64} {h' : PH} (C : CT g RX10 cX10_byOthers 11 (Cond.code yX10_byOthers cX10_byOthers 11 (some .long) :: TB) p s m args meth c) (hr : meth.sig.returnType = some .long) {h : PH} {s0 : Int32} {H : Heap} {locs : List Loc} {ls : Array Slot} (hH : HS g s H locs h) (hf : mX10_byOthers_b192 h s0 = some (r, h')) (hl : lv_has ls 11 []) : W p l e (rmD 11 0 0) s m args below meth c H locs 0 0 (MQ below (QcL g r h') args s 0 0 (aB g)) (F0 m 192 ls [.int s0]) := by
  obtain ⟨⟨hx, hb, hml, hown, hts⟩, htb, hlk, hkk, hbs⟩ := id C
  unfold mX10_byOthers_b192 at hf
  refine pg_Sl (As := [.int s0]) C hH mi_X10_fails sl_X10_376 hf (fun _ _ e1 => c_X10_fails e1) rfl rfl hl.1 (Nat.le_of_ble_eq_true rfl) ⟨Nat.le_of_ble_eq_true rfl, Nat.le_of_ble_eq_true rfl⟩ ⟨Nat.zero_le _, Nat.zero_le _⟩ dX10_byOthers_192 (fun H locs v192 h192 hH hf => ?_)
  refine lv_goto (tgt := 200) hx hb dX10_byOthers_195 (by decide) ?_
  exact pg_lret C hr hH hf dX10_byOthers_200
set_option maxHeartbeats 4000000 in
set_option maxRecDepth 100000 in
theorem wX10_byOthers_b13 {r13 : PH → Nat → Int32 → Int32 → Int32 → Int64 → Int32 → Int32 → Option (Int64 × PH)} {r : Int64} {h' : PH} (C : CT g RX10 cX10_byOthers 11 (Cond.code yX10_byOthers cX10_byOthers 11 (some .long) :: TB) p s m args meth c) (hr : meth.sig.returnType = some .long) (k13 : ∀ {h : PH} {a0 : Nat} {x1 : Int32} {x2 : Int32} {x3 : Int32} {x4 : Int64} {x6 : Int32} {x7 : Int32} {H : Heap} {locs : List Loc} {ls : Array Slot}, HS g s H locs h → r13 h a0 x1 x2 x3 x4 x6 x7 = some (r, h') → lv_has ls 11 [(0, .ref (gB g + a0)), (1, .int x1), (2, .int x2), (3, .int x3), (4, .long x4), (6, .int x6), (7, .int x7)] → W p l e (rmD 11 0 0) s m args below meth c H locs 0 0 (MQ below (QcL g r h') args s 0 0 (aB g)) (F0 m 13 ls [])) {h : PH} {a0 : Nat} {x1 : Int32} {x2 : Int32} {x3 : Int32} {x4 : Int64} {x6 : Int32} {x7 : Int32} {H : Heap} {locs : List Loc} {ls : Array Slot} (hH : HS g s H locs h) (hf : mX10_byOthers_b13 r13 h a0 x1 x2 x3 x4 x6 x7 = some (r, h')) (hl : lv_has ls 11 [(0, .ref (gB g + a0)), (1, .int x1), (2, .int x2), (3, .int x3), (4, .long x4), (6, .int x6), (7, .int x7)]) : W p l e (rmD 11 0 0) s m args below meth c H locs 0 0 (MQ below (QcL g r h') args s 0 0 (aB g)) (F0 m 13 ls []) := by
  obtain ⟨⟨hx, hb, hml, hown, hts⟩, htb, hlk, hkk, hbs⟩ := id C
  unfold mX10_byOthers_b13 at hf
  refine lv_iload hx hb dX10_byOthers_13 (lv_at hl 6 rfl) ?_
  refine lv_aload_n hx hb dX10_byOthers_15 rfl (lv_at hl 0 rfl) ?_
  refine pg_gR C hH fl_X10_13 hf dX10_byOthers_16 (fun v16 hf => ?_)
  refine lv_iconst (v := (3 : Int32)) hx hb dX10_byOthers_19 (by decide) ?_
  refine pg_aI C hH hf dX10_byOthers_20 (fun v20 hf => ?_)
  refine lv_icmp_ge (tgt := 163) hx hb dX10_byOthers_21 (by decide) (fun cn => ?_) (fun cn => ?_)
  · have hf := (if_pos cn).symm.trans hf
    refine lv_aload_n hx hb dX10_byOthers_163 rfl (lv_at hl 0 rfl) ?_
    refine lv_iload hx hb dX10_byOthers_164 (lv_at hl 5 rfl) ?_
    refine pg_pI C hH fl_X10_391 fm_10_28 hf dX10_byOthers_166 (fun H locs h166 hH hf => ?_)
    refine lv_iload hx hb dX10_byOthers_169 (lv_at hl 5 rfl) ?_
    refine lv_iconst (v := (-1 : Int32)) hx hb dX10_byOthers_171 (by decide) ?_
    refine lv_icmp_ne (tgt := 198) hx hb dX10_byOthers_172 (by decide) (fun cn => ?_) (fun cn => ?_)
    · have hf := (if_neg cn).symm.trans hf
      refine lv_lload hx hb dX10_byOthers_198 (lv_at hl 4 rfl) ?_
      exact pg_lret C hr hH hf dX10_byOthers_200
    · have hf := (if_pos cn).symm.trans hf
      refine lv_iload_n hx hb dX10_byOthers_175 rfl (lv_at hl 2 rfl) ?_
      refine lv_iconst (v := (3 : Int32)) hx hb dX10_byOthers_176 (by decide) ?_
      refine lv_icmp_ne (tgt := 185) hx hb dX10_byOthers_177 (by decide) (fun cn => ?_) (fun cn => ?_)
      · have hf := (if_neg cn).symm.trans hf
        refine lv_bipush (v := (10 : Int32)) hx hb dX10_byOthers_185 (by decide) ?_
        refine lv_iload_n hx hb dX10_byOthers_187 rfl (lv_at hl 2 rfl) ?_
        refine lv_imul hx hb dX10_byOthers_188 ?_
        refine lv_bipush (v := (11 : Int32)) hx hb dX10_byOthers_189 (by decide) ?_
        refine lv_iadd hx hb dX10_byOthers_191 ?_
        exact wX10_byOthers_b192 C hr hH hf (lv_sub hl [] rfl)
      · have hf := (if_pos cn).symm.trans hf
        refine lv_bipush (v := (61 : Int32)) hx hb dX10_byOthers_180 (by decide) ?_
        refine lv_goto (tgt := 192) hx hb dX10_byOthers_182 (by decide) ?_
        exact wX10_byOthers_b192 C hr hH hf (lv_sub hl [] rfl)
  · have hf := (if_neg cn).symm.trans hf
    refine lv_iload hx hb dX10_byOthers_24 (lv_at hl 6 rfl) ?_
    refine lv_iload_n hx hb dX10_byOthers_26 rfl (lv_at hl 1 rfl) ?_
    refine lv_icmp_eq (tgt := 157) hx hb dX10_byOthers_27 (by decide) (fun cn => ?_) (fun cn => ?_)
    · have hf := (if_pos cn).symm.trans hf
      refine lv_iinc (v := (x7 + 1)) (lv' := [(7, .int (x7 + 1)), (0, .ref (gB g + a0)), (1, .int x1), (2, .int x2), (3, .int x3), (4, .long x4), (6, .int x6)]) hx hb dX10_byOthers_157 hl (k := 6) rfl rfl (by decide) rfl (fun ls hl => ?_)
      refine lv_goto (tgt := 13) hx hb dX10_byOthers_160 (by decide) ?_
      exact k13 hH hf (lv_sub hl [1, 2, 3, 4, 5, 6, 0] rfl)
    · have hf := (if_neg cn).symm.trans hf
      refine lv_aload_n hx hb dX10_byOthers_30 rfl (lv_at hl 0 rfl) ?_
      refine lv_iload hx hb dX10_byOthers_31 (lv_at hl 6 rfl) ?_
      refine pg_Vi (As := [.int x7]) C hH mi_X10_isThere vl_X10_304 (q := (RX10, TX10, 34)) (ci := 10) rfl rfl hf (fun _ e1 => (oO_sp e1).1) (fun _ _ e1 => c_X10_isThere e1) rfl rfl hl.1 (Nat.le_of_ble_eq_true rfl) ⟨Nat.le_of_ble_eq_true rfl, Nat.le_of_ble_eq_true rfl⟩ ⟨Nat.zero_le _, Nat.zero_le _⟩ dX10_byOthers_33 (fun H locs v33 h33 hH hf => ?_)
      refine lv_if_eq (tgt := 157) hx hb dX10_byOthers_36 (by decide) (fun cn => ?_) (fun cn => ?_)
      · have hf := (if_pos cn).symm.trans hf
        refine lv_iinc (v := (x7 + 1)) (lv' := [(7, .int (x7 + 1)), (0, .ref (gB g + a0)), (1, .int x1), (2, .int x2), (3, .int x3), (4, .long x4), (6, .int x6)]) hx hb dX10_byOthers_157 hl (k := 6) rfl rfl (by decide) rfl (fun ls hl => ?_)
        refine lv_goto (tgt := 13) hx hb dX10_byOthers_160 (by decide) ?_
        exact k13 hH hf (lv_sub hl [1, 2, 3, 4, 5, 6, 0] rfl)
      · have hf := (if_neg cn).symm.trans hf
        refine lv_aload_n hx hb dX10_byOthers_39 rfl (lv_at hl 0 rfl) ?_
        refine lv_iload_n hx hb dX10_byOthers_40 rfl (lv_at hl 1 rfl) ?_
        refine lv_iload hx hb dX10_byOthers_41 (lv_at hl 6 rfl) ?_
        refine lv_iload_n hx hb dX10_byOthers_43 rfl (lv_at hl 2 rfl) ?_
        refine pg_Vi (As := [.int x1, .int x7, .int x2]) C hH mi_X10_isOf vl_X10_384 (q := (RX10, TX10, 34)) (ci := 10) rfl rfl hf (fun _ e1 => (oO_sp e1).1) (fun _ _ e1 => c_X10_isOf e1) rfl rfl hl.1 (Nat.le_of_ble_eq_true rfl) ⟨Nat.le_of_ble_eq_true rfl, Nat.le_of_ble_eq_true rfl⟩ ⟨Nat.zero_le _, Nat.zero_le _⟩ dX10_byOthers_44 (fun H locs v44 h44 hH hf => ?_)
        refine lv_if_eq (tgt := 157) hx hb dX10_byOthers_47 (by decide) (fun cn => ?_) (fun cn => ?_)
        · have hf := (if_pos cn).symm.trans hf
          refine lv_iinc (v := (x7 + 1)) (lv' := [(7, .int (x7 + 1)), (0, .ref (gB g + a0)), (1, .int x1), (2, .int x2), (3, .int x3), (4, .long x4), (6, .int x6)]) hx hb dX10_byOthers_157 hl (k := 6) rfl rfl (by decide) rfl (fun ls hl => ?_)
          refine lv_goto (tgt := 13) hx hb dX10_byOthers_160 (by decide) ?_
          exact k13 hH hf (lv_sub hl [1, 2, 3, 4, 5, 6, 0] rfl)
        · have hf := (if_neg cn).symm.trans hf
          refine lv_aload_n hx hb dX10_byOthers_50 rfl (lv_at hl 0 rfl) ?_
          refine lv_iload hx hb dX10_byOthers_51 (lv_at hl 6 rfl) ?_
          refine pg_Vl (As := [.int x7]) C hH mi_X10_byOwn vl_X10_388 (q := (RX10, TX10, 34)) (ci := 10) rfl rfl hf (fun _ e1 => (oO_sp e1).1) (fun _ _ e1 => c_X10_byOwn e1) rfl rfl hl.1 (Nat.le_of_ble_eq_true rfl) ⟨Nat.le_of_ble_eq_true rfl, Nat.le_of_ble_eq_true rfl⟩ ⟨Nat.zero_le _, Nat.zero_le _⟩ dX10_byOthers_53 (fun H locs v53 h53 hH hf => ?_)
          refine lv_lconst (v := (0 : Int64)) hx hb dX10_byOthers_56 (by decide) ?_
          refine W.lcmp hx hb dX10_byOthers_57 ?_
          refine lv_if_ge (tgt := 64) hx hb dX10_byOthers_58 (by decide) (fun cn => ?_) (fun cn => ?_)
          · have hf := (if_pos ((lg_cmp_ge _ _).mp cn)).symm.trans hf
            refine lv_iload_n hx hb dX10_byOthers_64 rfl (lv_at hl 2 rfl) ?_
            refine lv_iconst (v := (3 : Int32)) hx hb dX10_byOthers_65 (by decide) ?_
            refine lv_icmp_ge (tgt := 87) hx hb dX10_byOthers_66 (by decide) (fun cn => ?_) (fun cn => ?_)
            · have hf := (if_pos cn).symm.trans hf
              exact wX10_byOthers_b87 C hr k13 hH hf (lv_sub hl [0, 1, 2, 3, 4, 5, 6] rfl)
            · have hf := (if_neg cn).symm.trans hf
              refine lv_aload_n hx hb dX10_byOthers_69 rfl (lv_at hl 0 rfl) ?_
              refine lv_iload_n hx hb dX10_byOthers_70 rfl (lv_at hl 1 rfl) ?_
              refine pg_Vi (As := [.int x1]) C hH mi_X10_levelOf vl_X10_285 (q := (RX10, TX10, 34)) (ci := 10) rfl rfl hf (fun _ e1 => (oO_sp e1).1) (fun _ _ e1 => c_X10_levelOf e1) rfl rfl hl.1 (Nat.le_of_ble_eq_true rfl) ⟨Nat.le_of_ble_eq_true rfl, Nat.le_of_ble_eq_true rfl⟩ ⟨Nat.zero_le _, Nat.zero_le _⟩ dX10_byOthers_71 (fun H locs v71 h71 hH hf => ?_)
              refine lv_aload_n hx hb dX10_byOthers_74 rfl (lv_at hl 0 rfl) ?_
              refine lv_iload hx hb dX10_byOthers_75 (lv_at hl 6 rfl) ?_
              refine pg_Vi (As := [.int x7]) C hH mi_X10_levelOf vl_X10_285 (q := (RX10, TX10, 34)) (ci := 10) rfl rfl hf (fun _ e1 => (oO_sp e1).1) (fun _ _ e1 => c_X10_levelOf e1) rfl rfl hl.1 (Nat.le_of_ble_eq_true rfl) ⟨Nat.le_of_ble_eq_true rfl, Nat.le_of_ble_eq_true rfl⟩ ⟨Nat.zero_le _, Nat.zero_le _⟩ dX10_byOthers_77 (fun H locs v77 h77 hH hf => ?_)
              refine lv_icmp_ne (tgt := 87) hx hb dX10_byOthers_80 (by decide) (fun cn => ?_) (fun cn => ?_)
              · have hf := (if_neg cn).symm.trans hf
                exact wX10_byOthers_b87 C hr k13 hH hf (lv_sub hl [0, 1, 2, 3, 4, 5, 6] rfl)
              · have hf := (if_pos cn).symm.trans hf
                refine lv_iconst (v := (1 : Int32)) hx hb dX10_byOthers_83 (by decide) ?_
                refine lv_goto (tgt := 88) hx hb dX10_byOthers_84 (by decide) ?_
                exact wX10_byOthers_b88 C hr k13 hH hf (lv_sub hl [0, 1, 2, 3, 4, 5, 6] rfl)
          · have hf := (if_neg (fun z => cn ((lg_cmp_ge _ _).mpr z))).symm.trans hf
            refine lv_goto (tgt := 157) hx hb dX10_byOthers_61 (by decide) ?_
            refine lv_iinc (v := (x7 + 1)) (lv' := [(7, .int (x7 + 1)), (0, .ref (gB g + a0)), (1, .int x1), (2, .int x2), (3, .int x3), (4, .long x4), (6, .int x6)]) hx hb dX10_byOthers_157 hl (k := 6) rfl rfl (by decide) rfl (fun ls hl => ?_)
            refine lv_goto (tgt := 13) hx hb dX10_byOthers_160 (by decide) ?_
            exact k13 hH hf (lv_sub hl [1, 2, 3, 4, 5, 6, 0] rfl)
set_option maxHeartbeats 4000000 in
set_option maxRecDepth 100000 in
theorem wX10_byOthers_L13 {r : Int64} {h' : PH} (C : CT g RX10 cX10_byOthers 11 (Cond.code yX10_byOthers cX10_byOthers 11 (some .long) :: TB) p s m args meth c) (hr : meth.sig.returnType = some .long) : ∀ (n : Nat) {h : PH} {a0 : Nat} {x1 : Int32} {x2 : Int32} {x3 : Int32} {x4 : Int64} {x6 : Int32} {x7 : Int32} {H : Heap} {locs : List Loc} {ls : Array Slot}, HS g s H locs h → mX10_byOthers_L13 n h a0 x1 x2 x3 x4 x6 x7 = some (r, h') → lv_has ls 11 [(0, .ref (gB g + a0)), (1, .int x1), (2, .int x2), (3, .int x3), (4, .long x4), (6, .int x6), (7, .int x7)] → W p l e (rmD 11 0 0) s m args below meth c H locs 0 0 (MQ below (QcL g r h') args s 0 0 (aB g)) (F0 m 13 ls []) := by
  intro n
  induction n with
  | zero =>
    intro h a0 x1 x2 x3 x4 x6 x7 H locs ls hH hf hl
    exact absurd hf (by intro z; cases z)
  | succ n ih =>
    intro h a0 x1 x2 x3 x4 x6 x7 H locs ls hH hf hl
    have hf : mX10_byOthers_b13 (mX10_byOthers_L13 n) h a0 x1 x2 x3 x4 x6 x7 = some (r, h') := hf
    exact wX10_byOthers_b13 C hr (fun a b c => ih a b c) hH hf hl
set_option maxHeartbeats 4000000 in
set_option maxRecDepth 100000 in
theorem c_X10_byOthers {l : Launch} {g : GD} {h : PH} {a0 : Nat} {x1 : Int32} {x2 : Int32} {r : Int64} {h' : PH} (hf : mX10_byOthers h a0 x1 x2 = some (r, h')) : Met l yX10_byOthers (Cond.code yX10_byOthers cX10_byOthers 11 (some .long) :: TB) (rmD 11 0 0) (PcH g [.ref (gB g + a0), .int x1, .int x2] h) (QcL g r h') 0 0 (aB g) := by
  refine Met.ofW (cc := cX10_byOthers) (maxL := 11) (ret := some .long) (by decide) rfl ?_
  intro p e s m args below meth c s₁ B hml hv
  obtain ⟨rfl, hH0, hkk0⟩ := hv
  have C : CT g RX10 cX10_byOthers 11 (Cond.code yX10_byOthers cX10_byOthers 11 (some .long) :: TB) p s m _ meth c := pg_ct (Tw := []) B hml hH0 hkk0
  have hr := B.returns
  have hH : HS g s s.heap [] h := ⟨hH0, va_S.rf⟩
  have hl := lv_entry ([.ref (gB g + a0), .int x1, .int x2]) (n := 11) (Nat.le_of_ble_eq_true rfl)
  rw [lg_entry_eq]
  generalize (lg_sl ([.ref (gB g + a0), .int x1, .int x2]) ++ List.replicate (11 - (lg_sl ([.ref (gB g + a0), .int x1, .int x2])).length) Slot.unset).toArray = ls at hl ⊢
  have hl : lv_has ls 11 [(0, .ref (gB g + a0)), (1, .int x1), (2, .int x2)] := hl
  show W p l e (rmD 11 0 0) _ _ _ _ _ _ _ _ _ _ _ _
  unfold mX10_byOthers at hf
  obtain ⟨hO, hf⟩ := oO_sp hf
  obtain ⟨⟨hx, hb, hml, hown, hts⟩, htb, hlk, hkk, hbs⟩ := id C
  refine lv_iconst (v := (0 : Int32)) hx hb dX10_byOthers_0 (by decide) ?_
  refine lv_istore_n (lv' := [(3, .int (0 : Int32)), (0, .ref (gB g + a0)), (1, .int x1), (2, .int x2)]) hx hb dX10_byOthers_1 rfl hl (by decide) rfl (fun ls hl => ?_)
  refine lv_ldc2 (v := (-2 : Int64)) hx hb hown (hts _ (htb _ kl_X10_382)) dX10_byOthers_2 ?_
  refine lv_lstore (lv' := [(4, .long (-2 : Int64)), (3, .int (0 : Int32)), (0, .ref (gB g + a0)), (1, .int x1), (2, .int x2)]) hx hb dX10_byOthers_5 hl (by decide) rfl (fun ls hl => ?_)
  refine lv_iconst (v := (-1 : Int32)) hx hb dX10_byOthers_7 (by decide) ?_
  refine lv_istore (lv' := [(6, .int (-1 : Int32)), (4, .long (-2 : Int64)), (3, .int (0 : Int32)), (0, .ref (gB g + a0)), (1, .int x1), (2, .int x2)]) hx hb dX10_byOthers_8 hl (by decide) rfl (fun ls hl => ?_)
  refine lv_iconst (v := (0 : Int32)) hx hb dX10_byOthers_10 (by decide) ?_
  refine lv_istore (lv' := [(7, .int (0 : Int32)), (6, .int (-1 : Int32)), (4, .long (-2 : Int64)), (3, .int (0 : Int32)), (0, .ref (gB g + a0)), (1, .int x1), (2, .int x2)]) hx hb dX10_byOthers_11 hl (by decide) rfl (fun ls hl => ?_)
  exact wX10_byOthers_L13 C hr FU hH hf (lv_sub hl [4, 5, 6, 3, 2, 1, 0] rfl)
set_option maxHeartbeats 4000000 in
set_option maxRecDepth 100000 in
theorem c_X10_byMethod {l : Launch} {g : GD} {h : PH} {a0 : Nat} {x1 : Int32} {x2 : Int32} {r : Int64} {h' : PH} (hf : mX10_byMethod h a0 x1 x2 = some (r, h')) : Met l yX10_byMethod (Cond.code yX10_byMethod cX10_byMethod 3 (some .long) :: TB) (rmD 12 0 0) (PcH g [.ref (gB g + a0), .int x1, .int x2] h) (QcL g r h') 0 0 (aB g) := by
  refine Met.ofW (cc := cX10_byMethod) (maxL := 3) (ret := some .long) (by decide) rfl ?_
  intro p e s m args below meth c s₁ B hml hv
  obtain ⟨rfl, hH0, hkk0⟩ := hv
  have C : CT g RX10 cX10_byMethod 3 (Cond.code yX10_byMethod cX10_byMethod 3 (some .long) :: TB) p s m _ meth c := pg_ct (Tw := []) B hml hH0 hkk0
  have hr := B.returns
  have hH : HS g s s.heap [] h := ⟨hH0, va_S.rf⟩
  have hl := lv_entry ([.ref (gB g + a0), .int x1, .int x2]) (n := 3) (Nat.le_of_ble_eq_true rfl)
  rw [lg_entry_eq]
  generalize (lg_sl ([.ref (gB g + a0), .int x1, .int x2]) ++ List.replicate (3 - (lg_sl ([.ref (gB g + a0), .int x1, .int x2])).length) Slot.unset).toArray = ls at hl ⊢
  have hl : lv_has ls 3 [(0, .ref (gB g + a0)), (1, .int x1), (2, .int x2)] := hl
  show W p l e (rmD 12 0 0) _ _ _ _ _ _ _ _ _ _ _ _
  unfold mX10_byMethod at hf
  obtain ⟨hO, hf⟩ := oO_sp hf
  obtain ⟨⟨hx, hb, hml, hown, hts⟩, htb, hlk, hkk, hbs⟩ := id C
  refine lv_iload_n hx hb dX10_byMethod_0 rfl (lv_at hl 2 rfl) ?_
  by_cases c1 : x2 = (1 : Int32)
  · have hf := (if_pos c1).symm.trans hf
    refine lv_tableIn (off := 35) (tgt := 36) hx hb dX10_byMethod_1 (by rw [c1]; decide) (by rw [c1]; decide) (by rw [c1]; decide) (by decide) ?_
    refine lv_aload_n hx hb dX10_byMethod_36 rfl (lv_at hl 0 rfl) ?_
    refine lv_iload_n hx hb dX10_byMethod_37 rfl (lv_at hl 1 rfl) ?_
    refine pg_Vl (As := [.int x1]) C hH mi_X10_byOwn vl_X10_388 (q := (RX10, TX10, 34)) (ci := 10) rfl rfl hf (fun _ e1 => (oO_sp e1).1) (fun _ _ e1 => c_X10_byOwn e1) rfl rfl hl.1 (Nat.le_of_ble_eq_true rfl) ⟨Nat.le_of_ble_eq_true rfl, Nat.le_of_ble_eq_true rfl⟩ ⟨Nat.zero_le _, Nat.zero_le _⟩ dX10_byMethod_38 (fun H locs v38 h38 hH hf => ?_)
    exact pg_lret C hr hH hf dX10_byMethod_41
  · have hf := (if_neg c1).symm.trans hf
    by_cases c2 : x2 = (2 : Int32)
    · have hf := (if_pos c2).symm.trans hf
      refine lv_tableIn (off := 41) (tgt := 42) hx hb dX10_byMethod_1 (by rw [c2]; decide) (by rw [c2]; decide) (by rw [c2]; decide) (by decide) ?_
      refine lv_aload_n hx hb dX10_byMethod_42 rfl (lv_at hl 0 rfl) ?_
      refine lv_iload_n hx hb dX10_byMethod_43 rfl (lv_at hl 1 rfl) ?_
      refine lv_iconst (v := (1 : Int32)) hx hb dX10_byMethod_44 (by decide) ?_
      refine pg_Vl (As := [.int x1, .int (1 : Int32)]) C hH mi_X10_byOthers vl_X10_407 (q := (RX10, TX10, 34)) (ci := 10) rfl rfl hf (fun _ e1 => (oO_sp e1).1) (fun _ _ e1 => c_X10_byOthers e1) rfl rfl hl.1 (Nat.le_of_ble_eq_true rfl) ⟨Nat.le_of_ble_eq_true rfl, Nat.le_of_ble_eq_true rfl⟩ ⟨Nat.zero_le _, Nat.zero_le _⟩ dX10_byMethod_45 (fun H locs v45 h45 hH hf => ?_)
      exact pg_lret C hr hH hf dX10_byMethod_48
    · have hf := (if_neg c2).symm.trans hf
      by_cases c3 : x2 = (3 : Int32)
      · have hf := (if_pos c3).symm.trans hf
        refine lv_tableIn (off := 48) (tgt := 49) hx hb dX10_byMethod_1 (by rw [c3]; decide) (by rw [c3]; decide) (by rw [c3]; decide) (by decide) ?_
        refine lv_aload_n hx hb dX10_byMethod_49 rfl (lv_at hl 0 rfl) ?_
        refine lv_iload_n hx hb dX10_byMethod_50 rfl (lv_at hl 1 rfl) ?_
        refine lv_iconst (v := (2 : Int32)) hx hb dX10_byMethod_51 (by decide) ?_
        refine pg_Vl (As := [.int x1, .int (2 : Int32)]) C hH mi_X10_byOthers vl_X10_407 (q := (RX10, TX10, 34)) (ci := 10) rfl rfl hf (fun _ e1 => (oO_sp e1).1) (fun _ _ e1 => c_X10_byOthers e1) rfl rfl hl.1 (Nat.le_of_ble_eq_true rfl) ⟨Nat.le_of_ble_eq_true rfl, Nat.le_of_ble_eq_true rfl⟩ ⟨Nat.zero_le _, Nat.zero_le _⟩ dX10_byMethod_52 (fun H locs v52 h52 hH hf => ?_)
        exact pg_lret C hr hH hf dX10_byMethod_55
      · have hf := (if_neg c3).symm.trans hf
        by_cases c4 : x2 = (4 : Int32)
        · have hf := (if_pos c4).symm.trans hf
          refine lv_tableIn (off := 55) (tgt := 56) hx hb dX10_byMethod_1 (by rw [c4]; decide) (by rw [c4]; decide) (by rw [c4]; decide) (by decide) ?_
          refine lv_aload_n hx hb dX10_byMethod_56 rfl (lv_at hl 0 rfl) ?_
          refine lv_iload_n hx hb dX10_byMethod_57 rfl (lv_at hl 1 rfl) ?_
          refine pg_Vl (As := [.int x1]) C hH mi_X10_byResold vl_X10_363 (q := (RX10, TX10, 34)) (ci := 10) rfl rfl hf (fun _ e1 => (oO_sp e1).1) (fun _ _ e1 => c_X10_byResold e1) rfl rfl hl.1 (Nat.le_of_ble_eq_true rfl) ⟨Nat.le_of_ble_eq_true rfl, Nat.le_of_ble_eq_true rfl⟩ ⟨Nat.zero_le _, Nat.zero_le _⟩ dX10_byMethod_58 (fun H locs v58 h58 hH hf => ?_)
          exact pg_lret C hr hH hf dX10_byMethod_61
        · have hf := (if_neg c4).symm.trans hf
          by_cases c5 : x2 = (5 : Int32)
          · have hf := (if_pos c5).symm.trans hf
            refine lv_tableIn (off := 61) (tgt := 62) hx hb dX10_byMethod_1 (by rw [c5]; decide) (by rw [c5]; decide) (by rw [c5]; decide) (by decide) ?_
            refine lv_aload_n hx hb dX10_byMethod_62 rfl (lv_at hl 0 rfl) ?_
            refine lv_iload_n hx hb dX10_byMethod_63 rfl (lv_at hl 1 rfl) ?_
            refine pg_Vl (As := [.int x1]) C hH mi_X10_byMaking vl_X10_366 (q := (RX10, TX10, 34)) (ci := 10) rfl rfl hf (fun _ e1 => (oO_sp e1).1) (fun _ _ e1 => c_X10_byMaking e1) rfl rfl hl.1 (Nat.le_of_ble_eq_true rfl) ⟨Nat.le_of_ble_eq_true rfl, Nat.le_of_ble_eq_true rfl⟩ ⟨Nat.zero_le _, Nat.zero_le _⟩ dX10_byMethod_64 (fun H locs v64 h64 hH hf => ?_)
            exact pg_lret C hr hH hf dX10_byMethod_67
          · have hf := (if_neg c5).symm.trans hf
            refine lv_tableOut (tgt := 68) hx hb dX10_byMethod_1 (by have q1 := tb_n (v := 1) (by decide) c1; have q2 := tb_n (v := 2) (by decide) c2; have q3 := tb_n (v := 3) (by decide) c3; have q4 := tb_n (v := 4) (by decide) c4; have q5 := tb_n (v := 5) (by decide) c5; omega) (by decide) ?_
            refine lv_aload_n hx hb dX10_byMethod_68 rfl (lv_at hl 0 rfl) ?_
            refine lv_iload_n hx hb dX10_byMethod_69 rfl (lv_at hl 1 rfl) ?_
            refine lv_iconst (v := (3 : Int32)) hx hb dX10_byMethod_70 (by decide) ?_
            refine pg_Vl (As := [.int x1, .int (3 : Int32)]) C hH mi_X10_byOthers vl_X10_407 (q := (RX10, TX10, 34)) (ci := 10) rfl rfl hf (fun _ e1 => (oO_sp e1).1) (fun _ _ e1 => c_X10_byOthers e1) rfl rfl hl.1 (Nat.le_of_ble_eq_true rfl) ⟨Nat.le_of_ble_eq_true rfl, Nat.le_of_ble_eq_true rfl⟩ ⟨Nat.zero_le _, Nat.zero_le _⟩ dX10_byMethod_71 (fun H locs v71 h71 hH hf => ?_)
            exact pg_lret C hr hH hf dX10_byMethod_74
set_option maxHeartbeats 4000000 in
set_option maxRecDepth 100000 in
theorem c_X10_by {l : Launch} {g : GD} {h : PH} {a0 : Nat} {x1 : Int32} {x2 : Int32} {r : Int64} {h' : PH} (hf : mX10_by h a0 x1 x2 = some (r, h')) : Met l yX10_by (Cond.code yX10_by cX10_by 3 (some .long) :: TB) (rmD 13 0 0) (PcH g [.ref (gB g + a0), .int x1, .int x2] h) (QcL g r h') 0 0 (aB g) := by
  refine Met.ofW (cc := cX10_by) (maxL := 3) (ret := some .long) (by decide) rfl ?_
  intro p e s m args below meth c s₁ B hml hv
  obtain ⟨rfl, hH0, hkk0⟩ := hv
  have C : CT g RX10 cX10_by 3 (Cond.code yX10_by cX10_by 3 (some .long) :: TB) p s m _ meth c := pg_ct (Tw := []) B hml hH0 hkk0
  have hr := B.returns
  have hH : HS g s s.heap [] h := ⟨hH0, va_S.rf⟩
  have hl := lv_entry ([.ref (gB g + a0), .int x1, .int x2]) (n := 3) (Nat.le_of_ble_eq_true rfl)
  rw [lg_entry_eq]
  generalize (lg_sl ([.ref (gB g + a0), .int x1, .int x2]) ++ List.replicate (3 - (lg_sl ([.ref (gB g + a0), .int x1, .int x2])).length) Slot.unset).toArray = ls at hl ⊢
  have hl : lv_has ls 3 [(0, .ref (gB g + a0)), (1, .int x1), (2, .int x2)] := hl
  show W p l e (rmD 13 0 0) _ _ _ _ _ _ _ _ _ _ _ _
  unfold mX10_by at hf
  obtain ⟨hO, hf⟩ := oO_sp hf
  obtain ⟨⟨hx, hb, hml, hown, hts⟩, htb, hlk, hkk, hbs⟩ := id C
  refine lv_aload_n hx hb dX10_by_0 rfl (lv_at hl 0 rfl) ?_
  refine lv_iconst (v := (0 : Int32)) hx hb dX10_by_1 (by decide) ?_
  refine pg_pI C hH fl_X10_1 fm_10_0 hf dX10_by_2 (fun H locs h2 hH hf => ?_)
  refine lv_aload_n hx hb dX10_by_5 rfl (lv_at hl 0 rfl) ?_
  refine lv_iload_n hx hb dX10_by_6 rfl (lv_at hl 1 rfl) ?_
  refine pg_Vi (As := [.int x1]) C hH mi_X10_isSale vl_X10_288 (q := (RX10, TX10, 34)) (ci := 10) rfl rfl hf (fun _ e1 => (oO_sp e1).1) (fun _ _ e1 => c_X10_isSale e1) rfl rfl hl.1 (Nat.le_of_ble_eq_true rfl) ⟨Nat.le_of_ble_eq_true rfl, Nat.le_of_ble_eq_true rfl⟩ ⟨Nat.zero_le _, Nat.zero_le _⟩ dX10_by_7 (fun H locs v7 h7 hH hf => ?_)
  refine lv_if_eq (tgt := 34) hx hb dX10_by_10 (by decide) (fun cn => ?_) (fun cn => ?_)
  · have hf := (if_pos cn).symm.trans hf
    refine lv_ldc2 (v := (-1 : Int64)) hx hb hown (hts _ (htb _ kl_X10_339)) dX10_by_34 ?_
    exact pg_lret C hr hH hf dX10_by_37
  · have hf := (if_neg cn).symm.trans hf
    refine lv_iload_n hx hb dX10_by_13 rfl (lv_at hl 2 rfl) ?_
    refine lv_i2l (v := (Int32.toInt64 x2)) hx hb dX10_by_14 rfl ?_
    refine lv_lconst (v := (1 : Int64)) hx hb dX10_by_15 (by decide) ?_
    refine lv_ldc2 (v := (6 : Int64)) hx hb hown (hts _ (htb _ kl_X10_410)) dX10_by_16 ?_
    refine pg_Si (As := [.long (Int32.toInt64 x2), .long (1 : Int64), .long (6 : Int64)]) C hH mi_X10_within sl_X10_97 hf (fun _ _ e1 => c_X10_within e1) rfl rfl hl.1 (Nat.le_of_ble_eq_true rfl) ⟨Nat.le_of_ble_eq_true rfl, Nat.le_of_ble_eq_true rfl⟩ ⟨Nat.zero_le _, Nat.zero_le _⟩ dX10_by_19 (fun H locs v19 h19 hH hf => ?_)
    refine lv_if_eq (tgt := 34) hx hb dX10_by_22 (by decide) (fun cn => ?_) (fun cn => ?_)
    · have hf := (if_pos cn).symm.trans hf
      refine lv_ldc2 (v := (-1 : Int64)) hx hb hown (hts _ (htb _ kl_X10_339)) dX10_by_34 ?_
      exact pg_lret C hr hH hf dX10_by_37
    · have hf := (if_neg cn).symm.trans hf
      refine lv_aload_n hx hb dX10_by_25 rfl (lv_at hl 0 rfl) ?_
      refine lv_iload_n hx hb dX10_by_26 rfl (lv_at hl 1 rfl) ?_
      refine lv_iload_n hx hb dX10_by_27 rfl (lv_at hl 2 rfl) ?_
      refine pg_Vl (As := [.int x1, .int x2]) C hH mi_X10_byMethod vl_X10_412 (q := (RX10, TX10, 34)) (ci := 10) rfl rfl hf (fun _ e1 => (oO_sp e1).1) (fun _ _ e1 => c_X10_byMethod e1) rfl rfl hl.1 (Nat.le_of_ble_eq_true rfl) ⟨Nat.le_of_ble_eq_true rfl, Nat.le_of_ble_eq_true rfl⟩ ⟨Nat.zero_le _, Nat.zero_le _⟩ dX10_by_28 (fun H locs v28 h28 hH hf => ?_)
      refine lv_goto (tgt := 37) hx hb dX10_by_31 (by decide) ?_
      exact pg_lret C hr hH hf dX10_by_37
set_option maxHeartbeats 4000000 in
set_option maxRecDepth 100000 in
theorem c_X10_base {l : Launch} {g : GD} {h : PH} {a0 : Nat} {x1 : Int32} {x2 : Int32} {r : Int32} {h' : PH} (hf : mX10_base h a0 x1 x2 = some (r, h')) : Met l yX10_base (Cond.code yX10_base cX10_base 5 (some .int) :: TB) (rmD 13 0 0) (PcH g [.ref (gB g + a0), .int x1, .int x2] h) (QcI g r h') 0 0 (aB g) := by
  refine Met.ofW (cc := cX10_base) (maxL := 5) (ret := some .int) (by decide) rfl ?_
  intro p e s m args below meth c s₁ B hml hv
  obtain ⟨rfl, hH0, hkk0⟩ := hv
  have C : CT g RX10 cX10_base 5 (Cond.code yX10_base cX10_base 5 (some .int) :: TB) p s m _ meth c := pg_ct (Tw := []) B hml hH0 hkk0
  have hr := B.returns
  have hH : HS g s s.heap [] h := ⟨hH0, va_S.rf⟩
  have hl := lv_entry ([.ref (gB g + a0), .int x1, .int x2]) (n := 5) (Nat.le_of_ble_eq_true rfl)
  rw [lg_entry_eq]
  generalize (lg_sl ([.ref (gB g + a0), .int x1, .int x2]) ++ List.replicate (5 - (lg_sl ([.ref (gB g + a0), .int x1, .int x2])).length) Slot.unset).toArray = ls at hl ⊢
  have hl : lv_has ls 5 [(0, .ref (gB g + a0)), (1, .int x1), (2, .int x2)] := hl
  show W p l e (rmD 13 0 0) _ _ _ _ _ _ _ _ _ _ _ _
  unfold mX10_base at hf
  obtain ⟨hO, hf⟩ := oO_sp hf
  obtain ⟨⟨hx, hb, hml, hown, hts⟩, htb, hlk, hkk, hbs⟩ := id C
  refine lv_aload_n hx hb dX10_base_0 rfl (lv_at hl 0 rfl) ?_
  refine lv_iconst (v := (0 : Int32)) hx hb dX10_base_1 (by decide) ?_
  refine pg_pI C hH fl_X10_1 fm_10_0 hf dX10_base_2 (fun H locs h2 hH hf => ?_)
  refine lv_aload_n hx hb dX10_base_5 rfl (lv_at hl 0 rfl) ?_
  refine lv_iload_n hx hb dX10_base_6 rfl (lv_at hl 1 rfl) ?_
  refine pg_Vi (As := [.int x1]) C hH mi_X10_isSale vl_X10_288 (q := (RX10, TX10, 34)) (ci := 10) rfl rfl hf (fun _ e1 => (oO_sp e1).1) (fun _ _ e1 => c_X10_isSale e1) rfl rfl hl.1 (Nat.le_of_ble_eq_true rfl) ⟨Nat.le_of_ble_eq_true rfl, Nat.le_of_ble_eq_true rfl⟩ ⟨Nat.zero_le _, Nat.zero_le _⟩ dX10_base_7 (fun H locs v7 h7 hH hf => ?_)
  refine lv_if_eq (tgt := 32) hx hb dX10_base_10 (by decide) (fun cn => ?_) (fun cn => ?_)
  · have hf := (if_pos cn).symm.trans hf
    refine lv_iconst (v := (-1 : Int32)) hx hb dX10_base_32 (by decide) ?_
    exact pg_iret C hr hH hf dX10_base_33
  · have hf := (if_neg cn).symm.trans hf
    refine lv_iload_n hx hb dX10_base_13 rfl (lv_at hl 2 rfl) ?_
    refine lv_i2l (v := (Int32.toInt64 x2)) hx hb dX10_base_14 rfl ?_
    refine lv_ldc2 (v := (2 : Int64)) hx hb hown (hts _ (htb _ kl_X10_415)) dX10_base_15 ?_
    refine lv_ldc2 (v := (6 : Int64)) hx hb hown (hts _ (htb _ kl_X10_410)) dX10_base_18 ?_
    refine pg_Si (As := [.long (Int32.toInt64 x2), .long (2 : Int64), .long (6 : Int64)]) C hH mi_X10_within sl_X10_97 hf (fun _ _ e1 => c_X10_within e1) rfl rfl hl.1 (Nat.le_of_ble_eq_true rfl) ⟨Nat.le_of_ble_eq_true rfl, Nat.le_of_ble_eq_true rfl⟩ ⟨Nat.zero_le _, Nat.zero_le _⟩ dX10_base_21 (fun H locs v21 h21 hH hf => ?_)
    refine lv_if_eq (tgt := 32) hx hb dX10_base_24 (by decide) (fun cn => ?_) (fun cn => ?_)
    · have hf := (if_pos cn).symm.trans hf
      refine lv_iconst (v := (-1 : Int32)) hx hb dX10_base_32 (by decide) ?_
      exact pg_iret C hr hH hf dX10_base_33
    · have hf := (if_neg cn).symm.trans hf
      refine lv_iload_n hx hb dX10_base_27 rfl (lv_at hl 2 rfl) ?_
      refine lv_iconst (v := (5 : Int32)) hx hb dX10_base_28 (by decide) ?_
      refine lv_icmp_ne (tgt := 34) hx hb dX10_base_29 (by decide) (fun cn => ?_) (fun cn => ?_)
      · have hf := (if_neg cn).symm.trans hf
        refine lv_aload_n hx hb dX10_base_34 rfl (lv_at hl 0 rfl) ?_
        refine lv_iload_n hx hb dX10_base_35 rfl (lv_at hl 1 rfl) ?_
        refine lv_iload_n hx hb dX10_base_36 rfl (lv_at hl 2 rfl) ?_
        refine pg_Vl (As := [.int x1, .int x2]) C hH mi_X10_byMethod vl_X10_412 (q := (RX10, TX10, 34)) (ci := 10) rfl rfl hf (fun _ e1 => (oO_sp e1).1) (fun _ _ e1 => c_X10_byMethod e1) rfl rfl hl.1 (Nat.le_of_ble_eq_true rfl) ⟨Nat.le_of_ble_eq_true rfl, Nat.le_of_ble_eq_true rfl⟩ ⟨Nat.zero_le _, Nat.zero_le _⟩ dX10_base_37 (fun H locs v37 h37 hH hf => ?_)
        refine lv_lstore_n (lv' := [(3, .long v37), (0, .ref (gB g + a0)), (1, .int x1), (2, .int x2)]) hx hb dX10_base_40 rfl hl (by decide) rfl (fun ls hl => ?_)
        refine lv_lload_n hx hb dX10_base_41 rfl (lv_at hl 0 rfl) ?_
        refine lv_lconst (v := (0 : Int64)) hx hb dX10_base_42 (by decide) ?_
        refine W.lcmp hx hb dX10_base_43 ?_
        refine lv_if_ge (tgt := 52) hx hb dX10_base_44 (by decide) (fun cn => ?_) (fun cn => ?_)
        · have hf := (if_pos ((lg_cmp_ge _ _).mp cn)).symm.trans hf
          refine lv_aload_n hx hb dX10_base_52 rfl (lv_at hl 1 rfl) ?_
          refine pg_gI C hH fl_X10_391 hf dX10_base_53 (fun v53 hf => ?_)
          exact pg_iret C hr hH hf dX10_base_56
        · have hf := (if_neg (fun z => cn ((lg_cmp_ge _ _).mpr z))).symm.trans hf
          refine lv_lload_n hx hb dX10_base_47 rfl (lv_at hl 0 rfl) ?_
          refine lv_l2i (v := (Int64.toInt32 v37)) hx hb dX10_base_48 rfl ?_
          refine lv_goto (tgt := 56) hx hb dX10_base_49 (by decide) ?_
          exact pg_iret C hr hH hf dX10_base_56
      · have hf := (if_pos cn).symm.trans hf
        refine lv_iconst (v := (-1 : Int32)) hx hb dX10_base_32 (by decide) ?_
        exact pg_iret C hr hH hf dX10_base_33
set_option maxHeartbeats 4000000 in
set_option maxRecDepth 100000 in
theorem wX10_methodAt_b14 {r : Int32} {h' : PH} (C : CT g RX10 cX10_methodAt 2 (Cond.code yX10_methodAt cX10_methodAt 2 (some .int) :: TB) p s m args meth c) (hr : meth.sig.returnType = some .int) {h : PH} {x0 : Int32} {x1 : Int32} {H : Heap} {locs : List Loc} {ls : Array Slot} (hH : HS g s H locs h) (hf : mX10_methodAt_b14 h x0 x1 = some (r, h')) (hl : lv_has ls 2 [(0, .int x0), (1, .int x1)]) : W p l e (rmD 0 0 0) s m args below meth c H locs 0 0 (MQ below (QcI g r h') args s 0 0 (aB g)) (F0 m 14 ls []) := by
  obtain ⟨⟨hx, hb, hml, hown, hts⟩, htb, hlk, hkk, hbs⟩ := id C
  unfold mX10_methodAt_b14 at hf
  refine lv_iload_n hx hb dX10_methodAt_14 rfl (lv_at hl 1 rfl) ?_
  refine lv_iconst (v := (1 : Int32)) hx hb dX10_methodAt_15 (by decide) ?_
  refine lv_icmp_ne (tgt := 28) hx hb dX10_methodAt_16 (by decide) (fun cn => ?_) (fun cn => ?_)
  · have hf := (if_neg cn).symm.trans hf
    refine lv_iload_n hx hb dX10_methodAt_28 rfl (lv_at hl 0 rfl) ?_
    refine lv_iconst (v := (1 : Int32)) hx hb dX10_methodAt_29 (by decide) ?_
    refine lv_iadd hx hb dX10_methodAt_30 ?_
    exact pg_iret C hr hH hf dX10_methodAt_31
  · have hf := (if_pos cn).symm.trans hf
    refine lv_iload_n hx hb dX10_methodAt_19 rfl (lv_at hl 0 rfl) ?_
    refine lv_iconst (v := (4 : Int32)) hx hb dX10_methodAt_20 (by decide) ?_
    refine lv_icmp_ne (tgt := 28) hx hb dX10_methodAt_21 (by decide) (fun cn => ?_) (fun cn => ?_)
    · have hf := (if_neg cn).symm.trans hf
      refine lv_iload_n hx hb dX10_methodAt_28 rfl (lv_at hl 0 rfl) ?_
      refine lv_iconst (v := (1 : Int32)) hx hb dX10_methodAt_29 (by decide) ?_
      refine lv_iadd hx hb dX10_methodAt_30 ?_
      exact pg_iret C hr hH hf dX10_methodAt_31
    · have hf := (if_pos cn).symm.trans hf
      refine lv_iconst (v := (4 : Int32)) hx hb dX10_methodAt_24 (by decide) ?_
      refine lv_goto (tgt := 31) hx hb dX10_methodAt_25 (by decide) ?_
      exact pg_iret C hr hH hf dX10_methodAt_31
set_option maxHeartbeats 4000000 in
set_option maxRecDepth 100000 in
theorem c_X10_methodAt {l : Launch} {g : GD} {h : PH} {x0 : Int32} {x1 : Int32} {r : Int32} {h' : PH} (hf : mX10_methodAt h x0 x1 = some (r, h')) : Met l yX10_methodAt (Cond.code yX10_methodAt cX10_methodAt 2 (some .int) :: TB) (rmD 0 0 0) (PcH g [.int x0, .int x1] h) (QcI g r h') 0 0 (aB g) := by
  refine Met.ofW (cc := cX10_methodAt) (maxL := 2) (ret := some .int) (by decide) rfl ?_
  intro p e s m args below meth c s₁ B hml hv
  obtain ⟨rfl, hH0, hkk0⟩ := hv
  have C : CT g RX10 cX10_methodAt 2 (Cond.code yX10_methodAt cX10_methodAt 2 (some .int) :: TB) p s m _ meth c := pg_ct (Tw := []) B hml hH0 hkk0
  have hr := B.returns
  have hH : HS g s s.heap [] h := ⟨hH0, va_S.rf⟩
  have hl := lv_entry ([.int x0, .int x1]) (n := 2) (Nat.le_of_ble_eq_true rfl)
  rw [lg_entry_eq]
  generalize (lg_sl ([.int x0, .int x1]) ++ List.replicate (2 - (lg_sl ([.int x0, .int x1])).length) Slot.unset).toArray = ls at hl ⊢
  have hl : lv_has ls 2 [(0, .int x0), (1, .int x1)] := hl
  show W p l e (rmD 0 0 0) _ _ _ _ _ _ _ _ _ _ _ _
  unfold mX10_methodAt at hf
  obtain ⟨⟨hx, hb, hml, hown, hts⟩, htb, hlk, hkk, hbs⟩ := id C
  refine lv_iload_n hx hb dX10_methodAt_0 rfl (lv_at hl 1 rfl) ?_
  refine lv_iconst (v := (1 : Int32)) hx hb dX10_methodAt_1 (by decide) ?_
  refine lv_icmp_ne (tgt := 14) hx hb dX10_methodAt_2 (by decide) (fun cn => ?_) (fun cn => ?_)
  · have hf := (if_neg cn).symm.trans hf
    exact wX10_methodAt_b14 C hr hH hf (lv_sub hl [0, 1] rfl)
  · have hf := (if_pos cn).symm.trans hf
    refine lv_iload_n hx hb dX10_methodAt_5 rfl (lv_at hl 0 rfl) ?_
    refine lv_iconst (v := (3 : Int32)) hx hb dX10_methodAt_6 (by decide) ?_
    refine lv_icmp_ne (tgt := 14) hx hb dX10_methodAt_7 (by decide) (fun cn => ?_) (fun cn => ?_)
    · have hf := (if_neg cn).symm.trans hf
      exact wX10_methodAt_b14 C hr hH hf (lv_sub hl [0, 1] rfl)
    · have hf := (if_pos cn).symm.trans hf
      refine lv_iconst (v := (5 : Int32)) hx hb dX10_methodAt_10 (by decide) ?_
      refine lv_goto (tgt := 31) hx hb dX10_methodAt_11 (by decide) ?_
      exact pg_iret C hr hH hf dX10_methodAt_31
set_option maxHeartbeats 4000000 in
set_option maxRecDepth 100000 in
theorem wX10_worthBy_b13 {r13 : PH → Nat → Int32 → Int32 → Int32 → Option (Int64 × PH)} {r : Int64} {h' : PH} (C : CT g RX10 cX10_worthBy 7 (Cond.code yX10_worthBy cX10_worthBy 7 (some .long) :: TB) p s m args meth c) (hr : meth.sig.returnType = some .long) (k13 : ∀ {h : PH} {a0 : Nat} {x1 : Int32} {x2 : Int32} {x3 : Int32} {H : Heap} {locs : List Loc} {ls : Array Slot}, HS g s H locs h → r13 h a0 x1 x2 x3 = some (r, h') → lv_has ls 7 [(0, .ref (gB g + a0)), (1, .int x1), (2, .int x2), (3, .int x3)] → W p l e (rmD 13 0 0) s m args below meth c H locs 0 0 (MQ below (QcL g r h') args s 0 0 (aB g)) (F0 m 13 ls [])) {h : PH} {a0 : Nat} {x1 : Int32} {x2 : Int32} {x3 : Int32} {H : Heap} {locs : List Loc} {ls : Array Slot} (hH : HS g s H locs h) (hf : mX10_worthBy_b13 r13 h a0 x1 x2 x3 = some (r, h')) (hl : lv_has ls 7 [(0, .ref (gB g + a0)), (1, .int x1), (2, .int x2), (3, .int x3)]) : W p l e (rmD 13 0 0) s m args below meth c H locs 0 0 (MQ below (QcL g r h') args s 0 0 (aB g)) (F0 m 13 ls []) := by
  obtain ⟨⟨hx, hb, hml, hown, hts⟩, htb, hlk, hkk, hbs⟩ := id C
  unfold mX10_worthBy_b13 at hf
  refine lv_iload_n hx hb dX10_worthBy_13 rfl (lv_at hl 3 rfl) ?_
  refine lv_bipush (v := (6 : Int32)) hx hb dX10_worthBy_14 (by decide) ?_
  refine lv_icmp_ge (tgt := 83) hx hb dX10_worthBy_16 (by decide) (fun cn => ?_) (fun cn => ?_)
  · have hf := (if_pos cn).symm.trans hf
    refine lv_ldc2 (v := (-2 : Int64)) hx hb hown (hts _ (htb _ kl_X10_382)) dX10_worthBy_83 ?_
    exact pg_lret C hr hH hf dX10_worthBy_86
  · have hf := (if_neg cn).symm.trans hf
    refine lv_iload_n hx hb dX10_worthBy_19 rfl (lv_at hl 3 rfl) ?_
    refine lv_iload_n hx hb dX10_worthBy_20 rfl (lv_at hl 2 rfl) ?_
    refine pg_Si (As := [.int x3, .int x2]) C hH mi_X10_methodAt sl_X10_423 hf (fun _ _ e1 => c_X10_methodAt e1) rfl rfl hl.1 (Nat.le_of_ble_eq_true rfl) ⟨Nat.le_of_ble_eq_true rfl, Nat.le_of_ble_eq_true rfl⟩ ⟨Nat.zero_le _, Nat.zero_le _⟩ dX10_worthBy_21 (fun H locs v21 h21 hH hf => ?_)
    refine lv_istore (lv' := [(4, .int v21), (0, .ref (gB g + a0)), (1, .int x1), (2, .int x2), (3, .int x3)]) hx hb dX10_worthBy_24 hl (by decide) rfl (fun ls hl => ?_)
    refine lv_aload_n hx hb dX10_worthBy_26 rfl (lv_at hl 1 rfl) ?_
    refine lv_iload_n hx hb dX10_worthBy_27 rfl (lv_at hl 2 rfl) ?_
    refine lv_iload hx hb dX10_worthBy_28 (lv_at hl 0 rfl) ?_
    refine pg_Vl (As := [.int x1, .int v21]) C hH mi_X10_byMethod vl_X10_412 (q := (RX10, TX10, 34)) (ci := 10) rfl rfl hf (fun _ e1 => (oO_sp e1).1) (fun _ _ e1 => c_X10_byMethod e1) rfl rfl hl.1 (Nat.le_of_ble_eq_true rfl) ⟨Nat.le_of_ble_eq_true rfl, Nat.le_of_ble_eq_true rfl⟩ ⟨Nat.zero_le _, Nat.zero_le _⟩ dX10_worthBy_30 (fun H locs v30 h30 hH hf => ?_)
    refine lv_lstore (lv' := [(5, .long v30), (4, .int v21), (0, .ref (gB g + a0)), (1, .int x1), (2, .int x2), (3, .int x3)]) hx hb dX10_worthBy_33 hl (by decide) rfl (fun ls hl => ?_)
    refine lv_lload hx hb dX10_worthBy_35 (lv_at hl 0 rfl) ?_
    refine lv_lconst (v := (0 : Int64)) hx hb dX10_worthBy_37 (by decide) ?_
    refine W.lcmp hx hb dX10_worthBy_38 ?_
    refine lv_if_lt (tgt := 51) hx hb dX10_worthBy_39 (by decide) (fun cn => ?_) (fun cn => ?_)
    · have hf := (if_pos ((lg_cmp_lt _ _).mp cn)).symm.trans hf
      refine lv_aload_n hx hb dX10_worthBy_51 rfl (lv_at hl 2 rfl) ?_
      refine pg_gR C hH fl_X10_53 hf dX10_worthBy_52 (fun v52 hf => ?_)
      refine lv_aload_n hx hb dX10_worthBy_55 rfl (lv_at hl 2 rfl) ?_
      refine pg_gI C hH fl_X10_417 hf dX10_worthBy_56 (fun v56 hf => ?_)
      refine lv_ldc2 (v := (-2 : Int64)) hx hb hown (hts _ (htb _ kl_X10_382)) dX10_worthBy_59 ?_
      refine lv_lload hx hb dX10_worthBy_62 (lv_at hl 0 rfl) ?_
      refine lv_lsub hx hb dX10_worthBy_64 ?_
      refine lv_l2i (v := (Int64.toInt32 ((-2 : Int64) - v30))) hx hb dX10_worthBy_65 rfl ?_
      refine pg_sI C hH hf dX10_worthBy_66 (fun H locs h66 hH hf => ?_)
      refine lv_aload_n hx hb dX10_worthBy_67 rfl (lv_at hl 2 rfl) ?_
      refine lv_dup hx hb dX10_worthBy_68 rfl ?_
      refine pg_gI C hH fl_X10_417 hf dX10_worthBy_69 (fun v69 hf => ?_)
      refine lv_iconst (v := (1 : Int32)) hx hb dX10_worthBy_72 (by decide) ?_
      refine lv_iadd hx hb dX10_worthBy_73 ?_
      refine pg_pI C hH fl_X10_417 fm_10_30 hf dX10_worthBy_74 (fun H locs h74 hH hf => ?_)
      refine lv_iinc (v := (x3 + 1)) (lv' := [(3, .int (x3 + 1)), (5, .long v30), (4, .int v21), (0, .ref (gB g + a0)), (1, .int x1), (2, .int x2)]) hx hb dX10_worthBy_77 hl (k := 5) rfl rfl (by decide) rfl (fun ls hl => ?_)
      refine lv_goto (tgt := 13) hx hb dX10_worthBy_80 (by decide) ?_
      exact k13 hH hf (lv_sub hl [3, 4, 5, 0] rfl)
    · have hf := (if_neg (fun z => cn ((lg_cmp_lt _ _).mpr z))).symm.trans hf
      refine lv_aload_n hx hb dX10_worthBy_42 rfl (lv_at hl 2 rfl) ?_
      refine lv_iload hx hb dX10_worthBy_43 (lv_at hl 1 rfl) ?_
      refine pg_pI C hH fl_X10_420 fm_10_31 hf dX10_worthBy_45 (fun H locs h45 hH hf => ?_)
      refine lv_lload hx hb dX10_worthBy_48 (lv_at hl 0 rfl) ?_
      exact pg_lret C hr hH hf dX10_worthBy_50
set_option maxHeartbeats 4000000 in
set_option maxRecDepth 100000 in
theorem wX10_worthBy_L13 {r : Int64} {h' : PH} (C : CT g RX10 cX10_worthBy 7 (Cond.code yX10_worthBy cX10_worthBy 7 (some .long) :: TB) p s m args meth c) (hr : meth.sig.returnType = some .long) : ∀ (n : Nat) {h : PH} {a0 : Nat} {x1 : Int32} {x2 : Int32} {x3 : Int32} {H : Heap} {locs : List Loc} {ls : Array Slot}, HS g s H locs h → mX10_worthBy_L13 n h a0 x1 x2 x3 = some (r, h') → lv_has ls 7 [(0, .ref (gB g + a0)), (1, .int x1), (2, .int x2), (3, .int x3)] → W p l e (rmD 13 0 0) s m args below meth c H locs 0 0 (MQ below (QcL g r h') args s 0 0 (aB g)) (F0 m 13 ls []) := by
  intro n
  induction n with
  | zero =>
    intro h a0 x1 x2 x3 H locs ls hH hf hl
    exact absurd hf (by intro z; cases z)
  | succ n ih =>
    intro h a0 x1 x2 x3 H locs ls hH hf hl
    have hf : mX10_worthBy_b13 (mX10_worthBy_L13 n) h a0 x1 x2 x3 = some (r, h') := hf
    exact wX10_worthBy_b13 C hr (fun a b c => ih a b c) hH hf hl
set_option maxHeartbeats 4000000 in
set_option maxRecDepth 100000 in
theorem c_X10_worthBy {l : Launch} {g : GD} {h : PH} {a0 : Nat} {x1 : Int32} {x2 : Int32} {r : Int64} {h' : PH} (hf : mX10_worthBy h a0 x1 x2 = some (r, h')) : Met l yX10_worthBy (Cond.code yX10_worthBy cX10_worthBy 7 (some .long) :: TB) (rmD 13 0 0) (PcH g [.ref (gB g + a0), .int x1, .int x2] h) (QcL g r h') 0 0 (aB g) := by
  refine Met.ofW (cc := cX10_worthBy) (maxL := 7) (ret := some .long) (by decide) rfl ?_
  intro p e s m args below meth c s₁ B hml hv
  obtain ⟨rfl, hH0, hkk0⟩ := hv
  have C : CT g RX10 cX10_worthBy 7 (Cond.code yX10_worthBy cX10_worthBy 7 (some .long) :: TB) p s m _ meth c := pg_ct (Tw := []) B hml hH0 hkk0
  have hr := B.returns
  have hH : HS g s s.heap [] h := ⟨hH0, va_S.rf⟩
  have hl := lv_entry ([.ref (gB g + a0), .int x1, .int x2]) (n := 7) (Nat.le_of_ble_eq_true rfl)
  rw [lg_entry_eq]
  generalize (lg_sl ([.ref (gB g + a0), .int x1, .int x2]) ++ List.replicate (7 - (lg_sl ([.ref (gB g + a0), .int x1, .int x2])).length) Slot.unset).toArray = ls at hl ⊢
  have hl : lv_has ls 7 [(0, .ref (gB g + a0)), (1, .int x1), (2, .int x2)] := hl
  show W p l e (rmD 13 0 0) _ _ _ _ _ _ _ _ _ _ _ _
  unfold mX10_worthBy at hf
  obtain ⟨hO, hf⟩ := oO_sp hf
  obtain ⟨⟨hx, hb, hml, hown, hts⟩, htb, hlk, hkk, hbs⟩ := id C
  refine lv_aload_n hx hb dX10_worthBy_0 rfl (lv_at hl 0 rfl) ?_
  refine lv_iconst (v := (0 : Int32)) hx hb dX10_worthBy_1 (by decide) ?_
  refine pg_pI C hH fl_X10_417 fm_10_30 hf dX10_worthBy_2 (fun H locs h2 hH hf => ?_)
  refine lv_aload_n hx hb dX10_worthBy_5 rfl (lv_at hl 0 rfl) ?_
  refine lv_bipush (v := (-2 : Int32)) hx hb dX10_worthBy_6 (by decide) ?_
  refine pg_pI C hH fl_X10_420 fm_10_31 hf dX10_worthBy_8 (fun H locs h8 hH hf => ?_)
  refine lv_iconst (v := (0 : Int32)) hx hb dX10_worthBy_11 (by decide) ?_
  refine lv_istore_n (lv' := [(3, .int (0 : Int32)), (0, .ref (gB g + a0)), (1, .int x1), (2, .int x2)]) hx hb dX10_worthBy_12 rfl hl (by decide) rfl (fun ls hl => ?_)
  exact wX10_worthBy_L13 C hr FU hH hf (lv_sub hl [1, 2, 3, 0] rfl)
set_option maxHeartbeats 4000000 in
set_option maxRecDepth 100000 in
theorem c_X10_worthOf {l : Launch} {g : GD} {h : PH} {a0 : Nat} {x1 : Int32} {r : Int64} {h' : PH} (hf : mX10_worthOf h a0 x1 = some (r, h')) : Met l yX10_worthOf (Cond.code yX10_worthOf cX10_worthOf 2 (some .long) :: TB) (rmD 14 0 0) (PcH g [.ref (gB g + a0), .int x1] h) (QcL g r h') 0 0 (aB g) := by
  refine Met.ofW (cc := cX10_worthOf) (maxL := 2) (ret := some .long) (by decide) rfl ?_
  intro p e s m args below meth c s₁ B hml hv
  obtain ⟨rfl, hH0, hkk0⟩ := hv
  have C : CT g RX10 cX10_worthOf 2 (Cond.code yX10_worthOf cX10_worthOf 2 (some .long) :: TB) p s m _ meth c := pg_ct (Tw := []) B hml hH0 hkk0
  have hr := B.returns
  have hH : HS g s s.heap [] h := ⟨hH0, va_S.rf⟩
  have hl := lv_entry ([.ref (gB g + a0), .int x1]) (n := 2) (Nat.le_of_ble_eq_true rfl)
  rw [lg_entry_eq]
  generalize (lg_sl ([.ref (gB g + a0), .int x1]) ++ List.replicate (2 - (lg_sl ([.ref (gB g + a0), .int x1])).length) Slot.unset).toArray = ls at hl ⊢
  have hl : lv_has ls 2 [(0, .ref (gB g + a0)), (1, .int x1)] := hl
  show W p l e (rmD 14 0 0) _ _ _ _ _ _ _ _ _ _ _ _
  unfold mX10_worthOf at hf
  obtain ⟨hO, hf⟩ := oO_sp hf
  obtain ⟨⟨hx, hb, hml, hown, hts⟩, htb, hlk, hkk, hbs⟩ := id C
  refine lv_aload_n hx hb dX10_worthOf_0 rfl (lv_at hl 0 rfl) ?_
  refine lv_iload_n hx hb dX10_worthOf_1 rfl (lv_at hl 1 rfl) ?_
  refine lv_aload_n hx hb dX10_worthOf_2 rfl (lv_at hl 0 rfl) ?_
  refine pg_gR C hH fl_X10_13 hf dX10_worthOf_3 (fun v3 hf => ?_)
  refine lv_bipush (v := (10 : Int32)) hx hb dX10_worthOf_6 (by decide) ?_
  refine pg_aI C hH hf dX10_worthOf_8 (fun v8 hf => ?_)
  refine pg_Vl (As := [.int x1, .int v8]) C hH mi_X10_worthBy vl_X10_426 (q := (RX10, TX10, 34)) (ci := 10) rfl rfl hf (fun _ e1 => (oO_sp e1).1) (fun _ _ e1 => c_X10_worthBy e1) rfl rfl hl.1 (Nat.le_of_ble_eq_true rfl) ⟨Nat.le_of_ble_eq_true rfl, Nat.le_of_ble_eq_true rfl⟩ ⟨Nat.zero_le _, Nat.zero_le _⟩ dX10_worthOf_9 (fun H locs v9 h9 hH hf => ?_)
  exact pg_lret C hr hH hf dX10_worthOf_12
set_option maxHeartbeats 4000000 in
set_option maxRecDepth 100000 in
theorem c_X10_worth {l : Launch} {g : GD} {h : PH} {a0 : Nat} {x1 : Int32} {r : Int64} {h' : PH} (hf : mX10_worth h a0 x1 = some (r, h')) : Met l yX10_worth (Cond.code yX10_worth cX10_worth 2 (some .long) :: TB) (rmD 15 0 0) (PcH g [.ref (gB g + a0), .int x1] h) (QcL g r h') 0 0 (aB g) := by
  refine Met.ofW (cc := cX10_worth) (maxL := 2) (ret := some .long) (by decide) rfl ?_
  intro p e s m args below meth c s₁ B hml hv
  obtain ⟨rfl, hH0, hkk0⟩ := hv
  have C : CT g RX10 cX10_worth 2 (Cond.code yX10_worth cX10_worth 2 (some .long) :: TB) p s m _ meth c := pg_ct (Tw := []) B hml hH0 hkk0
  have hr := B.returns
  have hH : HS g s s.heap [] h := ⟨hH0, va_S.rf⟩
  have hl := lv_entry ([.ref (gB g + a0), .int x1]) (n := 2) (Nat.le_of_ble_eq_true rfl)
  rw [lg_entry_eq]
  generalize (lg_sl ([.ref (gB g + a0), .int x1]) ++ List.replicate (2 - (lg_sl ([.ref (gB g + a0), .int x1])).length) Slot.unset).toArray = ls at hl ⊢
  have hl : lv_has ls 2 [(0, .ref (gB g + a0)), (1, .int x1)] := hl
  show W p l e (rmD 15 0 0) _ _ _ _ _ _ _ _ _ _ _ _
  unfold mX10_worth at hf
  obtain ⟨hO, hf⟩ := oO_sp hf
  obtain ⟨⟨hx, hb, hml, hown, hts⟩, htb, hlk, hkk, hbs⟩ := id C
  refine lv_aload_n hx hb dX10_worth_0 rfl (lv_at hl 0 rfl) ?_
  refine lv_iconst (v := (0 : Int32)) hx hb dX10_worth_1 (by decide) ?_
  refine pg_pI C hH fl_X10_1 fm_10_0 hf dX10_worth_2 (fun H locs h2 hH hf => ?_)
  refine lv_aload_n hx hb dX10_worth_5 rfl (lv_at hl 0 rfl) ?_
  refine lv_iload_n hx hb dX10_worth_6 rfl (lv_at hl 1 rfl) ?_
  refine pg_Vi (As := [.int x1]) C hH mi_X10_isSale vl_X10_288 (q := (RX10, TX10, 34)) (ci := 10) rfl rfl hf (fun _ e1 => (oO_sp e1).1) (fun _ _ e1 => c_X10_isSale e1) rfl rfl hl.1 (Nat.le_of_ble_eq_true rfl) ⟨Nat.le_of_ble_eq_true rfl, Nat.le_of_ble_eq_true rfl⟩ ⟨Nat.zero_le _, Nat.zero_le _⟩ dX10_worth_7 (fun H locs v7 h7 hH hf => ?_)
  refine lv_if_eq (tgt := 21) hx hb dX10_worth_10 (by decide) (fun cn => ?_) (fun cn => ?_)
  · have hf := (if_pos cn).symm.trans hf
    refine lv_ldc2 (v := (-1 : Int64)) hx hb hown (hts _ (htb _ kl_X10_339)) dX10_worth_21 ?_
    exact pg_lret C hr hH hf dX10_worth_24
  · have hf := (if_neg cn).symm.trans hf
    refine lv_aload_n hx hb dX10_worth_13 rfl (lv_at hl 0 rfl) ?_
    refine lv_iload_n hx hb dX10_worth_14 rfl (lv_at hl 1 rfl) ?_
    refine pg_Vl (As := [.int x1]) C hH mi_X10_worthOf vl_X10_429 (q := (RX10, TX10, 34)) (ci := 10) rfl rfl hf (fun _ e1 => (oO_sp e1).1) (fun _ _ e1 => c_X10_worthOf e1) rfl rfl hl.1 (Nat.le_of_ble_eq_true rfl) ⟨Nat.le_of_ble_eq_true rfl, Nat.le_of_ble_eq_true rfl⟩ ⟨Nat.zero_le _, Nat.zero_le _⟩ dX10_worth_15 (fun H locs v15 h15 hH hf => ?_)
    refine lv_goto (tgt := 24) hx hb dX10_worth_18 (by decide) ?_
    exact pg_lret C hr hH hf dX10_worth_24
set_option maxHeartbeats 4000000 in
set_option maxRecDepth 100000 in
theorem c_X10_method {l : Launch} {g : GD} {h : PH} {a0 : Nat} {x1 : Int32} {r : Int32} {h' : PH} (hf : mX10_method h a0 x1 = some (r, h')) : Met l yX10_method (Cond.code yX10_method cX10_method 4 (some .int) :: TB) (rmD 15 0 0) (PcH g [.ref (gB g + a0), .int x1] h) (QcI g r h') 0 0 (aB g) := by
  refine Met.ofW (cc := cX10_method) (maxL := 4) (ret := some .int) (by decide) rfl ?_
  intro p e s m args below meth c s₁ B hml hv
  obtain ⟨rfl, hH0, hkk0⟩ := hv
  have C : CT g RX10 cX10_method 4 (Cond.code yX10_method cX10_method 4 (some .int) :: TB) p s m _ meth c := pg_ct (Tw := []) B hml hH0 hkk0
  have hr := B.returns
  have hH : HS g s s.heap [] h := ⟨hH0, va_S.rf⟩
  have hl := lv_entry ([.ref (gB g + a0), .int x1]) (n := 4) (Nat.le_of_ble_eq_true rfl)
  rw [lg_entry_eq]
  generalize (lg_sl ([.ref (gB g + a0), .int x1]) ++ List.replicate (4 - (lg_sl ([.ref (gB g + a0), .int x1])).length) Slot.unset).toArray = ls at hl ⊢
  have hl : lv_has ls 4 [(0, .ref (gB g + a0)), (1, .int x1)] := hl
  show W p l e (rmD 15 0 0) _ _ _ _ _ _ _ _ _ _ _ _
  unfold mX10_method at hf
  obtain ⟨hO, hf⟩ := oO_sp hf
  obtain ⟨⟨hx, hb, hml, hown, hts⟩, htb, hlk, hkk, hbs⟩ := id C
  refine lv_aload_n hx hb dX10_method_0 rfl (lv_at hl 0 rfl) ?_
  refine lv_iconst (v := (0 : Int32)) hx hb dX10_method_1 (by decide) ?_
  refine pg_pI C hH fl_X10_1 fm_10_0 hf dX10_method_2 (fun H locs h2 hH hf => ?_)
  refine lv_aload_n hx hb dX10_method_5 rfl (lv_at hl 0 rfl) ?_
  refine lv_iload_n hx hb dX10_method_6 rfl (lv_at hl 1 rfl) ?_
  refine pg_Vi (As := [.int x1]) C hH mi_X10_isSale vl_X10_288 (q := (RX10, TX10, 34)) (ci := 10) rfl rfl hf (fun _ e1 => (oO_sp e1).1) (fun _ _ e1 => c_X10_isSale e1) rfl rfl hl.1 (Nat.le_of_ble_eq_true rfl) ⟨Nat.le_of_ble_eq_true rfl, Nat.le_of_ble_eq_true rfl⟩ ⟨Nat.zero_le _, Nat.zero_le _⟩ dX10_method_7 (fun H locs v7 h7 hH hf => ?_)
  refine lv_if_ne (tgt := 15) hx hb dX10_method_10 (by decide) (fun cn => ?_) (fun cn => ?_)
  · have hf := (if_neg cn).symm.trans hf
    refine lv_aload_n hx hb dX10_method_15 rfl (lv_at hl 0 rfl) ?_
    refine lv_iload_n hx hb dX10_method_16 rfl (lv_at hl 1 rfl) ?_
    refine pg_Vl (As := [.int x1]) C hH mi_X10_worthOf vl_X10_429 (q := (RX10, TX10, 34)) (ci := 10) rfl rfl hf (fun _ e1 => (oO_sp e1).1) (fun _ _ e1 => c_X10_worthOf e1) rfl rfl hl.1 (Nat.le_of_ble_eq_true rfl) ⟨Nat.le_of_ble_eq_true rfl, Nat.le_of_ble_eq_true rfl⟩ ⟨Nat.zero_le _, Nat.zero_le _⟩ dX10_method_17 (fun H locs v17 h17 hH hf => ?_)
    refine lv_lstore_n (lv' := [(2, .long v17), (0, .ref (gB g + a0)), (1, .int x1)]) hx hb dX10_method_20 rfl hl (by decide) rfl (fun ls hl => ?_)
    refine lv_lload_n hx hb dX10_method_21 rfl (lv_at hl 0 rfl) ?_
    refine lv_lconst (v := (0 : Int64)) hx hb dX10_method_22 (by decide) ?_
    refine W.lcmp hx hb dX10_method_23 ?_
    refine lv_if_ge (tgt := 32) hx hb dX10_method_24 (by decide) (fun cn => ?_) (fun cn => ?_)
    · have hf := (if_pos ((lg_cmp_ge _ _).mp cn)).symm.trans hf
      refine lv_aload_n hx hb dX10_method_32 rfl (lv_at hl 1 rfl) ?_
      refine pg_gI C hH fl_X10_420 hf dX10_method_33 (fun v33 hf => ?_)
      exact pg_iret C hr hH hf dX10_method_36
    · have hf := (if_neg (fun z => cn ((lg_cmp_ge _ _).mpr z))).symm.trans hf
      refine lv_bipush (v := (-2 : Int32)) hx hb dX10_method_27 (by decide) ?_
      refine lv_goto (tgt := 36) hx hb dX10_method_29 (by decide) ?_
      exact pg_iret C hr hH hf dX10_method_36
  · have hf := (if_pos cn).symm.trans hf
    refine lv_iconst (v := (-1 : Int32)) hx hb dX10_method_13 (by decide) ?_
    exact pg_iret C hr hH hf dX10_method_14
set_option maxHeartbeats 4000000 in
set_option maxRecDepth 100000 in
theorem wX10_why_b44 {r : Int32} {h' : PH} (C : CT g RX10 cX10_why 5 (Cond.code yX10_why cX10_why 5 (some .int) :: TB) p s m args meth c) (hr : meth.sig.returnType = some .int) {h : PH} {a0 : Nat} {x2 : Int32} {s0 : Nat} {s1 : Int32} {H : Heap} {locs : List Loc} {ls : Array Slot} (hH : HS g s H locs h) (hf : mX10_why_b44 h a0 x2 s0 s1 = some (r, h')) (hl : lv_has ls 5 [(0, .ref (gB g + a0)), (2, .int x2)]) : W p l e (rmD 15 0 0) s m args below meth c H locs 0 0 (MQ below (QcI g r h') args s 0 0 (aB g)) (F0 m 44 ls [.int s1, .ref (gB g + s0)]) := by
  obtain ⟨⟨hx, hb, hml, hown, hts⟩, htb, hlk, hkk, hbs⟩ := id C
  unfold mX10_why_b44 at hf
  refine pg_pI C hH fl_X10_417 fm_10_30 hf dX10_why_44 (fun H locs h44 hH hf => ?_)
  refine lv_iload_n hx hb dX10_why_47 rfl (lv_at hl 1 rfl) ?_
  refine lv_iconst (v := (-1 : Int32)) hx hb dX10_why_48 (by decide) ?_
  refine lv_icmp_ne (tgt := 59) hx hb dX10_why_49 (by decide) (fun cn => ?_) (fun cn => ?_)
  · have hf := (if_neg cn).symm.trans hf
    refine lv_iload_n hx hb dX10_why_59 rfl (lv_at hl 1 rfl) ?_
    refine lv_aload_n hx hb dX10_why_60 rfl (lv_at hl 0 rfl) ?_
    refine pg_gI C hH fl_X10_417 hf dX10_why_61 (fun v61 hf => ?_)
    refine lv_icmp_ge (tgt := 76) hx hb dX10_why_64 (by decide) (fun cn => ?_) (fun cn => ?_)
    · have hf := (if_pos cn).symm.trans hf
      refine lv_bipush (v := (-2 : Int32)) hx hb dX10_why_76 (by decide) ?_
      exact pg_iret C hr hH hf dX10_why_78
    · have hf := (if_neg cn).symm.trans hf
      refine lv_aload_n hx hb dX10_why_67 rfl (lv_at hl 0 rfl) ?_
      refine pg_gR C hH fl_X10_53 hf dX10_why_68 (fun v68 hf => ?_)
      refine lv_iload_n hx hb dX10_why_71 rfl (lv_at hl 1 rfl) ?_
      refine pg_aI C hH hf dX10_why_72 (fun v72 hf => ?_)
      refine lv_goto (tgt := 78) hx hb dX10_why_73 (by decide) ?_
      exact pg_iret C hr hH hf dX10_why_78
  · have hf := (if_pos cn).symm.trans hf
    refine lv_aload_n hx hb dX10_why_52 rfl (lv_at hl 0 rfl) ?_
    refine pg_gI C hH fl_X10_417 hf dX10_why_53 (fun v53 hf => ?_)
    refine lv_goto (tgt := 78) hx hb dX10_why_56 (by decide) ?_
    exact pg_iret C hr hH hf dX10_why_78
set_option maxHeartbeats 4000000 in
set_option maxRecDepth 100000 in
theorem c_X10_why {l : Launch} {g : GD} {h : PH} {a0 : Nat} {x1 : Int32} {x2 : Int32} {r : Int32} {h' : PH} (hf : mX10_why h a0 x1 x2 = some (r, h')) : Met l yX10_why (Cond.code yX10_why cX10_why 5 (some .int) :: TB) (rmD 15 0 0) (PcH g [.ref (gB g + a0), .int x1, .int x2] h) (QcI g r h') 0 0 (aB g) := by
  refine Met.ofW (cc := cX10_why) (maxL := 5) (ret := some .int) (by decide) rfl ?_
  intro p e s m args below meth c s₁ B hml hv
  obtain ⟨rfl, hH0, hkk0⟩ := hv
  have C : CT g RX10 cX10_why 5 (Cond.code yX10_why cX10_why 5 (some .int) :: TB) p s m _ meth c := pg_ct (Tw := []) B hml hH0 hkk0
  have hr := B.returns
  have hH : HS g s s.heap [] h := ⟨hH0, va_S.rf⟩
  have hl := lv_entry ([.ref (gB g + a0), .int x1, .int x2]) (n := 5) (Nat.le_of_ble_eq_true rfl)
  rw [lg_entry_eq]
  generalize (lg_sl ([.ref (gB g + a0), .int x1, .int x2]) ++ List.replicate (5 - (lg_sl ([.ref (gB g + a0), .int x1, .int x2])).length) Slot.unset).toArray = ls at hl ⊢
  have hl : lv_has ls 5 [(0, .ref (gB g + a0)), (1, .int x1), (2, .int x2)] := hl
  show W p l e (rmD 15 0 0) _ _ _ _ _ _ _ _ _ _ _ _
  unfold mX10_why at hf
  obtain ⟨hO, hf⟩ := oO_sp hf
  obtain ⟨⟨hx, hb, hml, hown, hts⟩, htb, hlk, hkk, hbs⟩ := id C
  refine lv_aload_n hx hb dX10_why_0 rfl (lv_at hl 0 rfl) ?_
  refine lv_iconst (v := (0 : Int32)) hx hb dX10_why_1 (by decide) ?_
  refine pg_pI C hH fl_X10_1 fm_10_0 hf dX10_why_2 (fun H locs h2 hH hf => ?_)
  refine lv_aload_n hx hb dX10_why_5 rfl (lv_at hl 0 rfl) ?_
  refine lv_iload_n hx hb dX10_why_6 rfl (lv_at hl 1 rfl) ?_
  refine pg_Vi (As := [.int x1]) C hH mi_X10_isSale vl_X10_288 (q := (RX10, TX10, 34)) (ci := 10) rfl rfl hf (fun _ e1 => (oO_sp e1).1) (fun _ _ e1 => c_X10_isSale e1) rfl rfl hl.1 (Nat.le_of_ble_eq_true rfl) ⟨Nat.le_of_ble_eq_true rfl, Nat.le_of_ble_eq_true rfl⟩ ⟨Nat.zero_le _, Nat.zero_le _⟩ dX10_why_7 (fun H locs v7 h7 hH hf => ?_)
  refine lv_if_eq (tgt := 18) hx hb dX10_why_10 (by decide) (fun cn => ?_) (fun cn => ?_)
  · have hf := (if_pos cn).symm.trans hf
    refine lv_iconst (v := (-1 : Int32)) hx hb dX10_why_18 (by decide) ?_
    exact pg_iret C hr hH hf dX10_why_19
  · have hf := (if_neg cn).symm.trans hf
    refine lv_iload_n hx hb dX10_why_13 rfl (lv_at hl 2 rfl) ?_
    refine lv_iconst (v := (-1 : Int32)) hx hb dX10_why_14 (by decide) ?_
    refine lv_icmp_ge (tgt := 20) hx hb dX10_why_15 (by decide) (fun cn => ?_) (fun cn => ?_)
    · have hf := (if_pos cn).symm.trans hf
      refine lv_aload_n hx hb dX10_why_20 rfl (lv_at hl 0 rfl) ?_
      refine lv_iload_n hx hb dX10_why_21 rfl (lv_at hl 1 rfl) ?_
      refine pg_Vl (As := [.int x1]) C hH mi_X10_worthOf vl_X10_429 (q := (RX10, TX10, 34)) (ci := 10) rfl rfl hf (fun _ e1 => (oO_sp e1).1) (fun _ _ e1 => c_X10_worthOf e1) rfl rfl hl.1 (Nat.le_of_ble_eq_true rfl) ⟨Nat.le_of_ble_eq_true rfl, Nat.le_of_ble_eq_true rfl⟩ ⟨Nat.zero_le _, Nat.zero_le _⟩ dX10_why_22 (fun H locs v22 h22 hH hf => ?_)
      refine lv_lstore_n (lv' := [(3, .long v22), (0, .ref (gB g + a0)), (1, .int x1), (2, .int x2)]) hx hb dX10_why_25 rfl hl (by decide) rfl (fun ls hl => ?_)
      refine lv_aload_n hx hb dX10_why_26 rfl (lv_at hl 1 rfl) ?_
      refine lv_lload_n hx hb dX10_why_27 rfl (lv_at hl 0 rfl) ?_
      refine lv_ldc2 (v := (-2 : Int64)) hx hb hown (hts _ (htb _ kl_X10_382)) dX10_why_28 ?_
      refine W.lcmp hx hb dX10_why_31 ?_
      refine lv_if_ne (tgt := 40) hx hb dX10_why_32 (by decide) (fun cn => ?_) (fun cn => ?_)
      · have hf := (if_neg (fun z => cn ((lg_cmp_eq _ _).mpr z))).symm.trans hf
        refine lv_aload_n hx hb dX10_why_40 rfl (lv_at hl 1 rfl) ?_
        refine pg_gI C hH fl_X10_417 hf dX10_why_41 (fun v41 hf => ?_)
        exact wX10_why_b44 C hr hH hf (lv_sub hl [1, 3] rfl)
      · have hf := (if_pos ((lg_cmp_eq _ _).mp cn)).symm.trans hf
        refine lv_bipush (v := (6 : Int32)) hx hb dX10_why_35 (by decide) ?_
        refine lv_goto (tgt := 44) hx hb dX10_why_37 (by decide) ?_
        exact wX10_why_b44 C hr hH hf (lv_sub hl [1, 3] rfl)
    · have hf := (if_neg cn).symm.trans hf
      refine lv_iconst (v := (-1 : Int32)) hx hb dX10_why_18 (by decide) ?_
      exact pg_iret C hr hH hf dX10_why_19
set_option maxHeartbeats 4000000 in
set_option maxRecDepth 100000 in
theorem c_X10_test {l : Launch} {g : GD} {h : PH} {a0 : Nat} {x1 : Int32} {x2 : Int32} {r : Int64} {h' : PH} (hf : mX10_test h a0 x1 x2 = some (r, h')) : Met l yX10_test (Cond.code yX10_test cX10_test 3 (some .long) :: TB) (rmD 9 0 0) (PcH g [.ref (gB g + a0), .int x1, .int x2] h) (QcL g r h') 0 0 (aB g) := by
  refine Met.ofW (cc := cX10_test) (maxL := 3) (ret := some .long) (by decide) rfl ?_
  intro p e s m args below meth c s₁ B hml hv
  obtain ⟨rfl, hH0, hkk0⟩ := hv
  have C : CT g RX10 cX10_test 3 (Cond.code yX10_test cX10_test 3 (some .long) :: TB) p s m _ meth c := pg_ct (Tw := []) B hml hH0 hkk0
  have hr := B.returns
  have hH : HS g s s.heap [] h := ⟨hH0, va_S.rf⟩
  have hl := lv_entry ([.ref (gB g + a0), .int x1, .int x2]) (n := 3) (Nat.le_of_ble_eq_true rfl)
  rw [lg_entry_eq]
  generalize (lg_sl ([.ref (gB g + a0), .int x1, .int x2]) ++ List.replicate (3 - (lg_sl ([.ref (gB g + a0), .int x1, .int x2])).length) Slot.unset).toArray = ls at hl ⊢
  have hl : lv_has ls 3 [(0, .ref (gB g + a0)), (1, .int x1), (2, .int x2)] := hl
  show W p l e (rmD 9 0 0) _ _ _ _ _ _ _ _ _ _ _ _
  unfold mX10_test at hf
  obtain ⟨hO, hf⟩ := oO_sp hf
  obtain ⟨⟨hx, hb, hml, hown, hts⟩, htb, hlk, hkk, hbs⟩ := id C
  refine lv_aload_n hx hb dX10_test_0 rfl (lv_at hl 0 rfl) ?_
  refine lv_iconst (v := (0 : Int32)) hx hb dX10_test_1 (by decide) ?_
  refine pg_pI C hH fl_X10_1 fm_10_0 hf dX10_test_2 (fun H locs h2 hH hf => ?_)
  refine lv_aload_n hx hb dX10_test_5 rfl (lv_at hl 0 rfl) ?_
  refine lv_iload_n hx hb dX10_test_6 rfl (lv_at hl 1 rfl) ?_
  refine pg_Vi (As := [.int x1]) C hH mi_X10_isSale vl_X10_288 (q := (RX10, TX10, 34)) (ci := 10) rfl rfl hf (fun _ e1 => (oO_sp e1).1) (fun _ _ e1 => c_X10_isSale e1) rfl rfl hl.1 (Nat.le_of_ble_eq_true rfl) ⟨Nat.le_of_ble_eq_true rfl, Nat.le_of_ble_eq_true rfl⟩ ⟨Nat.zero_le _, Nat.zero_le _⟩ dX10_test_7 (fun H locs v7 h7 hH hf => ?_)
  refine lv_if_eq (tgt := 18) hx hb dX10_test_10 (by decide) (fun cn => ?_) (fun cn => ?_)
  · have hf := (if_pos cn).symm.trans hf
    refine lv_ldc2 (v := (-1 : Int64)) hx hb hown (hts _ (htb _ kl_X10_339)) dX10_test_18 ?_
    exact pg_lret C hr hH hf dX10_test_21
  · have hf := (if_neg cn).symm.trans hf
    refine lv_iload_n hx hb dX10_test_13 rfl (lv_at hl 2 rfl) ?_
    refine lv_iconst (v := (-1 : Int32)) hx hb dX10_test_14 (by decide) ?_
    refine lv_icmp_ge (tgt := 22) hx hb dX10_test_15 (by decide) (fun cn => ?_) (fun cn => ?_)
    · have hf := (if_pos cn).symm.trans hf
      refine lv_aload_n hx hb dX10_test_22 rfl (lv_at hl 0 rfl) ?_
      refine lv_iload_n hx hb dX10_test_23 rfl (lv_at hl 1 rfl) ?_
      refine pg_Vv (As := [.int x1]) C hH mi_X10_laysTests vl_X10_369 (q := (RX10, TX10, 34)) (ci := 10) rfl rfl hf (fun _ e1 => (oO_sp e1).1) (fun _ e1 => c_X10_laysTests e1) rfl rfl hl.1 (Nat.le_of_ble_eq_true rfl) ⟨Nat.le_of_ble_eq_true rfl, Nat.le_of_ble_eq_true rfl⟩ ⟨Nat.zero_le _, Nat.zero_le _⟩ dX10_test_24 (fun H locs h24 hH hf => ?_)
      refine lv_iload_n hx hb dX10_test_27 rfl (lv_at hl 2 rfl) ?_
      refine lv_iconst (v := (-1 : Int32)) hx hb dX10_test_28 (by decide) ?_
      refine lv_icmp_ne (tgt := 40) hx hb dX10_test_29 (by decide) (fun cn => ?_) (fun cn => ?_)
      · have hf := (if_neg cn).symm.trans hf
        refine lv_iload_n hx hb dX10_test_40 rfl (lv_at hl 2 rfl) ?_
        refine lv_aload_n hx hb dX10_test_41 rfl (lv_at hl 0 rfl) ?_
        refine pg_gI C hH fl_X10_344 hf dX10_test_42 (fun v42 hf => ?_)
        refine lv_icmp_ge (tgt := 57) hx hb dX10_test_45 (by decide) (fun cn => ?_) (fun cn => ?_)
        · have hf := (if_pos cn).symm.trans hf
          refine lv_ldc2 (v := (-2 : Int64)) hx hb hown (hts _ (htb _ kl_X10_382)) dX10_test_57 ?_
          exact pg_lret C hr hH hf dX10_test_60
        · have hf := (if_neg cn).symm.trans hf
          refine lv_aload_n hx hb dX10_test_48 rfl (lv_at hl 0 rfl) ?_
          refine pg_gR C hH fl_X10_50 hf dX10_test_49 (fun v49 hf => ?_)
          refine lv_iload_n hx hb dX10_test_52 rfl (lv_at hl 2 rfl) ?_
          refine pg_aL C hH hf dX10_test_53 (fun v53 hf => ?_)
          refine lv_goto (tgt := 60) hx hb dX10_test_54 (by decide) ?_
          exact pg_lret C hr hH hf dX10_test_60
      · have hf := (if_pos cn).symm.trans hf
        refine lv_aload_n hx hb dX10_test_32 rfl (lv_at hl 0 rfl) ?_
        refine pg_gI C hH fl_X10_344 hf dX10_test_33 (fun v33 hf => ?_)
        refine lv_i2l (v := (Int32.toInt64 v33)) hx hb dX10_test_36 rfl ?_
        refine lv_goto (tgt := 60) hx hb dX10_test_37 (by decide) ?_
        exact pg_lret C hr hH hf dX10_test_60
    · have hf := (if_neg cn).symm.trans hf
      refine lv_ldc2 (v := (-1 : Int64)) hx hb hown (hts _ (htb _ kl_X10_339)) dX10_test_18 ?_
      exact pg_lret C hr hH hf dX10_test_21
set_option maxHeartbeats 4000000 in
set_option maxRecDepth 100000 in
theorem c_X10_passes {l : Launch} {g : GD} {h : PH} {a0 : Nat} {x1 : Int32} {r : Int32} {h' : PH} (hf : mX10_passes h a0 x1 = some (r, h')) : Met l yX10_passes (Cond.code yX10_passes cX10_passes 2 (some .int) :: TB) (rmD 10 0 0) (PcH g [.ref (gB g + a0), .int x1] h) (QcI g r h') 0 0 (aB g) := by
  refine Met.ofW (cc := cX10_passes) (maxL := 2) (ret := some .int) (by decide) rfl ?_
  intro p e s m args below meth c s₁ B hml hv
  obtain ⟨rfl, hH0, hkk0⟩ := hv
  have C : CT g RX10 cX10_passes 2 (Cond.code yX10_passes cX10_passes 2 (some .int) :: TB) p s m _ meth c := pg_ct (Tw := []) B hml hH0 hkk0
  have hr := B.returns
  have hH : HS g s s.heap [] h := ⟨hH0, va_S.rf⟩
  have hl := lv_entry ([.ref (gB g + a0), .int x1]) (n := 2) (Nat.le_of_ble_eq_true rfl)
  rw [lg_entry_eq]
  generalize (lg_sl ([.ref (gB g + a0), .int x1]) ++ List.replicate (2 - (lg_sl ([.ref (gB g + a0), .int x1])).length) Slot.unset).toArray = ls at hl ⊢
  have hl : lv_has ls 2 [(0, .ref (gB g + a0)), (1, .int x1)] := hl
  show W p l e (rmD 10 0 0) _ _ _ _ _ _ _ _ _ _ _ _
  unfold mX10_passes at hf
  obtain ⟨hO, hf⟩ := oO_sp hf
  obtain ⟨⟨hx, hb, hml, hown, hts⟩, htb, hlk, hkk, hbs⟩ := id C
  refine lv_aload_n hx hb dX10_passes_0 rfl (lv_at hl 0 rfl) ?_
  refine lv_iconst (v := (0 : Int32)) hx hb dX10_passes_1 (by decide) ?_
  refine pg_pI C hH fl_X10_1 fm_10_0 hf dX10_passes_2 (fun H locs h2 hH hf => ?_)
  refine lv_aload_n hx hb dX10_passes_5 rfl (lv_at hl 0 rfl) ?_
  refine lv_iload_n hx hb dX10_passes_6 rfl (lv_at hl 1 rfl) ?_
  refine pg_Vi (As := [.int x1]) C hH mi_X10_isSale vl_X10_288 (q := (RX10, TX10, 34)) (ci := 10) rfl rfl hf (fun _ e1 => (oO_sp e1).1) (fun _ _ e1 => c_X10_isSale e1) rfl rfl hl.1 (Nat.le_of_ble_eq_true rfl) ⟨Nat.le_of_ble_eq_true rfl, Nat.le_of_ble_eq_true rfl⟩ ⟨Nat.zero_le _, Nat.zero_le _⟩ dX10_passes_7 (fun H locs v7 h7 hH hf => ?_)
  refine lv_if_ne (tgt := 17) hx hb dX10_passes_10 (by decide) (fun cn => ?_) (fun cn => ?_)
  · have hf := (if_neg cn).symm.trans hf
    refine lv_aload_n hx hb dX10_passes_17 rfl (lv_at hl 0 rfl) ?_
    refine lv_iload_n hx hb dX10_passes_18 rfl (lv_at hl 1 rfl) ?_
    refine pg_Vi (As := [.int x1]) C hH mi_X10_doesPass vl_X10_379 (q := (RX10, TX10, 34)) (ci := 10) rfl rfl hf (fun _ e1 => (oO_sp e1).1) (fun _ _ e1 => c_X10_doesPass e1) rfl rfl hl.1 (Nat.le_of_ble_eq_true rfl) ⟨Nat.le_of_ble_eq_true rfl, Nat.le_of_ble_eq_true rfl⟩ ⟨Nat.zero_le _, Nat.zero_le _⟩ dX10_passes_19 (fun H locs v19 h19 hH hf => ?_)
    refine lv_if_eq (tgt := 29) hx hb dX10_passes_22 (by decide) (fun cn => ?_) (fun cn => ?_)
    · have hf := (if_pos cn).symm.trans hf
      refine lv_iconst (v := (0 : Int32)) hx hb dX10_passes_29 (by decide) ?_
      exact pg_iret C hr hH hf dX10_passes_30
    · have hf := (if_neg cn).symm.trans hf
      refine lv_iconst (v := (1 : Int32)) hx hb dX10_passes_25 (by decide) ?_
      refine lv_goto (tgt := 30) hx hb dX10_passes_26 (by decide) ?_
      exact pg_iret C hr hH hf dX10_passes_30
  · have hf := (if_pos cn).symm.trans hf
    refine lv_iconst (v := (-1 : Int32)) hx hb dX10_passes_13 (by decide) ?_
    refine lv_goto (tgt := 30) hx hb dX10_passes_14 (by decide) ?_
    exact pg_iret C hr hH hf dX10_passes_30
set_option maxHeartbeats 4000000 in
set_option maxRecDepth 100000 in
theorem wX10_prices_b44 {r44 : PH → Nat → Int32 → Int32 → Int32 → Int32 → Int32 → Int32 → Option (Int32 × PH)} {r : Int32} {h' : PH} (C : CT g RX10 cX10_prices 7 (Cond.code yX10_prices cX10_prices 7 (some .int) :: TB) p s m args meth c) (hr : meth.sig.returnType = some .int) (k44 : ∀ {h : PH} {a0 : Nat} {x1 : Int32} {x2 : Int32} {x3 : Int32} {x4 : Int32} {x5 : Int32} {x6 : Int32} {H : Heap} {locs : List Loc} {ls : Array Slot}, HS g s H locs h → r44 h a0 x1 x2 x3 x4 x5 x6 = some (r, h') → lv_has ls 7 [(0, .ref (gB g + a0)), (1, .int x1), (2, .int x2), (3, .int x3), (4, .int x4), (5, .int x5), (6, .int x6)] → W p l e (rmD 9 0 0) s m args below meth c H locs 0 0 (MQ below (QcI g r h') args s 0 0 (aB g)) (F0 m 44 ls [])) {h : PH} {a0 : Nat} {x1 : Int32} {x2 : Int32} {x3 : Int32} {x4 : Int32} {x5 : Int32} {x6 : Int32} {H : Heap} {locs : List Loc} {ls : Array Slot} (hH : HS g s H locs h) (hf : mX10_prices_b44 r44 h a0 x1 x2 x3 x4 x5 x6 = some (r, h')) (hl : lv_has ls 7 [(0, .ref (gB g + a0)), (1, .int x1), (2, .int x2), (3, .int x3), (4, .int x4), (5, .int x5), (6, .int x6)]) : W p l e (rmD 9 0 0) s m args below meth c H locs 0 0 (MQ below (QcI g r h') args s 0 0 (aB g)) (F0 m 44 ls []) := by
  obtain ⟨⟨hx, hb, hml, hown, hts⟩, htb, hlk, hkk, hbs⟩ := id C
  unfold mX10_prices_b44 at hf
  refine lv_iload hx hb dX10_prices_44 (lv_at hl 6 rfl) ?_
  refine lv_sipush (v := (9999 : Int32)) hx hb dX10_prices_46 (by decide) ?_
  refine lv_icmp_gt (tgt := 101) hx hb dX10_prices_49 (by decide) (fun cn => ?_) (fun cn => ?_)
  · have hf := (if_pos cn).symm.trans hf
    refine lv_iload_n hx hb dX10_prices_101 rfl (lv_at hl 2 rfl) ?_
    refine lv_if_ne (tgt := 109) hx hb dX10_prices_102 (by decide) (fun cn => ?_) (fun cn => ?_)
    · have hf := (if_neg cn).symm.trans hf
      refine lv_iload_n hx hb dX10_prices_109 rfl (lv_at hl 2 rfl) ?_
      refine lv_iconst (v := (1 : Int32)) hx hb dX10_prices_110 (by decide) ?_
      refine lv_icmp_ne (tgt := 119) hx hb dX10_prices_111 (by decide) (fun cn => ?_) (fun cn => ?_)
      · have hf := (if_neg cn).symm.trans hf
        refine lv_iload hx hb dX10_prices_119 (lv_at hl 5 rfl) ?_
        exact pg_iret C hr hH hf dX10_prices_121
      · have hf := (if_pos cn).symm.trans hf
        refine lv_iload hx hb dX10_prices_114 (lv_at hl 4 rfl) ?_
        refine lv_goto (tgt := 121) hx hb dX10_prices_116 (by decide) ?_
        exact pg_iret C hr hH hf dX10_prices_121
    · have hf := (if_pos cn).symm.trans hf
      refine lv_iload_n hx hb dX10_prices_105 rfl (lv_at hl 3 rfl) ?_
      refine lv_goto (tgt := 121) hx hb dX10_prices_106 (by decide) ?_
      exact pg_iret C hr hH hf dX10_prices_121
  · have hf := (if_neg cn).symm.trans hf
    refine lv_aload_n hx hb dX10_prices_52 rfl (lv_at hl 0 rfl) ?_
    refine lv_aload_n hx hb dX10_prices_53 rfl (lv_at hl 0 rfl) ?_
    refine lv_iload_n hx hb dX10_prices_54 rfl (lv_at hl 1 rfl) ?_
    refine lv_iload hx hb dX10_prices_55 (lv_at hl 6 rfl) ?_
    refine pg_Vl (As := [.int x1, .int x6]) C hH mi_X10_ownAt vl_X10_331 (q := (RX10, TX10, 34)) (ci := 10) rfl rfl hf (fun _ e1 => (oO_sp e1).1) (fun _ _ e1 => c_X10_ownAt e1) rfl rfl hl.1 (Nat.le_of_ble_eq_true rfl) ⟨Nat.le_of_ble_eq_true rfl, Nat.le_of_ble_eq_true rfl⟩ ⟨Nat.zero_le _, Nat.zero_le _⟩ dX10_prices_57 (fun H locs v57 h57 hH hf => ?_)
    refine lv_aload_n hx hb dX10_prices_60 rfl (lv_at hl 0 rfl) ?_
    refine pg_gR C hH fl_X10_13 hf dX10_prices_61 (fun v61 hf => ?_)
    refine lv_bipush (v := (6 : Int32)) hx hb dX10_prices_64 (by decide) ?_
    refine pg_aI C hH hf dX10_prices_66 (fun v66 hf => ?_)
    refine pg_Vi (As := [.long v57, .int v66]) C hH mi_X10_isNear vl_X10_372 (q := (RX10, TX10, 34)) (ci := 10) rfl rfl hf (fun _ e1 => (oO_sp e1).1) (fun _ _ e1 => c_X10_isNear e1) rfl rfl hl.1 (Nat.le_of_ble_eq_true rfl) ⟨Nat.le_of_ble_eq_true rfl, Nat.le_of_ble_eq_true rfl⟩ ⟨Nat.zero_le _, Nat.zero_le _⟩ dX10_prices_67 (fun H locs v67 h67 hH hf => ?_)
    refine lv_if_eq (tgt := 95) hx hb dX10_prices_70 (by decide) (fun cn => ?_) (fun cn => ?_)
    · have hf := (if_pos cn).symm.trans hf
      refine lv_iinc (v := (x6 + 1)) (lv' := [(6, .int (x6 + 1)), (0, .ref (gB g + a0)), (1, .int x1), (2, .int x2), (3, .int x3), (4, .int x4), (5, .int x5)]) hx hb dX10_prices_95 hl (k := 6) rfl rfl (by decide) rfl (fun ls hl => ?_)
      refine lv_goto (tgt := 44) hx hb dX10_prices_98 (by decide) ?_
      exact k44 hH hf (lv_sub hl [1, 2, 3, 4, 5, 6, 0] rfl)
    · have hf := (if_neg cn).symm.trans hf
      refine lv_iinc (v := (x3 + 1)) (lv' := [(3, .int (x3 + 1)), (0, .ref (gB g + a0)), (1, .int x1), (2, .int x2), (4, .int x4), (5, .int x5), (6, .int x6)]) hx hb dX10_prices_73 hl (k := 3) rfl rfl (by decide) rfl (fun ls hl => ?_)
      refine lv_iload hx hb dX10_prices_76 (lv_at hl 4 rfl) ?_
      refine lv_iconst (v := (-1 : Int32)) hx hb dX10_prices_78 (by decide) ?_
      refine lv_icmp_ne (tgt := 87) hx hb dX10_prices_79 (by decide) (fun cn => ?_) (fun cn => ?_)
      · have hf := (if_neg cn).symm.trans hf
        refine lv_iload hx hb dX10_prices_87 (lv_at hl 4 rfl) ?_
        refine lv_istore (lv' := [(4, .int x4), (3, .int (x3 + 1)), (0, .ref (gB g + a0)), (1, .int x1), (2, .int x2), (5, .int x5), (6, .int x6)]) hx hb dX10_prices_89 hl (by decide) rfl (fun ls hl => ?_)
        refine lv_iload hx hb dX10_prices_91 (lv_at hl 6 rfl) ?_
        refine lv_istore (lv' := [(5, .int x6), (4, .int x4), (3, .int (x3 + 1)), (0, .ref (gB g + a0)), (1, .int x1), (2, .int x2), (6, .int x6)]) hx hb dX10_prices_93 hl (by decide) rfl (fun ls hl => ?_)
        refine lv_iinc (v := (x6 + 1)) (lv' := [(6, .int (x6 + 1)), (5, .int x6), (4, .int x4), (3, .int (x3 + 1)), (0, .ref (gB g + a0)), (1, .int x1), (2, .int x2)]) hx hb dX10_prices_95 hl (k := 6) rfl rfl (by decide) rfl (fun ls hl => ?_)
        refine lv_goto (tgt := 44) hx hb dX10_prices_98 (by decide) ?_
        exact k44 hH hf (lv_sub hl [4, 5, 6, 3, 2, 1, 0] rfl)
      · have hf := (if_pos cn).symm.trans hf
        refine lv_iload hx hb dX10_prices_82 (lv_at hl 6 rfl) ?_
        refine lv_goto (tgt := 89) hx hb dX10_prices_84 (by decide) ?_
        refine lv_istore (lv' := [(4, .int x6), (3, .int (x3 + 1)), (0, .ref (gB g + a0)), (1, .int x1), (2, .int x2), (5, .int x5), (6, .int x6)]) hx hb dX10_prices_89 hl (by decide) rfl (fun ls hl => ?_)
        refine lv_iload hx hb dX10_prices_91 (lv_at hl 6 rfl) ?_
        refine lv_istore (lv' := [(5, .int x6), (4, .int x6), (3, .int (x3 + 1)), (0, .ref (gB g + a0)), (1, .int x1), (2, .int x2), (6, .int x6)]) hx hb dX10_prices_93 hl (by decide) rfl (fun ls hl => ?_)
        refine lv_iinc (v := (x6 + 1)) (lv' := [(6, .int (x6 + 1)), (5, .int x6), (4, .int x6), (3, .int (x3 + 1)), (0, .ref (gB g + a0)), (1, .int x1), (2, .int x2)]) hx hb dX10_prices_95 hl (k := 6) rfl rfl (by decide) rfl (fun ls hl => ?_)
        refine lv_goto (tgt := 44) hx hb dX10_prices_98 (by decide) ?_
        exact k44 hH hf (lv_sub hl [4, 5, 6, 3, 2, 1, 0] rfl)
set_option maxHeartbeats 4000000 in
set_option maxRecDepth 100000 in
theorem wX10_prices_L44 {r : Int32} {h' : PH} (C : CT g RX10 cX10_prices 7 (Cond.code yX10_prices cX10_prices 7 (some .int) :: TB) p s m args meth c) (hr : meth.sig.returnType = some .int) : ∀ (n : Nat) {h : PH} {a0 : Nat} {x1 : Int32} {x2 : Int32} {x3 : Int32} {x4 : Int32} {x5 : Int32} {x6 : Int32} {H : Heap} {locs : List Loc} {ls : Array Slot}, HS g s H locs h → mX10_prices_L44 n h a0 x1 x2 x3 x4 x5 x6 = some (r, h') → lv_has ls 7 [(0, .ref (gB g + a0)), (1, .int x1), (2, .int x2), (3, .int x3), (4, .int x4), (5, .int x5), (6, .int x6)] → W p l e (rmD 9 0 0) s m args below meth c H locs 0 0 (MQ below (QcI g r h') args s 0 0 (aB g)) (F0 m 44 ls []) := by
  intro n
  induction n with
  | zero =>
    intro h a0 x1 x2 x3 x4 x5 x6 H locs ls hH hf hl
    exact absurd hf (by intro z; cases z)
  | succ n ih =>
    intro h a0 x1 x2 x3 x4 x5 x6 H locs ls hH hf hl
    have hf : mX10_prices_b44 (mX10_prices_L44 n) h a0 x1 x2 x3 x4 x5 x6 = some (r, h') := hf
    exact wX10_prices_b44 C hr (fun a b c => ih a b c) hH hf hl
set_option maxHeartbeats 4000000 in
set_option maxRecDepth 100000 in
theorem c_X10_prices {l : Launch} {g : GD} {h : PH} {a0 : Nat} {x1 : Int32} {x2 : Int32} {r : Int32} {h' : PH} (hf : mX10_prices h a0 x1 x2 = some (r, h')) : Met l yX10_prices (Cond.code yX10_prices cX10_prices 7 (some .int) :: TB) (rmD 9 0 0) (PcH g [.ref (gB g + a0), .int x1, .int x2] h) (QcI g r h') 0 0 (aB g) := by
  refine Met.ofW (cc := cX10_prices) (maxL := 7) (ret := some .int) (by decide) rfl ?_
  intro p e s m args below meth c s₁ B hml hv
  obtain ⟨rfl, hH0, hkk0⟩ := hv
  have C : CT g RX10 cX10_prices 7 (Cond.code yX10_prices cX10_prices 7 (some .int) :: TB) p s m _ meth c := pg_ct (Tw := []) B hml hH0 hkk0
  have hr := B.returns
  have hH : HS g s s.heap [] h := ⟨hH0, va_S.rf⟩
  have hl := lv_entry ([.ref (gB g + a0), .int x1, .int x2]) (n := 7) (Nat.le_of_ble_eq_true rfl)
  rw [lg_entry_eq]
  generalize (lg_sl ([.ref (gB g + a0), .int x1, .int x2]) ++ List.replicate (7 - (lg_sl ([.ref (gB g + a0), .int x1, .int x2])).length) Slot.unset).toArray = ls at hl ⊢
  have hl : lv_has ls 7 [(0, .ref (gB g + a0)), (1, .int x1), (2, .int x2)] := hl
  show W p l e (rmD 9 0 0) _ _ _ _ _ _ _ _ _ _ _ _
  unfold mX10_prices at hf
  obtain ⟨hO, hf⟩ := oO_sp hf
  obtain ⟨⟨hx, hb, hml, hown, hts⟩, htb, hlk, hkk, hbs⟩ := id C
  refine lv_aload_n hx hb dX10_prices_0 rfl (lv_at hl 0 rfl) ?_
  refine lv_iconst (v := (0 : Int32)) hx hb dX10_prices_1 (by decide) ?_
  refine pg_pI C hH fl_X10_1 fm_10_0 hf dX10_prices_2 (fun H locs h2 hH hf => ?_)
  refine lv_aload_n hx hb dX10_prices_5 rfl (lv_at hl 0 rfl) ?_
  refine lv_iload_n hx hb dX10_prices_6 rfl (lv_at hl 1 rfl) ?_
  refine pg_Vi (As := [.int x1]) C hH mi_X10_isSale vl_X10_288 (q := (RX10, TX10, 34)) (ci := 10) rfl rfl hf (fun _ e1 => (oO_sp e1).1) (fun _ _ e1 => c_X10_isSale e1) rfl rfl hl.1 (Nat.le_of_ble_eq_true rfl) ⟨Nat.le_of_ble_eq_true rfl, Nat.le_of_ble_eq_true rfl⟩ ⟨Nat.zero_le _, Nat.zero_le _⟩ dX10_prices_7 (fun H locs v7 h7 hH hf => ?_)
  refine lv_if_eq (tgt := 25) hx hb dX10_prices_10 (by decide) (fun cn => ?_) (fun cn => ?_)
  · have hf := (if_pos cn).symm.trans hf
    refine lv_bipush (v := (-2 : Int32)) hx hb dX10_prices_25 (by decide) ?_
    exact pg_iret C hr hH hf dX10_prices_27
  · have hf := (if_neg cn).symm.trans hf
    refine lv_iload_n hx hb dX10_prices_13 rfl (lv_at hl 2 rfl) ?_
    refine lv_i2l (v := (Int32.toInt64 x2)) hx hb dX10_prices_14 rfl ?_
    refine lv_lconst (v := (0 : Int64)) hx hb dX10_prices_15 (by decide) ?_
    refine lv_ldc2 (v := (2 : Int64)) hx hb hown (hts _ (htb _ kl_X10_415)) dX10_prices_16 ?_
    refine pg_Si (As := [.long (Int32.toInt64 x2), .long (0 : Int64), .long (2 : Int64)]) C hH mi_X10_within sl_X10_97 hf (fun _ _ e1 => c_X10_within e1) rfl rfl hl.1 (Nat.le_of_ble_eq_true rfl) ⟨Nat.le_of_ble_eq_true rfl, Nat.le_of_ble_eq_true rfl⟩ ⟨Nat.zero_le _, Nat.zero_le _⟩ dX10_prices_19 (fun H locs v19 h19 hH hf => ?_)
    refine lv_if_ne (tgt := 28) hx hb dX10_prices_22 (by decide) (fun cn => ?_) (fun cn => ?_)
    · have hf := (if_neg cn).symm.trans hf
      refine lv_aload_n hx hb dX10_prices_28 rfl (lv_at hl 0 rfl) ?_
      refine lv_iload_n hx hb dX10_prices_29 rfl (lv_at hl 1 rfl) ?_
      refine pg_Vv (As := [.int x1]) C hH mi_X10_laysTests vl_X10_369 (q := (RX10, TX10, 34)) (ci := 10) rfl rfl hf (fun _ e1 => (oO_sp e1).1) (fun _ e1 => c_X10_laysTests e1) rfl rfl hl.1 (Nat.le_of_ble_eq_true rfl) ⟨Nat.le_of_ble_eq_true rfl, Nat.le_of_ble_eq_true rfl⟩ ⟨Nat.zero_le _, Nat.zero_le _⟩ dX10_prices_30 (fun H locs h30 hH hf => ?_)
      refine lv_iconst (v := (0 : Int32)) hx hb dX10_prices_33 (by decide) ?_
      refine lv_istore_n (lv' := [(3, .int (0 : Int32)), (0, .ref (gB g + a0)), (1, .int x1), (2, .int x2)]) hx hb dX10_prices_34 rfl hl (by decide) rfl (fun ls hl => ?_)
      refine lv_iconst (v := (-1 : Int32)) hx hb dX10_prices_35 (by decide) ?_
      refine lv_istore (lv' := [(4, .int (-1 : Int32)), (3, .int (0 : Int32)), (0, .ref (gB g + a0)), (1, .int x1), (2, .int x2)]) hx hb dX10_prices_36 hl (by decide) rfl (fun ls hl => ?_)
      refine lv_iconst (v := (-1 : Int32)) hx hb dX10_prices_38 (by decide) ?_
      refine lv_istore (lv' := [(5, .int (-1 : Int32)), (4, .int (-1 : Int32)), (3, .int (0 : Int32)), (0, .ref (gB g + a0)), (1, .int x1), (2, .int x2)]) hx hb dX10_prices_39 hl (by decide) rfl (fun ls hl => ?_)
      refine lv_iconst (v := (1 : Int32)) hx hb dX10_prices_41 (by decide) ?_
      refine lv_istore (lv' := [(6, .int (1 : Int32)), (5, .int (-1 : Int32)), (4, .int (-1 : Int32)), (3, .int (0 : Int32)), (0, .ref (gB g + a0)), (1, .int x1), (2, .int x2)]) hx hb dX10_prices_42 hl (by decide) rfl (fun ls hl => ?_)
      exact wX10_prices_L44 C hr FU hH hf (lv_sub hl [4, 5, 6, 3, 2, 1, 0] rfl)
    · have hf := (if_pos cn).symm.trans hf
      refine lv_bipush (v := (-2 : Int32)) hx hb dX10_prices_25 (by decide) ?_
      exact pg_iret C hr hH hf dX10_prices_27
set_option maxHeartbeats 4000000 in
set_option maxRecDepth 100000 in
theorem wX10_needs_b29 {r29 : PH → Nat → Int64 → Int32 → Option (Int32 × PH)} {r : Int32} {h' : PH} (C : CT g RX10 cX10_needs 5 (Cond.code yX10_needs cX10_needs 5 (some .int) :: TB) p s m args meth c) (hr : meth.sig.returnType = some .int) (k29 : ∀ {h : PH} {a0 : Nat} {x2 : Int64} {x4 : Int32} {H : Heap} {locs : List Loc} {ls : Array Slot}, HS g s H locs h → r29 h a0 x2 x4 = some (r, h') → lv_has ls 5 [(0, .ref (gB g + a0)), (2, .long x2), (4, .int x4)] → W p l e (rmD 9 0 0) s m args below meth c H locs 0 0 (MQ below (QcI g r h') args s 0 0 (aB g)) (F0 m 29 ls [])) {h : PH} {a0 : Nat} {x2 : Int64} {x4 : Int32} {H : Heap} {locs : List Loc} {ls : Array Slot} (hH : HS g s H locs h) (hf : mX10_needs_b29 r29 h a0 x2 x4 = some (r, h')) (hl : lv_has ls 5 [(0, .ref (gB g + a0)), (2, .long x2), (4, .int x4)]) : W p l e (rmD 9 0 0) s m args below meth c H locs 0 0 (MQ below (QcI g r h') args s 0 0 (aB g)) (F0 m 29 ls []) := by
  obtain ⟨⟨hx, hb, hml, hown, hts⟩, htb, hlk, hkk, hbs⟩ := id C
  unfold mX10_needs_b29 at hf
  refine lv_iload hx hb dX10_needs_29 (lv_at hl 2 rfl) ?_
  refine lv_bipush (v := (50 : Int32)) hx hb dX10_needs_31 (by decide) ?_
  refine lv_icmp_gt (tgt := 55) hx hb dX10_needs_33 (by decide) (fun cn => ?_) (fun cn => ?_)
  · have hf := (if_pos cn).symm.trans hf
    refine lv_bipush (v := (-2 : Int32)) hx hb dX10_needs_55 (by decide) ?_
    exact pg_iret C hr hH hf dX10_needs_57
  · have hf := (if_neg cn).symm.trans hf
    refine lv_aload_n hx hb dX10_needs_36 rfl (lv_at hl 0 rfl) ?_
    refine lv_lload_n hx hb dX10_needs_37 rfl (lv_at hl 1 rfl) ?_
    refine lv_iload hx hb dX10_needs_38 (lv_at hl 2 rfl) ?_
    refine pg_Vi (As := [.long x2, .int x4]) C hH mi_X10_isNear vl_X10_372 (q := (RX10, TX10, 34)) (ci := 10) rfl rfl hf (fun _ e1 => (oO_sp e1).1) (fun _ _ e1 => c_X10_isNear e1) rfl rfl hl.1 (Nat.le_of_ble_eq_true rfl) ⟨Nat.le_of_ble_eq_true rfl, Nat.le_of_ble_eq_true rfl⟩ ⟨Nat.zero_le _, Nat.zero_le _⟩ dX10_needs_40 (fun H locs v40 h40 hH hf => ?_)
    refine lv_if_eq (tgt := 49) hx hb dX10_needs_43 (by decide) (fun cn => ?_) (fun cn => ?_)
    · have hf := (if_pos cn).symm.trans hf
      refine lv_iinc (v := (x4 + 1)) (lv' := [(4, .int (x4 + 1)), (0, .ref (gB g + a0)), (2, .long x2)]) hx hb dX10_needs_49 hl (k := 2) rfl rfl (by decide) rfl (fun ls hl => ?_)
      refine lv_goto (tgt := 29) hx hb dX10_needs_52 (by decide) ?_
      exact k29 hH hf (lv_sub hl [1, 2, 0] rfl)
    · have hf := (if_neg cn).symm.trans hf
      refine lv_iload hx hb dX10_needs_46 (lv_at hl 2 rfl) ?_
      exact pg_iret C hr hH hf dX10_needs_48
set_option maxHeartbeats 4000000 in
set_option maxRecDepth 100000 in
theorem wX10_needs_L29 {r : Int32} {h' : PH} (C : CT g RX10 cX10_needs 5 (Cond.code yX10_needs cX10_needs 5 (some .int) :: TB) p s m args meth c) (hr : meth.sig.returnType = some .int) : ∀ (n : Nat) {h : PH} {a0 : Nat} {x2 : Int64} {x4 : Int32} {H : Heap} {locs : List Loc} {ls : Array Slot}, HS g s H locs h → mX10_needs_L29 n h a0 x2 x4 = some (r, h') → lv_has ls 5 [(0, .ref (gB g + a0)), (2, .long x2), (4, .int x4)] → W p l e (rmD 9 0 0) s m args below meth c H locs 0 0 (MQ below (QcI g r h') args s 0 0 (aB g)) (F0 m 29 ls []) := by
  intro n
  induction n with
  | zero =>
    intro h a0 x2 x4 H locs ls hH hf hl
    exact absurd hf (by intro z; cases z)
  | succ n ih =>
    intro h a0 x2 x4 H locs ls hH hf hl
    have hf : mX10_needs_b29 (mX10_needs_L29 n) h a0 x2 x4 = some (r, h') := hf
    exact wX10_needs_b29 C hr (fun a b c => ih a b c) hH hf hl
set_option maxHeartbeats 4000000 in
set_option maxRecDepth 100000 in
theorem c_X10_needs {l : Launch} {g : GD} {h : PH} {a0 : Nat} {x1 : Int32} {r : Int32} {h' : PH} (hf : mX10_needs h a0 x1 = some (r, h')) : Met l yX10_needs (Cond.code yX10_needs cX10_needs 5 (some .int) :: TB) (rmD 9 0 0) (PcH g [.ref (gB g + a0), .int x1] h) (QcI g r h') 0 0 (aB g) := by
  refine Met.ofW (cc := cX10_needs) (maxL := 5) (ret := some .int) (by decide) rfl ?_
  intro p e s m args below meth c s₁ B hml hv
  obtain ⟨rfl, hH0, hkk0⟩ := hv
  have C : CT g RX10 cX10_needs 5 (Cond.code yX10_needs cX10_needs 5 (some .int) :: TB) p s m _ meth c := pg_ct (Tw := []) B hml hH0 hkk0
  have hr := B.returns
  have hH : HS g s s.heap [] h := ⟨hH0, va_S.rf⟩
  have hl := lv_entry ([.ref (gB g + a0), .int x1]) (n := 5) (Nat.le_of_ble_eq_true rfl)
  rw [lg_entry_eq]
  generalize (lg_sl ([.ref (gB g + a0), .int x1]) ++ List.replicate (5 - (lg_sl ([.ref (gB g + a0), .int x1])).length) Slot.unset).toArray = ls at hl ⊢
  have hl : lv_has ls 5 [(0, .ref (gB g + a0)), (1, .int x1)] := hl
  show W p l e (rmD 9 0 0) _ _ _ _ _ _ _ _ _ _ _ _
  unfold mX10_needs at hf
  obtain ⟨hO, hf⟩ := oO_sp hf
  obtain ⟨⟨hx, hb, hml, hown, hts⟩, htb, hlk, hkk, hbs⟩ := id C
  refine lv_aload_n hx hb dX10_needs_0 rfl (lv_at hl 0 rfl) ?_
  refine lv_iconst (v := (0 : Int32)) hx hb dX10_needs_1 (by decide) ?_
  refine pg_pI C hH fl_X10_1 fm_10_0 hf dX10_needs_2 (fun H locs h2 hH hf => ?_)
  refine lv_aload_n hx hb dX10_needs_5 rfl (lv_at hl 0 rfl) ?_
  refine lv_iload_n hx hb dX10_needs_6 rfl (lv_at hl 1 rfl) ?_
  refine pg_Vi (As := [.int x1]) C hH mi_X10_isSale vl_X10_288 (q := (RX10, TX10, 34)) (ci := 10) rfl rfl hf (fun _ e1 => (oO_sp e1).1) (fun _ _ e1 => c_X10_isSale e1) rfl rfl hl.1 (Nat.le_of_ble_eq_true rfl) ⟨Nat.le_of_ble_eq_true rfl, Nat.le_of_ble_eq_true rfl⟩ ⟨Nat.zero_le _, Nat.zero_le _⟩ dX10_needs_7 (fun H locs v7 h7 hH hf => ?_)
  refine lv_if_ne (tgt := 15) hx hb dX10_needs_10 (by decide) (fun cn => ?_) (fun cn => ?_)
  · have hf := (if_neg cn).symm.trans hf
    refine lv_aload_n hx hb dX10_needs_15 rfl (lv_at hl 0 rfl) ?_
    refine lv_iload_n hx hb dX10_needs_16 rfl (lv_at hl 1 rfl) ?_
    refine pg_Vv (As := [.int x1]) C hH mi_X10_laysTests vl_X10_369 (q := (RX10, TX10, 34)) (ci := 10) rfl rfl hf (fun _ e1 => (oO_sp e1).1) (fun _ e1 => c_X10_laysTests e1) rfl rfl hl.1 (Nat.le_of_ble_eq_true rfl) ⟨Nat.le_of_ble_eq_true rfl, Nat.le_of_ble_eq_true rfl⟩ ⟨Nat.zero_le _, Nat.zero_le _⟩ dX10_needs_17 (fun H locs h17 hH hf => ?_)
    refine lv_aload_n hx hb dX10_needs_20 rfl (lv_at hl 0 rfl) ?_
    refine lv_iload_n hx hb dX10_needs_21 rfl (lv_at hl 1 rfl) ?_
    refine pg_Vl (As := [.int x1]) C hH mi_X10_ownOf vl_X10_335 (q := (RX10, TX10, 34)) (ci := 10) rfl rfl hf (fun _ e1 => (oO_sp e1).1) (fun _ _ e1 => c_X10_ownOf e1) rfl rfl hl.1 (Nat.le_of_ble_eq_true rfl) ⟨Nat.le_of_ble_eq_true rfl, Nat.le_of_ble_eq_true rfl⟩ ⟨Nat.zero_le _, Nat.zero_le _⟩ dX10_needs_22 (fun H locs v22 h22 hH hf => ?_)
    refine lv_lstore_n (lv' := [(2, .long v22), (0, .ref (gB g + a0)), (1, .int x1)]) hx hb dX10_needs_25 rfl hl (by decide) rfl (fun ls hl => ?_)
    refine lv_iconst (v := (0 : Int32)) hx hb dX10_needs_26 (by decide) ?_
    refine lv_istore (lv' := [(4, .int (0 : Int32)), (2, .long v22), (0, .ref (gB g + a0)), (1, .int x1)]) hx hb dX10_needs_27 hl (by decide) rfl (fun ls hl => ?_)
    exact wX10_needs_L29 C hr FU hH hf (lv_sub hl [2, 1, 0] rfl)
  · have hf := (if_pos cn).symm.trans hf
    refine lv_iconst (v := (-1 : Int32)) hx hb dX10_needs_13 (by decide) ?_
    exact pg_iret C hr hH hf dX10_needs_14
set_option maxHeartbeats 4000000 in
set_option maxRecDepth 100000 in
theorem wX10_rests_b51 {r27 : PH → Nat → Int32 → Int64 → Int32 → Int32 → Option (Int32 × PH)} {r : Int32} {h' : PH} (C : CT g RX10 cX10_rests 6 (Cond.code yX10_rests cX10_rests 6 (some .int) :: TB) p s m args meth c) (hr : meth.sig.returnType = some .int) (k27 : ∀ {h : PH} {a0 : Nat} {x1 : Int32} {x2 : Int64} {x4 : Int32} {x5 : Int32} {H : Heap} {locs : List Loc} {ls : Array Slot}, HS g s H locs h → r27 h a0 x1 x2 x4 x5 = some (r, h') → lv_has ls 6 [(0, .ref (gB g + a0)), (1, .int x1), (2, .long x2), (4, .int x4), (5, .int x5)] → W p l e (rmD 15 0 0) s m args below meth c H locs 0 0 (MQ below (QcI g r h') args s 0 0 (aB g)) (F0 m 27 ls [])) {h : PH} {a0 : Nat} {x1 : Int32} {x2 : Int64} {x4 : Int32} {x5 : Int32} {s0 : Nat} {s1 : Int32} {H : Heap} {locs : List Loc} {ls : Array Slot} (hH : HS g s H locs h) (hf : mX10_rests_b51 r27 h a0 x1 x2 x4 x5 s0 s1 = some (r, h')) (hl : lv_has ls 6 [(0, .ref (gB g + a0)), (1, .int x1), (2, .long x2), (4, .int x4), (5, .int x5)]) : W p l e (rmD 15 0 0) s m args below meth c H locs 0 0 (MQ below (QcI g r h') args s 0 0 (aB g)) (F0 m 51 ls [.int s1, .ref (gB g + s0)]) := by
  obtain ⟨⟨hx, hb, hml, hown, hts⟩, htb, hlk, hkk, hbs⟩ := id C
  unfold mX10_rests_b51 at hf
  refine pg_pI C hH fl_X10_47 fm_10_23 hf dX10_rests_51 (fun H locs h51 hH hf => ?_)
  refine lv_iload hx hb dX10_rests_54 (lv_at hl 3 rfl) ?_
  refine lv_aload_n hx hb dX10_rests_56 rfl (lv_at hl 0 rfl) ?_
  refine lv_iload_n hx hb dX10_rests_57 rfl (lv_at hl 1 rfl) ?_
  refine pg_Vl (As := [.int x1]) C hH mi_X10_worthOf vl_X10_429 (q := (RX10, TX10, 34)) (ci := 10) rfl rfl hf (fun _ e1 => (oO_sp e1).1) (fun _ _ e1 => c_X10_worthOf e1) rfl rfl hl.1 (Nat.le_of_ble_eq_true rfl) ⟨Nat.le_of_ble_eq_true rfl, Nat.le_of_ble_eq_true rfl⟩ ⟨Nat.zero_le _, Nat.zero_le _⟩ dX10_rests_58 (fun H locs v58 h58 hH hf => ?_)
  refine lv_lload_n hx hb dX10_rests_61 rfl (lv_at hl 2 rfl) ?_
  refine W.lcmp hx hb dX10_rests_62 ?_
  refine lv_if_eq (tgt := 73) hx hb dX10_rests_63 (by decide) (fun cn => ?_) (fun cn => ?_)
  · have hf := (if_pos ((lg_cmp_eq _ _).mp cn)).symm.trans hf
    refine lv_iconst (v := (0 : Int32)) hx hb dX10_rests_73 (by decide) ?_
    refine lv_ior hx hb dX10_rests_74 ?_
    refine lv_istore (lv' := [(4, .int (x4 ||| (0 : Int32))), (0, .ref (gB g + a0)), (1, .int x1), (2, .long x2), (5, .int x5)]) hx hb dX10_rests_75 hl (by decide) rfl (fun ls hl => ?_)
    refine lv_iinc (v := (x5 + 1)) (lv' := [(5, .int (x5 + 1)), (4, .int (x4 ||| (0 : Int32))), (0, .ref (gB g + a0)), (1, .int x1), (2, .long x2)]) hx hb dX10_rests_77 hl (k := 4) rfl rfl (by decide) rfl (fun ls hl => ?_)
    refine lv_goto (tgt := 27) hx hb dX10_rests_80 (by decide) ?_
    exact k27 hH hf (lv_sub hl [2, 3, 4, 1, 0] rfl)
  · have hf := (if_neg (fun z => cn ((lg_cmp_eq _ _).mpr z))).symm.trans hf
    refine lv_iconst (v := (1 : Int32)) hx hb dX10_rests_66 (by decide) ?_
    refine lv_iload hx hb dX10_rests_67 (lv_at hl 4 rfl) ?_
    refine lv_ishl hx hb dX10_rests_69 ?_
    refine lv_goto (tgt := 74) hx hb dX10_rests_70 (by decide) ?_
    refine lv_ior hx hb dX10_rests_74 ?_
    refine lv_istore (lv' := [(4, .int (x4 ||| ((1 : Int32) <<< (x5 &&& 31)))), (0, .ref (gB g + a0)), (1, .int x1), (2, .long x2), (5, .int x5)]) hx hb dX10_rests_75 hl (by decide) rfl (fun ls hl => ?_)
    refine lv_iinc (v := (x5 + 1)) (lv' := [(5, .int (x5 + 1)), (4, .int (x4 ||| ((1 : Int32) <<< (x5 &&& 31)))), (0, .ref (gB g + a0)), (1, .int x1), (2, .long x2)]) hx hb dX10_rests_77 hl (k := 4) rfl rfl (by decide) rfl (fun ls hl => ?_)
    refine lv_goto (tgt := 27) hx hb dX10_rests_80 (by decide) ?_
    exact k27 hH hf (lv_sub hl [2, 3, 4, 1, 0] rfl)
set_option maxHeartbeats 4000000 in
set_option maxRecDepth 100000 in
theorem wX10_rests_b27 {r27 : PH → Nat → Int32 → Int64 → Int32 → Int32 → Option (Int32 × PH)} {r : Int32} {h' : PH} (C : CT g RX10 cX10_rests 6 (Cond.code yX10_rests cX10_rests 6 (some .int) :: TB) p s m args meth c) (hr : meth.sig.returnType = some .int) (k27 : ∀ {h : PH} {a0 : Nat} {x1 : Int32} {x2 : Int64} {x4 : Int32} {x5 : Int32} {H : Heap} {locs : List Loc} {ls : Array Slot}, HS g s H locs h → r27 h a0 x1 x2 x4 x5 = some (r, h') → lv_has ls 6 [(0, .ref (gB g + a0)), (1, .int x1), (2, .long x2), (4, .int x4), (5, .int x5)] → W p l e (rmD 15 0 0) s m args below meth c H locs 0 0 (MQ below (QcI g r h') args s 0 0 (aB g)) (F0 m 27 ls [])) {h : PH} {a0 : Nat} {x1 : Int32} {x2 : Int64} {x4 : Int32} {x5 : Int32} {H : Heap} {locs : List Loc} {ls : Array Slot} (hH : HS g s H locs h) (hf : mX10_rests_b27 r27 h a0 x1 x2 x4 x5 = some (r, h')) (hl : lv_has ls 6 [(0, .ref (gB g + a0)), (1, .int x1), (2, .long x2), (4, .int x4), (5, .int x5)]) : W p l e (rmD 15 0 0) s m args below meth c H locs 0 0 (MQ below (QcI g r h') args s 0 0 (aB g)) (F0 m 27 ls []) := by
  obtain ⟨⟨hx, hb, hml, hown, hts⟩, htb, hlk, hkk, hbs⟩ := id C
  unfold mX10_rests_b27 at hf
  refine lv_iload hx hb dX10_rests_27 (lv_at hl 4 rfl) ?_
  refine lv_aload_n hx hb dX10_rests_29 rfl (lv_at hl 0 rfl) ?_
  refine pg_gR C hH fl_X10_13 hf dX10_rests_30 (fun v30 hf => ?_)
  refine lv_iconst (v := (3 : Int32)) hx hb dX10_rests_33 (by decide) ?_
  refine pg_aI C hH hf dX10_rests_34 (fun v34 hf => ?_)
  refine lv_icmp_ge (tgt := 83) hx hb dX10_rests_35 (by decide) (fun cn => ?_) (fun cn => ?_)
  · have hf := (if_pos cn).symm.trans hf
    refine lv_aload_n hx hb dX10_rests_83 rfl (lv_at hl 0 rfl) ?_
    refine lv_iconst (v := (-1 : Int32)) hx hb dX10_rests_84 (by decide) ?_
    refine pg_pI C hH fl_X10_47 fm_10_23 hf dX10_rests_85 (fun H locs h85 hH hf => ?_)
    refine lv_iload hx hb dX10_rests_88 (lv_at hl 3 rfl) ?_
    exact pg_iret C hr hH hf dX10_rests_90
  · have hf := (if_neg cn).symm.trans hf
    refine lv_aload_n hx hb dX10_rests_38 rfl (lv_at hl 0 rfl) ?_
    refine lv_iload hx hb dX10_rests_39 (lv_at hl 4 rfl) ?_
    refine lv_iload_n hx hb dX10_rests_41 rfl (lv_at hl 1 rfl) ?_
    refine lv_icmp_ne (tgt := 49) hx hb dX10_rests_42 (by decide) (fun cn => ?_) (fun cn => ?_)
    · have hf := (if_neg cn).symm.trans hf
      refine lv_iload hx hb dX10_rests_49 (lv_at hl 4 rfl) ?_
      exact wX10_rests_b51 C hr k27 hH hf (lv_sub hl [0, 1, 2, 3, 4] rfl)
    · have hf := (if_pos cn).symm.trans hf
      refine lv_iconst (v := (-1 : Int32)) hx hb dX10_rests_45 (by decide) ?_
      refine lv_goto (tgt := 51) hx hb dX10_rests_46 (by decide) ?_
      exact wX10_rests_b51 C hr k27 hH hf (lv_sub hl [0, 1, 2, 3, 4] rfl)
set_option maxHeartbeats 4000000 in
set_option maxRecDepth 100000 in
theorem wX10_rests_L27 {r : Int32} {h' : PH} (C : CT g RX10 cX10_rests 6 (Cond.code yX10_rests cX10_rests 6 (some .int) :: TB) p s m args meth c) (hr : meth.sig.returnType = some .int) : ∀ (n : Nat) {h : PH} {a0 : Nat} {x1 : Int32} {x2 : Int64} {x4 : Int32} {x5 : Int32} {H : Heap} {locs : List Loc} {ls : Array Slot}, HS g s H locs h → mX10_rests_L27 n h a0 x1 x2 x4 x5 = some (r, h') → lv_has ls 6 [(0, .ref (gB g + a0)), (1, .int x1), (2, .long x2), (4, .int x4), (5, .int x5)] → W p l e (rmD 15 0 0) s m args below meth c H locs 0 0 (MQ below (QcI g r h') args s 0 0 (aB g)) (F0 m 27 ls []) := by
  intro n
  induction n with
  | zero =>
    intro h a0 x1 x2 x4 x5 H locs ls hH hf hl
    exact absurd hf (by intro z; cases z)
  | succ n ih =>
    intro h a0 x1 x2 x4 x5 H locs ls hH hf hl
    have hf : mX10_rests_b27 (mX10_rests_L27 n) h a0 x1 x2 x4 x5 = some (r, h') := hf
    exact wX10_rests_b27 C hr (fun a b c => ih a b c) hH hf hl
set_option maxHeartbeats 4000000 in
set_option maxRecDepth 100000 in
theorem c_X10_rests {l : Launch} {g : GD} {h : PH} {a0 : Nat} {x1 : Int32} {r : Int32} {h' : PH} (hf : mX10_rests h a0 x1 = some (r, h')) : Met l yX10_rests (Cond.code yX10_rests cX10_rests 6 (some .int) :: TB) (rmD 15 0 0) (PcH g [.ref (gB g + a0), .int x1] h) (QcI g r h') 0 0 (aB g) := by
  refine Met.ofW (cc := cX10_rests) (maxL := 6) (ret := some .int) (by decide) rfl ?_
  intro p e s m args below meth c s₁ B hml hv
  obtain ⟨rfl, hH0, hkk0⟩ := hv
  have C : CT g RX10 cX10_rests 6 (Cond.code yX10_rests cX10_rests 6 (some .int) :: TB) p s m _ meth c := pg_ct (Tw := []) B hml hH0 hkk0
  have hr := B.returns
  have hH : HS g s s.heap [] h := ⟨hH0, va_S.rf⟩
  have hl := lv_entry ([.ref (gB g + a0), .int x1]) (n := 6) (Nat.le_of_ble_eq_true rfl)
  rw [lg_entry_eq]
  generalize (lg_sl ([.ref (gB g + a0), .int x1]) ++ List.replicate (6 - (lg_sl ([.ref (gB g + a0), .int x1])).length) Slot.unset).toArray = ls at hl ⊢
  have hl : lv_has ls 6 [(0, .ref (gB g + a0)), (1, .int x1)] := hl
  show W p l e (rmD 15 0 0) _ _ _ _ _ _ _ _ _ _ _ _
  unfold mX10_rests at hf
  obtain ⟨hO, hf⟩ := oO_sp hf
  obtain ⟨⟨hx, hb, hml, hown, hts⟩, htb, hlk, hkk, hbs⟩ := id C
  refine lv_aload_n hx hb dX10_rests_0 rfl (lv_at hl 0 rfl) ?_
  refine lv_iconst (v := (0 : Int32)) hx hb dX10_rests_1 (by decide) ?_
  refine pg_pI C hH fl_X10_1 fm_10_0 hf dX10_rests_2 (fun H locs h2 hH hf => ?_)
  refine lv_aload_n hx hb dX10_rests_5 rfl (lv_at hl 0 rfl) ?_
  refine lv_iload_n hx hb dX10_rests_6 rfl (lv_at hl 1 rfl) ?_
  refine pg_Vi (As := [.int x1]) C hH mi_X10_isSale vl_X10_288 (q := (RX10, TX10, 34)) (ci := 10) rfl rfl hf (fun _ e1 => (oO_sp e1).1) (fun _ _ e1 => c_X10_isSale e1) rfl rfl hl.1 (Nat.le_of_ble_eq_true rfl) ⟨Nat.le_of_ble_eq_true rfl, Nat.le_of_ble_eq_true rfl⟩ ⟨Nat.zero_le _, Nat.zero_le _⟩ dX10_rests_7 (fun H locs v7 h7 hH hf => ?_)
  refine lv_if_ne (tgt := 15) hx hb dX10_rests_10 (by decide) (fun cn => ?_) (fun cn => ?_)
  · have hf := (if_neg cn).symm.trans hf
    refine lv_aload_n hx hb dX10_rests_15 rfl (lv_at hl 0 rfl) ?_
    refine lv_iload_n hx hb dX10_rests_16 rfl (lv_at hl 1 rfl) ?_
    refine pg_Vl (As := [.int x1]) C hH mi_X10_worthOf vl_X10_429 (q := (RX10, TX10, 34)) (ci := 10) rfl rfl hf (fun _ e1 => (oO_sp e1).1) (fun _ _ e1 => c_X10_worthOf e1) rfl rfl hl.1 (Nat.le_of_ble_eq_true rfl) ⟨Nat.le_of_ble_eq_true rfl, Nat.le_of_ble_eq_true rfl⟩ ⟨Nat.zero_le _, Nat.zero_le _⟩ dX10_rests_17 (fun H locs v17 h17 hH hf => ?_)
    refine lv_lstore_n (lv' := [(2, .long v17), (0, .ref (gB g + a0)), (1, .int x1)]) hx hb dX10_rests_20 rfl hl (by decide) rfl (fun ls hl => ?_)
    refine lv_iconst (v := (0 : Int32)) hx hb dX10_rests_21 (by decide) ?_
    refine lv_istore (lv' := [(4, .int (0 : Int32)), (2, .long v17), (0, .ref (gB g + a0)), (1, .int x1)]) hx hb dX10_rests_22 hl (by decide) rfl (fun ls hl => ?_)
    refine lv_iconst (v := (0 : Int32)) hx hb dX10_rests_24 (by decide) ?_
    refine lv_istore (lv' := [(5, .int (0 : Int32)), (4, .int (0 : Int32)), (2, .long v17), (0, .ref (gB g + a0)), (1, .int x1)]) hx hb dX10_rests_25 hl (by decide) rfl (fun ls hl => ?_)
    exact wX10_rests_L27 C hr FU hH hf (lv_sub hl [3, 4, 2, 1, 0] rfl)
  · have hf := (if_pos cn).symm.trans hf
    refine lv_iconst (v := (-1 : Int32)) hx hb dX10_rests_13 (by decide) ?_
    exact pg_iret C hr hH hf dX10_rests_14
set_option maxHeartbeats 4000000 in
set_option maxRecDepth 100000 in
theorem c_X10_turned {l : Launch} {g : GD} {h : PH} {a0 : Nat} {x1 : Int32} {r : Int64} {h' : PH} (hf : mX10_turned h a0 x1 = some (r, h')) : Met l yX10_turned (Cond.code yX10_turned cX10_turned 2 (some .long) :: TB) (rmD 14 0 0) (PcH g [.ref (gB g + a0), .int x1] h) (QcL g r h') 0 0 (aB g) := by
  refine Met.ofW (cc := cX10_turned) (maxL := 2) (ret := some .long) (by decide) rfl ?_
  intro p e s m args below meth c s₁ B hml hv
  obtain ⟨rfl, hH0, hkk0⟩ := hv
  have C : CT g RX10 cX10_turned 2 (Cond.code yX10_turned cX10_turned 2 (some .long) :: TB) p s m _ meth c := pg_ct (Tw := []) B hml hH0 hkk0
  have hr := B.returns
  have hH : HS g s s.heap [] h := ⟨hH0, va_S.rf⟩
  have hl := lv_entry ([.ref (gB g + a0), .int x1]) (n := 2) (Nat.le_of_ble_eq_true rfl)
  rw [lg_entry_eq]
  generalize (lg_sl ([.ref (gB g + a0), .int x1]) ++ List.replicate (2 - (lg_sl ([.ref (gB g + a0), .int x1])).length) Slot.unset).toArray = ls at hl ⊢
  have hl : lv_has ls 2 [(0, .ref (gB g + a0)), (1, .int x1)] := hl
  show W p l e (rmD 14 0 0) _ _ _ _ _ _ _ _ _ _ _ _
  unfold mX10_turned at hf
  obtain ⟨hO, hf⟩ := oO_sp hf
  obtain ⟨⟨hx, hb, hml, hown, hts⟩, htb, hlk, hkk, hbs⟩ := id C
  refine lv_aload_n hx hb dX10_turned_0 rfl (lv_at hl 0 rfl) ?_
  refine lv_iconst (v := (0 : Int32)) hx hb dX10_turned_1 (by decide) ?_
  refine pg_pI C hH fl_X10_1 fm_10_0 hf dX10_turned_2 (fun H locs h2 hH hf => ?_)
  refine lv_aload_n hx hb dX10_turned_5 rfl (lv_at hl 0 rfl) ?_
  refine lv_iload_n hx hb dX10_turned_6 rfl (lv_at hl 1 rfl) ?_
  refine pg_Vi (As := [.int x1]) C hH mi_X10_isSale vl_X10_288 (q := (RX10, TX10, 34)) (ci := 10) rfl rfl hf (fun _ e1 => (oO_sp e1).1) (fun _ _ e1 => c_X10_isSale e1) rfl rfl hl.1 (Nat.le_of_ble_eq_true rfl) ⟨Nat.le_of_ble_eq_true rfl, Nat.le_of_ble_eq_true rfl⟩ ⟨Nat.zero_le _, Nat.zero_le _⟩ dX10_turned_7 (fun H locs v7 h7 hH hf => ?_)
  refine lv_if_eq (tgt := 30) hx hb dX10_turned_10 (by decide) (fun cn => ?_) (fun cn => ?_)
  · have hf := (if_pos cn).symm.trans hf
    refine lv_ldc2 (v := (-1 : Int64)) hx hb hown (hts _ (htb _ kl_X10_339)) dX10_turned_30 ?_
    exact pg_lret C hr hH hf dX10_turned_33
  · have hf := (if_neg cn).symm.trans hf
    refine lv_aload_n hx hb dX10_turned_13 rfl (lv_at hl 0 rfl) ?_
    refine lv_iload_n hx hb dX10_turned_14 rfl (lv_at hl 1 rfl) ?_
    refine lv_iconst (v := (1 : Int32)) hx hb dX10_turned_15 (by decide) ?_
    refine lv_aload_n hx hb dX10_turned_16 rfl (lv_at hl 0 rfl) ?_
    refine pg_gR C hH fl_X10_13 hf dX10_turned_17 (fun v17 hf => ?_)
    refine lv_bipush (v := (10 : Int32)) hx hb dX10_turned_20 (by decide) ?_
    refine pg_aI C hH hf dX10_turned_22 (fun v22 hf => ?_)
    refine lv_isub hx hb dX10_turned_23 ?_
    refine pg_Vl (As := [.int x1, .int ((1 : Int32) - v22)]) C hH mi_X10_worthBy vl_X10_426 (q := (RX10, TX10, 34)) (ci := 10) rfl rfl hf (fun _ e1 => (oO_sp e1).1) (fun _ _ e1 => c_X10_worthBy e1) rfl rfl hl.1 (Nat.le_of_ble_eq_true rfl) ⟨Nat.le_of_ble_eq_true rfl, Nat.le_of_ble_eq_true rfl⟩ ⟨Nat.zero_le _, Nat.zero_le _⟩ dX10_turned_24 (fun H locs v24 h24 hH hf => ?_)
    refine lv_goto (tgt := 33) hx hb dX10_turned_27 (by decide) ?_
    exact pg_lret C hr hH hf dX10_turned_33
set_option maxHeartbeats 4000000 in
set_option maxRecDepth 100000 in
theorem c_X10_dueOf {l : Launch} {g : GD} {h : PH} {a0 : Nat} {x1 : Int32} {r : Int64} {h' : PH} (hf : mX10_dueOf h a0 x1 = some (r, h')) : Met l yX10_dueOf (Cond.code yX10_dueOf cX10_dueOf 4 (some .long) :: TB) (rmD 15 0 0) (PcH g [.ref (gB g + a0), .int x1] h) (QcL g r h') 0 0 (aB g) := by
  refine Met.ofW (cc := cX10_dueOf) (maxL := 4) (ret := some .long) (by decide) rfl ?_
  intro p e s m args below meth c s₁ B hml hv
  obtain ⟨rfl, hH0, hkk0⟩ := hv
  have C : CT g RX10 cX10_dueOf 4 (Cond.code yX10_dueOf cX10_dueOf 4 (some .long) :: TB) p s m _ meth c := pg_ct (Tw := []) B hml hH0 hkk0
  have hr := B.returns
  have hH : HS g s s.heap [] h := ⟨hH0, va_S.rf⟩
  have hl := lv_entry ([.ref (gB g + a0), .int x1]) (n := 4) (Nat.le_of_ble_eq_true rfl)
  rw [lg_entry_eq]
  generalize (lg_sl ([.ref (gB g + a0), .int x1]) ++ List.replicate (4 - (lg_sl ([.ref (gB g + a0), .int x1])).length) Slot.unset).toArray = ls at hl ⊢
  have hl : lv_has ls 4 [(0, .ref (gB g + a0)), (1, .int x1)] := hl
  show W p l e (rmD 15 0 0) _ _ _ _ _ _ _ _ _ _ _ _
  unfold mX10_dueOf at hf
  obtain ⟨hO, hf⟩ := oO_sp hf
  obtain ⟨⟨hx, hb, hml, hown, hts⟩, htb, hlk, hkk, hbs⟩ := id C
  refine lv_aload_n hx hb dX10_dueOf_0 rfl (lv_at hl 0 rfl) ?_
  refine lv_iload_n hx hb dX10_dueOf_1 rfl (lv_at hl 1 rfl) ?_
  refine pg_Vl (As := [.int x1]) C hH mi_X10_worthOf vl_X10_429 (q := (RX10, TX10, 34)) (ci := 10) rfl rfl hf (fun _ e1 => (oO_sp e1).1) (fun _ _ e1 => c_X10_worthOf e1) rfl rfl hl.1 (Nat.le_of_ble_eq_true rfl) ⟨Nat.le_of_ble_eq_true rfl, Nat.le_of_ble_eq_true rfl⟩ ⟨Nat.zero_le _, Nat.zero_le _⟩ dX10_dueOf_2 (fun H locs v2 h2 hH hf => ?_)
  refine lv_lstore_n (lv' := [(2, .long v2), (0, .ref (gB g + a0)), (1, .int x1)]) hx hb dX10_dueOf_5 rfl hl (by decide) rfl (fun ls hl => ?_)
  refine lv_lload_n hx hb dX10_dueOf_6 rfl (lv_at hl 0 rfl) ?_
  refine lv_lconst (v := (0 : Int64)) hx hb dX10_dueOf_7 (by decide) ?_
  refine W.lcmp hx hb dX10_dueOf_8 ?_
  refine lv_if_ge (tgt := 18) hx hb dX10_dueOf_9 (by decide) (fun cn => ?_) (fun cn => ?_)
  · have hf := (if_pos ((lg_cmp_ge _ _).mp cn)).symm.trans hf
    refine lv_lload_n hx hb dX10_dueOf_18 rfl (lv_at hl 0 rfl) ?_
    refine lv_aload_n hx hb dX10_dueOf_19 rfl (lv_at hl 1 rfl) ?_
    refine pg_gR C hH fl_X10_13 hf dX10_dueOf_20 (fun v20 hf => ?_)
    refine lv_bipush (v := (9 : Int32)) hx hb dX10_dueOf_23 (by decide) ?_
    refine pg_aI C hH hf dX10_dueOf_25 (fun v25 hf => ?_)
    refine lv_i2l (v := (Int32.toInt64 v25)) hx hb dX10_dueOf_26 rfl ?_
    refine lv_lmul hx hb dX10_dueOf_27 ?_
    refine lv_ldc2 (v := (100 : Int64)) hx hb hown (hts _ (htb _ kl_X10_326)) dX10_dueOf_28 ?_
    refine lv_ldiv hx hb dX10_dueOf_31 (by decide) ?_
    exact pg_lret C hr hH hf dX10_dueOf_32
  · have hf := (if_neg (fun z => cn ((lg_cmp_ge _ _).mpr z))).symm.trans hf
    refine lv_ldc2 (v := (-2 : Int64)) hx hb hown (hts _ (htb _ kl_X10_382)) dX10_dueOf_12 ?_
    refine lv_goto (tgt := 32) hx hb dX10_dueOf_15 (by decide) ?_
    exact pg_lret C hr hH hf dX10_dueOf_32
set_option maxHeartbeats 4000000 in
set_option maxRecDepth 100000 in
theorem c_X10_due {l : Launch} {g : GD} {h : PH} {a0 : Nat} {x1 : Int32} {r : Int64} {h' : PH} (hf : mX10_due h a0 x1 = some (r, h')) : Met l yX10_due (Cond.code yX10_due cX10_due 2 (some .long) :: TB) (rmD 16 0 0) (PcH g [.ref (gB g + a0), .int x1] h) (QcL g r h') 0 0 (aB g) := by
  refine Met.ofW (cc := cX10_due) (maxL := 2) (ret := some .long) (by decide) rfl ?_
  intro p e s m args below meth c s₁ B hml hv
  obtain ⟨rfl, hH0, hkk0⟩ := hv
  have C : CT g RX10 cX10_due 2 (Cond.code yX10_due cX10_due 2 (some .long) :: TB) p s m _ meth c := pg_ct (Tw := []) B hml hH0 hkk0
  have hr := B.returns
  have hH : HS g s s.heap [] h := ⟨hH0, va_S.rf⟩
  have hl := lv_entry ([.ref (gB g + a0), .int x1]) (n := 2) (Nat.le_of_ble_eq_true rfl)
  rw [lg_entry_eq]
  generalize (lg_sl ([.ref (gB g + a0), .int x1]) ++ List.replicate (2 - (lg_sl ([.ref (gB g + a0), .int x1])).length) Slot.unset).toArray = ls at hl ⊢
  have hl : lv_has ls 2 [(0, .ref (gB g + a0)), (1, .int x1)] := hl
  show W p l e (rmD 16 0 0) _ _ _ _ _ _ _ _ _ _ _ _
  unfold mX10_due at hf
  obtain ⟨hO, hf⟩ := oO_sp hf
  obtain ⟨⟨hx, hb, hml, hown, hts⟩, htb, hlk, hkk, hbs⟩ := id C
  refine lv_aload_n hx hb dX10_due_0 rfl (lv_at hl 0 rfl) ?_
  refine lv_iconst (v := (0 : Int32)) hx hb dX10_due_1 (by decide) ?_
  refine pg_pI C hH fl_X10_1 fm_10_0 hf dX10_due_2 (fun H locs h2 hH hf => ?_)
  refine lv_aload_n hx hb dX10_due_5 rfl (lv_at hl 0 rfl) ?_
  refine lv_iload_n hx hb dX10_due_6 rfl (lv_at hl 1 rfl) ?_
  refine pg_Vi (As := [.int x1]) C hH mi_X10_isSale vl_X10_288 (q := (RX10, TX10, 34)) (ci := 10) rfl rfl hf (fun _ e1 => (oO_sp e1).1) (fun _ _ e1 => c_X10_isSale e1) rfl rfl hl.1 (Nat.le_of_ble_eq_true rfl) ⟨Nat.le_of_ble_eq_true rfl, Nat.le_of_ble_eq_true rfl⟩ ⟨Nat.zero_le _, Nat.zero_le _⟩ dX10_due_7 (fun H locs v7 h7 hH hf => ?_)
  refine lv_if_eq (tgt := 21) hx hb dX10_due_10 (by decide) (fun cn => ?_) (fun cn => ?_)
  · have hf := (if_pos cn).symm.trans hf
    refine lv_ldc2 (v := (-1 : Int64)) hx hb hown (hts _ (htb _ kl_X10_339)) dX10_due_21 ?_
    exact pg_lret C hr hH hf dX10_due_24
  · have hf := (if_neg cn).symm.trans hf
    refine lv_aload_n hx hb dX10_due_13 rfl (lv_at hl 0 rfl) ?_
    refine lv_iload_n hx hb dX10_due_14 rfl (lv_at hl 1 rfl) ?_
    refine pg_Vl (As := [.int x1]) C hH mi_X10_dueOf vl_X10_432 (q := (RX10, TX10, 34)) (ci := 10) rfl rfl hf (fun _ e1 => (oO_sp e1).1) (fun _ _ e1 => c_X10_dueOf e1) rfl rfl hl.1 (Nat.le_of_ble_eq_true rfl) ⟨Nat.le_of_ble_eq_true rfl, Nat.le_of_ble_eq_true rfl⟩ ⟨Nat.zero_le _, Nat.zero_le _⟩ dX10_due_15 (fun H locs v15 h15 hH hf => ?_)
    refine lv_goto (tgt := 24) hx hb dX10_due_18 (by decide) ?_
    exact pg_lret C hr hH hf dX10_due_24
set_option maxHeartbeats 4000000 in
set_option maxRecDepth 100000 in
theorem wX10_dues_b9 {r9 : PH → Nat → Int64 → Int32 → Option (Int64 × PH)} {r : Int64} {h' : PH} (C : CT g RX10 cX10_dues 6 (Cond.code yX10_dues cX10_dues 6 (some .long) :: TB) p s m args meth c) (hr : meth.sig.returnType = some .long) (k9 : ∀ {h : PH} {a0 : Nat} {x1 : Int64} {x3 : Int32} {H : Heap} {locs : List Loc} {ls : Array Slot}, HS g s H locs h → r9 h a0 x1 x3 = some (r, h') → lv_has ls 6 [(0, .ref (gB g + a0)), (1, .long x1), (3, .int x3)] → W p l e (rmD 16 0 0) s m args below meth c H locs 0 0 (MQ below (QcL g r h') args s 0 0 (aB g)) (F0 m 9 ls [])) {h : PH} {a0 : Nat} {x1 : Int64} {x3 : Int32} {H : Heap} {locs : List Loc} {ls : Array Slot} (hH : HS g s H locs h) (hf : mX10_dues_b9 r9 h a0 x1 x3 = some (r, h')) (hl : lv_has ls 6 [(0, .ref (gB g + a0)), (1, .long x1), (3, .int x3)]) : W p l e (rmD 16 0 0) s m args below meth c H locs 0 0 (MQ below (QcL g r h') args s 0 0 (aB g)) (F0 m 9 ls []) := by
  obtain ⟨⟨hx, hb, hml, hown, hts⟩, htb, hlk, hkk, hbs⟩ := id C
  unfold mX10_dues_b9 at hf
  refine lv_iload_n hx hb dX10_dues_9 rfl (lv_at hl 2 rfl) ?_
  refine lv_aload_n hx hb dX10_dues_10 rfl (lv_at hl 0 rfl) ?_
  refine pg_gR C hH fl_X10_13 hf dX10_dues_11 (fun v11 hf => ?_)
  refine lv_iconst (v := (3 : Int32)) hx hb dX10_dues_14 (by decide) ?_
  refine pg_aI C hH hf dX10_dues_15 (fun v15 hf => ?_)
  refine lv_icmp_ge (tgt := 48) hx hb dX10_dues_16 (by decide) (fun cn => ?_) (fun cn => ?_)
  · have hf := (if_pos cn).symm.trans hf
    refine lv_lload_n hx hb dX10_dues_48 rfl (lv_at hl 1 rfl) ?_
    exact pg_lret C hr hH hf dX10_dues_49
  · have hf := (if_neg cn).symm.trans hf
    refine lv_aload_n hx hb dX10_dues_19 rfl (lv_at hl 0 rfl) ?_
    refine lv_iload_n hx hb dX10_dues_20 rfl (lv_at hl 2 rfl) ?_
    refine pg_Vl (As := [.int x3]) C hH mi_X10_dueOf vl_X10_432 (q := (RX10, TX10, 34)) (ci := 10) rfl rfl hf (fun _ e1 => (oO_sp e1).1) (fun _ _ e1 => c_X10_dueOf e1) rfl rfl hl.1 (Nat.le_of_ble_eq_true rfl) ⟨Nat.le_of_ble_eq_true rfl, Nat.le_of_ble_eq_true rfl⟩ ⟨Nat.zero_le _, Nat.zero_le _⟩ dX10_dues_21 (fun H locs v21 h21 hH hf => ?_)
    refine lv_lstore (lv' := [(4, .long v21), (0, .ref (gB g + a0)), (1, .long x1), (3, .int x3)]) hx hb dX10_dues_24 hl (by decide) rfl (fun ls hl => ?_)
    refine lv_lload_n hx hb dX10_dues_26 rfl (lv_at hl 2 rfl) ?_
    refine lv_lload hx hb dX10_dues_27 (lv_at hl 0 rfl) ?_
    refine lv_lconst (v := (0 : Int64)) hx hb dX10_dues_29 (by decide) ?_
    refine W.lcmp hx hb dX10_dues_30 ?_
    refine lv_if_ge (tgt := 38) hx hb dX10_dues_31 (by decide) (fun cn => ?_) (fun cn => ?_)
    · have hf := (if_pos ((lg_cmp_ge _ _).mp cn)).symm.trans hf
      refine lv_lload hx hb dX10_dues_38 (lv_at hl 0 rfl) ?_
      refine lv_ladd hx hb dX10_dues_40 ?_
      refine lv_lstore_n (lv' := [(1, .long (x1 + v21)), (4, .long v21), (0, .ref (gB g + a0)), (3, .int x3)]) hx hb dX10_dues_41 rfl hl (by decide) rfl (fun ls hl => ?_)
      refine lv_iinc (v := (x3 + 1)) (lv' := [(3, .int (x3 + 1)), (1, .long (x1 + v21)), (4, .long v21), (0, .ref (gB g + a0))]) hx hb dX10_dues_42 hl (k := 3) rfl rfl (by decide) rfl (fun ls hl => ?_)
      refine lv_goto (tgt := 9) hx hb dX10_dues_45 (by decide) ?_
      exact k9 hH hf (lv_sub hl [3, 1, 0] rfl)
    · have hf := (if_neg (fun z => cn ((lg_cmp_ge _ _).mpr z))).symm.trans hf
      refine lv_lconst (v := (0 : Int64)) hx hb dX10_dues_34 (by decide) ?_
      refine lv_goto (tgt := 40) hx hb dX10_dues_35 (by decide) ?_
      refine lv_ladd hx hb dX10_dues_40 ?_
      refine lv_lstore_n (lv' := [(1, .long (x1 + (0 : Int64))), (4, .long v21), (0, .ref (gB g + a0)), (3, .int x3)]) hx hb dX10_dues_41 rfl hl (by decide) rfl (fun ls hl => ?_)
      refine lv_iinc (v := (x3 + 1)) (lv' := [(3, .int (x3 + 1)), (1, .long (x1 + (0 : Int64))), (4, .long v21), (0, .ref (gB g + a0))]) hx hb dX10_dues_42 hl (k := 3) rfl rfl (by decide) rfl (fun ls hl => ?_)
      refine lv_goto (tgt := 9) hx hb dX10_dues_45 (by decide) ?_
      exact k9 hH hf (lv_sub hl [3, 1, 0] rfl)
set_option maxHeartbeats 4000000 in
set_option maxRecDepth 100000 in
theorem wX10_dues_L9 {r : Int64} {h' : PH} (C : CT g RX10 cX10_dues 6 (Cond.code yX10_dues cX10_dues 6 (some .long) :: TB) p s m args meth c) (hr : meth.sig.returnType = some .long) : ∀ (n : Nat) {h : PH} {a0 : Nat} {x1 : Int64} {x3 : Int32} {H : Heap} {locs : List Loc} {ls : Array Slot}, HS g s H locs h → mX10_dues_L9 n h a0 x1 x3 = some (r, h') → lv_has ls 6 [(0, .ref (gB g + a0)), (1, .long x1), (3, .int x3)] → W p l e (rmD 16 0 0) s m args below meth c H locs 0 0 (MQ below (QcL g r h') args s 0 0 (aB g)) (F0 m 9 ls []) := by
  intro n
  induction n with
  | zero =>
    intro h a0 x1 x3 H locs ls hH hf hl
    exact absurd hf (by intro z; cases z)
  | succ n ih =>
    intro h a0 x1 x3 H locs ls hH hf hl
    have hf : mX10_dues_b9 (mX10_dues_L9 n) h a0 x1 x3 = some (r, h') := hf
    exact wX10_dues_b9 C hr (fun a b c => ih a b c) hH hf hl
set_option maxHeartbeats 4000000 in
set_option maxRecDepth 100000 in
theorem c_X10_dues {l : Launch} {g : GD} {h : PH} {a0 : Nat} {r : Int64} {h' : PH} (hf : mX10_dues h a0 = some (r, h')) : Met l yX10_dues (Cond.code yX10_dues cX10_dues 6 (some .long) :: TB) (rmD 16 0 0) (PcH g [.ref (gB g + a0)] h) (QcL g r h') 0 0 (aB g) := by
  refine Met.ofW (cc := cX10_dues) (maxL := 6) (ret := some .long) (by decide) rfl ?_
  intro p e s m args below meth c s₁ B hml hv
  obtain ⟨rfl, hH0, hkk0⟩ := hv
  have C : CT g RX10 cX10_dues 6 (Cond.code yX10_dues cX10_dues 6 (some .long) :: TB) p s m _ meth c := pg_ct (Tw := []) B hml hH0 hkk0
  have hr := B.returns
  have hH : HS g s s.heap [] h := ⟨hH0, va_S.rf⟩
  have hl := lv_entry ([.ref (gB g + a0)]) (n := 6) (Nat.le_of_ble_eq_true rfl)
  rw [lg_entry_eq]
  generalize (lg_sl ([.ref (gB g + a0)]) ++ List.replicate (6 - (lg_sl ([.ref (gB g + a0)])).length) Slot.unset).toArray = ls at hl ⊢
  have hl : lv_has ls 6 [(0, .ref (gB g + a0))] := hl
  show W p l e (rmD 16 0 0) _ _ _ _ _ _ _ _ _ _ _ _
  unfold mX10_dues at hf
  obtain ⟨hO, hf⟩ := oO_sp hf
  obtain ⟨⟨hx, hb, hml, hown, hts⟩, htb, hlk, hkk, hbs⟩ := id C
  refine lv_aload_n hx hb dX10_dues_0 rfl (lv_at hl 0 rfl) ?_
  refine lv_iconst (v := (0 : Int32)) hx hb dX10_dues_1 (by decide) ?_
  refine pg_pI C hH fl_X10_1 fm_10_0 hf dX10_dues_2 (fun H locs h2 hH hf => ?_)
  refine lv_lconst (v := (0 : Int64)) hx hb dX10_dues_5 (by decide) ?_
  refine lv_lstore_n (lv' := [(1, .long (0 : Int64)), (0, .ref (gB g + a0))]) hx hb dX10_dues_6 rfl hl (by decide) rfl (fun ls hl => ?_)
  refine lv_iconst (v := (0 : Int32)) hx hb dX10_dues_7 (by decide) ?_
  refine lv_istore_n (lv' := [(3, .int (0 : Int32)), (1, .long (0 : Int64)), (0, .ref (gB g + a0))]) hx hb dX10_dues_8 rfl hl (by decide) rfl (fun ls hl => ?_)
  exact wX10_dues_L9 C hr FU hH hf (lv_sub hl [2, 1, 0] rfl)
set_option maxHeartbeats 4000000 in
set_option maxRecDepth 100000 in
theorem wX10_all_b55 {r23 : PH → Nat → Int32 → Int32 → Int32 → Option (Int32 × PH)} {r : Int32} {h' : PH} (C : CT g RX10 cX10_all 7 (Cond.code yX10_all cX10_all 7 (some .int) :: TB) p s m args meth c) (hr : meth.sig.returnType = some .int) (k23 : ∀ {h : PH} {a0 : Nat} {x1 : Int32} {x2 : Int32} {x3 : Int32} {H : Heap} {locs : List Loc} {ls : Array Slot}, HS g s H locs h → r23 h a0 x1 x2 x3 = some (r, h') → lv_has ls 7 [(0, .ref (gB g + a0)), (1, .int x1), (2, .int x2), (3, .int x3)] → W p l e (rmD 15 0 0) s m args below meth c H locs 0 0 (MQ below (QcI g r h') args s 0 0 (aB g)) (F0 m 23 ls [])) {h : PH} {a0 : Nat} {x1 : Int32} {x2 : Int32} {x3 : Int32} {s0 : Int32} {H : Heap} {locs : List Loc} {ls : Array Slot} (hH : HS g s H locs h) (hf : mX10_all_b55 r23 h a0 x1 x2 x3 s0 = some (r, h')) (hl : lv_has ls 7 [(0, .ref (gB g + a0)), (1, .int x1), (2, .int x2), (3, .int x3)]) : W p l e (rmD 15 0 0) s m args below meth c H locs 0 0 (MQ below (QcI g r h') args s 0 0 (aB g)) (F0 m 55 ls [.int s0]) := by
  obtain ⟨⟨hx, hb, hml, hown, hts⟩, htb, hlk, hkk, hbs⟩ := id C
  unfold mX10_all_b55 at hf
  refine lv_istore (lv' := [(6, .int s0), (0, .ref (gB g + a0)), (1, .int x1), (2, .int x2), (3, .int x3)]) hx hb dX10_all_55 hl (by decide) rfl (fun ls hl => ?_)
  refine lv_iload_n hx hb dX10_all_57 rfl (lv_at hl 3 rfl) ?_
  refine lv_iload hx hb dX10_all_58 (lv_at hl 0 rfl) ?_
  refine lv_iload_n hx hb dX10_all_60 rfl (lv_at hl 2 rfl) ?_
  refine lv_icmp_ne (tgt := 70) hx hb dX10_all_61 (by decide) (fun cn => ?_) (fun cn => ?_)
  · have hf := (if_neg cn).symm.trans hf
    refine lv_iconst (v := (0 : Int32)) hx hb dX10_all_70 (by decide) ?_
    refine lv_ior hx hb dX10_all_71 ?_
    refine lv_istore_n (lv' := [(2, .int (x2 ||| (0 : Int32))), (6, .int s0), (0, .ref (gB g + a0)), (1, .int x1), (3, .int x3)]) hx hb dX10_all_72 rfl hl (by decide) rfl (fun ls hl => ?_)
    refine lv_iinc (v := (x3 + 1)) (lv' := [(3, .int (x3 + 1)), (2, .int (x2 ||| (0 : Int32))), (6, .int s0), (0, .ref (gB g + a0)), (1, .int x1)]) hx hb dX10_all_73 hl (k := 4) rfl rfl (by decide) rfl (fun ls hl => ?_)
    refine lv_goto (tgt := 23) hx hb dX10_all_76 (by decide) ?_
    exact k23 hH hf (lv_sub hl [3, 4, 1, 0] rfl)
  · have hf := (if_pos cn).symm.trans hf
    refine lv_iconst (v := (1 : Int32)) hx hb dX10_all_64 (by decide) ?_
    refine lv_iload_n hx hb dX10_all_65 rfl (lv_at hl 4 rfl) ?_
    refine lv_ishl hx hb dX10_all_66 ?_
    refine lv_goto (tgt := 71) hx hb dX10_all_67 (by decide) ?_
    refine lv_ior hx hb dX10_all_71 ?_
    refine lv_istore_n (lv' := [(2, .int (x2 ||| ((1 : Int32) <<< (x3 &&& 31)))), (6, .int s0), (0, .ref (gB g + a0)), (1, .int x1), (3, .int x3)]) hx hb dX10_all_72 rfl hl (by decide) rfl (fun ls hl => ?_)
    refine lv_iinc (v := (x3 + 1)) (lv' := [(3, .int (x3 + 1)), (2, .int (x2 ||| ((1 : Int32) <<< (x3 &&& 31)))), (6, .int s0), (0, .ref (gB g + a0)), (1, .int x1)]) hx hb dX10_all_73 hl (k := 4) rfl rfl (by decide) rfl (fun ls hl => ?_)
    refine lv_goto (tgt := 23) hx hb dX10_all_76 (by decide) ?_
    exact k23 hH hf (lv_sub hl [3, 4, 1, 0] rfl)
set_option maxHeartbeats 4000000 in
set_option maxRecDepth 100000 in
theorem wX10_all_b23 {r23 : PH → Nat → Int32 → Int32 → Int32 → Option (Int32 × PH)} {r : Int32} {h' : PH} (C : CT g RX10 cX10_all 7 (Cond.code yX10_all cX10_all 7 (some .int) :: TB) p s m args meth c) (hr : meth.sig.returnType = some .int) (k23 : ∀ {h : PH} {a0 : Nat} {x1 : Int32} {x2 : Int32} {x3 : Int32} {H : Heap} {locs : List Loc} {ls : Array Slot}, HS g s H locs h → r23 h a0 x1 x2 x3 = some (r, h') → lv_has ls 7 [(0, .ref (gB g + a0)), (1, .int x1), (2, .int x2), (3, .int x3)] → W p l e (rmD 15 0 0) s m args below meth c H locs 0 0 (MQ below (QcI g r h') args s 0 0 (aB g)) (F0 m 23 ls [])) {h : PH} {a0 : Nat} {x1 : Int32} {x2 : Int32} {x3 : Int32} {H : Heap} {locs : List Loc} {ls : Array Slot} (hH : HS g s H locs h) (hf : mX10_all_b23 r23 h a0 x1 x2 x3 = some (r, h')) (hl : lv_has ls 7 [(0, .ref (gB g + a0)), (1, .int x1), (2, .int x2), (3, .int x3)]) : W p l e (rmD 15 0 0) s m args below meth c H locs 0 0 (MQ below (QcI g r h') args s 0 0 (aB g)) (F0 m 23 ls []) := by
  obtain ⟨⟨hx, hb, hml, hown, hts⟩, htb, hlk, hkk, hbs⟩ := id C
  unfold mX10_all_b23 at hf
  refine lv_iload_n hx hb dX10_all_23 rfl (lv_at hl 3 rfl) ?_
  refine lv_aload_n hx hb dX10_all_24 rfl (lv_at hl 0 rfl) ?_
  refine pg_gR C hH fl_X10_13 hf dX10_all_25 (fun v25 hf => ?_)
  refine lv_iconst (v := (3 : Int32)) hx hb dX10_all_28 (by decide) ?_
  refine pg_aI C hH hf dX10_all_29 (fun v29 hf => ?_)
  refine lv_icmp_ge (tgt := 79) hx hb dX10_all_30 (by decide) (fun cn => ?_) (fun cn => ?_)
  · have hf := (if_pos cn).symm.trans hf
    refine lv_iload_n hx hb dX10_all_79 rfl (lv_at hl 2 rfl) ?_
    exact pg_iret C hr hH hf dX10_all_80
  · have hf := (if_neg cn).symm.trans hf
    refine lv_aload_n hx hb dX10_all_33 rfl (lv_at hl 0 rfl) ?_
    refine lv_iload_n hx hb dX10_all_34 rfl (lv_at hl 3 rfl) ?_
    refine pg_Vl (As := [.int x3]) C hH mi_X10_worthOf vl_X10_429 (q := (RX10, TX10, 34)) (ci := 10) rfl rfl hf (fun _ e1 => (oO_sp e1).1) (fun _ _ e1 => c_X10_worthOf e1) rfl rfl hl.1 (Nat.le_of_ble_eq_true rfl) ⟨Nat.le_of_ble_eq_true rfl, Nat.le_of_ble_eq_true rfl⟩ ⟨Nat.zero_le _, Nat.zero_le _⟩ dX10_all_35 (fun H locs v35 h35 hH hf => ?_)
    refine lv_lstore (lv' := [(4, .long v35), (0, .ref (gB g + a0)), (1, .int x1), (2, .int x2), (3, .int x3)]) hx hb dX10_all_38 hl (by decide) rfl (fun ls hl => ?_)
    refine lv_lload hx hb dX10_all_40 (lv_at hl 0 rfl) ?_
    refine lv_lconst (v := (0 : Int64)) hx hb dX10_all_42 (by decide) ?_
    refine W.lcmp hx hb dX10_all_43 ?_
    refine lv_if_ge (tgt := 51) hx hb dX10_all_44 (by decide) (fun cn => ?_) (fun cn => ?_)
    · have hf := (if_pos ((lg_cmp_ge _ _).mp cn)).symm.trans hf
      refine lv_aload_n hx hb dX10_all_51 rfl (lv_at hl 1 rfl) ?_
      refine pg_gI C hH fl_X10_420 hf dX10_all_52 (fun v52 hf => ?_)
      exact wX10_all_b55 C hr k23 hH hf (lv_sub hl [1, 2, 3, 4] rfl)
    · have hf := (if_neg (fun z => cn ((lg_cmp_ge _ _).mpr z))).symm.trans hf
      refine lv_iconst (v := (0 : Int32)) hx hb dX10_all_47 (by decide) ?_
      refine lv_goto (tgt := 55) hx hb dX10_all_48 (by decide) ?_
      exact wX10_all_b55 C hr k23 hH hf (lv_sub hl [1, 2, 3, 4] rfl)
set_option maxHeartbeats 4000000 in
set_option maxRecDepth 100000 in
theorem wX10_all_L23 {r : Int32} {h' : PH} (C : CT g RX10 cX10_all 7 (Cond.code yX10_all cX10_all 7 (some .int) :: TB) p s m args meth c) (hr : meth.sig.returnType = some .int) : ∀ (n : Nat) {h : PH} {a0 : Nat} {x1 : Int32} {x2 : Int32} {x3 : Int32} {H : Heap} {locs : List Loc} {ls : Array Slot}, HS g s H locs h → mX10_all_L23 n h a0 x1 x2 x3 = some (r, h') → lv_has ls 7 [(0, .ref (gB g + a0)), (1, .int x1), (2, .int x2), (3, .int x3)] → W p l e (rmD 15 0 0) s m args below meth c H locs 0 0 (MQ below (QcI g r h') args s 0 0 (aB g)) (F0 m 23 ls []) := by
  intro n
  induction n with
  | zero =>
    intro h a0 x1 x2 x3 H locs ls hH hf hl
    exact absurd hf (by intro z; cases z)
  | succ n ih =>
    intro h a0 x1 x2 x3 H locs ls hH hf hl
    have hf : mX10_all_b23 (mX10_all_L23 n) h a0 x1 x2 x3 = some (r, h') := hf
    exact wX10_all_b23 C hr (fun a b c => ih a b c) hH hf hl
set_option maxHeartbeats 4000000 in
set_option maxRecDepth 100000 in
theorem c_X10_all {l : Launch} {g : GD} {h : PH} {a0 : Nat} {x1 : Int32} {r : Int32} {h' : PH} (hf : mX10_all h a0 x1 = some (r, h')) : Met l yX10_all (Cond.code yX10_all cX10_all 7 (some .int) :: TB) (rmD 15 0 0) (PcH g [.ref (gB g + a0), .int x1] h) (QcI g r h') 0 0 (aB g) := by
  refine Met.ofW (cc := cX10_all) (maxL := 7) (ret := some .int) (by decide) rfl ?_
  intro p e s m args below meth c s₁ B hml hv
  obtain ⟨rfl, hH0, hkk0⟩ := hv
  have C : CT g RX10 cX10_all 7 (Cond.code yX10_all cX10_all 7 (some .int) :: TB) p s m _ meth c := pg_ct (Tw := []) B hml hH0 hkk0
  have hr := B.returns
  have hH : HS g s s.heap [] h := ⟨hH0, va_S.rf⟩
  have hl := lv_entry ([.ref (gB g + a0), .int x1]) (n := 7) (Nat.le_of_ble_eq_true rfl)
  rw [lg_entry_eq]
  generalize (lg_sl ([.ref (gB g + a0), .int x1]) ++ List.replicate (7 - (lg_sl ([.ref (gB g + a0), .int x1])).length) Slot.unset).toArray = ls at hl ⊢
  have hl : lv_has ls 7 [(0, .ref (gB g + a0)), (1, .int x1)] := hl
  show W p l e (rmD 15 0 0) _ _ _ _ _ _ _ _ _ _ _ _
  unfold mX10_all at hf
  obtain ⟨hO, hf⟩ := oO_sp hf
  obtain ⟨⟨hx, hb, hml, hown, hts⟩, htb, hlk, hkk, hbs⟩ := id C
  refine lv_aload_n hx hb dX10_all_0 rfl (lv_at hl 0 rfl) ?_
  refine lv_iconst (v := (0 : Int32)) hx hb dX10_all_1 (by decide) ?_
  refine pg_pI C hH fl_X10_1 fm_10_0 hf dX10_all_2 (fun H locs h2 hH hf => ?_)
  refine lv_iload_n hx hb dX10_all_5 rfl (lv_at hl 1 rfl) ?_
  refine lv_i2l (v := (Int32.toInt64 x1)) hx hb dX10_all_6 rfl ?_
  refine lv_lconst (v := (0 : Int64)) hx hb dX10_all_7 (by decide) ?_
  refine lv_ldc2 (v := (6 : Int64)) hx hb hown (hts _ (htb _ kl_X10_410)) dX10_all_8 ?_
  refine pg_Si (As := [.long (Int32.toInt64 x1), .long (0 : Int64), .long (6 : Int64)]) C hH mi_X10_within sl_X10_97 hf (fun _ _ e1 => c_X10_within e1) rfl rfl hl.1 (Nat.le_of_ble_eq_true rfl) ⟨Nat.le_of_ble_eq_true rfl, Nat.le_of_ble_eq_true rfl⟩ ⟨Nat.zero_le _, Nat.zero_le _⟩ dX10_all_11 (fun H locs v11 h11 hH hf => ?_)
  refine lv_if_ne (tgt := 19) hx hb dX10_all_14 (by decide) (fun cn => ?_) (fun cn => ?_)
  · have hf := (if_neg cn).symm.trans hf
    refine lv_iconst (v := (0 : Int32)) hx hb dX10_all_19 (by decide) ?_
    refine lv_istore_n (lv' := [(2, .int (0 : Int32)), (0, .ref (gB g + a0)), (1, .int x1)]) hx hb dX10_all_20 rfl hl (by decide) rfl (fun ls hl => ?_)
    refine lv_iconst (v := (0 : Int32)) hx hb dX10_all_21 (by decide) ?_
    refine lv_istore_n (lv' := [(3, .int (0 : Int32)), (2, .int (0 : Int32)), (0, .ref (gB g + a0)), (1, .int x1)]) hx hb dX10_all_22 rfl hl (by decide) rfl (fun ls hl => ?_)
    exact wX10_all_L23 C hr FU hH hf (lv_sub hl [2, 3, 1, 0] rfl)
  · have hf := (if_pos cn).symm.trans hf
    refine lv_iconst (v := (-1 : Int32)) hx hb dX10_all_17 (by decide) ?_
    exact pg_iret C hr hH hf dX10_all_18
set_option maxHeartbeats 4000000 in
set_option maxRecDepth 100000 in
theorem c_X10_says {l : Launch} {g : GD} {h : PH} {a0 : Nat} {x1 : Int32} {h' : PH} (hf : mX10_says h a0 x1 = some h') : Met l yX10_says (Cond.code yX10_says cX10_says 2 (none) :: TB) (rmD 0 0 0) (PcH g [.ref (gB g + a0), .int x1] h) (QcV g h') 0 0 (aB g) := by
  refine Met.ofW (cc := cX10_says) (maxL := 2) (ret := none) (by decide) rfl ?_
  intro p e s m args below meth c s₁ B hml hv
  obtain ⟨rfl, hH0, hkk0⟩ := hv
  have C : CT g RX10 cX10_says 2 (Cond.code yX10_says cX10_says 2 (none) :: TB) p s m _ meth c := pg_ct (Tw := []) B hml hH0 hkk0
  have hr := B.returns
  have hH : HS g s s.heap [] h := ⟨hH0, va_S.rf⟩
  have hl := lv_entry ([.ref (gB g + a0), .int x1]) (n := 2) (Nat.le_of_ble_eq_true rfl)
  rw [lg_entry_eq]
  generalize (lg_sl ([.ref (gB g + a0), .int x1]) ++ List.replicate (2 - (lg_sl ([.ref (gB g + a0), .int x1])).length) Slot.unset).toArray = ls at hl ⊢
  have hl : lv_has ls 2 [(0, .ref (gB g + a0)), (1, .int x1)] := hl
  show W p l e (rmD 0 0 0) _ _ _ _ _ _ _ _ _ _ _ _
  unfold mX10_says at hf
  obtain ⟨hO, hf⟩ := oO_sp hf
  obtain ⟨⟨hx, hb, hml, hown, hts⟩, htb, hlk, hkk, hbs⟩ := id C
  refine lv_aload_n hx hb dX10_says_0 rfl (lv_at hl 0 rfl) ?_
  refine pg_gR C hH fl_X10_56 hf dX10_says_1 (fun v1 hf => ?_)
  refine lv_aload_n hx hb dX10_says_4 rfl (lv_at hl 0 rfl) ?_
  refine pg_gI C hH fl_X10_435 hf dX10_says_5 (fun v5 hf => ?_)
  refine lv_iload_n hx hb dX10_says_8 rfl (lv_at hl 1 rfl) ?_
  refine pg_sI C hH hf dX10_says_9 (fun H locs h9 hH hf => ?_)
  refine lv_aload_n hx hb dX10_says_10 rfl (lv_at hl 0 rfl) ?_
  refine lv_dup hx hb dX10_says_11 rfl ?_
  refine pg_gI C hH fl_X10_435 hf dX10_says_12 (fun v12 hf => ?_)
  refine lv_iconst (v := (1 : Int32)) hx hb dX10_says_15 (by decide) ?_
  refine lv_iadd hx hb dX10_says_16 ?_
  refine pg_pI C hH fl_X10_435 fm_10_33 hf dX10_says_17 (fun H locs h17 hH hf => ?_)
  exact pg_vret C hr hH hf dX10_says_20
set_option maxHeartbeats 4000000 in
set_option maxRecDepth 100000 in
theorem wX10_saysWord_b3 {r3 : PH → Nat → Int64 → Int32 → Option (PH)} {h' : PH} (C : CT g RX10 cX10_saysWord 5 (Cond.code yX10_saysWord cX10_saysWord 5 (none) :: TB) p s m args meth c) (hr : meth.sig.returnType = none) (k3 : ∀ {h : PH} {a0 : Nat} {x1 : Int64} {x3 : Int32} {H : Heap} {locs : List Loc} {ls : Array Slot}, HS g s H locs h → r3 h a0 x1 x3 = some h' → lv_has ls 5 [(0, .ref (gB g + a0)), (1, .long x1), (3, .int x3)] → W p l e (rmD 1 0 0) s m args below meth c H locs 0 0 (MQ below (QcV g h') args s 0 0 (aB g)) (F0 m 3 ls [])) {h : PH} {a0 : Nat} {x1 : Int64} {x3 : Int32} {H : Heap} {locs : List Loc} {ls : Array Slot} (hH : HS g s H locs h) (hf : mX10_saysWord_b3 r3 h a0 x1 x3 = some h') (hl : lv_has ls 5 [(0, .ref (gB g + a0)), (1, .long x1), (3, .int x3)]) : W p l e (rmD 1 0 0) s m args below meth c H locs 0 0 (MQ below (QcV g h') args s 0 0 (aB g)) (F0 m 3 ls []) := by
  obtain ⟨⟨hx, hb, hml, hown, hts⟩, htb, hlk, hkk, hbs⟩ := id C
  unfold mX10_saysWord_b3 at hf
  refine lv_iload_n hx hb dX10_saysWord_3 rfl (lv_at hl 2 rfl) ?_
  refine lv_if_lt (tgt := 37) hx hb dX10_saysWord_4 (by decide) (fun cn => ?_) (fun cn => ?_)
  · have hf := (if_pos cn).symm.trans hf
    refine lv_aload_n hx hb dX10_saysWord_37 rfl (lv_at hl 0 rfl) ?_
    refine lv_bipush (v := (32 : Int32)) hx hb dX10_saysWord_38 (by decide) ?_
    refine pg_Vv (As := [.int (32 : Int32)]) C hH mi_X10_says vl_X10_440 (q := (RX10, TX10, 34)) (ci := 10) rfl rfl hf (fun _ e1 => (oO_sp e1).1) (fun _ e1 => c_X10_says e1) rfl rfl hl.1 (Nat.le_of_ble_eq_true rfl) ⟨Nat.le_of_ble_eq_true rfl, Nat.le_of_ble_eq_true rfl⟩ ⟨Nat.zero_le _, Nat.zero_le _⟩ dX10_saysWord_40 (fun H locs h40 hH hf => ?_)
    exact pg_vret C hr hH hf dX10_saysWord_43
  · have hf := (if_neg cn).symm.trans hf
    refine lv_lload_n hx hb dX10_saysWord_7 rfl (lv_at hl 1 rfl) ?_
    refine lv_iload_n hx hb dX10_saysWord_8 rfl (lv_at hl 2 rfl) ?_
    refine lv_lshr (v := (x1 >>> (x3.toInt64 &&& 63))) hx hb dX10_saysWord_9 rfl ?_
    refine lv_ldc2 (v := (31 : Int64)) hx hb hown (hts _ (htb _ kl_X10_438)) dX10_saysWord_10 ?_
    refine lv_land hx hb dX10_saysWord_13 ?_
    refine lv_l2i (v := (Int64.toInt32 ((x1 >>> (x3.toInt64 &&& 63)) &&& (31 : Int64)))) hx hb dX10_saysWord_14 rfl ?_
    refine lv_istore (lv' := [(4, .int (Int64.toInt32 ((x1 >>> (x3.toInt64 &&& 63)) &&& (31 : Int64)))), (0, .ref (gB g + a0)), (1, .long x1), (3, .int x3)]) hx hb dX10_saysWord_15 hl (by decide) rfl (fun ls hl => ?_)
    refine lv_iload hx hb dX10_saysWord_17 (lv_at hl 0 rfl) ?_
    refine lv_if_le (tgt := 31) hx hb dX10_saysWord_19 (by decide) (fun cn => ?_) (fun cn => ?_)
    · have hf := (if_pos cn).symm.trans hf
      refine lv_iinc (v := (x3 + (-5))) (lv' := [(3, .int (x3 + (-5))), (4, .int (Int64.toInt32 ((x1 >>> (x3.toInt64 &&& 63)) &&& (31 : Int64)))), (0, .ref (gB g + a0)), (1, .long x1)]) hx hb dX10_saysWord_31 hl (k := 3) rfl rfl (by decide) rfl (fun ls hl => ?_)
      refine lv_goto (tgt := 3) hx hb dX10_saysWord_34 (by decide) ?_
      exact k3 hH hf (lv_sub hl [2, 3, 0] rfl)
    · have hf := (if_neg cn).symm.trans hf
      refine lv_aload_n hx hb dX10_saysWord_22 rfl (lv_at hl 1 rfl) ?_
      refine lv_bipush (v := (96 : Int32)) hx hb dX10_saysWord_23 (by decide) ?_
      refine lv_iload hx hb dX10_saysWord_25 (lv_at hl 0 rfl) ?_
      refine lv_iadd hx hb dX10_saysWord_27 ?_
      refine pg_Vv (As := [.int ((96 : Int32) + (Int64.toInt32 ((x1 >>> (x3.toInt64 &&& 63)) &&& (31 : Int64))))]) C hH mi_X10_says vl_X10_440 (q := (RX10, TX10, 34)) (ci := 10) rfl rfl hf (fun _ e1 => (oO_sp e1).1) (fun _ e1 => c_X10_says e1) rfl rfl hl.1 (Nat.le_of_ble_eq_true rfl) ⟨Nat.le_of_ble_eq_true rfl, Nat.le_of_ble_eq_true rfl⟩ ⟨Nat.zero_le _, Nat.zero_le _⟩ dX10_saysWord_28 (fun H locs h28 hH hf => ?_)
      refine lv_iinc (v := (x3 + (-5))) (lv' := [(3, .int (x3 + (-5))), (4, .int (Int64.toInt32 ((x1 >>> (x3.toInt64 &&& 63)) &&& (31 : Int64)))), (0, .ref (gB g + a0)), (1, .long x1)]) hx hb dX10_saysWord_31 hl (k := 3) rfl rfl (by decide) rfl (fun ls hl => ?_)
      refine lv_goto (tgt := 3) hx hb dX10_saysWord_34 (by decide) ?_
      exact k3 hH hf (lv_sub hl [2, 3, 0] rfl)
set_option maxHeartbeats 4000000 in
set_option maxRecDepth 100000 in
theorem wX10_saysWord_L3 {h' : PH} (C : CT g RX10 cX10_saysWord 5 (Cond.code yX10_saysWord cX10_saysWord 5 (none) :: TB) p s m args meth c) (hr : meth.sig.returnType = none) : ∀ (n : Nat) {h : PH} {a0 : Nat} {x1 : Int64} {x3 : Int32} {H : Heap} {locs : List Loc} {ls : Array Slot}, HS g s H locs h → mX10_saysWord_L3 n h a0 x1 x3 = some h' → lv_has ls 5 [(0, .ref (gB g + a0)), (1, .long x1), (3, .int x3)] → W p l e (rmD 1 0 0) s m args below meth c H locs 0 0 (MQ below (QcV g h') args s 0 0 (aB g)) (F0 m 3 ls []) := by
  intro n
  induction n with
  | zero =>
    intro h a0 x1 x3 H locs ls hH hf hl
    exact absurd hf (by intro z; cases z)
  | succ n ih =>
    intro h a0 x1 x3 H locs ls hH hf hl
    have hf : mX10_saysWord_b3 (mX10_saysWord_L3 n) h a0 x1 x3 = some h' := hf
    exact wX10_saysWord_b3 C hr (fun a b c => ih a b c) hH hf hl
set_option maxHeartbeats 4000000 in
set_option maxRecDepth 100000 in
theorem c_X10_saysWord {l : Launch} {g : GD} {h : PH} {a0 : Nat} {x1 : Int64} {h' : PH} (hf : mX10_saysWord h a0 x1 = some h') : Met l yX10_saysWord (Cond.code yX10_saysWord cX10_saysWord 5 (none) :: TB) (rmD 1 0 0) (PcH g [.ref (gB g + a0), .long x1] h) (QcV g h') 0 0 (aB g) := by
  refine Met.ofW (cc := cX10_saysWord) (maxL := 5) (ret := none) (by decide) rfl ?_
  intro p e s m args below meth c s₁ B hml hv
  obtain ⟨rfl, hH0, hkk0⟩ := hv
  have C : CT g RX10 cX10_saysWord 5 (Cond.code yX10_saysWord cX10_saysWord 5 (none) :: TB) p s m _ meth c := pg_ct (Tw := []) B hml hH0 hkk0
  have hr := B.returns
  have hH : HS g s s.heap [] h := ⟨hH0, va_S.rf⟩
  have hl := lv_entry ([.ref (gB g + a0), .long x1]) (n := 5) (Nat.le_of_ble_eq_true rfl)
  rw [lg_entry_eq]
  generalize (lg_sl ([.ref (gB g + a0), .long x1]) ++ List.replicate (5 - (lg_sl ([.ref (gB g + a0), .long x1])).length) Slot.unset).toArray = ls at hl ⊢
  have hl : lv_has ls 5 [(0, .ref (gB g + a0)), (1, .long x1)] := hl
  show W p l e (rmD 1 0 0) _ _ _ _ _ _ _ _ _ _ _ _
  unfold mX10_saysWord at hf
  obtain ⟨hO, hf⟩ := oO_sp hf
  obtain ⟨⟨hx, hb, hml, hown, hts⟩, htb, hlk, hkk, hbs⟩ := id C
  refine lv_bipush (v := (30 : Int32)) hx hb dX10_saysWord_0 (by decide) ?_
  refine lv_istore_n (lv' := [(3, .int (30 : Int32)), (0, .ref (gB g + a0)), (1, .long x1)]) hx hb dX10_saysWord_2 rfl hl (by decide) rfl (fun ls hl => ?_)
  exact wX10_saysWord_L3 C hr FU hH hf (lv_sub hl [1, 2, 0] rfl)
set_option maxHeartbeats 4000000 in
set_option maxRecDepth 100000 in
theorem wX10_saysNumber_b21 {r21 : PH → Nat → Int64 → Int64 → Option (PH)} {h' : PH} (C : CT g RX10 cX10_saysNumber 5 (Cond.code yX10_saysNumber cX10_saysNumber 5 (none) :: TB) p s m args meth c) (hr : meth.sig.returnType = none) (k21 : ∀ {h : PH} {a0 : Nat} {x1 : Int64} {x3 : Int64} {H : Heap} {locs : List Loc} {ls : Array Slot}, HS g s H locs h → r21 h a0 x1 x3 = some h' → lv_has ls 5 [(0, .ref (gB g + a0)), (1, .long x1), (3, .long x3)] → W p l e (rmD 1 0 0) s m args below meth c H locs 0 0 (MQ below (QcV g h') args s 0 0 (aB g)) (F0 m 21 ls [])) {h : PH} {a0 : Nat} {x1 : Int64} {x3 : Int64} {H : Heap} {locs : List Loc} {ls : Array Slot} (hH : HS g s H locs h) (hf : mX10_saysNumber_b21 r21 h a0 x1 x3 = some h') (hl : lv_has ls 5 [(0, .ref (gB g + a0)), (1, .long x1), (3, .long x3)]) : W p l e (rmD 1 0 0) s m args below meth c H locs 0 0 (MQ below (QcV g h') args s 0 0 (aB g)) (F0 m 21 ls []) := by
  obtain ⟨⟨hx, hb, hml, hown, hts⟩, htb, hlk, hkk, hbs⟩ := id C
  unfold mX10_saysNumber_b21 at hf
  refine lv_lload_n hx hb dX10_saysNumber_21 rfl (lv_at hl 2 rfl) ?_
  refine lv_lconst (v := (0 : Int64)) hx hb dX10_saysNumber_22 (by decide) ?_
  refine W.lcmp hx hb dX10_saysNumber_23 ?_
  refine lv_if_le (tgt := 51) hx hb dX10_saysNumber_24 (by decide) (fun cn => ?_) (fun cn => ?_)
  · have hf := (if_pos ((lg_cmp_le _ _).mp cn)).symm.trans hf
    refine lv_aload_n hx hb dX10_saysNumber_51 rfl (lv_at hl 0 rfl) ?_
    refine lv_bipush (v := (32 : Int32)) hx hb dX10_saysNumber_52 (by decide) ?_
    refine pg_Vv (As := [.int (32 : Int32)]) C hH mi_X10_says vl_X10_440 (q := (RX10, TX10, 34)) (ci := 10) rfl rfl hf (fun _ e1 => (oO_sp e1).1) (fun _ e1 => c_X10_says e1) rfl rfl hl.1 (Nat.le_of_ble_eq_true rfl) ⟨Nat.le_of_ble_eq_true rfl, Nat.le_of_ble_eq_true rfl⟩ ⟨Nat.zero_le _, Nat.zero_le _⟩ dX10_saysNumber_54 (fun H locs h54 hH hf => ?_)
    exact pg_vret C hr hH hf dX10_saysNumber_57
  · have hf := (if_neg (fun z => cn ((lg_cmp_le _ _).mpr z))).symm.trans hf
    refine lv_aload_n hx hb dX10_saysNumber_27 rfl (lv_at hl 0 rfl) ?_
    refine lv_bipush (v := (48 : Int32)) hx hb dX10_saysNumber_28 (by decide) ?_
    refine lv_lload_n hx hb dX10_saysNumber_30 rfl (lv_at hl 1 rfl) ?_
    refine lv_lload_n hx hb dX10_saysNumber_31 rfl (lv_at hl 2 rfl) ?_
    obtain ⟨hz32, hf⟩ := dz_sp hf
    refine lv_ldiv hx hb dX10_saysNumber_32 hz32 ?_
    refine lv_ldc2 (v := (10 : Int64)) hx hb hown (hts _ (htb _ kl_X10_443)) dX10_saysNumber_33 ?_
    refine lv_lrem hx hb dX10_saysNumber_36 (by decide) ?_
    refine lv_l2i (v := (Int64.toInt32 ((x1 / x3) - (x1 / x3) / (10 : Int64) * (10 : Int64)))) hx hb dX10_saysNumber_37 rfl ?_
    refine lv_iadd hx hb dX10_saysNumber_38 ?_
    refine pg_Vv (As := [.int ((48 : Int32) + (Int64.toInt32 ((x1 / x3) - (x1 / x3) / (10 : Int64) * (10 : Int64))))]) C hH mi_X10_says vl_X10_440 (q := (RX10, TX10, 34)) (ci := 10) rfl rfl hf (fun _ e1 => (oO_sp e1).1) (fun _ e1 => c_X10_says e1) rfl rfl hl.1 (Nat.le_of_ble_eq_true rfl) ⟨Nat.le_of_ble_eq_true rfl, Nat.le_of_ble_eq_true rfl⟩ ⟨Nat.zero_le _, Nat.zero_le _⟩ dX10_saysNumber_39 (fun H locs h39 hH hf => ?_)
    refine lv_lload_n hx hb dX10_saysNumber_42 rfl (lv_at hl 2 rfl) ?_
    refine lv_ldc2 (v := (10 : Int64)) hx hb hown (hts _ (htb _ kl_X10_443)) dX10_saysNumber_43 ?_
    refine lv_ldiv hx hb dX10_saysNumber_46 (by decide) ?_
    refine lv_lstore_n (lv' := [(3, .long (x3 / (10 : Int64))), (0, .ref (gB g + a0)), (1, .long x1)]) hx hb dX10_saysNumber_47 rfl hl (by decide) rfl (fun ls hl => ?_)
    refine lv_goto (tgt := 21) hx hb dX10_saysNumber_48 (by decide) ?_
    exact k21 hH hf (lv_sub hl [1, 2, 0] rfl)
set_option maxHeartbeats 4000000 in
set_option maxRecDepth 100000 in
theorem wX10_saysNumber_L21 {h' : PH} (C : CT g RX10 cX10_saysNumber 5 (Cond.code yX10_saysNumber cX10_saysNumber 5 (none) :: TB) p s m args meth c) (hr : meth.sig.returnType = none) : ∀ (n : Nat) {h : PH} {a0 : Nat} {x1 : Int64} {x3 : Int64} {H : Heap} {locs : List Loc} {ls : Array Slot}, HS g s H locs h → mX10_saysNumber_L21 n h a0 x1 x3 = some h' → lv_has ls 5 [(0, .ref (gB g + a0)), (1, .long x1), (3, .long x3)] → W p l e (rmD 1 0 0) s m args below meth c H locs 0 0 (MQ below (QcV g h') args s 0 0 (aB g)) (F0 m 21 ls []) := by
  intro n
  induction n with
  | zero =>
    intro h a0 x1 x3 H locs ls hH hf hl
    exact absurd hf (by intro z; cases z)
  | succ n ih =>
    intro h a0 x1 x3 H locs ls hH hf hl
    have hf : mX10_saysNumber_b21 (mX10_saysNumber_L21 n) h a0 x1 x3 = some h' := hf
    exact wX10_saysNumber_b21 C hr (fun a b c => ih a b c) hH hf hl
set_option maxHeartbeats 4000000 in
set_option maxRecDepth 100000 in
theorem wX10_saysNumber_b2 {r2 : PH → Nat → Int64 → Int64 → Option (PH)} {h' : PH} (C : CT g RX10 cX10_saysNumber 5 (Cond.code yX10_saysNumber cX10_saysNumber 5 (none) :: TB) p s m args meth c) (hr : meth.sig.returnType = none) (k2 : ∀ {h : PH} {a0 : Nat} {x1 : Int64} {x3 : Int64} {H : Heap} {locs : List Loc} {ls : Array Slot}, HS g s H locs h → r2 h a0 x1 x3 = some h' → lv_has ls 5 [(0, .ref (gB g + a0)), (1, .long x1), (3, .long x3)] → W p l e (rmD 1 0 0) s m args below meth c H locs 0 0 (MQ below (QcV g h') args s 0 0 (aB g)) (F0 m 2 ls [])) {h : PH} {a0 : Nat} {x1 : Int64} {x3 : Int64} {H : Heap} {locs : List Loc} {ls : Array Slot} (hH : HS g s H locs h) (hf : mX10_saysNumber_b2 r2 h a0 x1 x3 = some h') (hl : lv_has ls 5 [(0, .ref (gB g + a0)), (1, .long x1), (3, .long x3)]) : W p l e (rmD 1 0 0) s m args below meth c H locs 0 0 (MQ below (QcV g h') args s 0 0 (aB g)) (F0 m 2 ls []) := by
  obtain ⟨⟨hx, hb, hml, hown, hts⟩, htb, hlk, hkk, hbs⟩ := id C
  unfold mX10_saysNumber_b2 at hf
  refine lv_lload_n hx hb dX10_saysNumber_2 rfl (lv_at hl 1 rfl) ?_
  refine lv_lload_n hx hb dX10_saysNumber_3 rfl (lv_at hl 2 rfl) ?_
  obtain ⟨hz4, hf⟩ := dz_sp hf
  refine lv_ldiv hx hb dX10_saysNumber_4 hz4 ?_
  refine lv_ldc2 (v := (10 : Int64)) hx hb hown (hts _ (htb _ kl_X10_443)) dX10_saysNumber_5 ?_
  refine W.lcmp hx hb dX10_saysNumber_8 ?_
  refine lv_if_lt (tgt := 21) hx hb dX10_saysNumber_9 (by decide) (fun cn => ?_) (fun cn => ?_)
  · have hf := (if_pos ((lg_cmp_lt _ _).mp cn)).symm.trans hf
    exact wX10_saysNumber_L21 C hr FU hH hf (lv_sub hl [0, 1, 2] rfl)
  · have hf := (if_neg (fun z => cn ((lg_cmp_lt _ _).mpr z))).symm.trans hf
    refine lv_lload_n hx hb dX10_saysNumber_12 rfl (lv_at hl 2 rfl) ?_
    refine lv_ldc2 (v := (10 : Int64)) hx hb hown (hts _ (htb _ kl_X10_443)) dX10_saysNumber_13 ?_
    refine lv_lmul hx hb dX10_saysNumber_16 ?_
    refine lv_lstore_n (lv' := [(3, .long (x3 * (10 : Int64))), (0, .ref (gB g + a0)), (1, .long x1)]) hx hb dX10_saysNumber_17 rfl hl (by decide) rfl (fun ls hl => ?_)
    refine lv_goto (tgt := 2) hx hb dX10_saysNumber_18 (by decide) ?_
    exact k2 hH hf (lv_sub hl [1, 2, 0] rfl)
set_option maxHeartbeats 4000000 in
set_option maxRecDepth 100000 in
theorem wX10_saysNumber_L2 {h' : PH} (C : CT g RX10 cX10_saysNumber 5 (Cond.code yX10_saysNumber cX10_saysNumber 5 (none) :: TB) p s m args meth c) (hr : meth.sig.returnType = none) : ∀ (n : Nat) {h : PH} {a0 : Nat} {x1 : Int64} {x3 : Int64} {H : Heap} {locs : List Loc} {ls : Array Slot}, HS g s H locs h → mX10_saysNumber_L2 n h a0 x1 x3 = some h' → lv_has ls 5 [(0, .ref (gB g + a0)), (1, .long x1), (3, .long x3)] → W p l e (rmD 1 0 0) s m args below meth c H locs 0 0 (MQ below (QcV g h') args s 0 0 (aB g)) (F0 m 2 ls []) := by
  intro n
  induction n with
  | zero =>
    intro h a0 x1 x3 H locs ls hH hf hl
    exact absurd hf (by intro z; cases z)
  | succ n ih =>
    intro h a0 x1 x3 H locs ls hH hf hl
    have hf : mX10_saysNumber_b2 (mX10_saysNumber_L2 n) h a0 x1 x3 = some h' := hf
    exact wX10_saysNumber_b2 C hr (fun a b c => ih a b c) hH hf hl
set_option maxHeartbeats 4000000 in
set_option maxRecDepth 100000 in
theorem c_X10_saysNumber {l : Launch} {g : GD} {h : PH} {a0 : Nat} {x1 : Int64} {h' : PH} (hf : mX10_saysNumber h a0 x1 = some h') : Met l yX10_saysNumber (Cond.code yX10_saysNumber cX10_saysNumber 5 (none) :: TB) (rmD 1 0 0) (PcH g [.ref (gB g + a0), .long x1] h) (QcV g h') 0 0 (aB g) := by
  refine Met.ofW (cc := cX10_saysNumber) (maxL := 5) (ret := none) (by decide) rfl ?_
  intro p e s m args below meth c s₁ B hml hv
  obtain ⟨rfl, hH0, hkk0⟩ := hv
  have C : CT g RX10 cX10_saysNumber 5 (Cond.code yX10_saysNumber cX10_saysNumber 5 (none) :: TB) p s m _ meth c := pg_ct (Tw := []) B hml hH0 hkk0
  have hr := B.returns
  have hH : HS g s s.heap [] h := ⟨hH0, va_S.rf⟩
  have hl := lv_entry ([.ref (gB g + a0), .long x1]) (n := 5) (Nat.le_of_ble_eq_true rfl)
  rw [lg_entry_eq]
  generalize (lg_sl ([.ref (gB g + a0), .long x1]) ++ List.replicate (5 - (lg_sl ([.ref (gB g + a0), .long x1])).length) Slot.unset).toArray = ls at hl ⊢
  have hl : lv_has ls 5 [(0, .ref (gB g + a0)), (1, .long x1)] := hl
  show W p l e (rmD 1 0 0) _ _ _ _ _ _ _ _ _ _ _ _
  unfold mX10_saysNumber at hf
  obtain ⟨hO, hf⟩ := oO_sp hf
  obtain ⟨⟨hx, hb, hml, hown, hts⟩, htb, hlk, hkk, hbs⟩ := id C
  refine lv_lconst (v := (1 : Int64)) hx hb dX10_saysNumber_0 (by decide) ?_
  refine lv_lstore_n (lv' := [(3, .long (1 : Int64)), (0, .ref (gB g + a0)), (1, .long x1)]) hx hb dX10_saysNumber_1 rfl hl (by decide) rfl (fun ls hl => ?_)
  exact wX10_saysNumber_L2 C hr FU hH hf (lv_sub hl [1, 2, 0] rfl)
set_option maxHeartbeats 4000000 in
set_option maxRecDepth 100000 in
theorem wX10_report_b82 {r12 : PH → Nat → Int32 → Int32 → Option (Int32 × PH)} {r : Int32} {h' : PH} (C : CT g RX10 cX10_report 5 (Cond.code yX10_report cX10_report 5 (some .int) :: TB) p s m args meth c) (hr : meth.sig.returnType = some .int) (k12 : ∀ {h : PH} {a0 : Nat} {x1 : Int32} {x2 : Int32} {H : Heap} {locs : List Loc} {ls : Array Slot}, HS g s H locs h → r12 h a0 x1 x2 = some (r, h') → lv_has ls 5 [(0, .ref (gB g + a0)), (1, .int x1), (2, .int x2)] → W p l e (rmD 15 0 0) s m args below meth c H locs 0 0 (MQ below (QcI g r h') args s 0 0 (aB g)) (F0 m 12 ls [])) {h : PH} {a0 : Nat} {x1 : Int32} {x2 : Int32} {H : Heap} {locs : List Loc} {ls : Array Slot} (hH : HS g s H locs h) (hf : mX10_report_b82 r12 h a0 x1 x2 = some (r, h')) (hl : lv_has ls 5 [(0, .ref (gB g + a0)), (1, .int x1), (2, .int x2)]) : W p l e (rmD 15 0 0) s m args below meth c H locs 0 0 (MQ below (QcI g r h') args s 0 0 (aB g)) (F0 m 82 ls []) := by
  obtain ⟨⟨hx, hb, hml, hown, hts⟩, htb, hlk, hkk, hbs⟩ := id C
  unfold mX10_report_b82 at hf
  refine lv_aload_n hx hb dX10_report_82 rfl (lv_at hl 0 rfl) ?_
  refine lv_bipush (v := (59 : Int32)) hx hb dX10_report_83 (by decide) ?_
  refine pg_Vv (As := [.int (59 : Int32)]) C hH mi_X10_says vl_X10_440 (q := (RX10, TX10, 34)) (ci := 10) rfl rfl hf (fun _ e1 => (oO_sp e1).1) (fun _ e1 => c_X10_says e1) rfl rfl hl.1 (Nat.le_of_ble_eq_true rfl) ⟨Nat.le_of_ble_eq_true rfl, Nat.le_of_ble_eq_true rfl⟩ ⟨Nat.zero_le _, Nat.zero_le _⟩ dX10_report_85 (fun H locs h85 hH hf => ?_)
  refine lv_aload_n hx hb dX10_report_88 rfl (lv_at hl 0 rfl) ?_
  refine lv_bipush (v := (32 : Int32)) hx hb dX10_report_89 (by decide) ?_
  refine pg_Vv (As := [.int (32 : Int32)]) C hH mi_X10_says vl_X10_440 (q := (RX10, TX10, 34)) (ci := 10) rfl rfl hf (fun _ e1 => (oO_sp e1).1) (fun _ e1 => c_X10_says e1) rfl rfl hl.1 (Nat.le_of_ble_eq_true rfl) ⟨Nat.le_of_ble_eq_true rfl, Nat.le_of_ble_eq_true rfl⟩ ⟨Nat.zero_le _, Nat.zero_le _⟩ dX10_report_91 (fun H locs h91 hH hf => ?_)
  refine lv_iinc (v := (x2 + 1)) (lv' := [(2, .int (x2 + 1)), (0, .ref (gB g + a0)), (1, .int x1)]) hx hb dX10_report_94 hl (k := 2) rfl rfl (by decide) rfl (fun ls hl => ?_)
  refine lv_goto (tgt := 12) hx hb dX10_report_97 (by decide) ?_
  exact k12 hH hf (lv_sub hl [1, 2, 0] rfl)
set_option maxHeartbeats 4000000 in
set_option maxRecDepth 100000 in
theorem wX10_report_b12 {r12 : PH → Nat → Int32 → Int32 → Option (Int32 × PH)} {r : Int32} {h' : PH} (C : CT g RX10 cX10_report 5 (Cond.code yX10_report cX10_report 5 (some .int) :: TB) p s m args meth c) (hr : meth.sig.returnType = some .int) (k12 : ∀ {h : PH} {a0 : Nat} {x1 : Int32} {x2 : Int32} {H : Heap} {locs : List Loc} {ls : Array Slot}, HS g s H locs h → r12 h a0 x1 x2 = some (r, h') → lv_has ls 5 [(0, .ref (gB g + a0)), (1, .int x1), (2, .int x2)] → W p l e (rmD 15 0 0) s m args below meth c H locs 0 0 (MQ below (QcI g r h') args s 0 0 (aB g)) (F0 m 12 ls [])) {h : PH} {a0 : Nat} {x1 : Int32} {x2 : Int32} {H : Heap} {locs : List Loc} {ls : Array Slot} (hH : HS g s H locs h) (hf : mX10_report_b12 r12 h a0 x1 x2 = some (r, h')) (hl : lv_has ls 5 [(0, .ref (gB g + a0)), (1, .int x1), (2, .int x2)]) : W p l e (rmD 15 0 0) s m args below meth c H locs 0 0 (MQ below (QcI g r h') args s 0 0 (aB g)) (F0 m 12 ls []) := by
  obtain ⟨⟨hx, hb, hml, hown, hts⟩, htb, hlk, hkk, hbs⟩ := id C
  unfold mX10_report_b12 at hf
  refine lv_iload_n hx hb dX10_report_12 rfl (lv_at hl 2 rfl) ?_
  refine lv_aload_n hx hb dX10_report_13 rfl (lv_at hl 0 rfl) ?_
  refine pg_gR C hH fl_X10_13 hf dX10_report_14 (fun v14 hf => ?_)
  refine lv_iconst (v := (3 : Int32)) hx hb dX10_report_17 (by decide) ?_
  refine pg_aI C hH hf dX10_report_18 (fun v18 hf => ?_)
  refine lv_icmp_ge (tgt := 100) hx hb dX10_report_19 (by decide) (fun cn => ?_) (fun cn => ?_)
  · have hf := (if_pos cn).symm.trans hf
    refine lv_iload_n hx hb dX10_report_100 rfl (lv_at hl 1 rfl) ?_
    refine lv_iconst (v := (-1 : Int32)) hx hb dX10_report_101 (by decide) ?_
    refine lv_icmp_ne (tgt := 112) hx hb dX10_report_102 (by decide) (fun cn => ?_) (fun cn => ?_)
    · have hf := (if_neg cn).symm.trans hf
      refine lv_iload_n hx hb dX10_report_112 rfl (lv_at hl 1 rfl) ?_
      refine lv_iconst (v := (-1 : Int32)) hx hb dX10_report_113 (by decide) ?_
      refine lv_icmp_ge (tgt := 121) hx hb dX10_report_114 (by decide) (fun cn => ?_) (fun cn => ?_)
      · have hf := (if_pos cn).symm.trans hf
        refine lv_iload_n hx hb dX10_report_121 rfl (lv_at hl 1 rfl) ?_
        refine lv_aload_n hx hb dX10_report_122 rfl (lv_at hl 0 rfl) ?_
        refine pg_gI C hH fl_X10_435 hf dX10_report_123 (fun v123 hf => ?_)
        refine lv_icmp_ge (tgt := 138) hx hb dX10_report_126 (by decide) (fun cn => ?_) (fun cn => ?_)
        · have hf := (if_pos cn).symm.trans hf
          refine lv_bipush (v := (-2 : Int32)) hx hb dX10_report_138 (by decide) ?_
          exact pg_iret C hr hH hf dX10_report_140
        · have hf := (if_neg cn).symm.trans hf
          refine lv_aload_n hx hb dX10_report_129 rfl (lv_at hl 0 rfl) ?_
          refine pg_gR C hH fl_X10_56 hf dX10_report_130 (fun v130 hf => ?_)
          refine lv_iload_n hx hb dX10_report_133 rfl (lv_at hl 1 rfl) ?_
          refine pg_aI C hH hf dX10_report_134 (fun v134 hf => ?_)
          refine lv_goto (tgt := 140) hx hb dX10_report_135 (by decide) ?_
          exact pg_iret C hr hH hf dX10_report_140
      · have hf := (if_neg cn).symm.trans hf
        refine lv_iconst (v := (-1 : Int32)) hx hb dX10_report_117 (by decide) ?_
        refine lv_goto (tgt := 140) hx hb dX10_report_118 (by decide) ?_
        exact pg_iret C hr hH hf dX10_report_140
    · have hf := (if_pos cn).symm.trans hf
      refine lv_aload_n hx hb dX10_report_105 rfl (lv_at hl 0 rfl) ?_
      refine pg_gI C hH fl_X10_435 hf dX10_report_106 (fun v106 hf => ?_)
      refine lv_goto (tgt := 140) hx hb dX10_report_109 (by decide) ?_
      exact pg_iret C hr hH hf dX10_report_140
  · have hf := (if_neg cn).symm.trans hf
    refine lv_aload_n hx hb dX10_report_22 rfl (lv_at hl 0 rfl) ?_
    refine lv_iload_n hx hb dX10_report_23 rfl (lv_at hl 2 rfl) ?_
    refine pg_Vl (As := [.int x2]) C hH mi_X10_worthOf vl_X10_429 (q := (RX10, TX10, 34)) (ci := 10) rfl rfl hf (fun _ e1 => (oO_sp e1).1) (fun _ _ e1 => c_X10_worthOf e1) rfl rfl hl.1 (Nat.le_of_ble_eq_true rfl) ⟨Nat.le_of_ble_eq_true rfl, Nat.le_of_ble_eq_true rfl⟩ ⟨Nat.zero_le _, Nat.zero_le _⟩ dX10_report_24 (fun H locs v24 h24 hH hf => ?_)
    refine lv_lstore_n (lv' := [(3, .long v24), (0, .ref (gB g + a0)), (1, .int x1), (2, .int x2)]) hx hb dX10_report_27 rfl hl (by decide) rfl (fun ls hl => ?_)
    refine lv_aload_n hx hb dX10_report_28 rfl (lv_at hl 1 rfl) ?_
    refine lv_aload_n hx hb dX10_report_29 rfl (lv_at hl 1 rfl) ?_
    refine pg_gR C hH fl_X10_44 hf dX10_report_30 (fun v30 hf => ?_)
    refine lv_iload_n hx hb dX10_report_33 rfl (lv_at hl 3 rfl) ?_
    refine pg_aL C hH hf dX10_report_34 (fun v34 hf => ?_)
    refine pg_Vv (As := [.long v34]) C hH mi_X10_saysWord vl_X10_445 (q := (RX10, TX10, 34)) (ci := 10) rfl rfl hf (fun _ e1 => (oO_sp e1).1) (fun _ e1 => c_X10_saysWord e1) rfl rfl hl.1 (Nat.le_of_ble_eq_true rfl) ⟨Nat.le_of_ble_eq_true rfl, Nat.le_of_ble_eq_true rfl⟩ ⟨Nat.zero_le _, Nat.zero_le _⟩ dX10_report_35 (fun H locs h35 hH hf => ?_)
    refine lv_lload_n hx hb dX10_report_38 rfl (lv_at hl 0 rfl) ?_
    refine lv_lconst (v := (0 : Int64)) hx hb dX10_report_39 (by decide) ?_
    refine W.lcmp hx hb dX10_report_40 ?_
    refine lv_if_ge (tgt := 54) hx hb dX10_report_41 (by decide) (fun cn => ?_) (fun cn => ?_)
    · have hf := (if_pos ((lg_cmp_ge _ _).mp cn)).symm.trans hf
      refine lv_aload_n hx hb dX10_report_54 rfl (lv_at hl 1 rfl) ?_
      refine lv_ldc2 (v := (89 : Int64)) hx hb hown (hts _ (htb _ kl_X10_146)) dX10_report_55 ?_
      refine pg_Vv (As := [.long (89 : Int64)]) C hH mi_X10_saysWord vl_X10_445 (q := (RX10, TX10, 34)) (ci := 10) rfl rfl hf (fun _ e1 => (oO_sp e1).1) (fun _ e1 => c_X10_saysWord e1) rfl rfl hl.1 (Nat.le_of_ble_eq_true rfl) ⟨Nat.le_of_ble_eq_true rfl, Nat.le_of_ble_eq_true rfl⟩ ⟨Nat.zero_le _, Nat.zero_le _⟩ dX10_report_58 (fun H locs h58 hH hf => ?_)
      refine lv_aload_n hx hb dX10_report_61 rfl (lv_at hl 1 rfl) ?_
      refine lv_aload_n hx hb dX10_report_62 rfl (lv_at hl 1 rfl) ?_
      refine pg_gI C hH fl_X10_420 hf dX10_report_63 (fun v63 hf => ?_)
      refine lv_i2l (v := (Int32.toInt64 v63)) hx hb dX10_report_66 rfl ?_
      refine pg_Vv (As := [.long (Int32.toInt64 v63)]) C hH mi_X10_saysNumber vl_X10_450 (q := (RX10, TX10, 34)) (ci := 10) rfl rfl hf (fun _ e1 => (oO_sp e1).1) (fun _ e1 => c_X10_saysNumber e1) rfl rfl hl.1 (Nat.le_of_ble_eq_true rfl) ⟨Nat.le_of_ble_eq_true rfl, Nat.le_of_ble_eq_true rfl⟩ ⟨Nat.zero_le _, Nat.zero_le _⟩ dX10_report_67 (fun H locs h67 hH hf => ?_)
      refine lv_aload_n hx hb dX10_report_70 rfl (lv_at hl 1 rfl) ?_
      refine lv_ldc2 (v := (24627848 : Int64)) hx hb hown (hts _ (htb _ kl_X10_142)) dX10_report_71 ?_
      refine pg_Vv (As := [.long (24627848 : Int64)]) C hH mi_X10_saysWord vl_X10_445 (q := (RX10, TX10, 34)) (ci := 10) rfl rfl hf (fun _ e1 => (oO_sp e1).1) (fun _ e1 => c_X10_saysWord e1) rfl rfl hl.1 (Nat.le_of_ble_eq_true rfl) ⟨Nat.le_of_ble_eq_true rfl, Nat.le_of_ble_eq_true rfl⟩ ⟨Nat.zero_le _, Nat.zero_le _⟩ dX10_report_74 (fun H locs h74 hH hf => ?_)
      refine lv_aload_n hx hb dX10_report_77 rfl (lv_at hl 1 rfl) ?_
      refine lv_lload_n hx hb dX10_report_78 rfl (lv_at hl 0 rfl) ?_
      refine pg_Vv (As := [.long v24]) C hH mi_X10_saysNumber vl_X10_450 (q := (RX10, TX10, 34)) (ci := 10) rfl rfl hf (fun _ e1 => (oO_sp e1).1) (fun _ e1 => c_X10_saysNumber e1) rfl rfl hl.1 (Nat.le_of_ble_eq_true rfl) ⟨Nat.le_of_ble_eq_true rfl, Nat.le_of_ble_eq_true rfl⟩ ⟨Nat.zero_le _, Nat.zero_le _⟩ dX10_report_79 (fun H locs h79 hH hf => ?_)
      exact wX10_report_b82 C hr k12 hH hf (lv_sub hl [1, 2, 3] rfl)
    · have hf := (if_neg (fun z => cn ((lg_cmp_ge _ _).mpr z))).symm.trans hf
      refine lv_aload_n hx hb dX10_report_44 rfl (lv_at hl 1 rfl) ?_
      refine lv_ldc2 (v := (6333843 : Int64)) hx hb hown (hts _ (htb _ kl_X10_448)) dX10_report_45 ?_
      refine pg_Vv (As := [.long (6333843 : Int64)]) C hH mi_X10_saysWord vl_X10_445 (q := (RX10, TX10, 34)) (ci := 10) rfl rfl hf (fun _ e1 => (oO_sp e1).1) (fun _ e1 => c_X10_saysWord e1) rfl rfl hl.1 (Nat.le_of_ble_eq_true rfl) ⟨Nat.le_of_ble_eq_true rfl, Nat.le_of_ble_eq_true rfl⟩ ⟨Nat.zero_le _, Nat.zero_le _⟩ dX10_report_48 (fun H locs h48 hH hf => ?_)
      refine lv_goto (tgt := 82) hx hb dX10_report_51 (by decide) ?_
      exact wX10_report_b82 C hr k12 hH hf (lv_sub hl [1, 2, 3] rfl)
set_option maxHeartbeats 4000000 in
set_option maxRecDepth 100000 in
theorem wX10_report_L12 {r : Int32} {h' : PH} (C : CT g RX10 cX10_report 5 (Cond.code yX10_report cX10_report 5 (some .int) :: TB) p s m args meth c) (hr : meth.sig.returnType = some .int) : ∀ (n : Nat) {h : PH} {a0 : Nat} {x1 : Int32} {x2 : Int32} {H : Heap} {locs : List Loc} {ls : Array Slot}, HS g s H locs h → mX10_report_L12 n h a0 x1 x2 = some (r, h') → lv_has ls 5 [(0, .ref (gB g + a0)), (1, .int x1), (2, .int x2)] → W p l e (rmD 15 0 0) s m args below meth c H locs 0 0 (MQ below (QcI g r h') args s 0 0 (aB g)) (F0 m 12 ls []) := by
  intro n
  induction n with
  | zero =>
    intro h a0 x1 x2 H locs ls hH hf hl
    exact absurd hf (by intro z; cases z)
  | succ n ih =>
    intro h a0 x1 x2 H locs ls hH hf hl
    have hf : mX10_report_b12 (mX10_report_L12 n) h a0 x1 x2 = some (r, h') := hf
    exact wX10_report_b12 C hr (fun a b c => ih a b c) hH hf hl
set_option maxHeartbeats 4000000 in
set_option maxRecDepth 100000 in
theorem c_X10_report {l : Launch} {g : GD} {h : PH} {a0 : Nat} {x1 : Int32} {r : Int32} {h' : PH} (hf : mX10_report h a0 x1 = some (r, h')) : Met l yX10_report (Cond.code yX10_report cX10_report 5 (some .int) :: TB) (rmD 15 0 0) (PcH g [.ref (gB g + a0), .int x1] h) (QcI g r h') 0 0 (aB g) := by
  refine Met.ofW (cc := cX10_report) (maxL := 5) (ret := some .int) (by decide) rfl ?_
  intro p e s m args below meth c s₁ B hml hv
  obtain ⟨rfl, hH0, hkk0⟩ := hv
  have C : CT g RX10 cX10_report 5 (Cond.code yX10_report cX10_report 5 (some .int) :: TB) p s m _ meth c := pg_ct (Tw := []) B hml hH0 hkk0
  have hr := B.returns
  have hH : HS g s s.heap [] h := ⟨hH0, va_S.rf⟩
  have hl := lv_entry ([.ref (gB g + a0), .int x1]) (n := 5) (Nat.le_of_ble_eq_true rfl)
  rw [lg_entry_eq]
  generalize (lg_sl ([.ref (gB g + a0), .int x1]) ++ List.replicate (5 - (lg_sl ([.ref (gB g + a0), .int x1])).length) Slot.unset).toArray = ls at hl ⊢
  have hl : lv_has ls 5 [(0, .ref (gB g + a0)), (1, .int x1)] := hl
  show W p l e (rmD 15 0 0) _ _ _ _ _ _ _ _ _ _ _ _
  unfold mX10_report at hf
  obtain ⟨hO, hf⟩ := oO_sp hf
  obtain ⟨⟨hx, hb, hml, hown, hts⟩, htb, hlk, hkk, hbs⟩ := id C
  refine lv_aload_n hx hb dX10_report_0 rfl (lv_at hl 0 rfl) ?_
  refine lv_iconst (v := (0 : Int32)) hx hb dX10_report_1 (by decide) ?_
  refine pg_pI C hH fl_X10_1 fm_10_0 hf dX10_report_2 (fun H locs h2 hH hf => ?_)
  refine lv_aload_n hx hb dX10_report_5 rfl (lv_at hl 0 rfl) ?_
  refine lv_iconst (v := (0 : Int32)) hx hb dX10_report_6 (by decide) ?_
  refine pg_pI C hH fl_X10_435 fm_10_33 hf dX10_report_7 (fun H locs h7 hH hf => ?_)
  refine lv_iconst (v := (0 : Int32)) hx hb dX10_report_10 (by decide) ?_
  refine lv_istore_n (lv' := [(2, .int (0 : Int32)), (0, .ref (gB g + a0)), (1, .int x1)]) hx hb dX10_report_11 rfl hl (by decide) rfl (fun ls hl => ?_)
  exact wX10_report_L12 C hr FU hH hf (lv_sub hl [1, 2, 0] rfl)
set_option maxHeartbeats 4000000 in
set_option maxRecDepth 100000 in
theorem wX10_acts_b50 {h' : PH} (C : CT g RX10 cX10_acts 2 (Cond.code yX10_acts cX10_acts 2 (none) :: TB) p s m args meth c) (hr : meth.sig.returnType = none) {h : PH} {a0 : Nat} {H : Heap} {locs : List Loc} {ls : Array Slot} (hH : HS g s H locs h) (hf : mX10_acts_b50 h a0 = some h') (hl : lv_has ls 2 [(0, .ref (gB g + a0))]) : W p l e (rmD 1 0 0) s m args below meth c H locs 0 0 (MQ below (QcV g h') args s 0 0 (aB g)) (F0 m 50 ls []) := by
  obtain ⟨⟨hx, hb, hml, hown, hts⟩, htb, hlk, hkk, hbs⟩ := id C
  unfold mX10_acts_b50 at hf
  refine lv_aload_n hx hb dX10_acts_50 rfl (lv_at hl 0 rfl) ?_
  refine pg_gR C hH fl_X10_13 hf dX10_acts_51 (fun v51 hf => ?_)
  refine lv_iconst (v := (0 : Int32)) hx hb dX10_acts_54 (by decide) ?_
  refine lv_aload_n hx hb dX10_acts_55 rfl (lv_at hl 0 rfl) ?_
  refine pg_gR C hH fl_X10_20 hf dX10_acts_56 (fun v56 hf => ?_)
  refine lv_sipush (v := (232 : Int32)) hx hb dX10_acts_59 (by decide) ?_
  refine lv_aload_n hx hb dX10_acts_62 rfl (lv_at hl 0 rfl) ?_
  refine pg_gI C hH fl_X10_275 hf dX10_acts_63 (fun v63 hf => ?_)
  refine lv_imul hx hb dX10_acts_66 ?_
  refine pg_Sv (As := [.ref (gB g + v51), .int (0 : Int32), .ref (gB g + v56), .int ((232 : Int32) * v63)]) C hH mi_X10_copies sl_X10_271 hf (fun _ e1 => c_X10_copies e1) rfl rfl hl.1 (Nat.le_of_ble_eq_true rfl) ⟨Nat.le_of_ble_eq_true rfl, Nat.le_of_ble_eq_true rfl⟩ ⟨Nat.zero_le _, Nat.zero_le _⟩ dX10_acts_67 (fun H locs h67 hH hf => ?_)
  refine lv_aload_n hx hb dX10_acts_70 rfl (lv_at hl 0 rfl) ?_
  refine lv_dup hx hb dX10_acts_71 rfl ?_
  refine pg_gI C hH fl_X10_275 hf dX10_acts_72 (fun v72 hf => ?_)
  refine lv_iconst (v := (1 : Int32)) hx hb dX10_acts_75 (by decide) ?_
  refine lv_iadd hx hb dX10_acts_76 ?_
  refine pg_pI C hH fl_X10_275 fm_10_6 hf dX10_acts_77 (fun H locs h77 hH hf => ?_)
  exact pg_vret C hr hH hf dX10_acts_80
set_option maxHeartbeats 4000000 in
set_option maxRecDepth 100000 in
theorem wX10_acts_b11 {r11 : PH → Nat → Int32 → Option (PH)} {h' : PH} (C : CT g RX10 cX10_acts 2 (Cond.code yX10_acts cX10_acts 2 (none) :: TB) p s m args meth c) (hr : meth.sig.returnType = none) (k11 : ∀ {h : PH} {a0 : Nat} {x1 : Int32} {H : Heap} {locs : List Loc} {ls : Array Slot}, HS g s H locs h → r11 h a0 x1 = some h' → lv_has ls 2 [(0, .ref (gB g + a0)), (1, .int x1)] → W p l e (rmD 1 0 0) s m args below meth c H locs 0 0 (MQ below (QcV g h') args s 0 0 (aB g)) (F0 m 11 ls [])) {h : PH} {a0 : Nat} {x1 : Int32} {H : Heap} {locs : List Loc} {ls : Array Slot} (hH : HS g s H locs h) (hf : mX10_acts_b11 r11 h a0 x1 = some h') (hl : lv_has ls 2 [(0, .ref (gB g + a0)), (1, .int x1)]) : W p l e (rmD 1 0 0) s m args below meth c H locs 0 0 (MQ below (QcV g h') args s 0 0 (aB g)) (F0 m 11 ls []) := by
  obtain ⟨⟨hx, hb, hml, hown, hts⟩, htb, hlk, hkk, hbs⟩ := id C
  unfold mX10_acts_b11 at hf
  refine lv_iload_n hx hb dX10_acts_11 rfl (lv_at hl 1 rfl) ?_
  refine lv_sipush (v := (2552 : Int32)) hx hb dX10_acts_12 (by decide) ?_
  refine lv_icmp_ge (tgt := 40) hx hb dX10_acts_15 (by decide) (fun cn => ?_) (fun cn => ?_)
  · have hf := (if_pos cn).symm.trans hf
    refine lv_aload_n hx hb dX10_acts_40 rfl (lv_at hl 0 rfl) ?_
    refine lv_dup hx hb dX10_acts_41 rfl ?_
    refine pg_gI C hH fl_X10_275 hf dX10_acts_42 (fun v42 hf => ?_)
    refine lv_iconst (v := (1 : Int32)) hx hb dX10_acts_45 (by decide) ?_
    refine lv_isub hx hb dX10_acts_46 ?_
    refine pg_pI C hH fl_X10_275 fm_10_6 hf dX10_acts_47 (fun H locs h47 hH hf => ?_)
    exact wX10_acts_b50 C hr hH hf (lv_sub hl [0] rfl)
  · have hf := (if_neg cn).symm.trans hf
    refine lv_aload_n hx hb dX10_acts_18 rfl (lv_at hl 0 rfl) ?_
    refine pg_gR C hH fl_X10_20 hf dX10_acts_19 (fun v19 hf => ?_)
    refine lv_iload_n hx hb dX10_acts_22 rfl (lv_at hl 1 rfl) ?_
    refine lv_aload_n hx hb dX10_acts_23 rfl (lv_at hl 0 rfl) ?_
    refine pg_gR C hH fl_X10_20 hf dX10_acts_24 (fun v24 hf => ?_)
    refine lv_iload_n hx hb dX10_acts_27 rfl (lv_at hl 1 rfl) ?_
    refine lv_sipush (v := (232 : Int32)) hx hb dX10_acts_28 (by decide) ?_
    refine lv_iadd hx hb dX10_acts_31 ?_
    refine pg_aI C hH hf dX10_acts_32 (fun v32 hf => ?_)
    refine pg_sI C hH hf dX10_acts_33 (fun H locs h33 hH hf => ?_)
    refine lv_iinc (v := (x1 + 1)) (lv' := [(1, .int (x1 + 1)), (0, .ref (gB g + a0))]) hx hb dX10_acts_34 hl (k := 1) rfl rfl (by decide) rfl (fun ls hl => ?_)
    refine lv_goto (tgt := 11) hx hb dX10_acts_37 (by decide) ?_
    exact k11 hH hf (lv_sub hl [1, 0] rfl)
set_option maxHeartbeats 4000000 in
set_option maxRecDepth 100000 in
theorem wX10_acts_L11 {h' : PH} (C : CT g RX10 cX10_acts 2 (Cond.code yX10_acts cX10_acts 2 (none) :: TB) p s m args meth c) (hr : meth.sig.returnType = none) : ∀ (n : Nat) {h : PH} {a0 : Nat} {x1 : Int32} {H : Heap} {locs : List Loc} {ls : Array Slot}, HS g s H locs h → mX10_acts_L11 n h a0 x1 = some h' → lv_has ls 2 [(0, .ref (gB g + a0)), (1, .int x1)] → W p l e (rmD 1 0 0) s m args below meth c H locs 0 0 (MQ below (QcV g h') args s 0 0 (aB g)) (F0 m 11 ls []) := by
  intro n
  induction n with
  | zero =>
    intro h a0 x1 H locs ls hH hf hl
    exact absurd hf (by intro z; cases z)
  | succ n ih =>
    intro h a0 x1 H locs ls hH hf hl
    have hf : mX10_acts_b11 (mX10_acts_L11 n) h a0 x1 = some h' := hf
    exact wX10_acts_b11 C hr (fun a b c => ih a b c) hH hf hl
set_option maxHeartbeats 4000000 in
set_option maxRecDepth 100000 in
theorem c_X10_acts {l : Launch} {g : GD} {h : PH} {a0 : Nat} {h' : PH} (hf : mX10_acts h a0 = some h') : Met l yX10_acts (Cond.code yX10_acts cX10_acts 2 (none) :: TB) (rmD 1 0 0) (PcH g [.ref (gB g + a0)] h) (QcV g h') 0 0 (aB g) := by
  refine Met.ofW (cc := cX10_acts) (maxL := 2) (ret := none) (by decide) rfl ?_
  intro p e s m args below meth c s₁ B hml hv
  obtain ⟨rfl, hH0, hkk0⟩ := hv
  have C : CT g RX10 cX10_acts 2 (Cond.code yX10_acts cX10_acts 2 (none) :: TB) p s m _ meth c := pg_ct (Tw := []) B hml hH0 hkk0
  have hr := B.returns
  have hH : HS g s s.heap [] h := ⟨hH0, va_S.rf⟩
  have hl := lv_entry ([.ref (gB g + a0)]) (n := 2) (Nat.le_of_ble_eq_true rfl)
  rw [lg_entry_eq]
  generalize (lg_sl ([.ref (gB g + a0)]) ++ List.replicate (2 - (lg_sl ([.ref (gB g + a0)])).length) Slot.unset).toArray = ls at hl ⊢
  have hl : lv_has ls 2 [(0, .ref (gB g + a0))] := hl
  show W p l e (rmD 1 0 0) _ _ _ _ _ _ _ _ _ _ _ _
  unfold mX10_acts at hf
  obtain ⟨hO, hf⟩ := oO_sp hf
  obtain ⟨⟨hx, hb, hml, hown, hts⟩, htb, hlk, hkk, hbs⟩ := id C
  refine lv_aload_n hx hb dX10_acts_0 rfl (lv_at hl 0 rfl) ?_
  refine pg_gI C hH fl_X10_275 hf dX10_acts_1 (fun v1 hf => ?_)
  refine lv_bipush (v := (12 : Int32)) hx hb dX10_acts_4 (by decide) ?_
  refine lv_icmp_ne (tgt := 50) hx hb dX10_acts_6 (by decide) (fun cn => ?_) (fun cn => ?_)
  · have hf := (if_neg cn).symm.trans hf
    exact wX10_acts_b50 C hr hH hf (lv_sub hl [0] rfl)
  · have hf := (if_pos cn).symm.trans hf
    refine lv_iconst (v := (0 : Int32)) hx hb dX10_acts_9 (by decide) ?_
    refine lv_istore_n (lv' := [(1, .int (0 : Int32)), (0, .ref (gB g + a0))]) hx hb dX10_acts_10 rfl hl (by decide) rfl (fun ls hl => ?_)
    exact wX10_acts_L11 C hr FU hH hf (lv_sub hl [1, 0] rfl)
set_option maxHeartbeats 4000000 in
set_option maxRecDepth 100000 in
theorem c_X10_sets {l : Launch} {g : GD} {h : PH} {a0 : Nat} {x1 : Int32} {x2 : Int32} {r : Int32} {h' : PH} (hf : mX10_sets h a0 x1 x2 = some (r, h')) : Met l yX10_sets (Cond.code yX10_sets cX10_sets 4 (some .int) :: TB) (rmD 2 0 0) (PcH g [.ref (gB g + a0), .int x1, .int x2] h) (QcI g r h') 0 0 (aB g) := by
  refine Met.ofW (cc := cX10_sets) (maxL := 4) (ret := some .int) (by decide) rfl ?_
  intro p e s m args below meth c s₁ B hml hv
  obtain ⟨rfl, hH0, hkk0⟩ := hv
  have C : CT g RX10 cX10_sets 4 (Cond.code yX10_sets cX10_sets 4 (some .int) :: TB) p s m _ meth c := pg_ct (Tw := []) B hml hH0 hkk0
  have hr := B.returns
  have hH : HS g s s.heap [] h := ⟨hH0, va_S.rf⟩
  have hl := lv_entry ([.ref (gB g + a0), .int x1, .int x2]) (n := 4) (Nat.le_of_ble_eq_true rfl)
  rw [lg_entry_eq]
  generalize (lg_sl ([.ref (gB g + a0), .int x1, .int x2]) ++ List.replicate (4 - (lg_sl ([.ref (gB g + a0), .int x1, .int x2])).length) Slot.unset).toArray = ls at hl ⊢
  have hl : lv_has ls 4 [(0, .ref (gB g + a0)), (1, .int x1), (2, .int x2)] := hl
  show W p l e (rmD 2 0 0) _ _ _ _ _ _ _ _ _ _ _ _
  unfold mX10_sets at hf
  obtain ⟨hO, hf⟩ := oO_sp hf
  obtain ⟨⟨hx, hb, hml, hown, hts⟩, htb, hlk, hkk, hbs⟩ := id C
  refine lv_aload_n hx hb dX10_sets_0 rfl (lv_at hl 0 rfl) ?_
  refine pg_gR C hH fl_X10_13 hf dX10_sets_1 (fun v1 hf => ?_)
  refine lv_iload_n hx hb dX10_sets_4 rfl (lv_at hl 1 rfl) ?_
  refine pg_aI C hH hf dX10_sets_5 (fun v5 hf => ?_)
  refine lv_istore_n (lv' := [(3, .int v5), (0, .ref (gB g + a0)), (1, .int x1), (2, .int x2)]) hx hb dX10_sets_6 rfl hl (by decide) rfl (fun ls hl => ?_)
  refine lv_iload_n hx hb dX10_sets_7 rfl (lv_at hl 0 rfl) ?_
  refine lv_iload_n hx hb dX10_sets_8 rfl (lv_at hl 3 rfl) ?_
  refine lv_icmp_ne (tgt := 14) hx hb dX10_sets_9 (by decide) (fun cn => ?_) (fun cn => ?_)
  · have hf := (if_neg cn).symm.trans hf
    refine lv_aload_n hx hb dX10_sets_14 rfl (lv_at hl 1 rfl) ?_
    refine pg_Vv (As := []) C hH mi_X10_acts vl_X10_453 (q := (RX10, TX10, 34)) (ci := 10) rfl rfl hf (fun _ e1 => (oO_sp e1).1) (fun _ e1 => c_X10_acts e1) rfl rfl hl.1 (Nat.le_of_ble_eq_true rfl) ⟨Nat.le_of_ble_eq_true rfl, Nat.le_of_ble_eq_true rfl⟩ ⟨Nat.zero_le _, Nat.zero_le _⟩ dX10_sets_15 (fun H locs h15 hH hf => ?_)
    refine lv_aload_n hx hb dX10_sets_18 rfl (lv_at hl 1 rfl) ?_
    refine pg_gR C hH fl_X10_13 hf dX10_sets_19 (fun v19 hf => ?_)
    refine lv_iload_n hx hb dX10_sets_22 rfl (lv_at hl 2 rfl) ?_
    refine lv_iload_n hx hb dX10_sets_23 rfl (lv_at hl 3 rfl) ?_
    refine pg_sI C hH hf dX10_sets_24 (fun H locs h24 hH hf => ?_)
    refine lv_iload_n hx hb dX10_sets_25 rfl (lv_at hl 0 rfl) ?_
    exact pg_iret C hr hH hf dX10_sets_26
  · have hf := (if_pos cn).symm.trans hf
    refine lv_iconst (v := (-1 : Int32)) hx hb dX10_sets_12 (by decide) ?_
    exact pg_iret C hr hH hf dX10_sets_13
set_option maxHeartbeats 4000000 in
set_option maxRecDepth 100000 in
theorem c_X10_price {l : Launch} {g : GD} {h : PH} {a0 : Nat} {x1 : Int32} {x2 : Int32} {r : Int32} {h' : PH} (hf : mX10_price h a0 x1 x2 = some (r, h')) : Met l yX10_price (Cond.code yX10_price cX10_price 3 (some .int) :: TB) (rmD 3 0 0) (PcH g [.ref (gB g + a0), .int x1, .int x2] h) (QcI g r h') 0 0 (aB g) := by
  refine Met.ofW (cc := cX10_price) (maxL := 3) (ret := some .int) (by decide) rfl ?_
  intro p e s m args below meth c s₁ B hml hv
  obtain ⟨rfl, hH0, hkk0⟩ := hv
  have C : CT g RX10 cX10_price 3 (Cond.code yX10_price cX10_price 3 (some .int) :: TB) p s m _ meth c := pg_ct (Tw := []) B hml hH0 hkk0
  have hr := B.returns
  have hH : HS g s s.heap [] h := ⟨hH0, va_S.rf⟩
  have hl := lv_entry ([.ref (gB g + a0), .int x1, .int x2]) (n := 3) (Nat.le_of_ble_eq_true rfl)
  rw [lg_entry_eq]
  generalize (lg_sl ([.ref (gB g + a0), .int x1, .int x2]) ++ List.replicate (3 - (lg_sl ([.ref (gB g + a0), .int x1, .int x2])).length) Slot.unset).toArray = ls at hl ⊢
  have hl : lv_has ls 3 [(0, .ref (gB g + a0)), (1, .int x1), (2, .int x2)] := hl
  show W p l e (rmD 3 0 0) _ _ _ _ _ _ _ _ _ _ _ _
  unfold mX10_price at hf
  obtain ⟨hO, hf⟩ := oO_sp hf
  obtain ⟨⟨hx, hb, hml, hown, hts⟩, htb, hlk, hkk, hbs⟩ := id C
  refine lv_aload_n hx hb dX10_price_0 rfl (lv_at hl 0 rfl) ?_
  refine lv_iconst (v := (0 : Int32)) hx hb dX10_price_1 (by decide) ?_
  refine pg_pI C hH fl_X10_1 fm_10_0 hf dX10_price_2 (fun H locs h2 hH hf => ?_)
  refine lv_aload_n hx hb dX10_price_5 rfl (lv_at hl 0 rfl) ?_
  refine lv_iload_n hx hb dX10_price_6 rfl (lv_at hl 1 rfl) ?_
  refine pg_Vi (As := [.int x1]) C hH mi_X10_isSale vl_X10_288 (q := (RX10, TX10, 34)) (ci := 10) rfl rfl hf (fun _ e1 => (oO_sp e1).1) (fun _ _ e1 => c_X10_isSale e1) rfl rfl hl.1 (Nat.le_of_ble_eq_true rfl) ⟨Nat.le_of_ble_eq_true rfl, Nat.le_of_ble_eq_true rfl⟩ ⟨Nat.zero_le _, Nat.zero_le _⟩ dX10_price_7 (fun H locs v7 h7 hH hf => ?_)
  refine lv_if_eq (tgt := 42) hx hb dX10_price_10 (by decide) (fun cn => ?_) (fun cn => ?_)
  · have hf := (if_pos cn).symm.trans hf
    refine lv_iconst (v := (-1 : Int32)) hx hb dX10_price_42 (by decide) ?_
    exact pg_iret C hr hH hf dX10_price_43
  · have hf := (if_neg cn).symm.trans hf
    refine lv_iload_n hx hb dX10_price_13 rfl (lv_at hl 2 rfl) ?_
    refine lv_i2l (v := (Int32.toInt64 x2)) hx hb dX10_price_14 rfl ?_
    refine lv_lconst (v := (1 : Int64)) hx hb dX10_price_15 (by decide) ?_
    refine lv_ldc2 (v := (9999 : Int64)) hx hb hown (hts _ (htb _ kl_X10_456)) dX10_price_16 ?_
    refine pg_Si (As := [.long (Int32.toInt64 x2), .long (1 : Int64), .long (9999 : Int64)]) C hH mi_X10_within sl_X10_97 hf (fun _ _ e1 => c_X10_within e1) rfl rfl hl.1 (Nat.le_of_ble_eq_true rfl) ⟨Nat.le_of_ble_eq_true rfl, Nat.le_of_ble_eq_true rfl⟩ ⟨Nat.zero_le _, Nat.zero_le _⟩ dX10_price_19 (fun H locs v19 h19 hH hf => ?_)
    refine lv_if_eq (tgt := 42) hx hb dX10_price_22 (by decide) (fun cn => ?_) (fun cn => ?_)
    · have hf := (if_pos cn).symm.trans hf
      refine lv_iconst (v := (-1 : Int32)) hx hb dX10_price_42 (by decide) ?_
      exact pg_iret C hr hH hf dX10_price_43
    · have hf := (if_neg cn).symm.trans hf
      refine lv_aload_n hx hb dX10_price_25 rfl (lv_at hl 0 rfl) ?_
      refine lv_bipush (v := (56 : Int32)) hx hb dX10_price_26 (by decide) ?_
      refine lv_bipush (v := (12 : Int32)) hx hb dX10_price_28 (by decide) ?_
      refine lv_iload_n hx hb dX10_price_30 rfl (lv_at hl 1 rfl) ?_
      refine lv_imul hx hb dX10_price_31 ?_
      refine lv_iadd hx hb dX10_price_32 ?_
      refine lv_iconst (v := (4 : Int32)) hx hb dX10_price_33 (by decide) ?_
      refine lv_iadd hx hb dX10_price_34 ?_
      refine lv_iload_n hx hb dX10_price_35 rfl (lv_at hl 2 rfl) ?_
      refine pg_Vi (As := [.int (((56 : Int32) + ((12 : Int32) * x1)) + (4 : Int32)), .int x2]) C hH mi_X10_sets vl_X10_458 (q := (RX10, TX10, 34)) (ci := 10) rfl rfl hf (fun _ e1 => (oO_sp e1).1) (fun _ _ e1 => c_X10_sets e1) rfl rfl hl.1 (Nat.le_of_ble_eq_true rfl) ⟨Nat.le_of_ble_eq_true rfl, Nat.le_of_ble_eq_true rfl⟩ ⟨Nat.zero_le _, Nat.zero_le _⟩ dX10_price_36 (fun H locs v36 h36 hH hf => ?_)
      refine lv_goto (tgt := 43) hx hb dX10_price_39 (by decide) ?_
      exact pg_iret C hr hH hf dX10_price_43
set_option maxHeartbeats 4000000 in
set_option maxRecDepth 100000 in
theorem wX10_bind_b33 {r : Int32} {h' : PH} (C : CT g RX10 cX10_bind 3 (Cond.code yX10_bind cX10_bind 3 (some .boolean) :: TB) p s m args meth c) (hr : meth.sig.returnType = some .boolean) {h : PH} {s0 : Nat} {s1 : Int32} {s2 : Int32} {H : Heap} {locs : List Loc} {ls : Array Slot} (hH : HS g s H locs h) (hf : mX10_bind_b33 h s0 s1 s2 = some (r, h')) (hl : lv_has ls 3 []) : W p l e (rmD 3 0 0) s m args below meth c H locs 0 0 (MQ below (QcI g r h') args s 0 0 (aB g)) (F0 m 33 ls [.int s2, .int s1, .ref (gB g + s0)]) := by
  obtain ⟨⟨hx, hb, hml, hown, hts⟩, htb, hlk, hkk, hbs⟩ := id C
  unfold mX10_bind_b33 at hf
  refine pg_Vi (As := [.int s1, .int s2]) C hH mi_X10_sets vl_X10_458 (q := (RX10, TX10, 34)) (ci := 10) rfl rfl hf (fun _ e1 => (oO_sp e1).1) (fun _ _ e1 => c_X10_sets e1) rfl rfl hl.1 (Nat.le_of_ble_eq_true rfl) ⟨Nat.le_of_ble_eq_true rfl, Nat.le_of_ble_eq_true rfl⟩ ⟨Nat.zero_le _, Nat.zero_le _⟩ dX10_bind_33 (fun H locs v33 h33 hH hf => ?_)
  refine lv_iconst (v := (-1 : Int32)) hx hb dX10_bind_36 (by decide) ?_
  refine lv_icmp_eq (tgt := 44) hx hb dX10_bind_37 (by decide) (fun cn => ?_) (fun cn => ?_)
  · have hf := (if_pos cn).symm.trans hf
    refine lv_iconst (v := (0 : Int32)) hx hb dX10_bind_44 (by decide) ?_
    exact pg_zret C hr hH hf dX10_bind_45
  · have hf := (if_neg cn).symm.trans hf
    refine lv_iconst (v := (1 : Int32)) hx hb dX10_bind_40 (by decide) ?_
    refine lv_goto (tgt := 45) hx hb dX10_bind_41 (by decide) ?_
    exact pg_zret C hr hH hf dX10_bind_45
set_option maxHeartbeats 4000000 in
set_option maxRecDepth 100000 in
theorem c_X10_bind {l : Launch} {g : GD} {h : PH} {a0 : Nat} {x1 : Int32} {x2 : Int32} {r : Int32} {h' : PH} (hf : mX10_bind h a0 x1 x2 = some (r, h')) : Met l yX10_bind (Cond.code yX10_bind cX10_bind 3 (some .boolean) :: TB) (rmD 3 0 0) (PcH g [.ref (gB g + a0), .int x1, .int x2] h) (QcI g r h') 0 0 (aB g) := by
  refine Met.ofW (cc := cX10_bind) (maxL := 3) (ret := some .boolean) (by decide) rfl ?_
  intro p e s m args below meth c s₁ B hml hv
  obtain ⟨rfl, hH0, hkk0⟩ := hv
  have C : CT g RX10 cX10_bind 3 (Cond.code yX10_bind cX10_bind 3 (some .boolean) :: TB) p s m _ meth c := pg_ct (Tw := []) B hml hH0 hkk0
  have hr := B.returns
  have hH : HS g s s.heap [] h := ⟨hH0, va_S.rf⟩
  have hl := lv_entry ([.ref (gB g + a0), .int x1, .int x2]) (n := 3) (Nat.le_of_ble_eq_true rfl)
  rw [lg_entry_eq]
  generalize (lg_sl ([.ref (gB g + a0), .int x1, .int x2]) ++ List.replicate (3 - (lg_sl ([.ref (gB g + a0), .int x1, .int x2])).length) Slot.unset).toArray = ls at hl ⊢
  have hl : lv_has ls 3 [(0, .ref (gB g + a0)), (1, .int x1), (2, .int x2)] := hl
  show W p l e (rmD 3 0 0) _ _ _ _ _ _ _ _ _ _ _ _
  unfold mX10_bind at hf
  obtain ⟨hO, hf⟩ := oO_sp hf
  obtain ⟨⟨hx, hb, hml, hown, hts⟩, htb, hlk, hkk, hbs⟩ := id C
  refine lv_aload_n hx hb dX10_bind_0 rfl (lv_at hl 0 rfl) ?_
  refine lv_iconst (v := (0 : Int32)) hx hb dX10_bind_1 (by decide) ?_
  refine pg_pI C hH fl_X10_1 fm_10_0 hf dX10_bind_2 (fun H locs h2 hH hf => ?_)
  refine lv_aload_n hx hb dX10_bind_5 rfl (lv_at hl 0 rfl) ?_
  refine lv_iload_n hx hb dX10_bind_6 rfl (lv_at hl 1 rfl) ?_
  refine pg_Vi (As := [.int x1]) C hH mi_X10_isSale vl_X10_288 (q := (RX10, TX10, 34)) (ci := 10) rfl rfl hf (fun _ e1 => (oO_sp e1).1) (fun _ _ e1 => c_X10_isSale e1) rfl rfl hl.1 (Nat.le_of_ble_eq_true rfl) ⟨Nat.le_of_ble_eq_true rfl, Nat.le_of_ble_eq_true rfl⟩ ⟨Nat.zero_le _, Nat.zero_le _⟩ dX10_bind_7 (fun H locs v7 h7 hH hf => ?_)
  refine lv_if_eq (tgt := 44) hx hb dX10_bind_10 (by decide) (fun cn => ?_) (fun cn => ?_)
  · have hf := (if_pos cn).symm.trans hf
    refine lv_iconst (v := (0 : Int32)) hx hb dX10_bind_44 (by decide) ?_
    exact pg_zret C hr hH hf dX10_bind_45
  · have hf := (if_neg cn).symm.trans hf
    refine lv_aload_n hx hb dX10_bind_13 rfl (lv_at hl 0 rfl) ?_
    refine lv_bipush (v := (56 : Int32)) hx hb dX10_bind_14 (by decide) ?_
    refine lv_bipush (v := (12 : Int32)) hx hb dX10_bind_16 (by decide) ?_
    refine lv_iload_n hx hb dX10_bind_18 rfl (lv_at hl 1 rfl) ?_
    refine lv_imul hx hb dX10_bind_19 ?_
    refine lv_iadd hx hb dX10_bind_20 ?_
    refine lv_bipush (v := (6 : Int32)) hx hb dX10_bind_21 (by decide) ?_
    refine lv_iadd hx hb dX10_bind_23 ?_
    refine lv_iload_n hx hb dX10_bind_24 rfl (lv_at hl 2 rfl) ?_
    refine lv_if_eq (tgt := 32) hx hb dX10_bind_25 (by decide) (fun cn => ?_) (fun cn => ?_)
    · have hf := (if_pos cn).symm.trans hf
      refine lv_iconst (v := (0 : Int32)) hx hb dX10_bind_32 (by decide) ?_
      exact wX10_bind_b33 C hr hH hf (lv_sub hl [] rfl)
    · have hf := (if_neg cn).symm.trans hf
      refine lv_iconst (v := (1 : Int32)) hx hb dX10_bind_28 (by decide) ?_
      refine lv_goto (tgt := 33) hx hb dX10_bind_29 (by decide) ?_
      exact wX10_bind_b33 C hr hH hf (lv_sub hl [] rfl)
set_option maxHeartbeats 4000000 in
set_option maxRecDepth 100000 in
theorem wX10_relate_b150 {r150 : PH → Nat → Int32 → Option (Int32 × PH)} {r : Int32} {h' : PH} (C : CT g RX10 cX10_relate 6 (Cond.code yX10_relate cX10_relate 6 (some .boolean) :: TB) p s m args meth c) (hr : meth.sig.returnType = some .boolean) (k150 : ∀ {h : PH} {a0 : Nat} {x5 : Int32} {H : Heap} {locs : List Loc} {ls : Array Slot}, HS g s H locs h → r150 h a0 x5 = some (r, h') → lv_has ls 6 [(0, .ref (gB g + a0)), (5, .int x5)] → W p l e (rmD 2 0 0) s m args below meth c H locs 0 0 (MQ below (QcI g r h') args s 0 0 (aB g)) (F0 m 150 ls [])) {h : PH} {a0 : Nat} {x5 : Int32} {H : Heap} {locs : List Loc} {ls : Array Slot} (hH : HS g s H locs h) (hf : mX10_relate_b150 r150 h a0 x5 = some (r, h')) (hl : lv_has ls 6 [(0, .ref (gB g + a0)), (5, .int x5)]) : W p l e (rmD 2 0 0) s m args below meth c H locs 0 0 (MQ below (QcI g r h') args s 0 0 (aB g)) (F0 m 150 ls []) := by
  obtain ⟨⟨hx, hb, hml, hown, hts⟩, htb, hlk, hkk, hbs⟩ := id C
  unfold mX10_relate_b150 at hf
  refine lv_iload hx hb dX10_relate_150 (lv_at hl 1 rfl) ?_
  refine lv_bipush (v := (22 : Int32)) hx hb dX10_relate_152 (by decide) ?_
  refine lv_icmp_ge (tgt := 179) hx hb dX10_relate_154 (by decide) (fun cn => ?_) (fun cn => ?_)
  · have hf := (if_pos cn).symm.trans hf
    refine lv_aload_n hx hb dX10_relate_179 rfl (lv_at hl 0 rfl) ?_
    refine pg_gR C hH fl_X10_13 hf dX10_relate_180 (fun v180 hf => ?_)
    refine lv_bipush (v := (11 : Int32)) hx hb dX10_relate_183 (by decide) ?_
    refine lv_dup2_11 hx hb dX10_relate_185 rfl rfl ?_
    refine pg_aI C hH hf dX10_relate_186 (fun v186 hf => ?_)
    refine lv_iconst (v := (1 : Int32)) hx hb dX10_relate_187 (by decide) ?_
    refine lv_isub hx hb dX10_relate_188 ?_
    refine pg_sI C hH hf dX10_relate_189 (fun H locs h189 hH hf => ?_)
    refine lv_iconst (v := (1 : Int32)) hx hb dX10_relate_190 (by decide) ?_
    exact pg_zret C hr hH hf dX10_relate_191
  · have hf := (if_neg cn).symm.trans hf
    refine lv_aload_n hx hb dX10_relate_157 rfl (lv_at hl 0 rfl) ?_
    refine pg_gR C hH fl_X10_13 hf dX10_relate_158 (fun v158 hf => ?_)
    refine lv_iload hx hb dX10_relate_161 (lv_at hl 1 rfl) ?_
    refine lv_aload_n hx hb dX10_relate_163 rfl (lv_at hl 0 rfl) ?_
    refine pg_gR C hH fl_X10_13 hf dX10_relate_164 (fun v164 hf => ?_)
    refine lv_iload hx hb dX10_relate_167 (lv_at hl 1 rfl) ?_
    refine lv_iconst (v := (2 : Int32)) hx hb dX10_relate_169 (by decide) ?_
    refine lv_iadd hx hb dX10_relate_170 ?_
    refine pg_aI C hH hf dX10_relate_171 (fun v171 hf => ?_)
    refine pg_sI C hH hf dX10_relate_172 (fun H locs h172 hH hf => ?_)
    refine lv_iinc (v := (x5 + 1)) (lv' := [(5, .int (x5 + 1)), (0, .ref (gB g + a0))]) hx hb dX10_relate_173 hl (k := 1) rfl rfl (by decide) rfl (fun ls hl => ?_)
    refine lv_goto (tgt := 150) hx hb dX10_relate_176 (by decide) ?_
    exact k150 hH hf (lv_sub hl [1, 0] rfl)
set_option maxHeartbeats 4000000 in
set_option maxRecDepth 100000 in
theorem wX10_relate_L150 {r : Int32} {h' : PH} (C : CT g RX10 cX10_relate 6 (Cond.code yX10_relate cX10_relate 6 (some .boolean) :: TB) p s m args meth c) (hr : meth.sig.returnType = some .boolean) : ∀ (n : Nat) {h : PH} {a0 : Nat} {x5 : Int32} {H : Heap} {locs : List Loc} {ls : Array Slot}, HS g s H locs h → mX10_relate_L150 n h a0 x5 = some (r, h') → lv_has ls 6 [(0, .ref (gB g + a0)), (5, .int x5)] → W p l e (rmD 2 0 0) s m args below meth c H locs 0 0 (MQ below (QcI g r h') args s 0 0 (aB g)) (F0 m 150 ls []) := by
  intro n
  induction n with
  | zero =>
    intro h a0 x5 H locs ls hH hf hl
    exact absurd hf (by intro z; cases z)
  | succ n ih =>
    intro h a0 x5 H locs ls hH hf hl
    have hf : mX10_relate_b150 (mX10_relate_L150 n) h a0 x5 = some (r, h') := hf
    exact wX10_relate_b150 C hr (fun a b c => ih a b c) hH hf hl
set_option maxHeartbeats 4000000 in
set_option maxRecDepth 100000 in
theorem wX10_relate_b82 {r : Int32} {h' : PH} (C : CT g RX10 cX10_relate 6 (Cond.code yX10_relate cX10_relate 6 (some .boolean) :: TB) p s m args meth c) (hr : meth.sig.returnType = some .boolean) {h : PH} {a0 : Nat} {x1 : Int32} {x2 : Int32} {x3 : Int32} {x4 : Int32} {H : Heap} {locs : List Loc} {ls : Array Slot} (hH : HS g s H locs h) (hf : mX10_relate_b82 h a0 x1 x2 x3 x4 = some (r, h')) (hl : lv_has ls 6 [(0, .ref (gB g + a0)), (1, .int x1), (2, .int x2), (3, .int x3), (4, .int x4)]) : W p l e (rmD 2 0 0) s m args below meth c H locs 0 0 (MQ below (QcI g r h') args s 0 0 (aB g)) (F0 m 82 ls []) := by
  obtain ⟨⟨hx, hb, hml, hown, hts⟩, htb, hlk, hkk, hbs⟩ := id C
  unfold mX10_relate_b82 at hf
  refine lv_aload_n hx hb dX10_relate_82 rfl (lv_at hl 0 rfl) ?_
  refine pg_Vv (As := []) C hH mi_X10_acts vl_X10_453 (q := (RX10, TX10, 34)) (ci := 10) rfl rfl hf (fun _ e1 => (oO_sp e1).1) (fun _ e1 => c_X10_acts e1) rfl rfl hl.1 (Nat.le_of_ble_eq_true rfl) ⟨Nat.le_of_ble_eq_true rfl, Nat.le_of_ble_eq_true rfl⟩ ⟨Nat.zero_le _, Nat.zero_le _⟩ dX10_relate_83 (fun H locs h83 hH hf => ?_)
  refine lv_iload_n hx hb dX10_relate_86 rfl (lv_at hl 3 rfl) ?_
  refine lv_if_eq (tgt := 141) hx hb dX10_relate_87 (by decide) (fun cn => ?_) (fun cn => ?_)
  · have hf := (if_pos cn).symm.trans hf
    refine lv_bipush (v := (12 : Int32)) hx hb dX10_relate_141 (by decide) ?_
    refine lv_iconst (v := (2 : Int32)) hx hb dX10_relate_143 (by decide) ?_
    refine lv_iload hx hb dX10_relate_144 (lv_at hl 4 rfl) ?_
    refine lv_imul hx hb dX10_relate_146 ?_
    refine lv_iadd hx hb dX10_relate_147 ?_
    refine lv_istore (lv' := [(5, .int ((12 : Int32) + ((2 : Int32) * x4))), (0, .ref (gB g + a0)), (1, .int x1), (2, .int x2), (3, .int x3), (4, .int x4)]) hx hb dX10_relate_148 hl (by decide) rfl (fun ls hl => ?_)
    exact wX10_relate_L150 C hr FU hH hf (lv_sub hl [1, 0] rfl)
  · have hf := (if_neg cn).symm.trans hf
    refine lv_aload_n hx hb dX10_relate_90 rfl (lv_at hl 0 rfl) ?_
    refine pg_gR C hH fl_X10_13 hf dX10_relate_91 (fun v91 hf => ?_)
    refine lv_bipush (v := (12 : Int32)) hx hb dX10_relate_94 (by decide) ?_
    refine lv_iconst (v := (2 : Int32)) hx hb dX10_relate_96 (by decide) ?_
    refine lv_aload_n hx hb dX10_relate_97 rfl (lv_at hl 0 rfl) ?_
    refine pg_gR C hH fl_X10_13 hf dX10_relate_98 (fun v98 hf => ?_)
    refine lv_bipush (v := (11 : Int32)) hx hb dX10_relate_101 (by decide) ?_
    refine pg_aI C hH hf dX10_relate_103 (fun v103 hf => ?_)
    refine lv_imul hx hb dX10_relate_104 ?_
    refine lv_iadd hx hb dX10_relate_105 ?_
    refine lv_iload_n hx hb dX10_relate_106 rfl (lv_at hl 1 rfl) ?_
    refine pg_sI C hH hf dX10_relate_107 (fun H locs h107 hH hf => ?_)
    refine lv_aload_n hx hb dX10_relate_108 rfl (lv_at hl 0 rfl) ?_
    refine pg_gR C hH fl_X10_13 hf dX10_relate_109 (fun v109 hf => ?_)
    refine lv_bipush (v := (12 : Int32)) hx hb dX10_relate_112 (by decide) ?_
    refine lv_iconst (v := (2 : Int32)) hx hb dX10_relate_114 (by decide) ?_
    refine lv_aload_n hx hb dX10_relate_115 rfl (lv_at hl 0 rfl) ?_
    refine pg_gR C hH fl_X10_13 hf dX10_relate_116 (fun v116 hf => ?_)
    refine lv_bipush (v := (11 : Int32)) hx hb dX10_relate_119 (by decide) ?_
    refine pg_aI C hH hf dX10_relate_121 (fun v121 hf => ?_)
    refine lv_imul hx hb dX10_relate_122 ?_
    refine lv_iadd hx hb dX10_relate_123 ?_
    refine lv_iconst (v := (1 : Int32)) hx hb dX10_relate_124 (by decide) ?_
    refine lv_iadd hx hb dX10_relate_125 ?_
    refine lv_iload_n hx hb dX10_relate_126 rfl (lv_at hl 2 rfl) ?_
    refine pg_sI C hH hf dX10_relate_127 (fun H locs h127 hH hf => ?_)
    refine lv_aload_n hx hb dX10_relate_128 rfl (lv_at hl 0 rfl) ?_
    refine pg_gR C hH fl_X10_13 hf dX10_relate_129 (fun v129 hf => ?_)
    refine lv_bipush (v := (11 : Int32)) hx hb dX10_relate_132 (by decide) ?_
    refine lv_dup2_11 hx hb dX10_relate_134 rfl rfl ?_
    refine pg_aI C hH hf dX10_relate_135 (fun v135 hf => ?_)
    refine lv_iconst (v := (1 : Int32)) hx hb dX10_relate_136 (by decide) ?_
    refine lv_iadd hx hb dX10_relate_137 ?_
    refine pg_sI C hH hf dX10_relate_138 (fun H locs h138 hH hf => ?_)
    refine lv_iconst (v := (1 : Int32)) hx hb dX10_relate_139 (by decide) ?_
    exact pg_zret C hr hH hf dX10_relate_140
set_option maxHeartbeats 4000000 in
set_option maxRecDepth 100000 in
theorem wX10_relate_b61 {r : Int32} {h' : PH} (C : CT g RX10 cX10_relate 6 (Cond.code yX10_relate cX10_relate 6 (some .boolean) :: TB) p s m args meth c) (hr : meth.sig.returnType = some .boolean) {h : PH} {a0 : Nat} {x1 : Int32} {x2 : Int32} {x3 : Int32} {x4 : Int32} {s0 : Int32} {s1 : Int32} {H : Heap} {locs : List Loc} {ls : Array Slot} (hH : HS g s H locs h) (hf : mX10_relate_b61 h a0 x1 x2 x3 x4 s0 s1 = some (r, h')) (hl : lv_has ls 6 [(0, .ref (gB g + a0)), (1, .int x1), (2, .int x2), (3, .int x3), (4, .int x4)]) : W p l e (rmD 2 0 0) s m args below meth c H locs 0 0 (MQ below (QcI g r h') args s 0 0 (aB g)) (F0 m 61 ls [.int s1, .int s0]) := by
  obtain ⟨⟨hx, hb, hml, hown, hts⟩, htb, hlk, hkk, hbs⟩ := id C
  unfold mX10_relate_b61 at hf
  refine lv_icmp_eq (tgt := 80) hx hb dX10_relate_61 (by decide) (fun cn => ?_) (fun cn => ?_)
  · have hf := (if_pos cn).symm.trans hf
    refine lv_iconst (v := (0 : Int32)) hx hb dX10_relate_80 (by decide) ?_
    exact pg_zret C hr hH hf dX10_relate_81
  · have hf := (if_neg cn).symm.trans hf
    refine lv_iload_n hx hb dX10_relate_64 rfl (lv_at hl 3 rfl) ?_
    refine lv_if_eq (tgt := 82) hx hb dX10_relate_65 (by decide) (fun cn => ?_) (fun cn => ?_)
    · have hf := (if_pos cn).symm.trans hf
      exact wX10_relate_b82 C hr hH hf (lv_sub hl [0, 1, 2, 3, 4] rfl)
    · have hf := (if_neg cn).symm.trans hf
      refine lv_aload_n hx hb dX10_relate_68 rfl (lv_at hl 0 rfl) ?_
      refine pg_gR C hH fl_X10_13 hf dX10_relate_69 (fun v69 hf => ?_)
      refine lv_bipush (v := (11 : Int32)) hx hb dX10_relate_72 (by decide) ?_
      refine pg_aI C hH hf dX10_relate_74 (fun v74 hf => ?_)
      refine lv_bipush (v := (6 : Int32)) hx hb dX10_relate_75 (by decide) ?_
      refine lv_icmp_ne (tgt := 82) hx hb dX10_relate_77 (by decide) (fun cn => ?_) (fun cn => ?_)
      · have hf := (if_neg cn).symm.trans hf
        exact wX10_relate_b82 C hr hH hf (lv_sub hl [0, 1, 2, 3, 4] rfl)
      · have hf := (if_pos cn).symm.trans hf
        refine lv_iconst (v := (0 : Int32)) hx hb dX10_relate_80 (by decide) ?_
        exact pg_zret C hr hH hf dX10_relate_81
set_option maxHeartbeats 4000000 in
set_option maxRecDepth 100000 in
theorem c_X10_relate {l : Launch} {g : GD} {h : PH} {a0 : Nat} {x1 : Int32} {x2 : Int32} {x3 : Int32} {r : Int32} {h' : PH} (hf : mX10_relate h a0 x1 x2 x3 = some (r, h')) : Met l yX10_relate (Cond.code yX10_relate cX10_relate 6 (some .boolean) :: TB) (rmD 2 0 0) (PcH g [.ref (gB g + a0), .int x1, .int x2, .int x3] h) (QcI g r h') 0 0 (aB g) := by
  refine Met.ofW (cc := cX10_relate) (maxL := 6) (ret := some .boolean) (by decide) rfl ?_
  intro p e s m args below meth c s₁ B hml hv
  obtain ⟨rfl, hH0, hkk0⟩ := hv
  have C : CT g RX10 cX10_relate 6 (Cond.code yX10_relate cX10_relate 6 (some .boolean) :: TB) p s m _ meth c := pg_ct (Tw := []) B hml hH0 hkk0
  have hr := B.returns
  have hH : HS g s s.heap [] h := ⟨hH0, va_S.rf⟩
  have hl := lv_entry ([.ref (gB g + a0), .int x1, .int x2, .int x3]) (n := 6) (Nat.le_of_ble_eq_true rfl)
  rw [lg_entry_eq]
  generalize (lg_sl ([.ref (gB g + a0), .int x1, .int x2, .int x3]) ++ List.replicate (6 - (lg_sl ([.ref (gB g + a0), .int x1, .int x2, .int x3])).length) Slot.unset).toArray = ls at hl ⊢
  have hl : lv_has ls 6 [(0, .ref (gB g + a0)), (1, .int x1), (2, .int x2), (3, .int x3)] := hl
  show W p l e (rmD 2 0 0) _ _ _ _ _ _ _ _ _ _ _ _
  unfold mX10_relate at hf
  obtain ⟨hO, hf⟩ := oO_sp hf
  obtain ⟨⟨hx, hb, hml, hown, hts⟩, htb, hlk, hkk, hbs⟩ := id C
  refine lv_aload_n hx hb dX10_relate_0 rfl (lv_at hl 0 rfl) ?_
  refine lv_iconst (v := (0 : Int32)) hx hb dX10_relate_1 (by decide) ?_
  refine pg_pI C hH fl_X10_1 fm_10_0 hf dX10_relate_2 (fun H locs h2 hH hf => ?_)
  refine lv_aload_n hx hb dX10_relate_5 rfl (lv_at hl 0 rfl) ?_
  refine pg_gR C hH fl_X10_13 hf dX10_relate_6 (fun v6 hf => ?_)
  refine lv_iconst (v := (0 : Int32)) hx hb dX10_relate_9 (by decide) ?_
  refine pg_aI C hH hf dX10_relate_10 (fun v10 hf => ?_)
  refine lv_iload_n hx hb dX10_relate_11 rfl (lv_at hl 1 rfl) ?_
  refine pg_Si (As := [.int v10, .int x1]) C hH mi_X10_isIn sl_X10_278 hf (fun _ _ e1 => c_X10_isIn e1) rfl rfl hl.1 (Nat.le_of_ble_eq_true rfl) ⟨Nat.le_of_ble_eq_true rfl, Nat.le_of_ble_eq_true rfl⟩ ⟨Nat.zero_le _, Nat.zero_le _⟩ dX10_relate_12 (fun H locs v12 h12 hH hf => ?_)
  refine lv_if_eq (tgt := 36) hx hb dX10_relate_15 (by decide) (fun cn => ?_) (fun cn => ?_)
  · have hf := (if_pos cn).symm.trans hf
    refine lv_iconst (v := (0 : Int32)) hx hb dX10_relate_36 (by decide) ?_
    exact pg_zret C hr hH hf dX10_relate_37
  · have hf := (if_neg cn).symm.trans hf
    refine lv_aload_n hx hb dX10_relate_18 rfl (lv_at hl 0 rfl) ?_
    refine pg_gR C hH fl_X10_13 hf dX10_relate_19 (fun v19 hf => ?_)
    refine lv_iconst (v := (0 : Int32)) hx hb dX10_relate_22 (by decide) ?_
    refine pg_aI C hH hf dX10_relate_23 (fun v23 hf => ?_)
    refine lv_iload_n hx hb dX10_relate_24 rfl (lv_at hl 2 rfl) ?_
    refine pg_Si (As := [.int v23, .int x2]) C hH mi_X10_isIn sl_X10_278 hf (fun _ _ e1 => c_X10_isIn e1) rfl rfl hl.1 (Nat.le_of_ble_eq_true rfl) ⟨Nat.le_of_ble_eq_true rfl, Nat.le_of_ble_eq_true rfl⟩ ⟨Nat.zero_le _, Nat.zero_le _⟩ dX10_relate_25 (fun H locs v25 h25 hH hf => ?_)
    refine lv_if_eq (tgt := 36) hx hb dX10_relate_28 (by decide) (fun cn => ?_) (fun cn => ?_)
    · have hf := (if_pos cn).symm.trans hf
      refine lv_iconst (v := (0 : Int32)) hx hb dX10_relate_36 (by decide) ?_
      exact pg_zret C hr hH hf dX10_relate_37
    · have hf := (if_neg cn).symm.trans hf
      refine lv_iload_n hx hb dX10_relate_31 rfl (lv_at hl 1 rfl) ?_
      refine lv_iload_n hx hb dX10_relate_32 rfl (lv_at hl 2 rfl) ?_
      refine lv_icmp_ne (tgt := 38) hx hb dX10_relate_33 (by decide) (fun cn => ?_) (fun cn => ?_)
      · have hf := (if_neg cn).symm.trans hf
        refine lv_aload_n hx hb dX10_relate_38 rfl (lv_at hl 0 rfl) ?_
        refine pg_gR C hH fl_X10_13 hf dX10_relate_39 (fun v39 hf => ?_)
        refine lv_iload_n hx hb dX10_relate_42 rfl (lv_at hl 1 rfl) ?_
        refine lv_iload_n hx hb dX10_relate_43 rfl (lv_at hl 2 rfl) ?_
        refine pg_Si (As := [.ref (gB g + v39), .int x1, .int x2]) C hH mi_X10_pairOf sl_X10_209 hf (fun _ _ e1 => c_X10_pairOf e1) rfl rfl hl.1 (Nat.le_of_ble_eq_true rfl) ⟨Nat.le_of_ble_eq_true rfl, Nat.le_of_ble_eq_true rfl⟩ ⟨Nat.zero_le _, Nat.zero_le _⟩ dX10_relate_44 (fun H locs v44 h44 hH hf => ?_)
        refine lv_istore (lv' := [(4, .int v44), (0, .ref (gB g + a0)), (1, .int x1), (2, .int x2), (3, .int x3)]) hx hb dX10_relate_47 hl (by decide) rfl (fun ls hl => ?_)
        refine lv_iload_n hx hb dX10_relate_49 rfl (lv_at hl 4 rfl) ?_
        refine lv_iload hx hb dX10_relate_50 (lv_at hl 0 rfl) ?_
        refine lv_iconst (v := (-1 : Int32)) hx hb dX10_relate_52 (by decide) ?_
        refine lv_icmp_eq (tgt := 60) hx hb dX10_relate_53 (by decide) (fun cn => ?_) (fun cn => ?_)
        · have hf := (if_pos cn).symm.trans hf
          refine lv_iconst (v := (0 : Int32)) hx hb dX10_relate_60 (by decide) ?_
          exact wX10_relate_b61 C hr hH hf (lv_sub hl [1, 2, 3, 4, 0] rfl)
        · have hf := (if_neg cn).symm.trans hf
          refine lv_iconst (v := (1 : Int32)) hx hb dX10_relate_56 (by decide) ?_
          refine lv_goto (tgt := 61) hx hb dX10_relate_57 (by decide) ?_
          exact wX10_relate_b61 C hr hH hf (lv_sub hl [1, 2, 3, 4, 0] rfl)
      · have hf := (if_pos cn).symm.trans hf
        refine lv_iconst (v := (0 : Int32)) hx hb dX10_relate_36 (by decide) ?_
        exact pg_zret C hr hH hf dX10_relate_37
set_option maxHeartbeats 4000000 in
set_option maxRecDepth 100000 in
theorem c_X10_rule {l : Launch} {g : GD} {h : PH} {a0 : Nat} {x1 : Int32} {x2 : Int32} {r : Int32} {h' : PH} (hf : mX10_rule h a0 x1 x2 = some (r, h')) : Met l yX10_rule (Cond.code yX10_rule cX10_rule 3 (some .int) :: TB) (rmD 3 0 0) (PcH g [.ref (gB g + a0), .int x1, .int x2] h) (QcI g r h') 0 0 (aB g) := by
  refine Met.ofW (cc := cX10_rule) (maxL := 3) (ret := some .int) (by decide) rfl ?_
  intro p e s m args below meth c s₁ B hml hv
  obtain ⟨rfl, hH0, hkk0⟩ := hv
  have C : CT g RX10 cX10_rule 3 (Cond.code yX10_rule cX10_rule 3 (some .int) :: TB) p s m _ meth c := pg_ct (Tw := []) B hml hH0 hkk0
  have hr := B.returns
  have hH : HS g s s.heap [] h := ⟨hH0, va_S.rf⟩
  have hl := lv_entry ([.ref (gB g + a0), .int x1, .int x2]) (n := 3) (Nat.le_of_ble_eq_true rfl)
  rw [lg_entry_eq]
  generalize (lg_sl ([.ref (gB g + a0), .int x1, .int x2]) ++ List.replicate (3 - (lg_sl ([.ref (gB g + a0), .int x1, .int x2])).length) Slot.unset).toArray = ls at hl ⊢
  have hl : lv_has ls 3 [(0, .ref (gB g + a0)), (1, .int x1), (2, .int x2)] := hl
  show W p l e (rmD 3 0 0) _ _ _ _ _ _ _ _ _ _ _ _
  unfold mX10_rule at hf
  obtain ⟨hO, hf⟩ := oO_sp hf
  obtain ⟨⟨hx, hb, hml, hown, hts⟩, htb, hlk, hkk, hbs⟩ := id C
  refine lv_aload_n hx hb dX10_rule_0 rfl (lv_at hl 0 rfl) ?_
  refine lv_iconst (v := (0 : Int32)) hx hb dX10_rule_1 (by decide) ?_
  refine pg_pI C hH fl_X10_1 fm_10_0 hf dX10_rule_2 (fun H locs h2 hH hf => ?_)
  refine lv_iload_n hx hb dX10_rule_5 rfl (lv_at hl 1 rfl) ?_
  refine lv_i2l (v := (Int32.toInt64 x1)) hx hb dX10_rule_6 rfl ?_
  refine lv_lconst (v := (0 : Int64)) hx hb dX10_rule_7 (by decide) ?_
  refine lv_ldc2 (v := (3 : Int64)) hx hb hown (hts _ (htb _ kl_X10_293)) dX10_rule_8 ?_
  refine pg_Si (As := [.long (Int32.toInt64 x1), .long (0 : Int64), .long (3 : Int64)]) C hH mi_X10_within sl_X10_97 hf (fun _ _ e1 => c_X10_within e1) rfl rfl hl.1 (Nat.le_of_ble_eq_true rfl) ⟨Nat.le_of_ble_eq_true rfl, Nat.le_of_ble_eq_true rfl⟩ ⟨Nat.zero_le _, Nat.zero_le _⟩ dX10_rule_11 (fun H locs v11 h11 hH hf => ?_)
  refine lv_if_eq (tgt := 53) hx hb dX10_rule_14 (by decide) (fun cn => ?_) (fun cn => ?_)
  · have hf := (if_pos cn).symm.trans hf
    refine lv_iconst (v := (-1 : Int32)) hx hb dX10_rule_53 (by decide) ?_
    exact pg_iret C hr hH hf dX10_rule_54
  · have hf := (if_neg cn).symm.trans hf
    refine lv_iload_n hx hb dX10_rule_17 rfl (lv_at hl 2 rfl) ?_
    refine lv_i2l (v := (Int32.toInt64 x2)) hx hb dX10_rule_18 rfl ?_
    refine lv_bipush (v := (6 : Int32)) hx hb dX10_rule_19 (by decide) ?_
    refine lv_iload_n hx hb dX10_rule_21 rfl (lv_at hl 1 rfl) ?_
    refine lv_iadd hx hb dX10_rule_22 ?_
    refine pg_Si (As := [.int ((6 : Int32) + x1)]) C hH mi_X10_leastOf sl_X10_232 hf (fun _ _ e1 => c_X10_leastOf e1) rfl rfl hl.1 (Nat.le_of_ble_eq_true rfl) ⟨Nat.le_of_ble_eq_true rfl, Nat.le_of_ble_eq_true rfl⟩ ⟨Nat.zero_le _, Nat.zero_le _⟩ dX10_rule_23 (fun H locs v23 h23 hH hf => ?_)
    refine lv_i2l (v := (Int32.toInt64 v23)) hx hb dX10_rule_26 rfl ?_
    refine lv_bipush (v := (6 : Int32)) hx hb dX10_rule_27 (by decide) ?_
    refine lv_iload_n hx hb dX10_rule_29 rfl (lv_at hl 1 rfl) ?_
    refine lv_iadd hx hb dX10_rule_30 ?_
    refine pg_Si (As := [.int ((6 : Int32) + x1)]) C hH mi_X10_mostOf sl_X10_235 hf (fun _ _ e1 => c_X10_mostOf e1) rfl rfl hl.1 (Nat.le_of_ble_eq_true rfl) ⟨Nat.le_of_ble_eq_true rfl, Nat.le_of_ble_eq_true rfl⟩ ⟨Nat.zero_le _, Nat.zero_le _⟩ dX10_rule_31 (fun H locs v31 h31 hH hf => ?_)
    refine lv_i2l (v := (Int32.toInt64 v31)) hx hb dX10_rule_34 rfl ?_
    refine pg_Si (As := [.long (Int32.toInt64 x2), .long (Int32.toInt64 v23), .long (Int32.toInt64 v31)]) C hH mi_X10_within sl_X10_97 hf (fun _ _ e1 => c_X10_within e1) rfl rfl hl.1 (Nat.le_of_ble_eq_true rfl) ⟨Nat.le_of_ble_eq_true rfl, Nat.le_of_ble_eq_true rfl⟩ ⟨Nat.zero_le _, Nat.zero_le _⟩ dX10_rule_35 (fun H locs v35 h35 hH hf => ?_)
    refine lv_if_eq (tgt := 53) hx hb dX10_rule_38 (by decide) (fun cn => ?_) (fun cn => ?_)
    · have hf := (if_pos cn).symm.trans hf
      refine lv_iconst (v := (-1 : Int32)) hx hb dX10_rule_53 (by decide) ?_
      exact pg_iret C hr hH hf dX10_rule_54
    · have hf := (if_neg cn).symm.trans hf
      refine lv_aload_n hx hb dX10_rule_41 rfl (lv_at hl 0 rfl) ?_
      refine lv_bipush (v := (6 : Int32)) hx hb dX10_rule_42 (by decide) ?_
      refine lv_iload_n hx hb dX10_rule_44 rfl (lv_at hl 1 rfl) ?_
      refine lv_iadd hx hb dX10_rule_45 ?_
      refine lv_iload_n hx hb dX10_rule_46 rfl (lv_at hl 2 rfl) ?_
      refine pg_Vi (As := [.int ((6 : Int32) + x1), .int x2]) C hH mi_X10_sets vl_X10_458 (q := (RX10, TX10, 34)) (ci := 10) rfl rfl hf (fun _ e1 => (oO_sp e1).1) (fun _ _ e1 => c_X10_sets e1) rfl rfl hl.1 (Nat.le_of_ble_eq_true rfl) ⟨Nat.le_of_ble_eq_true rfl, Nat.le_of_ble_eq_true rfl⟩ ⟨Nat.zero_le _, Nat.zero_le _⟩ dX10_rule_47 (fun H locs v47 h47 hH hf => ?_)
      refine lv_goto (tgt := 54) hx hb dX10_rule_50 (by decide) ?_
      exact pg_iret C hr hH hf dX10_rule_54
end WK7
