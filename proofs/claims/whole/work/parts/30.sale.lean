/-! ===== 15: sale() throws, the law's own sale() catches ===== -/
def NSE : String := "java/util/NoSuchElementException"
def exN : List String := ["java/lang/RuntimeException", "java/lang/Exception"]
def exD : List MethodName := [⟨"java/lang/RuntimeException", "<init>", "()V"⟩, ⟨"java/lang/Exception", "<init>", "()V"⟩, ⟨"java/lang/Throwable", "<init>", "()V"⟩]
theorem xb_list : ((vx_at0 RX9 110 NSE exN).filter (fun w => !goodWord w)) = exD.map Cond.declares ++ [Cond.castable NSE NSE] := by decide +kernel
theorem xb_tbl : ∀ w ∈ (vx_at0 RX9 110 NSE exN).filter goodWord, w ∈ lw_tbl := by decide +kernel
theorem xb_in : ∀ w ∈ (vx_at0 RX9 110 NSE exN).filter goodWord, w ∈ TB := fun w hw => List.mem_filter.mpr ⟨xb_tbl w hw, (List.mem_filter.mp hw).2⟩
theorem xb_ot : ∀ w ∈ Cond.classLink RX9 108 NSE :: Cond.initialized NSE :: vx_at0 RX9 110 NSE exN, vx_ot w = true := by decide +kernel
/-- what a throw needs of the machine's statics, and words that no list of good words holds -/
def xg (g : GD) (U : State) : Prop := (vx_Zq Bundle.tN "UNASSIGNED_STACK" Bundle.steD (fun a => gB g ≤ a) U U.heap ∧ vx_Zq Bundle.tN "SUPPRESSED_SENTINEL" Bundle.listD (fun a => gB g ≤ a) U U.heap) ∧ (∀ x ∈ exD, va_Nw (.declares x) U) ∧ va_Nw (.castable NSE NSE) U
theorem xg.moved {g : GD} {s U : State} (hW : s.WarmedH U.vm) (hq : ∀ a : Nat, a < s.heap.size → ¬ gB g ≤ a → U.heap[a]? = s.heap[a]?) (h : xg g s) : xg g U :=
  ⟨⟨(h.1.1.moved hW.alike).kept hq, (h.1.2.moved hW.alike).kept hq⟩, fun x hx => (h.2.1 x hx).warmD hW, h.2.2.warmC hW⟩
abbrev PcX (g : GD) (av : List Value) (h : PH) : Array Value → State → Prop := va_Pc av (fun U => ar g h U ∧ xg g U)
theorem PcX_blind {g : GD} {av : List Value} {h : PH} : FrameBlind (PcX g av h) := fun a U fr mk q => by
  obtain ⟨q0, q1, q2⟩ := q
  obtain ⟨-, q3⟩ := PcH_blind (g := g) (av := av) (h := h) a U fr mk ⟨q0, q1⟩
  exact ⟨q0, q3, ⟨q2.1.1.moved (u := U) (U := U.calling fr mk a) (Vm.Alike.refl U.vm), q2.1.2.moved (u := U) (U := U.calling fr mk a) (Vm.Alike.refl U.vm)⟩, fun x hx => va_Nw.same rfl (u := U) (U := U.calling fr mk a) rfl (q2.2.1 x hx), va_Nw.same rfl (u := U) (U := U.calling fr mk a) rfl q2.2.2⟩
/-- WorthLadder.sale: an answer, or none where it throws -/
def mX9_sale (h : PH) (a0 : Nat) (x1 x2 : Int32) : Option (Option Int32 × PH) :=
  oO h a0 9 <|
  (gR 9 1 h a0).bind fun v1 =>
  b2 (mX8_has h v1 (3 : Int32) x1) fun v6 h6 =>
  if v6 = 0 then some (none, h6) else
  if x2 < 0 then some (none, h6) else
  if x2 ≤ (12 : Int32) then (
  if x2 = (12 : Int32) then (
  (gR 9 1 h6 a0).bind fun v37 =>
  b2 (mX8_levelOf h6 v37 x1) fun v41 h41 =>
  some (some v41, h41)) else (
  (gR 9 1 h6 a0).bind fun v48 =>
  (gR 8 4 h6 v48).bind fun v51 =>
  (aR 5 h6 v51 x1).bind fun v55 =>
  (aI 0 h6 v55 x2).bind fun v57 =>
  some (some v57, h6))) else some (none, h6)
/-- behind a throw: some cells more -/
def grown (h u : PH) : Prop := ∃ k : Nat, u = (h.1 + k, h.2)
abbrev QcS (g : GD) (ro : Option Int32) (h' : PH) : Array Value → State → Outcome → State → Prop := va_Qi (fun (r' : Int32) (u : PH) => ro = some r' ∧ u = h') (fun u t => ar g u t) (aB g)
abbrev XcS (g : GD) (ro : Option Int32) (h' : PH) : String → State → State → Prop := vx_X (fun u : PH => ro = none ∧ grown h' u) (fun E u t => E = NSE ∧ hh g t.heap u) (aB g)
theorem hh.grown {g : GD} {H H1 : Heap} {h : PH} (hH : hh g H h) (z : H.size ≤ H1.size) (o : ∀ q : Nat, q < H.size → H1[q]? = H[q]?) : ∃ u, grown h u ∧ hh g H1 u := by
  refine ⟨(h.1 + (H1.size - H.size), h.2), ⟨_, rfl⟩, ?_, fun a e he => (hH.2 a e he).kept (o _ (hH.2 a e he).lt)⟩
  have h1 : Array.size H = gB g + h.1 := hH.1
  show Array.size H1 = gB g + (h.1 + (Array.size H1 - Array.size H))
  have z' : Array.size H ≤ Array.size H1 := z
  omega
theorem ne_108 : Cond.classLink RX9 108 NSE ∈ TB := TB_mem 1087 (by decide +kernel) rfl
theorem ne_ini : Cond.initialized NSE ∈ TB := TB_mem 134 (by decide +kernel) rfl
theorem vl_X9_111 : VL RX9 111 yX8_levelOf := ⟨TB_mem 1148 (by decide +kernel) rfl, TB_mem 724 (by decide +kernel) rfl, TB_mem 725 (by decide +kernel) rfl⟩
theorem mi_X9_sale : MI yX9_sale cX9_sale 3 2 (some .int) := ⟨TB_mem 1086 (by decide +kernel) rfl, TB_mem 113 (by decide +kernel) rfl, ⟨by decide +kernel, by decide +kernel⟩, by decide +kernel⟩
theorem vl_L_7 : VL RL 7 yX9_sale := ⟨TB_mem 1083 (by decide +kernel) rfl, TB_mem 1084 (by decide +kernel) rfl, TB_mem 1085 (by decide +kernel) rfl⟩
theorem cl_L_13 : Cond.classLink RL 13 NSE ∈ TB := TB_mem 1082 (by decide +kernel) rfl
section SX
variable {p : Program} {l : Launch} {e : Env} {R : Room} {s : State} {m : MethodId} {args : Array Value} {below : List Frame} {meth : Method} {c : Code} {g : GD}
set_option maxHeartbeats 4000000 in
set_option maxRecDepth 100000 in
/-- new; dup; init; athrow -/
theorem wX9_sale_22 {Qc : Array Value → State → Outcome → State → Prop} {h h' : PH} {ro : Option Int32} (hlt : l.stackTraces = false) (C : CT g RX9 cX9_sale 3 (Cond.code yX9_sale cX9_sale 3 (some .int) :: TB) p s m args meth c) (hxg : xg g s) (htab : ∀ x ∈ c.exceptionTable.toList, False) {H : Heap} {locs : List Loc} {ls : Array Slot} (hH : HS g s H locs h) (hf : some (none, h) = some (ro, h')) (hls : ls.size = 3) :
    W p l e (rmD 6 1 6) s m args below meth c H locs 0 0 (vx_MQ below Qc (XcS g ro h') args s 1 6 (aB g)) (F0 m 22 ls []) := by
  obtain ⟨⟨hx, hb, hml, hown, hts⟩, htb, hlk, hkk, hbs⟩ := id C
  cases hf
  refine vx_throw0 (own := RX9) (cls := NSE) (names := exN) (ik := 108) (ic := 110) (A := fun a => gB g ≤ a) hx hb hlt hown (by decide +kernel) (by decide +kernel) (hts _ (htb _ ne_108)) (hts _ (htb _ ne_ini)) ?_ xb_ot hxg.1.1 hxg.1.2 hH.2 (by rw [hml]; exact hls) dX9_sale_22 dX9_sale_25 dX9_sale_26 dX9_sale_29 (fun x hx => (htab x hx).elim) (Nat.le_of_ble_eq_true rfl) (Nat.le_of_ble_eq_true rfl) (Nat.le_of_ble_eq_true rfl) (Nat.le_of_ble_eq_true rfl) hlk ?_ hH.2.2.2 (Nat.le_of_ble_eq_true rfl) (Nat.le_of_ble_eq_true rfl)
  · refine vx_hat (B := exD.map Cond.declares ++ [Cond.castable NSE NSE]) (fun w hw => hts _ (htb _ (xb_in w hw))) (fun w hw => by rw [← xb_list]; exact hw) (fun w hw => ?_)
    rcases List.mem_append.mp hw with h1 | h1
    · obtain ⟨x, hx1, rfl⟩ := List.mem_map.mp h1
      exact va_Nw.use rfl (hxg.2.1 x hx1)
    · rw [List.mem_singleton.mp h1]
      exact va_Nw.use rfl hxg.2.2
  · intro t hal hz ho
    obtain ⟨u, hu, hhu⟩ := hH.1.grown hz ho
    refine ⟨u, ⟨rfl, hu⟩, ⟨rfl, hhu⟩, Nat.le_trans hH.2.1 hz, fun q h1 h2 => ?_⟩
    rw [ho q (Nat.lt_of_lt_of_le h1 hH.2.1)]
    exact hH.2.2.1 q h1 h2
set_option maxHeartbeats 4000000 in
set_option maxRecDepth 100000 in
theorem c_X9_sale {h : PH} {a0 : Nat} {x1 x2 : Int32} {ro : Option Int32} {h' : PH} (hlt : l.stackTraces = false) (hf : mX9_sale h a0 x1 x2 = some (ro, h')) : vx_Met l yX9_sale (Cond.code yX9_sale cX9_sale 3 (some .int) :: TB) (rmD 6 1 6) (PcX g [.ref (gB g + a0), .int x1, .int x2] h) (QcS g ro h') (XcS g ro h') 1 6 (aB g) := by
  refine vx_ofW (cc := cX9_sale) (maxL := 3) (ret := some .int) (by decide) rfl ?_
  intro p e s m args below meth c s₁ B hml htab hv
  obtain ⟨rfl, ⟨hH0, hkk0⟩, hxg⟩ := hv
  have C : CT g RX9 cX9_sale 3 (Cond.code yX9_sale cX9_sale 3 (some .int) :: TB) p s m _ meth c := pg_ct (Tw := []) B hml hH0 hkk0
  have hr := B.returns
  have hH : HS g s s.heap [] h := ⟨hH0, va_S.rf⟩
  have hl := lv_entry ([.ref (gB g + a0), .int x1, .int x2]) (n := 3) (Nat.le_of_ble_eq_true rfl)
  rw [lg_entry_eq]
  generalize (lg_sl ([.ref (gB g + a0), .int x1, .int x2]) ++ List.replicate (3 - (lg_sl ([.ref (gB g + a0), .int x1, .int x2])).length) Slot.unset).toArray = ls at hl ⊢
  have hl : lv_has ls 3 [(0, .ref (gB g + a0)), (1, .int x1), (2, .int x2)] := hl
  show W p l e (rmD 6 1 6) _ _ _ _ _ _ _ _ _ _ _ _
  unfold mX9_sale at hf
  obtain ⟨hO, hf⟩ := oO_sp hf
  obtain ⟨⟨hx, hb, hml, hown, hts⟩, htb, hlk, hkk, hbs⟩ := id C
  have fin : ∀ {H : Heap} {locs : List Loc} {pc : Nat} {v : Int32} {h1 : PH}, HS g s H locs h1 → some (some v, h1) = some (ro, h') → decode cX9_sale pc = .ok (.ireturn, 1) → W p l e (rmD 6 1 6) s m #[.ref (gB g + a0), .int x1, .int x2] below meth c H locs 0 0 (vx_MQ below (QcS g ro h') (XcS g ro h') #[.ref (gB g + a0), .int x1, .int x2] s 1 6 (aB g)) (F0 m pc ls [.int v]) := by
    intro H locs pc v h1 hH hf hdg
    cases hf
    refine vx_ret ?_
    refine W.widen (k := 1) (n := 6) (Nat.le_of_ble_eq_true rfl) (Nat.le_of_ble_eq_true rfl) ?_
    exact W.iret (v := v) hx hb hr (fun t ht hW => ⟨⟨v, h', rfl, ⟨rfl, rfl⟩, by rw [ht]; exact hH.1, kk_end hkk hH.2 ht hW⟩, hH.2.F ht⟩) hH.2.2.2 hdg hlk
  refine lv_aload_n hx hb dX9_sale_0 rfl (lv_at hl 0 rfl) ?_
  refine pg_gR C hH fl_X9_19 hf dX9_sale_1 (fun v1 hf => ?_)
  refine lv_iconst (v := (3 : Int32)) hx hb dX9_sale_4 (by decide) ?_
  refine lv_iload_n hx hb dX9_sale_5 rfl (lv_at hl 1 rfl) ?_
  refine pg_Vi (As := [.int (3 : Int32), .int x1]) C hH mi_X8_has vl_X9_104 (q := (RX8, TX8, 8)) (ci := 8) rfl rfl hf (fun _ e1 => (oO_sp e1).1) (fun _ _ e1 => c_X8_has e1) rfl rfl hl.1 (Nat.le_of_ble_eq_true rfl) ⟨Nat.le_of_ble_eq_true rfl, Nat.le_of_ble_eq_true rfl⟩ ⟨Nat.zero_le _, Nat.zero_le _⟩ dX9_sale_6 (fun H locs v6 h6 hH hf => ?_)
  refine lv_if_eq (tgt := 22) hx hb dX9_sale_9 (by decide) (fun cn => ?_) (fun cn => ?_)
  · have hf := (if_pos cn).symm.trans hf
    exact wX9_sale_22 hlt C hxg htab hH hf hl.1
  · have hf := (if_neg cn).symm.trans hf
    refine lv_iload_n hx hb dX9_sale_12 rfl (lv_at hl 2 rfl) ?_
    refine lv_if_lt (tgt := 22) hx hb dX9_sale_13 (by decide) (fun cn => ?_) (fun cn => ?_)
    · have hf := (if_pos cn).symm.trans hf
      exact wX9_sale_22 hlt C hxg htab hH hf hl.1
    · have hf := (if_neg cn).symm.trans hf
      refine lv_iload_n hx hb dX9_sale_16 rfl (lv_at hl 2 rfl) ?_
      refine lv_bipush (v := (12 : Int32)) hx hb dX9_sale_17 (by decide) ?_
      refine lv_icmp_le (tgt := 30) hx hb dX9_sale_19 (by decide) (fun cn => ?_) (fun cn => ?_)
      · have hf := (if_pos cn).symm.trans hf
        refine lv_iload_n hx hb dX9_sale_30 rfl (lv_at hl 2 rfl) ?_
        refine lv_bipush (v := (12 : Int32)) hx hb dX9_sale_31 (by decide) ?_
        refine lv_icmp_ne (tgt := 47) hx hb dX9_sale_33 (by decide) (fun cn => ?_) (fun cn => ?_)
        · have hf := (if_neg cn).symm.trans hf
          refine lv_aload_n hx hb dX9_sale_47 rfl (lv_at hl 0 rfl) ?_
          refine pg_gR C hH fl_X9_19 hf dX9_sale_48 (fun v48 hf => ?_)
          refine pg_gR C hH fl_X9_114 hf dX9_sale_51 (fun v51 hf => ?_)
          refine lv_iload_n hx hb dX9_sale_54 rfl (lv_at hl 1 rfl) ?_
          refine pg_aR C hH (Or.inr rfl) hf dX9_sale_55 (fun v55 hf => ?_)
          refine lv_iload_n hx hb dX9_sale_56 rfl (lv_at hl 2 rfl) ?_
          refine pg_aI C hH hf dX9_sale_57 (fun v57 hf => ?_)
          exact fin hH hf dX9_sale_58
        · have hf := (if_pos cn).symm.trans hf
          refine lv_aload_n hx hb dX9_sale_36 rfl (lv_at hl 0 rfl) ?_
          refine pg_gR C hH fl_X9_19 hf dX9_sale_37 (fun v37 hf => ?_)
          refine lv_iload_n hx hb dX9_sale_40 rfl (lv_at hl 1 rfl) ?_
          refine pg_Vi (As := [.int x1]) C hH mi_X8_levelOf vl_X9_111 (q := (RX8, TX8, 8)) (ci := 8) rfl rfl hf (fun _ e1 => (oO_sp e1).1) (fun _ _ e1 => c_X8_levelOf e1) rfl rfl hl.1 (Nat.le_of_ble_eq_true rfl) ⟨Nat.le_of_ble_eq_true rfl, Nat.le_of_ble_eq_true rfl⟩ ⟨Nat.zero_le _, Nat.zero_le _⟩ dX9_sale_41 (fun H locs v41 h41 hH hf => ?_)
          refine lv_goto (tgt := 58) hx hb dX9_sale_44 (by decide) ?_
          exact fin hH hf dX9_sale_58
      · have hf := (if_neg cn).symm.trans hf
        exact wX9_sale_22 hlt C hxg htab hH hf hl.1
/-- what the law's sale() leaves -/
def lsP (ro : Option Int32) (h6 : PH) (a3 : Nat) (r : Int32) (u : PH) : Prop := (ro = none ∧ r = 1 ∧ grown h6 u) ∨ ∃ v, ro = some v ∧ r = 0 ∧ sL h6 a3 0 (Int32.toInt64 v) = some u
set_option maxHeartbeats 4000000 in
set_option maxRecDepth 100000 in
theorem c_L_sale {h : PH} {a0 a3 : Nat} {x1 x2 : Int32} {ro : Option Int32} {h6 : PH} (hlt : l.stackTraces = false) (hf : mX9_sale h a0 x1 x2 = some (ro, h6)) (hs : ∀ v, ro = some v → ∃ h7, sL h6 a3 0 (Int32.toInt64 v) = some h7) : Met l yL_sale (Cond.codeWith yL_sale cL_sale 5 (some .int) [(0, 10, 13, 13)] :: TB) (rmD 7 1 6) (PcX g [.ref (gB g + a0), .int x1, .int x2, .ref (gB g + a3)] h) (va_Qi (lsP ro h6 a3) (fun u t => ar g u t) (aB g)) 1 6 (aB g) := by
  refine va_MetW (cc := cL_sale) (maxL := 5) (ret := some .int) (hh := [(0, 10, 13, 13)]) (by decide) rfl ?_
  intro p e s m args below meth c s₁ B hml hv
  obtain ⟨rfl, ⟨hH0, hkk0⟩, hxg⟩ := hv
  have C : CT g RL cL_sale 5 (Cond.codeWith yL_sale cL_sale 5 (some .int) [(0, 10, 13, 13)] :: TB) p s m _ meth c := ⟨⟨B.exec, B.bytes, hml, findClass_of_methodNamed B.named, atoms_spec (ws := Cond.codeWith yL_sale cL_sale 5 (some .int) [(0, 10, 13, 13)] :: TB) B.pre⟩, fun w hw => List.mem_cons_of_mem _ hw, B.notSynchronized, hkk0, by rw [hH0.1]; exact Nat.le_add_right _ _⟩
  have hr := B.returns
  have hH : HS g s s.heap [] h := ⟨hH0, va_S.rf⟩
  have hl := lv_entry ([.ref (gB g + a0), .int x1, .int x2, .ref (gB g + a3)]) (n := 5) (Nat.le_of_ble_eq_true rfl)
  rw [lg_entry_eq]
  generalize (lg_sl ([.ref (gB g + a0), .int x1, .int x2, .ref (gB g + a3)]) ++ List.replicate (5 - (lg_sl ([.ref (gB g + a0), .int x1, .int x2, .ref (gB g + a3)])).length) Slot.unset).toArray = ls at hl ⊢
  have hl : lv_has ls 5 [(0, .ref (gB g + a0)), (1, .int x1), (2, .int x2), (3, .ref (gB g + a3))] := hl
  show W p l e (rmD 7 1 6) _ _ _ _ _ _ _ _ _ _ _ _
  obtain ⟨⟨hx, hb, hml, hown, hts⟩, htb, hlk, hkk, hbs⟩ := id C
  have htab : c.exceptionTable.toList = tableOf [(0, 10, 13, 13)] := vx_table (x := yL_sale) B (hts _ List.mem_cons_self)
  have fin : ∀ {H : Heap} {locs : List Loc} {ls : Array Slot} {pc : Nat} {v : Int32} {h1 : PH}, HS g s H locs h1 → lsP ro h6 a3 v h1 → decode cL_sale pc = .ok (.ireturn, 1) → W p l e (rmD 7 1 6) s m #[.ref (gB g + a0), .int x1, .int x2, .ref (gB g + a3)] below meth c H locs 1 6 (MQ below (va_Qi (lsP ro h6 a3) (fun u t => ar g u t) (aB g)) #[.ref (gB g + a0), .int x1, .int x2, .ref (gB g + a3)] s 1 6 (aB g)) (F0 m pc ls [.int v]) := by
    intro H locs ls pc v h1 hH hq hdg
    exact W.iret (v := v) hx hb hr (fun t ht hW => ⟨⟨v, h1, rfl, hq, by rw [ht]; exact hH.1, kk_end hkk hH.2 ht hW⟩, hH.2.F ht⟩) hH.2.2.2 hdg hlk
  refine lv_aload_n hx hb dL_sale_0 rfl (lv_at hl 3 rfl) ?_
  refine lv_iconst (v := (0 : Int32)) hx hb dL_sale_1 (by decide) ?_
  refine lv_aload_n hx hb dL_sale_2 rfl (lv_at hl 0 rfl) ?_
  refine lv_iload_n hx hb dL_sale_3 rfl (lv_at hl 1 rfl) ?_
  refine lv_iload_n hx hb dL_sale_4 rfl (lv_at hl 2 rfl) ?_
  refine vx_calli (vx_runV (As := [.int x1, .int x2]) (rest := [.int (0 : Int32), .ref (gB g + a3)]) (b := gB g + a0) C.fix (c_X9_sale hlt hf) (cwV 2 C.1.2.2.2.2 (goodV C mi_X9_sale vl_L_7) rfl rfl rfl ⟨rfl, mi_X9_sale.2.2.1.1, mi_X9_sale.2.2.1.2, mi_X9_sale.2.2.2⟩ ⟨Nat.le_of_ble_eq_true rfl, Nat.le_of_ble_eq_true rfl⟩) ⟨PcX_blind, pg_recv (q := (RX9, TX9, 11)) C hH (oO_sp hf).1 rfl, fun U hU hW => ⟨rfl, ⟨by rw [hU]; exact hH.1, kk_end hkk hH.2 hU hW⟩, xg.moved hW (fun a h1 h2 => by rw [hU]) hxg⟩⟩ rfl rfl hl.1 rfl (lv_room (Nat.le_of_ble_eq_true rfl)) dL_sale_5 ⟨Nat.le_of_ble_eq_true rfl, Nat.le_of_ble_eq_true rfl⟩) hH.2 (fun _ _ h => h) (fun _ h => h) (fun _ _ h => h) (fun E ce q9 u t H1 locs1 ht hal hpx hBX hz hk hS hcell hvm hcl => ?_) (fun r u t H1 locs1 ht hal hw hB hz hk hS => ?_)
  · obtain ⟨hro, hgr⟩ := hpx
    obtain ⟨rfl, hhu⟩ := hBX
    have hH1 : HS g s H1 locs1 u := ⟨by rw [← ht]; exact hhu, hS⟩
    refine vx_catch (name := NSE) hown [] ⟨0, 10, 13, 13⟩ [] (by rw [htab]; rfl) (fun z hz => by cases hz) (by decide) (by decide) (hts _ (htb _ cl_L_13)) (va_Nw.use rfl hxg.2.2) hcell hvm hcl ?_
    refine W.widen (k := 1) (n := 6) (Nat.le_of_ble_eq_true rfl) (Nat.le_of_ble_eq_true rfl) ?_
    refine lv_astore (lv' := [(4, .ref q9), (0, .ref (gB g + a0)), (1, .int x1), (2, .int x2), (3, .ref (gB g + a3))]) hx hb dL_sale_13 hl (by decide) rfl (fun ls hl => ?_)
    refine lv_iconst (v := (1 : Int32)) hx hb dL_sale_15 (by decide) ?_
    exact fin hH1 (Or.inl ⟨hro, rfl, hgr⟩) dL_sale_16
  · obtain ⟨hro, rfl⟩ := hw
    have hH1 : HS g s H1 locs1 u := HS.after ht hB.1 hS
    obtain ⟨h7, e7⟩ := hs r hro
    refine W.widen (k := 1) (n := 6) (Nat.le_of_ble_eq_true rfl) (Nat.le_of_ble_eq_true rfl) ?_
    refine lv_i2l (v := Int32.toInt64 r) hx hb dL_sale_8 rfl ?_
    refine pg_sL (kf := fun h => some h) (r := h7) C hH1 (by rw [e7]; rfl) dL_sale_9 (fun H locs h2 hH hf => ?_)
    cases hf
    refine lv_goto (tgt := 17) hx hb dL_sale_10 (by decide) ?_
    refine lv_iconst (v := (0 : Int32)) hx hb dL_sale_17 (by decide) ?_
    exact fin hH (Or.inr ⟨r, hro, rfl, e7⟩) dL_sale_18
end SX
