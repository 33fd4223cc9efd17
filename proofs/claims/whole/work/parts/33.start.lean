/-! ===== 33: what the Statement gives at the start ===== -/
def FLt : List Cond := flatC (Jvm.Cond.and given_1 narrow_1)
def stm (i : Nat) : Term := .string (strT.getD i ("", 0, "")).1 (strT.getD i ("", 0, "")).2.1
theorem fs_ex : ∀ i, i < 7 → Cond.exactly (stm i) "java/lang/String" ∈ FLt := by decide +kernel
theorem fs_co : ∀ i, i < 7 → Cond.eq (.field (stm i) "java/lang/String" "coder" "B") (.int 0) ∈ FLt := by decide +kernel
theorem fs_ar : ∀ i, i < 7 → Cond.arrayOf (.field (stm i) "java/lang/String" "value" "[B") .byte ∈ FLt := by decide +kernel
theorem fs_le : ∀ i, i < 7 → Cond.eq (.length (.field (stm i) "java/lang/String" "value" "[B")) (.int (Int32.ofNat (strL.getD i 0))) ∈ FLt := by decide +kernel
theorem fs_el0 : ∀ j, j < 67 → FLt[65 + j]? = some (Cond.eq (.elem (.field (stm 0) "java/lang/String" "value" "[B") (.int (Int32.ofNat j))) (.int ((strB.getD 0 []).getD j 0))) := by decide +kernel
theorem fs_el1 : ∀ j, j < 64 → FLt[136 + j]? = some (Cond.eq (.elem (.field (stm 1) "java/lang/String" "value" "[B") (.int (Int32.ofNat j))) (.int ((strB.getD 1 []).getD j 0))) := by decide +kernel
theorem fs_el2 : ∀ j, j < 38 → FLt[205 + j]? = some (Cond.eq (.elem (.field (stm 2) "java/lang/String" "value" "[B") (.int (Int32.ofNat j))) (.int ((strB.getD 2 []).getD j 0))) := by decide +kernel
theorem fs_el3 : ∀ j, j < 9 → FLt[249 + j]? = some (Cond.eq (.elem (.field (stm 3) "java/lang/String" "value" "[B") (.int (Int32.ofNat j))) (.int ((strB.getD 3 []).getD j 0))) := by decide +kernel
theorem fs_el4 : ∀ j, j < 4 → FLt[265 + j]? = some (Cond.eq (.elem (.field (stm 4) "java/lang/String" "value" "[B") (.int (Int32.ofNat j))) (.int ((strB.getD 4 []).getD j 0))) := by decide +kernel
theorem fs_el5 : ∀ j, j < 7 → FLt[277 + j]? = some (Cond.eq (.elem (.field (stm 5) "java/lang/String" "value" "[B") (.int (Int32.ofNat j))) (.int ((strB.getD 5 []).getD j 0))) := by decide +kernel
theorem fs_el6 : ∀ j, j < 3 → FLt[293 + j]? = some (Cond.eq (.elem (.field (stm 6) "java/lang/String" "value" "[B") (.int (Int32.ofNat j))) (.int ((strB.getD 6 []).getD j 0))) := by decide +kernel
theorem fs_el : ∀ i, i < 7 → ∀ j, j < strL.getD i 0 → Cond.eq (.elem (.field (stm i) "java/lang/String" "value" "[B") (.int (Int32.ofNat j))) (.int ((strB.getD i []).getD j 0)) ∈ FLt := by
  intro i hi j hj
  match i, hi, hj with
  | 0, _, hj => exact List.mem_of_getElem? (fs_el0 j hj)
  | 1, _, hj => exact List.mem_of_getElem? (fs_el1 j hj)
  | 2, _, hj => exact List.mem_of_getElem? (fs_el2 j hj)
  | 3, _, hj => exact List.mem_of_getElem? (fs_el3 j hj)
  | 4, _, hj => exact List.mem_of_getElem? (fs_el4 j hj)
  | 5, _, hj => exact List.mem_of_getElem? (fs_el5 j hj)
  | 6, _, hj => exact List.mem_of_getElem? (fs_el6 j hj)
  | i + 7, hi, _ => exact absurd hi (by omega)
theorem fs_ne : ∀ i, i < 7 → ∀ j, j < 7 → i ≠ j → (Cond.not (Cond.eq (stm i) (stm j)) ∈ FLt ∨ Cond.not (Cond.eq (stm j) (stm i)) ∈ FLt) := by decide +kernel
theorem fs_tx : ∀ i, i < 7 → Cond.stringRef (strT.getD i ("", 0, "")).1 (strT.getD i ("", 0, "")).2.1 (strT.getD i ("", 0, "")).2.2 ∈ lw_tbl := by decide +kernel
def sta (i : Nat) : Term := .static RX9 (stab.getD i ("", 0, fun _ => 0)).1 "[I"
theorem ft_ar : ∀ i, i < 5 → Cond.arrayOf (sta i) .int ∈ FLt := by decide +kernel
theorem ft_le : ∀ i, i < 5 → Cond.eq (.length (sta i)) (.int (Int32.ofNat (stab.getD i ("", 0, fun _ => 0)).2.1)) ∈ FLt := by decide +kernel
theorem ft_el : ∀ i, i < 5 → ∀ j, j < (stab.getD i ("", 0, fun _ => 0)).2.1 → Cond.eq (.elem (sta i) (.int (Int32.ofNat j))) (.int ((stab.getD i ("", 0, fun _ => 0)).2.2 j)) ∈ FLt := by decide +kernel
theorem ft_ly : ∀ i, i < 5 → Cond.laysStatic RX9 (stab.getD i ("", 0, fun _ => 0)).1 "[I" ∈ lw_tbl := by decide +kernel
theorem ft_n : ∀ i, i < 5 → (stab.getD i ("", 0, fun _ => 0)).2.1 < 2 ^ 31 := by decide +kernel
theorem fn_F : ∀ q ∈ nestF, Cond.fieldLinkNest q.1 q.2.1 RX9 q.2.2 "[I" RX9 ∈ lw_tbl := by decide +kernel
theorem fn_M : ∀ q ∈ nestM, Cond.methodLinkNest q.1 q.2.1 q.2.2 RX9 ∈ lw_tbl := by decide +kernel
theorem fn_D : ∀ x ∈ exD, Cond.declares x ∈ lw_tbl := by decide +kernel
theorem fm_c : Cond.castable NSE NSE ∈ lw_tbl := by decide +kernel
theorem fz_c : Cond.eq (.static "java/lang/String" "COMPACT_STRINGS" "Z") (.int 1) ∈ FLt := by decide +kernel
theorem fz_s : Cond.isRef (.static "jdk/internal/util/Preconditions" "SIOOBE_FORMATTER" "Ljava/util/function/BiFunction;") ∈ FLt := by decide +kernel
theorem fz_u : Cond.isRef (.static Bundle.tN "UNASSIGNED_STACK" Bundle.steD) ∈ FLt := by decide +kernel
theorem fz_p : Cond.isRef (.static Bundle.tN "SUPPRESSED_SENTINEL" Bundle.listD) ∈ FLt := by decide +kernel
set_option maxHeartbeats 4000000 in
set_option maxRecDepth 100000 in
theorem kk_start {s : State} {args : Array Value} (hts : ∀ w ∈ lw_tbl, w.before args s = true) (hgv : (Jvm.Cond.and given_1 narrow_1).before args s = true) : ∃ g : GD, gB g = s.heap.size ∧ kk g s ∧ xg g s := by
  have hN : ∀ w ∈ FLt, w.before args s = true := flat_of_before _ hgv
  have hA : ∀ a : Nat, a < s.heap.size → ¬ (fun a => s.heap.size ≤ a) a := fun a h => Nat.not_le.mpr h
  have hT : ∀ w ∈ TB, w.before args s = true := fun w hw => hts w (List.mem_filter.mp hw).1
  obtain ⟨c0, i0, k0⟩ := u_known (C := RX0) (T := TX0) (N := 3) (n := 3) hT tbX0 (hts (.instantiable RX0 3) (List.mem_of_getElem? (i := 464) (by decide +kernel)))
  obtain ⟨c1, i1, k1⟩ := u_known (C := RX1) (T := TX1) (N := 11) (n := 11) hT tbX1 (hts (.instantiable RX1 11) (List.mem_of_getElem? (i := 394) (by decide +kernel)))
  obtain ⟨c2, i2, k2⟩ := u_known (C := RX2) (T := TX2) (N := 8) (n := 8) hT tbX2 (hts (.instantiable RX2 8) (List.mem_of_getElem? (i := 355) (by decide +kernel)))
  obtain ⟨c3, i3, k3⟩ := u_known (C := RX3) (T := TX3) (N := 2) (n := 2) hT tbX3 (hts (.instantiable RX3 2) (List.mem_of_getElem? (i := 482) (by decide +kernel)))
  obtain ⟨c4, i4, k4⟩ := u_known (C := RX4) (T := TX4) (N := 8) (n := 8) hT tbX4 (hts (.instantiable RX4 8) (List.mem_of_getElem? (i := 233) (by decide +kernel)))
  obtain ⟨c5, i5, k5⟩ := u_known (C := RX5) (T := TX5) (N := 5) (n := 5) hT tbX5 (hts (.instantiable RX5 5) (List.mem_of_getElem? (i := 442) (by decide +kernel)))
  obtain ⟨c6, i6, k6⟩ := u_known (C := RX6) (T := TX6) (N := 2) (n := 2) hT tbX6 (hts (.instantiable RX6 2) (List.mem_of_getElem? (i := 144) (by decide +kernel)))
  obtain ⟨c7, i7, k7⟩ := u_known (C := RX7) (T := TX7) (N := 8) (n := 8) hT tbX7 (hts (.instantiable RX7 8) (List.mem_of_getElem? (i := 239) (by decide +kernel)))
  obtain ⟨c8, i8, k8⟩ := u_known (C := RX8) (T := TX8) (N := 8) (n := 8) hT tbX8 (hts (.instantiable RX8 8) (List.mem_of_getElem? (i := 160) (by decide +kernel)))
  obtain ⟨c9, i9, k9⟩ := u_known (C := RX9) (T := TX9) (N := 11) (n := 11) hT tbX9 (hts (.instantiable RX9 11) (List.mem_of_getElem? (i := 136) (by decide +kernel)))
  obtain ⟨c10, i10, k10⟩ := u_known (C := RX10) (T := TX10) (N := 34) (n := 34) hT tbX10 (hts (.instantiable RX10 34) (List.mem_of_getElem? (i := 1154) (by decide +kernel)))
  obtain ⟨dC, dI, hKc⟩ : ∃ (dC : Nat → ClassId) (dI : Nat → Nat → Nat), ∀ (k : Nat) (q : vw_C), vwCl[k]? = some q → u_Kn s q.1 q.2.1 q.2.2 (dC k) (dI k) := by
    refine ⟨fun k => match k with | 0 => c0 | 1 => c1 | 2 => c2 | 3 => c3 | 4 => c4 | 5 => c5 | 6 => c6 | 7 => c7 | 8 => c8 | 9 => c9 | _ => c10, fun k => match k with | 0 => i0 | 1 => i1 | 2 => i2 | 3 => i3 | 4 => i4 | 5 => i5 | 6 => i6 | 7 => i7 | 8 => i8 | 9 => i9 | _ => i10, ?_⟩
    intro k q hq
    match k, hq with
    | 0, hq => cases hq; exact k0
    | 1, hq => cases hq; exact k1
    | 2, hq => cases hq; exact k2
    | 3, hq => cases hq; exact k3
    | 4, hq => cases hq; exact k4
    | 5, hq => cases hq; exact k5
    | 6, hq => cases hq; exact k6
    | 7, hq => cases hq; exact k7
    | 8, hq => cases hq; exact k8
    | 9, hq => cases hq; exact k9
    | 10, hq => cases hq; exact k10
    | k + 11, hq => simp [vwCl] at hq
  obtain ⟨a0, y0, m0, f0, g0, w0⟩ := Cond.arrayClass_spec (hts (.arrayClass .int) (List.mem_of_getElem? (i := 229) (by decide +kernel)))
  obtain ⟨a1, y1, m1, f1, g1, w1⟩ := Cond.arrayClass_spec (hts (.arrayClass .long) (List.mem_of_getElem? (i := 230) (by decide +kernel)))
  obtain ⟨a2, y2, m2, f2, g2, w2⟩ := Cond.arrayClass_spec (hts (.arrayClass .byte) (List.mem_of_getElem? (i := 158) (by decide +kernel)))
  obtain ⟨a3, y3, m3, f3, g3, w3⟩ := Cond.arrayClass_spec (hts (.arrayClass .boolean) (List.mem_of_getElem? (i := 392) (by decide +kernel)))
  have o4 := hts (.arrayOver (.object RX8)) (List.mem_of_getElem? (i := 231) (by decide +kernel))
  have o5 := hts (.arrayOver (.array .int)) (List.mem_of_getElem? (i := 166) (by decide +kernel))
  obtain ⟨m4, a4, y4, q4, -, g4, w4, f4⟩ := Cond.arrayOver_spec o4
  obtain ⟨m5, a5, y5, q5, -, g5, w5, f5⟩ := arrayOverA_spec o5
  have hst : ∀ i : Nat, ∃ t : Nat, i < 5 → (sta i).eval args s none [] s = some (.ref t) ∧ va_T .int t (stab.getD i ("", 0, fun _ => 0)).2.1 (fun j => .int ((stab.getD i ("", 0, fun _ => 0)).2.2 j)) (fun a => s.heap.size ≤ a) s s.heap := by
    intro i
    by_cases hi : i < 5
    · obtain ⟨t, h1, h2⟩ := va_Tof (tm := sta i) (ty := .int) (N := (stab.getD i ("", 0, fun _ => 0)).2.1) (f := fun j => .int ((stab.getD i ("", 0, fun _ => 0)).2.2 j)) (A := fun a => s.heap.size ≤ a) (ft_n i hi) (hN _ (ft_ar i hi)) (va_eqt (hN _ (ft_le i hi))) (fun j hj => va_eqt (hN _ (ft_el i hi j hj))) hA
      exact ⟨t, fun _ => ⟨h1, h2⟩⟩
    · exact ⟨0, fun h => absurd h hi⟩
  obtain ⟨sa, hsa⟩ := Classical.axiomOfChoice hst
  obtain ⟨adK, adV, hS, hE⟩ := vk_Sof (tm := stm) (N := 7) (len := strL) (byt := strB) (A := fun a => s.heap.size ≤ a) (fun i hi => (sl_all i hi).2) (fun i hi => hN _ (fs_ex i hi)) (fun i hi => hN _ (fs_co i hi)) (fun i hi => hN _ (fs_ar i hi)) (fun i hi => hN _ (fs_le i hi)) (fun i hi j hj => hN _ (fs_el i hi j hj)) (fun i j hi hj hij => (fs_ne i hi j hj hij).imp (hN _) (hN _)) hA
  refine ⟨((dC, dI), fun t => match t with | 0 => a0 | 1 => a1 | 2 => a2 | 3 => a3 | 4 => a4 | _ => a5, s.heap.size, sa, adK, adV), rfl, ⟨⟨hKc, ?_⟩, ?_, ⟨fun q hq => va_Nw.of rfl (hts _ (fn_F q hq)), fun q hq => va_Nw.of rfl (hts _ (fn_M q hq))⟩, ⟨va_AO.of o4, over_moved (a' := #[]) (Vm.Alike.refl s.vm) o5⟩, hS, ?_, va_Zof (hts _ (List.mem_of_getElem? (i := 258) (by decide +kernel))) (hts _ (List.mem_of_getElem? (i := 119) (by decide +kernel))) (va_eqi (hN _ fz_c)) hA, va_Zqof (hts _ (List.mem_of_getElem? (i := 274) (by decide +kernel))) (hts _ (List.mem_of_getElem? (i := 121) (by decide +kernel))) (hN _ fz_s) hA⟩, ⟨vx_Zqof (hts _ (List.mem_of_getElem? (i := 1114) (by decide +kernel))) (hts _ (List.mem_of_getElem? (i := 131) (by decide +kernel))) (hN _ fz_u) hA, vx_Zqof (hts _ (List.mem_of_getElem? (i := 1116) (by decide +kernel))) (hts _ (List.mem_of_getElem? (i := 131) (by decide +kernel))) (hN _ fz_p) hA⟩, fun x hx => va_Nw.of rfl (hts _ (fn_D x hx)), va_Nw.of rfl (hts _ fm_c)⟩
  · intro k q hk
    match k, hk with
    | 0, hk => cases hk; exact ⟨fun n z => ⟨fun _ h => (by cases h), y0, g0, m0, w0⟩, f0⟩
    | 1, hk => cases hk; exact ⟨fun n z => ⟨fun _ h => (by cases h), y1, g1, m1, w1⟩, f1⟩
    | 2, hk => cases hk; exact ⟨fun n z => ⟨fun _ h => (by cases h), y2, g2, m2, w2⟩, f2⟩
    | 3, hk => cases hk; exact ⟨fun n z => ⟨fun _ h => (by cases h), y3, g3, m3, w3⟩, f3⟩
    | 4, hk => cases hk; exact ⟨fun n z => ⟨fun _ h => (by cases h), y4, g4, m4, w4⟩, y4, m4, g4, w4, q4, f4⟩
    | 5, hk => cases hk; exact ⟨fun n z => ⟨fun _ h => (by cases h), y5, g5, m5, w5⟩, f5⟩
    | k + 6, hk => simp [tys] at hk
  · intro i q hi
    have h5 : i < 5 := (List.getElem?_eq_some_iff.mp hi).1
    have hq : stab.getD i ("", 0, fun _ => 0) = q := by rw [List.getD_eq_getElem?_getD, hi]; rfl
    obtain ⟨h1, h2⟩ := hsa i h5
    have hl := hts _ (ft_ly i h5)
    unfold sta at h1
    rw [hq] at h1 h2 hl
    exact ⟨va_Zof hl (hts _ (List.mem_of_getElem? (i := 113) (by decide +kernel))) h1 hA, h2⟩
  · intro i q hi
    have h7 : i < 7 := (List.getElem?_eq_some_iff.mp hi).1
    have hq : strT.getD i ("", 0, "") = q := by rw [List.getD_eq_getElem?_getD, hi]; rfl
    have h1 := hts _ (fs_tx i h7)
    have h2 := hE i h7
    unfold stm at h2
    rw [hq] at h1 h2
    exact vk_R.of h1 h2

theorem no_trace {l : Launch} (h : l.flags = flags0) : l.stackTraces = false := by
  unfold Launch.stackTraces
  rw [h]
  decide +kernel
/-- THE CLAIM OUT OF THE PURE PROGRAM ALONE -/
theorem whole_pure {Inv : PH → Prop} {X M O : Nat} {hC : PH} (S : SIMS Inv X M O) (hf : mL_start = some (X, M, O, hC)) (hI : Inv hC) {p : Program} {e : Env} {s : State} {m : MethodId} {below : List Frame} {meth : Method} {c : Code} (l : Launch) (hflags : l.flags = flags0) {b L : Nat} {xs : Nat → Int32} (hL : L ≤ 3072) (C0 : lw_At p s m meth c b L xs) : W p l e room_1 s m #[Value.ref b] below meth c s.heap [] 0 0 (lw_Z below #[Value.ref b] s) (entryFrame m ([Value.ref b] : List Value).toArray 7) := by
  obtain ⟨hx, hb, hr, hml, hown, hts, hX, hbl, hlocks, hgv⟩ := C0
  obtain ⟨g, hB, hkk, hxg⟩ := kk_start hts hgv
  exact law_start hL ⟨⟨hx, hb, hml, hown, hts⟩, fun w hw => (List.mem_filter.mp hw).1, hlocks, hkk, by rw [hB]; exact Nat.le_refl _⟩ hr hX hbl hB hxg (no_trace hflags) S hf hI
