/-! ===== 32: sale() in the law, the loop, the start ===== -/
def SIM_sale (Inv : PH → Prop) (X M O : Nat) : Prop := ∀ (h : PH) (c1 c2 : Int32), Inv h → ∃ (ro : Option Int32) (h6 : PH), mX9_sale h X c1 c2 = some (ro, h6) ∧ (∀ v, ro = some v → ∃ h7, sL h6 O 0 (Int32.toInt64 v) = some h7) ∧ ∀ (r : Int32) (u : PH), lsP ro h6 O r u → ∃ (bv : Int32) (h7 : PH), mX10_sale u M c1 c2 = some (bv, h7) ∧ mX10_thrown h7 M = some (r, h7) ∧ (r = 0 → aL h7 O 0 = some (Int32.toInt64 bv)) ∧ Inv h7
def SIMS (Inv : PH → Prop) (X M O : Nat) : Prop := SIM_feed Inv X M ∧ SIM_text Inv X M ∧ SIM_count Inv X M ∧ SIM_sale Inv X M O ∧ SIM_resold Inv X M ∧ SIM_kin Inv X M ∧ SIM_like Inv X M ∧ SIM_band Inv X M ∧ SIM_assist Inv X M ∧ SIM_share Inv X M ∧ SIM_rest Inv X M ∧ SIM_own Inv X M ∧ SIM_by Inv X M ∧ SIM_base Inv X M ∧ SIM_worth Inv X M ∧ SIM_method Inv X M ∧ SIM_why Inv X M ∧ SIM_test Inv X M ∧ SIM_passes Inv X M ∧ SIM_prices Inv X M ∧ SIM_needs Inv X M ∧ SIM_rests Inv X M ∧ SIM_turned Inv X M ∧ SIM_due Inv X M ∧ SIM_dues Inv X M ∧ SIM_all Inv X M ∧ SIM_report Inv X M ∧ SIM_price Inv X M ∧ SIM_bind Inv X M ∧ SIM_relate Inv X M ∧ SIM_rule Inv X M ∧ SIM_turn Inv X M ∧ SIM_resell Inv X M ∧ SIM_spread Inv X M ∧ SIM_lessen Inv X M ∧ SIM_undo Inv X M ∧ SIM_keep Inv X M
theorem mi_X10_sale : MI yX10_sale cX10_sale 3 2 (some .int) := ⟨TB_mem 1438 (by decide +kernel) rfl, TB_mem 128 (by decide +kernel) rfl, ⟨by decide +kernel, by decide +kernel⟩, by decide +kernel⟩
theorem mi_X10_thrown : MI yX10_thrown cX10_thrown 1 0 (some .int) := ⟨TB_mem 1152 (by decide +kernel) rfl, TB_mem 128 (by decide +kernel) rfl, ⟨by decide +kernel, by decide +kernel⟩, by decide +kernel⟩
theorem vl_L_38 : VL RL 38 yX10_sale := ⟨TB_mem 1435 (by decide +kernel) rfl, TB_mem 1436 (by decide +kernel) rfl, TB_mem 1437 (by decide +kernel) rfl⟩
theorem vl_L_39 : VL RL 39 yX10_thrown := ⟨TB_mem 1149 (by decide +kernel) rfl, TB_mem 1150 (by decide +kernel) rfl, TB_mem 1151 (by decide +kernel) rfl⟩
theorem ls_words : ∀ w ∈ va_wsS RL 33 yL_sale (Cond.codeWith yL_sale cL_sale 5 (some .int) [(0, 10, 13, 13)] :: TB), w ∈ TB := by
  intro w hw
  simp only [va_wsS, List.mem_append, List.mem_cons, List.not_mem_nil, or_false] at hw
  rcases hw with (h1 | h1 | h1) | h1 | h1
  · rw [h1]; exact TB_mem 1079 (by decide +kernel) rfl
  · rw [h1]; exact TB_mem 1080 (by decide +kernel) rfl
  · rw [h1]; exact TB_mem 112 (by decide +kernel) rfl
  · rw [h1]; exact TB_mem 1081 (by decide +kernel) rfl
  · exact h1
section LP
variable {p : Program} {l : Launch} {e : Env} {s : State} {m : MethodId} {below : List Frame} {meth : Method} {c : Code} {g : GD} {b L : Nat} {xs : Nat → Int32} {Inv : PH → Prop} {X M O : Nat}
set_option maxHeartbeats 4000000 in
set_option maxRecDepth 100000 in
theorem lk_3 {x4 : Int32} (C : CT g RL cL_law 7 lw_tbl p s m #[.ref b] meth c) (hX : va_X b L xs s s.heap) (hbl : b < s.heap.size) (hbA : ¬ gB g ≤ b) (hin : ∀ k : Int32, 0 ≤ k.toInt → k.toInt < 6 → vp_in (x4 + k) L) (hxg : xg g s) (hlt : l.stackTraces = false) (S : SIM_sale Inv X M O) {cells slots : Nat} (hcs : cells + 1 ≤ room_1.cells ∧ slots + 6 ≤ room_1.slots) (K : ∀ {h : PH} {H : Heap} {locs : List Loc} {ls : Array Slot}, Inv h → HS g s H locs h → lv_has ls 7 [(0, .ref b), (1, .ref (gB g + X)), (2, .ref (gB g + M)), (3, .ref (gB g + O)), (4, .int x4)] → W p l e room_1 s m #[.ref b] below meth c H locs (cells + 1) (slots + 6) (lw_Z below #[.ref b] s) (F0 m 1503 ls [])) {h : PH} {H : Heap} {locs : List Loc} {ls : Array Slot} (hI : Inv h) (hH : HS g s H locs h) (hl : lv_has ls 7 [(0, .ref b), (1, .ref (gB g + X)), (2, .ref (gB g + M)), (3, .ref (gB g + O)), (4, .int x4)]) : W p l e room_1 s m #[.ref b] below meth c H locs cells slots (lw_Z below #[.ref b] s) (F0 m 327 ls []) := by
  obtain ⟨⟨hx, hb, hml, hown, hts⟩, htb, hlk, hkk, hbs⟩ := id C
  obtain ⟨ro, h6, e1, es, eu⟩ := S h (xs (x4 + (1 : Int32)).toNatClampNeg) (xs (x4 + (2 : Int32)).toNatClampNeg) hI
  refine lv_aload_n hx hb dL_law_327 rfl (lv_at hl 1 rfl) ?_
  refine lv_aload_n hx hb dL_law_328 rfl (lv_at hl 0 rfl) ?_
  refine lv_iload hx hb dL_law_329 (lv_at hl 4 rfl) ?_
  refine lv_iconst (v := (1 : Int32)) hx hb dL_law_331 (by decide) ?_
  refine lv_iadd hx hb dL_law_332 ?_
  refine va_sld hx hb hX hbl hbA hH.2 (hin (1 : Int32) (by decide) (by decide)) dL_law_333 ?_
  refine lv_aload_n hx hb dL_law_334 rfl (lv_at hl 0 rfl) ?_
  refine lv_iload hx hb dL_law_335 (lv_at hl 4 rfl) ?_
  refine lv_iconst (v := (2 : Int32)) hx hb dL_law_337 (by decide) ?_
  refine lv_iadd hx hb dL_law_338 ?_
  refine va_sld hx hb hX hbl hbA hH.2 (hin (2 : Int32) (by decide) (by decide)) dL_law_339 ?_
  refine lv_aload_n hx hb dL_law_340 rfl (lv_at hl 3 rfl) ?_
  refine va_calli (vx_runSW (As := [.ref (gB g + X), .int (xs (x4 + (1 : Int32)).toNatClampNeg), .int (xs (x4 + (2 : Int32)).toNatClampNeg), .ref (gB g + O)]) (rest := []) C.fix (c_L_sale hlt e1 es) (vx_cwSW 4 hts (TB_goodIn htb ls_words) rfl rfl rfl ⟨by decide +kernel, by decide +kernel, by decide +kernel⟩ ⟨Nat.le_of_ble_eq_true rfl, Nat.le_of_ble_eq_true rfl⟩) ⟨PcX_blind, fun U hU hW => ⟨rfl, ⟨by rw [hU]; exact hH.1, kk_end hkk hH.2 hU hW⟩, xg.moved hW (fun a h1 h2 => by rw [hU]; exact hH.2.2.1 a h1 h2) hxg⟩⟩ rfl rfl hl.1 rfl (lv_room (Nat.le_of_ble_eq_true rfl)) dL_law_341 hcs) hH.2 (fun _ _ h => h) (fun _ h => h) (fun r u t H1 locs1 ht hvm hw hB hz1 hk1 hS => ?_)
  have hH : HS g s H1 locs1 u := HS.after ht hB.1 hS
  obtain ⟨bv, h7, e2, e3, e4, hI⟩ := eu r u hw
  refine lv_istore (lv' := [(5, .int r), (0, .ref b), (1, .ref (gB g + X)), (2, .ref (gB g + M)), (3, .ref (gB g + O)), (4, .int x4)]) hx hb dL_law_344 hl (by decide) rfl (fun ls hl => ?_)
  refine lv_aload_n hx hb dL_law_346 rfl (lv_at hl 3 rfl) ?_
  refine lv_aload_n hx hb dL_law_347 rfl (lv_at hl 1 rfl) ?_
  refine lv_iload hx hb dL_law_348 (lv_at hl 5 rfl) ?_
  refine lv_iconst (v := (1 : Int32)) hx hb dL_law_350 (by decide) ?_
  refine lv_iadd hx hb dL_law_351 ?_
  refine va_sld hx hb hX hbl hbA hH.2 (hin (1 : Int32) (by decide) (by decide)) dL_law_352 ?_
  refine lv_aload_n hx hb dL_law_353 rfl (lv_at hl 1 rfl) ?_
  refine lv_iload hx hb dL_law_354 (lv_at hl 5 rfl) ?_
  refine lv_iconst (v := (2 : Int32)) hx hb dL_law_356 (by decide) ?_
  refine lv_iadd hx hb dL_law_357 ?_
  refine va_sld hx hb hX hbl hbA hH.2 (hin (2 : Int32) (by decide) (by decide)) dL_law_358 ?_
  refine pg_Wi (As := [.int (xs (x4 + (1 : Int32)).toNatClampNeg), .int (xs (x4 + (2 : Int32)).toNatClampNeg)]) C hH mi_X10_sale vl_L_38 (q := (RX10, TX10, 34)) (ci := 10) rfl rfl (oO_sp e2).1 (c_X10_sale e2) rfl rfl hl.1 (Nat.le_of_ble_eq_true rfl) ⟨Nat.le_of_ble_eq_true rfl, Nat.le_of_ble_eq_true rfl⟩ hcs dL_law_359 (fun H locs hH => ?_)
  refine lv_istore (lv' := [(6, .int bv), (5, .int r), (0, .ref b), (1, .ref (gB g + X)), (2, .ref (gB g + M)), (3, .ref (gB g + O)), (4, .int x4)]) hx hb dL_law_362 hl (by decide) rfl (fun ls hl => ?_)
  refine lv_aload_n hx hb dL_law_364 rfl (lv_at hl 4 rfl) ?_
  refine pg_Wi (As := []) C hH mi_X10_thrown vl_L_39 (q := (RX10, TX10, 34)) (ci := 10) rfl rfl (oO_sp e3).1 (c_X10_thrown e3) rfl rfl hl.1 (Nat.le_of_ble_eq_true rfl) ⟨Nat.le_of_ble_eq_true rfl, Nat.le_of_ble_eq_true rfl⟩ hcs dL_law_365 (fun H locs hH => ?_)
  refine lv_iload hx hb dL_law_368 (lv_at hl 1 rfl) ?_
  refine lv_icmp_eq (tgt := 375) hx hb dL_law_370 (by decide) (fun cn => ?_) (fun cn => absurd rfl cn)
  refine lv_iload hx hb dL_law_375 (lv_at hl 1 rfl) ?_
  refine lv_if_ne (tgt := 392) hx hb dL_law_377 (by decide) (fun cn => ?_) (fun cn => ?_)
  · refine lv_goto (tgt := 1503) hx hb dL_law_392 (by decide) ?_
    exact K hI hH (lv_sub hl [2, 3, 4, 5, 6] rfl)
  · refine lv_aload_n hx hb dL_law_380 rfl (lv_at hl 5 rfl) ?_
    refine lv_iconst (v := (0 : Int32)) hx hb dL_law_381 (by decide) ?_
    refine pg_aL (kf := fun v => some v) (r := Int32.toInt64 bv) C hH (by rw [e4 cn]; rfl) dL_law_382 (fun v hv => ?_)
    cases hv
    refine lv_iload hx hb dL_law_383 (lv_at hl 0 rfl) ?_
    refine lv_i2l (v := Int32.toInt64 bv) hx hb dL_law_385 rfl ?_
    refine W.lcmp hx hb dL_law_386 ?_
    refine lv_if_eq (tgt := 392) hx hb dL_law_387 (by decide) (fun cn => ?_) (fun cn => absurd ((lg_cmp_eq _ _).mpr rfl) cn)
    refine lv_goto (tgt := 1503) hx hb dL_law_392 (by decide) ?_
    exact K hI hH (lv_sub hl [2, 3, 4, 5, 6] rfl)

theorem lw_cmp {L i : Nat} (hL : L ≤ 3072) (hi : i ≤ 3072) (h : ¬ (Int32.ofNat L - (6 : Int32)) < nI i) : i + 6 ≤ L := by
  have e1 : (nI L - nI 6).toInt = (L : Int) - 6 := pk_sub_toInt (by omega) (by omega)
  have e2 : (nI i).toInt = (i : Int) := nI_toInt (by omega)
  have h1 : ¬ (nI L - nI 6).toInt < (nI i).toInt := fun q => h (Int32.lt_iff_toInt_lt.mpr q)
  rw [e1, e2] at h1
  omega
set_option maxHeartbeats 8000000 in
set_option maxRecDepth 100000 in
theorem law_loop (hL : L ≤ 3072) (C : CT g RL cL_law 7 lw_tbl p s m #[.ref b] meth c) (hret : meth.sig.returnType = ret) (hX : va_X b L xs s s.heap) (hbl : b < s.heap.size) (hB : gB g = s.heap.size) (hxg : xg g s) (hlt : l.stackTraces = false) (S : SIMS Inv X M O) :
    ∀ (n j : Nat) {x4 : Int32} {h : PH} {H : Heap} {locs : List Loc} {ls : Array Slot}, 6 * j ≤ L → L < 6 * j + 6 * n → x4 = nI (6 * j) → Inv h → HS g s H locs h → lv_has ls 7 [(0, .ref b), (1, .ref (gB g + X)), (2, .ref (gB g + M)), (3, .ref (gB g + O)), (4, .int x4)] → W p l e room_1 s m #[.ref b] below meth c H locs (239 + j) (8230 + 6 * j) (lw_Z below #[.ref b] s) (F0 m 23 ls []) := by
  obtain ⟨⟨hx, hb, hml, hown, hts⟩, htb, hlk, hkk, hbs⟩ := id C
  have hbA : ¬ gB g ≤ b := by rw [hB]; exact Nat.not_le.mpr hbl
  intro n
  induction n with
  | zero =>
    intro j x4 h H locs ls h1 h2
    exact absurd h2 (by omega)
  | succ n ih =>
    intro j x4 h H locs ls hj hn ex hI hH hl
    have hcs : 239 + j + 1 ≤ room_1.cells ∧ 8230 + 6 * j + 6 ≤ room_1.slots := by
      show 239 + j + 1 ≤ 601024 ∧ 8230 + 6 * j + 6 ≤ 7293034
      omega
    refine lv_iload hx hb dL_law_23 (lv_at hl 4 rfl) ?_
    refine lv_aload_n hx hb dL_law_25 rfl (lv_at hl 0 rfl) ?_
    refine va_slen hx hb hX hbl hbA hH.2 dL_law_26 ?_
    refine lv_bipush (v := (6 : Int32)) hx hb dL_law_27 (by decide) ?_
    refine lv_isub hx hb dL_law_29 ?_
    refine lv_icmp_gt (tgt := 1509) hx hb dL_law_30 (by decide) (fun cn => ?_) (fun cn => ?_)
    · refine lv_iconst (v := (1 : Int32)) hx hb dL_law_1509 (by decide) ?_
      refine va_forget (fun q hq => by rw [← hB]; exact hH.2.2.2 q hq) ?_
      refine W.widen (k := 601024) (n := 7293034) (by omega) (by omega) ?_
      exact lw_ret hx hb hret hlk dL_law_1510
    · have h6 : 6 * j + 6 ≤ L := lw_cmp hL (by omega) (by rw [ex] at cn; exact cn)
      have hin : ∀ k : Int32, 0 ≤ k.toInt → k.toInt < 6 → vp_in (x4 + k) L := fun k k0 k6 => by
        obtain ⟨kk, hkk, rfl⟩ := vp_in_of (x := k) (n := 6) (vp_in_iff.mpr ⟨k0, k6⟩) (by decide)
        rw [ex, nI_add]
        exact vp_in_nI (by omega) (by omega)
      have hin0 : vp_in x4 L := by rw [ex]; exact vp_in_nI (by omega) (by omega)
      refine lv_aload_n hx hb dL_law_33 rfl (lv_at hl 0 rfl) ?_
      refine lv_iload hx hb dL_law_34 (lv_at hl 4 rfl) ?_
      refine va_sld hx hb hX hbl hbA hH.2 hin0 dL_law_36 ?_
      refine lv_bipush (v := (63 : Int32)) hx hb dL_law_37 (by decide) ?_
      refine lv_iand hx hb dL_law_39 ?_
      refine lv_topi (fun z ez => ?_)
      have K : ∀ {h : PH} {H : Heap} {locs : List Loc} {ls : Array Slot}, Inv h → HS g s H locs h → lv_has ls 7 [(0, .ref b), (1, .ref (gB g + X)), (2, .ref (gB g + M)), (3, .ref (gB g + O)), (4, .int x4)] → W p l e room_1 s m #[.ref b] below meth c H locs (239 + j + 1) (8230 + 6 * j + 6) (lw_Z below #[.ref b] s) (F0 m 1503 ls []) := by
        intro h H locs ls hI hH hl
        refine lv_iinc (v := x4 + 6) (lv' := [(4, .int (x4 + 6)), (0, .ref b), (1, .ref (gB g + X)), (2, .ref (gB g + M)), (3, .ref (gB g + O))]) hx hb dL_law_1503 hl (k := 4) rfl rfl (by decide) rfl (fun ls hl => ?_)
        refine lv_goto (tgt := 23) hx hb dL_law_1506 (by decide) ?_
        have hx' : x4 + 6 = nI (6 * (j + 1)) := by
          rw [ex, show (6 : Int32) = nI 6 from rfl, nI_add]
          rfl
        exact ih (j + 1) (by omega) (by omega) hx' hI hH (lv_sub hl [1, 2, 3, 4, 0] rfl)
      by_cases c0 : z = (0 : Int32)
      · refine lv_tableIn (off := 164) (tgt := 204) hx hb dL_law_40 (by rw [c0]; decide) (by rw [c0]; decide) (by rw [c0]; decide) (by decide) ?_
        exact lk_0 C hX hbl hbA hin (S.1) hcs (fun hI hH hl => K hI hH hl) hI hH hl
      · by_cases c1 : z = (1 : Int32)
        · refine lv_tableIn (off := 237) (tgt := 277) hx hb dL_law_40 (by rw [c1]; decide) (by rw [c1]; decide) (by rw [c1]; decide) (by decide) ?_
          exact lk_1 C hX hbl hbA hin (S.2.1) hcs (fun hI hH hl => K hI hH hl) hI hH hl
        · by_cases c2 : z = (2 : Int32)
          · refine lv_tableIn (off := 262) (tgt := 302) hx hb dL_law_40 (by rw [c2]; decide) (by rw [c2]; decide) (by rw [c2]; decide) (by decide) ?_
            exact lk_2 C hX hbl hbA hin (S.2.2.1) hcs (fun hI hH hl => K hI hH hl) hI hH hl
          · by_cases c3 : z = (3 : Int32)
            · refine lv_tableIn (off := 287) (tgt := 327) hx hb dL_law_40 (by rw [c3]; decide) (by rw [c3]; decide) (by rw [c3]; decide) (by decide) ?_
              exact lk_3 C hX hbl hbA hin hxg hlt (S.2.2.2.1) hcs (fun hI hH hl => K hI hH hl) hI hH hl
            · by_cases c4 : z = (4 : Int32)
              · refine lv_tableIn (off := 355) (tgt := 395) hx hb dL_law_40 (by rw [c4]; decide) (by rw [c4]; decide) (by rw [c4]; decide) (by decide) ?_
                exact lk_4 C hX hbl hbA hin (S.2.2.2.2.1) hcs (fun hI hH hl => K hI hH hl) hI hH hl
              · by_cases c5 : z = (5 : Int32)
                · refine lv_tableIn (off := 392) (tgt := 432) hx hb dL_law_40 (by rw [c5]; decide) (by rw [c5]; decide) (by rw [c5]; decide) (by decide) ?_
                  exact lk_5 C hX hbl hbA hin (S.2.2.2.2.2.1) hcs (fun hI hH hl => K hI hH hl) hI hH hl
                · by_cases c6 : z = (6 : Int32)
                  · refine lv_tableIn (off := 429) (tgt := 469) hx hb dL_law_40 (by rw [c6]; decide) (by rw [c6]; decide) (by rw [c6]; decide) (by decide) ?_
                    exact lk_6 C hX hbl hbA hin (S.2.2.2.2.2.2.1) hcs (fun hI hH hl => K hI hH hl) hI hH hl
                  · by_cases c7 : z = (7 : Int32)
                    · refine lv_tableIn (off := 466) (tgt := 506) hx hb dL_law_40 (by rw [c7]; decide) (by rw [c7]; decide) (by rw [c7]; decide) (by decide) ?_
                      exact lk_7 C hX hbl hbA hin (S.2.2.2.2.2.2.2.1) hcs (fun hI hH hl => K hI hH hl) hI hH hl
                    · by_cases c8 : z = (8 : Int32)
                      · refine lv_tableIn (off := 503) (tgt := 543) hx hb dL_law_40 (by rw [c8]; decide) (by rw [c8]; decide) (by rw [c8]; decide) (by decide) ?_
                        exact lk_8 C hX hbl hbA hin (S.2.2.2.2.2.2.2.2.1) hcs (fun hI hH hl => K hI hH hl) hI hH hl
                      · by_cases c9 : z = (9 : Int32)
                        · refine lv_tableIn (off := 540) (tgt := 580) hx hb dL_law_40 (by rw [c9]; decide) (by rw [c9]; decide) (by rw [c9]; decide) (by decide) ?_
                          exact lk_9 C hX hbl hbA hin (S.2.2.2.2.2.2.2.2.2.1) hcs (fun hI hH hl => K hI hH hl) hI hH hl
                        · by_cases c10 : z = (10 : Int32)
                          · refine lv_tableIn (off := 577) (tgt := 617) hx hb dL_law_40 (by rw [c10]; decide) (by rw [c10]; decide) (by rw [c10]; decide) (by decide) ?_
                            exact lk_10 C hX hbl hbA hin (S.2.2.2.2.2.2.2.2.2.2.1) hcs (fun hI hH hl => K hI hH hl) hI hH hl
                          · by_cases c11 : z = (11 : Int32)
                            · refine lv_tableIn (off := 602) (tgt := 642) hx hb dL_law_40 (by rw [c11]; decide) (by rw [c11]; decide) (by rw [c11]; decide) (by decide) ?_
                              exact lk_11 C hX hbl hbA hin (S.2.2.2.2.2.2.2.2.2.2.2.1) hcs (fun hI hH hl => K hI hH hl) hI hH hl
                            · by_cases c12 : z = (12 : Int32)
                              · refine lv_tableIn (off := 628) (tgt := 668) hx hb dL_law_40 (by rw [c12]; decide) (by rw [c12]; decide) (by rw [c12]; decide) (by decide) ?_
                                exact lk_12 C hX hbl hbA hin (S.2.2.2.2.2.2.2.2.2.2.2.2.1) hcs (fun hI hH hl => K hI hH hl) hI hH hl
                              · by_cases c13 : z = (13 : Int32)
                                · refine lv_tableIn (off := 666) (tgt := 706) hx hb dL_law_40 (by rw [c13]; decide) (by rw [c13]; decide) (by rw [c13]; decide) (by decide) ?_
                                  exact lk_13 C hX hbl hbA hin (S.2.2.2.2.2.2.2.2.2.2.2.2.2.1) hcs (fun hI hH hl => K hI hH hl) hI hH hl
                                · by_cases c14 : z = (14 : Int32)
                                  · refine lv_tableIn (off := 703) (tgt := 743) hx hb dL_law_40 (by rw [c14]; decide) (by rw [c14]; decide) (by rw [c14]; decide) (by decide) ?_
                                    exact lk_14 C hX hbl hbA hin (S.2.2.2.2.2.2.2.2.2.2.2.2.2.2.1) hcs (fun hI hH hl => K hI hH hl) hI hH hl
                                  · by_cases c15 : z = (15 : Int32)
                                    · refine lv_tableIn (off := 729) (tgt := 769) hx hb dL_law_40 (by rw [c15]; decide) (by rw [c15]; decide) (by rw [c15]; decide) (by decide) ?_
                                      exact lk_15 C hX hbl hbA hin (S.2.2.2.2.2.2.2.2.2.2.2.2.2.2.2.1) hcs (fun hI hH hl => K hI hH hl) hI hH hl
                                    · by_cases c16 : z = (16 : Int32)
                                      · refine lv_tableIn (off := 754) (tgt := 794) hx hb dL_law_40 (by rw [c16]; decide) (by rw [c16]; decide) (by rw [c16]; decide) (by decide) ?_
                                        exact lk_16 C hX hbl hbA hin (S.2.2.2.2.2.2.2.2.2.2.2.2.2.2.2.2.1) hcs (fun hI hH hl => K hI hH hl) hI hH hl
                                      · by_cases c17 : z = (17 : Int32)
                                        · refine lv_tableIn (off := 791) (tgt := 831) hx hb dL_law_40 (by rw [c17]; decide) (by rw [c17]; decide) (by rw [c17]; decide) (by decide) ?_
                                          exact lk_17 C hX hbl hbA hin (S.2.2.2.2.2.2.2.2.2.2.2.2.2.2.2.2.2.1) hcs (fun hI hH hl => K hI hH hl) hI hH hl
                                        · by_cases c18 : z = (18 : Int32)
                                          · refine lv_tableIn (off := 829) (tgt := 869) hx hb dL_law_40 (by rw [c18]; decide) (by rw [c18]; decide) (by rw [c18]; decide) (by decide) ?_
                                            exact lk_18 C hX hbl hbA hin (S.2.2.2.2.2.2.2.2.2.2.2.2.2.2.2.2.2.2.1) hcs (fun hI hH hl => K hI hH hl) hI hH hl
                                          · by_cases c19 : z = (19 : Int32)
                                            · refine lv_tableIn (off := 854) (tgt := 894) hx hb dL_law_40 (by rw [c19]; decide) (by rw [c19]; decide) (by rw [c19]; decide) (by decide) ?_
                                              exact lk_19 C hX hbl hbA hin (S.2.2.2.2.2.2.2.2.2.2.2.2.2.2.2.2.2.2.2.1) hcs (fun hI hH hl => K hI hH hl) hI hH hl
                                            · by_cases c20 : z = (20 : Int32)
                                              · refine lv_tableIn (off := 891) (tgt := 931) hx hb dL_law_40 (by rw [c20]; decide) (by rw [c20]; decide) (by rw [c20]; decide) (by decide) ?_
                                                exact lk_20 C hX hbl hbA hin (S.2.2.2.2.2.2.2.2.2.2.2.2.2.2.2.2.2.2.2.2.1) hcs (fun hI hH hl => K hI hH hl) hI hH hl
                                              · by_cases c21 : z = (21 : Int32)
                                                · refine lv_tableIn (off := 916) (tgt := 956) hx hb dL_law_40 (by rw [c21]; decide) (by rw [c21]; decide) (by rw [c21]; decide) (by decide) ?_
                                                  exact lk_21 C hX hbl hbA hin (S.2.2.2.2.2.2.2.2.2.2.2.2.2.2.2.2.2.2.2.2.2.1) hcs (fun hI hH hl => K hI hH hl) hI hH hl
                                                · by_cases c22 : z = (22 : Int32)
                                                  · refine lv_tableIn (off := 941) (tgt := 981) hx hb dL_law_40 (by rw [c22]; decide) (by rw [c22]; decide) (by rw [c22]; decide) (by decide) ?_
                                                    exact lk_22 C hX hbl hbA hin (S.2.2.2.2.2.2.2.2.2.2.2.2.2.2.2.2.2.2.2.2.2.2.1) hcs (fun hI hH hl => K hI hH hl) hI hH hl
                                                  · by_cases c23 : z = (23 : Int32)
                                                    · refine lv_tableIn (off := 967) (tgt := 1007) hx hb dL_law_40 (by rw [c23]; decide) (by rw [c23]; decide) (by rw [c23]; decide) (by decide) ?_
                                                      exact lk_23 C hX hbl hbA hin (S.2.2.2.2.2.2.2.2.2.2.2.2.2.2.2.2.2.2.2.2.2.2.2.1) hcs (fun hI hH hl => K hI hH hl) hI hH hl
                                                    · by_cases c24 : z = (24 : Int32)
                                                      · refine lv_tableIn (off := 993) (tgt := 1033) hx hb dL_law_40 (by rw [c24]; decide) (by rw [c24]; decide) (by rw [c24]; decide) (by decide) ?_
                                                        exact lk_24 C hX hbl hbA hin (S.2.2.2.2.2.2.2.2.2.2.2.2.2.2.2.2.2.2.2.2.2.2.2.2.1) hcs (fun hI hH hl => K hI hH hl) hI hH hl
                                                      · by_cases c25 : z = (25 : Int32)
                                                        · refine lv_tableIn (off := 1007) (tgt := 1047) hx hb dL_law_40 (by rw [c25]; decide) (by rw [c25]; decide) (by rw [c25]; decide) (by decide) ?_
                                                          exact lk_25 C hX hbl hbA hin (S.2.2.2.2.2.2.2.2.2.2.2.2.2.2.2.2.2.2.2.2.2.2.2.2.2.1) hcs (fun hI hH hl => K hI hH hl) hI hH hl
                                                        · by_cases c26 : z = (26 : Int32)
                                                          · refine lv_tableIn (off := 1032) (tgt := 1072) hx hb dL_law_40 (by rw [c26]; decide) (by rw [c26]; decide) (by rw [c26]; decide) (by decide) ?_
                                                            exact lk_26 C hX hbl hbA hin (S.2.2.2.2.2.2.2.2.2.2.2.2.2.2.2.2.2.2.2.2.2.2.2.2.2.2.1) hcs (fun hI hH hl => K hI hH hl) hI hH hl
                                                          · by_cases c27 : z = (27 : Int32)
                                                            · refine lv_tableIn (off := 1057) (tgt := 1097) hx hb dL_law_40 (by rw [c27]; decide) (by rw [c27]; decide) (by rw [c27]; decide) (by decide) ?_
                                                              exact lk_27 C hX hbl hbA hin (S.2.2.2.2.2.2.2.2.2.2.2.2.2.2.2.2.2.2.2.2.2.2.2.2.2.2.2.1) hcs (fun hI hH hl => K hI hH hl) hI hH hl
                                                            · by_cases c28 : z = (28 : Int32)
                                                              · refine lv_tableIn (off := 1094) (tgt := 1134) hx hb dL_law_40 (by rw [c28]; decide) (by rw [c28]; decide) (by rw [c28]; decide) (by decide) ?_
                                                                exact lk_28 C hX hbl hbA hin (S.2.2.2.2.2.2.2.2.2.2.2.2.2.2.2.2.2.2.2.2.2.2.2.2.2.2.2.2.1) hcs (fun hI hH hl => K hI hH hl) hI hH hl
                                                              · by_cases c29 : z = (29 : Int32)
                                                                · refine lv_tableIn (off := 1147) (tgt := 1187) hx hb dL_law_40 (by rw [c29]; decide) (by rw [c29]; decide) (by rw [c29]; decide) (by decide) ?_
                                                                  exact lk_29 C hX hbl hbA hin (S.2.2.2.2.2.2.2.2.2.2.2.2.2.2.2.2.2.2.2.2.2.2.2.2.2.2.2.2.2.1) hcs (fun hI hH hl => K hI hH hl) hI hH hl
                                                                · by_cases c30 : z = (30 : Int32)
                                                                  · refine lv_tableIn (off := 1212) (tgt := 1252) hx hb dL_law_40 (by rw [c30]; decide) (by rw [c30]; decide) (by rw [c30]; decide) (by decide) ?_
                                                                    exact lk_30 C hX hbl hbA hin (S.2.2.2.2.2.2.2.2.2.2.2.2.2.2.2.2.2.2.2.2.2.2.2.2.2.2.2.2.2.2.1) hcs (fun hI hH hl => K hI hH hl) hI hH hl
                                                                  · by_cases c31 : z = (31 : Int32)
                                                                    · refine lv_tableIn (off := 1249) (tgt := 1289) hx hb dL_law_40 (by rw [c31]; decide) (by rw [c31]; decide) (by rw [c31]; decide) (by decide) ?_
                                                                      exact lk_31 C hX hbl hbA hin (S.2.2.2.2.2.2.2.2.2.2.2.2.2.2.2.2.2.2.2.2.2.2.2.2.2.2.2.2.2.2.2.1) hcs (fun hI hH hl => K hI hH hl) hI hH hl
                                                                    · by_cases c32 : z = (32 : Int32)
                                                                      · refine lv_tableIn (off := 1262) (tgt := 1302) hx hb dL_law_40 (by rw [c32]; decide) (by rw [c32]; decide) (by rw [c32]; decide) (by decide) ?_
                                                                        exact lk_32 C hX hbl hbA hin (S.2.2.2.2.2.2.2.2.2.2.2.2.2.2.2.2.2.2.2.2.2.2.2.2.2.2.2.2.2.2.2.2.1) hcs (fun hI hH hl => K hI hH hl) hI hH hl
                                                                      · by_cases c33 : z = (33 : Int32)
                                                                        · refine lv_tableIn (off := 1323) (tgt := 1363) hx hb dL_law_40 (by rw [c33]; decide) (by rw [c33]; decide) (by rw [c33]; decide) (by decide) ?_
                                                                          exact lk_33 C hX hbl hbA hin (S.2.2.2.2.2.2.2.2.2.2.2.2.2.2.2.2.2.2.2.2.2.2.2.2.2.2.2.2.2.2.2.2.2.1) hcs (fun hI hH hl => K hI hH hl) hI hH hl
                                                                        · by_cases c34 : z = (34 : Int32)
                                                                          · refine lv_tableIn (off := 1360) (tgt := 1400) hx hb dL_law_40 (by rw [c34]; decide) (by rw [c34]; decide) (by rw [c34]; decide) (by decide) ?_
                                                                            exact lk_34 C hX hbl hbA hin (S.2.2.2.2.2.2.2.2.2.2.2.2.2.2.2.2.2.2.2.2.2.2.2.2.2.2.2.2.2.2.2.2.2.2.1) hcs (fun hI hH hl => K hI hH hl) hI hH hl
                                                                          · by_cases c35 : z = (35 : Int32)
                                                                            · refine lv_tableIn (off := 1397) (tgt := 1437) hx hb dL_law_40 (by rw [c35]; decide) (by rw [c35]; decide) (by rw [c35]; decide) (by decide) ?_
                                                                              exact lk_35 C hX hbl hbA hin (S.2.2.2.2.2.2.2.2.2.2.2.2.2.2.2.2.2.2.2.2.2.2.2.2.2.2.2.2.2.2.2.2.2.2.2.1) hcs (fun hI hH hl => K hI hH hl) hI hH hl
                                                                            · by_cases c36 : z = (36 : Int32)
                                                                              · refine lv_tableIn (off := 1410) (tgt := 1450) hx hb dL_law_40 (by rw [c36]; decide) (by rw [c36]; decide) (by rw [c36]; decide) (by decide) ?_
                                                                                exact lk_36 C hX hbl hbA hin (S.2.2.2.2.2.2.2.2.2.2.2.2.2.2.2.2.2.2.2.2.2.2.2.2.2.2.2.2.2.2.2.2.2.2.2.2) hcs (fun hI hH hl => K hI hH hl) hI hH hl
                                                                              · refine lv_tableOut (tgt := 1503) hx hb dL_law_40 (by have q0 := tb_n (v := 0) (by decide) c0; have q1 := tb_n (v := 1) (by decide) c1; have q2 := tb_n (v := 2) (by decide) c2; have q3 := tb_n (v := 3) (by decide) c3; have q4 := tb_n (v := 4) (by decide) c4; have q5 := tb_n (v := 5) (by decide) c5; have q6 := tb_n (v := 6) (by decide) c6; have q7 := tb_n (v := 7) (by decide) c7; have q8 := tb_n (v := 8) (by decide) c8; have q9 := tb_n (v := 9) (by decide) c9; have q10 := tb_n (v := 10) (by decide) c10; have q11 := tb_n (v := 11) (by decide) c11; have q12 := tb_n (v := 12) (by decide) c12; have q13 := tb_n (v := 13) (by decide) c13; have q14 := tb_n (v := 14) (by decide) c14; have q15 := tb_n (v := 15) (by decide) c15; have q16 := tb_n (v := 16) (by decide) c16; have q17 := tb_n (v := 17) (by decide) c17; have q18 := tb_n (v := 18) (by decide) c18; have q19 := tb_n (v := 19) (by decide) c19; have q20 := tb_n (v := 20) (by decide) c20; have q21 := tb_n (v := 21) (by decide) c21; have q22 := tb_n (v := 22) (by decide) c22; have q23 := tb_n (v := 23) (by decide) c23; have q24 := tb_n (v := 24) (by decide) c24; have q25 := tb_n (v := 25) (by decide) c25; have q26 := tb_n (v := 26) (by decide) c26; have q27 := tb_n (v := 27) (by decide) c27; have q28 := tb_n (v := 28) (by decide) c28; have q29 := tb_n (v := 29) (by decide) c29; have q30 := tb_n (v := 30) (by decide) c30; have q31 := tb_n (v := 31) (by decide) c31; have q32 := tb_n (v := 32) (by decide) c32; have q33 := tb_n (v := 33) (by decide) c33; have q34 := tb_n (v := 34) (by decide) c34; have q35 := tb_n (v := 35) (by decide) c35; have q36 := tb_n (v := 36) (by decide) c36; omega) (by decide) ?_
                                                                                refine W.widen (k := 239 + j + 1) (n := 8230 + 6 * j + 6) (Nat.le_succ _) (Nat.le_add_right _ _) ?_
                                                                                exact K hI hH hl

def mL_start : Option (Nat × Nat × Nat × PH) :=
  al (.inl (9, [.inr (.inr none), .inr (.inr none), .inr (.inr none), .inr (.inr none), .inr (.inr none), .inr (.inr none), .inr (.inr none), .inr (.inr none), .inr (.inr none), .inr (.inr none), .inl 0])) (0, fun _ => none) fun x h1 =>
  (mX9_init h1 x).bind fun h2 =>
  al (.inl (10, [.inl 0, .inr (.inr none), .inr (.inr none), .inr (.inr none), .inr (.inr none), .inr (.inr none), .inl 0, .inr (.inr none), .inl 0, .inl 0, .inl 0, .inl 0, .inl 0, .inl 0, .inr (.inl 0), .inl 0, .inl 0, .inr (.inr none), .inr (.inr none), .inr (.inr none), .inl 0, .inr (.inr none), .inl 0, .inl 0, .inl 0, .inl 0, .inr (.inr none), .inl 0, .inl 0, .inr (.inr none), .inl 0, .inl 0, .inr (.inr none), .inl 0])) h2 fun y h3 =>
  (mX10_init h3 y).bind fun h4 =>
  al (.inr (1, 1, .inr (.inl (fun _ => 0)))) h4 fun o h5 =>
  some (x, y, o, h5)
theorem nc_L_8 : NC RL 8 9 11 [.inr (.inr none), .inr (.inr none), .inr (.inr none), .inr (.inr none), .inr (.inr none), .inr (.inr none), .inr (.inr none), .inr (.inr none), .inr (.inr none), .inr (.inr none), .inl 0] := ⟨RX9, TX9, tyX9, rfl, tbX9, tyX9_ok, TB_mem 135 (by decide +kernel) rfl, TB_mem 136 (by decide +kernel) rfl, TB_mem 113 (by decide +kernel) rfl, fun B j hj => by
  match j, hj with
  | 0, _ => rfl
  | 1, _ => rfl
  | 2, _ => rfl
  | 3, _ => rfl
  | 4, _ => rfl
  | 5, _ => rfl
  | 6, _ => rfl
  | 7, _ => rfl
  | 8, _ => rfl
  | 9, _ => rfl
  | 10, _ => rfl
  | j + 11, hj => exact absurd hj (by omega)⟩
theorem nc_L_16 : NC RL 16 10 34 [.inl 0, .inr (.inr none), .inr (.inr none), .inr (.inr none), .inr (.inr none), .inr (.inr none), .inl 0, .inr (.inr none), .inl 0, .inl 0, .inl 0, .inl 0, .inl 0, .inl 0, .inr (.inl 0), .inl 0, .inl 0, .inr (.inr none), .inr (.inr none), .inr (.inr none), .inl 0, .inr (.inr none), .inl 0, .inl 0, .inl 0, .inl 0, .inr (.inr none), .inl 0, .inl 0, .inr (.inr none), .inl 0, .inl 0, .inr (.inr none), .inl 0] := ⟨RX10, TX10, tyX10, rfl, tbX10, tyX10_ok, TB_mem 1153 (by decide +kernel) rfl, TB_mem 1154 (by decide +kernel) rfl, TB_mem 128 (by decide +kernel) rfl, fun B j hj => by
  match j, hj with
  | 0, _ => rfl
  | 1, _ => rfl
  | 2, _ => rfl
  | 3, _ => rfl
  | 4, _ => rfl
  | 5, _ => rfl
  | 6, _ => rfl
  | 7, _ => rfl
  | 8, _ => rfl
  | 9, _ => rfl
  | 10, _ => rfl
  | 11, _ => rfl
  | 12, _ => rfl
  | 13, _ => rfl
  | 14, _ => rfl
  | 15, _ => rfl
  | 16, _ => rfl
  | 17, _ => rfl
  | 18, _ => rfl
  | 19, _ => rfl
  | 20, _ => rfl
  | 21, _ => rfl
  | 22, _ => rfl
  | 23, _ => rfl
  | 24, _ => rfl
  | 25, _ => rfl
  | 26, _ => rfl
  | 27, _ => rfl
  | 28, _ => rfl
  | 29, _ => rfl
  | 30, _ => rfl
  | 31, _ => rfl
  | 32, _ => rfl
  | 33, _ => rfl
  | j + 34, hj => exact absurd hj (by omega)⟩
theorem mi_X9_init : MI yX9_init cX9_init 2 0 none := ⟨TB_mem 139 (by decide +kernel) rfl, TB_mem 113 (by decide +kernel) rfl, ⟨by decide +kernel, by decide +kernel⟩, by decide +kernel⟩
theorem il_L_15 : Cond.methodLink RL 15 yX9_init ∈ TB ∧ Cond.instanceMethod yX9_init ∈ TB := ⟨TB_mem 137 (by decide +kernel) rfl, TB_mem 138 (by decide +kernel) rfl⟩
theorem mi_X10_init : MI yX10_init cX10_init 1 0 none := ⟨TB_mem 1157 (by decide +kernel) rfl, TB_mem 128 (by decide +kernel) rfl, ⟨by decide +kernel, by decide +kernel⟩, by decide +kernel⟩
theorem il_L_18 : Cond.methodLink RL 18 yX10_init ∈ TB ∧ Cond.instanceMethod yX10_init ∈ TB := ⟨TB_mem 1155 (by decide +kernel) rfl, TB_mem 1156 (by decide +kernel) rfl⟩
set_option maxHeartbeats 4000000 in
set_option maxRecDepth 100000 in
theorem law_start (hL : L ≤ 3072) (C : CT g RL cL_law 7 lw_tbl p s m #[.ref b] meth c) (hret : meth.sig.returnType = ret) (hX : va_X b L xs s s.heap) (hbl : b < s.heap.size) (hB : gB g = s.heap.size) (hxg : xg g s) (hlt : l.stackTraces = false) (S : SIMS Inv X M O) {hC : PH} (hf : mL_start = some (X, M, O, hC)) (hI : Inv hC) : W p l e room_1 s m #[.ref b] below meth c s.heap [] 0 0 (lw_Z below #[.ref b] s) (entryFrame m ([Value.ref b] : List Value).toArray 7) := by
  obtain ⟨⟨hx, hb, hml, hown, hts⟩, htb, hlk, hkk, hbs⟩ := id C
  have hH : HS g s s.heap [] (0, fun _ => none) := ⟨⟨by rw [hB]; rfl, fun a e h => by cases h⟩, va_S.rf⟩
  have hl := lv_entry ([.ref b]) (n := 7) (Nat.le_of_ble_eq_true rfl)
  rw [lg_entry_eq]
  generalize (lg_sl ([.ref b]) ++ List.replicate (7 - (lg_sl ([.ref b])).length) Slot.unset).toArray = ls at hl ⊢
  have hl : lv_has ls 7 [(0, .ref b)] := hl
  unfold mL_start at hf
  refine pg_new C hH nc_L_8 hf (Nat.le_of_ble_eq_true rfl) (Nat.le_of_ble_eq_true rfl) dL_law_0 (fun H a1 h1 hH hf => ?_)
  refine W.widen (k := 1) (n := 11) (Nat.le_of_ble_eq_true rfl) (Nat.le_of_ble_eq_true rfl) ?_
  refine lv_dup hx hb dL_law_3 rfl ?_
  refine pg_Iv (As := []) C hH mi_X9_init il_L_15 rfl hf (fun _ e1 => c_X9_init e1) rfl rfl hl.1 (Nat.le_of_ble_eq_true rfl) ⟨Nat.le_of_ble_eq_true rfl, Nat.le_of_ble_eq_true rfl⟩ ⟨Nat.le_of_ble_eq_true rfl, Nat.le_of_ble_eq_true rfl⟩ dL_law_4 (fun H locs h2 hH hf => ?_)
  refine W.widen (k := 224) (n := 2875) (Nat.le_of_ble_eq_true rfl) (Nat.le_of_ble_eq_true rfl) ?_
  refine lv_astore_n (lv' := [(1, .ref (gB g + a1)), (0, .ref b)]) hx hb dL_law_7 rfl hl (by decide) rfl (fun ls hl => ?_)
  refine pg_new C hH nc_L_16 hf (Nat.le_of_ble_eq_true rfl) (Nat.le_of_ble_eq_true rfl) dL_law_8 (fun H a2 h3 hH hf => ?_)
  refine W.widen (k := 225) (n := 2909) (Nat.le_of_ble_eq_true rfl) (Nat.le_of_ble_eq_true rfl) ?_
  refine lv_dup hx hb dL_law_11 rfl ?_
  refine pg_Iv (As := []) C hH mi_X10_init il_L_18 rfl hf (fun _ e1 => c_X10_init e1) rfl rfl hl.1 (Nat.le_of_ble_eq_true rfl) ⟨Nat.le_of_ble_eq_true rfl, Nat.le_of_ble_eq_true rfl⟩ ⟨Nat.le_of_ble_eq_true rfl, Nat.le_of_ble_eq_true rfl⟩ dL_law_12 (fun H locs h4 hH hf => ?_)
  refine W.widen (k := 238) (n := 8229) (Nat.le_of_ble_eq_true rfl) (Nat.le_of_ble_eq_true rfl) ?_
  refine lv_astore_n (lv' := [(2, .ref (gB g + a2)), (1, .ref (gB g + a1)), (0, .ref b)]) hx hb dL_law_15 rfl hl (by decide) rfl (fun ls hl => ?_)
  refine lv_iconst (v := (1 : Int32)) hx hb dL_law_16 (by decide) ?_
  refine pg_newL (N' := 1) C hH ar_L hf (by decide) (by decide) (Nat.le_of_ble_eq_true rfl) (Nat.le_of_ble_eq_true rfl) (Nat.le_of_ble_eq_true rfl) dL_law_17 (fun H a3 h5 hH hf => ?_)
  cases hf
  refine W.widen (k := 239) (n := 8230) (Nat.le_of_ble_eq_true rfl) (Nat.le_of_ble_eq_true rfl) ?_
  refine lv_astore_n (lv' := [(3, .ref (gB g + O)), (2, .ref (gB g + M)), (1, .ref (gB g + X)), (0, .ref b)]) hx hb dL_law_19 rfl hl (by decide) rfl (fun ls hl => ?_)
  refine lv_iconst (v := (0 : Int32)) hx hb dL_law_20 (by decide) ?_
  refine lv_istore (lv' := [(4, .int (0 : Int32)), (3, .ref (gB g + O)), (2, .ref (gB g + M)), (1, .ref (gB g + X)), (0, .ref b)]) hx hb dL_law_21 hl (by decide) rfl (fun ls hl => ?_)
  exact law_loop hL C hret hX hbl hB hxg hlt S (L + 1) 0 (by omega) (by omega) rfl hI hH (lv_sub hl [4, 3, 2, 1, 0] rfl)

end LP
