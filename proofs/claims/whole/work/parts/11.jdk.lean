/-! ===== 11: String.length, charAt over the texts of the class ===== -/
theorem dJ0_length_8abf5_0 : decode cJ0_length_8abf5 0 = .ok (.aload_n 0, 1) := by decide +kernel
theorem dJ0_length_8abf5_1 : decode cJ0_length_8abf5 1 = .ok (.getfield 9, 3) := by decide +kernel
theorem dJ0_length_8abf5_4 : decode cJ0_length_8abf5 4 = .ok (.arraylength, 1) := by decide +kernel
theorem dJ0_length_8abf5_5 : decode cJ0_length_8abf5 5 = .ok (.aload_n 0, 1) := by decide +kernel
theorem dJ0_length_8abf5_6 : decode cJ0_length_8abf5 6 = .ok (.invokevirtual 335, 3) := by decide +kernel
theorem dJ0_length_8abf5_9 : decode cJ0_length_8abf5 9 = .ok (.ishr, 1) := by decide +kernel
theorem dJ0_length_8abf5_10 : decode cJ0_length_8abf5 10 = .ok (.ireturn, 1) := by decide +kernel
theorem dJ0_charAt_5068e_0 : decode cJ0_charAt_5068e 0 = .ok (.aload_n 0, 1) := by decide +kernel
theorem dJ0_charAt_5068e_1 : decode cJ0_charAt_5068e 1 = .ok (.invokevirtual 492, 3) := by decide +kernel
theorem dJ0_charAt_5068e_4 : decode cJ0_charAt_5068e 4 = .ok (.ifCond .eq 12, 3) := by decide +kernel
theorem dJ0_charAt_5068e_7 : decode cJ0_charAt_5068e 7 = .ok (.aload_n 0, 1) := by decide +kernel
theorem dJ0_charAt_5068e_8 : decode cJ0_charAt_5068e 8 = .ok (.getfield 9, 3) := by decide +kernel
theorem dJ0_charAt_5068e_11 : decode cJ0_charAt_5068e 11 = .ok (.iload_n 1, 1) := by decide +kernel
theorem dJ0_charAt_5068e_12 : decode cJ0_charAt_5068e 12 = .ok (.invokestatic 495, 3) := by decide +kernel
theorem dJ0_charAt_5068e_15 : decode cJ0_charAt_5068e 15 = .ok (.ireturn, 1) := by decide +kernel
theorem dJ0_charAt_5068e_16 : decode cJ0_charAt_5068e 16 = .ok (.aload_n 0, 1) := by decide +kernel
theorem dJ0_charAt_5068e_17 : decode cJ0_charAt_5068e 17 = .ok (.getfield 9, 3) := by decide +kernel
theorem dJ0_charAt_5068e_20 : decode cJ0_charAt_5068e 20 = .ok (.iload_n 1, 1) := by decide +kernel
theorem dJ0_charAt_5068e_21 : decode cJ0_charAt_5068e 21 = .ok (.invokestatic 498, 3) := by decide +kernel
theorem dJ0_charAt_5068e_24 : decode cJ0_charAt_5068e 24 = .ok (.ireturn, 1) := by decide +kernel
theorem dJ0_coder_7d493_0 : decode cJ0_coder_7d493 0 = .ok (.getstatic 38, 3) := by decide +kernel
theorem dJ0_coder_7d493_3 : decode cJ0_coder_7d493 3 = .ok (.ifCond .eq 10, 3) := by decide +kernel
theorem dJ0_coder_7d493_6 : decode cJ0_coder_7d493 6 = .ok (.aload_n 0, 1) := by decide +kernel
theorem dJ0_coder_7d493_7 : decode cJ0_coder_7d493 7 = .ok (.getfield 15, 3) := by decide +kernel
theorem dJ0_coder_7d493_10 : decode cJ0_coder_7d493 10 = .ok (.goto 4, 3) := by decide +kernel
theorem dJ0_coder_7d493_13 : decode cJ0_coder_7d493 13 = .ok (.iconst 1, 1) := by decide +kernel
theorem dJ0_coder_7d493_14 : decode cJ0_coder_7d493 14 = .ok (.ireturn, 1) := by decide +kernel
theorem dJ0_isLatin1_aae02_0 : decode cJ0_isLatin1_aae02 0 = .ok (.getstatic 38, 3) := by decide +kernel
theorem dJ0_isLatin1_aae02_3 : decode cJ0_isLatin1_aae02 3 = .ok (.ifCond .eq 14, 3) := by decide +kernel
theorem dJ0_isLatin1_aae02_6 : decode cJ0_isLatin1_aae02 6 = .ok (.aload_n 0, 1) := by decide +kernel
theorem dJ0_isLatin1_aae02_7 : decode cJ0_isLatin1_aae02 7 = .ok (.getfield 15, 3) := by decide +kernel
theorem dJ0_isLatin1_aae02_10 : decode cJ0_isLatin1_aae02 10 = .ok (.ifCond .ne 7, 3) := by decide +kernel
theorem dJ0_isLatin1_aae02_13 : decode cJ0_isLatin1_aae02 13 = .ok (.iconst 1, 1) := by decide +kernel
theorem dJ0_isLatin1_aae02_14 : decode cJ0_isLatin1_aae02 14 = .ok (.goto 4, 3) := by decide +kernel
theorem dJ0_isLatin1_aae02_17 : decode cJ0_isLatin1_aae02 17 = .ok (.iconst 0, 1) := by decide +kernel
theorem dJ0_isLatin1_aae02_18 : decode cJ0_isLatin1_aae02 18 = .ok (.ireturn, 1) := by decide +kernel
theorem dJ0_checkIndex_df160_0 : decode cJ0_checkIndex_df160 0 = .ok (.iload_n 0, 1) := by decide +kernel
theorem dJ0_checkIndex_df160_1 : decode cJ0_checkIndex_df160 1 = .ok (.iload_n 1, 1) := by decide +kernel
theorem dJ0_checkIndex_df160_2 : decode cJ0_checkIndex_df160 2 = .ok (.getstatic 1053, 3) := by decide +kernel
theorem dJ0_checkIndex_df160_5 : decode cJ0_checkIndex_df160 5 = .ok (.invokestatic 1059, 3) := by decide +kernel
theorem dJ0_checkIndex_df160_8 : decode cJ0_checkIndex_df160 8 = .ok (.pop, 1) := by decide +kernel
theorem dJ0_checkIndex_df160_9 : decode cJ0_checkIndex_df160 9 = .ok (.return_, 1) := by decide +kernel
theorem dJ1_charAt_3b067_0 : decode cJ1_charAt_3b067 0 = .ok (.iload_n 1, 1) := by decide +kernel
theorem dJ1_charAt_3b067_1 : decode cJ1_charAt_3b067 1 = .ok (.aload_n 0, 1) := by decide +kernel
theorem dJ1_charAt_3b067_2 : decode cJ1_charAt_3b067 2 = .ok (.arraylength, 1) := by decide +kernel
theorem dJ1_charAt_3b067_3 : decode cJ1_charAt_3b067 3 = .ok (.invokestatic 9, 3) := by decide +kernel
theorem dJ1_charAt_3b067_6 : decode cJ1_charAt_3b067 6 = .ok (.aload_n 0, 1) := by decide +kernel
theorem dJ1_charAt_3b067_7 : decode cJ1_charAt_3b067 7 = .ok (.iload_n 1, 1) := by decide +kernel
theorem dJ1_charAt_3b067_8 : decode cJ1_charAt_3b067 8 = .ok (.baload, 1) := by decide +kernel
theorem dJ1_charAt_3b067_9 : decode cJ1_charAt_3b067 9 = .ok (.sipush 255, 3) := by decide +kernel
theorem dJ1_charAt_3b067_12 : decode cJ1_charAt_3b067 12 = .ok (.iand, 1) := by decide +kernel
theorem dJ1_charAt_3b067_13 : decode cJ1_charAt_3b067 13 = .ok (.i2c, 1) := by decide +kernel
theorem dJ1_charAt_3b067_14 : decode cJ1_charAt_3b067 14 = .ok (.ireturn, 1) := by decide +kernel
theorem dJ3_checkIndex_8e157_0 : decode cJ3_checkIndex_8e157 0 = .ok (.iload_n 0, 1) := by decide +kernel
theorem dJ3_checkIndex_8e157_1 : decode cJ3_checkIndex_8e157 1 = .ok (.ifCond .lt 8, 3) := by decide +kernel
theorem dJ3_checkIndex_8e157_4 : decode cJ3_checkIndex_8e157 4 = .ok (.iload_n 0, 1) := by decide +kernel
theorem dJ3_checkIndex_8e157_5 : decode cJ3_checkIndex_8e157 5 = .ok (.iload_n 1, 1) := by decide +kernel
theorem dJ3_checkIndex_8e157_6 : decode cJ3_checkIndex_8e157 6 = .ok (.if_icmp .lt 10, 3) := by decide +kernel
theorem dJ3_checkIndex_8e157_9 : decode cJ3_checkIndex_8e157 9 = .ok (.aload_n 2, 1) := by decide +kernel
theorem dJ3_checkIndex_8e157_10 : decode cJ3_checkIndex_8e157 10 = .ok (.iload_n 0, 1) := by decide +kernel
theorem dJ3_checkIndex_8e157_11 : decode cJ3_checkIndex_8e157 11 = .ok (.iload_n 1, 1) := by decide +kernel
theorem dJ3_checkIndex_8e157_12 : decode cJ3_checkIndex_8e157 12 = .ok (.invokestatic 95, 3) := by decide +kernel
theorem dJ3_checkIndex_8e157_15 : decode cJ3_checkIndex_8e157 15 = .ok (.athrow, 1) := by decide +kernel
theorem dJ3_checkIndex_8e157_16 : decode cJ3_checkIndex_8e157 16 = .ok (.iload_n 0, 1) := by decide +kernel
theorem dJ3_checkIndex_8e157_17 : decode cJ3_checkIndex_8e157 17 = .ok (.ireturn, 1) := by decide +kernel
theorem mi_J0_length_8abf5 : MI yJ0_length_8abf5 cJ0_length_8abf5 1 0 (some .int) := ⟨TB_mem 252 (by decide +kernel) rfl, TB_mem 119 (by decide +kernel) rfl, ⟨by decide +kernel, by decide +kernel⟩, by decide +kernel⟩
theorem mi_J0_charAt_5068e : MI yJ0_charAt_5068e cJ0_charAt_5068e 2 1 (some .char) := ⟨TB_mem 262 (by decide +kernel) rfl, TB_mem 119 (by decide +kernel) rfl, ⟨by decide +kernel, by decide +kernel⟩, by decide +kernel⟩
theorem mi_J0_coder_7d493 : MI yJ0_coder_7d493 cJ0_coder_7d493 1 0 (some .byte) := ⟨TB_mem 256 (by decide +kernel) rfl, TB_mem 119 (by decide +kernel) rfl, ⟨by decide +kernel, by decide +kernel⟩, by decide +kernel⟩
theorem mi_J0_isLatin1_aae02 : MI yJ0_isLatin1_aae02 cJ0_isLatin1_aae02 1 0 (some .boolean) := ⟨TB_mem 266 (by decide +kernel) rfl, TB_mem 119 (by decide +kernel) rfl, ⟨by decide +kernel, by decide +kernel⟩, by decide +kernel⟩
theorem mi_J0_checkIndex_df160 : MI yJ0_checkIndex_df160 cJ0_checkIndex_df160 2 2 none := ⟨TB_mem 272 (by decide +kernel) rfl, TB_mem 119 (by decide +kernel) rfl, ⟨by decide +kernel, by decide +kernel⟩, by decide +kernel⟩
theorem mi_J1_charAt_3b067 : MI yJ1_charAt_3b067 cJ1_charAt_3b067 2 2 (some .char) := ⟨TB_mem 269 (by decide +kernel) rfl, TB_mem 120 (by decide +kernel) rfl, ⟨by decide +kernel, by decide +kernel⟩, by decide +kernel⟩
theorem mi_J3_checkIndex_8e157 : MI yJ3_checkIndex_8e157 cJ3_checkIndex_8e157 3 3 (some .int) := ⟨TB_mem 277 (by decide +kernel) rfl, TB_mem 121 (by decide +kernel) rfl, ⟨by decide +kernel, by decide +kernel⟩, by decide +kernel⟩
theorem vl_J0_335 : VL RJ0 335 yJ0_coder_7d493 := ⟨TB_mem 253 (by decide +kernel) rfl, TB_mem 254 (by decide +kernel) rfl, TB_mem 255 (by decide +kernel) rfl⟩
theorem vl_J0_492 : VL RJ0 492 yJ0_isLatin1_aae02 := ⟨TB_mem 263 (by decide +kernel) rfl, TB_mem 264 (by decide +kernel) rfl, TB_mem 265 (by decide +kernel) rfl⟩
theorem vl_X3_19 : VL RX3 19 yJ0_length_8abf5 := ⟨TB_mem 1014 (by decide +kernel) rfl, TB_mem 250 (by decide +kernel) rfl, TB_mem 251 (by decide +kernel) rfl⟩
theorem vl_X3_25 : VL RX3 25 yJ0_charAt_5068e := ⟨TB_mem 1015 (by decide +kernel) rfl, TB_mem 260 (by decide +kernel) rfl, TB_mem 261 (by decide +kernel) rfl⟩
theorem vl_X7_32 : VL RX7 32 yJ0_length_8abf5 := ⟨TB_mem 249 (by decide +kernel) rfl, TB_mem 250 (by decide +kernel) rfl, TB_mem 251 (by decide +kernel) rfl⟩
theorem vl_X7_38 : VL RX7 38 yJ0_charAt_5068e := ⟨TB_mem 259 (by decide +kernel) rfl, TB_mem 260 (by decide +kernel) rfl, TB_mem 261 (by decide +kernel) rfl⟩
theorem sl_J0_495 : SL RJ0 495 yJ1_charAt_3b067 := ⟨TB_mem 267 (by decide +kernel) rfl, TB_mem 268 (by decide +kernel) rfl⟩
theorem sl_J0_1059 : SL RJ0 1059 yJ3_checkIndex_8e157 := ⟨TB_mem 275 (by decide +kernel) rfl, TB_mem 276 (by decide +kernel) rfl⟩
theorem sl_J1_9 : SL RJ1 9 yJ0_checkIndex_df160 := ⟨TB_mem 270 (by decide +kernel) rfl, TB_mem 271 (by decide +kernel) rfl⟩
theorem fj_9 : Cond.fieldLink RJ0 9 "java/lang/String" "value" "[B" ∈ TB := TB_mem 1772 (by decide +kernel) rfl
theorem fj_15 : Cond.fieldLink RJ0 15 "java/lang/String" "coder" "B" ∈ TB := TB_mem 1773 (by decide +kernel) rfl
theorem fj_38 : Cond.fieldLink RJ0 38 "java/lang/String" "COMPACT_STRINGS" "Z" ∈ TB := TB_mem 257 (by decide +kernel) rfl
theorem fj_1053 : Cond.fieldLink RJ0 1053 "jdk/internal/util/Preconditions" "SIOOBE_FORMATTER" "Ljava/util/function/BiFunction;" ∈ TB := TB_mem 273 (by decide +kernel) rfl
section RJ
variable {p : Program} {l : Launch} {e : Env} {R : Room} {s : State} {m : MethodId} {args : Array Value} {below : List Frame} {meth : Method} {c : Code} {H : Heap} {locs : List Loc} {cells slots : Nat} {Q : State → Prop}
variable {cc : ByteArray} {pc : Nat} {ls : Array Slot} {rest : List Value} {g : GD} {own : String} {nL : Nat} {Ts : List Cond} {h : PH}
/-- an end with an int of another type -/
theorem pg_tret {x : Int32} {ty : FieldType} (C : CT g own cc nL Ts p s m args meth c) (hr : meth.sig.returnType = some ty) (hn : narrow ty (.int x) = .int x) (hH : HS g s H locs h) (hdg : decode cc pc = .ok (.ireturn, 1)) : W p l e R s m args below meth c H locs cells slots (MQ below (QcI g x h) args s cells slots (aB g)) (F0 m pc ls [.int x]) := by
  obtain ⟨⟨hx, hb, -, -, -⟩, -, hlk, hkk, -⟩ := C
  exact W.zret (v := x) (ty := ty) hx hb hr hn (fun t ht hW => ⟨⟨x, h, rfl, ⟨rfl, rfl⟩, by rw [ht]; exact hH.1, kk_end hkk hH.2 ht hW⟩, hH.2.F ht⟩) hH.2.2.2 hdg hlk
/-- a call on any receiver whose class is known -/
theorem pg_Ri {y : MethodName} {bytes : ByteArray} {maxL n index d b : Nat} {ret : Option FieldType} {As : List Value} {st : List Value} {r1 : Int32} (C : CT g own cc nL Ts p s m args meth c) (hH : HS g s H locs h) (I : MI y bytes maxL n ret) (L : VL own index y) (hrecv : ∃ cell : Cell, H[b]? = some cell ∧ cell.vm.isStatics = false ∧ s.vm.findClass y.cls = some cell.cls)
    (hM : Met l y (Cond.code y bytes maxL ret :: TB) (rmD d 0 0) (PcH g (.ref b :: As) h) (QcI g r1 h) 0 0 (aB g))
    (hst : st = As.reverse ++ .ref b :: rest) (hn : As.length = n) (hls : ls.size = nL) (hcat : (rest.map fun v => v.category).sum ≤ 8) (hR : d + 1 ≤ R.frames ∧ 8 + (maxL + 11) + 41 * d ≤ R.locals) (hcs : cells ≤ R.cells ∧ slots ≤ R.slots) (hdg : decode cc pc = .ok (.invokevirtual index, 3))
    (kq : ∀ (H : Heap) (locs : List Loc), HS g s H locs h → W p l e R s m args below meth c H locs cells slots Q (F0 m (pc + 3) ls (.int r1 :: rest))) : W p l e R s m args below meth c H locs cells slots Q (F0 m pc ls st) := by
  subst hst
  refine va_calli (va_runV (As := As) (rest := rest) C.fix hM (cwV n C.1.2.2.2.2 (goodV C I L) rfl rfl rfl ⟨rfl, I.2.2.1.1, I.2.2.1.2, I.2.2.2⟩ hR) ⟨PcH_blind, hrecv, fun U hU hW => pre_of C hH hU hW⟩ rfl hn hls rfl (lv_room hcat) hdg hcs) hH.2 (fun _ _ h => h) (fun _ h => h) (fun r2 u t H1 locs1 ht hvm hw hB hz1 hk1 hS => ?_)
  obtain ⟨rfl, rfl⟩ := hw
  exact kq H1 locs1 (HS.after ht hB.1 hS)
end RJ
section RJ2
variable {l : Launch} {g : GD} {h : PH}
set_option maxHeartbeats 4000000 in
set_option maxRecDepth 100000 in
theorem c_J3_checkIndex {x n : Int32} {v : Value} (hcat : v.category = 1) (h0 : ¬ x < 0) (h1 : x < n) : Met l yJ3_checkIndex_8e157 (Cond.code yJ3_checkIndex_8e157 cJ3_checkIndex_8e157 3 (some .int) :: TB) (rmD 0 0 0) (PcH g [.int x, .int n, v] h) (QcI g x h) 0 0 (aB g) := by
  refine Met.ofW (cc := cJ3_checkIndex_8e157) (maxL := 3) (ret := some .int) (by decide) rfl ?_
  intro p e s m args below meth c s₁ B hml hv
  obtain ⟨rfl, hH0, hkk0⟩ := hv
  have C : CT g RJ3 cJ3_checkIndex_8e157 3 (Cond.code yJ3_checkIndex_8e157 cJ3_checkIndex_8e157 3 (some .int) :: TB) p s m _ meth c := pg_ct (Tw := []) B hml hH0 hkk0
  have hr := B.returns
  have hH : HS g s s.heap [] h := ⟨hH0, va_S.rf⟩
  have hlg : (lg_sl [.int x, .int n, v]).length ≤ 3 := by
    cases v <;> first | exact Nat.le_refl 3 | (exfalso; simp [Value.category] at hcat)
  have hl := lv_entry ([.int x, .int n, v]) (n := 3) hlg
  rw [lg_entry_eq]
  generalize (lg_sl ([.int x, .int n, v]) ++ List.replicate (3 - (lg_sl ([.int x, .int n, v])).length) Slot.unset).toArray = ls at hl ⊢
  have hl : lv_has ls 3 [(0, .int x), (1, .int n), (2, v)] := hl
  show W p l e (rmD 0 0 0) _ _ _ _ _ _ _ _ _ _ _ _
  obtain ⟨⟨hx, hb, hml, hown, hts⟩, htb, hlk, hkk, hbs⟩ := id C
  refine lv_iload_n hx hb dJ3_checkIndex_8e157_0 rfl (lv_at hl 0 rfl) ?_
  refine lv_if_lt (tgt := 9) hx hb dJ3_checkIndex_8e157_1 (by decide) (fun cn => absurd cn h0) (fun cn => ?_)
  refine lv_iload_n hx hb dJ3_checkIndex_8e157_4 rfl (lv_at hl 0 rfl) ?_
  refine lv_iload_n hx hb dJ3_checkIndex_8e157_5 rfl (lv_at hl 1 rfl) ?_
  refine lv_icmp_lt (tgt := 16) hx hb dJ3_checkIndex_8e157_6 (by decide) (fun cn => ?_) (fun cn => absurd h1 cn)
  refine lv_iload_n hx hb dJ3_checkIndex_8e157_16 rfl (lv_at hl 0 rfl) ?_
  exact pg_iret C hr hH rfl dJ3_checkIndex_8e157_17
set_option maxHeartbeats 4000000 in
set_option maxRecDepth 100000 in
theorem c_J0_checkIndex {x n : Int32} (h0 : ¬ x < 0) (h1 : x < n) : Met l yJ0_checkIndex_df160 (Cond.code yJ0_checkIndex_df160 cJ0_checkIndex_df160 2 none :: TB) (rmD 1 0 0) (PcH g [.int x, .int n] h) (QcV g h) 0 0 (aB g) := by
  refine Met.ofW (cc := cJ0_checkIndex_df160) (maxL := 2) (ret := none) (by decide) rfl ?_
  intro p e s m args below meth c s₁ B hml hv
  obtain ⟨rfl, hH0, hkk0⟩ := hv
  have C : CT g RJ0 cJ0_checkIndex_df160 2 (Cond.code yJ0_checkIndex_df160 cJ0_checkIndex_df160 2 none :: TB) p s m _ meth c := pg_ct (Tw := []) B hml hH0 hkk0
  have hr := B.returns
  have hH : HS g s s.heap [] h := ⟨hH0, va_S.rf⟩
  have hl := lv_entry ([.int x, .int n]) (n := 2) (Nat.le_of_ble_eq_true rfl)
  rw [lg_entry_eq]
  generalize (lg_sl ([.int x, .int n]) ++ List.replicate (2 - (lg_sl ([.int x, .int n])).length) Slot.unset).toArray = ls at hl ⊢
  have hl : lv_has ls 2 [(0, .int x), (1, .int n)] := hl
  show W p l e (rmD 1 0 0) _ _ _ _ _ _ _ _ _ _ _ _
  obtain ⟨⟨hx, hb, hml, hown, hts⟩, htb, hlk, hkk, hbs⟩ := id C
  refine lv_iload_n hx hb dJ0_checkIndex_df160_0 rfl (lv_at hl 0 rfl) ?_
  refine lv_iload_n hx hb dJ0_checkIndex_df160_1 rfl (lv_at hl 1 rfl) ?_
  have key : ∀ v : Value, v.category = 1 → va_Z "jdk/internal/util/Preconditions" "SIOOBE_FORMATTER" "Ljava/util/function/BiFunction;" v (fun a => gB g ≤ a) s s.heap → W p l e (rmD 1 0 0) s m #[.int x, .int n] below meth c s.heap [] 0 0 (MQ below (QcV g h) #[.int x, .int n] s 0 0 (aB g)) (F0 m 2 ls [.int n, .int x]) := by
    intro v hc hZ
    refine va_gets hx hb hZ hH.2 hown (hts _ (htb _ fj_1053)) (fun _ h9 => h9) dJ0_checkIndex_df160_2 ?_
    refine pg_Si (As := [.int x, .int n, v]) (o := some (x, h)) (kf := fun r h1 => some h1) C hH mi_J3_checkIndex_8e157 sl_J0_1059 (rr := h) rfl (fun r1 h2 e1 => by cases e1; exact c_J3_checkIndex hc h0 h1) rfl rfl hl.1 (Nat.le_of_ble_eq_true rfl) ⟨Nat.le_of_ble_eq_true rfl, Nat.le_of_ble_eq_true rfl⟩ ⟨Nat.zero_le _, Nat.zero_le _⟩ dJ0_checkIndex_df160_5 (fun H locs r1 h1 hH hf => ?_)
    cases hf
    refine lv_pop hx hb dJ0_checkIndex_df160_8 rfl ?_
    exact pg_vret C hr hH rfl dJ0_checkIndex_df160_9
  rcases hkk.2.2.2.2.2.2.2 with hZ | ⟨t, hZ⟩
  · exact key _ rfl hZ
  · exact key _ rfl hZ
theorem sb_all : ∀ i, i < 7 → ∀ k, k < strL.getD i 0 → (((((strB.getD i []).getD k 0 &&& 255).toUInt32 % 65536).toInt32 = (strB.getD i []).getD k 0)) := by decide +kernel
theorem sl_all : ∀ i, i < 7 → ((Int32.ofNat (strL.getD i 0) >>> ((0 : Int32) &&& 31)) = Int32.ofNat (strL.getD i 0)) ∧ strL.getD i 0 < 2 ^ 31 := by decide +kernel
set_option maxHeartbeats 4000000 in
set_option maxRecDepth 100000 in
theorem c_J1_charAt {i : Nat} (hi : i < 7) {k x : Int32} (hk : kAt i k = some x) : Met l yJ1_charAt_3b067 (Cond.code yJ1_charAt_3b067 cJ1_charAt_3b067 2 (some .char) :: TB) (rmD 2 0 0) (PcH g [.ref (gV g i), .int k] h) (QcI g x h) 0 0 (aB g) := by
  refine Met.ofW (cc := cJ1_charAt_3b067) (maxL := 2) (ret := some .char) (by decide) rfl ?_
  intro p e s m args below meth c s₁ B hml hv
  obtain ⟨rfl, hH0, hkk0⟩ := hv
  have C : CT g RJ1 cJ1_charAt_3b067 2 (Cond.code yJ1_charAt_3b067 cJ1_charAt_3b067 2 (some .char) :: TB) p s m _ meth c := pg_ct (Tw := []) B hml hH0 hkk0
  have hr := B.returns
  have hH : HS g s s.heap [] h := ⟨hH0, va_S.rf⟩
  have hl := lv_entry ([.ref (gV g i), .int k]) (n := 2) (Nat.le_of_ble_eq_true rfl)
  rw [lg_entry_eq]
  generalize (lg_sl ([.ref (gV g i), .int k]) ++ List.replicate (2 - (lg_sl ([.ref (gV g i), .int k])).length) Slot.unset).toArray = ls at hl ⊢
  have hl : lv_has ls 2 [(0, .ref (gV g i)), (1, .int k)] := hl
  show W p l e (rmD 2 0 0) _ _ _ _ _ _ _ _ _ _ _ _
  obtain ⟨⟨hx, hb, hml, hown, hts⟩, htb, hlk, hkk, hbs⟩ := id C
  obtain ⟨kO, kC, kV, kT⟩ := hkk.2.2.2.2.1.1 i hi
  obtain ⟨-, hin, hv⟩ := kAt_sp hk
  have hz := vp_in_iff.mp hin
  have hlt : k.toNatClampNeg < strL.getD i 0 := Nat.not_le.mp fun q => hin (Or.inr q)
  refine lv_iload_n hx hb dJ1_charAt_3b067_0 rfl (lv_at hl 1 rfl) ?_
  refine lv_aload_n hx hb dJ1_charAt_3b067_1 rfl (lv_at hl 0 rfl) ?_
  refine va_tlen hx hb kT hH.2 (v := Int32.ofNat (strL.getD i 0)) rfl dJ1_charAt_3b067_2 ?_
  refine pg_Sv (As := [.int k, .int (Int32.ofNat (strL.getD i 0))]) (o := some h) (kf := fun h1 => some h1) C hH mi_J0_checkIndex_df160 sl_J1_9 (rr := h) rfl (fun h2 e1 => by cases e1; exact c_J0_checkIndex (fun q => hin (Or.inl q)) (by
    rw [Int32.lt_iff_toInt_lt, show (Int32.ofNat (strL.getD i 0)).toInt = ((strL.getD i 0 : Nat) : Int) from nI_toInt (sl_all i hi).2]
    exact hz.2)) rfl rfl hl.1 (Nat.le_of_ble_eq_true rfl) ⟨Nat.le_of_ble_eq_true rfl, Nat.le_of_ble_eq_true rfl⟩ ⟨Nat.zero_le _, Nat.zero_le _⟩ dJ1_charAt_3b067_3 (fun H locs h1 hH hf => ?_)
  cases hf
  refine lv_aload_n hx hb dJ1_charAt_3b067_6 rfl (lv_at hl 0 rfl) ?_
  refine lv_iload_n hx hb dJ1_charAt_3b067_7 rfl (lv_at hl 1 rfl) ?_
  refine va_tb hx hb kT hH.2 hin (v := .int x) (by rw [hv]) dJ1_charAt_3b067_8 ?_
  refine lv_sipush (v := (255 : Int32)) hx hb dJ1_charAt_3b067_9 (by decide) ?_
  refine lv_iand hx hb dJ1_charAt_3b067_12 ?_
  refine lv_i2c (v := x) hx hb dJ1_charAt_3b067_13 (by rw [← hv]; exact sb_all i hi _ hlt) ?_
  refine pg_tret (ty := .char) C hr ?_ hH dJ1_charAt_3b067_14
  rw [← hv, ← sb_all i hi _ hlt]
  exact pk_nc _
set_option maxHeartbeats 4000000 in
set_option maxRecDepth 100000 in
theorem c_J0_coder {i : Nat} (hi : i < 7) : Met l yJ0_coder_7d493 (Cond.code yJ0_coder_7d493 cJ0_coder_7d493 1 (some .byte) :: TB) (rmD 0 0 0) (PcH g [.ref (gK g i)] h) (QcI g 0 h) 0 0 (aB g) := by
  refine Met.ofW (cc := cJ0_coder_7d493) (maxL := 1) (ret := some .byte) (by decide) rfl ?_
  intro p e s m args below meth c s₁ B hml hv
  obtain ⟨rfl, hH0, hkk0⟩ := hv
  have C : CT g RJ0 cJ0_coder_7d493 1 (Cond.code yJ0_coder_7d493 cJ0_coder_7d493 1 (some .byte) :: TB) p s m _ meth c := pg_ct (Tw := []) B hml hH0 hkk0
  have hr := B.returns
  have hH : HS g s s.heap [] h := ⟨hH0, va_S.rf⟩
  have hl := lv_entry ([.ref (gK g i)]) (n := 1) (Nat.le_of_ble_eq_true rfl)
  rw [lg_entry_eq]
  generalize (lg_sl ([.ref (gK g i)]) ++ List.replicate (1 - (lg_sl ([.ref (gK g i)])).length) Slot.unset).toArray = ls at hl ⊢
  have hl : lv_has ls 1 [(0, .ref (gK g i))] := hl
  show W p l e (rmD 0 0 0) _ _ _ _ _ _ _ _ _ _ _ _
  obtain ⟨⟨hx, hb, hml, hown, hts⟩, htb, hlk, hkk, hbs⟩ := id C
  obtain ⟨kO, kC, kV, kT⟩ := hkk.2.2.2.2.1.1 i hi
  refine va_gets hx hb hkk.2.2.2.2.2.2.1 hH.2 hown (hts _ (htb _ fj_38)) (fun _ h9 => h9) dJ0_coder_7d493_0 ?_
  refine lv_if_eq (tgt := 13) hx hb dJ0_coder_7d493_3 (by decide) (fun cn => absurd cn (by decide)) (fun cn => ?_)
  refine lv_aload_n hx hb dJ0_coder_7d493_6 rfl (lv_at hl 0 rfl) ?_
  refine vk_getf hx hb kC hH.2 hown (hts _ (htb _ fj_15)) (fun _ h9 => h9) dJ0_coder_7d493_7 ?_
  refine lv_goto (tgt := 14) hx hb dJ0_coder_7d493_10 (by decide) ?_
  exact pg_tret (ty := .byte) C hr rfl hH dJ0_coder_7d493_14
set_option maxHeartbeats 4000000 in
set_option maxRecDepth 100000 in
theorem c_J0_isLatin1 {i : Nat} (hi : i < 7) : Met l yJ0_isLatin1_aae02 (Cond.code yJ0_isLatin1_aae02 cJ0_isLatin1_aae02 1 (some .boolean) :: TB) (rmD 0 0 0) (PcH g [.ref (gK g i)] h) (QcI g 1 h) 0 0 (aB g) := by
  refine Met.ofW (cc := cJ0_isLatin1_aae02) (maxL := 1) (ret := some .boolean) (by decide) rfl ?_
  intro p e s m args below meth c s₁ B hml hv
  obtain ⟨rfl, hH0, hkk0⟩ := hv
  have C : CT g RJ0 cJ0_isLatin1_aae02 1 (Cond.code yJ0_isLatin1_aae02 cJ0_isLatin1_aae02 1 (some .boolean) :: TB) p s m _ meth c := pg_ct (Tw := []) B hml hH0 hkk0
  have hr := B.returns
  have hH : HS g s s.heap [] h := ⟨hH0, va_S.rf⟩
  have hl := lv_entry ([.ref (gK g i)]) (n := 1) (Nat.le_of_ble_eq_true rfl)
  rw [lg_entry_eq]
  generalize (lg_sl ([.ref (gK g i)]) ++ List.replicate (1 - (lg_sl ([.ref (gK g i)])).length) Slot.unset).toArray = ls at hl ⊢
  have hl : lv_has ls 1 [(0, .ref (gK g i))] := hl
  show W p l e (rmD 0 0 0) _ _ _ _ _ _ _ _ _ _ _ _
  obtain ⟨⟨hx, hb, hml, hown, hts⟩, htb, hlk, hkk, hbs⟩ := id C
  obtain ⟨kO, kC, kV, kT⟩ := hkk.2.2.2.2.1.1 i hi
  refine va_gets hx hb hkk.2.2.2.2.2.2.1 hH.2 hown (hts _ (htb _ fj_38)) (fun _ h9 => h9) dJ0_isLatin1_aae02_0 ?_
  refine lv_if_eq (tgt := 17) hx hb dJ0_isLatin1_aae02_3 (by decide) (fun cn => absurd cn (by decide)) (fun cn => ?_)
  refine lv_aload_n hx hb dJ0_isLatin1_aae02_6 rfl (lv_at hl 0 rfl) ?_
  refine vk_getf hx hb kC hH.2 hown (hts _ (htb _ fj_15)) (fun _ h9 => h9) dJ0_isLatin1_aae02_7 ?_
  refine lv_if_ne (tgt := 17) hx hb dJ0_isLatin1_aae02_10 (by decide) (fun cn => absurd rfl cn) (fun cn => ?_)
  refine lv_iconst (v := (1 : Int32)) hx hb dJ0_isLatin1_aae02_13 (by decide) ?_
  refine lv_goto (tgt := 18) hx hb dJ0_isLatin1_aae02_14 (by decide) ?_
  exact pg_tret (ty := .boolean) C hr rfl hH dJ0_isLatin1_aae02_18
set_option maxHeartbeats 4000000 in
set_option maxRecDepth 100000 in
theorem c_J0_length {i : Nat} (hi : i < 7) : Met l yJ0_length_8abf5 (Cond.code yJ0_length_8abf5 cJ0_length_8abf5 1 (some .int) :: TB) (rmD 1 0 0) (PcH g [.ref (gK g i)] h) (QcI g (Int32.ofNat (strL.getD i 0)) h) 0 0 (aB g) := by
  refine Met.ofW (cc := cJ0_length_8abf5) (maxL := 1) (ret := some .int) (by decide) rfl ?_
  intro p e s m args below meth c s₁ B hml hv
  obtain ⟨rfl, hH0, hkk0⟩ := hv
  have C : CT g RJ0 cJ0_length_8abf5 1 (Cond.code yJ0_length_8abf5 cJ0_length_8abf5 1 (some .int) :: TB) p s m _ meth c := pg_ct (Tw := []) B hml hH0 hkk0
  have hr := B.returns
  have hH : HS g s s.heap [] h := ⟨hH0, va_S.rf⟩
  have hl := lv_entry ([.ref (gK g i)]) (n := 1) (Nat.le_of_ble_eq_true rfl)
  rw [lg_entry_eq]
  generalize (lg_sl ([.ref (gK g i)]) ++ List.replicate (1 - (lg_sl ([.ref (gK g i)])).length) Slot.unset).toArray = ls at hl ⊢
  have hl : lv_has ls 1 [(0, .ref (gK g i))] := hl
  show W p l e (rmD 1 0 0) _ _ _ _ _ _ _ _ _ _ _ _
  obtain ⟨⟨hx, hb, hml, hown, hts⟩, htb, hlk, hkk, hbs⟩ := id C
  obtain ⟨kO, kC, kV, kT⟩ := hkk.2.2.2.2.1.1 i hi
  refine lv_aload_n hx hb dJ0_length_8abf5_0 rfl (lv_at hl 0 rfl) ?_
  refine vk_getf hx hb kV hH.2 hown (hts _ (htb _ fj_9)) (fun _ h9 => h9) dJ0_length_8abf5_1 ?_
  refine va_tlen hx hb kT hH.2 (v := Int32.ofNat (strL.getD i 0)) rfl dJ0_length_8abf5_4 ?_
  refine lv_aload_n hx hb dJ0_length_8abf5_5 rfl (lv_at hl 0 rfl) ?_
  refine pg_Ri (As := []) C hH mi_J0_coder_7d493 vl_J0_335 (vk_recv hkk.2.2.2.2.1 hi hH.2) (c_J0_coder hi) rfl rfl hl.1 (Nat.le_of_ble_eq_true rfl) ⟨Nat.le_of_ble_eq_true rfl, Nat.le_of_ble_eq_true rfl⟩ ⟨Nat.zero_le _, Nat.zero_le _⟩ dJ0_length_8abf5_6 (fun H locs hH => ?_)
  refine lv_ishr hx hb dJ0_length_8abf5_9 ?_
  refine pg_iret C hr hH ?_ dJ0_length_8abf5_10
  rw [(sl_all i hi).1]
set_option maxHeartbeats 4000000 in
set_option maxRecDepth 100000 in
theorem c_J0_charAt {i : Nat} (hi : i < 7) {k x : Int32} (hk : kAt i k = some x) : Met l yJ0_charAt_5068e (Cond.code yJ0_charAt_5068e cJ0_charAt_5068e 2 (some .char) :: TB) (rmD 3 0 0) (PcH g [.ref (gK g i), .int k] h) (QcI g x h) 0 0 (aB g) := by
  refine Met.ofW (cc := cJ0_charAt_5068e) (maxL := 2) (ret := some .char) (by decide) rfl ?_
  intro p e s m args below meth c s₁ B hml hv
  obtain ⟨rfl, hH0, hkk0⟩ := hv
  have C : CT g RJ0 cJ0_charAt_5068e 2 (Cond.code yJ0_charAt_5068e cJ0_charAt_5068e 2 (some .char) :: TB) p s m _ meth c := pg_ct (Tw := []) B hml hH0 hkk0
  have hr := B.returns
  have hH : HS g s s.heap [] h := ⟨hH0, va_S.rf⟩
  have hl := lv_entry ([.ref (gK g i), .int k]) (n := 2) (Nat.le_of_ble_eq_true rfl)
  rw [lg_entry_eq]
  generalize (lg_sl ([.ref (gK g i), .int k]) ++ List.replicate (2 - (lg_sl ([.ref (gK g i), .int k])).length) Slot.unset).toArray = ls at hl ⊢
  have hl : lv_has ls 2 [(0, .ref (gK g i)), (1, .int k)] := hl
  show W p l e (rmD 3 0 0) _ _ _ _ _ _ _ _ _ _ _ _
  obtain ⟨⟨hx, hb, hml, hown, hts⟩, htb, hlk, hkk, hbs⟩ := id C
  obtain ⟨kO, kC, kV, kT⟩ := hkk.2.2.2.2.1.1 i hi
  refine lv_aload_n hx hb dJ0_charAt_5068e_0 rfl (lv_at hl 0 rfl) ?_
  refine pg_Ri (As := []) C hH mi_J0_isLatin1_aae02 vl_J0_492 (vk_recv hkk.2.2.2.2.1 hi hH.2) (c_J0_isLatin1 hi) rfl rfl hl.1 (Nat.le_of_ble_eq_true rfl) ⟨Nat.le_of_ble_eq_true rfl, Nat.le_of_ble_eq_true rfl⟩ ⟨Nat.zero_le _, Nat.zero_le _⟩ dJ0_charAt_5068e_1 (fun H locs hH => ?_)
  refine lv_if_eq (tgt := 16) hx hb dJ0_charAt_5068e_4 (by decide) (fun cn => absurd cn (by decide)) (fun cn => ?_)
  refine lv_aload_n hx hb dJ0_charAt_5068e_7 rfl (lv_at hl 0 rfl) ?_
  refine vk_getf hx hb kV hH.2 hown (hts _ (htb _ fj_9)) (fun _ h9 => h9) dJ0_charAt_5068e_8 ?_
  refine lv_iload_n hx hb dJ0_charAt_5068e_11 rfl (lv_at hl 1 rfl) ?_
  refine pg_Si (As := [.ref (gV g i), .int k]) (o := some (x, h)) (kf := fun r1 h1 => some (r1, h1)) C hH mi_J1_charAt_3b067 sl_J0_495 (rr := (x, h)) rfl (fun r1 h2 e1 => by cases e1; exact c_J1_charAt hi hk) rfl rfl hl.1 (Nat.le_of_ble_eq_true rfl) ⟨Nat.le_of_ble_eq_true rfl, Nat.le_of_ble_eq_true rfl⟩ ⟨Nat.zero_le _, Nat.zero_le _⟩ dJ0_charAt_5068e_12 (fun H locs r1 h1 hH hf => ?_)
  cases hf
  refine pg_tret (ty := .char) C hr ?_ hH dJ0_charAt_5068e_15
  obtain ⟨-, hin, hv⟩ := kAt_sp hk
  have hlt : k.toNatClampNeg < strL.getD i 0 := Nat.not_le.mp fun q => hin (Or.inr q)
  rw [← hv, ← sb_all i hi _ hlt]
  exact pk_nc _
end RJ2
section RJ3
variable {p : Program} {l : Launch} {e : Env} {R : Room} {s : State} {m : MethodId} {args : Array Value} {below : List Frame} {meth : Method} {c : Code} {H : Heap} {locs : List Loc} {cells slots : Nat} {Q : State → Prop}
variable {cc : ByteArray} {pc : Nat} {ls : Array Slot} {rest : List Value} {g : GD} {own : String} {nL : Nat} {Ts : List Cond} {h : PH}
theorem pg_kLen {β : Type} {r : β} {i index : Nat} {kf : Int32 → Option β} (C : CT g own cc nL Ts p s m args meth c) (hH : HS g s H locs h) (L : VL own index yJ0_length_8abf5) (hf : (kLen i).bind kf = some r) (hls : ls.size = nL) (hcat : (rest.map fun v => v.category).sum ≤ 8) (hR : 1 + 1 ≤ R.frames ∧ 8 + (1 + 11) + 41 * 1 ≤ R.locals) (hcs : cells ≤ R.cells ∧ slots ≤ R.slots) (hdg : decode cc pc = .ok (.invokevirtual index, 3))
    (kq : ∀ (H : Heap) (locs : List Loc) (v : Int32), HS g s H locs h → kf v = some r → W p l e R s m args below meth c H locs cells slots Q (F0 m (pc + 3) ls (.int v :: rest))) : W p l e R s m args below meth c H locs cells slots Q (F0 m pc ls (.ref (gK g i) :: rest)) := by
  obtain ⟨v, e1, hf⟩ := bnd hf
  obtain ⟨hi, rfl⟩ := kLen_sp e1
  exact pg_Ri (As := []) C hH mi_J0_length_8abf5 L (vk_recv C.2.2.2.1.2.2.2.2.1 hi hH.2) (c_J0_length hi) rfl rfl hls hcat hR hcs hdg (fun H locs hH => kq H locs _ hH hf)
theorem pg_kAt {β : Type} {r : β} {i index : Nat} {k : Int32} {kf : Int32 → Option β} (C : CT g own cc nL Ts p s m args meth c) (hH : HS g s H locs h) (L : VL own index yJ0_charAt_5068e) (hf : (kAt i k).bind kf = some r) (hls : ls.size = nL) (hcat : (rest.map fun v => v.category).sum ≤ 8) (hR : 3 + 1 ≤ R.frames ∧ 8 + (2 + 11) + 41 * 3 ≤ R.locals) (hcs : cells ≤ R.cells ∧ slots ≤ R.slots) (hdg : decode cc pc = .ok (.invokevirtual index, 3))
    (kq : ∀ (H : Heap) (locs : List Loc) (v : Int32), HS g s H locs h → kf v = some r → W p l e R s m args below meth c H locs cells slots Q (F0 m (pc + 3) ls (.int v :: rest))) : W p l e R s m args below meth c H locs cells slots Q (F0 m pc ls (.int k :: .ref (gK g i) :: rest)) := by
  obtain ⟨v, e1, hf⟩ := bnd hf
  have hi := (kAt_sp e1).1
  exact pg_Ri (As := [.int k]) C hH mi_J0_charAt_5068e L (vk_recv C.2.2.2.1.2.2.2.2.1 hi hH.2) (c_J0_charAt hi e1) rfl rfl hls hcat hR hcs hdg (fun H locs hH => kq H locs _ hH hf)
end RJ3

