/-! ===== 12: words of constructors (by program) ===== -/
theorem ff_0_0 : FF RX0 0 0 (.array (.array .int)) := ⟨_, rfl, rfl, rfl, by decide +kernel⟩
theorem ff_1_0 : FF RX1 1 0 (.object "WorthLadder$World") := ⟨_, rfl, rfl, rfl, by decide +kernel⟩
theorem ff_1_1 : FF RX1 1 1 (.object "WorthLadder$Ledger") := ⟨_, rfl, rfl, rfl, by decide +kernel⟩
theorem ff_1_2 : FF RX1 1 2 (.array .int) := ⟨_, rfl, rfl, rfl, by decide +kernel⟩
theorem ff_1_3 : FF RX1 1 3 (.array .long) := ⟨_, rfl, rfl, rfl, by decide +kernel⟩
theorem ff_1_8 : FF RX1 1 8 (.array .int) := ⟨_, rfl, rfl, rfl, by decide +kernel⟩
theorem ff_10_1 : FF RX10 10 1 (.array .int) := ⟨_, rfl, rfl, rfl, by decide +kernel⟩
theorem ff_10_2 : FF RX10 10 2 (.array .int) := ⟨_, rfl, rfl, rfl, by decide +kernel⟩
theorem ff_10_3 : FF RX10 10 3 (.array .int) := ⟨_, rfl, rfl, rfl, by decide +kernel⟩
theorem ff_10_4 : FF RX10 10 4 (.array .int) := ⟨_, rfl, rfl, rfl, by decide +kernel⟩
theorem ff_10_5 : FF RX10 10 5 (.array .boolean) := ⟨_, rfl, rfl, rfl, by decide +kernel⟩
theorem ff_10_7 : FF RX10 10 7 (.array .byte) := ⟨_, rfl, rfl, rfl, by decide +kernel⟩
theorem ff_10_17 : FF RX10 10 17 (.array .long) := ⟨_, rfl, rfl, rfl, by decide +kernel⟩
theorem ff_10_18 : FF RX10 10 18 (.array .int) := ⟨_, rfl, rfl, rfl, by decide +kernel⟩
theorem ff_10_19 : FF RX10 10 19 (.array .int) := ⟨_, rfl, rfl, rfl, by decide +kernel⟩
theorem ff_10_21 : FF RX10 10 21 (.array .long) := ⟨_, rfl, rfl, rfl, by decide +kernel⟩
theorem ff_10_26 : FF RX10 10 26 (.array .long) := ⟨_, rfl, rfl, rfl, by decide +kernel⟩
theorem ff_10_29 : FF RX10 10 29 (.array .int) := ⟨_, rfl, rfl, rfl, by decide +kernel⟩
theorem ff_10_32 : FF RX10 10 32 (.array .int) := ⟨_, rfl, rfl, rfl, by decide +kernel⟩
theorem ff_2_0 : FF RX2 2 0 (.object "WorthLadder$World") := ⟨_, rfl, rfl, rfl, by decide +kernel⟩
theorem ff_2_1 : FF RX2 2 1 (.array .int) := ⟨_, rfl, rfl, rfl, by decide +kernel⟩
theorem ff_2_2 : FF RX2 2 2 (.array .boolean) := ⟨_, rfl, rfl, rfl, by decide +kernel⟩
theorem ff_2_4 : FF RX2 2 4 (.array .int) := ⟨_, rfl, rfl, rfl, by decide +kernel⟩
theorem ff_2_5 : FF RX2 2 5 (.array (.array .int)) := ⟨_, rfl, rfl, rfl, by decide +kernel⟩
theorem ff_2_6 : FF RX2 2 6 (.array .long) := ⟨_, rfl, rfl, rfl, by decide +kernel⟩
theorem ff_2_7 : FF RX2 2 7 (.array .int) := ⟨_, rfl, rfl, rfl, by decide +kernel⟩
theorem ff_3_0 : FF RX3 3 0 (.array .byte) := ⟨_, rfl, rfl, rfl, by decide +kernel⟩
theorem ff_4_0 : FF RX4 4 0 (.object "WorthLadder$Tokens") := ⟨_, rfl, rfl, rfl, by decide +kernel⟩
theorem ff_4_1 : FF RX4 4 1 (.object "WorthLadder$World") := ⟨_, rfl, rfl, rfl, by decide +kernel⟩
theorem ff_4_2 : FF RX4 4 2 (.array .long) := ⟨_, rfl, rfl, rfl, by decide +kernel⟩
theorem ff_4_3 : FF RX4 4 3 (.array .int) := ⟨_, rfl, rfl, rfl, by decide +kernel⟩
theorem ff_4_4 : FF RX4 4 4 (.array .int) := ⟨_, rfl, rfl, rfl, by decide +kernel⟩
theorem ff_5_0 : FF RX5 5 0 (.object "WorthLadder$World") := ⟨_, rfl, rfl, rfl, by decide +kernel⟩
theorem ff_5_1 : FF RX5 5 1 (.object "WorthLadder$Ledger") := ⟨_, rfl, rfl, rfl, by decide +kernel⟩
theorem ff_5_2 : FF RX5 5 2 (.array .int) := ⟨_, rfl, rfl, rfl, by decide +kernel⟩
theorem ff_5_3 : FF RX5 5 3 (.array .int) := ⟨_, rfl, rfl, rfl, by decide +kernel⟩
theorem ff_6_0 : FF RX6 6 0 (.array .byte) := ⟨_, rfl, rfl, rfl, by decide +kernel⟩
theorem ff_7_0 : FF RX7 7 0 (.array .byte) := ⟨_, rfl, rfl, rfl, by decide +kernel⟩
theorem ff_7_1 : FF RX7 7 1 (.array .long) := ⟨_, rfl, rfl, rfl, by decide +kernel⟩
theorem ff_8_0 : FF RX8 8 0 (.array .int) := ⟨_, rfl, rfl, rfl, by decide +kernel⟩
theorem ff_8_1 : FF RX8 8 1 (.array .int) := ⟨_, rfl, rfl, rfl, by decide +kernel⟩
theorem ff_8_2 : FF RX8 8 2 (.array (.array .int)) := ⟨_, rfl, rfl, rfl, by decide +kernel⟩
theorem ff_8_3 : FF RX8 8 3 (.array (.array .int)) := ⟨_, rfl, rfl, rfl, by decide +kernel⟩
theorem ff_8_4 : FF RX8 8 4 (.array (.array .int)) := ⟨_, rfl, rfl, rfl, by decide +kernel⟩
theorem ff_8_5 : FF RX8 8 5 (.array .long) := ⟨_, rfl, rfl, rfl, by decide +kernel⟩
theorem ff_8_6 : FF RX8 8 6 (.array (.array .int)) := ⟨_, rfl, rfl, rfl, by decide +kernel⟩
theorem ff_8_7 : FF RX8 8 7 (.array (.array .int)) := ⟨_, rfl, rfl, rfl, by decide +kernel⟩
theorem ff_9_0 : FF RX9 9 0 (.object "WorthLadder$Tape") := ⟨_, rfl, rfl, rfl, by decide +kernel⟩
theorem ff_9_1 : FF RX9 9 1 (.object "WorthLadder$World") := ⟨_, rfl, rfl, rfl, by decide +kernel⟩
theorem ff_9_2 : FF RX9 9 2 (.object "WorthLadder$World") := ⟨_, rfl, rfl, rfl, by decide +kernel⟩
theorem ff_9_3 : FF RX9 9 3 (.array (.object "WorthLadder$World")) := ⟨_, rfl, rfl, rfl, by decide +kernel⟩
theorem ff_9_4 : FF RX9 9 4 (.object "WorthLadder$Reader") := ⟨_, rfl, rfl, rfl, by decide +kernel⟩
theorem ff_9_5 : FF RX9 9 5 (.object "WorthLadder$Ledger") := ⟨_, rfl, rfl, rfl, by decide +kernel⟩
theorem ff_9_6 : FF RX9 9 6 (.object "WorthLadder$Ladder") := ⟨_, rfl, rfl, rfl, by decide +kernel⟩
theorem ff_9_7 : FF RX9 9 7 (.object "WorthLadder$Spans") := ⟨_, rfl, rfl, rfl, by decide +kernel⟩
theorem ff_9_8 : FF RX9 9 8 (.object "WorthLadder$Acts") := ⟨_, rfl, rfl, rfl, by decide +kernel⟩
theorem ff_9_9 : FF RX9 9 9 (.object "WorthLadder$Page") := ⟨_, rfl, rfl, rfl, by decide +kernel⟩
theorem nc_X4_22 : NC RX4 22 7 8 [.inr (.inr none), .inr (.inr none), .inl 0, .inl 0, .inl 0, .inl 0, .inl 0, .inr (.inl 0)] := ⟨RX7, TX7, tyX7, rfl, tbX7, tyX7_ok, TB_mem 238 (by decide +kernel) rfl, TB_mem 239 (by decide +kernel) rfl, TB_mem 118 (by decide +kernel) rfl, fun B j hj => by
  match j, hj with
  | 0, _ => rfl
  | 1, _ => rfl
  | 2, _ => rfl
  | 3, _ => rfl
  | 4, _ => rfl
  | 5, _ => rfl
  | 6, _ => rfl
  | 7, _ => rfl
  | j + 8, hj => exact absurd hj (by omega)⟩
theorem nc_X9_9 : NC RX9 9 6 2 [.inr (.inr none), .inl 0] := ⟨RX6, TX6, tyX6, rfl, tbX6, tyX6_ok, TB_mem 143 (by decide +kernel) rfl, TB_mem 144 (by decide +kernel) rfl, TB_mem 114 (by decide +kernel) rfl, fun B j hj => by
  match j, hj with
  | 0, _ => rfl
  | 1, _ => rfl
  | j + 2, hj => exact absurd hj (by omega)⟩
theorem nc_X9_16 : NC RX9 16 8 8 [.inr (.inr none), .inr (.inr none), .inr (.inr none), .inr (.inr none), .inr (.inr none), .inr (.inr none), .inr (.inr none), .inr (.inr none)] := ⟨RX8, TX8, tyX8, rfl, tbX8, tyX8_ok, TB_mem 159 (by decide +kernel) rfl, TB_mem 160 (by decide +kernel) rfl, TB_mem 115 (by decide +kernel) rfl, fun B j hj => by
  match j, hj with
  | 0, _ => rfl
  | 1, _ => rfl
  | 2, _ => rfl
  | 3, _ => rfl
  | 4, _ => rfl
  | 5, _ => rfl
  | 6, _ => rfl
  | 7, _ => rfl
  | j + 8, hj => exact absurd hj (by omega)⟩
theorem nc_X9_30 : NC RX9 30 4 8 [.inr (.inr none), .inr (.inr none), .inr (.inr none), .inr (.inr none), .inr (.inr none), .inl 0, .inl 0, .inl 0] := ⟨RX4, TX4, tyX4, rfl, tbX4, tyX4_ok, TB_mem 232 (by decide +kernel) rfl, TB_mem 233 (by decide +kernel) rfl, TB_mem 117 (by decide +kernel) rfl, fun B j hj => by
  match j, hj with
  | 0, _ => rfl
  | 1, _ => rfl
  | 2, _ => rfl
  | 3, _ => rfl
  | 4, _ => rfl
  | 5, _ => rfl
  | 6, _ => rfl
  | 7, _ => rfl
  | j + 8, hj => exact absurd hj (by omega)⟩
theorem nc_X9_39 : NC RX9 39 2 8 [.inr (.inr none), .inr (.inr none), .inr (.inr none), .inl 0, .inr (.inr none), .inr (.inr none), .inr (.inr none), .inr (.inr none)] := ⟨RX2, TX2, tyX2, rfl, tbX2, tyX2_ok, TB_mem 354 (by decide +kernel) rfl, TB_mem 355 (by decide +kernel) rfl, TB_mem 123 (by decide +kernel) rfl, fun B j hj => by
  match j, hj with
  | 0, _ => rfl
  | 1, _ => rfl
  | 2, _ => rfl
  | 3, _ => rfl
  | 4, _ => rfl
  | 5, _ => rfl
  | 6, _ => rfl
  | 7, _ => rfl
  | j + 8, hj => exact absurd hj (by omega)⟩
theorem nc_X9_48 : NC RX9 48 1 11 [.inr (.inr none), .inr (.inr none), .inr (.inr none), .inr (.inr none), .inl 0, .inl 0, .inr (.inl 0), .inl 0, .inr (.inr none), .inl 0, .inl 0] := ⟨RX1, TX1, tyX1, rfl, tbX1, tyX1_ok, TB_mem 393 (by decide +kernel) rfl, TB_mem 394 (by decide +kernel) rfl, TB_mem 124 (by decide +kernel) rfl, fun B j hj => by
  match j, hj with
  | 0, _ => rfl
  | 1, _ => rfl
  | 2, _ => rfl
  | 3, _ => rfl
  | 4, _ => rfl
  | 5, _ => rfl
  | 6, _ => rfl
  | 7, _ => rfl
  | 8, _ => rfl
  | 9, _ => rfl
  | 10, _ => rfl
  | j + 11, hj => exact absurd hj (by omega)⟩
theorem nc_X9_57 : NC RX9 57 5 5 [.inr (.inr none), .inr (.inr none), .inr (.inr none), .inr (.inr none), .inl 0] := ⟨RX5, TX5, tyX5, rfl, tbX5, tyX5_ok, TB_mem 441 (by decide +kernel) rfl, TB_mem 442 (by decide +kernel) rfl, TB_mem 125 (by decide +kernel) rfl, fun B j hj => by
  match j, hj with
  | 0, _ => rfl
  | 1, _ => rfl
  | 2, _ => rfl
  | 3, _ => rfl
  | 4, _ => rfl
  | j + 5, hj => exact absurd hj (by omega)⟩
theorem nc_X9_64 : NC RX9 64 0 3 [.inr (.inr none), .inl 0, .inl 0] := ⟨RX0, TX0, tyX0, rfl, tbX0, tyX0_ok, TB_mem 463 (by decide +kernel) rfl, TB_mem 464 (by decide +kernel) rfl, TB_mem 126 (by decide +kernel) rfl, fun B j hj => by
  match j, hj with
  | 0, _ => rfl
  | 1, _ => rfl
  | 2, _ => rfl
  | j + 3, hj => exact absurd hj (by omega)⟩
theorem nc_X9_71 : NC RX9 71 3 2 [.inr (.inr none), .inl 0] := ⟨RX3, TX3, tyX3, rfl, tbX3, tyX3_ok, TB_mem 481 (by decide +kernel) rfl, TB_mem 482 (by decide +kernel) rfl, TB_mem 127 (by decide +kernel) rfl, fun B j hj => by
  match j, hj with
  | 0, _ => rfl
  | 1, _ => rfl
  | j + 2, hj => exact absurd hj (by omega)⟩
theorem ar_I : Cond.arrayClass .int ∈ TB := TB_mem 229 (by decide +kernel) rfl
theorem ar_L : Cond.arrayClass .long ∈ TB := TB_mem 230 (by decide +kernel) rfl
theorem ar_B : Cond.arrayClass .byte ∈ TB := TB_mem 158 (by decide +kernel) rfl
theorem ar_Z : Cond.arrayClass .boolean ∈ TB := TB_mem 392 (by decide +kernel) rfl
theorem cw_X9_16 : Cond.classLink RX9 16 RX8 ∈ TB := TB_mem 159 (by decide +kernel) rfl
theorem mw_X0_11 : Cond.classLink RX0 11 ("[" ++ (FieldType.array .int).toString) ∈ TB := TB_mem 469 (by decide +kernel) rfl
theorem mw_X2_26 : Cond.classLink RX2 26 ("[" ++ (FieldType.array .int).toString) ∈ TB := TB_mem 360 (by decide +kernel) rfl
theorem mw_X8_18 : Cond.classLink RX8 18 ("[" ++ (FieldType.array .int).toString) ∈ TB := TB_mem 165 (by decide +kernel) rfl
theorem oi_X0_3 : OI RX0 3 := ⟨TB_mem 468 (by decide +kernel) rfl, TB_mem 141 (by decide +kernel) rfl, TB_mem 142 (by decide +kernel) rfl⟩
theorem oi_X1_3 : OI RX1 3 := ⟨TB_mem 398 (by decide +kernel) rfl, TB_mem 141 (by decide +kernel) rfl, TB_mem 142 (by decide +kernel) rfl⟩
theorem oi_X10_7 : OI RX10 7 := ⟨TB_mem 1158 (by decide +kernel) rfl, TB_mem 141 (by decide +kernel) rfl, TB_mem 142 (by decide +kernel) rfl⟩
theorem oi_X2_3 : OI RX2 3 := ⟨TB_mem 359 (by decide +kernel) rfl, TB_mem 141 (by decide +kernel) rfl, TB_mem 142 (by decide +kernel) rfl⟩
theorem oi_X3_3 : OI RX3 3 := ⟨TB_mem 486 (by decide +kernel) rfl, TB_mem 141 (by decide +kernel) rfl, TB_mem 142 (by decide +kernel) rfl⟩
theorem oi_X4_3 : OI RX4 3 := ⟨TB_mem 237 (by decide +kernel) rfl, TB_mem 141 (by decide +kernel) rfl, TB_mem 142 (by decide +kernel) rfl⟩
theorem oi_X5_3 : OI RX5 3 := ⟨TB_mem 446 (by decide +kernel) rfl, TB_mem 141 (by decide +kernel) rfl, TB_mem 142 (by decide +kernel) rfl⟩
theorem oi_X6_3 : OI RX6 3 := ⟨TB_mem 148 (by decide +kernel) rfl, TB_mem 141 (by decide +kernel) rfl, TB_mem 142 (by decide +kernel) rfl⟩
theorem oi_X7_3 : OI RX7 3 := ⟨TB_mem 243 (by decide +kernel) rfl, TB_mem 141 (by decide +kernel) rfl, TB_mem 142 (by decide +kernel) rfl⟩
theorem oi_X8_3 : OI RX8 3 := ⟨TB_mem 164 (by decide +kernel) rfl, TB_mem 141 (by decide +kernel) rfl, TB_mem 142 (by decide +kernel) rfl⟩
theorem oi_X9_3 : OI RX9 3 := ⟨TB_mem 140 (by decide +kernel) rfl, TB_mem 141 (by decide +kernel) rfl, TB_mem 142 (by decide +kernel) rfl⟩
theorem il_X4_24 : Cond.methodLink RX4 24 yX7_init ∈ TB ∧ Cond.instanceMethod yX7_init ∈ TB := ⟨TB_mem 240 (by decide +kernel) rfl, TB_mem 241 (by decide +kernel) rfl⟩
theorem il_X9_18 : Cond.methodLink RX9 18 yX8_init ∈ TB ∧ Cond.instanceMethod yX8_init ∈ TB := ⟨TB_mem 161 (by decide +kernel) rfl, TB_mem 162 (by decide +kernel) rfl⟩
theorem il_X9_32 : Cond.methodLink RX9 32 yX4_init ∈ TB ∧ Cond.instanceMethod yX4_init ∈ TB := ⟨TB_mem 234 (by decide +kernel) rfl, TB_mem 235 (by decide +kernel) rfl⟩
theorem il_X9_41 : Cond.methodLink RX9 41 yX2_init ∈ TB ∧ Cond.instanceMethod yX2_init ∈ TB := ⟨TB_mem 356 (by decide +kernel) rfl, TB_mem 357 (by decide +kernel) rfl⟩
theorem il_X9_50 : Cond.methodLink RX9 50 yX1_init ∈ TB ∧ Cond.instanceMethod yX1_init ∈ TB := ⟨TB_mem 395 (by decide +kernel) rfl, TB_mem 396 (by decide +kernel) rfl⟩
theorem il_X9_59 : Cond.methodLink RX9 59 yX5_init ∈ TB ∧ Cond.instanceMethod yX5_init ∈ TB := ⟨TB_mem 443 (by decide +kernel) rfl, TB_mem 444 (by decide +kernel) rfl⟩
theorem im_X0_init : Cond.instanceMethod yX0_init ∈ TB := TB_mem 466 (by decide +kernel) rfl
theorem im_X3_init : Cond.instanceMethod yX3_init ∈ TB := TB_mem 484 (by decide +kernel) rfl
theorem im_X6_init : Cond.instanceMethod yX6_init ∈ TB := TB_mem 146 (by decide +kernel) rfl
