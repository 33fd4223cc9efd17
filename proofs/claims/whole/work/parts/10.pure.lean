/-! ===== 10: the pure program (by program, out of the bytecode) ===== -/
def FU : Nat := 20000
def mX0_init (h : PH) (a0 : Nat) : Option (PH) :=
  oO h a0 0 <|
  al2 12 4 h fun n8_0 h8_0 =>
  (pF 0 0 h8_0 a0 (.inr (.inr (some n8_0)))).bind fun h12_1 =>
  some h12_1
def mX0_clear (h : PH) (a0 : Nat) : Option (PH) :=
  oO h a0 0 <|
  (pF 0 2 h a0 (.inl (0 : Int32))).bind fun h2 =>
  some h2
def mX0_add (h : PH) (a0 : Nat) (x1 : Int32) (x2 : Int32) (x3 : Int32) (x4 : Int32) : Option (PH) :=
  oO h a0 0 <|
  (gR 0 0 h a0).bind fun v1 =>
  (gI 0 1 h a0).bind fun v5 =>
  (aR 5 h v1 v5).bind fun v8 =>
  (sI h v8 (0 : Int32) x1).bind fun h15 =>
  (sI h15 v8 (1 : Int32) x2).bind fun h20 =>
  (sI h20 v8 (2 : Int32) x3).bind fun h25 =>
  (sI h25 v8 (3 : Int32) x4).bind fun h31 =>
  (gI 0 1 h31 a0).bind fun v34 =>
  (pF 0 1 h31 a0 (.inl ((v34 + (1 : Int32)) - (v34 + (1 : Int32)) / (12 : Int32) * (12 : Int32)))).bind fun h42 =>
  (gI 0 2 h42 a0).bind fun v47 =>
  (pF 0 2 h42 a0 (.inl (mmin (v47 + (1 : Int32)) (12 : Int32)))).bind fun h57 =>
  some h57
def mX8_isTold (h : PH) (a0 : Nat) (x1 : Int32) (x2 : Int32) : Option (Int32 × PH) :=
  oO h a0 8 <|
  (gR 8 1 h a0).bind fun v1 =>
  (aI 0 h v1 x1).bind fun v5 =>
  if ((v5 >>> (x2 &&& 31)) &&& (1 : Int32)) = 0 then (
  rz (0 : Int32) h) else (
  rz (1 : Int32) h)
def mX8_tell_b57 (h : PH) (s0 : Nat) (s1 : Int32) (s2 : Int32) (s3 : Int32) : Option (PH) :=
  (sI h s0 s1 (s2 + s3)).bind fun h58 =>
  some h58
def mX8_tell (h : PH) (a0 : Nat) (x1 : Int32) (x2 : Int32) (x3 : Int32) : Option (PH) :=
  oO h a0 8 <|
  if x1 = x2 then (
  some h) else (
  b2 (mX8_isTold h a0 x1 x2) fun v8 h8 =>
  if v8 = x3 then (
  some h8) else (
  (gR 8 1 h8 a0).bind fun v17 =>
  (aI 0 h8 v17 x1).bind fun v22 =>
  (sI h8 v17 x1 (v22 ^^^ ((1 : Int32) <<< (x2 &&& 31)))).bind fun h27 =>
  (gR 8 1 h27 a0).bind fun v29 =>
  (aI 0 h27 v29 x2).bind fun v34 =>
  (sI h27 v29 x2 (v34 ^^^ ((1 : Int32) <<< (x1 &&& 31)))).bind fun h39 =>
  (gR 8 0 h39 a0).bind fun v41 =>
  (aI 0 h39 v41 (13 : Int32)).bind fun v47 =>
  if x3 = 0 then (
  mX8_tell_b57 h39 v41 (13 : Int32) v47 (-1 : Int32)) else (
  mX8_tell_b57 h39 v41 (13 : Int32) v47 (1 : Int32))))
def mX0_takeBack_b132 (h : PH) (s0 : Nat) (s1 : Int32) (s2 : Int32) (s3 : Int32) : Option (PH) :=
  (mX8_tell h s0 s1 s2 s3).bind fun h132 =>
  some h132
def mX0_takeBack (h : PH) (a0 : Nat) (a1 : Nat) : Option (PH) :=
  oO h a0 0 <|
  (gI 0 1 h a0).bind fun v2 =>
  (pF 0 1 h a0 (.inl (((v2 + (12 : Int32)) - (1 : Int32)) - ((v2 + (12 : Int32)) - (1 : Int32)) / (12 : Int32) * (12 : Int32)))).bind fun h13 =>
  (gI 0 2 h13 a0).bind fun v18 =>
  (pF 0 2 h13 a0 (.inl (v18 - (1 : Int32)))).bind fun h23 =>
  (gR 0 0 h23 a0).bind fun v27 =>
  (gI 0 1 h23 a0).bind fun v31 =>
  (aR 5 h23 v27 v31).bind fun v34 =>
  (aI 0 h23 v34 (0 : Int32)).bind fun v38 =>
  if v38 = (0 : Int32) then (
  (gR 8 4 h23 a1).bind fun v81 =>
  (aI 0 h23 v34 (1 : Int32)).bind fun v86 =>
  (aR 5 h23 v81 v86).bind fun v87 =>
  (aI 0 h23 v34 (3 : Int32)).bind fun v91 =>
  (sI h23 v87 (4 : Int32) v91).bind fun h92 =>
  some h92) else (
  if v38 = (1 : Int32) then (
  (gR 8 4 h23 a1).bind fun v97 =>
  (aI 0 h23 v34 (1 : Int32)).bind fun v102 =>
  (aR 5 h23 v97 v102).bind fun v103 =>
  (aI 0 h23 v34 (3 : Int32)).bind fun v108 =>
  (sI h23 v103 (6 : Int32) v108).bind fun h109 =>
  some h109) else (
  if v38 = (2 : Int32) then (
  (aI 0 h23 v34 (1 : Int32)).bind fun v116 =>
  (aI 0 h23 v34 (2 : Int32)).bind fun v119 =>
  (aI 0 h23 v34 (3 : Int32)).bind fun v122 =>
  if v122 = (1 : Int32) then (
  mX0_takeBack_b132 h23 a1 v116 v119 (1 : Int32)) else (
  mX0_takeBack_b132 h23 a1 v116 v119 (0 : Int32))) else (
  if v38 = (3 : Int32) then (
  (gR 8 0 h23 a1).bind fun v139 =>
  (aI 0 h23 v34 (1 : Int32)).bind fun v146 =>
  (aI 0 h23 v34 (3 : Int32)).bind fun v150 =>
  (sI h23 v139 ((6 : Int32) + v146) v150).bind fun h151 =>
  some h151) else (
  if v38 = (4 : Int32) then (
  (gR 8 0 h23 a1).bind fun v156 =>
  (aI 0 h23 v34 (3 : Int32)).bind fun v163 =>
  (sI h23 v156 (10 : Int32) v163).bind fun h164 =>
  some h164) else (
  if v38 = (5 : Int32) then (
  (gR 8 0 h23 a1).bind fun v169 =>
  (aI 0 h23 v34 (3 : Int32)).bind fun v175 =>
  (sI h23 v169 (4 : Int32) v175).bind fun h176 =>
  some h176) else (
  if v38 = (6 : Int32) then (
  (gR 8 3 h23 a1).bind fun v181 =>
  (aI 0 h23 v34 (1 : Int32)).bind fun v186 =>
  (aR 5 h23 v181 v186).bind fun v187 =>
  (aI 0 h23 v34 (3 : Int32)).bind fun v191 =>
  (sI h23 v187 (1 : Int32) v191).bind fun h192 =>
  some h192) else (
  (gR 8 7 h23 a1).bind fun v197 =>
  (aI 0 h23 v34 (1 : Int32)).bind fun v202 =>
  (aR 5 h23 v197 v202).bind fun v203 =>
  (aI 0 h23 v34 (3 : Int32)).bind fun v207 =>
  (sI h23 v203 (1 : Int32) v207).bind fun h208 =>
  some h208)))))))
def mX1_init (h : PH) (a0 : Nat) (a1 : Nat) (a2 : Nat) : Option (PH) :=
  oO h a0 1 <|
  al (.inr (0, 10, .inl (fun _ => 0))) h fun n7_0 h7_0 =>
  (pF 1 2 h7_0 a0 (.inr (.inr (some n7_0)))).bind fun h9_1 =>
  al (.inr (1, 11, .inr (.inl (fun _ => 0)))) h9_1 fun n15_2 h15_2 =>
  (pF 1 3 h15_2 a0 (.inr (.inr (some n15_2)))).bind fun h17_3 =>
  al (.inr (0, 6, .inl (fun _ => 0))) h17_3 fun n23_4 h23_4 =>
  (pF 1 8 h23_4 a0 (.inr (.inr (some n23_4)))).bind fun h25_5 =>
  (pF 1 0 h25_5 a0 (.inr (.inr (some a1)))).bind fun h30_6 =>
  (pF 1 1 h30_6 a0 (.inr (.inr (some a2)))).bind fun h35_7 =>
  some h35_7
def mX2_areKin (h : PH) (a0 : Nat) (x1 : Int32) (x2 : Int32) : Option (Int32 × PH) :=
  oO h a0 2 <|
  (gR 2 1 h a0).bind fun v1 =>
  (aI 0 h v1 x1).bind fun v5 =>
  if ((v5 >>> (x2 &&& 31)) &&& (1 : Int32)) = 0 then (
  rz (0 : Int32) h) else (
  rz (1 : Int32) h)
def mX2_closeKin_b51 (r44 : PH → Nat → Int32 → Int32 → Option (PH)) (r51 : PH → Nat → Int32 → Int32 → Int32 → Option (PH)) (h : PH) (a0 : Nat) (x1 : Int32) (x2 : Int32) (x3 : Int32) : Option (PH) :=
  if x1 ≤ x3 then (
  r44 h a0 x1 (x2 + 1)) else (
  b2 (mX2_areKin h a0 x3 x2) fun v59 h59 =>
  if v59 = 0 then (
  r51 h59 a0 x1 x2 (x3 + 1)) else (
  (gR 2 1 h59 a0).bind fun v66 =>
  (aI 0 h59 v66 x3).bind fun v71 =>
  (gR 2 1 h59 a0).bind fun v73 =>
  (aI 0 h59 v73 x2).bind fun v77 =>
  (sI h59 v66 x3 (v71 ||| v77)).bind fun h79 =>
  r51 h79 a0 x1 x2 (x3 + 1)))
def mX2_closeKin_L51 (r44 : PH → Nat → Int32 → Int32 → Option (PH)) : Nat → PH → Nat → Int32 → Int32 → Int32 → Option (PH)
  | 0 => fun _ _ _ _ _ => none
  | n + 1 => mX2_closeKin_b51 r44 (mX2_closeKin_L51 r44 n)
def mX2_closeKin_b44 (r44 : PH → Nat → Int32 → Int32 → Option (PH)) (h : PH) (a0 : Nat) (x1 : Int32) (x2 : Int32) : Option (PH) :=
  if x1 ≤ x2 then (
  some h) else (
  mX2_closeKin_L51 r44 FU h a0 x1 x2 (0 : Int32))
def mX2_closeKin_L44 : Nat → PH → Nat → Int32 → Int32 → Option (PH)
  | 0 => fun _ _ _ _ => none
  | n + 1 => mX2_closeKin_b44 (mX2_closeKin_L44 n)
def mX2_closeKin_b12 (r12 : PH → Nat → Int32 → Int32 → Option (PH)) (h : PH) (a0 : Nat) (x1 : Int32) (x2 : Int32) : Option (PH) :=
  if x1 ≤ x2 then (
  mX2_closeKin_L44 FU h a0 x1 (0 : Int32)) else (
  (gR 2 1 h a0).bind fun v18 =>
  (gR 2 0 h a0).bind fun v23 =>
  (gR 8 1 h v23).bind fun v26 =>
  (aI 0 h v26 x2).bind fun v30 =>
  (sI h v18 x2 (v30 ||| ((1 : Int32) <<< (x2 &&& 31)))).bind fun h35 =>
  r12 h35 a0 x1 (x2 + 1))
def mX2_closeKin_L12 : Nat → PH → Nat → Int32 → Int32 → Option (PH)
  | 0 => fun _ _ _ _ => none
  | n + 1 => mX2_closeKin_b12 (mX2_closeKin_L12 n)
def mX2_closeKin (h : PH) (a0 : Nat) : Option (PH) :=
  oO h a0 2 <|
  (gR 2 0 h a0).bind fun v1 =>
  (gR 8 0 h v1).bind fun v4 =>
  (aI 0 h v4 (0 : Int32)).bind fun v8 =>
  mX2_closeKin_L12 FU h a0 v8 (0 : Int32)
def mJ7_fill_53178_b5 (r5 : PH → Nat → Int32 → Int32 → Int32 → Option (PH)) (h : PH) (a0 : Nat) (x1 : Int32) (x2 : Int32) (x3 : Int32) : Option (PH) :=
  if x3 ≤ x2 then (
  some h) else (
  (sI h a0 x2 x1).bind fun h13 =>
  r5 h13 a0 x1 (x2 + 1) x3)
def mJ7_fill_53178_L5 : Nat → PH → Nat → Int32 → Int32 → Int32 → Option (PH)
  | 0 => fun _ _ _ _ _ => none
  | n + 1 => mJ7_fill_53178_b5 (mJ7_fill_53178_L5 n)
def mJ7_fill_53178 (h : PH) (a0 : Nat) (x1 : Int32) : Option (PH) :=
  (aN 0 h a0).bind fun v3 =>
  mJ7_fill_53178_L5 FU h a0 x1 (0 : Int32) v3
def mX2_firstUser_b44 (r5 : PH → Nat → Int32 → Int32 → Int32 → Int32 → Option (Int32 × PH)) (h : PH) (a0 : Nat) (x1 : Int32) (x2 : Int32) (x3 : Int32) (x4 : Int32) (s0 : Int32) : Option (Int32 × PH) :=
  if s0 = 0 then (
  r5 h a0 x1 x2 x3 (x4 + 1)) else (
  (gI 2 3 h a0).bind fun v54 =>
  if x4 = v54 then (
  r5 h a0 x1 x2 x3 (x4 + 1)) else (
  if ((x2 >>> (x4 &&& 31)) &&& (1 : Int32)) = 0 then (
  if x3 = (-1 : Int32) then (
  r5 h a0 x1 x2 x4 (x4 + 1)) else (
  (gR 2 0 h a0).bind fun v78 =>
  (gR 8 4 h v78).bind fun v81 =>
  (aR 5 h v81 x4).bind fun v86 =>
  (aI 0 h v86 (5 : Int32)).bind fun v88 =>
  (gR 2 0 h a0).bind fun v90 =>
  (gR 8 4 h v90).bind fun v93 =>
  (aR 5 h v93 x3).bind fun v97 =>
  (aI 0 h v97 (5 : Int32)).bind fun v99 =>
  if v99 ≤ v88 then (
  r5 h a0 x1 x2 x3 (x4 + 1)) else (
  r5 h a0 x1 x2 x4 (x4 + 1)))) else (
  r5 h a0 x1 x2 x3 (x4 + 1))))
def mX2_firstUser_b5 (r5 : PH → Nat → Int32 → Int32 → Int32 → Int32 → Option (Int32 × PH)) (h : PH) (a0 : Nat) (x1 : Int32) (x2 : Int32) (x3 : Int32) (x4 : Int32) : Option (Int32 × PH) :=
  (gR 2 0 h a0).bind fun v8 =>
  (gR 8 0 h v8).bind fun v11 =>
  (aI 0 h v11 (3 : Int32)).bind fun v15 =>
  if v15 ≤ x4 then (
  some (x3, h)) else (
  (gR 2 0 h a0).bind fun v20 =>
  (gR 8 4 h v20).bind fun v23 =>
  (aR 5 h v23 x4).bind fun v28 =>
  (aI 0 h v28 (11 : Int32)).bind fun v31 =>
  if ((v31 >>> (x1 &&& 31)) &&& (1 : Int32)) = 0 then (
  mX2_firstUser_b44 r5 h a0 x1 x2 x3 x4 (0 : Int32)) else (
  mX2_firstUser_b44 r5 h a0 x1 x2 x3 x4 (1 : Int32)))
def mX2_firstUser_L5 : Nat → PH → Nat → Int32 → Int32 → Int32 → Int32 → Option (Int32 × PH)
  | 0 => fun _ _ _ _ _ _ => none
  | n + 1 => mX2_firstUser_b5 (mX2_firstUser_L5 n)
def mX2_firstUser (h : PH) (a0 : Nat) (x1 : Int32) (x2 : Int32) : Option (Int32 × PH) :=
  oO h a0 2 <|
  mX2_firstUser_L5 FU h a0 x1 x2 (-1 : Int32) (0 : Int32)
def mX9_cut (h : PH) (x0 : Int64) (x2 : Int64) : Option (Int64 × PH) :=
  if x2 ≤ (0 : Int64) then (
  some ((0 : Int64), h)) else (
  dz (x2 = 0) <|
  some ((x0 / x2), h))
def mX2_shareOut_b43 (r43 : PH → Nat → Int32 → Int32 → Int32 → Int32 → Int32 → Int32 → Option (PH)) (h : PH) (a0 : Nat) (x1 : Int32) (x2 : Int32) (x3 : Int32) (x4 : Int32) (x5 : Int32) (x6 : Int32) : Option (PH) :=
  (gR 2 0 h a0).bind fun v46 =>
  (gR 8 0 h v46).bind fun v49 =>
  (aI 0 h v49 (3 : Int32)).bind fun v53 =>
  if v53 ≤ x6 then (
  some h) else (
  b2 (mX2_firstUser h a0 x1 x5) fun v61 h61 =>
  if v61 = (-1 : Int32) then (
  some h61) else (
  if x3 = 0 then (
  (gR 2 5 h61 a0).bind fun v78 =>
  (aR 5 h61 v78 x1).bind fun v82 =>
  (sI h61 v82 v61 x2).bind fun h86 =>
  some h86) else (
  (gR 2 0 h61 a0).bind fun v91 =>
  (gR 8 4 h61 v91).bind fun v94 =>
  (aR 5 h61 v94 v61).bind fun v99 =>
  (aI 0 h61 v99 (3 : Int32)).bind fun v101 =>
  (gR 2 5 h61 a0).bind fun v108 =>
  (aR 5 h61 v108 x1).bind fun v112 =>
  b2 (mX9_cut h61 ((Int32.toInt64 x2) * (Int32.toInt64 (mmin x4 v101))) (Int32.toInt64 x3)) fun v123 h123 =>
  (sI h123 v112 v61 (Int64.toInt32 v123)).bind fun h127 =>
  r43 h127 a0 x1 x2 x3 (x4 - (mmin x4 v101)) (x5 ||| ((1 : Int32) <<< (v61 &&& 31))) (x6 + 1))))
def mX2_shareOut_L43 : Nat → PH → Nat → Int32 → Int32 → Int32 → Int32 → Int32 → Int32 → Option (PH)
  | 0 => fun _ _ _ _ _ _ _ _ => none
  | n + 1 => mX2_shareOut_b43 (mX2_shareOut_L43 n)
def mX2_shareOut (h : PH) (a0 : Nat) (x1 : Int32) : Option (PH) :=
  oO h a0 2 <|
  (gR 2 0 h a0).bind fun v1 =>
  (gR 8 3 h v1).bind fun v4 =>
  (aR 5 h v4 x1).bind fun v8 =>
  (aI 0 h v8 (0 : Int32)).bind fun v10 =>
  (gR 2 0 h a0).bind fun v13 =>
  (gR 8 3 h v13).bind fun v16 =>
  (aR 5 h v16 x1).bind fun v20 =>
  (aI 0 h v20 (1 : Int32)).bind fun v22 =>
  (gR 2 5 h a0).bind fun v31 =>
  (aR 5 h v31 x1).bind fun v35 =>
  (mJ7_fill_53178 h v35 (0 : Int32)).bind fun h37 =>
  mX2_shareOut_L43 FU h37 a0 x1 v10 v22 v22 (0 : Int32) (0 : Int32)
def mX8_levelOf_b4 (r4 : PH → Nat → Int32 → Int32 → Int32 → Option (Int32 × PH)) (h : PH) (a0 : Nat) (x1 : Int32) (x2 : Int32) (x3 : Int32) : Option (Int32 × PH) :=
  (gR 8 0 h a0).bind fun v6 =>
  (aI 0 h v6 (5 : Int32)).bind fun v10 =>
  if v10 ≤ x3 then (
  some (x2, h)) else (
  (gR 8 4 h a0).bind fun v15 =>
  (aR 5 h v15 x1).bind fun v19 =>
  (aI 0 h v19 (3 : Int32)).bind fun v21 =>
  (gR 8 7 h a0).bind fun v23 =>
  (aR 5 h v23 x3).bind fun v27 =>
  (aI 0 h v27 (0 : Int32)).bind fun v29 =>
  if v21 < v29 then (
  r4 h a0 x1 x2 (x3 + 1)) else (
  r4 h a0 x1 (x3 + (1 : Int32)) (x3 + 1)))
def mX8_levelOf_L4 : Nat → PH → Nat → Int32 → Int32 → Int32 → Option (Int32 × PH)
  | 0 => fun _ _ _ _ _ => none
  | n + 1 => mX8_levelOf_b4 (mX8_levelOf_L4 n)
def mX8_levelOf (h : PH) (a0 : Nat) (x1 : Int32) : Option (Int32 × PH) :=
  oO h a0 8 <|
  mX8_levelOf_L4 FU h a0 x1 (0 : Int32) (0 : Int32)
def mX2_priced (h : PH) (a0 : Nat) (x1 : Int32) (x2 : Int32) : Option (Int64 × PH) :=
  oO h a0 2 <|
  (gR 2 0 h a0).bind fun v3 =>
  (gR 8 4 h v3).bind fun v6 =>
  (aR 5 h v6 x1).bind fun v10 =>
  (aI 0 h v10 (3 : Int32)).bind fun v12 =>
  (gR 2 0 h a0).bind fun v19 =>
  (gR 8 4 h v19).bind fun v22 =>
  (aR 5 h v22 x1).bind fun v26 =>
  (aI 0 h v26 (7 : Int32)).bind fun v29 =>
  some ((((Int32.toInt64 x2) * (Int32.toInt64 v12)) + ((((Int32.toInt64 x2) * (Int32.toInt64 v12)) * (Int32.toInt64 v29)) / (100 : Int64))), h)
def mX2_broughtAlong_b30 (r30 : PH → Nat → Int32 → Int64 → Int32 → Option (Int64 × PH)) (h : PH) (a0 : Nat) (x1 : Int32) (x2 : Int64) (x4 : Int32) : Option (Int64 × PH) :=
  (gR 2 0 h a0).bind fun v33 =>
  (gR 8 0 h v33).bind fun v36 =>
  (aI 0 h v36 (2 : Int32)).bind fun v40 =>
  if v40 ≤ x4 then (
  some (x2, h)) else (
  (gR 2 5 h a0).bind fun v46 =>
  (aR 5 h v46 x4).bind fun v51 =>
  (aI 0 h v51 x1).bind fun v53 =>
  r30 h a0 x1 (x2 + (Int32.toInt64 v53)) (x4 + 1))
def mX2_broughtAlong_L30 : Nat → PH → Nat → Int32 → Int64 → Int32 → Option (Int64 × PH)
  | 0 => fun _ _ _ _ _ => none
  | n + 1 => mX2_broughtAlong_b30 (mX2_broughtAlong_L30 n)
def mX2_broughtAlong (h : PH) (a0 : Nat) (x1 : Int32) : Option (Int64 × PH) :=
  oO h a0 2 <|
  (gR 2 0 h a0).bind fun v1 =>
  (gR 8 4 h v1).bind fun v4 =>
  (aR 5 h v4 x1).bind fun v8 =>
  (aI 0 h v8 (9 : Int32)).bind fun v11 =>
  (gR 2 0 h a0).bind fun v13 =>
  (gR 8 4 h v13).bind fun v16 =>
  (aR 5 h v16 x1).bind fun v20 =>
  (aI 0 h v20 (10 : Int32)).bind fun v23 =>
  mX2_broughtAlong_L30 FU h a0 x1 (Int32.toInt64 (v11 + v23)) (0 : Int32)
def mX8_areSimilar (h : PH) (a0 : Nat) (x1 : Int32) (x2 : Int32) : Option (Int32 × PH) :=
  oO h a0 8 <|
  if x1 = x2 then (
  rz (0 : Int32) h) else (
  (gR 8 2 h a0).bind fun v6 =>
  (aR 5 h v6 x1).bind fun v10 =>
  (aI 0 h v10 (0 : Int32)).bind fun v12 =>
  (gR 8 2 h a0).bind fun v14 =>
  (aR 5 h v14 x2).bind fun v18 =>
  (aI 0 h v18 (0 : Int32)).bind fun v20 =>
  if v12 = v20 then (
  (gR 8 2 h a0).bind fun v25 =>
  (aR 5 h v25 x1).bind fun v29 =>
  (aI 0 h v29 (1 : Int32)).bind fun v31 =>
  (gR 8 2 h a0).bind fun v33 =>
  (aR 5 h v33 x2).bind fun v37 =>
  (aI 0 h v37 (1 : Int32)).bind fun v39 =>
  if v31 = v39 then (
  rz (1 : Int32) h) else (
  rz (0 : Int32) h)) else (
  rz (0 : Int32) h))
def mX2_rowsFor_b100 (r18 : PH → Nat → Int32 → Int32 → Int32 → Int32 → Int32 → Option (Int32 × PH)) (h : PH) (a0 : Nat) (x1 : Int32) (x2 : Int32) (x3 : Int32) (x4 : Int32) (x5 : Int32) (x7 : Int32) (s0 : Int32) : Option (Int32 × PH) :=
  if s0 = 0 then (
  r18 h a0 x1 x2 x3 x4 (x5 + 1)) else (
  if x7 < 0 then (
  r18 h a0 x1 x2 x3 x4 (x5 + 1)) else (
  (gR 2 0 h a0).bind fun v116 =>
  (gR 8 0 h v116).bind fun v119 =>
  (aI 0 h v119 (7 : Int32)).bind fun v124 =>
  if ((3 : Int32) * v124) < x7 then (
  r18 h a0 x1 x2 x3 x4 (x5 + 1)) else (
  r18 h a0 x1 x2 x3 (x4 ||| ((1 : Int32) <<< (x5 &&& 31))) (x5 + 1))))
def mX2_rowsFor_b18 (r18 : PH → Nat → Int32 → Int32 → Int32 → Int32 → Int32 → Option (Int32 × PH)) (h : PH) (a0 : Nat) (x1 : Int32) (x2 : Int32) (x3 : Int32) (x4 : Int32) (x5 : Int32) : Option (Int32 × PH) :=
  (gR 2 0 h a0).bind fun v21 =>
  (gR 8 0 h v21).bind fun v24 =>
  (aI 0 h v24 (4 : Int32)).bind fun v28 =>
  if v28 ≤ x5 then (
  some (x4, h)) else (
  (gR 2 0 h a0).bind fun v33 =>
  (gR 8 6 h v33).bind fun v36 =>
  (aR 5 h v36 x5).bind fun v41 =>
  (aI 0 h v41 (0 : Int32)).bind fun v43 =>
  (gR 2 0 h a0).bind fun v47 =>
  (gR 8 6 h v47).bind fun v50 =>
  (aR 5 h v50 x5).bind fun v55 =>
  (aI 0 h v55 (3 : Int32)).bind fun v57 =>
  (gR 2 0 h a0).bind fun v59 =>
  (gR 8 4 h v59).bind fun v62 =>
  (aR 5 h v62 x1).bind fun v66 =>
  (aI 0 h v66 (5 : Int32)).bind fun v68 =>
  if x2 = 0 then (
  if x3 = v43 then (
  mX2_rowsFor_b100 r18 h a0 x1 x2 x3 x4 x5 (v57 - v68) (1 : Int32)) else (
  mX2_rowsFor_b100 r18 h a0 x1 x2 x3 x4 x5 (v57 - v68) (0 : Int32))) else (
  (gR 2 0 h a0).bind fun v77 =>
  b2 (mX8_areSimilar h v77 x3 v43) fun v83 h83 =>
  mX2_rowsFor_b100 r18 h83 a0 x1 x2 x3 x4 x5 (v57 - v68) v83))
def mX2_rowsFor_L18 : Nat → PH → Nat → Int32 → Int32 → Int32 → Int32 → Int32 → Option (Int32 × PH)
  | 0 => fun _ _ _ _ _ _ _ => none
  | n + 1 => mX2_rowsFor_b18 (mX2_rowsFor_L18 n)
def mX2_rowsFor (h : PH) (a0 : Nat) (x1 : Int32) (x2 : Int32) : Option (Int32 × PH) :=
  oO h a0 2 <|
  (gR 2 0 h a0).bind fun v1 =>
  (gR 8 4 h v1).bind fun v4 =>
  (aR 5 h v4 x1).bind fun v8 =>
  (aI 0 h v8 (0 : Int32)).bind fun v10 =>
  mX2_rowsFor_L18 FU h a0 x1 x2 v10 (0 : Int32) (0 : Int32)
def mX2_piecesAt_b5 (r5 : PH → Nat → Int32 → Int32 → Int32 → Int32 → Option (Int32 × PH)) (h : PH) (a0 : Nat) (x1 : Int32) (x2 : Int32) (x3 : Int32) (x4 : Int32) : Option (Int32 × PH) :=
  (gR 2 0 h a0).bind fun v8 =>
  (gR 8 0 h v8).bind fun v11 =>
  (aI 0 h v11 (4 : Int32)).bind fun v15 =>
  if v15 ≤ x4 then (
  some (x3, h)) else (
  if ((x1 >>> (x4 &&& 31)) &&& (1 : Int32)) = 0 then (
  r5 h a0 x1 x2 x3 (x4 + 1)) else (
  (gR 2 0 h a0).bind fun v29 =>
  (gR 8 6 h v29).bind fun v32 =>
  (aR 5 h v32 x4).bind fun v37 =>
  (aI 0 h v37 (2 : Int32)).bind fun v39 =>
  if v39 = x2 then (
  (gR 2 0 h a0).bind fun v46 =>
  (gR 8 6 h v46).bind fun v49 =>
  (aR 5 h v49 x4).bind fun v54 =>
  (aI 0 h v54 (1 : Int32)).bind fun v56 =>
  r5 h a0 x1 x2 (x3 + v56) (x4 + 1)) else (
  r5 h a0 x1 x2 x3 (x4 + 1))))
def mX2_piecesAt_L5 : Nat → PH → Nat → Int32 → Int32 → Int32 → Int32 → Option (Int32 × PH)
  | 0 => fun _ _ _ _ _ _ => none
  | n + 1 => mX2_piecesAt_b5 (mX2_piecesAt_L5 n)
def mX2_piecesAt (h : PH) (a0 : Nat) (x1 : Int32) (x2 : Int32) : Option (Int32 × PH) :=
  oO h a0 2 <|
  mX2_piecesAt_L5 FU h a0 x1 x2 (0 : Int32) (0 : Int32)
def mX2_priceOfMost_b7 (r7 : PH → Nat → Int32 → Int32 → Int32 → Int32 → Option (Int32 × PH)) (h : PH) (a0 : Nat) (x1 : Int32) (x2 : Int32) (x3 : Int32) (x4 : Int32) : Option (Int32 × PH) :=
  (gR 2 0 h a0).bind fun v10 =>
  (gR 8 0 h v10).bind fun v13 =>
  (aI 0 h v13 (4 : Int32)).bind fun v17 =>
  if v17 ≤ x4 then (
  some (x2, h)) else (
  if ((x1 >>> (x4 &&& 31)) &&& (1 : Int32)) = 0 then (
  r7 h a0 x1 x2 x3 (x4 + 1)) else (
  (gR 2 0 h a0).bind fun v34 =>
  (gR 8 6 h v34).bind fun v37 =>
  (aR 5 h v37 x4).bind fun v42 =>
  (aI 0 h v42 (2 : Int32)).bind fun v44 =>
  b2 (mX2_piecesAt h a0 x1 v44) fun v51 h51 =>
  if x3 < v51 then (
  r7 h51 a0 x1 v44 v51 (x4 + 1)) else (
  if v51 = x3 then (
  if x2 ≤ v44 then (
  r7 h51 a0 x1 x2 x3 (x4 + 1)) else (
  r7 h51 a0 x1 v44 v51 (x4 + 1))) else (
  r7 h51 a0 x1 x2 x3 (x4 + 1)))))
def mX2_priceOfMost_L7 : Nat → PH → Nat → Int32 → Int32 → Int32 → Int32 → Option (Int32 × PH)
  | 0 => fun _ _ _ _ _ _ => none
  | n + 1 => mX2_priceOfMost_b7 (mX2_priceOfMost_L7 n)
def mX2_priceOfMost (h : PH) (a0 : Nat) (x1 : Int32) : Option (Int32 × PH) :=
  oO h a0 2 <|
  mX2_priceOfMost_L7 FU h a0 x1 (-1 : Int32) (0 : Int32) (0 : Int32)
def mX2_priceResold_b22 (h : PH) (s0 : Nat) (s1 : Int32) : Option (Int32 × PH) :=
  b2 (mX2_priceOfMost h s0 s1) fun v22 h22 =>
  some (v22, h22)
def mX2_priceResold (h : PH) (a0 : Nat) (x1 : Int32) : Option (Int32 × PH) :=
  oO h a0 2 <|
  b2 (mX2_rowsFor h a0 x1 (0 : Int32)) fun v3 h3 =>
  if v3 = 0 then (
  b2 (mX2_rowsFor h3 a0 x1 (1 : Int32)) fun v19 h19 =>
  mX2_priceResold_b22 h19 a0 v19) else (
  mX2_priceResold_b22 h3 a0 v3)
def mX2_look_b37 (r37 : PH → Nat → Int32 → Option (PH)) (h : PH) (a0 : Nat) (x2 : Int32) : Option (PH) :=
  (gR 2 0 h a0).bind fun v39 =>
  (gR 8 0 h v39).bind fun v42 =>
  (aI 0 h v42 (3 : Int32)).bind fun v46 =>
  if v46 ≤ x2 then (
  some h) else (
  (gR 2 0 h a0).bind fun v51 =>
  (gR 8 4 h v51).bind fun v54 =>
  (aR 5 h v54 x2).bind fun v58 =>
  (gR 2 2 h a0).bind fun v61 =>
  (aI 0 h v58 (1 : Int32)).bind fun v68 =>
  (aI 0 h v58 (2 : Int32)).bind fun v71 =>
  b2 (mX2_areKin h a0 v68 v71) fun v72 h72 =>
  (sB 3 .boolean h72 v61 x2 v72).bind fun h75 =>
  (gR 2 4 h75 a0).bind fun v77 =>
  (gR 2 0 h75 a0).bind fun v82 =>
  b2 (mX8_levelOf h75 v82 x2) fun v86 h86 =>
  (sI h86 v77 x2 v86).bind fun h89 =>
  (gR 2 6 h89 a0).bind fun v91 =>
  (aI 0 h89 v58 (4 : Int32)).bind fun v99 =>
  b2 (mX2_priced h89 a0 x2 v99) fun v100 h100 =>
  (aI 0 h100 v58 (8 : Int32)).bind fun v106 =>
  b2 (mX2_broughtAlong h100 a0 x2) fun v111 h111 =>
  (sL h111 v91 x2 ((v100 + (Int32.toInt64 v106)) + v111)).bind fun h115 =>
  (gR 2 7 h115 a0).bind fun v117 =>
  b2 (mX2_priceResold h115 a0 x2) fun v123 h123 =>
  (sI h123 v117 x2 v123).bind fun h126 =>
  r37 h126 a0 (x2 + 1))
def mX2_look_L37 : Nat → PH → Nat → Int32 → Option (PH)
  | 0 => fun _ _ _ => none
  | n + 1 => mX2_look_b37 (mX2_look_L37 n)
def mX2_look_b11 (r11 : PH → Nat → Int32 → Option (PH)) (h : PH) (a0 : Nat) (x2 : Int32) : Option (PH) :=
  (gR 2 0 h a0).bind fun v13 =>
  (gR 8 0 h v13).bind fun v16 =>
  (aI 0 h v16 (2 : Int32)).bind fun v20 =>
  if v20 ≤ x2 then (
  mX2_look_L37 FU h a0 (0 : Int32)) else (
  (mX2_shareOut h a0 x2).bind fun h26 =>
  r11 h26 a0 (x2 + 1))
def mX2_look_L11 : Nat → PH → Nat → Int32 → Option (PH)
  | 0 => fun _ _ _ => none
  | n + 1 => mX2_look_b11 (mX2_look_L11 n)
def mX2_look (h : PH) (a0 : Nat) (x1 : Int32) : Option (PH) :=
  oO h a0 2 <|
  (pF 2 3 h a0 (.inl x1)).bind fun h2 =>
  (mX2_closeKin h2 a0).bind fun h6 =>
  mX2_look_L11 FU h6 a0 (0 : Int32)
def mX2_isAmongKin (h : PH) (a0 : Nat) (x1 : Int32) : Option (Int32 × PH) :=
  oO h a0 2 <|
  (gR 2 2 h a0).bind fun v1 =>
  (aI 3 h v1 x1).bind fun v5 =>
  rz v5 h
def mX2_isAnother (h : PH) (a0 : Nat) (x1 : Int32) (x2 : Int32) : Option (Int32 × PH) :=
  oO h a0 2 <|
  if x2 = x1 then (
  rz (0 : Int32) h) else (
  (gI 2 3 h a0).bind fun v7 =>
  if x2 = v7 then (
  rz (0 : Int32) h) else (
  rz (1 : Int32) h))
def mX2_isInWindow (h : PH) (a0 : Nat) (x1 : Int32) (x2 : Int32) : Option (Int32 × PH) :=
  oO h a0 2 <|
  (gR 2 0 h a0).bind fun v1 =>
  (gR 8 4 h v1).bind fun v4 =>
  (aR 5 h v4 x1).bind fun v8 =>
  (aI 0 h v8 (5 : Int32)).bind fun v10 =>
  (gR 2 0 h a0).bind fun v12 =>
  (gR 8 4 h v12).bind fun v15 =>
  (aR 5 h v15 x2).bind fun v19 =>
  (aI 0 h v19 (5 : Int32)).bind fun v21 =>
  (gR 2 0 h a0).bind fun v29 =>
  (gR 8 0 h v29).bind fun v32 =>
  (aI 0 h v32 (7 : Int32)).bind fun v37 =>
  if v37 < (mabs (v10 - v21)) then (
  rz (0 : Int32) h) else (
  rz (1 : Int32) h)
def mX1_isTestFor_b82 (h : PH) (a0 : Nat) (x1 : Int32) (x2 : Int32) : Option (Int32 × PH) :=
  (gR 1 1 h a0).bind fun v83 =>
  b2 (mX2_isInWindow h v83 x1 x2) fun v88 h88 =>
  if v88 = 0 then (
  rz (0 : Int32) h88) else (
  rz (1 : Int32) h88)
def mX1_isTestFor (h : PH) (a0 : Nat) (x1 : Int32) (x2 : Int32) : Option (Int32 × PH) :=
  oO h a0 1 <|
  (gR 1 0 h a0).bind fun v1 =>
  (gR 8 4 h v1).bind fun v4 =>
  (aR 5 h v4 x1).bind fun v8 =>
  (aI 0 h v8 (0 : Int32)).bind fun v10 =>
  (gR 1 0 h a0).bind fun v13 =>
  (gR 8 4 h v13).bind fun v16 =>
  (aR 5 h v16 x2).bind fun v20 =>
  (aI 0 h v20 (0 : Int32)).bind fun v22 =>
  (gR 1 1 h a0).bind fun v26 =>
  b2 (mX2_isAnother h v26 x1 x2) fun v31 h31 =>
  if v31 = 0 then (
  rz (0 : Int32) h31) else (
  (gR 1 0 h31 a0).bind fun v38 =>
  (gR 8 4 h31 v38).bind fun v41 =>
  (aR 5 h31 v41 x2).bind fun v45 =>
  (aI 0 h31 v45 (6 : Int32)).bind fun v48 =>
  if v48 = 0 then (
  (gR 1 1 h31 a0).bind fun v53 =>
  b2 (mX2_isAmongKin h31 v53 x2) fun v57 h57 =>
  if v57 = 0 then (
  if v10 = v22 then (
  mX1_isTestFor_b82 h57 a0 x1 x2) else (
  (gR 1 0 h57 a0).bind fun v70 =>
  b2 (mX8_areSimilar h57 v70 v10 v22) fun v76 h76 =>
  if v76 = 0 then (
  rz (0 : Int32) h76) else (
  mX1_isTestFor_b82 h76 a0 x1 x2))) else (
  rz (0 : Int32) h57)) else (
  rz (0 : Int32) h31))
def mX2_measure_b28 (h : PH) (a0 : Nat) (x1 : Int32) (s0 : Int32) : Option (Int64 × PH) :=
  (gR 2 0 h a0).bind fun v30 =>
  (gR 8 4 h v30).bind fun v33 =>
  (aR 5 h v33 x1).bind fun v37 =>
  (aI 0 h v37 (3 : Int32)).bind fun v39 =>
  some (((Int32.toInt64 v39) * (Int32.toInt64 ((100 : Int32) - s0))), h)
def mX2_measure (h : PH) (a0 : Nat) (x1 : Int32) : Option (Int64 × PH) :=
  oO h a0 2 <|
  (gR 2 4 h a0).bind fun v1 =>
  (aI 0 h v1 x1).bind fun v5 =>
  if v5 = 0 then (
  mX2_measure_b28 h a0 x1 (0 : Int32)) else (
  (gR 2 0 h a0).bind fun v16 =>
  (gR 8 7 h v16).bind fun v19 =>
  (aR 5 h v19 (v5 - (1 : Int32))).bind fun v25 =>
  (aI 0 h v25 (1 : Int32)).bind fun v27 =>
  mX2_measure_b28 h a0 x1 v27)
def mX2_brought (h : PH) (a0 : Nat) (x1 : Int32) (x2 : Int32) : Option (Int64 × PH) :=
  oO h a0 2 <|
  (gR 2 6 h a0).bind fun v1 =>
  (aL h v1 x2).bind fun v5 =>
  b2 (mX2_measure h a0 x1) fun v8 h8 =>
  b2 (mX2_measure h8 a0 x2) fun v14 h14 =>
  b2 (mX9_cut h14 (v5 * v8) v14) fun v17 h17 =>
  some (v17, h17)
def mX1_addTest (h : PH) (a0 : Nat) (x1 : Int64) : Option (PH) :=
  oO h a0 1 <|
  if x1 = (-1 : Int64) then (
  some h) else (
  (gI 1 4 h a0).bind fun v9 =>
  if (11 : Int32) ≤ v9 then (
  some h) else (
  (gR 1 3 h a0).bind fun v18 =>
  (gI 1 4 h a0).bind fun v22 =>
  (sL h v18 v22 x1).bind fun h26 =>
  (gI 1 4 h26 a0).bind fun v29 =>
  (pF 1 4 h26 a0 (.inl (v29 + (1 : Int32)))).bind fun h34 =>
  some h34))
def mX2_resoldWorth (h : PH) (a0 : Nat) (x1 : Int32) : Option (Int64 × PH) :=
  oO h a0 2 <|
  (gR 2 7 h a0).bind fun v1 =>
  (aI 0 h v1 x1).bind fun v5 =>
  if v5 = (-1 : Int32) then (
  some ((-1 : Int64), h)) else (
  (gR 2 0 h a0).bind fun v15 =>
  (gR 8 4 h v15).bind fun v18 =>
  (aR 5 h v18 x1).bind fun v22 =>
  (aI 0 h v22 (3 : Int32)).bind fun v24 =>
  (gR 2 7 h a0).bind fun v27 =>
  (aI 0 h v27 x1).bind fun v31 =>
  (gR 2 0 h a0).bind fun v39 =>
  (gR 8 0 h v39).bind fun v42 =>
  (aI 0 h v42 (8 : Int32)).bind fun v47 =>
  (gR 2 0 h a0).bind fun v54 =>
  (gR 8 0 h v54).bind fun v57 =>
  (aI 0 h v57 (9 : Int32)).bind fun v62 =>
  b2 (mX9_cut h (((Int32.toInt64 v24) * (Int32.toInt64 v31)) * (Int32.toInt64 ((100 : Int32) - v47))) (Int32.toInt64 ((100 : Int32) + v62))) fun v65 h65 =>
  some (v65, h65))
def mX2_madeWorth (h : PH) (a0 : Nat) (x1 : Int32) : Option (Int64 × PH) :=
  oO h a0 2 <|
  (gR 2 0 h a0).bind fun v1 =>
  (gR 8 2 h v1).bind fun v4 =>
  (gR 2 0 h a0).bind fun v8 =>
  (gR 8 4 h v8).bind fun v11 =>
  (aR 5 h v11 x1).bind fun v15 =>
  (aI 0 h v15 (0 : Int32)).bind fun v17 =>
  (aR 5 h v4 v17).bind fun v18 =>
  (aI 0 h v18 (2 : Int32)).bind fun v22 =>
  if v22 = 0 then (
  some ((-1 : Int64), h)) else (
  (gR 2 0 h a0).bind fun v31 =>
  (gR 8 4 h v31).bind fun v34 =>
  (aR 5 h v34 x1).bind fun v38 =>
  (aI 0 h v38 (3 : Int32)).bind fun v40 =>
  (aI 0 h v18 (2 : Int32)).bind fun v44 =>
  (aI 0 h v18 (3 : Int32)).bind fun v53 =>
  b2 (mX2_broughtAlong h a0 x1) fun v63 h63 =>
  some ((((((Int32.toInt64 v40) * (Int32.toInt64 v44)) * (Int32.toInt64 ((100 : Int32) + v53))) / (100 : Int64)) + v63), h63))
def mX1_gatherTests_b7 (r7 : PH → Nat → Int32 → Int32 → Option (PH)) (h : PH) (a0 : Nat) (x1 : Int32) (x2 : Int32) : Option (PH) :=
  (gR 1 0 h a0).bind fun v9 =>
  (gR 8 0 h v9).bind fun v12 =>
  (aI 0 h v12 (3 : Int32)).bind fun v16 =>
  if v16 ≤ x2 then (
  (gR 1 1 h a0).bind fun v50 =>
  b2 (mX2_resoldWorth h v50 x1) fun v54 h54 =>
  (mX1_addTest h54 a0 v54).bind fun h57 =>
  (gR 1 1 h57 a0).bind fun v62 =>
  b2 (mX2_madeWorth h57 v62 x1) fun v66 h66 =>
  (mX1_addTest h66 a0 v66).bind fun h69 =>
  some h69) else (
  b2 (mX1_isTestFor h a0 x1 x2) fun v23 h23 =>
  if v23 = 0 then (
  r7 h23 a0 x1 (x2 + 1)) else (
  (gR 1 1 h23 a0).bind fun v31 =>
  b2 (mX2_brought h23 v31 x1 x2) fun v36 h36 =>
  (mX1_addTest h36 a0 v36).bind fun h39 =>
  r7 h39 a0 x1 (x2 + 1)))
def mX1_gatherTests_L7 : Nat → PH → Nat → Int32 → Int32 → Option (PH)
  | 0 => fun _ _ _ _ => none
  | n + 1 => mX1_gatherTests_b7 (mX1_gatherTests_L7 n)
def mX1_gatherTests (h : PH) (a0 : Nat) (x1 : Int32) : Option (PH) :=
  oO h a0 1 <|
  (pF 1 4 h a0 (.inl (0 : Int32))).bind fun h2 =>
  mX1_gatherTests_L7 FU h2 a0 x1 (0 : Int32)
def mX2_slack (h : PH) (a0 : Nat) (x1 : Int64) : Option (Int64 × PH) :=
  oO h a0 2 <|
  (gR 2 0 h a0).bind fun v2 =>
  (gR 8 0 h v2).bind fun v5 =>
  (aI 0 h v5 (6 : Int32)).bind fun v10 =>
  some (((x1 * (Int32.toInt64 v10)) / (100 : Int64)), h)
def mX1_isNearATest_b2 (r2 : PH → Nat → Int32 → Int32 → Option (Int32 × PH)) (h : PH) (a0 : Nat) (x1 : Int32) (x2 : Int32) : Option (Int32 × PH) :=
  (gI 1 4 h a0).bind fun v4 =>
  if v4 ≤ x2 then (
  rz (0 : Int32) h) else (
  (gR 1 1 h a0).bind fun v11 =>
  (gR 2 6 h v11).bind fun v14 =>
  (aL h v14 x1).bind fun v18 =>
  (gR 1 3 h a0).bind fun v20 =>
  (aL h v20 x2).bind fun v24 =>
  (gR 1 1 h a0).bind fun v30 =>
  (gR 1 3 h a0).bind fun v34 =>
  (aL h v34 x2).bind fun v38 =>
  b2 (mX2_slack h v30 v38) fun v39 h39 =>
  if v39 < (labs (v18 - v24)) then (
  r2 h39 a0 x1 (x2 + 1)) else (
  rz (1 : Int32) h39))
def mX1_isNearATest_L2 : Nat → PH → Nat → Int32 → Int32 → Option (Int32 × PH)
  | 0 => fun _ _ _ _ => none
  | n + 1 => mX1_isNearATest_b2 (mX1_isNearATest_L2 n)
def mX1_isNearATest (h : PH) (a0 : Nat) (x1 : Int32) : Option (Int32 × PH) :=
  oO h a0 1 <|
  mX1_isNearATest_L2 FU h a0 x1 (0 : Int32)
def mX1_judge (h : PH) (a0 : Nat) (x1 : Int32) : Option (Int32 × PH) :=
  oO h a0 1 <|
  (gR 1 0 h a0).bind fun v1 =>
  (gR 8 4 h v1).bind fun v4 =>
  (aR 5 h v4 x1).bind fun v8 =>
  (aI 0 h v8 (6 : Int32)).bind fun v11 =>
  if v11 = 0 then (
  (gR 1 1 h a0).bind fun v19 =>
  b2 (mX2_isAmongKin h v19 x1) fun v23 h23 =>
  if v23 = 0 then (
  some ((0 : Int32), h23)) else (
  (mX1_gatherTests h23 a0 x1).bind fun h33 =>
  (gI 1 4 h33 a0).bind fun v37 =>
  if v37 = 0 then (
  some ((12 : Int32), h33)) else (
  b2 (mX1_isNearATest h33 a0 x1) fun v48 h48 =>
  if v48 = 0 then (
  some ((13 : Int32), h48)) else (
  some ((0 : Int32), h48))))) else (
  some ((11 : Int32), h))
def mX1_look_b10 (r10 : PH → Nat → Int32 → Option (PH)) (h : PH) (a0 : Nat) (x2 : Int32) : Option (PH) :=
  (gR 1 0 h a0).bind fun v12 =>
  (gR 8 0 h v12).bind fun v15 =>
  (aI 0 h v15 (3 : Int32)).bind fun v19 =>
  if v19 ≤ x2 then (
  some h) else (
  (gR 1 2 h a0).bind fun v24 =>
  b2 (mX1_judge h a0 x2) fun v30 h30 =>
  (sI h30 v24 x2 v30).bind fun h33 =>
  r10 h33 a0 (x2 + 1))
def mX1_look_L10 : Nat → PH → Nat → Int32 → Option (PH)
  | 0 => fun _ _ _ => none
  | n + 1 => mX1_look_b10 (mX1_look_L10 n)
def mX1_look (h : PH) (a0 : Nat) (x1 : Int32) : Option (PH) :=
  oO h a0 1 <|
  (gR 1 1 h a0).bind fun v1 =>
  (mX2_look h v1 x1).bind fun h5 =>
  mX1_look_L10 FU h5 a0 (0 : Int32)
def mX1_leastNear_b7 (r7 : PH → Nat → Int32 → Int64 → Int32 → Option (Int32 × PH)) (h : PH) (a0 : Nat) (x1 : Int32) (x2 : Int64) (x4 : Int32) : Option (Int32 × PH) :=
  (gI 1 4 h a0).bind fun v10 =>
  if v10 ≤ x4 then (
  if x2 ≤ (50 : Int64) then (
  some ((Int64.toInt32 x2), h)) else (
  some ((-2 : Int32), h))) else (
  (gR 1 3 h a0).bind fun v17 =>
  (aL h v17 x4).bind fun v22 =>
  if v22 ≤ (0 : Int64) then (
  r7 h a0 x1 x2 (x4 + 1)) else (
  (gR 1 1 h a0).bind fun v29 =>
  (gR 2 6 h v29).bind fun v32 =>
  (aL h v32 x1).bind fun v36 =>
  (gR 1 3 h a0).bind fun v38 =>
  (aL h v38 x4).bind fun v43 =>
  (gR 1 3 h a0).bind fun v58 =>
  (aL h v58 x4).bind fun v63 =>
  (gR 1 3 h a0).bind fun v68 =>
  (aL h v68 x4).bind fun v73 =>
  b2 (mX9_cut h ((((labs (v36 - v43)) * (100 : Int64)) + v63) - (1 : Int64)) v73) fun v74 h74 =>
  r7 h74 a0 x1 (lmin x2 v74) (x4 + 1)))
def mX1_leastNear_L7 : Nat → PH → Nat → Int32 → Int64 → Int32 → Option (Int32 × PH)
  | 0 => fun _ _ _ _ _ => none
  | n + 1 => mX1_leastNear_b7 (mX1_leastNear_L7 n)
def mX1_leastNear (h : PH) (a0 : Nat) (x1 : Int32) : Option (Int32 × PH) :=
  oO h a0 1 <|
  mX1_leastNear_L7 FU h a0 x1 (51 : Int64) (0 : Int32)
def mX1_fits_b96 (h : PH) (a0 : Nat) (x1 : Int32) (x2 : Int32) (s0 : Int32) : Option (Int32 × PH) :=
  if s0 = 0 then (
  rz (0 : Int32) h) else (
  (gR 1 1 h a0).bind fun v104 =>
  b2 (mX2_isInWindow h v104 x1 x2) fun v109 h109 =>
  if v109 = 0 then (
  rz (0 : Int32) h109) else (
  rz (1 : Int32) h109))
def mX1_fits (h : PH) (a0 : Nat) (x1 : Int32) (x2 : Int32) (x3 : Int32) : Option (Int32 × PH) :=
  oO h a0 1 <|
  (gR 1 0 h a0).bind fun v1 =>
  (gR 8 4 h v1).bind fun v4 =>
  (aR 5 h v4 x1).bind fun v8 =>
  (aI 0 h v8 (0 : Int32)).bind fun v10 =>
  (gR 1 0 h a0).bind fun v14 =>
  (gR 8 4 h v14).bind fun v17 =>
  (aR 5 h v17 x2).bind fun v21 =>
  (aI 0 h v21 (0 : Int32)).bind fun v23 =>
  if x3 = (6 : Int32) then (
  (gR 1 0 h a0).bind fun v33 =>
  (gR 8 2 h v33).bind fun v36 =>
  (aR 5 h v36 v10).bind fun v41 =>
  (aI 0 h v41 (0 : Int32)).bind fun v43 =>
  (gR 1 0 h a0).bind fun v45 =>
  (gR 8 2 h v45).bind fun v48 =>
  (aR 5 h v48 v23).bind fun v53 =>
  (aI 0 h v53 (0 : Int32)).bind fun v55 =>
  if v43 = v55 then (
  rz (1 : Int32) h) else (
  rz (0 : Int32) h)) else (
  if x3 = (2 : Int32) then (
  if v10 = v23 then (
  mX1_fits_b96 h a0 x1 x2 (1 : Int32)) else (
  mX1_fits_b96 h a0 x1 x2 (0 : Int32))) else (
  (gR 1 0 h a0).bind fun v86 =>
  b2 (mX8_areSimilar h v86 v10 v23) fun v93 h93 =>
  mX1_fits_b96 h93 a0 x1 x2 v93))
def mX1_sourcesFor_b114 (h : PH) (x3 : Int32) : Option (Int32 × PH) :=
  some (x3, h)
def mX1_sourcesFor_b8 (r8 : PH → Nat → Int32 → Int32 → Int32 → Int32 → Int32 → Option (Int32 × PH)) (h : PH) (a0 : Nat) (x1 : Int32) (x2 : Int32) (x3 : Int32) (x4 : Int32) (x5 : Int32) : Option (Int32 × PH) :=
  (gR 1 0 h a0).bind fun v11 =>
  (gR 8 0 h v11).bind fun v14 =>
  (aI 0 h v14 (3 : Int32)).bind fun v18 =>
  if v18 ≤ x5 then (
  if x2 = (6 : Int32) then (
  mX1_sourcesFor_b114 h x3) else (
  if x4 = 0 then (
  mX1_sourcesFor_b114 h x3) else (
  some (x4, h)))) else (
  (gR 1 1 h a0).bind fun v23 =>
  b2 (mX2_isAnother h v23 x1 x5) fun v29 h29 =>
  if v29 = 0 then (
  r8 h29 a0 x1 x2 x3 x4 (x5 + 1)) else (
  (gR 1 2 h29 a0).bind fun v36 =>
  (aI 0 h29 v36 x5).bind fun v41 =>
  if v41 = 0 then (
  b2 (mX1_fits h29 a0 x1 x5 x2) fun v50 h50 =>
  if v50 = 0 then (
  r8 h50 a0 x1 x2 x3 x4 (x5 + 1)) else (
  (gR 1 1 h50 a0).bind fun v67 =>
  (gR 2 4 h50 v67).bind fun v70 =>
  (aI 0 h50 v70 x1).bind fun v74 =>
  (gR 1 1 h50 a0).bind fun v76 =>
  (gR 2 4 h50 v76).bind fun v79 =>
  (aI 0 h50 v79 x5).bind fun v84 =>
  if v74 = v84 then (
  r8 h50 a0 x1 x2 (x3 ||| ((1 : Int32) <<< (x5 &&& 31))) (x4 ||| ((1 : Int32) <<< (x5 &&& 31))) (x5 + 1)) else (
  r8 h50 a0 x1 x2 (x3 ||| ((1 : Int32) <<< (x5 &&& 31))) x4 (x5 + 1)))) else (
  r8 h29 a0 x1 x2 x3 x4 (x5 + 1))))
def mX1_sourcesFor_L8 : Nat → PH → Nat → Int32 → Int32 → Int32 → Int32 → Int32 → Option (Int32 × PH)
  | 0 => fun _ _ _ _ _ _ _ => none
  | n + 1 => mX1_sourcesFor_b8 (mX1_sourcesFor_L8 n)
def mX1_sourcesFor (h : PH) (a0 : Nat) (x1 : Int32) (x2 : Int32) : Option (Int32 × PH) :=
  oO h a0 1 <|
  mX1_sourcesFor_L8 FU h a0 x1 x2 (0 : Int32) (0 : Int32) (0 : Int32)
def mX1_bringLeast_b62 (r9 : PH → Nat → Int32 → Int32 → Int32 → Option (PH)) (h : PH) (a0 : Nat) (x1 : Int32) (x2 : Int32) (x3 : Int32) (x4 : Int64) : Option (PH) :=
  (pF 1 7 h a0 (.inl x3)).bind fun h64 =>
  (pF 1 6 h64 a0 (.inr (.inl x4))).bind fun h70 =>
  r9 h70 a0 x1 x2 (x3 + 1)
def mX1_bringLeast_b9 (r9 : PH → Nat → Int32 → Int32 → Int32 → Option (PH)) (h : PH) (a0 : Nat) (x1 : Int32) (x2 : Int32) (x3 : Int32) : Option (PH) :=
  (gR 1 0 h a0).bind fun v11 =>
  (gR 8 0 h v11).bind fun v14 =>
  (aI 0 h v14 (3 : Int32)).bind fun v18 =>
  if v18 ≤ x3 then (
  some h) else (
  if ((x2 >>> (x3 &&& 31)) &&& (1 : Int32)) = 0 then (
  r9 h a0 x1 x2 (x3 + 1)) else (
  (gR 1 1 h a0).bind fun v34 =>
  b2 (mX2_brought h v34 x1 x3) fun v39 h39 =>
  (gI 1 7 h39 a0).bind fun v45 =>
  if v45 = (-1 : Int32) then (
  mX1_bringLeast_b62 r9 h39 a0 x1 x2 x3 v39) else (
  (gL 1 6 h39 a0).bind fun v55 =>
  if v55 ≤ v39 then (
  r9 h39 a0 x1 x2 (x3 + 1)) else (
  mX1_bringLeast_b62 r9 h39 a0 x1 x2 x3 v39))))
def mX1_bringLeast_L9 : Nat → PH → Nat → Int32 → Int32 → Int32 → Option (PH)
  | 0 => fun _ _ _ _ _ => none
  | n + 1 => mX1_bringLeast_b9 (mX1_bringLeast_L9 n)
def mX1_bringLeast (h : PH) (a0 : Nat) (x1 : Int32) (x2 : Int32) : Option (PH) :=
  oO h a0 1 <|
  (pF 1 6 h a0 (.inr (.inl (-1 : Int64)))).bind fun h4 =>
  mX1_bringLeast_L9 FU h4 a0 x1 x2 (0 : Int32)
def mX1_ask_b120 (h : PH) (s0 : Nat) (s1 : Int32) : Option (PH) :=
  (pF 1 5 h s0 (.inl s1)).bind fun h120 =>
  some h120
def mX1_ask_b98 (h : PH) (a0 : Nat) (x2 : Int32) : Option (PH) :=
  (gL 1 6 h a0).bind fun v100 =>
  if v100 = (-1 : Int64) then (
  mX1_ask_b120 h a0 ((x2 * (10 : Int32)) + (1 : Int32))) else (
  mX1_ask_b120 h a0 (0 : Int32))
def mX1_ask (h : PH) (a0 : Nat) (x1 : Int32) (x2 : Int32) : Option (PH) :=
  oO h a0 1 <|
  (pF 1 7 h a0 (.inl (-1 : Int32))).bind fun h2 =>
  if x2 = (1 : Int32) then (
  (gR 1 1 h2 a0).bind fun v12 =>
  (gR 2 6 h2 v12).bind fun v15 =>
  (aL h2 v15 x1).bind fun v19 =>
  (pF 1 6 h2 a0 (.inr (.inl v19))).bind fun h20 =>
  (gR 1 2 h20 a0).bind fun v25 =>
  (aI 0 h20 v25 x1).bind fun v29 =>
  (pF 1 5 h20 a0 (.inl v29)).bind fun h30 =>
  some h30) else (
  if x2 = (4 : Int32) then (
  (gR 1 1 h2 a0).bind fun v41 =>
  (gR 2 7 h2 v41).bind fun v44 =>
  (aI 0 h2 v44 x1).bind fun v48 =>
  (pF 1 7 h2 a0 (.inl v48)).bind fun h49 =>
  (gR 1 1 h49 a0).bind fun v54 =>
  b2 (mX2_resoldWorth h49 v54 x1) fun v58 h58 =>
  (pF 1 6 h58 a0 (.inr (.inl v58))).bind fun h61 =>
  mX1_ask_b98 h61 a0 x2) else (
  if x2 = (5 : Int32) then (
  (gR 1 1 h2 a0).bind fun v74 =>
  b2 (mX2_madeWorth h2 v74 x1) fun v78 h78 =>
  (pF 1 6 h78 a0 (.inr (.inl v78))).bind fun h81 =>
  mX1_ask_b98 h81 a0 x2) else (
  b2 (mX1_sourcesFor h2 a0 x1 x2) fun v92 h92 =>
  (mX1_bringLeast h92 a0 x1 v92).bind fun h95 =>
  mX1_ask_b98 h95 a0 x2)))
def mX1_climb_b35 (r12 : PH → Nat → Int32 → Int32 → Int32 → Option (PH)) (h : PH) (a0 : Nat) (x1 : Int32) (x2 : Int32) (x3 : Int32) (s0 : Int32) : Option (PH) :=
  (mX1_ask h a0 x1 s0).bind fun h41 =>
  (gI 1 5 h41 a0).bind fun v45 =>
  if v45 = 0 then (
  (pF 1 10 h41 a0 (.inl s0)).bind fun h54 =>
  some h54) else (
  (gR 1 8 h41 a0).bind fun v59 =>
  (gI 1 9 h41 a0).bind fun v63 =>
  (gI 1 5 h41 a0).bind fun v67 =>
  (sI h41 v59 v63 v67).bind fun h70 =>
  (gI 1 9 h70 a0).bind fun v73 =>
  (pF 1 9 h70 a0 (.inl (v73 + (1 : Int32)))).bind fun h78 =>
  r12 h78 a0 x1 x2 (x3 + 1))
def mX1_climb_b12 (r12 : PH → Nat → Int32 → Int32 → Int32 → Option (PH)) (h : PH) (a0 : Nat) (x1 : Int32) (x2 : Int32) (x3 : Int32) : Option (PH) :=
  if (6 : Int32) ≤ x3 then (
  some h) else (
  if x2 = 0 then (
  (tI 3 x3).bind fun v34 =>
  mX1_climb_b35 r12 h a0 x1 x2 x3 v34) else (
  (tI 4 x3).bind fun v26 =>
  mX1_climb_b35 r12 h a0 x1 x2 x3 v26))
def mX1_climb_L12 : Nat → PH → Nat → Int32 → Int32 → Int32 → Option (PH)
  | 0 => fun _ _ _ _ _ => none
  | n + 1 => mX1_climb_b12 (mX1_climb_L12 n)
def mX1_climb (h : PH) (a0 : Nat) (x1 : Int32) (x2 : Int32) : Option (PH) :=
  oO h a0 1 <|
  (pF 1 9 h a0 (.inl (0 : Int32))).bind fun h2 =>
  (pF 1 10 h2 a0 (.inl (0 : Int32))).bind fun h7 =>
  mX1_climb_L12 FU h7 a0 x1 x2 (0 : Int32)
def mX1_answer (h : PH) (a0 : Nat) : Option (Int64 × PH) :=
  oO h a0 1 <|
  (gI 1 10 h a0).bind fun v1 =>
  if v1 = 0 then (
  some ((-2 : Int64), h)) else (
  (gL 1 6 h a0).bind fun v14 =>
  some (v14, h))
def mX2_init (h : PH) (a0 : Nat) (a1 : Nat) : Option (PH) :=
  oO h a0 2 <|
  al (.inr (0, 6, .inl (fun _ => 0))) h fun n7_0 h7_0 =>
  (pF 2 1 h7_0 a0 (.inr (.inr (some n7_0)))).bind fun h9_1 =>
  al (.inr (3, 10, .inl (fun _ => 0))) h9_1 fun n15_2 h15_2 =>
  (pF 2 2 h15_2 a0 (.inr (.inr (some n15_2)))).bind fun h17_3 =>
  (pF 2 3 h17_3 a0 (.inl (-1 : Int32))).bind fun h22 =>
  al (.inr (0, 10, .inl (fun _ => 0))) h22 fun n28_4 h28_4 =>
  (pF 2 4 h28_4 a0 (.inr (.inr (some n28_4)))).bind fun h30_5 =>
  al2 4 10 h30_5 fun n37_6 h37_6 =>
  (pF 2 5 h37_6 a0 (.inr (.inr (some n37_6)))).bind fun h41_7 =>
  al (.inr (1, 10, .inr (.inl (fun _ => 0)))) h41_7 fun n47_8 h47_8 =>
  (pF 2 6 h47_8 a0 (.inr (.inr (some n47_8)))).bind fun h49_9 =>
  al (.inr (0, 10, .inl (fun _ => 0))) h49_9 fun n55_10 h55_10 =>
  (pF 2 7 h55_10 a0 (.inr (.inr (some n55_10)))).bind fun h57_11 =>
  (pF 2 0 h57_11 a0 (.inr (.inr (some a1)))).bind fun h62_12 =>
  some h62_12
def mX3_init (h : PH) (a0 : Nat) : Option (PH) :=
  oO h a0 3 <|
  al (.inr (2, 480, .inl (fun _ => 0))) h fun n8_0 h8_0 =>
  (pF 3 0 h8_0 a0 (.inr (.inr (some n8_0)))).bind fun h10_1 =>
  some h10_1
def mX3_add (h : PH) (a0 : Nat) (x1 : Int32) : Option (PH) :=
  oO h a0 3 <|
  (gI 3 1 h a0).bind fun v1 =>
  (gR 3 0 h a0).bind fun v5 =>
  (aN 2 h v5).bind fun v8 =>
  if v8 ≤ v1 then (
  some h) else (
  (gR 3 0 h a0).bind fun v13 =>
  (gI 3 1 h a0).bind fun v17 =>
  (sB 2 .byte h v13 v17 (Int8.toInt32 (Int32.toInt8 x1))).bind fun h22 =>
  (gI 3 1 h22 a0).bind fun v25 =>
  (pF 3 1 h22 a0 (.inl (v25 + (1 : Int32)))).bind fun h30 =>
  some h30)
def mX3_addText_b2 (r2 : PH → Nat → Nat → Int32 → Option (PH)) (h : PH) (a0 : Nat) (a1 : Nat) (x2 : Int32) : Option (PH) :=
  (kLen a1).bind fun v4 =>
  if v4 ≤ x2 then (
  some h) else (
  (kAt a1 x2).bind fun v13 =>
  (mX3_add h a0 v13).bind fun h16 =>
  r2 h16 a0 a1 (x2 + 1))
def mX3_addText_L2 : Nat → PH → Nat → Nat → Int32 → Option (PH)
  | 0 => fun _ _ _ _ => none
  | n + 1 => mX3_addText_b2 (mX3_addText_L2 n)
def mX3_addText (h : PH) (a0 : Nat) (a1 : Nat) : Option (PH) :=
  oO h a0 3 <|
  mX3_addText_L2 FU h a0 a1 (0 : Int32)
def mX3_addWord_b4 (r4 : PH → Nat → Int64 → Int64 → Option (PH)) (h : PH) (a0 : Nat) (x1 : Int64) (x3 : Int64) : Option (PH) :=
  if x3 ≤ (0 : Int64) then (
  some h) else (
  dz (x3 = 0) <|
  if ((x1 / x3) - (x1 / x3) / (27 : Int64) * (27 : Int64)) ≤ (0 : Int64) then (
  r4 h a0 x1 (x3 / (27 : Int64))) else (
  (mX3_add h a0 (((Int64.toInt32 ((x1 / x3) - (x1 / x3) / (27 : Int64) * (27 : Int64))) - (1 : Int32)) + (97 : Int32))).bind fun h35 =>
  r4 h35 a0 x1 (x3 / (27 : Int64))))
def mX3_addWord_L4 : Nat → PH → Nat → Int64 → Int64 → Option (PH)
  | 0 => fun _ _ _ _ => none
  | n + 1 => mX3_addWord_b4 (mX3_addWord_L4 n)
def mX3_addWord (h : PH) (a0 : Nat) (x1 : Int64) : Option (PH) :=
  oO h a0 3 <|
  mX3_addWord_L4 FU h a0 x1 (387420489 : Int64)
def mX3_addNumber_b22 (r4 : PH → Nat → Int64 → Int64 → Option (PH)) (h : PH) (a0 : Nat) (x1 : Int64) (x3 : Int64) : Option (PH) :=
  dz (x3 = 0) <|
  (mX3_add h a0 ((Int64.toInt32 ((x1 / x3) - (x1 / x3) / (10 : Int64) * (10 : Int64))) + (48 : Int32))).bind fun h34 =>
  r4 h34 a0 x1 (x3 / (10 : Int64))
def mX3_addNumber_b4 (r4 : PH → Nat → Int64 → Int64 → Option (PH)) (h : PH) (a0 : Nat) (x1 : Int64) (x3 : Int64) : Option (PH) :=
  if x3 ≤ (0 : Int64) then (
  some h) else (
  if x3 ≤ x1 then (
  mX3_addNumber_b22 r4 h a0 x1 x3) else (
  if x3 = (1 : Int64) then (
  mX3_addNumber_b22 r4 h a0 x1 x3) else (
  r4 h a0 x1 (x3 / (10 : Int64)))))
def mX3_addNumber_L4 : Nat → PH → Nat → Int64 → Int64 → Option (PH)
  | 0 => fun _ _ _ _ => none
  | n + 1 => mX3_addNumber_b4 (mX3_addNumber_L4 n)
def mX3_addNumber (h : PH) (a0 : Nat) (x1 : Int64) : Option (PH) :=
  oO h a0 3 <|
  mX3_addNumber_L4 FU h a0 x1 (1000000000000000000 : Int64)
def mX7_learn_b5 (r5 : PH → Nat → Nat → Int32 → Int32 → Option (PH)) (h : PH) (a0 : Nat) (a1 : Nat) (x3 : Int32) (x4 : Int32) : Option (PH) :=
  (kLen a1).bind fun v8 =>
  if v8 ≤ x4 then (
  some h) else (
  if (30 : Int32) ≤ x3 then (
  some h) else (
  (kAt a1 x4).bind fun v23 =>
  if v23 = (32 : Int32) then (
  r5 h a0 a1 (x3 + 1) (x4 + 1)) else (
  (gR 7 1 h a0).bind fun v42 =>
  (gR 7 1 h a0).bind fun v47 =>
  (aL h v47 x3).bind fun v51 =>
  (sL h v42 x3 ((v51 * (27 : Int64)) + (Int32.toInt64 ((v23 - (97 : Int32)) + (1 : Int32))))).bind fun h65 =>
  r5 h65 a0 a1 x3 (x4 + 1))))
def mX7_learn_L5 : Nat → PH → Nat → Nat → Int32 → Int32 → Option (PH)
  | 0 => fun _ _ _ _ _ => none
  | n + 1 => mX7_learn_b5 (mX7_learn_L5 n)
def mX7_learn (h : PH) (a0 : Nat) (a1 : Nat) (x2 : Int32) : Option (PH) :=
  oO h a0 7 <|
  mX7_learn_L5 FU h a0 a1 x2 (0 : Int32)
def mX7_init (h : PH) (a0 : Nat) (a1 : Nat) : Option (PH) :=
  oO h a0 7 <|
  al (.inr (1, 30, .inr (.inl (fun _ => 0)))) h fun n7_0 h7_0 =>
  (pF 7 1 h7_0 a0 (.inr (.inr (some n7_0)))).bind fun h9_1 =>
  (gR 6 0 h9_1 a1).bind fun v14 =>
  (pF 7 0 h9_1 a0 (.inr (.inr (some v14)))).bind fun h17_2 =>
  (mX7_learn h17_2 a0 0 (0 : Int32)).bind fun h24 =>
  (mX7_learn h24 a0 1 (12 : Int32)).bind fun h32 =>
  (mX7_learn h32 a0 2 (24 : Int32)).bind fun h40 =>
  some h40
def mX4_init (h : PH) (a0 : Nat) (a1 : Nat) (a2 : Nat) : Option (PH) :=
  oO h a0 4 <|
  al (.inr (1, 26, .inr (.inl (fun _ => 0)))) h fun n7_0 h7_0 =>
  (pF 4 2 h7_0 a0 (.inr (.inr (some n7_0)))).bind fun h9_1 =>
  al (.inr (0, 26, .inl (fun _ => 0))) h9_1 fun n15_2 h15_2 =>
  (pF 4 3 h15_2 a0 (.inr (.inr (some n15_2)))).bind fun h17_3 =>
  al (.inr (0, 26, .inl (fun _ => 0))) h17_3 fun n23_4 h23_4 =>
  (pF 4 4 h23_4 a0 (.inr (.inr (some n23_4)))).bind fun h25_5 =>
  al (.inl (7, [.inr (.inr none), .inr (.inr none), .inl 0, .inl 0, .inl 0, .inl 0, .inl 0, .inr (.inl 0)])) h25_5 fun n29_6 h29_6 =>
  (mX7_init h29_6 n29_6 a1).bind fun h34_7 =>
  (pF 4 0 h34_7 a0 (.inr (.inr (some n29_6)))).bind fun h37_8 =>
  (pF 4 1 h37_8 a0 (.inr (.inr (some a2)))).bind fun h42_9 =>
  some h42_9
def mX8_clear_b18 (r18 : PH → Nat → Int32 → Option (PH)) (h : PH) (a0 : Nat) (x1 : Int32) : Option (PH) :=
  if (4 : Int32) ≤ x1 then (
  some h) else (
  (gR 8 0 h a0).bind fun v27 =>
  (tI 2 x1).bind fun v38 =>
  (sI h v27 ((6 : Int32) + x1) v38).bind fun h39 =>
  r18 h39 a0 (x1 + 1))
def mX8_clear_L18 : Nat → PH → Nat → Int32 → Option (PH)
  | 0 => fun _ _ _ => none
  | n + 1 => mX8_clear_b18 (mX8_clear_L18 n)
def mX8_clear (h : PH) (a0 : Nat) : Option (PH) :=
  oO h a0 8 <|
  (gR 8 0 h a0).bind fun v1 =>
  (mJ7_fill_53178 h v1 (0 : Int32)).bind fun h5 =>
  (gR 8 1 h5 a0).bind fun v9 =>
  (mJ7_fill_53178 h5 v9 (0 : Int32)).bind fun h13 =>
  mX8_clear_L18 FU h13 a0 (0 : Int32)
def mX7_start (h : PH) (a0 : Nat) (x1 : Int32) : Option (PH) :=
  oO h a0 7 <|
  (gR 7 0 h a0).bind fun v3 =>
  (aN 2 h v3).bind fun v6 =>
  (pF 7 2 h a0 (.inl (mmin x1 v6))).bind fun h10 =>
  (pF 7 3 h10 a0 (.inl (0 : Int32))).bind fun h15 =>
  some h15
def mX7_isLetter (h : PH) (x0 : Int32) : Option (Int32 × PH) :=
  if x0 < (97 : Int32) then (
  rz (0 : Int32) h) else (
  if (122 : Int32) < x0 then (
  rz (0 : Int32) h) else (
  rz (1 : Int32) h))
def mX7_takeWord_b92 (r92 : PH → Nat → Int32 → Option (PH)) (h : PH) (a0 : Nat) (x1 : Int32) : Option (PH) :=
  if (30 : Int32) ≤ x1 then (
  some h) else (
  (gI 7 5 h a0).bind fun v99 =>
  if v99 = (1 : Int32) then (
  (gR 7 1 h a0).bind fun v107 =>
  (aL h v107 x1).bind fun v111 =>
  (gL 7 7 h a0).bind fun v113 =>
  if v111 = v113 then (
  (pF 7 6 h a0 (.inl x1)).bind fun h122 =>
  r92 h122 a0 (x1 + 1)) else (
  r92 h a0 (x1 + 1))) else (
  some h))
def mX7_takeWord_L92 : Nat → PH → Nat → Int32 → Option (PH)
  | 0 => fun _ _ _ => none
  | n + 1 => mX7_takeWord_b92 (mX7_takeWord_L92 n)
def mX7_takeWord_b87 (h : PH) (a0 : Nat) (s0 : Nat) (s1 : Int32) : Option (PH) :=
  (pF 7 5 h s0 (.inl s1)).bind fun h87 =>
  mX7_takeWord_L92 FU h87 a0 (0 : Int32)
def mX7_takeWord_b67 (h : PH) (a0 : Nat) : Option (PH) :=
  (gI 7 3 h a0).bind fun v69 =>
  (gI 7 4 h a0).bind fun v73 =>
  if (v69 - v73) ≤ (7 : Int32) then (
  mX7_takeWord_b87 h a0 a0 (1 : Int32)) else (
  mX7_takeWord_b87 h a0 a0 (4 : Int32))
def mX7_takeWord_b0 (r0 : PH → Nat → Option (PH)) (h : PH) (a0 : Nat) : Option (PH) :=
  (gI 7 3 h a0).bind fun v1 =>
  (gI 7 2 h a0).bind fun v5 =>
  if v5 ≤ v1 then (
  mX7_takeWord_b67 h a0) else (
  (gR 7 0 h a0).bind fun v12 =>
  (gI 7 3 h a0).bind fun v16 =>
  (aI 2 h v12 v16).bind fun v19 =>
  b2 (mX7_isLetter h v19) fun v20 h20 =>
  if v20 = 0 then (
  mX7_takeWord_b67 h20 a0) else (
  (gL 7 7 h20 a0).bind fun v28 =>
  (gR 7 0 h20 a0).bind fun v36 =>
  (gI 7 3 h20 a0).bind fun v40 =>
  (aI 2 h20 v36 v40).bind fun v43 =>
  (pF 7 7 h20 a0 (.inr (.inl ((v28 * (27 : Int64)) + (Int32.toInt64 ((v43 - (97 : Int32)) + (1 : Int32))))))).bind fun h51 =>
  (gI 7 3 h51 a0).bind fun v56 =>
  (pF 7 3 h51 a0 (.inl (v56 + (1 : Int32)))).bind fun h61 =>
  r0 h61 a0))
def mX7_takeWord_L0 : Nat → PH → Nat → Option (PH)
  | 0 => fun _ _ => none
  | n + 1 => mX7_takeWord_b0 (mX7_takeWord_L0 n)
def mX7_takeWord (h : PH) (a0 : Nat) : Option (PH) :=
  oO h a0 7 <|
  mX7_takeWord_L0 FU h a0
def mX7_isDigit (h : PH) (x0 : Int32) : Option (Int32 × PH) :=
  if x0 < (48 : Int32) then (
  rz (0 : Int32) h) else (
  if (57 : Int32) < x0 then (
  rz (0 : Int32) h) else (
  rz (1 : Int32) h))
def mX7_takeNumber_b84 (h : PH) (s0 : Nat) (s1 : Int32) : Option (PH) :=
  (pF 7 5 h s0 (.inl s1)).bind fun h84 =>
  some h84
def mX7_takeNumber_b65 (h : PH) (a0 : Nat) : Option (PH) :=
  (gI 7 3 h a0).bind fun v67 =>
  (gI 7 4 h a0).bind fun v71 =>
  if (v67 - v71) ≤ (4 : Int32) then (
  mX7_takeNumber_b84 h a0 (2 : Int32)) else (
  mX7_takeNumber_b84 h a0 (4 : Int32))
def mX7_takeNumber_b0 (r0 : PH → Nat → Option (PH)) (h : PH) (a0 : Nat) : Option (PH) :=
  (gI 7 3 h a0).bind fun v1 =>
  (gI 7 2 h a0).bind fun v5 =>
  if v5 ≤ v1 then (
  mX7_takeNumber_b65 h a0) else (
  (gR 7 0 h a0).bind fun v12 =>
  (gI 7 3 h a0).bind fun v16 =>
  (aI 2 h v12 v16).bind fun v19 =>
  b2 (mX7_isDigit h v19) fun v20 h20 =>
  if v20 = 0 then (
  mX7_takeNumber_b65 h20 a0) else (
  (gL 7 7 h20 a0).bind fun v28 =>
  (gR 7 0 h20 a0).bind fun v36 =>
  (gI 7 3 h20 a0).bind fun v40 =>
  (aI 2 h20 v36 v40).bind fun v43 =>
  (pF 7 7 h20 a0 (.inr (.inl ((v28 * (10 : Int64)) + (Int32.toInt64 (v43 - (48 : Int32))))))).bind fun h49 =>
  (gI 7 3 h49 a0).bind fun v54 =>
  (pF 7 3 h49 a0 (.inl (v54 + (1 : Int32)))).bind fun h59 =>
  r0 h59 a0))
def mX7_takeNumber_L0 : Nat → PH → Nat → Option (PH)
  | 0 => fun _ _ => none
  | n + 1 => mX7_takeNumber_b0 (mX7_takeNumber_L0 n)
def mX7_takeNumber (h : PH) (a0 : Nat) : Option (PH) :=
  oO h a0 7 <|
  mX7_takeNumber_L0 FU h a0
def mX7_next_b39 (r0 : PH → Nat → Option (PH)) (h : PH) (a0 : Nat) : Option (PH) :=
  (gI 7 3 h a0).bind fun v41 =>
  (pF 7 3 h a0 (.inl (v41 + (1 : Int32)))).bind fun h46 =>
  r0 h46 a0
def mX7_next_b52 (h : PH) (a0 : Nat) : Option (PH) :=
  (gI 7 3 h a0).bind fun v54 =>
  (pF 7 4 h a0 (.inl v54)).bind fun h57 =>
  (pF 7 6 h57 a0 (.inl (-1 : Int32))).bind fun h62 =>
  (pF 7 7 h62 a0 (.inr (.inl (0 : Int64)))).bind fun h67 =>
  (gI 7 3 h67 a0).bind fun v71 =>
  (gI 7 2 h67 a0).bind fun v75 =>
  if v71 < v75 then (
  (gR 7 0 h67 a0).bind fun v90 =>
  (gI 7 3 h67 a0).bind fun v94 =>
  (aI 2 h67 v90 v94).bind fun v97 =>
  if v97 = (59 : Int32) then (
  (pF 7 5 h67 a0 (.inl (3 : Int32))).bind fun h105 =>
  (gI 7 3 h105 a0).bind fun v110 =>
  (pF 7 3 h105 a0 (.inl (v110 + (1 : Int32)))).bind fun h115 =>
  some h115) else (
  (gR 7 0 h67 a0).bind fun v122 =>
  (gI 7 3 h67 a0).bind fun v126 =>
  (aI 2 h67 v122 v126).bind fun v129 =>
  b2 (mX7_isLetter h67 v129) fun v130 h130 =>
  if v130 = 0 then (
  (gR 7 0 h130 a0).bind fun v144 =>
  (gI 7 3 h130 a0).bind fun v148 =>
  (aI 2 h130 v144 v148).bind fun v151 =>
  b2 (mX7_isDigit h130 v151) fun v152 h152 =>
  if v152 = 0 then (
  (pF 7 5 h152 a0 (.inl (4 : Int32))).bind fun h167 =>
  some h167) else (
  (mX7_takeNumber h152 a0).bind fun h159 =>
  some h159)) else (
  (mX7_takeWord h130 a0).bind fun h137 =>
  some h137))) else (
  (pF 7 5 h67 a0 (.inl (0 : Int32))).bind fun h83 =>
  some h83)
def mX7_next_b0 (r0 : PH → Nat → Option (PH)) (h : PH) (a0 : Nat) : Option (PH) :=
  (gI 7 3 h a0).bind fun v1 =>
  (gI 7 2 h a0).bind fun v5 =>
  if v5 ≤ v1 then (
  mX7_next_b52 h a0) else (
  (gR 7 0 h a0).bind fun v12 =>
  (gI 7 3 h a0).bind fun v16 =>
  (aI 2 h v12 v16).bind fun v19 =>
  if v19 = (32 : Int32) then (
  mX7_next_b39 r0 h a0) else (
  (gR 7 0 h a0).bind fun v26 =>
  (gI 7 3 h a0).bind fun v30 =>
  (aI 2 h v26 v30).bind fun v33 =>
  if v33 = (10 : Int32) then (
  mX7_next_b39 r0 h a0) else (
  mX7_next_b52 h a0)))
def mX7_next_L0 : Nat → PH → Nat → Option (PH)
  | 0 => fun _ _ => none
  | n + 1 => mX7_next_b0 (mX7_next_L0 n)
def mX7_next (h : PH) (a0 : Nat) : Option (PH) :=
  oO h a0 7 <|
  mX7_next_L0 FU h a0
def mX4_fail (h : PH) (a0 : Nat) (x1 : Int32) : Option (PH) :=
  oO h a0 4 <|
  (gI 4 7 h a0).bind fun v1 =>
  if v1 = 0 then (
  (gR 4 0 h a0).bind fun v11 =>
  (gI 7 4 h v11).bind fun v14 =>
  (pF 4 7 h a0 (.inl (((8 : Int32) * v14) + x1))).bind fun h20 =>
  some h20) else (
  some h)
def mX4_isFull (h : PH) (a0 : Nat) (x1 : Int32) : Option (Int32 × PH) :=
  oO h a0 4 <|
  if x1 = (0 : Int32) then (
  (gR 4 1 h a0).bind fun v49 =>
  (gR 8 0 h v49).bind fun v52 =>
  (aI 0 h v52 (0 : Int32)).bind fun v56 =>
  if v56 < (6 : Int32) then (
  rz (0 : Int32) h) else (
  rz (1 : Int32) h)) else (
  if x1 = (1 : Int32) then (
  (gR 4 1 h a0).bind fun v69 =>
  (gR 8 0 h v69).bind fun v72 =>
  (aI 0 h v72 (13 : Int32)).bind fun v77 =>
  if v77 < (6 : Int32) then (
  rz (0 : Int32) h) else (
  rz (1 : Int32) h)) else (
  if x1 = (2 : Int32) then (
  (gR 4 1 h a0).bind fun v90 =>
  (gR 8 0 h v90).bind fun v93 =>
  (aI 0 h v93 (1 : Int32)).bind fun v97 =>
  if v97 < (6 : Int32) then (
  rz (0 : Int32) h) else (
  rz (1 : Int32) h)) else (
  if x1 = (3 : Int32) then (
  (gR 4 1 h a0).bind fun v110 =>
  (gR 8 0 h v110).bind fun v113 =>
  (aI 0 h v113 (2 : Int32)).bind fun v117 =>
  if v117 < (4 : Int32) then (
  rz (0 : Int32) h) else (
  rz (1 : Int32) h)) else (
  if x1 = (4 : Int32) then (
  (gR 4 1 h a0).bind fun v129 =>
  (gR 8 0 h v129).bind fun v132 =>
  (aI 0 h v132 (3 : Int32)).bind fun v136 =>
  if v136 < (10 : Int32) then (
  rz (0 : Int32) h) else (
  rz (1 : Int32) h)) else (
  if x1 = (5 : Int32) then (
  (gR 4 1 h a0).bind fun v149 =>
  (gR 8 0 h v149).bind fun v152 =>
  (aI 0 h v152 (4 : Int32)).bind fun v156 =>
  if v156 < (12 : Int32) then (
  rz (0 : Int32) h) else (
  rz (1 : Int32) h)) else (
  if x1 = (6 : Int32) then (
  rz (0 : Int32) h) else (
  if x1 = (7 : Int32) then (
  (gR 4 1 h a0).bind fun v169 =>
  (gR 8 0 h v169).bind fun v172 =>
  (aI 0 h v172 (5 : Int32)).bind fun v176 =>
  if v176 < (4 : Int32) then (
  rz (0 : Int32) h) else (
  rz (1 : Int32) h)) else (
  rz (0 : Int32) h))))))))
def mX4_checkStart_b10 (h : PH) (a0 : Nat) : Option (PH) :=
  (mX4_fail h a0 (1 : Int32)).bind fun h12 =>
  some h12
def mX4_checkStart_b43 (h : PH) (a0 : Nat) (x1 : Int32) : Option (PH) :=
  b2 (mX4_isFull h a0 x1) fun v45 h45 =>
  if v45 = 0 then (
  some h45) else (
  (mX4_fail h45 a0 (5 : Int32)).bind fun h53 =>
  some h53)
def mX4_checkStart (h : PH) (a0 : Nat) (x1 : Int32) : Option (PH) :=
  oO h a0 4 <|
  if x1 < 0 then (
  mX4_checkStart_b10 h a0) else (
  if x1 ≤ (11 : Int32) then (
  if x1 < (8 : Int32) then (
  mX4_checkStart_b43 h a0 x1) else (
  (gI 4 6 h a0).bind fun v25 =>
  if ((v25 >>> (x1 &&& 31)) &&& (1 : Int32)) = 0 then (
  mX4_checkStart_b43 h a0 x1) else (
  (mX4_fail h a0 (2 : Int32)).bind fun h37 =>
  some h37))) else (
  mX4_checkStart_b10 h a0))
def mX7_isName (h : PH) (a0 : Nat) : Option (Int32 × PH) :=
  oO h a0 7 <|
  (gI 7 5 h a0).bind fun v1 =>
  if v1 = (1 : Int32) then (
  (gI 7 6 h a0).bind fun v9 =>
  if v9 = (-1 : Int32) then (
  rz (1 : Int32) h) else (
  rz (0 : Int32) h)) else (
  rz (0 : Int32) h)
def mX4_find_b2 (r2 : PH → Nat → Int64 → Int32 → Option (Int32 × PH)) (h : PH) (a0 : Nat) (x1 : Int64) (x3 : Int32) : Option (Int32 × PH) :=
  (gI 4 5 h a0).bind fun v4 =>
  if v4 ≤ x3 then (
  some ((-1 : Int32), h)) else (
  (gR 4 2 h a0).bind fun v11 =>
  (aL h v11 x3).bind fun v15 =>
  if v15 = x1 then (
  some (x3, h)) else (
  r2 h a0 x1 (x3 + 1)))
def mX4_find_L2 : Nat → PH → Nat → Int64 → Int32 → Option (Int32 × PH)
  | 0 => fun _ _ _ _ => none
  | n + 1 => mX4_find_b2 (mX4_find_L2 n)
def mX4_find (h : PH) (a0 : Nat) (x1 : Int64) : Option (Int32 × PH) :=
  oO h a0 4 <|
  mX4_find_L2 FU h a0 x1 (0 : Int32)
def mX4_giveName (h : PH) (a0 : Nat) (x1 : Int32) : Option (PH) :=
  oO h a0 4 <|
  (gR 4 0 h a0).bind fun v1 =>
  (mX7_next h v1).bind fun h4 =>
  (gR 4 0 h4 a0).bind fun v8 =>
  b2 (mX7_isName h4 v8) fun v11 h11 =>
  if v11 = 0 then (
  (mX4_fail h11 a0 (1 : Int32)).bind fun h19 =>
  some h19) else (
  (gR 4 0 h11 a0).bind fun v27 =>
  (gL 7 7 h11 v27).bind fun v30 =>
  b2 (mX4_find h11 a0 v30) fun v33 h33 =>
  if v33 = (-1 : Int32) then (
  (gI 4 5 h33 a0).bind fun v49 =>
  if (26 : Int32) ≤ v49 then (
  some h33) else (
  (gR 4 2 h33 a0).bind fun v58 =>
  (gI 4 5 h33 a0).bind fun v62 =>
  (gR 4 0 h33 a0).bind fun v66 =>
  (gL 7 7 h33 v66).bind fun v69 =>
  (sL h33 v58 v62 v69).bind fun h72 =>
  (gR 4 3 h72 a0).bind fun v74 =>
  (gI 4 5 h72 a0).bind fun v78 =>
  (sI h72 v74 v78 x1).bind fun h82 =>
  (gR 4 4 h82 a0).bind fun v84 =>
  (gI 4 5 h82 a0).bind fun v88 =>
  (gR 4 1 h82 a0).bind fun v92 =>
  (gR 8 0 h82 v92).bind fun v95 =>
  (aI 0 h82 v95 x1).bind fun v99 =>
  (sI h82 v84 v88 v99).bind fun h100 =>
  (gI 4 5 h100 a0).bind fun v103 =>
  (pF 4 5 h100 a0 (.inl (v103 + (1 : Int32)))).bind fun h108 =>
  some h108)) else (
  (mX4_fail h33 a0 (2 : Int32)).bind fun h42 =>
  some h42))
def mX4_readParty (h : PH) (a0 : Nat) : Option (PH) :=
  oO h a0 4 <|
  (mX4_giveName h a0 (0 : Int32)).bind fun h2 =>
  (gR 4 1 h2 a0).bind fun v6 =>
  (gR 8 0 h2 v6).bind fun v9 =>
  (aI 0 h2 v9 (0 : Int32)).bind fun v14 =>
  (sI h2 v9 (0 : Int32) (v14 + (1 : Int32))).bind fun h17 =>
  some h17
def mX4_toldOf_b57 (h : PH) (a0 : Nat) (x2 : Int32) : Option (Int32 × PH) :=
  (gI 4 7 h a0).bind fun v58 =>
  if v58 = 0 then (
  if x2 = (-1 : Int32) then (
  some ((0 : Int32), h)) else (
  (gR 4 4 h a0).bind fun v70 =>
  (aI 0 h v70 x2).bind fun v74 =>
  some (v74, h))) else (
  some ((0 : Int32), h))
def mX4_toldOf_b52 (h : PH) (a0 : Nat) (x2 : Int32) : Option (Int32 × PH) :=
  (mX4_fail h a0 (3 : Int32)).bind fun h54 =>
  mX4_toldOf_b57 h54 a0 x2
def mX4_toldOf (h : PH) (a0 : Nat) (x1 : Int32) : Option (Int32 × PH) :=
  oO h a0 4 <|
  (gR 4 0 h a0).bind fun v1 =>
  (mX7_next h v1).bind fun h4 =>
  (gR 4 0 h4 a0).bind fun v9 =>
  (gL 7 7 h4 v9).bind fun v12 =>
  b2 (mX4_find h4 a0 v12) fun v15 h15 =>
  (gR 4 0 h15 a0).bind fun v20 =>
  b2 (mX7_isName h15 v20) fun v23 h23 =>
  if v23 = 0 then (
  (mX4_fail h23 a0 (1 : Int32)).bind fun h31 =>
  mX4_toldOf_b57 h31 a0 v15) else (
  if v15 = (-1 : Int32) then (
  mX4_toldOf_b52 h23 a0 v15) else (
  (gR 4 3 h23 a0).bind fun v43 =>
  (aI 0 h23 v43 v15).bind fun v47 =>
  if v47 = x1 then (
  mX4_toldOf_b57 h23 a0 v15) else (
  mX4_toldOf_b52 h23 a0 v15)))
def mX4_readKin (h : PH) (a0 : Nat) : Option (PH) :=
  oO h a0 4 <|
  b2 (mX4_toldOf h a0 (0 : Int32)) fun v2 h2 =>
  b2 (mX4_toldOf h2 a0 (0 : Int32)) fun v8 h8 =>
  if v2 = v8 then (
  (mX4_fail h8 a0 (4 : Int32)).bind fun h19 =>
  some h19) else (
  (gR 4 1 h8 a0).bind fun v26 =>
  b2 (mX8_isTold h8 v26 v2 v8) fun v31 h31 =>
  if v31 = 0 then (
  (gR 4 1 h31 a0).bind fun v46 =>
  (mX8_tell h31 v46 v2 v8 (1 : Int32)).bind fun h52 =>
  some h52) else (
  (mX4_fail h31 a0 (2 : Int32)).bind fun h39 =>
  some h39))
def mX4_expect (h : PH) (a0 : Nat) (x1 : Int32) : Option (PH) :=
  oO h a0 4 <|
  (gR 4 0 h a0).bind fun v1 =>
  (mX7_next h v1).bind fun h4 =>
  (gR 4 0 h4 a0).bind fun v8 =>
  (gI 7 6 h4 v8).bind fun v11 =>
  if v11 = x1 then (
  some h4) else (
  (mX4_fail h4 a0 (1 : Int32)).bind fun h20 =>
  some h20)
def mX4_number_b57 (h : PH) (a0 : Nat) (x1 : Int32) : Option (Int32 × PH) :=
  (gI 4 7 h a0).bind fun v58 =>
  if v58 = 0 then (
  (gR 4 0 h a0).bind fun v65 =>
  (gL 7 7 h v65).bind fun v68 =>
  some ((Int64.toInt32 v68), h)) else (
  some (x1, h))
def mX4_number_b52 (h : PH) (a0 : Nat) (x1 : Int32) : Option (Int32 × PH) :=
  (mX4_fail h a0 (4 : Int32)).bind fun h54 =>
  mX4_number_b57 h54 a0 x1
def mX4_number (h : PH) (a0 : Nat) (x1 : Int32) (x2 : Int32) : Option (Int32 × PH) :=
  oO h a0 4 <|
  (gR 4 0 h a0).bind fun v1 =>
  (mX7_next h v1).bind fun h4 =>
  (gR 4 0 h4 a0).bind fun v8 =>
  (gI 7 5 h4 v8).bind fun v11 =>
  if v11 = (2 : Int32) then (
  (gR 4 0 h4 a0).bind fun v27 =>
  (gL 7 7 h4 v27).bind fun v30 =>
  if v30 < (Int32.toInt64 x1) then (
  mX4_number_b52 h4 a0 x1) else (
  (gR 4 0 h4 a0).bind fun v40 =>
  (gL 7 7 h4 v40).bind fun v43 =>
  if v43 ≤ (Int32.toInt64 x2) then (
  mX4_number_b57 h4 a0 x1) else (
  mX4_number_b52 h4 a0 x1))) else (
  (mX4_fail h4 a0 (1 : Int32)).bind fun h20 =>
  mX4_number_b57 h20 a0 x1)
def mX4_readGood (h : PH) (a0 : Nat) : Option (PH) :=
  oO h a0 4 <|
  (gR 4 1 h a0).bind fun v1 =>
  (gR 8 2 h v1).bind fun v4 =>
  (gR 4 1 h a0).bind fun v8 =>
  (gR 8 0 h v8).bind fun v11 =>
  (aI 0 h v11 (1 : Int32)).bind fun v15 =>
  (aR 5 h v4 v15).bind fun v16 =>
  (mX4_giveName h a0 (1 : Int32)).bind fun h20 =>
  (mX4_expect h20 a0 (12 : Int32)).bind fun h26 =>
  b2 (mX4_number h26 a0 (0 : Int32) (9 : Int32)) fun v35 h35 =>
  (sI h35 v16 (0 : Int32) v35).bind fun h38 =>
  (mX4_expect h38 a0 (13 : Int32)).bind fun h42 =>
  b2 (mX4_number h42 a0 (0 : Int32) (9 : Int32)) fun v51 h51 =>
  (sI h51 v16 (1 : Int32) v51).bind fun h54 =>
  (sI h54 v16 (2 : Int32) (0 : Int32)).bind fun h58 =>
  (sI h58 v16 (3 : Int32) (0 : Int32)).bind fun h62 =>
  (gR 4 1 h62 a0).bind fun v64 =>
  (gR 8 0 h62 v64).bind fun v67 =>
  (aI 0 h62 v67 (1 : Int32)).bind fun v72 =>
  (sI h62 v67 (1 : Int32) (v72 + (1 : Int32))).bind fun h75 =>
  some h75
def mX4_readAssist_b94 (h : PH) (a0 : Nat) : Option (PH) :=
  (gR 4 1 h a0).bind fun v95 =>
  (gR 8 0 h v95).bind fun v98 =>
  (aI 0 h v98 (2 : Int32)).bind fun v103 =>
  (sI h v98 (2 : Int32) (v103 + (1 : Int32))).bind fun h106 =>
  some h106
def mX4_readAssist (h : PH) (a0 : Nat) : Option (PH) :=
  oO h a0 4 <|
  (gR 4 1 h a0).bind fun v1 =>
  (gR 8 3 h v1).bind fun v4 =>
  (gR 4 1 h a0).bind fun v8 =>
  (gR 8 0 h v8).bind fun v11 =>
  (aI 0 h v11 (2 : Int32)).bind fun v15 =>
  (aR 5 h v4 v15).bind fun v16 =>
  (mX4_giveName h a0 (2 : Int32)).bind fun h20 =>
  (mX4_expect h20 a0 (14 : Int32)).bind fun h26 =>
  b2 (mX4_number h26 a0 (1 : Int32) (9999 : Int32)) fun v36 h36 =>
  (sI h36 v16 (0 : Int32) v36).bind fun h39 =>
  (sI h39 v16 (1 : Int32) (0 : Int32)).bind fun h43 =>
  (gR 4 0 h43 a0).bind fun v45 =>
  (mX7_next h43 v45).bind fun h48 =>
  (gR 4 0 h48 a0).bind fun v52 =>
  (gI 7 6 h48 v52).bind fun v55 =>
  if v55 = (16 : Int32) then (
  b2 (mX4_number h48 a0 (1 : Int32) (9999 : Int32)) fun v70 h70 =>
  (sI h70 v16 (1 : Int32) v70).bind fun h73 =>
  mX4_readAssist_b94 h73 a0) else (
  (gR 4 0 h48 a0).bind fun v78 =>
  (gI 7 6 h48 v78).bind fun v81 =>
  if v81 = (15 : Int32) then (
  mX4_readAssist_b94 h48 a0) else (
  (mX4_fail h48 a0 (1 : Int32)).bind fun h91 =>
  mX4_readAssist_b94 h91 a0))
def mX4_readSale_b72 (h : PH) (a0 : Nat) (a1 : Nat) : Option (PH) :=
  (mX4_expect h a0 (17 : Int32)).bind fun h75 =>
  b2 (mX4_number h75 a0 (1 : Int32) (9999 : Int32)) fun v85 h85 =>
  (sI h85 a1 (3 : Int32) v85).bind fun h88 =>
  (mX4_expect h88 a0 (18 : Int32)).bind fun h92 =>
  b2 (mX4_number h92 a0 (1 : Int32) (9999 : Int32)) fun v102 h102 =>
  (sI h102 a1 (4 : Int32) v102).bind fun h105 =>
  (mX4_expect h105 a0 (19 : Int32)).bind fun h109 =>
  b2 (mX4_number h109 a0 (0 : Int32) (999 : Int32)) fun v119 h119 =>
  (sI h119 a1 (5 : Int32) v119).bind fun h122 =>
  some h122
def mX4_readSale (h : PH) (a0 : Nat) (a1 : Nat) : Option (PH) :=
  oO h a0 4 <|
  (mJ7_fill_53178 h a1 (0 : Int32)).bind fun h2 =>
  (mX4_giveName h2 a0 (3 : Int32)).bind fun h7 =>
  (gR 4 1 h7 a0).bind fun v11 =>
  (gR 8 5 h7 v11).bind fun v14 =>
  (gR 4 1 h7 a0).bind fun v18 =>
  (gR 8 0 h7 v18).bind fun v21 =>
  (aI 0 h7 v21 (3 : Int32)).bind fun v25 =>
  (gR 4 0 h7 a0).bind fun v27 =>
  (gL 7 7 h7 v27).bind fun v30 =>
  (sL h7 v14 v25 v30).bind fun h33 =>
  b2 (mX4_toldOf h33 a0 (1 : Int32)) fun v38 h38 =>
  (sI h38 a1 (0 : Int32) v38).bind fun h41 =>
  b2 (mX4_toldOf h41 a0 (0 : Int32)) fun v46 h46 =>
  (sI h46 a1 (1 : Int32) v46).bind fun h49 =>
  b2 (mX4_toldOf h49 a0 (0 : Int32)) fun v54 h54 =>
  (sI h54 a1 (2 : Int32) v54).bind fun h57 =>
  (aI 0 h57 a1 (1 : Int32)).bind fun v60 =>
  (aI 0 h57 a1 (2 : Int32)).bind fun v63 =>
  if v60 = v63 then (
  (mX4_fail h57 a0 (4 : Int32)).bind fun h69 =>
  mX4_readSale_b72 h69 a0 a1) else (
  mX4_readSale_b72 h57 a0 a1)
def mX4_readExtras_b60 (r4 : PH → Nat → Nat → Int32 → Int32 → Option (PH)) (h : PH) (a0 : Nat) (a1 : Nat) (x2 : Int32) (x3 : Int32) : Option (PH) :=
  (mX4_fail h a0 (1 : Int32)).bind fun h62 =>
  r4 h62 a0 a1 x2 (x3 + 1)
def mX4_readExtras_b99 (r4 : PH → Nat → Nat → Int32 → Int32 → Option (PH)) (h : PH) (a0 : Nat) (a1 : Nat) (x2 : Int32) (x3 : Int32) (x5 : Int32) : Option (PH) :=
  (aI 0 h a1 (11 : Int32)).bind fun v103 =>
  (sI h a1 (11 : Int32) (v103 ||| x5)).bind fun h107 =>
  r4 h107 a0 a1 x2 (x3 + 1)
def mX4_readExtras_b175 (r4 : PH → Nat → Nat → Int32 → Int32 → Option (PH)) (h : PH) (a0 : Nat) (a1 : Nat) (x2 : Int32) (x3 : Int32) (s0 : Nat) (s1 : Int32) (s2 : Int32) : Option (PH) :=
  (sI h s0 s1 s2).bind fun h175 =>
  r4 h175 a0 a1 x2 (x3 + 1)
def mX4_readExtras_b172 (r4 : PH → Nat → Nat → Int32 → Int32 → Option (PH)) (h : PH) (a0 : Nat) (a1 : Nat) (x2 : Int32) (x3 : Int32) (s0 : Nat) (s1 : Int32) (s2 : Nat) (s3 : Int32) (s4 : Int32) : Option (PH) :=
  b2 (mX4_number h s2 s3 s4) fun v172 h172 =>
  mX4_readExtras_b175 r4 h172 a0 a1 x2 x3 s0 s1 v172
def mX4_readExtras_b4 (r4 : PH → Nat → Nat → Int32 → Int32 → Option (PH)) (h : PH) (a0 : Nat) (a1 : Nat) (x2 : Int32) (x3 : Int32) : Option (PH) :=
  if (900 : Int32) ≤ x3 then (
  some h) else (
  (gI 4 7 h a0).bind fun v12 =>
  if v12 = 0 then (
  (gR 4 0 h a0).bind fun v19 =>
  (mX7_next h v19).bind fun h22 =>
  (gR 4 0 h22 a0).bind fun v26 =>
  (gI 7 6 h22 v26).bind fun v29 =>
  (gR 4 0 h22 a0).bind fun v35 =>
  (gI 7 5 h22 v35).bind fun v38 =>
  if v38 = (3 : Int32) then (
  some h22) else (
  if v29 < (24 : Int32) then (
  mX4_readExtras_b60 r4 h22 a0 a1 x2 x3) else (
  if v29 ≤ (29 : Int32) then (
  if v29 = (29 : Int32) then (
  b2 (mX4_toldOf h22 a0 (2 : Int32)) fun v78 h78 =>
  (aI 0 h78 a1 (11 : Int32)).bind fun v87 =>
  if (v87 &&& ((1 : Int32) <<< (v78 &&& 31))) = 0 then (
  mX4_readExtras_b99 r4 h78 a0 a1 x2 x3 ((1 : Int32) <<< (v78 &&& 31))) else (
  (mX4_fail h78 a0 (2 : Int32)).bind fun h96 =>
  mX4_readExtras_b99 r4 h96 a0 a1 x2 x3 ((1 : Int32) <<< (v78 &&& 31)))) else (
  if ((x2 >>> (v29 &&& 31)) &&& (1 : Int32)) = 0 then (
  if v29 = (24 : Int32) then (
  mX4_readExtras_b175 r4 h22 a0 a1 (x2 ||| ((1 : Int32) <<< (v29 &&& 31))) x3 a1 (((6 : Int32) + v29) - (24 : Int32)) (1 : Int32)) else (
  if v29 = (25 : Int32) then (
  mX4_readExtras_b172 r4 h22 a0 a1 (x2 ||| ((1 : Int32) <<< (v29 &&& 31))) x3 a1 (((6 : Int32) + v29) - (24 : Int32)) a0 (0 : Int32) (99 : Int32)) else (
  mX4_readExtras_b172 r4 h22 a0 a1 (x2 ||| ((1 : Int32) <<< (v29 &&& 31))) x3 a1 (((6 : Int32) + v29) - (24 : Int32)) a0 (0 : Int32) (9999 : Int32)))) else (
  (mX4_fail h22 a0 (2 : Int32)).bind fun h122 =>
  r4 h122 a0 a1 x2 (x3 + 1)))) else (
  mX4_readExtras_b60 r4 h22 a0 a1 x2 x3)))) else (
  some h))
def mX4_readExtras_L4 : Nat → PH → Nat → Nat → Int32 → Int32 → Option (PH)
  | 0 => fun _ _ _ _ _ => none
  | n + 1 => mX4_readExtras_b4 (mX4_readExtras_L4 n)
def mX4_readExtras (h : PH) (a0 : Nat) (a1 : Nat) : Option (PH) :=
  oO h a0 4 <|
  mX4_readExtras_L4 FU h a0 a1 (0 : Int32) (0 : Int32)
def mX4_readResold (h : PH) (a0 : Nat) : Option (PH) :=
  oO h a0 4 <|
  (gR 4 1 h a0).bind fun v1 =>
  (gR 8 6 h v1).bind fun v4 =>
  (gR 4 1 h a0).bind fun v8 =>
  (gR 8 0 h v8).bind fun v11 =>
  (aI 0 h v11 (4 : Int32)).bind fun v15 =>
  (aR 5 h v4 v15).bind fun v16 =>
  b2 (mX4_toldOf h a0 (1 : Int32)) fun v22 h22 =>
  (sI h22 v16 (0 : Int32) v22).bind fun h25 =>
  (mX4_expect h25 a0 (17 : Int32)).bind fun h29 =>
  b2 (mX4_number h29 a0 (1 : Int32) (9999 : Int32)) fun v39 h39 =>
  (sI h39 v16 (1 : Int32) v39).bind fun h42 =>
  (mX4_expect h42 a0 (18 : Int32)).bind fun h46 =>
  b2 (mX4_number h46 a0 (1 : Int32) (9999 : Int32)) fun v56 h56 =>
  (sI h56 v16 (2 : Int32) v56).bind fun h59 =>
  (mX4_expect h59 a0 (19 : Int32)).bind fun h63 =>
  b2 (mX4_number h63 a0 (0 : Int32) (999 : Int32)) fun v73 h73 =>
  (sI h73 v16 (3 : Int32) v73).bind fun h76 =>
  (gR 4 1 h76 a0).bind fun v78 =>
  (gR 8 0 h76 v78).bind fun v81 =>
  (aI 0 h76 v81 (4 : Int32)).bind fun v86 =>
  (sI h76 v81 (4 : Int32) (v86 + (1 : Int32))).bind fun h89 =>
  some h89
def mX4_readMade_b25 (h : PH) (a0 : Nat) (a1 : Nat) : Option (PH) :=
  (mX4_expect h a0 (20 : Int32)).bind fun h28 =>
  b2 (mX4_number h28 a0 (1 : Int32) (9999 : Int32)) fun v38 h38 =>
  (sI h38 a1 (2 : Int32) v38).bind fun h41 =>
  (mX4_expect h41 a0 (21 : Int32)).bind fun h45 =>
  b2 (mX4_number h45 a0 (0 : Int32) (99 : Int32)) fun v54 h54 =>
  (sI h54 a1 (3 : Int32) v54).bind fun h57 =>
  some h57
def mX4_readMade (h : PH) (a0 : Nat) : Option (PH) :=
  oO h a0 4 <|
  (gR 4 1 h a0).bind fun v1 =>
  (gR 8 2 h v1).bind fun v4 =>
  b2 (mX4_toldOf h a0 (1 : Int32)) fun v9 h9 =>
  (aR 5 h9 v4 v9).bind fun v12 =>
  (aI 0 h9 v12 (2 : Int32)).bind fun v16 =>
  if v16 = 0 then (
  mX4_readMade_b25 h9 a0 v12) else (
  (mX4_fail h9 a0 (2 : Int32)).bind fun h22 =>
  mX4_readMade_b25 h22 a0 v12)
def mX4_readBand_b33 (h : PH) (a0 : Nat) (x1 : Int32) (s0 : Int32) : Option (PH) :=
  (mX4_expect h a0 (22 : Int32)).bind fun h37 =>
  (gR 4 1 h37 a0).bind fun v41 =>
  (gR 8 7 h37 v41).bind fun v44 =>
  (aR 5 h37 v44 x1).bind fun v48 =>
  b2 (mX4_number h37 a0 s0 (9999 : Int32)) fun v55 h55 =>
  (sI h55 v48 (0 : Int32) v55).bind fun h58 =>
  (mX4_expect h58 a0 (23 : Int32)).bind fun h62 =>
  (gR 4 1 h62 a0).bind fun v66 =>
  (gR 8 7 h62 v66).bind fun v69 =>
  (aR 5 h62 v69 x1).bind fun v73 =>
  b2 (mX4_number h62 a0 (0 : Int32) (90 : Int32)) fun v79 h79 =>
  (sI h79 v73 (1 : Int32) v79).bind fun h82 =>
  (gR 4 1 h82 a0).bind fun v84 =>
  (gR 8 0 h82 v84).bind fun v87 =>
  (aI 0 h82 v87 (5 : Int32)).bind fun v92 =>
  (sI h82 v87 (5 : Int32) (v92 + (1 : Int32))).bind fun h95 =>
  some h95
def mX4_readBand (h : PH) (a0 : Nat) : Option (PH) :=
  oO h a0 4 <|
  (gR 4 1 h a0).bind fun v1 =>
  (gR 8 0 h v1).bind fun v4 =>
  (aI 0 h v4 (5 : Int32)).bind fun v8 =>
  if v8 = 0 then (
  mX4_readBand_b33 h a0 v8 (2 : Int32)) else (
  (gR 4 1 h a0).bind fun v19 =>
  (gR 8 7 h v19).bind fun v22 =>
  (aR 5 h v22 (v8 - (1 : Int32))).bind fun v28 =>
  (aI 0 h v28 (0 : Int32)).bind fun v30 =>
  mX4_readBand_b33 h a0 v8 (v30 + (1 : Int32)))
def mX4_readRule (h : PH) (a0 : Nat) (x1 : Int32) : Option (PH) :=
  oO h a0 4 <|
  (gI 4 6 h a0).bind fun v7 =>
  (pF 4 6 h a0 (.inl (v7 ||| ((1 : Int32) <<< (x1 &&& 31))))).bind fun h14 =>
  (gR 4 1 h14 a0).bind fun v18 =>
  (gR 8 0 h14 v18).bind fun v21 =>
  (tI 0 (x1 - (8 : Int32))).bind fun v33 =>
  (tI 1 (x1 - (8 : Int32))).bind fun v38 =>
  b2 (mX4_number h14 a0 v33 v38) fun v39 h39 =>
  (sI h39 v21 ((6 : Int32) + (x1 - (8 : Int32))) v39).bind fun h42 =>
  some h42
def mX4_readLine_b158 (h : PH) (a0 : Nat) : Option (PH) :=
  (gR 4 0 h a0).bind fun v159 =>
  (mX7_next h v159).bind fun h162 =>
  (gR 4 0 h162 a0).bind fun v166 =>
  (gI 7 5 h162 v166).bind fun v169 =>
  if v169 = (3 : Int32) then (
  some h162) else (
  (mX4_fail h162 a0 (1 : Int32)).bind fun h178 =>
  some h178)
def mX4_readLine (h : PH) (a0 : Nat) (x1 : Int32) : Option (PH) :=
  oO h a0 4 <|
  if x1 = (0 : Int32) then (
  (mX4_readParty h a0).bind fun h49 =>
  mX4_readLine_b158 h49 a0) else (
  if x1 = (1 : Int32) then (
  (mX4_readKin h a0).bind fun h56 =>
  mX4_readLine_b158 h56 a0) else (
  if x1 = (2 : Int32) then (
  (mX4_readGood h a0).bind fun h63 =>
  mX4_readLine_b158 h63 a0) else (
  if x1 = (3 : Int32) then (
  (mX4_readAssist h a0).bind fun h70 =>
  mX4_readLine_b158 h70 a0) else (
  if x1 = (4 : Int32) then (
  (gR 4 1 h a0).bind fun v78 =>
  (gR 8 4 h v78).bind fun v81 =>
  (gR 4 1 h a0).bind fun v85 =>
  (gR 8 0 h v85).bind fun v88 =>
  (aI 0 h v88 (3 : Int32)).bind fun v92 =>
  (aR 5 h v81 v92).bind fun v93 =>
  (mX4_readSale h a0 v93).bind fun h94 =>
  (gR 4 1 h94 a0).bind fun v99 =>
  (gR 8 4 h94 v99).bind fun v102 =>
  (gR 4 1 h94 a0).bind fun v106 =>
  (gR 8 0 h94 v106).bind fun v109 =>
  (aI 0 h94 v109 (3 : Int32)).bind fun v113 =>
  (aR 5 h94 v102 v113).bind fun v114 =>
  (mX4_readExtras h94 a0 v114).bind fun h115 =>
  (gR 4 1 h115 a0).bind fun v119 =>
  (gR 8 0 h115 v119).bind fun v122 =>
  (aI 0 h115 v122 (3 : Int32)).bind fun v127 =>
  (sI h115 v122 (3 : Int32) (v127 + (1 : Int32))).bind fun h130 =>
  some h130) else (
  if x1 = (5 : Int32) then (
  (mX4_readResold h a0).bind fun h133 =>
  mX4_readLine_b158 h133 a0) else (
  if x1 = (6 : Int32) then (
  (mX4_readMade h a0).bind fun h140 =>
  mX4_readLine_b158 h140 a0) else (
  if x1 = (7 : Int32) then (
  (mX4_readBand h a0).bind fun h147 =>
  mX4_readLine_b158 h147 a0) else (
  (mX4_readRule h a0 x1).bind fun h155 =>
  mX4_readLine_b158 h155 a0))))))))
def mX4_read_b88 (r39 : PH → Nat → Int32 → Option (Int32 × PH)) (h : PH) (a0 : Nat) (x2 : Int32) : Option (Int32 × PH) :=
  (gR 4 0 h a0).bind fun v92 =>
  (mX7_next h v92).bind fun h95 =>
  r39 h95 a0 (x2 + 1)
def mX4_read_b101 (h : PH) (a0 : Nat) (x2 : Int32) : Option (Int32 × PH) :=
  (gI 4 7 h a0).bind fun v102 =>
  if v102 = 0 then (
  some (x2, h)) else (
  (gI 4 7 h a0).bind fun v115 =>
  some (((-2 : Int32) - v115), h))
def mX4_read_b39 (r39 : PH → Nat → Int32 → Option (Int32 × PH)) (h : PH) (a0 : Nat) (x2 : Int32) : Option (Int32 × PH) :=
  (gI 4 7 h a0).bind fun v40 =>
  if v40 = 0 then (
  (gR 4 0 h a0).bind fun v47 =>
  (gI 7 5 h v47).bind fun v50 =>
  if v50 = 0 then (
  mX4_read_b101 h a0 x2) else (
  if (900 : Int32) ≤ x2 then (
  mX4_read_b101 h a0 x2) else (
  (gR 4 0 h a0).bind fun v64 =>
  (gI 7 6 h v64).bind fun v67 =>
  (mX4_checkStart h a0 v67).bind fun h73 =>
  (gI 4 7 h73 a0).bind fun v77 =>
  if v77 = 0 then (
  (mX4_readLine h73 a0 v67).bind fun h85 =>
  mX4_read_b88 r39 h85 a0 x2) else (
  mX4_read_b88 r39 h73 a0 x2)))) else (
  mX4_read_b101 h a0 x2)
def mX4_read_L39 : Nat → PH → Nat → Int32 → Option (Int32 × PH)
  | 0 => fun _ _ _ => none
  | n + 1 => mX4_read_b39 (mX4_read_L39 n)
def mX4_read (h : PH) (a0 : Nat) (x1 : Int32) : Option (Int32 × PH) :=
  oO h a0 4 <|
  (gR 4 1 h a0).bind fun v1 =>
  (mX8_clear h v1).bind fun h4 =>
  (pF 4 5 h4 a0 (.inl (0 : Int32))).bind fun h9 =>
  (pF 4 6 h9 a0 (.inl (0 : Int32))).bind fun h14 =>
  (pF 4 7 h14 a0 (.inl (0 : Int32))).bind fun h19 =>
  (gR 4 0 h19 a0).bind fun v25 =>
  (mX7_start h19 v25 x1).bind fun h29 =>
  (gR 4 0 h29 a0).bind fun v33 =>
  (mX7_next h29 v33).bind fun h36 =>
  mX4_read_L39 FU h36 a0 (0 : Int32)
def mX5_init (h : PH) (a0 : Nat) (a1 : Nat) (a2 : Nat) : Option (PH) :=
  oO h a0 5 <|
  al (.inr (0, 11, .inl (fun _ => 0))) h fun n7_0 h7_0 =>
  (pF 5 2 h7_0 a0 (.inr (.inr (some n7_0)))).bind fun h9_1 =>
  al (.inr (0, 11, .inl (fun _ => 0))) h9_1 fun n15_2 h15_2 =>
  (pF 5 3 h15_2 a0 (.inr (.inr (some n15_2)))).bind fun h17_3 =>
  (pF 5 0 h17_3 a0 (.inr (.inr (some a1)))).bind fun h22_4 =>
  (pF 5 1 h22_4 a0 (.inr (.inr (some a2)))).bind fun h27_5 =>
  some h27_5
def mX5_pricesBelow_b42 (r42 : PH → Nat → Int32 → Int64 → Int64 → Int32 → Int32 → Int32 → Option (Int32 × PH)) (h : PH) (a0 : Nat) (x1 : Int32) (x2 : Int64) (x4 : Int64) (x6 : Int32) (x7 : Int32) (x8 : Int32) : Option (Int32 × PH) :=
  if (9999 : Int32) ≤ x8 then (
  some (x6, h)) else (
  if (x7 - x6) ≤ (1 : Int32) then (
  some (x6, h)) else (
  (gR 5 1 h a0).bind fun v69 =>
  b2 (mX2_priced h v69 x1 ((x6 + x7) / (2 : Int32))) fun v75 h75 =>
  if x2 ≤ (v75 + x4) then (
  r42 h75 a0 x1 x2 x4 x6 ((x6 + x7) / (2 : Int32)) (x8 + 1)) else (
  r42 h75 a0 x1 x2 x4 ((x6 + x7) / (2 : Int32)) x7 (x8 + 1))))
def mX5_pricesBelow_L42 : Nat → PH → Nat → Int32 → Int64 → Int64 → Int32 → Int32 → Int32 → Option (Int32 × PH)
  | 0 => fun _ _ _ _ _ _ _ _ => none
  | n + 1 => mX5_pricesBelow_b42 (mX5_pricesBelow_L42 n)
def mX5_pricesBelow (h : PH) (a0 : Nat) (x1 : Int32) (x2 : Int64) : Option (Int32 × PH) :=
  oO h a0 5 <|
  (gR 5 1 h a0).bind fun v1 =>
  (gR 2 6 h v1).bind fun v4 =>
  (aL h v4 x1).bind fun v8 =>
  (gR 5 1 h a0).bind fun v10 =>
  (gR 5 0 h a0).bind fun v15 =>
  (gR 8 4 h v15).bind fun v18 =>
  (aR 5 h v18 x1).bind fun v22 =>
  (aI 0 h v22 (4 : Int32)).bind fun v24 =>
  b2 (mX2_priced h v10 x1 v24) fun v25 h25 =>
  mX5_pricesBelow_L42 FU h25 a0 x1 x2 (v8 - v25) (0 : Int32) (10000 : Int32) (0 : Int32)
def mX5_find_b8 (r8 : PH → Nat → Int32 → Nat → Int32 → Int32 → Option (PH)) (h : PH) (a0 : Nat) (x1 : Int32) (a2 : Nat) (x3 : Int32) (x4 : Int32) : Option (PH) :=
  if x3 ≤ x4 then (
  some h) else (
  (aN 1 h a2).bind fun v17 =>
  if v17 ≤ x4 then (
  some h) else (
  (gI 5 4 h a0).bind fun v22 =>
  if (11 : Int32) ≤ v22 then (
  some h) else (
  (gR 5 1 h a0).bind fun v31 =>
  (aL h a2 x4).bind fun v37 =>
  b2 (mX2_slack h v31 v37) fun v38 h38 =>
  (gR 5 2 h38 a0).bind fun v44 =>
  (gI 5 4 h38 a0).bind fun v48 =>
  (aL h38 a2 x4).bind fun v56 =>
  b2 (mX5_pricesBelow h38 a0 x1 (v56 - v38)) fun v60 h60 =>
  (sI h60 v44 v48 (v60 + (1 : Int32))).bind fun h65 =>
  (gR 5 3 h65 a0).bind fun v67 =>
  (gI 5 4 h65 a0).bind fun v71 =>
  (aL h65 a2 x4).bind fun v79 =>
  b2 (mX5_pricesBelow h65 a0 x1 ((v79 + v38) + (1 : Int64))) fun v85 h85 =>
  (sI h85 v67 v71 v85).bind fun h88 =>
  (gR 5 2 h88 a0).bind fun v90 =>
  (gI 5 4 h88 a0).bind fun v94 =>
  (aI 0 h88 v90 v94).bind fun v97 =>
  (gR 5 3 h88 a0).bind fun v99 =>
  (gI 5 4 h88 a0).bind fun v103 =>
  (aI 0 h88 v99 v103).bind fun v106 =>
  if v106 < v97 then (
  r8 h88 a0 x1 a2 x3 (x4 + 1)) else (
  (gI 5 4 h88 a0).bind fun v112 =>
  (pF 5 4 h88 a0 (.inl (v112 + (1 : Int32)))).bind fun h117 =>
  r8 h117 a0 x1 a2 x3 (x4 + 1)))))
def mX5_find_L8 : Nat → PH → Nat → Int32 → Nat → Int32 → Int32 → Option (PH)
  | 0 => fun _ _ _ _ _ _ => none
  | n + 1 => mX5_find_b8 (mX5_find_L8 n)
def mX5_find (h : PH) (a0 : Nat) (x1 : Int32) (a2 : Nat) (x3 : Int32) : Option (PH) :=
  oO h a0 5 <|
  (pF 5 4 h a0 (.inl (0 : Int32))).bind fun h2 =>
  mX5_find_L8 FU h2 a0 x1 a2 x3 (0 : Int32)
def mX5_lowestBeyond_b4 (r4 : PH → Nat → Int32 → Int32 → Int32 → Option (Int32 × PH)) (h : PH) (a0 : Nat) (x1 : Int32) (x2 : Int32) (x3 : Int32) : Option (Int32 × PH) :=
  (gI 5 4 h a0).bind fun v6 =>
  if v6 ≤ x3 then (
  some (x2, h)) else (
  (gR 5 3 h a0).bind fun v13 =>
  (aI 0 h v13 x3).bind fun v17 =>
  if v17 ≤ x1 then (
  r4 h a0 x1 x2 (x3 + 1)) else (
  if x2 = (-1 : Int32) then (
  r4 h a0 x1 x3 (x3 + 1)) else (
  (gR 5 2 h a0).bind fun v28 =>
  (aI 0 h v28 x3).bind fun v32 =>
  (gR 5 2 h a0).bind fun v34 =>
  (aI 0 h v34 x2).bind fun v38 =>
  if v38 ≤ v32 then (
  r4 h a0 x1 x2 (x3 + 1)) else (
  r4 h a0 x1 x3 (x3 + 1)))))
def mX5_lowestBeyond_L4 : Nat → PH → Nat → Int32 → Int32 → Int32 → Option (Int32 × PH)
  | 0 => fun _ _ _ _ _ => none
  | n + 1 => mX5_lowestBeyond_b4 (mX5_lowestBeyond_L4 n)
def mX5_lowestBeyond (h : PH) (a0 : Nat) (x1 : Int32) : Option (Int32 × PH) :=
  oO h a0 5 <|
  mX5_lowestBeyond_L4 FU h a0 x1 (-1 : Int32) (0 : Int32)
def mX5_size_b6 (r6 : PH → Nat → Int32 → Int32 → Int32 → Option (Int32 × PH)) (h : PH) (a0 : Nat) (x1 : Int32) (x2 : Int32) (x3 : Int32) : Option (Int32 × PH) :=
  (gI 5 4 h a0).bind fun v8 =>
  if v8 ≤ x3 then (
  some (x1, h)) else (
  b2 (mX5_lowestBeyond h a0 x2) fun v16 h16 =>
  if v16 = (-1 : Int32) then (
  some (x1, h16)) else (
  (gR 5 3 h16 a0).bind fun v32 =>
  (aI 0 h16 v32 v16).bind fun v37 =>
  (gR 5 2 h16 a0).bind fun v39 =>
  (aI 0 h16 v39 v16).bind fun v44 =>
  (gR 5 3 h16 a0).bind fun v55 =>
  (aI 0 h16 v55 v16).bind fun v60 =>
  r6 h16 a0 (x1 + (v37 - (mmax (v44 - (1 : Int32)) x2))) v60 (x3 + 1)))
def mX5_size_L6 : Nat → PH → Nat → Int32 → Int32 → Int32 → Option (Int32 × PH)
  | 0 => fun _ _ _ _ _ => none
  | n + 1 => mX5_size_b6 (mX5_size_L6 n)
def mX5_size (h : PH) (a0 : Nat) : Option (Int32 × PH) :=
  oO h a0 5 <|
  mX5_size_L6 FU h a0 (0 : Int32) (0 : Int32) (0 : Int32)
def mX5_least (h : PH) (a0 : Nat) : Option (Int32 × PH) :=
  oO h a0 5 <|
  b2 (mX5_lowestBeyond h a0 (0 : Int32)) fun v2 h2 =>
  if v2 = (-1 : Int32) then (
  some ((-1 : Int32), h2)) else (
  (gR 5 2 h2 a0).bind fun v16 =>
  (aI 0 h2 v16 v2).bind fun v20 =>
  some (v20, h2))
def mX5_greatest_b4 (r4 : PH → Nat → Int32 → Int32 → Option (Int32 × PH)) (h : PH) (a0 : Nat) (x1 : Int32) (x2 : Int32) : Option (Int32 × PH) :=
  (gI 5 4 h a0).bind fun v6 =>
  if v6 ≤ x2 then (
  some (x1, h)) else (
  (gR 5 3 h a0).bind fun v14 =>
  (aI 0 h v14 x2).bind fun v18 =>
  r4 h a0 (mmax x1 v18) (x2 + 1))
def mX5_greatest_L4 : Nat → PH → Nat → Int32 → Int32 → Option (Int32 × PH)
  | 0 => fun _ _ _ _ => none
  | n + 1 => mX5_greatest_b4 (mX5_greatest_L4 n)
def mX5_greatest (h : PH) (a0 : Nat) : Option (Int32 × PH) :=
  oO h a0 5 <|
  mX5_greatest_L4 FU h a0 (-1 : Int32) (0 : Int32)
def mX6_init (h : PH) (a0 : Nat) : Option (PH) :=
  oO h a0 6 <|
  al (.inr (2, 900, .inl (fun _ => 0))) h fun n8_0 h8_0 =>
  (pF 6 0 h8_0 a0 (.inr (.inr (some n8_0)))).bind fun h10_1 =>
  some h10_1
def mX6_add_b3 (r3 : PH → Nat → Int32 → Int32 → Option (PH)) (h : PH) (a0 : Nat) (x1 : Int32) (x2 : Int32) : Option (PH) :=
  if x2 < 0 then (
  some h) else (
  (gI 6 1 h a0).bind fun v8 =>
  if (900 : Int32) ≤ v8 then (
  some h) else (
  (gR 6 0 h a0).bind fun v18 =>
  (gI 6 1 h a0).bind fun v22 =>
  (sB 2 .byte h v18 v22 (Int8.toInt32 (Int32.toInt8 (x1 >>> (x2 &&& 31))))).bind fun h29 =>
  (gI 6 1 h29 a0).bind fun v32 =>
  (pF 6 1 h29 a0 (.inl (v32 + (1 : Int32)))).bind fun h37 =>
  r3 h37 a0 x1 (x2 + (-8))))
def mX6_add_L3 : Nat → PH → Nat → Int32 → Int32 → Option (PH)
  | 0 => fun _ _ _ _ => none
  | n + 1 => mX6_add_b3 (mX6_add_L3 n)
def mX6_add (h : PH) (a0 : Nat) (x1 : Int32) : Option (PH) :=
  oO h a0 6 <|
  mX6_add_L3 FU h a0 x1 (24 : Int32)
def mX8_init (h : PH) (a0 : Nat) : Option (PH) :=
  oO h a0 8 <|
  al (.inr (0, 14, .inl (fun _ => 0))) h fun n7_0 h7_0 =>
  (pF 8 0 h7_0 a0 (.inr (.inr (some n7_0)))).bind fun h9_1 =>
  al (.inr (0, 6, .inl (fun _ => 0))) h9_1 fun n15_2 h15_2 =>
  (pF 8 1 h15_2 a0 (.inr (.inr (some n15_2)))).bind fun h17_3 =>
  al2 6 4 h17_3 fun n24_4 h24_4 =>
  (pF 8 2 h24_4 a0 (.inr (.inr (some n24_4)))).bind fun h28_5 =>
  al2 4 2 h28_5 fun n34_6 h34_6 =>
  (pF 8 3 h34_6 a0 (.inr (.inr (some n34_6)))).bind fun h38_7 =>
  al2 10 12 h38_7 fun n46_8 h46_8 =>
  (pF 8 4 h46_8 a0 (.inr (.inr (some n46_8)))).bind fun h50_9 =>
  al (.inr (1, 10, .inr (.inl (fun _ => 0)))) h50_9 fun n56_10 h56_10 =>
  (pF 8 5 h56_10 a0 (.inr (.inr (some n56_10)))).bind fun h58_11 =>
  al2 12 4 h58_11 fun n65_12 h65_12 =>
  (pF 8 6 h65_12 a0 (.inr (.inr (some n65_12)))).bind fun h69_13 =>
  al2 4 2 h69_13 fun n75_14 h75_14 =>
  (pF 8 7 h75_14 a0 (.inr (.inr (some n75_14)))).bind fun h79_15 =>
  (mX8_clear h79_15 a0).bind fun h83 =>
  some h83
def mX8_takeRows_b2 (r2 : PH → Nat → Nat → Int32 → Option (PH)) (h : PH) (a0 : Nat) (a1 : Nat) (x2 : Int32) : Option (PH) :=
  (aN 5 h a0).bind fun v4 =>
  if v4 ≤ x2 then (
  some h) else (
  (aN 5 h a1).bind fun v10 =>
  if v10 ≤ x2 then (
  some h) else (
  (aR 5 h a0 x2).bind fun v16 =>
  (aR 5 h a1 x2).bind fun v20 =>
  (aR 5 h a0 x2).bind fun v24 =>
  (aN 0 h v24).bind fun v25 =>
  (aR 5 h a1 x2).bind fun v28 =>
  (aN 0 h v28).bind fun v29 =>
  (cpI h v16 (0 : Int32) v20 (0 : Int32) (mmin v25 v29)).bind fun h33 =>
  r2 h33 a0 a1 (x2 + 1)))
def mX8_takeRows_L2 : Nat → PH → Nat → Nat → Int32 → Option (PH)
  | 0 => fun _ _ _ _ => none
  | n + 1 => mX8_takeRows_b2 (mX8_takeRows_L2 n)
def mX8_takeRows (h : PH) (a0 : Nat) (a1 : Nat) : Option (PH) :=
  mX8_takeRows_L2 FU h a0 a1 (0 : Int32)
def mX8_take (h : PH) (a0 : Nat) (a1 : Nat) : Option (PH) :=
  oO h a0 8 <|
  (gR 8 0 h a1).bind fun v1 =>
  (gR 8 0 h a0).bind fun v6 =>
  (cpI h v1 (0 : Int32) v6 (0 : Int32) (14 : Int32)).bind fun h12 =>
  (gR 8 1 h12 a1).bind fun v16 =>
  (gR 8 1 h12 a0).bind fun v21 =>
  (cpI h12 v16 (0 : Int32) v21 (0 : Int32) (6 : Int32)).bind fun h27 =>
  (gR 8 5 h27 a1).bind fun v31 =>
  (gR 8 5 h27 a0).bind fun v36 =>
  (cpL h27 v31 (0 : Int32) v36 (0 : Int32) (10 : Int32)).bind fun h42 =>
  (gR 8 2 h42 a1).bind fun v46 =>
  (gR 8 2 h42 a0).bind fun v50 =>
  (mX8_takeRows h42 v46 v50).bind fun h53 =>
  (gR 8 3 h53 a1).bind fun v57 =>
  (gR 8 3 h53 a0).bind fun v61 =>
  (mX8_takeRows h53 v57 v61).bind fun h64 =>
  (gR 8 4 h64 a1).bind fun v68 =>
  (gR 8 4 h64 a0).bind fun v72 =>
  (mX8_takeRows h64 v68 v72).bind fun h75 =>
  (gR 8 6 h75 a1).bind fun v79 =>
  (gR 8 6 h75 a0).bind fun v83 =>
  (mX8_takeRows h75 v79 v83).bind fun h86 =>
  (gR 8 7 h86 a1).bind fun v90 =>
  (gR 8 7 h86 a0).bind fun v94 =>
  (mX8_takeRows h86 v90 v94).bind fun h97 =>
  some h97
def mX8_has (h : PH) (a0 : Nat) (x1 : Int32) (x2 : Int32) : Option (Int32 × PH) :=
  oO h a0 8 <|
  if x2 < 0 then (
  rz (0 : Int32) h) else (
  (gR 8 0 h a0).bind fun v6 =>
  (aI 0 h v6 x1).bind fun v10 =>
  if v10 ≤ x2 then (
  rz (0 : Int32) h) else (
  rz (1 : Int32) h))
def mX9_init (h : PH) (a0 : Nat) : Option (PH) :=
  oO h a0 9 <|
  al (.inl (6, [.inr (.inr none), .inl 0])) h fun n5_0 h5_0 =>
  (mX6_init h5_0 n5_0).bind fun h9_1 =>
  (pF 9 0 h9_1 a0 (.inr (.inr (some n5_0)))).bind fun h12_2 =>
  al (.inl (8, [.inr (.inr none), .inr (.inr none), .inr (.inr none), .inr (.inr none), .inr (.inr none), .inr (.inr none), .inr (.inr none), .inr (.inr none)])) h12_2 fun n16_3 h16_3 =>
  (mX8_init h16_3 n16_3).bind fun h20_4 =>
  (pF 9 1 h20_4 a0 (.inr (.inr (some n16_3)))).bind fun h23_5 =>
  al (.inl (8, [.inr (.inr none), .inr (.inr none), .inr (.inr none), .inr (.inr none), .inr (.inr none), .inr (.inr none), .inr (.inr none), .inr (.inr none)])) h23_5 fun n27_6 h27_6 =>
  (mX8_init h27_6 n27_6).bind fun h31_7 =>
  (pF 9 2 h31_7 a0 (.inr (.inr (some n27_6)))).bind fun h34_8 =>
  al (.inr (4, 2, .inr (.inr (fun _ => none)))) h34_8 fun n39_9 h39_9 =>
  (pF 9 3 h39_9 a0 (.inr (.inr (some n39_9)))).bind fun h42_10 =>
  al (.inl (4, [.inr (.inr none), .inr (.inr none), .inr (.inr none), .inr (.inr none), .inr (.inr none), .inl 0, .inl 0, .inl 0])) h42_10 fun n46_11 h46_11 =>
  (gR 9 0 h46_11 a0).bind fun v51 =>
  (gR 9 2 h46_11 a0).bind fun v55 =>
  (mX4_init h46_11 n46_11 v51 v55).bind fun h58_12 =>
  (pF 9 4 h58_12 a0 (.inr (.inr (some n46_11)))).bind fun h61_13 =>
  al (.inl (2, [.inr (.inr none), .inr (.inr none), .inr (.inr none), .inl 0, .inr (.inr none), .inr (.inr none), .inr (.inr none), .inr (.inr none)])) h61_13 fun n65_14 h65_14 =>
  (gR 9 1 h65_14 a0).bind fun v70 =>
  (mX2_init h65_14 n65_14 v70).bind fun h73_15 =>
  (pF 9 5 h73_15 a0 (.inr (.inr (some n65_14)))).bind fun h76_16 =>
  al (.inl (1, [.inr (.inr none), .inr (.inr none), .inr (.inr none), .inr (.inr none), .inl 0, .inl 0, .inr (.inl 0), .inl 0, .inr (.inr none), .inl 0, .inl 0])) h76_16 fun n80_17 h80_17 =>
  (gR 9 1 h80_17 a0).bind fun v85 =>
  (gR 9 5 h80_17 a0).bind fun v89 =>
  (mX1_init h80_17 n80_17 v85 v89).bind fun h92_18 =>
  (pF 9 6 h92_18 a0 (.inr (.inr (some n80_17)))).bind fun h95_19 =>
  al (.inl (5, [.inr (.inr none), .inr (.inr none), .inr (.inr none), .inr (.inr none), .inl 0])) h95_19 fun n99_20 h99_20 =>
  (gR 9 1 h99_20 a0).bind fun v104 =>
  (gR 9 5 h99_20 a0).bind fun v108 =>
  (mX5_init h99_20 n99_20 v104 v108).bind fun h111_21 =>
  (pF 9 7 h111_21 a0 (.inr (.inr (some n99_20)))).bind fun h114_22 =>
  al (.inl (0, [.inr (.inr none), .inl 0, .inl 0])) h114_22 fun n118_23 h118_23 =>
  (mX0_init h118_23 n118_23).bind fun h122_24 =>
  (pF 9 8 h122_24 a0 (.inr (.inr (some n118_23)))).bind fun h125_25 =>
  al (.inl (3, [.inr (.inr none), .inl 0])) h125_25 fun n129_26 h129_26 =>
  (mX3_init h129_26 n129_26).bind fun h133_27 =>
  (pF 9 9 h133_27 a0 (.inr (.inr (some n129_26)))).bind fun h136_28 =>
  (gR 9 3 h136_28 a0).bind fun v147 =>
  al (.inl (8, [.inr (.inr none), .inr (.inr none), .inr (.inr none), .inr (.inr none), .inr (.inr none), .inr (.inr none), .inr (.inr none), .inr (.inr none)])) h136_28 fun n151_29 h151_29 =>
  (mX8_init h151_29 n151_29).bind fun h155_30 =>
  (sR h155_30 v147 (0 : Int32) n151_29).bind fun h158_31 =>
  (gR 9 3 h158_31 a0).bind fun v147 =>
  al (.inl (8, [.inr (.inr none), .inr (.inr none), .inr (.inr none), .inr (.inr none), .inr (.inr none), .inr (.inr none), .inr (.inr none), .inr (.inr none)])) h158_31 fun n151_32 h151_32 =>
  (mX8_init h151_32 n151_32).bind fun h155_33 =>
  (sR h155_33 v147 (1 : Int32) n151_32).bind fun h158_34 =>
  some h158_34
def mX9_feed (h : PH) (a0 : Nat) (x1 : Int32) (x2 : Int32) (x3 : Int32) (x4 : Int32) (x5 : Int32) : Option (Int32 × PH) :=
  oO h a0 9 <|
  (gR 9 0 h a0).bind fun v1 =>
  (gI 6 1 h v1).bind fun v4 =>
  if (v4 + (20 : Int32)) ≤ (900 : Int32) then (
  (gR 9 0 h a0).bind fun v19 =>
  (mX6_add h v19 x1).bind fun h23 =>
  (gR 9 0 h23 a0).bind fun v27 =>
  (mX6_add h23 v27 x2).bind fun h31 =>
  (gR 9 0 h31 a0).bind fun v35 =>
  (mX6_add h31 v35 x3).bind fun h39 =>
  (gR 9 0 h39 a0).bind fun v43 =>
  (mX6_add h39 v43 x4).bind fun h48 =>
  (gR 9 0 h48 a0).bind fun v52 =>
  (mX6_add h48 v52 x5).bind fun h57 =>
  (gR 9 0 h57 a0).bind fun v61 =>
  (gI 6 1 h57 v61).bind fun v64 =>
  some (v64, h57)) else (
  some ((-1 : Int32), h))
def mX9_text (h : PH) (a0 : Nat) (x1 : Int32) : Option (Int32 × PH) :=
  oO h a0 9 <|
  if x1 < 0 then (
  some ((-1 : Int32), h)) else (
  (gR 9 0 h a0).bind fun v6 =>
  (gI 6 1 h v6).bind fun v9 =>
  if x1 ≤ v9 then (
  (gR 9 4 h a0).bind fun v18 =>
  b2 (mX4_read h v18 x1) fun v22 h22 =>
  (gR 9 0 h22 a0).bind fun v27 =>
  (pF 6 1 h22 v27 (.inl (0 : Int32))).bind fun h31 =>
  if v22 < 0 then (
  some (v22, h31)) else (
  (gR 9 1 h31 a0).bind fun v39 =>
  (gR 9 2 h31 a0).bind fun v43 =>
  (mX8_take h31 v39 v43).bind fun h46 =>
  (gR 9 8 h46 a0).bind fun v50 =>
  (mX0_clear h46 v50).bind fun h53 =>
  (pF 9 10 h53 a0 (.inl (0 : Int32))).bind fun h58 =>
  some (v22, h58))) else (
  some ((-1 : Int32), h)))
def mX9_count (h : PH) (a0 : Nat) (x1 : Int32) : Option (Int32 × PH) :=
  oO h a0 9 <|
  if x1 < 0 then (
  some ((-1 : Int32), h)) else (
  if x1 < (14 : Int32) then (
  if x1 = (11 : Int32) then (
  (gR 9 8 h a0).bind fun v19 =>
  (gI 0 2 h v19).bind fun v22 =>
  some (v22, h)) else (
  if x1 = (12 : Int32) then (
  (gR 9 0 h a0).bind fun v33 =>
  (gI 6 1 h v33).bind fun v36 =>
  some (v36, h)) else (
  (gR 9 1 h a0).bind fun v43 =>
  (gR 8 0 h v43).bind fun v46 =>
  (aI 0 h v46 x1).bind fun v50 =>
  some (v50, h)))) else (
  some ((-1 : Int32), h)))
def mX9_resold (h : PH) (a0 : Nat) (x1 : Int32) (x2 : Int32) : Option (Int32 × PH) :=
  oO h a0 9 <|
  (gR 9 1 h a0).bind fun v1 =>
  b2 (mX8_has h v1 (4 : Int32) x1) fun v6 h6 =>
  if v6 = 0 then (
  some ((-1 : Int32), h6)) else (
  if x2 < 0 then (
  some ((-1 : Int32), h6)) else (
  if x2 < (4 : Int32) then (
  (gR 9 1 h6 a0).bind fun v24 =>
  (gR 8 6 h6 v24).bind fun v27 =>
  (aR 5 h6 v27 x1).bind fun v31 =>
  (aI 0 h6 v31 x2).bind fun v33 =>
  some (v33, h6)) else (
  some ((-1 : Int32), h6))))
def mX9_kin (h : PH) (a0 : Nat) (x1 : Int32) (x2 : Int32) : Option (Int32 × PH) :=
  oO h a0 9 <|
  (gR 9 1 h a0).bind fun v1 =>
  b2 (mX8_has h v1 (0 : Int32) x1) fun v6 h6 =>
  if v6 = 0 then (
  some ((-1 : Int32), h6)) else (
  (gR 9 1 h6 a0).bind fun v13 =>
  b2 (mX8_has h6 v13 (0 : Int32) x2) fun v18 h18 =>
  if v18 = 0 then (
  some ((-1 : Int32), h18)) else (
  (gR 9 5 h18 a0).bind fun v27 =>
  (mX2_look h18 v27 (-1 : Int32)).bind fun h31 =>
  (gR 9 5 h31 a0).bind fun v35 =>
  b2 (mX2_areKin h31 v35 x1 x2) fun v40 h40 =>
  if v40 = 0 then (
  some ((0 : Int32), h40)) else (
  some ((1 : Int32), h40))))
def mX9_like (h : PH) (a0 : Nat) (x1 : Int32) (x2 : Int32) : Option (Int32 × PH) :=
  oO h a0 9 <|
  (gR 9 1 h a0).bind fun v1 =>
  b2 (mX8_has h v1 (1 : Int32) x1) fun v6 h6 =>
  if v6 = 0 then (
  some ((-1 : Int32), h6)) else (
  (gR 9 1 h6 a0).bind fun v13 =>
  b2 (mX8_has h6 v13 (1 : Int32) x2) fun v18 h18 =>
  if v18 = 0 then (
  some ((-1 : Int32), h18)) else (
  if x1 = x2 then (
  some ((1 : Int32), h18)) else (
  (gR 9 1 h18 a0).bind fun v34 =>
  b2 (mX8_areSimilar h18 v34 x1 x2) fun v39 h39 =>
  if v39 = 0 then (
  some ((0 : Int32), h39)) else (
  some ((2 : Int32), h39)))))
def mX9_band (h : PH) (a0 : Nat) (x1 : Int32) (x2 : Int32) : Option (Int32 × PH) :=
  oO h a0 9 <|
  (gR 9 1 h a0).bind fun v1 =>
  b2 (mX8_has h v1 (5 : Int32) x1) fun v6 h6 =>
  if v6 = 0 then (
  some ((-1 : Int32), h6)) else (
  if x2 < 0 then (
  some ((-1 : Int32), h6)) else (
  if x2 < (2 : Int32) then (
  (gR 9 1 h6 a0).bind fun v24 =>
  (gR 8 7 h6 v24).bind fun v27 =>
  (aR 5 h6 v27 x1).bind fun v31 =>
  (aI 0 h6 v31 x2).bind fun v33 =>
  some (v33, h6)) else (
  some ((-1 : Int32), h6))))
def mX9_assist (h : PH) (a0 : Nat) (x1 : Int32) (x2 : Int32) : Option (Int32 × PH) :=
  oO h a0 9 <|
  (gR 9 1 h a0).bind fun v1 =>
  b2 (mX8_has h v1 (2 : Int32) x1) fun v6 h6 =>
  if v6 = 0 then (
  some ((-1 : Int32), h6)) else (
  if x2 < 0 then (
  some ((-1 : Int32), h6)) else (
  if x2 < (2 : Int32) then (
  (gR 9 1 h6 a0).bind fun v24 =>
  (gR 8 3 h6 v24).bind fun v27 =>
  (aR 5 h6 v27 x1).bind fun v31 =>
  (aI 0 h6 v31 x2).bind fun v33 =>
  some (v33, h6)) else (
  some ((-1 : Int32), h6))))
def mX9_share (h : PH) (a0 : Nat) (x1 : Int32) (x2 : Int32) : Option (Int32 × PH) :=
  oO h a0 9 <|
  (gR 9 1 h a0).bind fun v1 =>
  b2 (mX8_has h v1 (2 : Int32) x1) fun v6 h6 =>
  if v6 = 0 then (
  some ((-1 : Int32), h6)) else (
  (gR 9 1 h6 a0).bind fun v13 =>
  b2 (mX8_has h6 v13 (3 : Int32) x2) fun v18 h18 =>
  if v18 = 0 then (
  some ((-1 : Int32), h18)) else (
  (gR 9 5 h18 a0).bind fun v27 =>
  (mX2_look h18 v27 (-1 : Int32)).bind fun h31 =>
  (gR 9 5 h31 a0).bind fun v35 =>
  (gR 2 5 h31 v35).bind fun v38 =>
  (aR 5 h31 v38 x1).bind fun v42 =>
  (aI 0 h31 v42 x2).bind fun v44 =>
  some (v44, h31)))
def mX9_rest_b36 (r36 : PH → Nat → Int32 → Int32 → Int32 → Option (Int32 × PH)) (h : PH) (a0 : Nat) (x1 : Int32) (x2 : Int32) (x3 : Int32) : Option (Int32 × PH) :=
  (gR 9 1 h a0).bind fun v38 =>
  (gR 8 0 h v38).bind fun v41 =>
  (aI 0 h v41 (3 : Int32)).bind fun v45 =>
  if v45 ≤ x3 then (
  some (x2, h)) else (
  (gR 9 5 h a0).bind fun v51 =>
  (gR 2 5 h v51).bind fun v54 =>
  (aR 5 h v54 x1).bind fun v58 =>
  (aI 0 h v58 x3).bind fun v60 =>
  r36 h a0 x1 (x2 - v60) (x3 + 1))
def mX9_rest_L36 : Nat → PH → Nat → Int32 → Int32 → Int32 → Option (Int32 × PH)
  | 0 => fun _ _ _ _ _ => none
  | n + 1 => mX9_rest_b36 (mX9_rest_L36 n)
def mX9_rest (h : PH) (a0 : Nat) (x1 : Int32) : Option (Int32 × PH) :=
  oO h a0 9 <|
  (gR 9 1 h a0).bind fun v1 =>
  b2 (mX8_has h v1 (2 : Int32) x1) fun v6 h6 =>
  if v6 = 0 then (
  some ((-1 : Int32), h6)) else (
  (gR 9 5 h6 a0).bind fun v15 =>
  (mX2_look h6 v15 (-1 : Int32)).bind fun h19 =>
  (gR 9 1 h19 a0).bind fun v23 =>
  (gR 8 3 h19 v23).bind fun v26 =>
  (aR 5 h19 v26 x1).bind fun v30 =>
  (aI 0 h19 v30 (0 : Int32)).bind fun v32 =>
  mX9_rest_L36 FU h19 a0 x1 v32 (0 : Int32))
def mX9_own (h : PH) (a0 : Nat) (x1 : Int32) : Option (Int64 × PH) :=
  oO h a0 9 <|
  (gR 9 1 h a0).bind fun v1 =>
  b2 (mX8_has h v1 (3 : Int32) x1) fun v6 h6 =>
  if v6 = 0 then (
  some ((-1 : Int64), h6)) else (
  (gR 9 5 h6 a0).bind fun v17 =>
  (mX2_look h6 v17 (-1 : Int32)).bind fun h21 =>
  (gR 9 5 h21 a0).bind fun v25 =>
  (gR 2 6 h21 v25).bind fun v28 =>
  (aL h21 v28 x1).bind fun v32 =>
  some (v32, h21))
def mX9_by (h : PH) (a0 : Nat) (x1 : Int32) (x2 : Int32) : Option (Int64 × PH) :=
  oO h a0 9 <|
  (gR 9 1 h a0).bind fun v1 =>
  b2 (mX8_has h v1 (3 : Int32) x1) fun v6 h6 =>
  if v6 = 0 then (
  some ((-1 : Int64), h6)) else (
  if x2 < (1 : Int32) then (
  some ((-1 : Int64), h6)) else (
  if x2 ≤ (6 : Int32) then (
  (gR 9 6 h6 a0).bind fun v28 =>
  (mX1_look h6 v28 (-1 : Int32)).bind fun h32 =>
  (gR 9 6 h32 a0).bind fun v36 =>
  (mX1_ask h32 v36 x1 x2).bind fun h41 =>
  (gR 9 6 h41 a0).bind fun v45 =>
  (gI 1 5 h41 v45).bind fun v48 =>
  if v48 = 0 then (
  (gR 9 6 h41 a0).bind fun v55 =>
  (gL 1 6 h41 v55).bind fun v58 =>
  some (v58, h41)) else (
  (gR 9 6 h41 a0).bind fun v67 =>
  (gI 1 5 h41 v67).bind fun v70 =>
  some ((Int32.toInt64 ((-2 : Int32) - v70)), h41))) else (
  some ((-1 : Int64), h6))))
def mX9_base_b26 (h : PH) (a0 : Nat) (x1 : Int32) (x2 : Int32) (s0 : Int32) : Option (Int32 × PH) :=
  (gR 9 1 h a0).bind fun v28 =>
  b2 (mX8_has h v28 (3 : Int32) x1) fun v33 h33 =>
  if v33 = 0 then (
  some ((-1 : Int32), h33)) else (
  if s0 = 0 then (
  some ((-1 : Int32), h33)) else (
  (gR 9 6 h33 a0).bind fun v46 =>
  (mX1_look h33 v46 (-1 : Int32)).bind fun h50 =>
  (gR 9 6 h50 a0).bind fun v54 =>
  (mX1_ask h50 v54 x1 x2).bind fun h59 =>
  (gR 9 6 h59 a0).bind fun v63 =>
  (gI 1 5 h59 v63).bind fun v66 =>
  if v66 = 0 then (
  (gR 9 6 h59 a0).bind fun v73 =>
  (gI 1 7 h59 v73).bind fun v76 =>
  some (v76, h59)) else (
  (gR 9 6 h59 a0).bind fun v85 =>
  (gI 1 5 h59 v85).bind fun v88 =>
  some (((-2 : Int32) - v88), h59))))
def mX9_base_b21 (h : PH) (a0 : Nat) (x1 : Int32) (x2 : Int32) : Option (Int32 × PH) :=
  mX9_base_b26 h a0 x1 x2 (1 : Int32)
def mX9_base (h : PH) (a0 : Nat) (x1 : Int32) (x2 : Int32) : Option (Int32 × PH) :=
  oO h a0 9 <|
  if x2 = (2 : Int32) then (
  mX9_base_b21 h a0 x1 x2) else (
  if x2 = (3 : Int32) then (
  mX9_base_b21 h a0 x1 x2) else (
  if x2 = (4 : Int32) then (
  mX9_base_b21 h a0 x1 x2) else (
  if x2 = (6 : Int32) then (
  mX9_base_b21 h a0 x1 x2) else (
  mX9_base_b26 h a0 x1 x2 (0 : Int32)))))
def mX9_isTurned (h : PH) (a0 : Nat) : Option (Int32 × PH) :=
  oO h a0 9 <|
  (gR 9 1 h a0).bind fun v1 =>
  (gR 8 0 h v1).bind fun v4 =>
  (aI 0 h v4 (10 : Int32)).bind fun v9 =>
  if v9 = (1 : Int32) then (
  rz (1 : Int32) h) else (
  rz (0 : Int32) h)
def mX9_worthInOrder (h : PH) (a0 : Nat) (x1 : Int32) (x2 : Int32) : Option (Int64 × PH) :=
  oO h a0 9 <|
  (gR 9 1 h a0).bind fun v1 =>
  b2 (mX8_has h v1 (3 : Int32) x1) fun v6 h6 =>
  if v6 = 0 then (
  some ((-1 : Int64), h6)) else (
  (gR 9 6 h6 a0).bind fun v17 =>
  (mX1_look h6 v17 (-1 : Int32)).bind fun h21 =>
  (gR 9 6 h21 a0).bind fun v25 =>
  (mX1_climb h21 v25 x1 x2).bind fun h30 =>
  (gR 9 6 h30 a0).bind fun v34 =>
  b2 (mX1_answer h30 v34) fun v37 h37 =>
  some (v37, h37))
def mX9_worth (h : PH) (a0 : Nat) (x1 : Int32) : Option (Int64 × PH) :=
  oO h a0 9 <|
  b2 (mX9_isTurned h a0) fun v3 h3 =>
  b2 (mX9_worthInOrder h3 a0 x1 v3) fun v6 h6 =>
  some (v6, h6)
def mX9_method (h : PH) (a0 : Nat) (x1 : Int32) : Option (Int32 × PH) :=
  oO h a0 9 <|
  (gR 9 1 h a0).bind fun v1 =>
  b2 (mX8_has h v1 (3 : Int32) x1) fun v6 h6 =>
  if v6 = 0 then (
  some ((-1 : Int32), h6)) else (
  (gR 9 6 h6 a0).bind fun v15 =>
  (mX1_look h6 v15 (-1 : Int32)).bind fun h19 =>
  (gR 9 6 h19 a0).bind fun v23 =>
  b2 (mX9_isTurned h19 a0) fun v28 h28 =>
  (mX1_climb h28 v23 x1 v28).bind fun h31 =>
  (gR 9 6 h31 a0).bind fun v35 =>
  (gI 1 10 h31 v35).bind fun v38 =>
  if v38 = 0 then (
  some ((-2 : Int32), h31)) else (
  (gR 9 6 h31 a0).bind fun v50 =>
  (gI 1 10 h31 v50).bind fun v53 =>
  some (v53, h31)))
def mX9_why (h : PH) (a0 : Nat) (x1 : Int32) (x2 : Int32) : Option (Int32 × PH) :=
  oO h a0 9 <|
  (gR 9 1 h a0).bind fun v1 =>
  b2 (mX8_has h v1 (3 : Int32) x1) fun v6 h6 =>
  if v6 = 0 then (
  some ((-1 : Int32), h6)) else (
  if (-1 : Int32) ≤ x2 then (
  (gR 9 6 h6 a0).bind fun v20 =>
  (mX1_look h6 v20 (-1 : Int32)).bind fun h24 =>
  (gR 9 6 h24 a0).bind fun v28 =>
  b2 (mX9_isTurned h24 a0) fun v33 h33 =>
  (mX1_climb h33 v28 x1 v33).bind fun h36 =>
  if x2 = (-1 : Int32) then (
  (gR 9 6 h36 a0).bind fun v45 =>
  (gI 1 9 h36 v45).bind fun v48 =>
  some (v48, h36)) else (
  (gR 9 6 h36 a0).bind fun v54 =>
  (gI 1 9 h36 v54).bind fun v57 =>
  if v57 ≤ x2 then (
  some ((-2 : Int32), h36)) else (
  (gR 9 6 h36 a0).bind fun v64 =>
  (gR 1 8 h36 v64).bind fun v67 =>
  (aI 0 h36 v67 x2).bind fun v71 =>
  some (v71, h36)))) else (
  some ((-1 : Int32), h6)))
def mX9_test (h : PH) (a0 : Nat) (x1 : Int32) (x2 : Int32) : Option (Int64 × PH) :=
  oO h a0 9 <|
  (gR 9 1 h a0).bind fun v1 =>
  b2 (mX8_has h v1 (3 : Int32) x1) fun v6 h6 =>
  if v6 = 0 then (
  some ((-1 : Int64), h6)) else (
  if (-1 : Int32) ≤ x2 then (
  (gR 9 6 h6 a0).bind fun v22 =>
  (mX1_look h6 v22 (-1 : Int32)).bind fun h26 =>
  (gR 9 6 h26 a0).bind fun v30 =>
  (mX1_gatherTests h26 v30 x1).bind fun h34 =>
  if x2 = (-1 : Int32) then (
  (gR 9 6 h34 a0).bind fun v43 =>
  (gI 1 4 h34 v43).bind fun v46 =>
  some ((Int32.toInt64 v46), h34)) else (
  (gR 9 6 h34 a0).bind fun v53 =>
  (gI 1 4 h34 v53).bind fun v56 =>
  if v56 ≤ x2 then (
  some ((-2 : Int64), h34)) else (
  (gR 9 6 h34 a0).bind fun v63 =>
  (gR 1 3 h34 v63).bind fun v66 =>
  (aL h34 v66 x2).bind fun v70 =>
  some (v70, h34)))) else (
  some ((-1 : Int64), h6)))
def mX9_passes (h : PH) (a0 : Nat) (x1 : Int32) : Option (Int32 × PH) :=
  oO h a0 9 <|
  (gR 9 1 h a0).bind fun v1 =>
  b2 (mX8_has h v1 (3 : Int32) x1) fun v6 h6 =>
  if v6 = 0 then (
  some ((-1 : Int32), h6)) else (
  (gR 9 6 h6 a0).bind fun v15 =>
  (mX1_look h6 v15 (-1 : Int32)).bind fun h19 =>
  (gR 9 6 h19 a0).bind fun v23 =>
  (mX1_gatherTests h19 v23 x1).bind fun h27 =>
  (gR 9 6 h27 a0).bind fun v31 =>
  b2 (mX1_isNearATest h27 v31 x1) fun v35 h35 =>
  if v35 = 0 then (
  some ((0 : Int32), h35)) else (
  some ((1 : Int32), h35)))
def mX9_prices (h : PH) (a0 : Nat) (x1 : Int32) (x2 : Int32) : Option (Int32 × PH) :=
  oO h a0 9 <|
  (gR 9 1 h a0).bind fun v1 =>
  b2 (mX8_has h v1 (3 : Int32) x1) fun v6 h6 =>
  if v6 = 0 then (
  some ((-2 : Int32), h6)) else (
  if x2 < 0 then (
  some ((-2 : Int32), h6)) else (
  if x2 ≤ (2 : Int32) then (
  (gR 9 6 h6 a0).bind fun v25 =>
  (mX1_look h6 v25 (-1 : Int32)).bind fun h29 =>
  (gR 9 6 h29 a0).bind fun v33 =>
  (mX1_gatherTests h29 v33 x1).bind fun h37 =>
  (gR 9 7 h37 a0).bind fun v41 =>
  (gR 9 6 h37 a0).bind fun v46 =>
  (gR 1 3 h37 v46).bind fun v49 =>
  (gR 9 6 h37 a0).bind fun v53 =>
  (gI 1 4 h37 v53).bind fun v56 =>
  (mX5_find h37 v41 x1 v49 v56).bind fun h59 =>
  if x2 = 0 then (
  (gR 9 7 h59 a0).bind fun v67 =>
  b2 (mX5_size h59 v67) fun v70 h70 =>
  some (v70, h70)) else (
  if x2 = (1 : Int32) then (
  (gR 9 7 h59 a0).bind fun v80 =>
  b2 (mX5_least h59 v80) fun v83 h83 =>
  some (v83, h83)) else (
  (gR 9 7 h59 a0).bind fun v90 =>
  b2 (mX5_greatest h59 v90) fun v93 h93 =>
  some (v93, h93)))) else (
  some ((-2 : Int32), h6))))
def mX9_needs (h : PH) (a0 : Nat) (x1 : Int32) : Option (Int32 × PH) :=
  oO h a0 9 <|
  (gR 9 1 h a0).bind fun v1 =>
  b2 (mX8_has h v1 (3 : Int32) x1) fun v6 h6 =>
  if v6 = 0 then (
  some ((-1 : Int32), h6)) else (
  (gR 9 6 h6 a0).bind fun v15 =>
  (mX1_look h6 v15 (-1 : Int32)).bind fun h19 =>
  (gR 9 6 h19 a0).bind fun v23 =>
  (mX1_gatherTests h19 v23 x1).bind fun h27 =>
  (gR 9 6 h27 a0).bind fun v31 =>
  b2 (mX1_leastNear h27 v31 x1) fun v35 h35 =>
  some (v35, h35))
def mX9_rests_b30 (r30 : PH → Nat → Int32 → Int64 → Int32 → Int32 → Option (Int32 × PH)) (h : PH) (a0 : Nat) (x1 : Int32) (x2 : Int64) (x4 : Int32) (x5 : Int32) : Option (Int32 × PH) :=
  (gR 9 1 h a0).bind fun v33 =>
  (gR 8 0 h v33).bind fun v36 =>
  (aI 0 h v36 (3 : Int32)).bind fun v40 =>
  if v40 ≤ x5 then (
  some (x4, h)) else (
  if x5 = x1 then (
  r30 h a0 x1 x2 x4 (x5 + 1)) else (
  (gR 9 6 h a0).bind fun v54 =>
  (mX1_look h v54 x5).bind fun h59 =>
  (gR 9 6 h59 a0).bind fun v63 =>
  b2 (mX9_isTurned h59 a0) fun v68 h68 =>
  (mX1_climb h68 v63 x1 v68).bind fun h71 =>
  (gR 9 6 h71 a0).bind fun v75 =>
  b2 (mX1_answer h71 v75) fun v78 h78 =>
  if v78 = x2 then (
  r30 h78 a0 x1 x2 x4 (x5 + 1)) else (
  r30 h78 a0 x1 x2 (x4 ||| ((1 : Int32) <<< (x5 &&& 31))) (x5 + 1))))
def mX9_rests_L30 : Nat → PH → Nat → Int32 → Int64 → Int32 → Int32 → Option (Int32 × PH)
  | 0 => fun _ _ _ _ _ _ => none
  | n + 1 => mX9_rests_b30 (mX9_rests_L30 n)
def mX9_rests (h : PH) (a0 : Nat) (x1 : Int32) : Option (Int32 × PH) :=
  oO h a0 9 <|
  (gR 9 1 h a0).bind fun v1 =>
  b2 (mX8_has h v1 (3 : Int32) x1) fun v6 h6 =>
  if v6 = 0 then (
  some ((-1 : Int32), h6)) else (
  b2 (mX9_isTurned h6 a0) fun v17 h17 =>
  b2 (mX9_worthInOrder h17 a0 x1 v17) fun v20 h20 =>
  mX9_rests_L30 FU h20 a0 x1 v20 (0 : Int32) (0 : Int32))
def mX9_turned_b14 (h : PH) (s0 : Nat) (s1 : Int32) (s2 : Int32) : Option (Int64 × PH) :=
  b2 (mX9_worthInOrder h s0 s1 s2) fun v14 h14 =>
  some (v14, h14)
def mX9_turned (h : PH) (a0 : Nat) (x1 : Int32) : Option (Int64 × PH) :=
  oO h a0 9 <|
  b2 (mX9_isTurned h a0) fun v3 h3 =>
  if v3 = 0 then (
  mX9_turned_b14 h3 a0 x1 (1 : Int32)) else (
  mX9_turned_b14 h3 a0 x1 (0 : Int32))
def mX9_dutyOn (h : PH) (a0 : Nat) (x1 : Int64) : Option (Int64 × PH) :=
  oO h a0 9 <|
  (gR 9 1 h a0).bind fun v2 =>
  (gR 8 0 h v2).bind fun v5 =>
  (aI 0 h v5 (9 : Int32)).bind fun v10 =>
  some (((x1 * (Int32.toInt64 v10)) / (100 : Int64)), h)
def mX9_due (h : PH) (a0 : Nat) (x1 : Int32) : Option (Int64 × PH) :=
  oO h a0 9 <|
  b2 (mX9_isTurned h a0) fun v3 h3 =>
  b2 (mX9_worthInOrder h3 a0 x1 v3) fun v6 h6 =>
  if (0 : Int64) ≤ v6 then (
  b2 (mX9_dutyOn h6 a0 v6) fun v22 h22 =>
  some (v22, h22)) else (
  some (v6, h6))
def mX9_dues_b12 (r12 : PH → Nat → Int64 → Int32 → Option (Int64 × PH)) (h : PH) (a0 : Nat) (x1 : Int64) (x3 : Int32) : Option (Int64 × PH) :=
  (gR 9 1 h a0).bind fun v14 =>
  (gR 8 0 h v14).bind fun v17 =>
  (aI 0 h v17 (3 : Int32)).bind fun v21 =>
  if v21 ≤ x3 then (
  some (x1, h)) else (
  (gR 9 6 h a0).bind fun v26 =>
  b2 (mX9_isTurned h a0) fun v31 h31 =>
  (mX1_climb h31 v26 x3 v31).bind fun h34 =>
  (gR 9 6 h34 a0).bind fun v38 =>
  (gI 1 10 h34 v38).bind fun v41 =>
  if v41 = 0 then (
  r12 h34 a0 x1 (x3 + 1)) else (
  (gR 9 6 h34 a0).bind fun v50 =>
  (gL 1 6 h34 v50).bind fun v53 =>
  b2 (mX9_dutyOn h34 a0 v53) fun v56 h56 =>
  r12 h56 a0 (x1 + v56) (x3 + 1)))
def mX9_dues_L12 : Nat → PH → Nat → Int64 → Int32 → Option (Int64 × PH)
  | 0 => fun _ _ _ _ => none
  | n + 1 => mX9_dues_b12 (mX9_dues_L12 n)
def mX9_dues (h : PH) (a0 : Nat) : Option (Int64 × PH) :=
  oO h a0 9 <|
  (gR 9 6 h a0).bind fun v3 =>
  (mX1_look h v3 (-1 : Int32)).bind fun h7 =>
  mX9_dues_L12 FU h7 a0 (0 : Int64) (0 : Int32)
def mX9_all_b24 (r24 : PH → Nat → Int32 → Int32 → Int32 → Option (Int32 × PH)) (h : PH) (a0 : Nat) (x1 : Int32) (x2 : Int32) (x3 : Int32) : Option (Int32 × PH) :=
  (gR 9 1 h a0).bind fun v26 =>
  (gR 8 0 h v26).bind fun v29 =>
  (aI 0 h v29 (3 : Int32)).bind fun v33 =>
  if v33 ≤ x3 then (
  some (x2, h)) else (
  (gR 9 6 h a0).bind fun v38 =>
  b2 (mX9_isTurned h a0) fun v43 h43 =>
  (mX1_climb h43 v38 x3 v43).bind fun h46 =>
  (gR 9 6 h46 a0).bind fun v50 =>
  (gI 1 10 h46 v50).bind fun v53 =>
  if v53 = x1 then (
  r24 h46 a0 x1 (x2 ||| ((1 : Int32) <<< (x3 &&& 31))) (x3 + 1)) else (
  r24 h46 a0 x1 x2 (x3 + 1)))
def mX9_all_L24 : Nat → PH → Nat → Int32 → Int32 → Int32 → Option (Int32 × PH)
  | 0 => fun _ _ _ _ _ => none
  | n + 1 => mX9_all_b24 (mX9_all_L24 n)
def mX9_all (h : PH) (a0 : Nat) (x1 : Int32) : Option (Int32 × PH) :=
  oO h a0 9 <|
  if x1 < 0 then (
  some ((-1 : Int32), h)) else (
  if x1 ≤ (6 : Int32) then (
  (gR 9 6 h a0).bind fun v15 =>
  (mX1_look h v15 (-1 : Int32)).bind fun h19 =>
  mX9_all_L24 FU h19 a0 x1 (0 : Int32) (0 : Int32)) else (
  some ((-1 : Int32), h)))
def mX9_writeReport_b18 (r18 : PH → Nat → Int32 → Option (PH)) (h : PH) (a0 : Nat) (x1 : Int32) : Option (PH) :=
  (gR 9 1 h a0).bind fun v20 =>
  (gR 8 0 h v20).bind fun v23 =>
  (aI 0 h v23 (3 : Int32)).bind fun v27 =>
  if v27 ≤ x1 then (
  some h) else (
  (gR 9 6 h a0).bind fun v32 =>
  b2 (mX9_isTurned h a0) fun v37 h37 =>
  (mX1_climb h37 v32 x1 v37).bind fun h40 =>
  (gR 9 9 h40 a0).bind fun v44 =>
  (gR 9 1 h40 a0).bind fun v48 =>
  (gR 8 5 h40 v48).bind fun v51 =>
  (aL h40 v51 x1).bind fun v55 =>
  (mX3_addWord h40 v44 v55).bind fun h56 =>
  (gR 9 6 h56 a0).bind fun v60 =>
  (gI 1 10 h56 v60).bind fun v63 =>
  if v63 = 0 then (
  (gR 9 9 h56 a0).bind fun v70 =>
  (mX3_addText h56 v70 3).bind fun h76 =>
  r18 h76 a0 (x1 + 1)) else (
  (gR 9 9 h56 a0).bind fun v83 =>
  (mX3_addText h56 v83 4).bind fun h89 =>
  (gR 9 9 h89 a0).bind fun v93 =>
  (gR 9 6 h89 a0).bind fun v97 =>
  (gI 1 10 h89 v97).bind fun v100 =>
  (mX3_addNumber h89 v93 (Int32.toInt64 v100)).bind fun h104 =>
  (gR 9 9 h104 a0).bind fun v108 =>
  (mX3_addText h104 v108 5).bind fun h114 =>
  (gR 9 9 h114 a0).bind fun v118 =>
  (gR 9 6 h114 a0).bind fun v122 =>
  (gL 1 6 h114 v122).bind fun v125 =>
  (mX3_addNumber h114 v118 v125).bind fun h128 =>
  (gR 9 9 h128 a0).bind fun v132 =>
  (mX3_addText h128 v132 6).bind fun h138 =>
  r18 h138 a0 (x1 + 1)))
def mX9_writeReport_L18 : Nat → PH → Nat → Int32 → Option (PH)
  | 0 => fun _ _ _ => none
  | n + 1 => mX9_writeReport_b18 (mX9_writeReport_L18 n)
def mX9_writeReport (h : PH) (a0 : Nat) : Option (PH) :=
  oO h a0 9 <|
  (gR 9 9 h a0).bind fun v1 =>
  (pF 3 1 h v1 (.inl (0 : Int32))).bind fun h5 =>
  (gR 9 6 h5 a0).bind fun v9 =>
  (mX1_look h5 v9 (-1 : Int32)).bind fun h13 =>
  mX9_writeReport_L18 FU h13 a0 (0 : Int32)
def mX9_report (h : PH) (a0 : Nat) (x1 : Int32) : Option (Int32 × PH) :=
  oO h a0 9 <|
  if (-1 : Int32) ≤ x1 then (
  (mX9_writeReport h a0).bind fun h8 =>
  if x1 = (-1 : Int32) then (
  (gR 9 9 h8 a0).bind fun v17 =>
  (gI 3 1 h8 v17).bind fun v20 =>
  some (v20, h8)) else (
  (gR 9 9 h8 a0).bind fun v26 =>
  (gI 3 1 h8 v26).bind fun v29 =>
  if v29 ≤ x1 then (
  some ((-2 : Int32), h8)) else (
  (gR 9 9 h8 a0).bind fun v36 =>
  (gR 3 0 h8 v36).bind fun v39 =>
  (aI 2 h8 v39 x1).bind fun v43 =>
  some (v43, h8)))) else (
  some ((-1 : Int32), h))
def mX9_price (h : PH) (a0 : Nat) (x1 : Int32) (x2 : Int32) : Option (Int32 × PH) :=
  oO h a0 9 <|
  (gR 9 1 h a0).bind fun v1 =>
  b2 (mX8_has h v1 (3 : Int32) x1) fun v6 h6 =>
  if v6 = 0 then (
  some ((-1 : Int32), h6)) else (
  if x2 < (1 : Int32) then (
  some ((-1 : Int32), h6)) else (
  if (9999 : Int32) < x2 then (
  some ((-1 : Int32), h6)) else (
  (gR 9 1 h6 a0).bind fun v25 =>
  (gR 8 4 h6 v25).bind fun v28 =>
  (aR 5 h6 v28 x1).bind fun v32 =>
  (aI 0 h6 v32 (4 : Int32)).bind fun v34 =>
  if v34 = x2 then (
  some ((-1 : Int32), h6)) else (
  (gR 9 1 h6 a0).bind fun v42 =>
  (gR 8 4 h6 v42).bind fun v45 =>
  (aR 5 h6 v45 x1).bind fun v49 =>
  (aI 0 h6 v49 (4 : Int32)).bind fun v51 =>
  (gR 9 1 h6 a0).bind fun v54 =>
  (gR 8 4 h6 v54).bind fun v57 =>
  (aR 5 h6 v57 x1).bind fun v61 =>
  (sI h6 v61 (4 : Int32) x2).bind fun h64 =>
  (gR 9 8 h64 a0).bind fun v66 =>
  (mX0_add h64 v66 (0 : Int32) x1 (0 : Int32) v51).bind fun h73 =>
  some (v51, h73)))))
def mX9_bind_b9 (h : PH) (a0 : Nat) (x1 : Int32) (s0 : Int32) : Option (Int32 × PH) :=
  (gR 9 1 h a0).bind fun v11 =>
  b2 (mX8_has h v11 (3 : Int32) x1) fun v16 h16 =>
  if v16 = 0 then (
  rz (0 : Int32) h16) else (
  (gR 9 1 h16 a0).bind fun v23 =>
  (gR 8 4 h16 v23).bind fun v26 =>
  (aR 5 h16 v26 x1).bind fun v30 =>
  (aI 0 h16 v30 (6 : Int32)).bind fun v33 =>
  if v33 = s0 then (
  rz (0 : Int32) h16) else (
  (gR 9 1 h16 a0).bind fun v41 =>
  (gR 8 4 h16 v41).bind fun v44 =>
  (aR 5 h16 v44 x1).bind fun v48 =>
  (sI h16 v48 (6 : Int32) s0).bind fun h52 =>
  (gR 9 8 h52 a0).bind fun v54 =>
  (mX0_add h52 v54 (1 : Int32) x1 (0 : Int32) ((1 : Int32) - s0)).bind fun h63 =>
  rz (1 : Int32) h63))
def mX9_bind (h : PH) (a0 : Nat) (x1 : Int32) (x2 : Int32) : Option (Int32 × PH) :=
  oO h a0 9 <|
  if x2 = 0 then (
  mX9_bind_b9 h a0 x1 (0 : Int32)) else (
  mX9_bind_b9 h a0 x1 (1 : Int32))
def mX9_relate_b91 (h : PH) (s0 : Nat) (s1 : Int32) (s2 : Int32) (s3 : Int32) (s4 : Int32) : Option (Int32 × PH) :=
  (mX0_add h s0 s1 s2 s3 s4).bind fun h91 =>
  rz (1 : Int32) h91
def mX9_relate_b65 (h : PH) (a0 : Nat) (x1 : Int32) (x2 : Int32) (x3 : Int32) : Option (Int32 × PH) :=
  (gR 9 1 h a0).bind fun v66 =>
  (mX8_tell h v66 x1 x2 x3).bind fun h72 =>
  (gR 9 8 h72 a0).bind fun v76 =>
  if x3 = 0 then (
  mX9_relate_b91 h72 v76 (2 : Int32) x1 x2 (1 : Int32)) else (
  mX9_relate_b91 h72 v76 (2 : Int32) x1 x2 (0 : Int32))
def mX9_relate (h : PH) (a0 : Nat) (x1 : Int32) (x2 : Int32) (x3 : Int32) : Option (Int32 × PH) :=
  oO h a0 9 <|
  (gR 9 1 h a0).bind fun v1 =>
  b2 (mX8_has h v1 (0 : Int32) x1) fun v6 h6 =>
  if v6 = 0 then (
  rz (0 : Int32) h6) else (
  (gR 9 1 h6 a0).bind fun v13 =>
  b2 (mX8_has h6 v13 (0 : Int32) x2) fun v18 h18 =>
  if v18 = 0 then (
  rz (0 : Int32) h18) else (
  if x1 = x2 then (
  rz (0 : Int32) h18) else (
  (gR 9 1 h18 a0).bind fun v32 =>
  b2 (mX8_isTold h18 v32 x1 x2) fun v37 h37 =>
  if v37 = x3 then (
  rz (0 : Int32) h37) else (
  if x3 = 0 then (
  mX9_relate_b65 h37 a0 x1 x2 x3) else (
  (gR 9 1 h37 a0).bind fun v49 =>
  (gR 8 0 h37 v49).bind fun v52 =>
  (aI 0 h37 v52 (13 : Int32)).bind fun v57 =>
  if v57 < (6 : Int32) then (
  mX9_relate_b65 h37 a0 x1 x2 x3) else (
  rz (0 : Int32) h37))))))
def mX9_rule (h : PH) (a0 : Nat) (x1 : Int32) (x2 : Int32) : Option (Int32 × PH) :=
  oO h a0 9 <|
  if x1 < 0 then (
  some ((-1 : Int32), h)) else (
  if (4 : Int32) ≤ x1 then (
  some ((-1 : Int32), h)) else (
  (tI 0 x1).bind fun v17 =>
  if x2 < v17 then (
  some ((-1 : Int32), h)) else (
  (tI 1 x1).bind fun v26 =>
  if x2 ≤ v26 then (
  (gR 9 1 h a0).bind fun v33 =>
  (gR 8 0 h v33).bind fun v36 =>
  (aI 0 h v36 ((6 : Int32) + x1)).bind fun v43 =>
  if v43 = x2 then (
  some ((-1 : Int32), h)) else (
  (gR 9 1 h a0).bind fun v53 =>
  (gR 8 0 h v53).bind fun v56 =>
  (sI h v56 ((6 : Int32) + x1) x2).bind fun h64 =>
  (gR 9 8 h64 a0).bind fun v66 =>
  (mX0_add h64 v66 (3 : Int32) x1 (0 : Int32) v43).bind fun h73 =>
  some (v43, h73))) else (
  some ((-1 : Int32), h)))))
def mX9_turn (h : PH) (a0 : Nat) : Option (Int32 × PH) :=
  oO h a0 9 <|
  (gR 9 1 h a0).bind fun v1 =>
  (gR 8 0 h v1).bind fun v4 =>
  (aI 0 h v4 (10 : Int32)).bind fun v9 =>
  (gR 9 1 h a0).bind fun v12 =>
  (gR 8 0 h v12).bind fun v15 =>
  (sI h v15 (10 : Int32) ((1 : Int32) - v9)).bind fun h23 =>
  (gR 9 8 h23 a0).bind fun v25 =>
  (mX0_add h23 v25 (4 : Int32) (0 : Int32) (0 : Int32) v9).bind fun h32 =>
  some (((1 : Int32) - v9), h32)
def mX9_resell_b42 (h : PH) (a0 : Nat) (x1 : Int32) (x2 : Int32) (x3 : Int32) (x4 : Int32) (s0 : Int32) : Option (Int32 × PH) :=
  (gR 9 1 h a0).bind fun v45 =>
  (gR 8 0 h v45).bind fun v48 =>
  (aI 0 h v48 (4 : Int32)).bind fun v52 =>
  if s0 = 0 then (
  some ((-1 : Int32), h)) else (
  (gR 9 1 h a0).bind fun v61 =>
  b2 (mX8_has h v61 (1 : Int32) x1) fun v66 h66 =>
  if v66 = 0 then (
  some ((-1 : Int32), h66)) else (
  if v52 < (12 : Int32) then (
  (gR 9 1 h66 a0).bind fun v82 =>
  (gR 8 6 h66 v82).bind fun v85 =>
  (aR 5 h66 v85 v52).bind fun v90 =>
  (sI h66 v90 (0 : Int32) x1).bind fun h93 =>
  (gR 9 1 h93 a0).bind fun v95 =>
  (gR 8 6 h93 v95).bind fun v98 =>
  (aR 5 h93 v98 v52).bind fun v103 =>
  (sI h93 v103 (1 : Int32) x2).bind fun h106 =>
  (gR 9 1 h106 a0).bind fun v108 =>
  (gR 8 6 h106 v108).bind fun v111 =>
  (aR 5 h106 v111 v52).bind fun v116 =>
  (sI h106 v116 (2 : Int32) x3).bind fun h119 =>
  (gR 9 1 h119 a0).bind fun v121 =>
  (gR 8 6 h119 v121).bind fun v124 =>
  (aR 5 h119 v124 v52).bind fun v129 =>
  (sI h119 v129 (3 : Int32) x4).bind fun h133 =>
  (gR 9 1 h133 a0).bind fun v135 =>
  (gR 8 0 h133 v135).bind fun v138 =>
  (sI h133 v138 (4 : Int32) (v52 + (1 : Int32))).bind fun h146 =>
  (gR 9 8 h146 a0).bind fun v148 =>
  (mX0_add h146 v148 (5 : Int32) (0 : Int32) (0 : Int32) v52).bind fun h156 =>
  some (v52, h156)) else (
  some ((-1 : Int32), h66))))
def mX9_resell_b41 (h : PH) (a0 : Nat) (x1 : Int32) (x2 : Int32) (x3 : Int32) (x4 : Int32) : Option (Int32 × PH) :=
  mX9_resell_b42 h a0 x1 x2 x3 x4 (0 : Int32)
def mX9_resell (h : PH) (a0 : Nat) (x1 : Int32) (x2 : Int32) (x3 : Int32) (x4 : Int32) : Option (Int32 × PH) :=
  oO h a0 9 <|
  if x2 < (1 : Int32) then (
  mX9_resell_b41 h a0 x1 x2 x3 x4) else (
  if (9999 : Int32) < x2 then (
  mX9_resell_b41 h a0 x1 x2 x3 x4) else (
  if x3 < (1 : Int32) then (
  mX9_resell_b41 h a0 x1 x2 x3 x4) else (
  if (9999 : Int32) < x3 then (
  mX9_resell_b41 h a0 x1 x2 x3 x4) else (
  if x4 < 0 then (
  mX9_resell_b41 h a0 x1 x2 x3 x4) else (
  if (999 : Int32) < x4 then (
  mX9_resell_b41 h a0 x1 x2 x3 x4) else (
  mX9_resell_b42 h a0 x1 x2 x3 x4 (1 : Int32)))))))
def mX9_spread (h : PH) (a0 : Nat) (x1 : Int32) (x2 : Int32) : Option (Int32 × PH) :=
  oO h a0 9 <|
  (gR 9 1 h a0).bind fun v1 =>
  b2 (mX8_has h v1 (2 : Int32) x1) fun v6 h6 =>
  if v6 = 0 then (
  some ((-1 : Int32), h6)) else (
  if x2 < 0 then (
  some ((-1 : Int32), h6)) else (
  if (9999 : Int32) < x2 then (
  some ((-1 : Int32), h6)) else (
  (gR 9 1 h6 a0).bind fun v24 =>
  (gR 8 3 h6 v24).bind fun v27 =>
  (aR 5 h6 v27 x1).bind fun v31 =>
  (aI 0 h6 v31 (1 : Int32)).bind fun v33 =>
  if v33 = x2 then (
  some ((-1 : Int32), h6)) else (
  (gR 9 1 h6 a0).bind fun v41 =>
  (gR 8 3 h6 v41).bind fun v44 =>
  (aR 5 h6 v44 x1).bind fun v48 =>
  (aI 0 h6 v48 (1 : Int32)).bind fun v50 =>
  (gR 9 1 h6 a0).bind fun v53 =>
  (gR 8 3 h6 v53).bind fun v56 =>
  (aR 5 h6 v56 x1).bind fun v60 =>
  (sI h6 v60 (1 : Int32) x2).bind fun h63 =>
  (gR 9 8 h63 a0).bind fun v65 =>
  (mX0_add h63 v65 (6 : Int32) x1 (0 : Int32) v50).bind fun h73 =>
  some (v50, h73)))))
def mX9_lessen (h : PH) (a0 : Nat) (x1 : Int32) (x2 : Int32) : Option (Int32 × PH) :=
  oO h a0 9 <|
  (gR 9 1 h a0).bind fun v1 =>
  b2 (mX8_has h v1 (5 : Int32) x1) fun v6 h6 =>
  if v6 = 0 then (
  some ((-1 : Int32), h6)) else (
  if x2 < 0 then (
  some ((-1 : Int32), h6)) else (
  if (90 : Int32) < x2 then (
  some ((-1 : Int32), h6)) else (
  (gR 9 1 h6 a0).bind fun v23 =>
  (gR 8 7 h6 v23).bind fun v26 =>
  (aR 5 h6 v26 x1).bind fun v30 =>
  (aI 0 h6 v30 (1 : Int32)).bind fun v32 =>
  if v32 = x2 then (
  some ((-1 : Int32), h6)) else (
  (gR 9 1 h6 a0).bind fun v40 =>
  (gR 8 7 h6 v40).bind fun v43 =>
  (aR 5 h6 v43 x1).bind fun v47 =>
  (aI 0 h6 v47 (1 : Int32)).bind fun v49 =>
  (gR 9 1 h6 a0).bind fun v52 =>
  (gR 8 7 h6 v52).bind fun v55 =>
  (aR 5 h6 v55 x1).bind fun v59 =>
  (sI h6 v59 (1 : Int32) x2).bind fun h62 =>
  (gR 9 8 h62 a0).bind fun v64 =>
  (mX0_add h62 v64 (7 : Int32) x1 (0 : Int32) v49).bind fun h72 =>
  some (v49, h72)))))
def mX9_undo (h : PH) (a0 : Nat) : Option (Int32 × PH) :=
  oO h a0 9 <|
  (gR 9 8 h a0).bind fun v1 =>
  (gI 0 2 h v1).bind fun v4 =>
  if v4 = 0 then (
  some ((-1 : Int32), h)) else (
  (gR 9 8 h a0).bind fun v13 =>
  (gR 9 1 h a0).bind fun v17 =>
  (mX0_takeBack h v13 v17).bind fun h20 =>
  (gR 9 8 h20 a0).bind fun v24 =>
  (gI 0 2 h20 v24).bind fun v27 =>
  some (v27, h20))
def mX9_keep_b26 (h : PH) (a0 : Nat) (x1 : Int32) (x2 : Int32) : Option (Int32 × PH) :=
  if x2 = 0 then (
  (gR 9 3 h a0).bind fun v54 =>
  (aR 4 h v54 x1).bind fun v58 =>
  (gR 9 1 h a0).bind fun v60 =>
  (mX8_take h v58 v60).bind fun h63 =>
  (gI 9 10 h63 a0).bind fun v68 =>
  (pF 9 10 h63 a0 (.inl (v68 ||| ((1 : Int32) <<< (x1 &&& 31))))).bind fun h75 =>
  rz (1 : Int32) h75) else (
  (gR 9 1 h a0).bind fun v31 =>
  (gR 9 3 h a0).bind fun v35 =>
  (aR 4 h v35 x1).bind fun v39 =>
  (mX8_take h v31 v39).bind fun h40 =>
  (gR 9 8 h40 a0).bind fun v44 =>
  (mX0_clear h40 v44).bind fun h47 =>
  rz (1 : Int32) h47)
def mX9_keep (h : PH) (a0 : Nat) (x1 : Int32) (x2 : Int32) : Option (Int32 × PH) :=
  oO h a0 9 <|
  if x1 < 0 then (
  rz (0 : Int32) h) else (
  if (2 : Int32) ≤ x1 then (
  rz (0 : Int32) h) else (
  if x2 = 0 then (
  mX9_keep_b26 h a0 x1 x2) else (
  (gI 9 10 h a0).bind fun v14 =>
  if ((v14 >>> (x1 &&& 31)) &&& (1 : Int32)) = 0 then (
  rz (0 : Int32) h) else (
  mX9_keep_b26 h a0 x1 x2))))
def mX10_thrown (h : PH) (a0 : Nat) : Option (Int32 × PH) :=
  oO h a0 10 <|
  (gI 10 0 h a0).bind fun v1 =>
  some (v1, h)
def mX10_within (h : PH) (x0 : Int64) (x2 : Int64) (x4 : Int64) : Option (Int32 × PH) :=
  if x0 < x2 then (
  rz (0 : Int32) h) else (
  if x4 < x0 then (
  rz (0 : Int32) h) else (
  rz (1 : Int32) h))
def mX10_has (h : PH) (x0 : Int32) (x1 : Int32) : Option (Int32 × PH) :=
  if ((x0 >>> (x1 &&& 31)) &&& (1 : Int32)) = (1 : Int32) then (
  rz (1 : Int32) h) else (
  rz (0 : Int32) h)
def mX10_rules_b2 (r2 : PH → Nat → Int32 → Option (PH)) (h : PH) (a0 : Nat) (x1 : Int32) : Option (PH) :=
  if (232 : Int32) ≤ x1 then (
  (sI h a0 (6 : Int32) (5 : Int32)).bind fun h23 =>
  (sI h23 a0 (7 : Int32) (30 : Int32)).bind fun h29 =>
  (sI h29 a0 (8 : Int32) (20 : Int32)).bind fun h35 =>
  (sI h35 a0 (9 : Int32) (10 : Int32)).bind fun h41 =>
  some h41) else (
  (sI h a0 x1 (0 : Int32)).bind fun h12 =>
  r2 h12 a0 (x1 + 1))
def mX10_rules_L2 : Nat → PH → Nat → Int32 → Option (PH)
  | 0 => fun _ _ _ => none
  | n + 1 => mX10_rules_b2 (mX10_rules_L2 n)
def mX10_rules (h : PH) (a0 : Nat) : Option (PH) :=
  mX10_rules_L2 FU h a0 (0 : Int32)
def mX10_init (h : PH) (a0 : Nat) : Option (PH) :=
  oO h a0 10 <|
  al (.inr (0, 232, .inl (fun _ => 0))) h fun n8_0 h8_0 =>
  (pF 10 1 h8_0 a0 (.inr (.inr (some n8_0)))).bind fun h10_1 =>
  al (.inr (0, 232, .inl (fun _ => 0))) h10_1 fun n17_2 h17_2 =>
  (pF 10 2 h17_2 a0 (.inr (.inr (some n17_2)))).bind fun h19_3 =>
  al (.inr (0, 2784, .inl (fun _ => 0))) h19_3 fun n26_4 h26_4 =>
  (pF 10 3 h26_4 a0 (.inr (.inr (some n26_4)))).bind fun h28_5 =>
  al (.inr (0, 464, .inl (fun _ => 0))) h28_5 fun n35_6 h35_6 =>
  (pF 10 4 h35_6 a0 (.inr (.inr (some n35_6)))).bind fun h37_7 =>
  al (.inr (3, 2, .inl (fun _ => 0))) h37_7 fun n42_8 h42_8 =>
  (pF 10 5 h42_8 a0 (.inr (.inr (some n42_8)))).bind fun h44_9 =>
  al (.inr (2, 900, .inl (fun _ => 0))) h44_9 fun n51_10 h51_10 =>
  (pF 10 7 h51_10 a0 (.inr (.inr (some n51_10)))).bind fun h53_11 =>
  al (.inr (1, 26, .inr (.inl (fun _ => 0)))) h53_11 fun n59_12 h59_12 =>
  (pF 10 17 h59_12 a0 (.inr (.inr (some n59_12)))).bind fun h61_13 =>
  al (.inr (0, 26, .inl (fun _ => 0))) h61_13 fun n67_14 h67_14 =>
  (pF 10 18 h67_14 a0 (.inr (.inr (some n67_14)))).bind fun h69_15 =>
  al (.inr (0, 26, .inl (fun _ => 0))) h69_15 fun n75_16 h75_16 =>
  (pF 10 19 h75_16 a0 (.inr (.inr (some n75_16)))).bind fun h77_17 =>
  al (.inr (1, 10, .inr (.inl (fun _ => 0)))) h77_17 fun n83_18 h83_18 =>
  (pF 10 21 h83_18 a0 (.inr (.inr (some n83_18)))).bind fun h85_19 =>
  (pF 10 23 h85_19 a0 (.inl (-1 : Int32))).bind fun h90 =>
  al (.inr (1, 12, .inr (.inl (fun _ => 0)))) h90 fun n96_20 h96_20 =>
  (pF 10 26 h96_20 a0 (.inr (.inr (some n96_20)))).bind fun h98_21 =>
  al (.inr (0, 6, .inl (fun _ => 0))) h98_21 fun n104_22 h104_22 =>
  (pF 10 29 h104_22 a0 (.inr (.inr (some n104_22)))).bind fun h106_23 =>
  al (.inr (0, 600, .inl (fun _ => 0))) h106_23 fun n113_24 h113_24 =>
  (pF 10 32 h113_24 a0 (.inr (.inr (some n113_24)))).bind fun h115_25 =>
  (gR 10 1 h115_25 a0).bind fun v119 =>
  (mX10_rules h115_25 v119).bind fun h122 =>
  some h122
def mX10_copies_b3 (r3 : PH → Nat → Int32 → Nat → Int32 → Int32 → Option (PH)) (h : PH) (a0 : Nat) (x1 : Int32) (a2 : Nat) (x3 : Int32) (x4 : Int32) : Option (PH) :=
  if (232 : Int32) ≤ x4 then (
  some h) else (
  (aI 0 h a0 (x1 + x4)).bind fun v21 =>
  (sI h a2 (x3 + x4) v21).bind fun h22 =>
  r3 h22 a0 x1 a2 x3 (x4 + 1))
def mX10_copies_L3 : Nat → PH → Nat → Int32 → Nat → Int32 → Int32 → Option (PH)
  | 0 => fun _ _ _ _ _ _ => none
  | n + 1 => mX10_copies_b3 (mX10_copies_L3 n)
def mX10_copies (h : PH) (a0 : Nat) (x1 : Int32) (a2 : Nat) (x3 : Int32) : Option (PH) :=
  mX10_copies_L3 FU h a0 x1 a2 x3 (0 : Int32)
def mX10_puts_b3 (r3 : PH → Nat → Int32 → Int32 → Option (PH)) (h : PH) (a0 : Nat) (x1 : Int32) (x2 : Int32) : Option (PH) :=
  if x2 < 0 then (
  some h) else (
  (gR 10 7 h a0).bind fun v8 =>
  (gI 10 8 h a0).bind fun v12 =>
  (sB 2 .byte h v8 v12 (Int8.toInt32 (Int32.toInt8 (x1 >>> (x2 &&& 31))))).bind fun h19 =>
  (gI 10 8 h19 a0).bind fun v22 =>
  (pF 10 8 h19 a0 (.inl (v22 + (1 : Int32)))).bind fun h27 =>
  r3 h27 a0 x1 (x2 + (-8)))
def mX10_puts_L3 : Nat → PH → Nat → Int32 → Int32 → Option (PH)
  | 0 => fun _ _ _ _ => none
  | n + 1 => mX10_puts_b3 (mX10_puts_L3 n)
def mX10_puts (h : PH) (a0 : Nat) (x1 : Int32) : Option (PH) :=
  oO h a0 10 <|
  mX10_puts_L3 FU h a0 x1 (24 : Int32)
def mX10_feed (h : PH) (a0 : Nat) (x1 : Int32) (x2 : Int32) (x3 : Int32) (x4 : Int32) (x5 : Int32) : Option (Int32 × PH) :=
  oO h a0 10 <|
  (pF 10 0 h a0 (.inl (0 : Int32))).bind fun h2 =>
  (gI 10 8 h2 a0).bind fun v6 =>
  if (v6 + (20 : Int32)) ≤ (900 : Int32) then (
  (mX10_puts h2 a0 x1).bind fun h22 =>
  (mX10_puts h22 a0 x2).bind fun h27 =>
  (mX10_puts h27 a0 x3).bind fun h32 =>
  (mX10_puts h32 a0 x4).bind fun h38 =>
  (mX10_puts h38 a0 x5).bind fun h44 =>
  (gI 10 8 h44 a0).bind fun v48 =>
  some (v48, h44)) else (
  some ((-1 : Int32), h2))
def mX10_byteAt (h : PH) (a0 : Nat) (x1 : Int32) : Option (Int32 × PH) :=
  oO h a0 10 <|
  (gI 10 9 h a0).bind fun v2 =>
  if v2 ≤ x1 then (
  some ((-1 : Int32), h)) else (
  (gR 10 7 h a0).bind fun v9 =>
  (aI 2 h v9 x1).bind fun v13 =>
  some ((v13 &&& (255 : Int32)), h))
def mX10_go_b26 (r0 : PH → Nat → Option (PH)) (h : PH) (a0 : Nat) : Option (PH) :=
  (gI 10 11 h a0).bind fun v28 =>
  (pF 10 11 h a0 (.inl (v28 + (1 : Int32)))).bind fun h33 =>
  r0 h33 a0
def mX10_go_b157 (r92 : PH → Nat → Option (PH)) (h : PH) (a0 : Nat) (s0 : Nat) (s1 : Int64) : Option (PH) :=
  (pF 10 14 h s0 (.inr (.inl s1))).bind fun h157 =>
  (gI 10 11 h157 a0).bind fun v162 =>
  (pF 10 11 h157 a0 (.inl (v162 + (1 : Int32)))).bind fun h167 =>
  r92 h167 a0
def mX10_go_b193 (h : PH) (s0 : Nat) (s1 : Int32) : Option (PH) :=
  (pF 10 12 h s0 (.inl s1)).bind fun h193 =>
  some h193
def mX10_go_b92 (r92 : PH → Nat → Option (PH)) (h : PH) (a0 : Nat) : Option (PH) :=
  (gI 10 11 h a0).bind fun v94 =>
  b2 (mX10_byteAt h a0 v94) fun v97 h97 =>
  b2 (mX10_within h97 (Int32.toInt64 v97) (97 : Int64) (122 : Int64)) fun v107 h107 =>
  if v107 = 0 then (
  (gI 10 11 h107 a0).bind fun v175 =>
  (gI 10 10 h107 a0).bind fun v179 =>
  if (v175 - v179) ≤ (7 : Int32) then (
  mX10_go_b193 h107 a0 (1 : Int32)) else (
  mX10_go_b193 h107 a0 (4 : Int32))) else (
  (gI 10 11 h107 a0).bind fun v115 =>
  (gI 10 10 h107 a0).bind fun v119 =>
  if (7 : Int32) ≤ (v115 - v119) then (
  (gL 10 14 h107 a0).bind fun v154 =>
  mX10_go_b157 r92 h107 a0 a0 v154) else (
  (gL 10 14 h107 a0).bind fun v132 =>
  (gI 10 11 h107 a0).bind fun v138 =>
  b2 (mX10_byteAt h107 a0 v138) fun v141 h141 =>
  mX10_go_b157 r92 h141 a0 a0 ((((32 : Int64) * v132) + (Int32.toInt64 v141)) - (96 : Int64))))
def mX10_go_L92 : Nat → PH → Nat → Option (PH)
  | 0 => fun _ _ => none
  | n + 1 => mX10_go_b92 (mX10_go_L92 n)
def mX10_go_b274 (r213 : PH → Nat → Option (PH)) (h : PH) (a0 : Nat) (s0 : Nat) (s1 : Int32) : Option (PH) :=
  (pF 10 13 h s0 (.inl s1)).bind fun h274 =>
  (gI 10 11 h274 a0).bind fun v279 =>
  (pF 10 11 h274 a0 (.inl (v279 + (1 : Int32)))).bind fun h284 =>
  r213 h284 a0
def mX10_go_b309 (h : PH) (s0 : Nat) (s1 : Int32) : Option (PH) :=
  (pF 10 12 h s0 (.inl s1)).bind fun h309 =>
  some h309
def mX10_go_b213 (r213 : PH → Nat → Option (PH)) (h : PH) (a0 : Nat) : Option (PH) :=
  (gI 10 11 h a0).bind fun v215 =>
  b2 (mX10_byteAt h a0 v215) fun v218 h218 =>
  b2 (mX10_within h218 (Int32.toInt64 v218) (48 : Int64) (57 : Int64)) fun v228 h228 =>
  if v228 = 0 then (
  (gI 10 11 h228 a0).bind fun v292 =>
  (gI 10 10 h228 a0).bind fun v296 =>
  if (v292 - v296) ≤ (4 : Int32) then (
  mX10_go_b309 h228 a0 (2 : Int32)) else (
  mX10_go_b309 h228 a0 (4 : Int32))) else (
  (gI 10 11 h228 a0).bind fun v236 =>
  (gI 10 10 h228 a0).bind fun v240 =>
  if (4 : Int32) ≤ (v236 - v240) then (
  (gI 10 13 h228 a0).bind fun v271 =>
  mX10_go_b274 r213 h228 a0 a0 v271) else (
  (gI 10 13 h228 a0).bind fun v251 =>
  (gI 10 11 h228 a0).bind fun v257 =>
  b2 (mX10_byteAt h228 a0 v257) fun v260 h260 =>
  mX10_go_b274 r213 h260 a0 a0 ((((10 : Int32) * v251) + v260) - (48 : Int32))))
def mX10_go_L213 : Nat → PH → Nat → Option (PH)
  | 0 => fun _ _ => none
  | n + 1 => mX10_go_b213 (mX10_go_L213 n)
def mX10_go_b337 (h : PH) (s0 : Nat) (s1 : Int32) : Option (PH) :=
  (pF 10 12 h s0 (.inl s1)).bind fun h337 =>
  some h337
def mX10_go_b0 (r0 : PH → Nat → Option (PH)) (h : PH) (a0 : Nat) : Option (PH) :=
  (gI 10 11 h a0).bind fun v2 =>
  b2 (mX10_byteAt h a0 v2) fun v5 h5 =>
  if v5 = (32 : Int32) then (
  mX10_go_b26 r0 h5 a0) else (
  (gI 10 11 h5 a0).bind fun v15 =>
  b2 (mX10_byteAt h5 a0 v15) fun v18 h18 =>
  if v18 = (10 : Int32) then (
  mX10_go_b26 r0 h18 a0) else (
  (gI 10 11 h18 a0).bind fun v41 =>
  (pF 10 10 h18 a0 (.inl v41)).bind fun h44 =>
  (pF 10 13 h44 a0 (.inl (0 : Int32))).bind fun h49 =>
  (pF 10 14 h49 a0 (.inr (.inl (0 : Int64)))).bind fun h54 =>
  (gI 10 11 h54 a0).bind fun v59 =>
  b2 (mX10_byteAt h54 a0 v59) fun v62 h62 =>
  if 0 ≤ v62 then (
  b2 (mX10_within h62 (Int32.toInt64 v62) (97 : Int64) (122 : Int64)) fun v86 h86 =>
  if v86 = 0 then (
  b2 (mX10_within h86 (Int32.toInt64 v62) (48 : Int64) (57 : Int64)) fun v207 h207 =>
  if v207 = 0 then (
  (gI 10 11 h207 a0).bind fun v317 =>
  (pF 10 11 h207 a0 (.inl (v317 + (1 : Int32)))).bind fun h322 =>
  if v62 = (59 : Int32) then (
  mX10_go_b337 h322 a0 (3 : Int32)) else (
  mX10_go_b337 h322 a0 (4 : Int32))) else (
  mX10_go_L213 FU h207 a0)) else (
  mX10_go_L92 FU h86 a0)) else (
  (pF 10 12 h62 a0 (.inl (0 : Int32))).bind fun h72 =>
  some h72)))
def mX10_go_L0 : Nat → PH → Nat → Option (PH)
  | 0 => fun _ _ => none
  | n + 1 => mX10_go_b0 (mX10_go_L0 n)
def mX10_go (h : PH) (a0 : Nat) : Option (PH) :=
  oO h a0 10 <|
  mX10_go_L0 FU h a0
def mX10_is (h : PH) (a0 : Nat) (x1 : Int64) : Option (Int32 × PH) :=
  oO h a0 10 <|
  (gI 10 12 h a0).bind fun v1 =>
  if v1 = (1 : Int32) then (
  (gL 10 14 h a0).bind fun v9 =>
  if v9 = x1 then (
  rz (1 : Int32) h) else (
  rz (0 : Int32) h)) else (
  rz (0 : Int32) h)
def mX10_bad_b24 (h : PH) (s0 : Nat) (s1 : Int32) : Option (Int32 × PH) :=
  (pF 10 15 h s0 (.inl s1)).bind fun h24 =>
  rz (0 : Int32) h24
def mX10_bad (h : PH) (a0 : Nat) (x1 : Int32) : Option (Int32 × PH) :=
  oO h a0 10 <|
  (gI 10 15 h a0).bind fun v2 =>
  if v2 = 0 then (
  (gI 10 10 h a0).bind fun v11 =>
  mX10_bad_b24 h a0 (((8 : Int32) * v11) + x1)) else (
  (gI 10 15 h a0).bind fun v21 =>
  mX10_bad_b24 h a0 v21)
def mX10_number (h : PH) (a0 : Nat) (x1 : Int32) (x2 : Int32) : Option (Int32 × PH) :=
  oO h a0 10 <|
  (gI 10 12 h a0).bind fun v1 =>
  if v1 = (2 : Int32) then (
  (gI 10 13 h a0).bind fun v15 =>
  b2 (mX10_within h (Int32.toInt64 v15) (Int32.toInt64 x1) (Int32.toInt64 x2)) fun v23 h23 =>
  if v23 = 0 then (
  b2 (mX10_bad h23 a0 (4 : Int32)) fun v31 h31 =>
  rz v31 h31) else (
  (gI 10 13 h23 a0).bind fun v37 =>
  (pF 10 16 h23 a0 (.inl v37)).bind fun h40 =>
  (mX10_go h40 a0).bind fun h44 =>
  rz (1 : Int32) h44)) else (
  b2 (mX10_bad h a0 (1 : Int32)) fun v10 h10 =>
  rz v10 h10)
def mX10_after (h : PH) (a0 : Nat) (x1 : Int64) (x3 : Int32) (x4 : Int32) : Option (Int32 × PH) :=
  oO h a0 10 <|
  b2 (mX10_is h a0 x1) fun v2 h2 =>
  if v2 = 0 then (
  b2 (mX10_bad h2 a0 (1 : Int32)) fun v10 h10 =>
  rz v10 h10) else (
  (mX10_go h2 a0).bind fun h15 =>
  b2 (mX10_number h15 a0 x3 x4) fun v22 h22 =>
  rz v22 h22)
def mX10_isName_b345 (h : PH) (a0 : Nat) (s0 : Int32) : Option (Int32 × PH) :=
  (gI 10 12 h a0).bind fun v347 =>
  if v347 = (1 : Int32) then (
  if s0 = 0 then (
  rz (1 : Int32) h) else (
  rz (0 : Int32) h)) else (
  rz (0 : Int32) h)
def mX10_isName_b340 (h : PH) (a0 : Nat) : Option (Int32 × PH) :=
  mX10_isName_b345 h a0 (1 : Int32)
def mX10_isName_b275 (h : PH) (a0 : Nat) (s0 : Int32) : Option (Int32 × PH) :=
  if s0 = 0 then (
  b2 (mX10_is h a0 (215533 : Int64)) fun v284 h284 =>
  if v284 = 0 then (
  b2 (mX10_is h284 a0 (398963 : Int64)) fun v294 h294 =>
  if v294 = 0 then (
  b2 (mX10_is h294 a0 (463922 : Int64)) fun v304 h304 =>
  if v304 = 0 then (
  b2 (mX10_is h304 a0 (781652471 : Int64)) fun v314 h314 =>
  if v314 = 0 then (
  b2 (mX10_is h314 a0 (437853486 : Int64)) fun v324 h324 =>
  if v324 = 0 then (
  b2 (mX10_is h324 a0 (153241 : Int64)) fun v334 h334 =>
  if v334 = 0 then (
  mX10_isName_b345 h334 a0 (0 : Int32)) else (
  mX10_isName_b340 h334 a0)) else (
  mX10_isName_b340 h324 a0)) else (
  mX10_isName_b340 h314 a0)) else (
  mX10_isName_b340 h304 a0)) else (
  mX10_isName_b340 h294 a0)) else (
  mX10_isName_b340 h284 a0)) else (
  mX10_isName_b340 h a0)
def mX10_isName_b270 (h : PH) (a0 : Nat) : Option (Int32 × PH) :=
  mX10_isName_b275 h a0 (1 : Int32)
def mX10_isName_b205 (h : PH) (a0 : Nat) (s0 : Int32) : Option (Int32 × PH) :=
  if s0 = 0 then (
  b2 (mX10_is h a0 (707763 : Int64)) fun v214 h214 =>
  if v214 = 0 then (
  b2 (mX10_is h214 a0 (609860996 : Int64)) fun v224 h224 =>
  if v224 = 0 then (
  b2 (mX10_is h224 a0 (427141 : Int64)) fun v234 h234 =>
  if v234 = 0 then (
  b2 (mX10_is h234 a0 (114292 : Int64)) fun v244 h244 =>
  if v244 = 0 then (
  b2 (mX10_is h244 a0 (556243252 : Int64)) fun v254 h254 =>
  if v254 = 0 then (
  b2 (mX10_is h254 a0 (67012 : Int64)) fun v264 h264 =>
  if v264 = 0 then (
  mX10_isName_b275 h264 a0 (0 : Int32)) else (
  mX10_isName_b270 h264 a0)) else (
  mX10_isName_b270 h254 a0)) else (
  mX10_isName_b270 h244 a0)) else (
  mX10_isName_b270 h234 a0)) else (
  mX10_isName_b270 h224 a0)) else (
  mX10_isName_b270 h214 a0)) else (
  mX10_isName_b270 h a0)
def mX10_isName_b200 (h : PH) (a0 : Nat) : Option (Int32 × PH) :=
  mX10_isName_b205 h a0 (1 : Int32)
def mX10_isName_b135 (h : PH) (a0 : Nat) (s0 : Int32) : Option (Int32 × PH) :=
  if s0 = 0 then (
  b2 (mX10_is h a0 (4153 : Int64)) fun v144 h144 =>
  if v144 = 0 then (
  b2 (mX10_is h144 a0 (2610628 : Int64)) fun v154 h154 =>
  if v154 = 0 then (
  b2 (mX10_is h154 a0 (19856929433 : Int64)) fun v164 h164 =>
  if v164 = 0 then (
  b2 (mX10_is h164 a0 (6309 : Int64)) fun v174 h174 =>
  if v174 = 0 then (
  b2 (mX10_is h174 a0 (17216939463 : Int64)) fun v184 h184 =>
  if v184 = 0 then (
  b2 (mX10_is h184 a0 (7051975956 : Int64)) fun v194 h194 =>
  if v194 = 0 then (
  mX10_isName_b205 h194 a0 (0 : Int32)) else (
  mX10_isName_b200 h194 a0)) else (
  mX10_isName_b200 h184 a0)) else (
  mX10_isName_b200 h174 a0)) else (
  mX10_isName_b200 h164 a0)) else (
  mX10_isName_b200 h154 a0)) else (
  mX10_isName_b200 h144 a0)) else (
  mX10_isName_b200 h a0)
def mX10_isName_b130 (h : PH) (a0 : Nat) : Option (Int32 × PH) :=
  mX10_isName_b135 h a0 (1 : Int32)
def mX10_isName_b65 (h : PH) (a0 : Nat) (s0 : Int32) : Option (Int32 × PH) :=
  if s0 = 0 then (
  b2 (mX10_is h a0 (24627848 : Int64)) fun v74 h74 =>
  if v74 = 0 then (
  b2 (mX10_is h74 a0 (6605428 : Int64)) fun v84 h84 =>
  if v84 = 0 then (
  b2 (mX10_is h84 a0 (89 : Int64)) fun v94 h94 =>
  if v94 = 0 then (
  b2 (mX10_is h94 a0 (624005 : Int64)) fun v104 h104 =>
  if v104 = 0 then (
  b2 (mX10_is h104 a0 (546475187 : Int64)) fun v114 h114 =>
  if v114 = 0 then (
  b2 (mX10_is h114 a0 (17376357 : Int64)) fun v124 h124 =>
  if v124 = 0 then (
  mX10_isName_b135 h124 a0 (0 : Int32)) else (
  mX10_isName_b130 h124 a0)) else (
  mX10_isName_b130 h114 a0)) else (
  mX10_isName_b130 h104 a0)) else (
  mX10_isName_b130 h94 a0)) else (
  mX10_isName_b130 h84 a0)) else (
  mX10_isName_b130 h74 a0)) else (
  mX10_isName_b130 h a0)
def mX10_isName_b60 (h : PH) (a0 : Nat) : Option (Int32 × PH) :=
  mX10_isName_b65 h a0 (1 : Int32)
def mX10_isName (h : PH) (a0 : Nat) : Option (Int32 × PH) :=
  oO h a0 10 <|
  b2 (mX10_is h a0 (16829081 : Int64)) fun v4 h4 =>
  if v4 = 0 then (
  b2 (mX10_is h4 a0 (11566 : Int64)) fun v14 h14 =>
  if v14 = 0 then (
  b2 (mX10_is h14 a0 (245220 : Int64)) fun v24 h24 =>
  if v24 = 0 then (
  b2 (mX10_is h24 a0 (7945904 : Int64)) fun v34 h34 =>
  if v34 = 0 then (
  b2 (mX10_is h34 a0 (394692 : Int64)) fun v44 h44 =>
  if v44 = 0 then (
  b2 (mX10_is h44 a0 (54109812 : Int64)) fun v54 h54 =>
  if v54 = 0 then (
  mX10_isName_b65 h54 a0 (0 : Int32)) else (
  mX10_isName_b60 h54 a0)) else (
  mX10_isName_b60 h44 a0)) else (
  mX10_isName_b60 h34 a0)) else (
  mX10_isName_b60 h24 a0)) else (
  mX10_isName_b60 h14 a0)) else (
  mX10_isName_b60 h4 a0)
def mX10_name_b15 (r15 : PH → Nat → Int32 → Int32 → Option (Int32 × PH)) (h : PH) (a0 : Nat) (x1 : Int32) (x2 : Int32) : Option (Int32 × PH) :=
  (gI 10 20 h a0).bind fun v17 =>
  if v17 ≤ x2 then (
  (gR 10 17 h a0).bind fun v50 =>
  (gI 10 20 h a0).bind fun v54 =>
  (gL 10 14 h a0).bind fun v58 =>
  (sL h v50 v54 v58).bind fun h61 =>
  (gR 10 18 h61 a0).bind fun v63 =>
  (gI 10 20 h61 a0).bind fun v67 =>
  (sI h61 v63 v67 x1).bind fun h71 =>
  (gR 10 19 h71 a0).bind fun v73 =>
  (gI 10 20 h71 a0).bind fun v77 =>
  (gR 10 2 h71 a0).bind fun v81 =>
  (aI 0 h71 v81 x1).bind fun v85 =>
  (sI h71 v73 v77 v85).bind fun h86 =>
  (gI 10 20 h86 a0).bind fun v89 =>
  (pF 10 20 h86 a0 (.inl (v89 + (1 : Int32)))).bind fun h94 =>
  (mX10_go h94 a0).bind fun h98 =>
  rz (1 : Int32) h98) else (
  (gR 10 17 h a0).bind fun v24 =>
  (aL h v24 x2).bind fun v28 =>
  (gL 10 14 h a0).bind fun v30 =>
  if v28 = v30 then (
  b2 (mX10_bad h a0 (2 : Int32)) fun v39 h39 =>
  rz v39 h39) else (
  r15 h a0 x1 (x2 + 1)))
def mX10_name_L15 : Nat → PH → Nat → Int32 → Int32 → Option (Int32 × PH)
  | 0 => fun _ _ _ _ => none
  | n + 1 => mX10_name_b15 (mX10_name_L15 n)
def mX10_name (h : PH) (a0 : Nat) (x1 : Int32) : Option (Int32 × PH) :=
  oO h a0 10 <|
  b2 (mX10_isName h a0) fun v1 h1 =>
  if v1 = 0 then (
  b2 (mX10_bad h1 a0 (1 : Int32)) fun v9 h9 =>
  rz v9 h9) else (
  mX10_name_L15 FU h1 a0 x1 (0 : Int32))
def mX10_isHere_b15 (r15 : PH → Nat → Int32 → Int32 → Option (Int32 × PH)) (h : PH) (a0 : Nat) (x1 : Int32) (x2 : Int32) : Option (Int32 × PH) :=
  (gI 10 20 h a0).bind fun v17 =>
  if v17 ≤ x2 then (
  b2 (mX10_bad h a0 (3 : Int32)) fun v67 h67 =>
  rz v67 h67) else (
  (gR 10 17 h a0).bind fun v24 =>
  (aL h v24 x2).bind fun v28 =>
  (gL 10 14 h a0).bind fun v30 =>
  if v28 = v30 then (
  (gR 10 18 h a0).bind fun v38 =>
  (aI 0 h v38 x2).bind fun v42 =>
  if v42 = x1 then (
  (gR 10 19 h a0).bind fun v49 =>
  (aI 0 h v49 x2).bind fun v53 =>
  (pF 10 16 h a0 (.inl v53)).bind fun h54 =>
  rz (1 : Int32) h54) else (
  r15 h a0 x1 (x2 + 1))) else (
  r15 h a0 x1 (x2 + 1)))
def mX10_isHere_L15 : Nat → PH → Nat → Int32 → Int32 → Option (Int32 × PH)
  | 0 => fun _ _ _ _ => none
  | n + 1 => mX10_isHere_b15 (mX10_isHere_L15 n)
def mX10_isHere (h : PH) (a0 : Nat) (x1 : Int32) : Option (Int32 × PH) :=
  oO h a0 10 <|
  b2 (mX10_isName h a0) fun v1 h1 =>
  if v1 = 0 then (
  b2 (mX10_bad h1 a0 (1 : Int32)) fun v9 h9 =>
  rz v9 h9) else (
  mX10_isHere_L15 FU h1 a0 x1 (0 : Int32))
def mX10_known (h : PH) (a0 : Nat) (x1 : Int32) : Option (Int32 × PH) :=
  oO h a0 10 <|
  b2 (mX10_isHere h a0 x1) fun v2 h2 =>
  if v2 = 0 then (
  rz (0 : Int32) h2) else (
  (mX10_go h2 a0).bind fun h11 =>
  rz (1 : Int32) h11)
def mX10_begins (h : PH) (a0 : Nat) (x1 : Int32) (x2 : Int32) : Option (Int32 × PH) :=
  oO h a0 10 <|
  (gR 10 2 h a0).bind fun v1 =>
  (aI 0 h v1 x1).bind fun v5 =>
  if v5 = x2 then (
  b2 (mX10_bad h a0 (5 : Int32)) fun v12 h12 =>
  rz v12 h12) else (
  (mX10_go h a0).bind fun h17 =>
  rz (1 : Int32) h17)
def mX10_partyLine (h : PH) (a0 : Nat) : Option (Int32 × PH) :=
  oO h a0 10 <|
  b2 (mX10_begins h a0 (0 : Int32) (6 : Int32)) fun v4 h4 =>
  if v4 = 0 then (
  rz (0 : Int32) h4) else (
  b2 (mX10_name h4 a0 (0 : Int32)) fun v12 h12 =>
  if v12 = 0 then (
  rz (0 : Int32) h12) else (
  (gR 10 2 h12 a0).bind fun v21 =>
  (aI 0 h12 v21 (0 : Int32)).bind fun v26 =>
  (sI h12 v21 (0 : Int32) (v26 + (1 : Int32))).bind fun h29 =>
  rz (1 : Int32) h29))
def mX10_pairOf_b44 (r2 : PH → Nat → Int32 → Int32 → Int32 → Option (Int32 × PH)) (h : PH) (a0 : Nat) (x1 : Int32) (x2 : Int32) (x3 : Int32) (x4 : Int32) (x5 : Int32) : Option (Int32 × PH) :=
  if x4 = x2 then (
  if x5 = x1 then (
  some (x3, h)) else (
  r2 h a0 x1 x2 (x3 + 1))) else (
  r2 h a0 x1 x2 (x3 + 1))
def mX10_pairOf_b2 (r2 : PH → Nat → Int32 → Int32 → Int32 → Option (Int32 × PH)) (h : PH) (a0 : Nat) (x1 : Int32) (x2 : Int32) (x3 : Int32) : Option (Int32 × PH) :=
  (aI 0 h a0 (11 : Int32)).bind fun v6 =>
  if v6 ≤ x3 then (
  some ((-1 : Int32), h)) else (
  (aI 0 h a0 ((12 : Int32) + ((2 : Int32) * x3))).bind fun v17 =>
  (aI 0 h a0 (((12 : Int32) + ((2 : Int32) * x3)) + (1 : Int32))).bind fun v29 =>
  if v17 = x1 then (
  if v29 = x2 then (
  some (x3, h)) else (
  mX10_pairOf_b44 r2 h a0 x1 x2 x3 v17 v29)) else (
  mX10_pairOf_b44 r2 h a0 x1 x2 x3 v17 v29))
def mX10_pairOf_L2 : Nat → PH → Nat → Int32 → Int32 → Int32 → Option (Int32 × PH)
  | 0 => fun _ _ _ _ _ => none
  | n + 1 => mX10_pairOf_b2 (mX10_pairOf_L2 n)
def mX10_pairOf (h : PH) (a0 : Nat) (x1 : Int32) (x2 : Int32) : Option (Int32 × PH) :=
  mX10_pairOf_L2 FU h a0 x1 x2 (0 : Int32)
def mX10_kinLine (h : PH) (a0 : Nat) : Option (Int32 × PH) :=
  oO h a0 10 <|
  b2 (mX10_begins h a0 (11 : Int32) (6 : Int32)) fun v5 h5 =>
  if v5 = 0 then (
  rz (0 : Int32) h5) else (
  b2 (mX10_known h5 a0 (0 : Int32)) fun v13 h13 =>
  if v13 = 0 then (
  rz (0 : Int32) h13) else (
  (gI 10 16 h13 a0).bind fun v22 =>
  b2 (mX10_isHere h13 a0 (0 : Int32)) fun v28 h28 =>
  if v28 = 0 then (
  rz (0 : Int32) h28) else (
  (gI 10 16 h28 a0).bind fun v37 =>
  if v37 = v22 then (
  b2 (mX10_bad h28 a0 (4 : Int32)) fun v46 h46 =>
  rz v46 h46) else (
  (gR 10 2 h28 a0).bind fun v51 =>
  (gI 10 16 h28 a0).bind fun v56 =>
  b2 (mX10_pairOf h28 v51 v22 v56) fun v59 h59 =>
  if v59 = (-1 : Int32) then (
  (mX10_go h59 a0).bind fun h73 =>
  (gR 10 2 h73 a0).bind fun v77 =>
  (gR 10 2 h73 a0).bind fun v84 =>
  (aI 0 h73 v84 (11 : Int32)).bind fun v89 =>
  (sI h73 v77 ((12 : Int32) + ((2 : Int32) * v89)) v22).bind fun h93 =>
  (gR 10 2 h93 a0).bind fun v95 =>
  (gR 10 2 h93 a0).bind fun v102 =>
  (aI 0 h93 v102 (11 : Int32)).bind fun v107 =>
  (gI 10 16 h93 a0).bind fun v113 =>
  (sI h93 v95 (((12 : Int32) + ((2 : Int32) * v107)) + (1 : Int32)) v113).bind fun h116 =>
  (gR 10 2 h116 a0).bind fun v118 =>
  (aI 0 h116 v118 (11 : Int32)).bind fun v124 =>
  (sI h116 v118 (11 : Int32) (v124 + (1 : Int32))).bind fun h127 =>
  rz (1 : Int32) h127) else (
  b2 (mX10_bad h59 a0 (2 : Int32)) fun v68 h68 =>
  rz v68 h68)))))
def mX10_goodLine (h : PH) (a0 : Nat) : Option (Int32 × PH) :=
  oO h a0 10 <|
  b2 (mX10_begins h a0 (1 : Int32) (6 : Int32)) fun v4 h4 =>
  if v4 = 0 then (
  rz (0 : Int32) h4) else (
  b2 (mX10_name h4 a0 (1 : Int32)) fun v12 h12 =>
  if v12 = 0 then (
  rz (0 : Int32) h12) else (
  (gR 10 2 h12 a0).bind fun v24 =>
  (aI 0 h12 v24 (1 : Int32)).bind fun v28 =>
  b2 (mX10_after h12 a0 (7945904 : Int64) (0 : Int32) (9 : Int32)) fun v39 h39 =>
  if v39 = 0 then (
  rz (0 : Int32) h39) else (
  (gR 10 2 h39 a0).bind fun v48 =>
  (gI 10 16 h39 a0).bind fun v55 =>
  (sI h39 v48 (((24 : Int32) + ((4 : Int32) * v28)) + (0 : Int32)) v55).bind fun h58 =>
  b2 (mX10_after h58 a0 (394692 : Int64) (0 : Int32) (9 : Int32)) fun v66 h66 =>
  if v66 = 0 then (
  rz (0 : Int32) h66) else (
  (gR 10 2 h66 a0).bind fun v75 =>
  (gI 10 16 h66 a0).bind fun v82 =>
  (sI h66 v75 (((24 : Int32) + ((4 : Int32) * v28)) + (1 : Int32)) v82).bind fun h85 =>
  (gR 10 2 h85 a0).bind fun v87 =>
  (aI 0 h85 v87 (1 : Int32)).bind fun v92 =>
  (sI h85 v87 (1 : Int32) (v92 + (1 : Int32))).bind fun h95 =>
  rz (1 : Int32) h95))))
def mX10_assistLine_b114 (h : PH) (a0 : Nat) : Option (Int32 × PH) :=
  (gR 10 2 h a0).bind fun v115 =>
  (aI 0 h v115 (2 : Int32)).bind fun v120 =>
  (sI h v115 (2 : Int32) (v120 + (1 : Int32))).bind fun h123 =>
  rz (1 : Int32) h123
def mX10_assistLine (h : PH) (a0 : Nat) : Option (Int32 × PH) :=
  oO h a0 10 <|
  b2 (mX10_begins h a0 (2 : Int32) (4 : Int32)) fun v3 h3 =>
  if v3 = 0 then (
  rz (0 : Int32) h3) else (
  b2 (mX10_name h3 a0 (2 : Int32)) fun v11 h11 =>
  if v11 = 0 then (
  rz (0 : Int32) h11) else (
  b2 (mX10_after h11 a0 (24627848 : Int64) (1 : Int32) (9999 : Int32)) fun v25 h25 =>
  if v25 = 0 then (
  rz (0 : Int32) h25) else (
  (gR 10 2 h25 a0).bind fun v37 =>
  (aI 0 h25 v37 (2 : Int32)).bind fun v41 =>
  (gR 10 2 h25 a0).bind fun v46 =>
  (gI 10 16 h25 a0).bind fun v53 =>
  (sI h25 v46 (((48 : Int32) + ((2 : Int32) * v41)) + (0 : Int32)) v53).bind fun h56 =>
  (gR 10 2 h56 a0).bind fun v58 =>
  (sI h56 v58 (((48 : Int32) + ((2 : Int32) * v41)) + (1 : Int32)) (0 : Int32)).bind fun h65 =>
  b2 (mX10_is h65 a0 (6605428 : Int64)) fun v70 h70 =>
  if v70 = 0 then (
  b2 (mX10_after h70 a0 (89 : Int64) (1 : Int32) (9999 : Int32)) fun v91 h91 =>
  if v91 = 0 then (
  rz (0 : Int32) h91) else (
  (gR 10 2 h91 a0).bind fun v98 =>
  (gI 10 16 h91 a0).bind fun v105 =>
  (sI h91 v98 (((48 : Int32) + ((2 : Int32) * v41)) + (1 : Int32)) v105).bind fun h108 =>
  mX10_assistLine_b114 h108 a0)) else (
  (mX10_go h70 a0).bind fun h77 =>
  mX10_assistLine_b114 h77 a0))))
def mX10_usesExtra (h : PH) (a0 : Nat) (x1 : Int32) : Option (Int32 × PH) :=
  oO h a0 10 <|
  (mX10_go h a0).bind fun h1 =>
  b2 (mX10_isHere h1 a0 (2 : Int32)) fun v6 h6 =>
  if v6 = 0 then (
  rz (0 : Int32) h6) else (
  (gR 10 2 h6 a0).bind fun v15 =>
  (aI 0 h6 v15 (x1 + (11 : Int32))).bind fun v22 =>
  (gI 10 16 h6 a0).bind fun v24 =>
  b2 (mX10_has h6 v22 v24) fun v27 h27 =>
  if v27 = 0 then (
  (gR 10 2 h27 a0).bind fun v40 =>
  (aI 0 h27 v40 (x1 + (11 : Int32))).bind fun v48 =>
  (gI 10 16 h27 a0).bind fun v51 =>
  (sI h27 v40 (x1 + (11 : Int32)) (v48 ||| ((1 : Int32) <<< (v51 &&& 31)))).bind fun h56 =>
  (mX10_go h56 a0).bind fun h58 =>
  rz (1 : Int32) h58) else (
  b2 (mX10_bad h27 a0 (2 : Int32)) fun v35 h35 =>
  rz v35 h35))
def mX10_extras_b179 (r2 : PH → Nat → Int32 → Int32 → Option (Int32 × PH)) (h : PH) (a0 : Nat) (x1 : Int32) (x2 : Int32) (x3 : Int32) : Option (Int32 × PH) :=
  (gR 10 2 h a0).bind fun v180 =>
  (gI 10 16 h a0).bind fun v187 =>
  (sI h v180 (x1 + x3) v187).bind fun h190 =>
  r2 h190 a0 x1 x2
def mX10_extras_b171 (r2 : PH → Nat → Int32 → Int32 → Option (Int32 × PH)) (h : PH) (a0 : Nat) (x1 : Int32) (x2 : Int32) (x3 : Int32) (s0 : Nat) (s1 : Int32) (s2 : Int32) : Option (Int32 × PH) :=
  b2 (mX10_number h s0 s1 s2) fun v171 h171 =>
  if v171 = 0 then (
  rz (0 : Int32) h171) else (
  mX10_extras_b179 r2 h171 a0 x1 x2 x3)
def mX10_extras_b93 (r2 : PH → Nat → Int32 → Int32 → Option (Int32 × PH)) (h : PH) (a0 : Nat) (x1 : Int32) (x2 : Int32) (s0 : Int32) : Option (Int32 × PH) :=
  if s0 = (-1 : Int32) then (
  rz (1 : Int32) h) else (
  if s0 = (11 : Int32) then (
  b2 (mX10_usesExtra h a0 x1) fun v109 h109 =>
  if v109 = 0 then (
  rz (0 : Int32) h109) else (
  r2 h109 a0 x1 x2)) else (
  b2 (mX10_has h x2 s0) fun v119 h119 =>
  if v119 = 0 then (
  (mX10_go h119 a0).bind fun h138 =>
  if s0 = (6 : Int32) then (
  (pF 10 16 h138 a0 (.inl (1 : Int32))).bind fun h149 =>
  mX10_extras_b179 r2 h149 a0 x1 (x2 ||| ((1 : Int32) <<< (s0 &&& 31))) s0) else (
  if s0 = (7 : Int32) then (
  mX10_extras_b171 r2 h138 a0 x1 (x2 ||| ((1 : Int32) <<< (s0 &&& 31))) s0 a0 (0 : Int32) (99 : Int32)) else (
  mX10_extras_b171 r2 h138 a0 x1 (x2 ||| ((1 : Int32) <<< (s0 &&& 31))) s0 a0 (0 : Int32) (9999 : Int32)))) else (
  b2 (mX10_bad h119 a0 (2 : Int32)) fun v127 h127 =>
  rz v127 h127)))
def mX10_extras_b2 (r2 : PH → Nat → Int32 → Int32 → Option (Int32 × PH)) (h : PH) (a0 : Nat) (x1 : Int32) (x2 : Int32) : Option (Int32 × PH) :=
  b2 (mX10_is h a0 (2610628 : Int64)) fun v6 h6 =>
  if v6 = 0 then (
  b2 (mX10_is h6 a0 (19856929433 : Int64)) fun v21 h21 =>
  if v21 = 0 then (
  b2 (mX10_is h21 a0 (6309 : Int64)) fun v36 h36 =>
  if v36 = 0 then (
  b2 (mX10_is h36 a0 (17216939463 : Int64)) fun v51 h51 =>
  if v51 = 0 then (
  b2 (mX10_is h51 a0 (7051975956 : Int64)) fun v66 h66 =>
  if v66 = 0 then (
  b2 (mX10_is h66 a0 (707763 : Int64)) fun v81 h81 =>
  if v81 = 0 then (
  mX10_extras_b93 r2 h81 a0 x1 x2 (-1 : Int32)) else (
  mX10_extras_b93 r2 h81 a0 x1 x2 (11 : Int32))) else (
  mX10_extras_b93 r2 h66 a0 x1 x2 (10 : Int32))) else (
  mX10_extras_b93 r2 h51 a0 x1 x2 (9 : Int32))) else (
  mX10_extras_b93 r2 h36 a0 x1 x2 (8 : Int32))) else (
  mX10_extras_b93 r2 h21 a0 x1 x2 (7 : Int32))) else (
  mX10_extras_b93 r2 h6 a0 x1 x2 (6 : Int32))
def mX10_extras_L2 : Nat → PH → Nat → Int32 → Int32 → Option (Int32 × PH)
  | 0 => fun _ _ _ _ => none
  | n + 1 => mX10_extras_b2 (mX10_extras_L2 n)
def mX10_extras (h : PH) (a0 : Nat) (x1 : Int32) : Option (Int32 × PH) :=
  oO h a0 10 <|
  mX10_extras_L2 FU h a0 x1 (0 : Int32)
def mX10_trade (h : PH) (a0 : Nat) (x1 : Int32) : Option (Int32 × PH) :=
  oO h a0 10 <|
  b2 (mX10_after h a0 (546475187 : Int64) (1 : Int32) (9999 : Int32)) fun v8 h8 =>
  if v8 = 0 then (
  rz (0 : Int32) h8) else (
  (gR 10 2 h8 a0).bind fun v17 =>
  (gI 10 16 h8 a0).bind fun v22 =>
  (sI h8 v17 x1 v22).bind fun h25 =>
  b2 (mX10_after h25 a0 (17376357 : Int64) (1 : Int32) (9999 : Int32)) fun v34 h34 =>
  if v34 = 0 then (
  rz (0 : Int32) h34) else (
  (gR 10 2 h34 a0).bind fun v43 =>
  (gI 10 16 h34 a0).bind fun v50 =>
  (sI h34 v43 (x1 + (1 : Int32)) v50).bind fun h53 =>
  b2 (mX10_after h53 a0 (4153 : Int64) (0 : Int32) (999 : Int32)) fun v62 h62 =>
  if v62 = 0 then (
  rz (0 : Int32) h62) else (
  (gR 10 2 h62 a0).bind fun v71 =>
  (gI 10 16 h62 a0).bind fun v78 =>
  (sI h62 v71 (x1 + (2 : Int32)) v78).bind fun h81 =>
  rz (1 : Int32) h81)))
def mX10_saleLine (h : PH) (a0 : Nat) : Option (Int32 × PH) :=
  oO h a0 10 <|
  (gR 10 2 h a0).bind fun v5 =>
  (aI 0 h v5 (3 : Int32)).bind fun v9 =>
  b2 (mX10_begins h a0 (3 : Int32) (10 : Int32)) fun v17 h17 =>
  if v17 = 0 then (
  rz (0 : Int32) h17) else (
  b2 (mX10_name h17 a0 (3 : Int32)) fun v25 h25 =>
  if v25 = 0 then (
  rz (0 : Int32) h25) else (
  b2 (mX10_known h25 a0 (1 : Int32)) fun v33 h33 =>
  if v33 = 0 then (
  rz (0 : Int32) h33) else (
  (gR 10 2 h33 a0).bind fun v42 =>
  (gI 10 16 h33 a0).bind fun v49 =>
  (sI h33 v42 (((56 : Int32) + ((12 : Int32) * v9)) + (0 : Int32)) v49).bind fun h52 =>
  b2 (mX10_known h52 a0 (0 : Int32)) fun v55 h55 =>
  if v55 = 0 then (
  rz (0 : Int32) h55) else (
  (gR 10 2 h55 a0).bind fun v64 =>
  (gI 10 16 h55 a0).bind fun v71 =>
  (sI h55 v64 (((56 : Int32) + ((12 : Int32) * v9)) + (1 : Int32)) v71).bind fun h74 =>
  b2 (mX10_isHere h74 a0 (0 : Int32)) fun v77 h77 =>
  if v77 = 0 then (
  rz (0 : Int32) h77) else (
  (gI 10 16 h77 a0).bind fun v86 =>
  (gR 10 2 h77 a0).bind fun v90 =>
  (aI 0 h77 v90 (((56 : Int32) + ((12 : Int32) * v9)) + (1 : Int32))).bind fun v96 =>
  if v86 = v96 then (
  b2 (mX10_bad h77 a0 (4 : Int32)) fun v102 h102 =>
  rz v102 h102) else (
  (gR 10 2 h77 a0).bind fun v107 =>
  (gI 10 16 h77 a0).bind fun v114 =>
  (sI h77 v107 (((56 : Int32) + ((12 : Int32) * v9)) + (2 : Int32)) v114).bind fun h117 =>
  (mX10_go h117 a0).bind fun h119 =>
  b2 (mX10_trade h119 a0 (((56 : Int32) + ((12 : Int32) * v9)) + (3 : Int32))) fun v126 h126 =>
  if v126 = 0 then (
  rz (0 : Int32) h126) else (
  b2 (mX10_extras h126 a0 ((56 : Int32) + ((12 : Int32) * v9))) fun v134 h134 =>
  if v134 = 0 then (
  rz (0 : Int32) h134) else (
  (gR 10 2 h134 a0).bind fun v143 =>
  (aI 0 h134 v143 (3 : Int32)).bind fun v148 =>
  (sI h134 v143 (3 : Int32) (v148 + (1 : Int32))).bind fun h151 =>
  rz (1 : Int32) h151))))))))
def mX10_resoldLine (h : PH) (a0 : Nat) : Option (Int32 × PH) :=
  oO h a0 10 <|
  (gR 10 2 h a0).bind fun v5 =>
  (aI 0 h v5 (4 : Int32)).bind fun v9 =>
  b2 (mX10_begins h a0 (4 : Int32) (12 : Int32)) fun v17 h17 =>
  if v17 = 0 then (
  rz (0 : Int32) h17) else (
  b2 (mX10_known h17 a0 (1 : Int32)) fun v25 h25 =>
  if v25 = 0 then (
  rz (0 : Int32) h25) else (
  (gR 10 2 h25 a0).bind fun v34 =>
  (gI 10 16 h25 a0).bind fun v41 =>
  (sI h25 v34 (((176 : Int32) + ((4 : Int32) * v9)) + (0 : Int32)) v41).bind fun h44 =>
  b2 (mX10_trade h44 a0 (((176 : Int32) + ((4 : Int32) * v9)) + (1 : Int32))) fun v49 h49 =>
  if v49 = 0 then (
  rz (0 : Int32) h49) else (
  (gR 10 2 h49 a0).bind fun v58 =>
  (aI 0 h49 v58 (4 : Int32)).bind fun v63 =>
  (sI h49 v58 (4 : Int32) (v63 + (1 : Int32))).bind fun h66 =>
  rz (1 : Int32) h66)))
def mX10_madeLine (h : PH) (a0 : Nat) : Option (Int32 × PH) :=
  oO h a0 10 <|
  (mX10_go h a0).bind fun h1 =>
  b2 (mX10_isHere h1 a0 (1 : Int32)) fun v6 h6 =>
  if v6 = 0 then (
  rz (0 : Int32) h6) else (
  (gI 10 16 h6 a0).bind fun v18 =>
  (gR 10 2 h6 a0).bind fun v25 =>
  (aI 0 h6 v25 (((24 : Int32) + ((4 : Int32) * v18)) + (2 : Int32))).bind fun v31 =>
  if v31 ≤ 0 then (
  (mX10_go h6 a0).bind fun h42 =>
  b2 (mX10_after h42 a0 (114292 : Int64) (1 : Int32) (9999 : Int32)) fun v53 h53 =>
  if v53 = 0 then (
  rz (0 : Int32) h53) else (
  (gR 10 2 h53 a0).bind fun v62 =>
  (gI 10 16 h53 a0).bind fun v69 =>
  (sI h53 v62 (((24 : Int32) + ((4 : Int32) * v18)) + (2 : Int32)) v69).bind fun h72 =>
  b2 (mX10_after h72 a0 (556243252 : Int64) (0 : Int32) (99 : Int32)) fun v80 h80 =>
  if v80 = 0 then (
  rz (0 : Int32) h80) else (
  (gR 10 2 h80 a0).bind fun v89 =>
  (gI 10 16 h80 a0).bind fun v96 =>
  (sI h80 v89 (((24 : Int32) + ((4 : Int32) * v18)) + (3 : Int32)) v96).bind fun h99 =>
  rz (1 : Int32) h99))) else (
  b2 (mX10_bad h6 a0 (2 : Int32)) fun v37 h37 =>
  rz v37 h37))
def mX10_bandLine_b36 (h : PH) (a0 : Nat) (x1 : Int32) (s0 : Int32) : Option (Int32 × PH) :=
  b2 (mX10_begins h a0 (5 : Int32) (4 : Int32)) fun v40 h40 =>
  if v40 = 0 then (
  rz (0 : Int32) h40) else (
  b2 (mX10_after h40 a0 (215533 : Int64) s0 (9999 : Int32)) fun v54 h54 =>
  if v54 = 0 then (
  rz (0 : Int32) h54) else (
  (gR 10 2 h54 a0).bind fun v63 =>
  (gI 10 16 h54 a0).bind fun v68 =>
  (sI h54 v63 x1 v68).bind fun h71 =>
  b2 (mX10_after h71 a0 (398963 : Int64) (0 : Int32) (90 : Int32)) fun v79 h79 =>
  if v79 = 0 then (
  rz (0 : Int32) h79) else (
  (gR 10 2 h79 a0).bind fun v88 =>
  (gI 10 16 h79 a0).bind fun v95 =>
  (sI h79 v88 (x1 + (1 : Int32)) v95).bind fun h98 =>
  (gR 10 2 h98 a0).bind fun v100 =>
  (aI 0 h98 v100 (5 : Int32)).bind fun v105 =>
  (sI h98 v100 (5 : Int32) (v105 + (1 : Int32))).bind fun h108 =>
  rz (1 : Int32) h108)))
def mX10_bandLine (h : PH) (a0 : Nat) : Option (Int32 × PH) :=
  oO h a0 10 <|
  (gR 10 2 h a0).bind fun v5 =>
  (aI 0 h v5 (5 : Int32)).bind fun v9 =>
  (gR 10 2 h a0).bind fun v14 =>
  (aI 0 h v14 (5 : Int32)).bind fun v18 =>
  if v18 = 0 then (
  mX10_bandLine_b36 h a0 ((224 : Int32) + ((2 : Int32) * v9)) (2 : Int32)) else (
  (gR 10 2 h a0).bind fun v27 =>
  (aI 0 h v27 (((224 : Int32) + ((2 : Int32) * v9)) - (2 : Int32))).bind fun v33 =>
  mX10_bandLine_b36 h a0 ((224 : Int32) + ((2 : Int32) * v9)) (v33 + (1 : Int32)))
def mX10_leastOf (h : PH) (x0 : Int32) : Option (Int32 × PH) :=
  if x0 = (7 : Int32) then (
  some ((1 : Int32), h)) else (
  some ((0 : Int32), h))
def mX10_mostOf (h : PH) (x0 : Int32) : Option (Int32 × PH) :=
  if x0 = (6 : Int32) then (
  some ((50 : Int32), h)) else (
  if x0 = (7 : Int32) then (
  some ((999 : Int32), h)) else (
  if x0 = (8 : Int32) then (
  some ((90 : Int32), h)) else (
  some ((99 : Int32), h))))
def mX10_ruleLine (h : PH) (a0 : Nat) (x1 : Int32) : Option (Int32 × PH) :=
  oO h a0 10 <|
  (gI 10 22 h a0).bind fun v1 =>
  b2 (mX10_has h v1 x1) fun v5 h5 =>
  if v5 = 0 then (
  (gI 10 22 h5 a0).bind fun v19 =>
  (pF 10 22 h5 a0 (.inl (v19 ||| ((1 : Int32) <<< (x1 &&& 31))))).bind fun h26 =>
  (mX10_go h26 a0).bind fun h30 =>
  b2 (mX10_leastOf h30 x1) fun v35 h35 =>
  b2 (mX10_mostOf h35 x1) fun v39 h39 =>
  b2 (mX10_number h39 a0 v35 v39) fun v42 h42 =>
  if v42 = 0 then (
  rz (0 : Int32) h42) else (
  (gR 10 2 h42 a0).bind fun v51 =>
  (gI 10 16 h42 a0).bind fun v56 =>
  (sI h42 v51 x1 v56).bind fun h59 =>
  rz (1 : Int32) h59)) else (
  b2 (mX10_bad h5 a0 (2 : Int32)) fun v13 h13 =>
  rz v13 h13)
def mX10_line_b181 (h : PH) (a0 : Nat) (s0 : Int32) : Option (Int32 × PH) :=
  if s0 = (-1 : Int32) then (
  b2 (mX10_bad h a0 (1 : Int32)) fun v189 h189 =>
  rz v189 h189) else (
  b2 (mX10_ruleLine h a0 s0) fun v197 h197 =>
  rz v197 h197)
def mX10_line (h : PH) (a0 : Nat) : Option (Int32 × PH) :=
  oO h a0 10 <|
  b2 (mX10_is h a0 (16829081 : Int64)) fun v4 h4 =>
  if v4 = 0 then (
  b2 (mX10_is h4 a0 (11566 : Int64)) fun v19 h19 =>
  if v19 = 0 then (
  b2 (mX10_is h19 a0 (245220 : Int64)) fun v34 h34 =>
  if v34 = 0 then (
  b2 (mX10_is h34 a0 (54109812 : Int64)) fun v49 h49 =>
  if v49 = 0 then (
  b2 (mX10_is h49 a0 (624005 : Int64)) fun v64 h64 =>
  if v64 = 0 then (
  b2 (mX10_is h64 a0 (609860996 : Int64)) fun v79 h79 =>
  if v79 = 0 then (
  b2 (mX10_is h79 a0 (427141 : Int64)) fun v94 h94 =>
  if v94 = 0 then (
  b2 (mX10_is h94 a0 (67012 : Int64)) fun v109 h109 =>
  if v109 = 0 then (
  b2 (mX10_is h109 a0 (463922 : Int64)) fun v124 h124 =>
  if v124 = 0 then (
  b2 (mX10_is h124 a0 (781652471 : Int64)) fun v139 h139 =>
  if v139 = 0 then (
  b2 (mX10_is h139 a0 (437853486 : Int64)) fun v154 h154 =>
  if v154 = 0 then (
  b2 (mX10_is h154 a0 (153241 : Int64)) fun v169 h169 =>
  if v169 = 0 then (
  mX10_line_b181 h169 a0 (-1 : Int32)) else (
  mX10_line_b181 h169 a0 (9 : Int32))) else (
  mX10_line_b181 h154 a0 (8 : Int32))) else (
  mX10_line_b181 h139 a0 (7 : Int32))) else (
  mX10_line_b181 h124 a0 (6 : Int32))) else (
  b2 (mX10_bandLine h109 a0) fun v116 h116 =>
  rz v116 h116)) else (
  b2 (mX10_madeLine h94 a0) fun v101 h101 =>
  rz v101 h101)) else (
  b2 (mX10_resoldLine h79 a0) fun v86 h86 =>
  rz v86 h86)) else (
  b2 (mX10_saleLine h64 a0) fun v71 h71 =>
  rz v71 h71)) else (
  b2 (mX10_assistLine h49 a0) fun v56 h56 =>
  rz v56 h56)) else (
  b2 (mX10_goodLine h34 a0) fun v41 h41 =>
  rz v41 h41)) else (
  b2 (mX10_kinLine h19 a0) fun v26 h26 =>
  rz v26 h26)) else (
  b2 (mX10_partyLine h4 a0) fun v11 h11 =>
  rz v11 h11)
def mX10_ends (h : PH) (a0 : Nat) : Option (Int32 × PH) :=
  oO h a0 10 <|
  (gI 10 12 h a0).bind fun v1 =>
  if v1 = (3 : Int32) then (
  (mX10_go h a0).bind fun h15 =>
  rz (1 : Int32) h15) else (
  b2 (mX10_bad h a0 (1 : Int32)) fun v10 h10 =>
  rz v10 h10)
def mX10_text_b85 (h : PH) (a0 : Nat) : Option (Int32 × PH) :=
  (gI 10 15 h a0).bind fun v88 =>
  some (((-2 : Int32) - v88), h)
def mX10_text_b114 (r114 : PH → Nat → Int32 → Int32 → Option (Int32 × PH)) (h : PH) (a0 : Nat) (x2 : Int32) (x3 : Int32) : Option (Int32 × PH) :=
  (gI 10 20 h a0).bind fun v116 =>
  if v116 ≤ x3 then (
  (pF 10 6 h a0 (.inl (0 : Int32))).bind fun h157 =>
  (gR 10 5 h157 a0).bind fun v161 =>
  (sB 3 .boolean h157 v161 (0 : Int32) (0 : Int32)).bind fun h166 =>
  (gR 10 5 h166 a0).bind fun v168 =>
  (sB 3 .boolean h166 v168 (1 : Int32) (0 : Int32)).bind fun h173 =>
  some (x2, h173)) else (
  (gR 10 18 h a0).bind fun v123 =>
  (aI 0 h v123 x3).bind fun v127 =>
  if v127 = (3 : Int32) then (
  (gR 10 21 h a0).bind fun v133 =>
  (gR 10 19 h a0).bind fun v137 =>
  (aI 0 h v137 x3).bind fun v141 =>
  (gR 10 17 h a0).bind fun v143 =>
  (aL h v143 x3).bind fun v147 =>
  (sL h v133 v141 v147).bind fun h148 =>
  r114 h148 a0 x2 (x3 + 1)) else (
  r114 h a0 x2 (x3 + 1)))
def mX10_text_L114 : Nat → PH → Nat → Int32 → Int32 → Option (Int32 × PH)
  | 0 => fun _ _ _ _ => none
  | n + 1 => mX10_text_b114 (mX10_text_L114 n)
def mX10_text_b64 (r64 : PH → Nat → Int32 → Option (Int32 × PH)) (h : PH) (a0 : Nat) (x2 : Int32) : Option (Int32 × PH) :=
  (gI 10 12 h a0).bind fun v65 =>
  if v65 = 0 then (
  (gR 10 2 h a0).bind fun v100 =>
  (gR 10 1 h a0).bind fun v105 =>
  (mX10_copies h v100 (0 : Int32) v105 (0 : Int32)).bind fun h109 =>
  mX10_text_L114 FU h109 a0 x2 (0 : Int32)) else (
  b2 (mX10_line h a0) fun v72 h72 =>
  if v72 = 0 then (
  mX10_text_b85 h72 a0) else (
  b2 (mX10_ends h72 a0) fun v79 h79 =>
  if v79 = 0 then (
  mX10_text_b85 h79 a0) else (
  r64 h79 a0 (x2 + 1))))
def mX10_text_L64 : Nat → PH → Nat → Int32 → Option (Int32 × PH)
  | 0 => fun _ _ _ => none
  | n + 1 => mX10_text_b64 (mX10_text_L64 n)
def mX10_text (h : PH) (a0 : Nat) (x1 : Int32) : Option (Int32 × PH) :=
  oO h a0 10 <|
  (pF 10 0 h a0 (.inl (0 : Int32))).bind fun h2 =>
  (gI 10 8 h2 a0).bind fun v9 =>
  b2 (mX10_within h2 (Int32.toInt64 x1) (0 : Int64) (Int32.toInt64 v9)) fun v13 h13 =>
  if v13 = 0 then (
  some ((-1 : Int32), h13)) else (
  (pF 10 9 h13 a0 (.inl x1)).bind fun h23 =>
  (pF 10 8 h23 a0 (.inl (0 : Int32))).bind fun h28 =>
  (pF 10 11 h28 a0 (.inl (0 : Int32))).bind fun h33 =>
  (pF 10 15 h33 a0 (.inl (0 : Int32))).bind fun h38 =>
  (pF 10 20 h38 a0 (.inl (0 : Int32))).bind fun h43 =>
  (pF 10 22 h43 a0 (.inl (0 : Int32))).bind fun h48 =>
  (gR 10 2 h48 a0).bind fun v52 =>
  (mX10_rules h48 v52).bind fun h55 =>
  (mX10_go h55 a0).bind fun h59 =>
  mX10_text_L64 FU h59 a0 (0 : Int32))
def mX10_isIn (h : PH) (x0 : Int32) (x1 : Int32) : Option (Int32 × PH) :=
  if x1 < 0 then (
  rz (0 : Int32) h) else (
  if x0 ≤ x1 then (
  rz (0 : Int32) h) else (
  rz (1 : Int32) h))
def mX10_count (h : PH) (a0 : Nat) (x1 : Int32) : Option (Int32 × PH) :=
  oO h a0 10 <|
  (pF 10 0 h a0 (.inl (0 : Int32))).bind fun h2 =>
  if x1 = (0 : Int32) then (
  (gR 10 1 h2 a0).bind fun v77 =>
  (aI 0 h2 v77 x1).bind fun v81 =>
  some (v81, h2)) else (
  if x1 = (1 : Int32) then (
  (gR 10 1 h2 a0).bind fun v77 =>
  (aI 0 h2 v77 x1).bind fun v81 =>
  some (v81, h2)) else (
  if x1 = (2 : Int32) then (
  (gR 10 1 h2 a0).bind fun v77 =>
  (aI 0 h2 v77 x1).bind fun v81 =>
  some (v81, h2)) else (
  if x1 = (3 : Int32) then (
  (gR 10 1 h2 a0).bind fun v77 =>
  (aI 0 h2 v77 x1).bind fun v81 =>
  some (v81, h2)) else (
  if x1 = (4 : Int32) then (
  (gR 10 1 h2 a0).bind fun v77 =>
  (aI 0 h2 v77 x1).bind fun v81 =>
  some (v81, h2)) else (
  if x1 = (5 : Int32) then (
  (gR 10 1 h2 a0).bind fun v77 =>
  (aI 0 h2 v77 x1).bind fun v81 =>
  some (v81, h2)) else (
  if x1 = (6 : Int32) then (
  (gR 10 1 h2 a0).bind fun v77 =>
  (aI 0 h2 v77 x1).bind fun v81 =>
  some (v81, h2)) else (
  if x1 = (7 : Int32) then (
  (gR 10 1 h2 a0).bind fun v77 =>
  (aI 0 h2 v77 x1).bind fun v81 =>
  some (v81, h2)) else (
  if x1 = (8 : Int32) then (
  (gR 10 1 h2 a0).bind fun v77 =>
  (aI 0 h2 v77 x1).bind fun v81 =>
  some (v81, h2)) else (
  if x1 = (9 : Int32) then (
  (gR 10 1 h2 a0).bind fun v77 =>
  (aI 0 h2 v77 x1).bind fun v81 =>
  some (v81, h2)) else (
  if x1 = (10 : Int32) then (
  (gR 10 1 h2 a0).bind fun v77 =>
  (aI 0 h2 v77 x1).bind fun v81 =>
  some (v81, h2)) else (
  if x1 = (11 : Int32) then (
  (gI 10 6 h2 a0).bind fun v84 =>
  some (v84, h2)) else (
  if x1 = (12 : Int32) then (
  (gI 10 8 h2 a0).bind fun v89 =>
  some (v89, h2)) else (
  if x1 = (13 : Int32) then (
  (gR 10 1 h2 a0).bind fun v94 =>
  (aI 0 h2 v94 (11 : Int32)).bind fun v99 =>
  some (v99, h2)) else (
  some ((-1 : Int32), h2)))))))))))))))
def mX10_isSale (h : PH) (a0 : Nat) (x1 : Int32) : Option (Int32 × PH) :=
  oO h a0 10 <|
  (gR 10 1 h a0).bind fun v1 =>
  (aI 0 h v1 (3 : Int32)).bind fun v5 =>
  b2 (mX10_isIn h v5 x1) fun v7 h7 =>
  rz v7 h7
def mX10_of (h : PH) (a0 : Nat) (x1 : Int32) (x2 : Int32) : Option (Int32 × PH) :=
  oO h a0 10 <|
  (gR 10 1 h a0).bind fun v1 =>
  (aI 0 h v1 (((56 : Int32) + ((12 : Int32) * x1)) + x2)).bind fun v13 =>
  some (v13, h)
def mX10_levelOf_b4 (r4 : PH → Nat → Int32 → Int32 → Int32 → Option (Int32 × PH)) (h : PH) (a0 : Nat) (x1 : Int32) (x2 : Int32) (x3 : Int32) : Option (Int32 × PH) :=
  (gR 10 1 h a0).bind fun v6 =>
  (aI 0 h v6 (5 : Int32)).bind fun v10 =>
  if v10 ≤ x3 then (
  some (x2, h)) else (
  b2 (mX10_of h a0 x1 (3 : Int32)) fun v17 h17 =>
  (gR 10 1 h17 a0).bind fun v21 =>
  (aI 0 h17 v21 ((224 : Int32) + ((2 : Int32) * x3))).bind fun v31 =>
  if v17 < v31 then (
  r4 h17 a0 x1 x2 (x3 + 1)) else (
  r4 h17 a0 x1 (x3 + (1 : Int32)) (x3 + 1)))
def mX10_levelOf_L4 : Nat → PH → Nat → Int32 → Int32 → Int32 → Option (Int32 × PH)
  | 0 => fun _ _ _ _ _ => none
  | n + 1 => mX10_levelOf_b4 (mX10_levelOf_L4 n)
def mX10_levelOf (h : PH) (a0 : Nat) (x1 : Int32) : Option (Int32 × PH) :=
  oO h a0 10 <|
  mX10_levelOf_L4 FU h a0 x1 (0 : Int32) (0 : Int32)
def mX10_lessOf (h : PH) (a0 : Nat) (x1 : Int32) : Option (Int32 × PH) :=
  oO h a0 10 <|
  b2 (mX10_levelOf h a0 x1) fun v2 h2 =>
  if v2 = 0 then (
  some ((0 : Int32), h2)) else (
  (gR 10 1 h2 a0).bind fun v15 =>
  (aI 0 h2 v15 (((224 : Int32) + ((2 : Int32) * v2)) - (1 : Int32))).bind fun v27 =>
  some (v27, h2))
def mX10_sale_b26 (h : PH) (a0 : Nat) (x1 : Int32) (x2 : Int32) (s0 : Nat) (s1 : Int32) : Option (Int32 × PH) :=
  (pF 10 0 h s0 (.inl s1)).bind fun h26 =>
  (gI 10 0 h26 a0).bind fun v30 =>
  if v30 = (1 : Int32) then (
  some ((0 : Int32), h26)) else (
  if x2 = (12 : Int32) then (
  b2 (mX10_levelOf h26 a0 x1) fun v47 h47 =>
  some (v47, h47)) else (
  b2 (mX10_of h26 a0 x1 x2) fun v56 h56 =>
  some (v56, h56)))
def mX10_sale_b25 (h : PH) (a0 : Nat) (x1 : Int32) (x2 : Int32) (s0 : Nat) : Option (Int32 × PH) :=
  mX10_sale_b26 h a0 x1 x2 s0 (1 : Int32)
def mX10_sale (h : PH) (a0 : Nat) (x1 : Int32) (x2 : Int32) : Option (Int32 × PH) :=
  oO h a0 10 <|
  b2 (mX10_isSale h a0 x1) fun v3 h3 =>
  if v3 = 0 then (
  mX10_sale_b25 h3 a0 x1 x2 a0) else (
  b2 (mX10_within h3 (Int32.toInt64 x2) (0 : Int64) (12 : Int64)) fun v15 h15 =>
  if v15 = 0 then (
  mX10_sale_b25 h15 a0 x1 x2 a0) else (
  mX10_sale_b26 h15 a0 x1 x2 a0 (0 : Int32)))
def mX10_resold (h : PH) (a0 : Nat) (x1 : Int32) (x2 : Int32) : Option (Int32 × PH) :=
  oO h a0 10 <|
  (pF 10 0 h a0 (.inl (0 : Int32))).bind fun h2 =>
  (gR 10 1 h2 a0).bind fun v6 =>
  (aI 0 h2 v6 (4 : Int32)).bind fun v10 =>
  b2 (mX10_isIn h2 v10 x1) fun v12 h12 =>
  if v12 = 0 then (
  some ((-1 : Int32), h12)) else (
  b2 (mX10_within h12 (Int32.toInt64 x2) (0 : Int64) (3 : Int64)) fun v24 h24 =>
  if v24 = 0 then (
  some ((-1 : Int32), h24)) else (
  (gR 10 1 h24 a0).bind fun v31 =>
  (aI 0 h24 v31 (((176 : Int32) + ((4 : Int32) * x1)) + x2)).bind fun v43 =>
  some (v43, h24)))
def mX10_areKin_b17 (r7 : PH → Nat → Int32 → Int32 → Int32 → Option (Int32 × PH)) (r17 : PH → Nat → Int32 → Int32 → Int32 → Int32 → Option (Int32 × PH)) (h : PH) (a0 : Nat) (x2 : Int32) (x3 : Int32) (x4 : Int32) (x5 : Int32) : Option (Int32 × PH) :=
  (gR 10 1 h a0).bind fun v20 =>
  (aI 0 h v20 (11 : Int32)).bind fun v25 =>
  if v25 ≤ x5 then (
  r7 h a0 x2 x3 (x4 + 1)) else (
  (gR 10 1 h a0).bind fun v31 =>
  (aI 0 h v31 ((12 : Int32) + ((2 : Int32) * x5))).bind fun v41 =>
  (gR 10 1 h a0).bind fun v45 =>
  (aI 0 h v45 (((12 : Int32) + ((2 : Int32) * x5)) + (1 : Int32))).bind fun v57 =>
  if (x3 &&& (((1 : Int32) <<< (v41 &&& 31)) ||| ((1 : Int32) <<< (v57 &&& 31)))) = 0 then (
  r17 h a0 x2 (x3 ||| (0 : Int32)) x4 (x5 + 1)) else (
  r17 h a0 x2 (x3 ||| (((1 : Int32) <<< (v41 &&& 31)) ||| ((1 : Int32) <<< (v57 &&& 31)))) x4 (x5 + 1)))
def mX10_areKin_L17 (r7 : PH → Nat → Int32 → Int32 → Int32 → Option (Int32 × PH)) : Nat → PH → Nat → Int32 → Int32 → Int32 → Int32 → Option (Int32 × PH)
  | 0 => fun _ _ _ _ _ _ => none
  | n + 1 => mX10_areKin_b17 r7 (mX10_areKin_L17 r7 n)
def mX10_areKin_b7 (r7 : PH → Nat → Int32 → Int32 → Int32 → Option (Int32 × PH)) (h : PH) (a0 : Nat) (x2 : Int32) (x3 : Int32) (x4 : Int32) : Option (Int32 × PH) :=
  if (6 : Int32) ≤ x4 then (
  b2 (mX10_has h x3 x2) fun v92 h92 =>
  rz v92 h92) else (
  mX10_areKin_L17 r7 FU h a0 x2 x3 x4 (0 : Int32))
def mX10_areKin_L7 : Nat → PH → Nat → Int32 → Int32 → Int32 → Option (Int32 × PH)
  | 0 => fun _ _ _ _ _ => none
  | n + 1 => mX10_areKin_b7 (mX10_areKin_L7 n)
def mX10_areKin (h : PH) (a0 : Nat) (x1 : Int32) (x2 : Int32) : Option (Int32 × PH) :=
  oO h a0 10 <|
  mX10_areKin_L7 FU h a0 x2 ((1 : Int32) <<< (x1 &&& 31)) (0 : Int32)
def mX10_kin_b31 (h : PH) : Option (Int32 × PH) :=
  some ((-1 : Int32), h)
def mX10_kin (h : PH) (a0 : Nat) (x1 : Int32) (x2 : Int32) : Option (Int32 × PH) :=
  oO h a0 10 <|
  (pF 10 0 h a0 (.inl (0 : Int32))).bind fun h2 =>
  (gR 10 1 h2 a0).bind fun v6 =>
  (aI 0 h2 v6 (0 : Int32)).bind fun v10 =>
  b2 (mX10_isIn h2 v10 x1) fun v12 h12 =>
  if v12 = 0 then (
  mX10_kin_b31 h12) else (
  (gR 10 1 h12 a0).bind fun v19 =>
  (aI 0 h12 v19 (0 : Int32)).bind fun v23 =>
  b2 (mX10_isIn h12 v23 x2) fun v25 h25 =>
  if v25 = 0 then (
  mX10_kin_b31 h25) else (
  b2 (mX10_areKin h25 a0 x1 x2) fun v38 h38 =>
  if v38 = 0 then (
  some ((0 : Int32), h38)) else (
  some ((1 : Int32), h38))))
def mX10_good (h : PH) (a0 : Nat) (x1 : Int32) (x2 : Int32) : Option (Int32 × PH) :=
  oO h a0 10 <|
  (gR 10 1 h a0).bind fun v1 =>
  (aI 0 h v1 (((24 : Int32) + ((4 : Int32) * x1)) + x2)).bind fun v12 =>
  some (v12, h)
def mX10_likeness (h : PH) (a0 : Nat) (x1 : Int32) (x2 : Int32) : Option (Int32 × PH) :=
  oO h a0 10 <|
  if x1 = x2 then (
  some ((1 : Int32), h)) else (
  b2 (mX10_good h a0 x1 (0 : Int32)) fun v12 h12 =>
  b2 (mX10_good h12 a0 x2 (0 : Int32)) fun v18 h18 =>
  if v12 = v18 then (
  b2 (mX10_good h18 a0 x1 (1 : Int32)) fun v27 h27 =>
  b2 (mX10_good h27 a0 x2 (1 : Int32)) fun v33 h33 =>
  if v27 = v33 then (
  some ((2 : Int32), h33)) else (
  some ((0 : Int32), h33))) else (
  some ((0 : Int32), h18)))
def mX10_like (h : PH) (a0 : Nat) (x1 : Int32) (x2 : Int32) : Option (Int32 × PH) :=
  oO h a0 10 <|
  (pF 10 0 h a0 (.inl (0 : Int32))).bind fun h2 =>
  (gR 10 1 h2 a0).bind fun v6 =>
  (aI 0 h2 v6 (1 : Int32)).bind fun v10 =>
  b2 (mX10_isIn h2 v10 x1) fun v12 h12 =>
  if v12 = 0 then (
  some ((-1 : Int32), h12)) else (
  (gR 10 1 h12 a0).bind fun v19 =>
  (aI 0 h12 v19 (1 : Int32)).bind fun v23 =>
  b2 (mX10_isIn h12 v23 x2) fun v25 h25 =>
  if v25 = 0 then (
  some ((-1 : Int32), h25)) else (
  b2 (mX10_likeness h25 a0 x1 x2) fun v34 h34 =>
  some (v34, h34)))
def mX10_band (h : PH) (a0 : Nat) (x1 : Int32) (x2 : Int32) : Option (Int32 × PH) :=
  oO h a0 10 <|
  (pF 10 0 h a0 (.inl (0 : Int32))).bind fun h2 =>
  (gR 10 1 h2 a0).bind fun v6 =>
  (aI 0 h2 v6 (5 : Int32)).bind fun v10 =>
  b2 (mX10_isIn h2 v10 x1) fun v12 h12 =>
  if v12 = 0 then (
  some ((-1 : Int32), h12)) else (
  b2 (mX10_within h12 (Int32.toInt64 x2) (0 : Int64) (1 : Int64)) fun v22 h22 =>
  if v22 = 0 then (
  some ((-1 : Int32), h22)) else (
  (gR 10 1 h22 a0).bind fun v29 =>
  (aI 0 h22 v29 (((224 : Int32) + ((2 : Int32) * x1)) + x2)).bind fun v41 =>
  some (v41, h22)))
def mX10_isThere (h : PH) (a0 : Nat) (x1 : Int32) : Option (Int32 × PH) :=
  oO h a0 10 <|
  (gI 10 23 h a0).bind fun v2 =>
  if x1 = v2 then (
  rz (0 : Int32) h) else (
  rz (1 : Int32) h)
def mX10_assistOf (h : PH) (a0 : Nat) (x1 : Int32) (x2 : Int32) : Option (Int32 × PH) :=
  oO h a0 10 <|
  (gR 10 1 h a0).bind fun v1 =>
  (aI 0 h v1 (((48 : Int32) + ((2 : Int32) * x1)) + x2)).bind fun v12 =>
  some (v12, h)
def mX10_uses (h : PH) (a0 : Nat) (x1 : Int32) (x2 : Int32) : Option (Int32 × PH) :=
  oO h a0 10 <|
  b2 (mX10_isThere h a0 x1) fun v2 h2 =>
  if v2 = 0 then (
  rz (0 : Int32) h2) else (
  b2 (mX10_of h2 a0 x1 (11 : Int32)) fun v12 h12 =>
  b2 (mX10_has h12 v12 x2) fun v16 h16 =>
  if v16 = 0 then (
  rz (0 : Int32) h16) else (
  rz (1 : Int32) h16))
def mX10_looksAhead_b62 (r12 : PH → Nat → Int32 → Int32 → Int32 → Option (PH)) (h : PH) (a0 : Nat) (x1 : Int32) (x2 : Int32) (x3 : Int32) (s0 : Int32) : Option (PH) :=
  if s0 = 0 then (
  r12 h a0 x1 x2 (x3 + 1)) else (
  b2 (mX10_uses h a0 x3 x1) fun v72 h72 =>
  if v72 = 0 then (
  r12 h72 a0 x1 x2 (x3 + 1)) else (
  (gI 10 24 h72 a0).bind fun v80 =>
  b2 (mX10_of h72 a0 x3 (3 : Int32)) fun v86 h86 =>
  (pF 10 24 h86 a0 (.inl (v80 + v86))).bind fun h90 =>
  (gI 10 25 h90 a0).bind fun v95 =>
  (pF 10 25 h90 a0 (.inl (v95 + (1 : Int32)))).bind fun h100 =>
  r12 h100 a0 x1 x2 (x3 + 1)))
def mX10_looksAhead_b57 (r12 : PH → Nat → Int32 → Int32 → Int32 → Option (PH)) (h : PH) (a0 : Nat) (x1 : Int32) (x2 : Int32) (x3 : Int32) : Option (PH) :=
  mX10_looksAhead_b62 r12 h a0 x1 x2 x3 (1 : Int32)
def mX10_looksAhead_b61 (r12 : PH → Nat → Int32 → Int32 → Int32 → Option (PH)) (h : PH) (a0 : Nat) (x1 : Int32) (x2 : Int32) (x3 : Int32) : Option (PH) :=
  mX10_looksAhead_b62 r12 h a0 x1 x2 x3 (0 : Int32)
def mX10_looksAhead_b12 (r12 : PH → Nat → Int32 → Int32 → Int32 → Option (PH)) (h : PH) (a0 : Nat) (x1 : Int32) (x2 : Int32) (x3 : Int32) : Option (PH) :=
  (gR 10 1 h a0).bind fun v14 =>
  (aI 0 h v14 (3 : Int32)).bind fun v18 =>
  if v18 ≤ x3 then (
  some h) else (
  b2 (mX10_of h a0 x3 (5 : Int32)) fun v25 h25 =>
  b2 (mX10_of h25 a0 x2 (5 : Int32)) fun v31 h31 =>
  if v25 < v31 then (
  mX10_looksAhead_b57 r12 h31 a0 x1 x2 x3) else (
  b2 (mX10_of h31 a0 x3 (5 : Int32)) fun v40 h40 =>
  b2 (mX10_of h40 a0 x2 (5 : Int32)) fun v46 h46 =>
  if v40 = v46 then (
  if x2 ≤ x3 then (
  mX10_looksAhead_b61 r12 h46 a0 x1 x2 x3) else (
  mX10_looksAhead_b57 r12 h46 a0 x1 x2 x3)) else (
  mX10_looksAhead_b61 r12 h46 a0 x1 x2 x3)))
def mX10_looksAhead_L12 : Nat → PH → Nat → Int32 → Int32 → Int32 → Option (PH)
  | 0 => fun _ _ _ _ _ => none
  | n + 1 => mX10_looksAhead_b12 (mX10_looksAhead_L12 n)
def mX10_looksAhead (h : PH) (a0 : Nat) (x1 : Int32) (x2 : Int32) : Option (PH) :=
  oO h a0 10 <|
  (pF 10 24 h a0 (.inl (0 : Int32))).bind fun h2 =>
  (pF 10 25 h2 a0 (.inl (0 : Int32))).bind fun h7 =>
  mX10_looksAhead_L12 FU h7 a0 x1 x2 (0 : Int32)
def mX10_shareOf_b68 (h : PH) (a0 : Nat) (x2 : Int32) (x3 : Int32) (x4 : Int32) (s0 : Int32) : Option (Int32 × PH) :=
  b2 (mX10_of h a0 x2 (3 : Int32)) fun v75 h75 =>
  if v75 ≤ s0 then (
  b2 (mX10_of h75 a0 x2 (3 : Int32)) fun v89 h89 =>
  dz (x3 = 0) <|
  some (((x4 * v89) / x3), h89)) else (
  dz (x3 = 0) <|
  some (((x4 * s0) / x3), h75))
def mX10_shareOf (h : PH) (a0 : Nat) (x1 : Int32) (x2 : Int32) : Option (Int32 × PH) :=
  oO h a0 10 <|
  b2 (mX10_uses h a0 x2 x1) fun v3 h3 =>
  if v3 = 0 then (
  some ((0 : Int32), h3)) else (
  (mX10_looksAhead h3 a0 x1 x2).bind fun h14 =>
  b2 (mX10_assistOf h14 a0 x1 (1 : Int32)) fun v20 h20 =>
  b2 (mX10_assistOf h20 a0 x1 (0 : Int32)) fun v27 h27 =>
  if v20 = 0 then (
  (gI 10 25 h27 a0).bind fun v37 =>
  if v37 = 0 then (
  some (v27, h27)) else (
  some ((0 : Int32), h27))) else (
  (gI 10 24 h27 a0).bind fun v52 =>
  if v20 ≤ v52 then (
  mX10_shareOf_b68 h27 a0 x2 v20 v27 (0 : Int32)) else (
  (gI 10 24 h27 a0).bind fun v60 =>
  mX10_shareOf_b68 h27 a0 x2 v20 v27 (v20 - v60))))
def mX10_sharesOf_b4 (r4 : PH → Nat → Int32 → Int32 → Int32 → Option (Int32 × PH)) (h : PH) (a0 : Nat) (x1 : Int32) (x2 : Int32) (x3 : Int32) : Option (Int32 × PH) :=
  (gR 10 1 h a0).bind fun v6 =>
  (aI 0 h v6 (2 : Int32)).bind fun v10 =>
  if v10 ≤ x3 then (
  some (x2, h)) else (
  b2 (mX10_shareOf h a0 x3 x1) fun v18 h18 =>
  r4 h18 a0 x1 (x2 + v18) (x3 + 1))
def mX10_sharesOf_L4 : Nat → PH → Nat → Int32 → Int32 → Int32 → Option (Int32 × PH)
  | 0 => fun _ _ _ _ _ => none
  | n + 1 => mX10_sharesOf_b4 (mX10_sharesOf_L4 n)
def mX10_sharesOf (h : PH) (a0 : Nat) (x1 : Int32) : Option (Int32 × PH) :=
  oO h a0 10 <|
  mX10_sharesOf_L4 FU h a0 x1 (0 : Int32) (0 : Int32)
def mX10_assist (h : PH) (a0 : Nat) (x1 : Int32) (x2 : Int32) : Option (Int32 × PH) :=
  oO h a0 10 <|
  (pF 10 0 h a0 (.inl (0 : Int32))).bind fun h2 =>
  (gR 10 1 h2 a0).bind fun v6 =>
  (aI 0 h2 v6 (2 : Int32)).bind fun v10 =>
  b2 (mX10_isIn h2 v10 x1) fun v12 h12 =>
  if v12 = 0 then (
  some ((-1 : Int32), h12)) else (
  b2 (mX10_within h12 (Int32.toInt64 x2) (0 : Int64) (1 : Int64)) fun v22 h22 =>
  if v22 = 0 then (
  some ((-1 : Int32), h22)) else (
  b2 (mX10_assistOf h22 a0 x1 x2) fun v31 h31 =>
  some (v31, h31)))
def mX10_share (h : PH) (a0 : Nat) (x1 : Int32) (x2 : Int32) : Option (Int32 × PH) :=
  oO h a0 10 <|
  (pF 10 0 h a0 (.inl (0 : Int32))).bind fun h2 =>
  (gR 10 1 h2 a0).bind fun v6 =>
  (aI 0 h2 v6 (2 : Int32)).bind fun v10 =>
  b2 (mX10_isIn h2 v10 x1) fun v12 h12 =>
  if v12 = 0 then (
  some ((-1 : Int32), h12)) else (
  b2 (mX10_isSale h12 a0 x2) fun v20 h20 =>
  if v20 = 0 then (
  some ((-1 : Int32), h20)) else (
  b2 (mX10_shareOf h20 a0 x1 x2) fun v29 h29 =>
  some (v29, h29)))
def mX10_rest_b29 (r29 : PH → Nat → Int32 → Int32 → Int32 → Option (Int32 × PH)) (h : PH) (a0 : Nat) (x1 : Int32) (x2 : Int32) (x3 : Int32) : Option (Int32 × PH) :=
  (gR 10 1 h a0).bind fun v31 =>
  (aI 0 h v31 (3 : Int32)).bind fun v35 =>
  if v35 ≤ x3 then (
  some (x2, h)) else (
  b2 (mX10_shareOf h a0 x1 x3) fun v43 h43 =>
  r29 h43 a0 x1 (x2 - v43) (x3 + 1))
def mX10_rest_L29 : Nat → PH → Nat → Int32 → Int32 → Int32 → Option (Int32 × PH)
  | 0 => fun _ _ _ _ _ => none
  | n + 1 => mX10_rest_b29 (mX10_rest_L29 n)
def mX10_rest (h : PH) (a0 : Nat) (x1 : Int32) : Option (Int32 × PH) :=
  oO h a0 10 <|
  (pF 10 0 h a0 (.inl (0 : Int32))).bind fun h2 =>
  (gR 10 1 h2 a0).bind fun v6 =>
  (aI 0 h2 v6 (2 : Int32)).bind fun v10 =>
  b2 (mX10_isIn h2 v10 x1) fun v12 h12 =>
  if v12 = 0 then (
  some ((-1 : Int32), h12)) else (
  b2 (mX10_assistOf h12 a0 x1 (0 : Int32)) fun v23 h23 =>
  mX10_rest_L29 FU h23 a0 x1 v23 (0 : Int32))
def mX10_ownAt (h : PH) (a0 : Nat) (x1 : Int32) (x2 : Int32) : Option (Int64 × PH) :=
  oO h a0 10 <|
  b2 (mX10_of h a0 x1 (3 : Int32)) fun v5 h5 =>
  b2 (mX10_of h5 a0 x1 (7 : Int32)) fun v17 h17 =>
  b2 (mX10_of h17 a0 x1 (8 : Int32)) fun v31 h31 =>
  b2 (mX10_of h31 a0 x1 (9 : Int32)) fun v40 h40 =>
  b2 (mX10_of h40 a0 x1 (10 : Int32)) fun v49 h49 =>
  b2 (mX10_sharesOf h49 a0 x1) fun v56 h56 =>
  some ((((((((Int32.toInt64 x2) * (Int32.toInt64 v5)) + ((((Int32.toInt64 x2) * (Int32.toInt64 v5)) * (Int32.toInt64 v17)) / (100 : Int64))) + (Int32.toInt64 v31)) + (Int32.toInt64 v40)) + (Int32.toInt64 v49)) + (Int32.toInt64 v56)), h56)
def mX10_ownOf (h : PH) (a0 : Nat) (x1 : Int32) : Option (Int64 × PH) :=
  oO h a0 10 <|
  b2 (mX10_of h a0 x1 (4 : Int32)) fun v5 h5 =>
  b2 (mX10_ownAt h5 a0 x1 v5) fun v8 h8 =>
  some (v8, h8)
def mX10_own (h : PH) (a0 : Nat) (x1 : Int32) : Option (Int64 × PH) :=
  oO h a0 10 <|
  (pF 10 0 h a0 (.inl (0 : Int32))).bind fun h2 =>
  b2 (mX10_isSale h2 a0 x1) fun v7 h7 =>
  if v7 = 0 then (
  some ((-1 : Int64), h7)) else (
  b2 (mX10_ownOf h7 a0 x1) fun v15 h15 =>
  some (v15, h15))
def mX10_isBetweenKin (h : PH) (a0 : Nat) (x1 : Int32) : Option (Int32 × PH) :=
  oO h a0 10 <|
  b2 (mX10_of h a0 x1 (1 : Int32)) fun v4 h4 =>
  b2 (mX10_of h4 a0 x1 (2 : Int32)) fun v10 h10 =>
  b2 (mX10_areKin h10 a0 v4 v10) fun v13 h13 =>
  rz v13 h13
def mX10_isNearDay (h : PH) (a0 : Nat) (x1 : Int32) (x2 : Int32) : Option (Int32 × PH) :=
  oO h a0 10 <|
  b2 (mX10_of h a0 x1 (5 : Int32)) fun v3 h3 =>
  b2 (mX10_of h3 a0 x2 (5 : Int32)) fun v9 h9 =>
  (gR 10 1 h9 a0).bind fun v16 =>
  (aI 0 h9 v16 (7 : Int32)).bind fun v21 =>
  if v21 < (v3 - v9) then (
  rz (0 : Int32) h9) else (
  (gR 10 1 h9 a0).bind fun v28 =>
  (aI 0 h9 v28 (7 : Int32)).bind fun v33 =>
  if v33 < (-(v3 - v9)) then (
  rz (0 : Int32) h9) else (
  rz (1 : Int32) h9))
def mX10_likeSales (h : PH) (a0 : Nat) (x1 : Int32) (x2 : Int32) : Option (Int32 × PH) :=
  oO h a0 10 <|
  b2 (mX10_of h a0 x1 (0 : Int32)) fun v4 h4 =>
  b2 (mX10_of h4 a0 x2 (0 : Int32)) fun v10 h10 =>
  b2 (mX10_likeness h10 a0 v4 v10) fun v13 h13 =>
  some (v13, h13)
def mX10_brought (h : PH) (a0 : Nat) (x1 : Int32) (x2 : Int32) : Option (Int64 × PH) :=
  oO h a0 10 <|
  b2 (mX10_ownOf h a0 x2) fun v2 h2 =>
  b2 (mX10_of h2 a0 x1 (3 : Int32)) fun v8 h8 =>
  b2 (mX10_lessOf h8 a0 x1) fun v17 h17 =>
  b2 (mX10_of h17 a0 x2 (3 : Int32)) fun v26 h26 =>
  b2 (mX10_lessOf h26 a0 x2) fun v34 h34 =>
  dz (((Int32.toInt64 v26) * (Int32.toInt64 ((100 : Int32) - v34))) = 0) <|
  some ((((v2 * (Int32.toInt64 v8)) * (Int32.toInt64 ((100 : Int32) - v17))) / ((Int32.toInt64 v26) * (Int32.toInt64 ((100 : Int32) - v34)))), h34)
def mX10_adds (h : PH) (a0 : Nat) (x1 : Int64) : Option (PH) :=
  oO h a0 10 <|
  if x1 < (0 : Int64) then (
  some h) else (
  (gR 10 26 h a0).bind fun v7 =>
  (gI 10 27 h a0).bind fun v11 =>
  (sL h v7 v11 x1).bind fun h15 =>
  (gI 10 27 h15 a0).bind fun v18 =>
  (pF 10 27 h15 a0 (.inl (v18 + (1 : Int32)))).bind fun h23 =>
  some h23)
def mX10_row (h : PH) (a0 : Nat) (x1 : Int32) (x2 : Int32) : Option (Int32 × PH) :=
  oO h a0 10 <|
  (gR 10 1 h a0).bind fun v1 =>
  (aI 0 h v1 (((176 : Int32) + ((4 : Int32) * x1)) + x2)).bind fun v13 =>
  some (v13, h)
def mX10_isRowFor (h : PH) (a0 : Nat) (x1 : Int32) (x2 : Int32) (x3 : Int32) : Option (Int32 × PH) :=
  oO h a0 10 <|
  b2 (mX10_row h a0 x2 (3 : Int32)) fun v3 h3 =>
  b2 (mX10_of h3 a0 x1 (5 : Int32)) fun v9 h9 =>
  b2 (mX10_of h9 a0 x1 (0 : Int32)) fun v19 h19 =>
  b2 (mX10_row h19 a0 x2 (0 : Int32)) fun v25 h25 =>
  b2 (mX10_likeness h25 a0 v19 v25) fun v28 h28 =>
  if v28 = x3 then (
  if (v3 - v9) < 0 then (
  rz (0 : Int32) h28) else (
  (gR 10 1 h28 a0).bind fun v44 =>
  (aI 0 h28 v44 (7 : Int32)).bind fun v49 =>
  if ((3 : Int32) * v49) < (v3 - v9) then (
  rz (0 : Int32) h28) else (
  rz (1 : Int32) h28))) else (
  rz (0 : Int32) h28)
def mX10_piecesAt_b6 (r6 : PH → Nat → Int32 → Int32 → Int32 → Int32 → Int32 → Option (Int32 × PH)) (h : PH) (a0 : Nat) (x1 : Int32) (x2 : Int32) (x3 : Int32) (x4 : Int32) (x5 : Int32) : Option (Int32 × PH) :=
  (gR 10 1 h a0).bind fun v9 =>
  (aI 0 h v9 (4 : Int32)).bind fun v13 =>
  if v13 ≤ x5 then (
  some (x4, h)) else (
  b2 (mX10_isRowFor h a0 x1 x5 x3) fun v24 h24 =>
  if v24 = 0 then (
  r6 h24 a0 x1 x2 x3 (x4 + (0 : Int32)) (x5 + 1)) else (
  b2 (mX10_row h24 a0 x5 (2 : Int32)) fun v34 h34 =>
  if v34 = x2 then (
  b2 (mX10_row h34 a0 x5 (1 : Int32)) fun v45 h45 =>
  r6 h45 a0 x1 x2 x3 (x4 + v45) (x5 + 1)) else (
  r6 h34 a0 x1 x2 x3 (x4 + (0 : Int32)) (x5 + 1))))
def mX10_piecesAt_L6 : Nat → PH → Nat → Int32 → Int32 → Int32 → Int32 → Int32 → Option (Int32 × PH)
  | 0 => fun _ _ _ _ _ _ _ => none
  | n + 1 => mX10_piecesAt_b6 (mX10_piecesAt_L6 n)
def mX10_piecesAt (h : PH) (a0 : Nat) (x1 : Int32) (x2 : Int32) (x3 : Int32) : Option (Int32 × PH) :=
  oO h a0 10 <|
  mX10_piecesAt_L6 FU h a0 x1 x2 x3 (0 : Int32) (0 : Int32)
def mX10_bestPrice_b8 (r8 : PH → Nat → Int32 → Int32 → Int32 → Int32 → Int32 → Option (Int32 × PH)) (h : PH) (a0 : Nat) (x1 : Int32) (x2 : Int32) (x3 : Int32) (x4 : Int32) (x5 : Int32) : Option (Int32 × PH) :=
  (gR 10 1 h a0).bind fun v11 =>
  (aI 0 h v11 (4 : Int32)).bind fun v15 =>
  if v15 ≤ x5 then (
  some (x3, h)) else (
  b2 (mX10_isRowFor h a0 x1 x5 x2) fun v24 h24 =>
  if v24 = 0 then (
  r8 h24 a0 x1 x2 x3 x4 (x5 + 1)) else (
  b2 (mX10_row h24 a0 x5 (2 : Int32)) fun v37 h37 =>
  b2 (mX10_piecesAt h37 a0 x1 v37 x2) fun v47 h47 =>
  if x3 = (-1 : Int32) then (
  r8 h47 a0 x1 x2 v37 v47 (x5 + 1)) else (
  if x4 < v47 then (
  r8 h47 a0 x1 x2 v37 v47 (x5 + 1)) else (
  if v47 = x4 then (
  if x3 ≤ v37 then (
  r8 h47 a0 x1 x2 x3 x4 (x5 + 1)) else (
  r8 h47 a0 x1 x2 v37 v47 (x5 + 1))) else (
  r8 h47 a0 x1 x2 x3 x4 (x5 + 1))))))
def mX10_bestPrice_L8 : Nat → PH → Nat → Int32 → Int32 → Int32 → Int32 → Int32 → Option (Int32 × PH)
  | 0 => fun _ _ _ _ _ _ _ => none
  | n + 1 => mX10_bestPrice_b8 (mX10_bestPrice_L8 n)
def mX10_bestPrice (h : PH) (a0 : Nat) (x1 : Int32) (x2 : Int32) : Option (Int32 × PH) :=
  oO h a0 10 <|
  mX10_bestPrice_L8 FU h a0 x1 x2 (-1 : Int32) (0 : Int32) (0 : Int32)
def mX10_fails (h : PH) (x0 : Int32) : Option (Int64 × PH) :=
  some ((Int32.toInt64 ((-2 : Int32) - x0)), h)
def mX10_byResold_b22 (h : PH) (a0 : Nat) (x1 : Int32) (s0 : Int32) : Option (Int64 × PH) :=
  (pF 10 28 h a0 (.inl s0)).bind fun h25 =>
  if s0 = (-1 : Int32) then (
  b2 (mX10_fails h25 (41 : Int32)) fun v35 h35 =>
  some (v35, h35)) else (
  b2 (mX10_of h25 a0 x1 (3 : Int32)) fun v44 h44 =>
  (gR 10 1 h44 a0).bind fun v54 =>
  (aI 0 h44 v54 (8 : Int32)).bind fun v59 =>
  (gR 10 1 h44 a0).bind fun v66 =>
  (aI 0 h44 v66 (9 : Int32)).bind fun v71 =>
  dz ((Int32.toInt64 ((100 : Int32) + v71)) = 0) <|
  some (((((Int32.toInt64 v44) * (Int32.toInt64 s0)) * (Int32.toInt64 ((100 : Int32) - v59))) / (Int32.toInt64 ((100 : Int32) + v71))), h44))
def mX10_byResold (h : PH) (a0 : Nat) (x1 : Int32) : Option (Int64 × PH) :=
  oO h a0 10 <|
  b2 (mX10_bestPrice h a0 x1 (1 : Int32)) fun v3 h3 =>
  if v3 = (-1 : Int32) then (
  b2 (mX10_bestPrice h3 a0 x1 (2 : Int32)) fun v15 h15 =>
  mX10_byResold_b22 h15 a0 x1 v15) else (
  mX10_byResold_b22 h3 a0 x1 v3)
def mX10_byMaking (h : PH) (a0 : Nat) (x1 : Int32) : Option (Int64 × PH) :=
  oO h a0 10 <|
  b2 (mX10_of h a0 x1 (0 : Int32)) fun v4 h4 =>
  b2 (mX10_good h4 a0 v4 (2 : Int32)) fun v8 h8 =>
  if v8 = 0 then (
  b2 (mX10_fails h8 (51 : Int32)) fun v18 h18 =>
  some (v18, h18)) else (
  b2 (mX10_of h8 a0 x1 (3 : Int32)) fun v25 h25 =>
  b2 (mX10_of h25 a0 x1 (0 : Int32)) fun v38 h38 =>
  b2 (mX10_good h38 a0 v38 (3 : Int32)) fun v42 h42 =>
  b2 (mX10_of h42 a0 x1 (9 : Int32)) fun v56 h56 =>
  b2 (mX10_of h56 a0 x1 (10 : Int32)) fun v65 h65 =>
  b2 (mX10_sharesOf h65 a0 x1) fun v72 h72 =>
  some ((((((((Int32.toInt64 v25) * (Int32.toInt64 v8)) * (Int32.toInt64 ((100 : Int32) + v42))) / (100 : Int64)) + (Int32.toInt64 v56)) + (Int32.toInt64 v65)) + (Int32.toInt64 v72)), h72))
def mX10_laysTests_b7 (r7 : PH → Nat → Int32 → Int32 → Option (PH)) (h : PH) (a0 : Nat) (x1 : Int32) (x2 : Int32) : Option (PH) :=
  (gR 10 1 h a0).bind fun v9 =>
  (aI 0 h v9 (3 : Int32)).bind fun v13 =>
  if v13 ≤ x2 then (
  b2 (mX10_byResold h a0 x1) fun v85 h85 =>
  (mX10_adds h85 a0 v85).bind fun h88 =>
  b2 (mX10_byMaking h88 a0 x1) fun v94 h94 =>
  (mX10_adds h94 a0 v94).bind fun h97 =>
  some h97) else (
  if x2 = x1 then (
  r7 h a0 x1 (x2 + 1)) else (
  b2 (mX10_isThere h a0 x2) fun v24 h24 =>
  if v24 = 0 then (
  r7 h24 a0 x1 (x2 + 1)) else (
  b2 (mX10_of h24 a0 x2 (6 : Int32)) fun v34 h34 =>
  if v34 = 0 then (
  b2 (mX10_isBetweenKin h34 a0 x2) fun v42 h42 =>
  if v42 = 0 then (
  b2 (mX10_likeSales h42 a0 x1 x2) fun v51 h51 =>
  if v51 ≤ 0 then (
  r7 h51 a0 x1 (x2 + 1)) else (
  b2 (mX10_isNearDay h51 a0 x1 x2) fun v60 h60 =>
  if v60 = 0 then (
  r7 h60 a0 x1 (x2 + 1)) else (
  b2 (mX10_brought h60 a0 x1 x2) fun v70 h70 =>
  (mX10_adds h70 a0 v70).bind fun h73 =>
  r7 h73 a0 x1 (x2 + 1)))) else (
  r7 h42 a0 x1 (x2 + 1))) else (
  r7 h34 a0 x1 (x2 + 1)))))
def mX10_laysTests_L7 : Nat → PH → Nat → Int32 → Int32 → Option (PH)
  | 0 => fun _ _ _ _ => none
  | n + 1 => mX10_laysTests_b7 (mX10_laysTests_L7 n)
def mX10_laysTests (h : PH) (a0 : Nat) (x1 : Int32) : Option (PH) :=
  oO h a0 10 <|
  (pF 10 27 h a0 (.inl (0 : Int32))).bind fun h2 =>
  mX10_laysTests_L7 FU h2 a0 x1 (0 : Int32)
def mX10_isNear_b45 (r3 : PH → Nat → Int64 → Int32 → Int32 → Option (Int32 × PH)) (h : PH) (a0 : Nat) (x1 : Int64) (x3 : Int32) (x4 : Int32) (s0 : Int64) : Option (Int32 × PH) :=
  (gR 10 26 h a0).bind fun v56 =>
  (aL h v56 x4).bind fun v61 =>
  if ((Int32.toInt64 x3) * v61) < ((100 : Int64) * s0) then (
  r3 h a0 x1 x3 (x4 + 1)) else (
  rz (1 : Int32) h)
def mX10_isNear_b3 (r3 : PH → Nat → Int64 → Int32 → Int32 → Option (Int32 × PH)) (h : PH) (a0 : Nat) (x1 : Int64) (x3 : Int32) (x4 : Int32) : Option (Int32 × PH) :=
  (gI 10 27 h a0).bind fun v6 =>
  if v6 ≤ x4 then (
  rz (0 : Int32) h) else (
  (gR 10 26 h a0).bind fun v14 =>
  (aL h v14 x4).bind fun v19 =>
  if x1 ≤ v19 then (
  (gR 10 26 h a0).bind fun v37 =>
  (aL h v37 x4).bind fun v42 =>
  mX10_isNear_b45 r3 h a0 x1 x3 x4 (v42 - x1)) else (
  (gR 10 26 h a0).bind fun v26 =>
  (aL h v26 x4).bind fun v31 =>
  mX10_isNear_b45 r3 h a0 x1 x3 x4 (x1 - v31)))
def mX10_isNear_L3 : Nat → PH → Nat → Int64 → Int32 → Int32 → Option (Int32 × PH)
  | 0 => fun _ _ _ _ _ => none
  | n + 1 => mX10_isNear_b3 (mX10_isNear_L3 n)
def mX10_isNear (h : PH) (a0 : Nat) (x1 : Int64) (x3 : Int32) : Option (Int32 × PH) :=
  oO h a0 10 <|
  mX10_isNear_L3 FU h a0 x1 x3 (0 : Int32)
def mX10_doesPass (h : PH) (a0 : Nat) (x1 : Int32) : Option (Int32 × PH) :=
  oO h a0 10 <|
  (mX10_laysTests h a0 x1).bind fun h2 =>
  b2 (mX10_ownOf h2 a0 x1) fun v8 h8 =>
  (gR 10 1 h8 a0).bind fun v12 =>
  (aI 0 h8 v12 (6 : Int32)).bind fun v17 =>
  b2 (mX10_isNear h8 a0 v8 v17) fun v18 h18 =>
  rz v18 h18
def mX10_byOwn_b33 (h : PH) (a0 : Nat) (x1 : Int32) : Option (Int64 × PH) :=
  b2 (mX10_ownOf h a0 x1) fun v35 h35 =>
  some (v35, h35)
def mX10_byOwn_b53 (h : PH) (s0 : Int32) : Option (Int64 × PH) :=
  b2 (mX10_fails h s0) fun v53 h53 =>
  some (v53, h53)
def mX10_byOwn (h : PH) (a0 : Nat) (x1 : Int32) : Option (Int64 × PH) :=
  oO h a0 10 <|
  b2 (mX10_of h a0 x1 (6 : Int32)) fun v4 h4 =>
  if v4 = (1 : Int32) then (
  b2 (mX10_fails h4 (11 : Int32)) fun v13 h13 =>
  some (v13, h13)) else (
  b2 (mX10_isBetweenKin h4 a0 x1) fun v19 h19 =>
  if v19 = 0 then (
  mX10_byOwn_b33 h19 a0 x1) else (
  b2 (mX10_doesPass h19 a0 x1) fun v27 h27 =>
  if v27 = 0 then (
  (gI 10 27 h27 a0).bind fun v40 =>
  if v40 = 0 then (
  mX10_byOwn_b53 h27 (12 : Int32)) else (
  mX10_byOwn_b53 h27 (13 : Int32))) else (
  mX10_byOwn_b33 h27 a0 x1)))
def mX10_isOf (h : PH) (a0 : Nat) (x1 : Int32) (x2 : Int32) (x3 : Int32) : Option (Int32 × PH) :=
  oO h a0 10 <|
  if x3 = (3 : Int32) then (
  b2 (mX10_of h a0 x1 (0 : Int32)) fun v9 h9 =>
  b2 (mX10_good h9 a0 v9 (0 : Int32)) fun v13 h13 =>
  b2 (mX10_of h13 a0 x2 (0 : Int32)) fun v20 h20 =>
  b2 (mX10_good h20 a0 v20 (0 : Int32)) fun v24 h24 =>
  if v13 = v24 then (
  rz (1 : Int32) h24) else (
  rz (0 : Int32) h24)) else (
  b2 (mX10_likeSales h a0 x1 x2) fun v41 h41 =>
  if v41 = x3 then (
  b2 (mX10_isNearDay h41 a0 x1 x2) fun v51 h51 =>
  if v51 = 0 then (
  rz (0 : Int32) h51) else (
  rz (1 : Int32) h51)) else (
  rz (0 : Int32) h41))
def mX10_byOthers_b151 (r13 : PH → Nat → Int32 → Int32 → Int32 → Int64 → Int32 → Int32 → Option (Int64 × PH)) (h : PH) (a0 : Nat) (x1 : Int32) (x2 : Int32) (x4 : Int64) (x6 : Int32) (x7 : Int32) : Option (Int64 × PH) :=
  r13 h a0 x1 x2 (1 : Int32) x4 x6 (x7 + 1)
def mX10_byOthers_b142 (r13 : PH → Nat → Int32 → Int32 → Int32 → Int64 → Int32 → Int32 → Option (Int64 × PH)) (h : PH) (a0 : Nat) (x1 : Int32) (x2 : Int32) (x3 : Int32) (x4 : Int64) (x6 : Int32) (x7 : Int32) (x8 : Int32) : Option (Int64 × PH) :=
  if x3 = 0 then (
  if x8 = 0 then (
  r13 h a0 x1 x2 (0 : Int32) x4 x6 (x7 + 1)) else (
  mX10_byOthers_b151 r13 h a0 x1 x2 x4 x6 x7)) else (
  mX10_byOthers_b151 r13 h a0 x1 x2 x4 x6 x7)
def mX10_byOthers_b134 (r13 : PH → Nat → Int32 → Int32 → Int32 → Int64 → Int32 → Int32 → Option (Int64 × PH)) (h : PH) (a0 : Nat) (x1 : Int32) (x2 : Int32) (x3 : Int32) (x7 : Int32) (x8 : Int32) (x9 : Int64) : Option (Int64 × PH) :=
  mX10_byOthers_b142 r13 h a0 x1 x2 x3 x9 x7 x7 x8
def mX10_byOthers_b126 (r13 : PH → Nat → Int32 → Int32 → Int32 → Int64 → Int32 → Int32 → Option (Int64 × PH)) (h : PH) (a0 : Nat) (x1 : Int32) (x2 : Int32) (x3 : Int32) (x4 : Int64) (x6 : Int32) (x7 : Int32) (x8 : Int32) (x9 : Int64) : Option (Int64 × PH) :=
  if x4 ≤ x9 then (
  mX10_byOthers_b142 r13 h a0 x1 x2 x3 x4 x6 x7 x8) else (
  mX10_byOthers_b134 r13 h a0 x1 x2 x3 x7 x8 x9)
def mX10_byOthers_b102 (r13 : PH → Nat → Int32 → Int32 → Int32 → Int64 → Int32 → Int32 → Option (Int64 × PH)) (h : PH) (a0 : Nat) (x1 : Int32) (x2 : Int32) (x3 : Int32) (x4 : Int64) (x6 : Int32) (x7 : Int32) (x8 : Int32) : Option (Int64 × PH) :=
  b2 (mX10_brought h a0 x1 x7) fun v106 h106 =>
  if x6 = (-1 : Int32) then (
  mX10_byOthers_b134 r13 h106 a0 x1 x2 x3 x7 x8 v106) else (
  if x8 = 0 then (
  mX10_byOthers_b126 r13 h106 a0 x1 x2 x3 x4 x6 x7 x8 v106) else (
  if x3 = 0 then (
  mX10_byOthers_b134 r13 h106 a0 x1 x2 x3 x7 x8 v106) else (
  mX10_byOthers_b126 r13 h106 a0 x1 x2 x3 x4 x6 x7 x8 v106)))
def mX10_byOthers_b88 (r13 : PH → Nat → Int32 → Int32 → Int32 → Int64 → Int32 → Int32 → Option (Int64 × PH)) (h : PH) (a0 : Nat) (x1 : Int32) (x2 : Int32) (x3 : Int32) (x4 : Int64) (x6 : Int32) (x7 : Int32) (s0 : Int32) : Option (Int64 × PH) :=
  if x3 = 0 then (
  mX10_byOthers_b102 r13 h a0 x1 x2 x3 x4 x6 x7 s0) else (
  if s0 = 0 then (
  r13 h a0 x1 x2 x3 x4 x6 (x7 + 1)) else (
  mX10_byOthers_b102 r13 h a0 x1 x2 x3 x4 x6 x7 s0))
def mX10_byOthers_b87 (r13 : PH → Nat → Int32 → Int32 → Int32 → Int64 → Int32 → Int32 → Option (Int64 × PH)) (h : PH) (a0 : Nat) (x1 : Int32) (x2 : Int32) (x3 : Int32) (x4 : Int64) (x6 : Int32) (x7 : Int32) : Option (Int64 × PH) :=
  mX10_byOthers_b88 r13 h a0 x1 x2 x3 x4 x6 x7 (0 : Int32)
def mX10_byOthers_b192 (h : PH) (s0 : Int32) : Option (Int64 × PH) :=
  b2 (mX10_fails h s0) fun v192 h192 =>
  some (v192, h192)
def mX10_byOthers_b13 (r13 : PH → Nat → Int32 → Int32 → Int32 → Int64 → Int32 → Int32 → Option (Int64 × PH)) (h : PH) (a0 : Nat) (x1 : Int32) (x2 : Int32) (x3 : Int32) (x4 : Int64) (x6 : Int32) (x7 : Int32) : Option (Int64 × PH) :=
  (gR 10 1 h a0).bind fun v16 =>
  (aI 0 h v16 (3 : Int32)).bind fun v20 =>
  if v20 ≤ x7 then (
  (pF 10 28 h a0 (.inl x6)).bind fun h166 =>
  if x6 = (-1 : Int32) then (
  if x2 = (3 : Int32) then (
  mX10_byOthers_b192 h166 (61 : Int32)) else (
  mX10_byOthers_b192 h166 (((10 : Int32) * x2) + (11 : Int32)))) else (
  some (x4, h166))) else (
  if x7 = x1 then (
  r13 h a0 x1 x2 x3 x4 x6 (x7 + 1)) else (
  b2 (mX10_isThere h a0 x7) fun v33 h33 =>
  if v33 = 0 then (
  r13 h33 a0 x1 x2 x3 x4 x6 (x7 + 1)) else (
  b2 (mX10_isOf h33 a0 x1 x7 x2) fun v44 h44 =>
  if v44 = 0 then (
  r13 h44 a0 x1 x2 x3 x4 x6 (x7 + 1)) else (
  b2 (mX10_byOwn h44 a0 x7) fun v53 h53 =>
  if (0 : Int64) ≤ v53 then (
  if (3 : Int32) ≤ x2 then (
  mX10_byOthers_b87 r13 h53 a0 x1 x2 x3 x4 x6 x7) else (
  b2 (mX10_levelOf h53 a0 x1) fun v71 h71 =>
  b2 (mX10_levelOf h71 a0 x7) fun v77 h77 =>
  if v71 = v77 then (
  mX10_byOthers_b88 r13 h77 a0 x1 x2 x3 x4 x6 x7 (1 : Int32)) else (
  mX10_byOthers_b87 r13 h77 a0 x1 x2 x3 x4 x6 x7))) else (
  r13 h53 a0 x1 x2 x3 x4 x6 (x7 + 1))))))
def mX10_byOthers_L13 : Nat → PH → Nat → Int32 → Int32 → Int32 → Int64 → Int32 → Int32 → Option (Int64 × PH)
  | 0 => fun _ _ _ _ _ _ _ _ => none
  | n + 1 => mX10_byOthers_b13 (mX10_byOthers_L13 n)
def mX10_byOthers (h : PH) (a0 : Nat) (x1 : Int32) (x2 : Int32) : Option (Int64 × PH) :=
  oO h a0 10 <|
  mX10_byOthers_L13 FU h a0 x1 x2 (0 : Int32) (-2 : Int64) (-1 : Int32) (0 : Int32)
def mX10_byMethod (h : PH) (a0 : Nat) (x1 : Int32) (x2 : Int32) : Option (Int64 × PH) :=
  oO h a0 10 <|
  if x2 = (1 : Int32) then (
  b2 (mX10_byOwn h a0 x1) fun v38 h38 =>
  some (v38, h38)) else (
  if x2 = (2 : Int32) then (
  b2 (mX10_byOthers h a0 x1 (1 : Int32)) fun v45 h45 =>
  some (v45, h45)) else (
  if x2 = (3 : Int32) then (
  b2 (mX10_byOthers h a0 x1 (2 : Int32)) fun v52 h52 =>
  some (v52, h52)) else (
  if x2 = (4 : Int32) then (
  b2 (mX10_byResold h a0 x1) fun v58 h58 =>
  some (v58, h58)) else (
  if x2 = (5 : Int32) then (
  b2 (mX10_byMaking h a0 x1) fun v64 h64 =>
  some (v64, h64)) else (
  b2 (mX10_byOthers h a0 x1 (3 : Int32)) fun v71 h71 =>
  some (v71, h71))))))
def mX10_by (h : PH) (a0 : Nat) (x1 : Int32) (x2 : Int32) : Option (Int64 × PH) :=
  oO h a0 10 <|
  (pF 10 0 h a0 (.inl (0 : Int32))).bind fun h2 =>
  b2 (mX10_isSale h2 a0 x1) fun v7 h7 =>
  if v7 = 0 then (
  some ((-1 : Int64), h7)) else (
  b2 (mX10_within h7 (Int32.toInt64 x2) (1 : Int64) (6 : Int64)) fun v19 h19 =>
  if v19 = 0 then (
  some ((-1 : Int64), h19)) else (
  b2 (mX10_byMethod h19 a0 x1 x2) fun v28 h28 =>
  some (v28, h28)))
def mX10_base (h : PH) (a0 : Nat) (x1 : Int32) (x2 : Int32) : Option (Int32 × PH) :=
  oO h a0 10 <|
  (pF 10 0 h a0 (.inl (0 : Int32))).bind fun h2 =>
  b2 (mX10_isSale h2 a0 x1) fun v7 h7 =>
  if v7 = 0 then (
  some ((-1 : Int32), h7)) else (
  b2 (mX10_within h7 (Int32.toInt64 x2) (2 : Int64) (6 : Int64)) fun v21 h21 =>
  if v21 = 0 then (
  some ((-1 : Int32), h21)) else (
  if x2 = (5 : Int32) then (
  some ((-1 : Int32), h21)) else (
  b2 (mX10_byMethod h21 a0 x1 x2) fun v37 h37 =>
  if (0 : Int64) ≤ v37 then (
  (gI 10 28 h37 a0).bind fun v53 =>
  some (v53, h37)) else (
  some ((Int64.toInt32 v37), h37)))))
def mX10_methodAt_b14 (h : PH) (x0 : Int32) (x1 : Int32) : Option (Int32 × PH) :=
  if x1 = (1 : Int32) then (
  if x0 = (4 : Int32) then (
  some ((4 : Int32), h)) else (
  some ((x0 + (1 : Int32)), h))) else (
  some ((x0 + (1 : Int32)), h))
def mX10_methodAt (h : PH) (x0 : Int32) (x1 : Int32) : Option (Int32 × PH) :=
  if x1 = (1 : Int32) then (
  if x0 = (3 : Int32) then (
  some ((5 : Int32), h)) else (
  mX10_methodAt_b14 h x0 x1)) else (
  mX10_methodAt_b14 h x0 x1)
def mX10_worthBy_b13 (r13 : PH → Nat → Int32 → Int32 → Int32 → Option (Int64 × PH)) (h : PH) (a0 : Nat) (x1 : Int32) (x2 : Int32) (x3 : Int32) : Option (Int64 × PH) :=
  if (6 : Int32) ≤ x3 then (
  some ((-2 : Int64), h)) else (
  b2 (mX10_methodAt h x3 x2) fun v21 h21 =>
  b2 (mX10_byMethod h21 a0 x1 v21) fun v30 h30 =>
  if v30 < (0 : Int64) then (
  (gR 10 29 h30 a0).bind fun v52 =>
  (gI 10 30 h30 a0).bind fun v56 =>
  (sI h30 v52 v56 (Int64.toInt32 ((-2 : Int64) - v30))).bind fun h66 =>
  (gI 10 30 h66 a0).bind fun v69 =>
  (pF 10 30 h66 a0 (.inl (v69 + (1 : Int32)))).bind fun h74 =>
  r13 h74 a0 x1 x2 (x3 + 1)) else (
  (pF 10 31 h30 a0 (.inl v21)).bind fun h45 =>
  some (v30, h45)))
def mX10_worthBy_L13 : Nat → PH → Nat → Int32 → Int32 → Int32 → Option (Int64 × PH)
  | 0 => fun _ _ _ _ _ => none
  | n + 1 => mX10_worthBy_b13 (mX10_worthBy_L13 n)
def mX10_worthBy (h : PH) (a0 : Nat) (x1 : Int32) (x2 : Int32) : Option (Int64 × PH) :=
  oO h a0 10 <|
  (pF 10 30 h a0 (.inl (0 : Int32))).bind fun h2 =>
  (pF 10 31 h2 a0 (.inl (-2 : Int32))).bind fun h8 =>
  mX10_worthBy_L13 FU h8 a0 x1 x2 (0 : Int32)
def mX10_worthOf (h : PH) (a0 : Nat) (x1 : Int32) : Option (Int64 × PH) :=
  oO h a0 10 <|
  (gR 10 1 h a0).bind fun v3 =>
  (aI 0 h v3 (10 : Int32)).bind fun v8 =>
  b2 (mX10_worthBy h a0 x1 v8) fun v9 h9 =>
  some (v9, h9)
def mX10_worth (h : PH) (a0 : Nat) (x1 : Int32) : Option (Int64 × PH) :=
  oO h a0 10 <|
  (pF 10 0 h a0 (.inl (0 : Int32))).bind fun h2 =>
  b2 (mX10_isSale h2 a0 x1) fun v7 h7 =>
  if v7 = 0 then (
  some ((-1 : Int64), h7)) else (
  b2 (mX10_worthOf h7 a0 x1) fun v15 h15 =>
  some (v15, h15))
def mX10_method (h : PH) (a0 : Nat) (x1 : Int32) : Option (Int32 × PH) :=
  oO h a0 10 <|
  (pF 10 0 h a0 (.inl (0 : Int32))).bind fun h2 =>
  b2 (mX10_isSale h2 a0 x1) fun v7 h7 =>
  if v7 = 0 then (
  some ((-1 : Int32), h7)) else (
  b2 (mX10_worthOf h7 a0 x1) fun v17 h17 =>
  if (0 : Int64) ≤ v17 then (
  (gI 10 31 h17 a0).bind fun v33 =>
  some (v33, h17)) else (
  some ((-2 : Int32), h17)))
def mX10_why_b44 (h : PH) (a0 : Nat) (x2 : Int32) (s0 : Nat) (s1 : Int32) : Option (Int32 × PH) :=
  (pF 10 30 h s0 (.inl s1)).bind fun h44 =>
  if x2 = (-1 : Int32) then (
  (gI 10 30 h44 a0).bind fun v53 =>
  some (v53, h44)) else (
  (gI 10 30 h44 a0).bind fun v61 =>
  if v61 ≤ x2 then (
  some ((-2 : Int32), h44)) else (
  (gR 10 29 h44 a0).bind fun v68 =>
  (aI 0 h44 v68 x2).bind fun v72 =>
  some (v72, h44)))
def mX10_why (h : PH) (a0 : Nat) (x1 : Int32) (x2 : Int32) : Option (Int32 × PH) :=
  oO h a0 10 <|
  (pF 10 0 h a0 (.inl (0 : Int32))).bind fun h2 =>
  b2 (mX10_isSale h2 a0 x1) fun v7 h7 =>
  if v7 = 0 then (
  some ((-1 : Int32), h7)) else (
  if (-1 : Int32) ≤ x2 then (
  b2 (mX10_worthOf h7 a0 x1) fun v22 h22 =>
  if v22 = (-2 : Int64) then (
  mX10_why_b44 h22 a0 x2 a0 (6 : Int32)) else (
  (gI 10 30 h22 a0).bind fun v41 =>
  mX10_why_b44 h22 a0 x2 a0 v41)) else (
  some ((-1 : Int32), h7)))
def mX10_test (h : PH) (a0 : Nat) (x1 : Int32) (x2 : Int32) : Option (Int64 × PH) :=
  oO h a0 10 <|
  (pF 10 0 h a0 (.inl (0 : Int32))).bind fun h2 =>
  b2 (mX10_isSale h2 a0 x1) fun v7 h7 =>
  if v7 = 0 then (
  some ((-1 : Int64), h7)) else (
  if (-1 : Int32) ≤ x2 then (
  (mX10_laysTests h7 a0 x1).bind fun h24 =>
  if x2 = (-1 : Int32) then (
  (gI 10 27 h24 a0).bind fun v33 =>
  some ((Int32.toInt64 v33), h24)) else (
  (gI 10 27 h24 a0).bind fun v42 =>
  if v42 ≤ x2 then (
  some ((-2 : Int64), h24)) else (
  (gR 10 26 h24 a0).bind fun v49 =>
  (aL h24 v49 x2).bind fun v53 =>
  some (v53, h24)))) else (
  some ((-1 : Int64), h7)))
def mX10_passes (h : PH) (a0 : Nat) (x1 : Int32) : Option (Int32 × PH) :=
  oO h a0 10 <|
  (pF 10 0 h a0 (.inl (0 : Int32))).bind fun h2 =>
  b2 (mX10_isSale h2 a0 x1) fun v7 h7 =>
  if v7 = 0 then (
  some ((-1 : Int32), h7)) else (
  b2 (mX10_doesPass h7 a0 x1) fun v19 h19 =>
  if v19 = 0 then (
  some ((0 : Int32), h19)) else (
  some ((1 : Int32), h19)))
def mX10_prices_b44 (r44 : PH → Nat → Int32 → Int32 → Int32 → Int32 → Int32 → Int32 → Option (Int32 × PH)) (h : PH) (a0 : Nat) (x1 : Int32) (x2 : Int32) (x3 : Int32) (x4 : Int32) (x5 : Int32) (x6 : Int32) : Option (Int32 × PH) :=
  if (9999 : Int32) < x6 then (
  if x2 = 0 then (
  some (x3, h)) else (
  if x2 = (1 : Int32) then (
  some (x4, h)) else (
  some (x5, h)))) else (
  b2 (mX10_ownAt h a0 x1 x6) fun v57 h57 =>
  (gR 10 1 h57 a0).bind fun v61 =>
  (aI 0 h57 v61 (6 : Int32)).bind fun v66 =>
  b2 (mX10_isNear h57 a0 v57 v66) fun v67 h67 =>
  if v67 = 0 then (
  r44 h67 a0 x1 x2 x3 x4 x5 (x6 + 1)) else (
  if x4 = (-1 : Int32) then (
  r44 h67 a0 x1 x2 (x3 + 1) x6 x6 (x6 + 1)) else (
  r44 h67 a0 x1 x2 (x3 + 1) x4 x6 (x6 + 1))))
def mX10_prices_L44 : Nat → PH → Nat → Int32 → Int32 → Int32 → Int32 → Int32 → Int32 → Option (Int32 × PH)
  | 0 => fun _ _ _ _ _ _ _ _ => none
  | n + 1 => mX10_prices_b44 (mX10_prices_L44 n)
def mX10_prices (h : PH) (a0 : Nat) (x1 : Int32) (x2 : Int32) : Option (Int32 × PH) :=
  oO h a0 10 <|
  (pF 10 0 h a0 (.inl (0 : Int32))).bind fun h2 =>
  b2 (mX10_isSale h2 a0 x1) fun v7 h7 =>
  if v7 = 0 then (
  some ((-2 : Int32), h7)) else (
  b2 (mX10_within h7 (Int32.toInt64 x2) (0 : Int64) (2 : Int64)) fun v19 h19 =>
  if v19 = 0 then (
  some ((-2 : Int32), h19)) else (
  (mX10_laysTests h19 a0 x1).bind fun h30 =>
  mX10_prices_L44 FU h30 a0 x1 x2 (0 : Int32) (-1 : Int32) (-1 : Int32) (1 : Int32)))
def mX10_needs_b29 (r29 : PH → Nat → Int64 → Int32 → Option (Int32 × PH)) (h : PH) (a0 : Nat) (x2 : Int64) (x4 : Int32) : Option (Int32 × PH) :=
  if (50 : Int32) < x4 then (
  some ((-2 : Int32), h)) else (
  b2 (mX10_isNear h a0 x2 x4) fun v40 h40 =>
  if v40 = 0 then (
  r29 h40 a0 x2 (x4 + 1)) else (
  some (x4, h40)))
def mX10_needs_L29 : Nat → PH → Nat → Int64 → Int32 → Option (Int32 × PH)
  | 0 => fun _ _ _ _ => none
  | n + 1 => mX10_needs_b29 (mX10_needs_L29 n)
def mX10_needs (h : PH) (a0 : Nat) (x1 : Int32) : Option (Int32 × PH) :=
  oO h a0 10 <|
  (pF 10 0 h a0 (.inl (0 : Int32))).bind fun h2 =>
  b2 (mX10_isSale h2 a0 x1) fun v7 h7 =>
  if v7 = 0 then (
  some ((-1 : Int32), h7)) else (
  (mX10_laysTests h7 a0 x1).bind fun h17 =>
  b2 (mX10_ownOf h17 a0 x1) fun v22 h22 =>
  mX10_needs_L29 FU h22 a0 v22 (0 : Int32))
def mX10_rests_b51 (r27 : PH → Nat → Int32 → Int64 → Int32 → Int32 → Option (Int32 × PH)) (h : PH) (a0 : Nat) (x1 : Int32) (x2 : Int64) (x4 : Int32) (x5 : Int32) (s0 : Nat) (s1 : Int32) : Option (Int32 × PH) :=
  (pF 10 23 h s0 (.inl s1)).bind fun h51 =>
  b2 (mX10_worthOf h51 a0 x1) fun v58 h58 =>
  if v58 = x2 then (
  r27 h58 a0 x1 x2 (x4 ||| (0 : Int32)) (x5 + 1)) else (
  r27 h58 a0 x1 x2 (x4 ||| ((1 : Int32) <<< (x5 &&& 31))) (x5 + 1))
def mX10_rests_b27 (r27 : PH → Nat → Int32 → Int64 → Int32 → Int32 → Option (Int32 × PH)) (h : PH) (a0 : Nat) (x1 : Int32) (x2 : Int64) (x4 : Int32) (x5 : Int32) : Option (Int32 × PH) :=
  (gR 10 1 h a0).bind fun v30 =>
  (aI 0 h v30 (3 : Int32)).bind fun v34 =>
  if v34 ≤ x5 then (
  (pF 10 23 h a0 (.inl (-1 : Int32))).bind fun h85 =>
  some (x4, h85)) else (
  if x5 = x1 then (
  mX10_rests_b51 r27 h a0 x1 x2 x4 x5 a0 (-1 : Int32)) else (
  mX10_rests_b51 r27 h a0 x1 x2 x4 x5 a0 x5))
def mX10_rests_L27 : Nat → PH → Nat → Int32 → Int64 → Int32 → Int32 → Option (Int32 × PH)
  | 0 => fun _ _ _ _ _ _ => none
  | n + 1 => mX10_rests_b27 (mX10_rests_L27 n)
def mX10_rests (h : PH) (a0 : Nat) (x1 : Int32) : Option (Int32 × PH) :=
  oO h a0 10 <|
  (pF 10 0 h a0 (.inl (0 : Int32))).bind fun h2 =>
  b2 (mX10_isSale h2 a0 x1) fun v7 h7 =>
  if v7 = 0 then (
  some ((-1 : Int32), h7)) else (
  b2 (mX10_worthOf h7 a0 x1) fun v17 h17 =>
  mX10_rests_L27 FU h17 a0 x1 v17 (0 : Int32) (0 : Int32))
def mX10_turned (h : PH) (a0 : Nat) (x1 : Int32) : Option (Int64 × PH) :=
  oO h a0 10 <|
  (pF 10 0 h a0 (.inl (0 : Int32))).bind fun h2 =>
  b2 (mX10_isSale h2 a0 x1) fun v7 h7 =>
  if v7 = 0 then (
  some ((-1 : Int64), h7)) else (
  (gR 10 1 h7 a0).bind fun v17 =>
  (aI 0 h7 v17 (10 : Int32)).bind fun v22 =>
  b2 (mX10_worthBy h7 a0 x1 ((1 : Int32) - v22)) fun v24 h24 =>
  some (v24, h24))
def mX10_dueOf (h : PH) (a0 : Nat) (x1 : Int32) : Option (Int64 × PH) :=
  oO h a0 10 <|
  b2 (mX10_worthOf h a0 x1) fun v2 h2 =>
  if (0 : Int64) ≤ v2 then (
  (gR 10 1 h2 a0).bind fun v20 =>
  (aI 0 h2 v20 (9 : Int32)).bind fun v25 =>
  some (((v2 * (Int32.toInt64 v25)) / (100 : Int64)), h2)) else (
  some ((-2 : Int64), h2))
def mX10_due (h : PH) (a0 : Nat) (x1 : Int32) : Option (Int64 × PH) :=
  oO h a0 10 <|
  (pF 10 0 h a0 (.inl (0 : Int32))).bind fun h2 =>
  b2 (mX10_isSale h2 a0 x1) fun v7 h7 =>
  if v7 = 0 then (
  some ((-1 : Int64), h7)) else (
  b2 (mX10_dueOf h7 a0 x1) fun v15 h15 =>
  some (v15, h15))
def mX10_dues_b9 (r9 : PH → Nat → Int64 → Int32 → Option (Int64 × PH)) (h : PH) (a0 : Nat) (x1 : Int64) (x3 : Int32) : Option (Int64 × PH) :=
  (gR 10 1 h a0).bind fun v11 =>
  (aI 0 h v11 (3 : Int32)).bind fun v15 =>
  if v15 ≤ x3 then (
  some (x1, h)) else (
  b2 (mX10_dueOf h a0 x3) fun v21 h21 =>
  if (0 : Int64) ≤ v21 then (
  r9 h21 a0 (x1 + v21) (x3 + 1)) else (
  r9 h21 a0 (x1 + (0 : Int64)) (x3 + 1)))
def mX10_dues_L9 : Nat → PH → Nat → Int64 → Int32 → Option (Int64 × PH)
  | 0 => fun _ _ _ _ => none
  | n + 1 => mX10_dues_b9 (mX10_dues_L9 n)
def mX10_dues (h : PH) (a0 : Nat) : Option (Int64 × PH) :=
  oO h a0 10 <|
  (pF 10 0 h a0 (.inl (0 : Int32))).bind fun h2 =>
  mX10_dues_L9 FU h2 a0 (0 : Int64) (0 : Int32)
def mX10_all_b55 (r23 : PH → Nat → Int32 → Int32 → Int32 → Option (Int32 × PH)) (h : PH) (a0 : Nat) (x1 : Int32) (x2 : Int32) (x3 : Int32) (s0 : Int32) : Option (Int32 × PH) :=
  if s0 = x1 then (
  r23 h a0 x1 (x2 ||| ((1 : Int32) <<< (x3 &&& 31))) (x3 + 1)) else (
  r23 h a0 x1 (x2 ||| (0 : Int32)) (x3 + 1))
def mX10_all_b23 (r23 : PH → Nat → Int32 → Int32 → Int32 → Option (Int32 × PH)) (h : PH) (a0 : Nat) (x1 : Int32) (x2 : Int32) (x3 : Int32) : Option (Int32 × PH) :=
  (gR 10 1 h a0).bind fun v25 =>
  (aI 0 h v25 (3 : Int32)).bind fun v29 =>
  if v29 ≤ x3 then (
  some (x2, h)) else (
  b2 (mX10_worthOf h a0 x3) fun v35 h35 =>
  if (0 : Int64) ≤ v35 then (
  (gI 10 31 h35 a0).bind fun v52 =>
  mX10_all_b55 r23 h35 a0 x1 x2 x3 v52) else (
  mX10_all_b55 r23 h35 a0 x1 x2 x3 (0 : Int32)))
def mX10_all_L23 : Nat → PH → Nat → Int32 → Int32 → Int32 → Option (Int32 × PH)
  | 0 => fun _ _ _ _ _ => none
  | n + 1 => mX10_all_b23 (mX10_all_L23 n)
def mX10_all (h : PH) (a0 : Nat) (x1 : Int32) : Option (Int32 × PH) :=
  oO h a0 10 <|
  (pF 10 0 h a0 (.inl (0 : Int32))).bind fun h2 =>
  b2 (mX10_within h2 (Int32.toInt64 x1) (0 : Int64) (6 : Int64)) fun v11 h11 =>
  if v11 = 0 then (
  some ((-1 : Int32), h11)) else (
  mX10_all_L23 FU h11 a0 x1 (0 : Int32) (0 : Int32))
def mX10_says (h : PH) (a0 : Nat) (x1 : Int32) : Option (PH) :=
  oO h a0 10 <|
  (gR 10 32 h a0).bind fun v1 =>
  (gI 10 33 h a0).bind fun v5 =>
  (sI h v1 v5 x1).bind fun h9 =>
  (gI 10 33 h9 a0).bind fun v12 =>
  (pF 10 33 h9 a0 (.inl (v12 + (1 : Int32)))).bind fun h17 =>
  some h17
def mX10_saysWord_b3 (r3 : PH → Nat → Int64 → Int32 → Option (PH)) (h : PH) (a0 : Nat) (x1 : Int64) (x3 : Int32) : Option (PH) :=
  if x3 < 0 then (
  (mX10_says h a0 (32 : Int32)).bind fun h40 =>
  some h40) else (
  if (Int64.toInt32 ((x1 >>> (x3.toInt64 &&& 63)) &&& (31 : Int64))) ≤ 0 then (
  r3 h a0 x1 (x3 + (-5))) else (
  (mX10_says h a0 ((96 : Int32) + (Int64.toInt32 ((x1 >>> (x3.toInt64 &&& 63)) &&& (31 : Int64))))).bind fun h28 =>
  r3 h28 a0 x1 (x3 + (-5))))
def mX10_saysWord_L3 : Nat → PH → Nat → Int64 → Int32 → Option (PH)
  | 0 => fun _ _ _ _ => none
  | n + 1 => mX10_saysWord_b3 (mX10_saysWord_L3 n)
def mX10_saysWord (h : PH) (a0 : Nat) (x1 : Int64) : Option (PH) :=
  oO h a0 10 <|
  mX10_saysWord_L3 FU h a0 x1 (30 : Int32)
def mX10_saysNumber_b21 (r21 : PH → Nat → Int64 → Int64 → Option (PH)) (h : PH) (a0 : Nat) (x1 : Int64) (x3 : Int64) : Option (PH) :=
  if x3 ≤ (0 : Int64) then (
  (mX10_says h a0 (32 : Int32)).bind fun h54 =>
  some h54) else (
  dz (x3 = 0) <|
  (mX10_says h a0 ((48 : Int32) + (Int64.toInt32 ((x1 / x3) - (x1 / x3) / (10 : Int64) * (10 : Int64))))).bind fun h39 =>
  r21 h39 a0 x1 (x3 / (10 : Int64)))
def mX10_saysNumber_L21 : Nat → PH → Nat → Int64 → Int64 → Option (PH)
  | 0 => fun _ _ _ _ => none
  | n + 1 => mX10_saysNumber_b21 (mX10_saysNumber_L21 n)
def mX10_saysNumber_b2 (r2 : PH → Nat → Int64 → Int64 → Option (PH)) (h : PH) (a0 : Nat) (x1 : Int64) (x3 : Int64) : Option (PH) :=
  dz (x3 = 0) <|
  if (x1 / x3) < (10 : Int64) then (
  mX10_saysNumber_L21 FU h a0 x1 x3) else (
  r2 h a0 x1 (x3 * (10 : Int64)))
def mX10_saysNumber_L2 : Nat → PH → Nat → Int64 → Int64 → Option (PH)
  | 0 => fun _ _ _ _ => none
  | n + 1 => mX10_saysNumber_b2 (mX10_saysNumber_L2 n)
def mX10_saysNumber (h : PH) (a0 : Nat) (x1 : Int64) : Option (PH) :=
  oO h a0 10 <|
  mX10_saysNumber_L2 FU h a0 x1 (1 : Int64)
def mX10_report_b82 (r12 : PH → Nat → Int32 → Int32 → Option (Int32 × PH)) (h : PH) (a0 : Nat) (x1 : Int32) (x2 : Int32) : Option (Int32 × PH) :=
  (mX10_says h a0 (59 : Int32)).bind fun h85 =>
  (mX10_says h85 a0 (32 : Int32)).bind fun h91 =>
  r12 h91 a0 x1 (x2 + 1)
def mX10_report_b12 (r12 : PH → Nat → Int32 → Int32 → Option (Int32 × PH)) (h : PH) (a0 : Nat) (x1 : Int32) (x2 : Int32) : Option (Int32 × PH) :=
  (gR 10 1 h a0).bind fun v14 =>
  (aI 0 h v14 (3 : Int32)).bind fun v18 =>
  if v18 ≤ x2 then (
  if x1 = (-1 : Int32) then (
  (gI 10 33 h a0).bind fun v106 =>
  some (v106, h)) else (
  if (-1 : Int32) ≤ x1 then (
  (gI 10 33 h a0).bind fun v123 =>
  if v123 ≤ x1 then (
  some ((-2 : Int32), h)) else (
  (gR 10 32 h a0).bind fun v130 =>
  (aI 0 h v130 x1).bind fun v134 =>
  some (v134, h))) else (
  some ((-1 : Int32), h)))) else (
  b2 (mX10_worthOf h a0 x2) fun v24 h24 =>
  (gR 10 21 h24 a0).bind fun v30 =>
  (aL h24 v30 x2).bind fun v34 =>
  (mX10_saysWord h24 a0 v34).bind fun h35 =>
  if (0 : Int64) ≤ v24 then (
  (mX10_saysWord h35 a0 (89 : Int64)).bind fun h58 =>
  (gI 10 31 h58 a0).bind fun v63 =>
  (mX10_saysNumber h58 a0 (Int32.toInt64 v63)).bind fun h67 =>
  (mX10_saysWord h67 a0 (24627848 : Int64)).bind fun h74 =>
  (mX10_saysNumber h74 a0 v24).bind fun h79 =>
  mX10_report_b82 r12 h79 a0 x1 x2) else (
  (mX10_saysWord h35 a0 (6333843 : Int64)).bind fun h48 =>
  mX10_report_b82 r12 h48 a0 x1 x2))
def mX10_report_L12 : Nat → PH → Nat → Int32 → Int32 → Option (Int32 × PH)
  | 0 => fun _ _ _ _ => none
  | n + 1 => mX10_report_b12 (mX10_report_L12 n)
def mX10_report (h : PH) (a0 : Nat) (x1 : Int32) : Option (Int32 × PH) :=
  oO h a0 10 <|
  (pF 10 0 h a0 (.inl (0 : Int32))).bind fun h2 =>
  (pF 10 33 h2 a0 (.inl (0 : Int32))).bind fun h7 =>
  mX10_report_L12 FU h7 a0 x1 (0 : Int32)
def mX10_acts_b50 (h : PH) (a0 : Nat) : Option (PH) :=
  (gR 10 1 h a0).bind fun v51 =>
  (gR 10 3 h a0).bind fun v56 =>
  (gI 10 6 h a0).bind fun v63 =>
  (mX10_copies h v51 (0 : Int32) v56 ((232 : Int32) * v63)).bind fun h67 =>
  (gI 10 6 h67 a0).bind fun v72 =>
  (pF 10 6 h67 a0 (.inl (v72 + (1 : Int32)))).bind fun h77 =>
  some h77
def mX10_acts_b11 (r11 : PH → Nat → Int32 → Option (PH)) (h : PH) (a0 : Nat) (x1 : Int32) : Option (PH) :=
  if (2552 : Int32) ≤ x1 then (
  (gI 10 6 h a0).bind fun v42 =>
  (pF 10 6 h a0 (.inl (v42 - (1 : Int32)))).bind fun h47 =>
  mX10_acts_b50 h47 a0) else (
  (gR 10 3 h a0).bind fun v19 =>
  (gR 10 3 h a0).bind fun v24 =>
  (aI 0 h v24 (x1 + (232 : Int32))).bind fun v32 =>
  (sI h v19 x1 v32).bind fun h33 =>
  r11 h33 a0 (x1 + 1))
def mX10_acts_L11 : Nat → PH → Nat → Int32 → Option (PH)
  | 0 => fun _ _ _ => none
  | n + 1 => mX10_acts_b11 (mX10_acts_L11 n)
def mX10_acts (h : PH) (a0 : Nat) : Option (PH) :=
  oO h a0 10 <|
  (gI 10 6 h a0).bind fun v1 =>
  if v1 = (12 : Int32) then (
  mX10_acts_L11 FU h a0 (0 : Int32)) else (
  mX10_acts_b50 h a0)
def mX10_sets (h : PH) (a0 : Nat) (x1 : Int32) (x2 : Int32) : Option (Int32 × PH) :=
  oO h a0 10 <|
  (gR 10 1 h a0).bind fun v1 =>
  (aI 0 h v1 x1).bind fun v5 =>
  if v5 = x2 then (
  some ((-1 : Int32), h)) else (
  (mX10_acts h a0).bind fun h15 =>
  (gR 10 1 h15 a0).bind fun v19 =>
  (sI h15 v19 x1 x2).bind fun h24 =>
  some (v5, h24))
def mX10_price (h : PH) (a0 : Nat) (x1 : Int32) (x2 : Int32) : Option (Int32 × PH) :=
  oO h a0 10 <|
  (pF 10 0 h a0 (.inl (0 : Int32))).bind fun h2 =>
  b2 (mX10_isSale h2 a0 x1) fun v7 h7 =>
  if v7 = 0 then (
  some ((-1 : Int32), h7)) else (
  b2 (mX10_within h7 (Int32.toInt64 x2) (1 : Int64) (9999 : Int64)) fun v19 h19 =>
  if v19 = 0 then (
  some ((-1 : Int32), h19)) else (
  b2 (mX10_sets h19 a0 (((56 : Int32) + ((12 : Int32) * x1)) + (4 : Int32)) x2) fun v36 h36 =>
  some (v36, h36)))
def mX10_bind_b33 (h : PH) (s0 : Nat) (s1 : Int32) (s2 : Int32) : Option (Int32 × PH) :=
  b2 (mX10_sets h s0 s1 s2) fun v33 h33 =>
  if v33 = (-1 : Int32) then (
  rz (0 : Int32) h33) else (
  rz (1 : Int32) h33)
def mX10_bind (h : PH) (a0 : Nat) (x1 : Int32) (x2 : Int32) : Option (Int32 × PH) :=
  oO h a0 10 <|
  (pF 10 0 h a0 (.inl (0 : Int32))).bind fun h2 =>
  b2 (mX10_isSale h2 a0 x1) fun v7 h7 =>
  if v7 = 0 then (
  rz (0 : Int32) h7) else (
  if x2 = 0 then (
  mX10_bind_b33 h7 a0 (((56 : Int32) + ((12 : Int32) * x1)) + (6 : Int32)) (0 : Int32)) else (
  mX10_bind_b33 h7 a0 (((56 : Int32) + ((12 : Int32) * x1)) + (6 : Int32)) (1 : Int32)))
def mX10_relate_b150 (r150 : PH → Nat → Int32 → Option (Int32 × PH)) (h : PH) (a0 : Nat) (x5 : Int32) : Option (Int32 × PH) :=
  if (22 : Int32) ≤ x5 then (
  (gR 10 1 h a0).bind fun v180 =>
  (aI 0 h v180 (11 : Int32)).bind fun v186 =>
  (sI h v180 (11 : Int32) (v186 - (1 : Int32))).bind fun h189 =>
  rz (1 : Int32) h189) else (
  (gR 10 1 h a0).bind fun v158 =>
  (gR 10 1 h a0).bind fun v164 =>
  (aI 0 h v164 (x5 + (2 : Int32))).bind fun v171 =>
  (sI h v158 x5 v171).bind fun h172 =>
  r150 h172 a0 (x5 + 1))
def mX10_relate_L150 : Nat → PH → Nat → Int32 → Option (Int32 × PH)
  | 0 => fun _ _ _ => none
  | n + 1 => mX10_relate_b150 (mX10_relate_L150 n)
def mX10_relate_b82 (h : PH) (a0 : Nat) (x1 : Int32) (x2 : Int32) (x3 : Int32) (x4 : Int32) : Option (Int32 × PH) :=
  (mX10_acts h a0).bind fun h83 =>
  if x3 = 0 then (
  mX10_relate_L150 FU h83 a0 ((12 : Int32) + ((2 : Int32) * x4))) else (
  (gR 10 1 h83 a0).bind fun v91 =>
  (gR 10 1 h83 a0).bind fun v98 =>
  (aI 0 h83 v98 (11 : Int32)).bind fun v103 =>
  (sI h83 v91 ((12 : Int32) + ((2 : Int32) * v103)) x1).bind fun h107 =>
  (gR 10 1 h107 a0).bind fun v109 =>
  (gR 10 1 h107 a0).bind fun v116 =>
  (aI 0 h107 v116 (11 : Int32)).bind fun v121 =>
  (sI h107 v109 (((12 : Int32) + ((2 : Int32) * v121)) + (1 : Int32)) x2).bind fun h127 =>
  (gR 10 1 h127 a0).bind fun v129 =>
  (aI 0 h127 v129 (11 : Int32)).bind fun v135 =>
  (sI h127 v129 (11 : Int32) (v135 + (1 : Int32))).bind fun h138 =>
  rz (1 : Int32) h138)
def mX10_relate_b61 (h : PH) (a0 : Nat) (x1 : Int32) (x2 : Int32) (x3 : Int32) (x4 : Int32) (s0 : Int32) (s1 : Int32) : Option (Int32 × PH) :=
  if s0 = s1 then (
  rz (0 : Int32) h) else (
  if x3 = 0 then (
  mX10_relate_b82 h a0 x1 x2 x3 x4) else (
  (gR 10 1 h a0).bind fun v69 =>
  (aI 0 h v69 (11 : Int32)).bind fun v74 =>
  if v74 = (6 : Int32) then (
  rz (0 : Int32) h) else (
  mX10_relate_b82 h a0 x1 x2 x3 x4)))
def mX10_relate (h : PH) (a0 : Nat) (x1 : Int32) (x2 : Int32) (x3 : Int32) : Option (Int32 × PH) :=
  oO h a0 10 <|
  (pF 10 0 h a0 (.inl (0 : Int32))).bind fun h2 =>
  (gR 10 1 h2 a0).bind fun v6 =>
  (aI 0 h2 v6 (0 : Int32)).bind fun v10 =>
  b2 (mX10_isIn h2 v10 x1) fun v12 h12 =>
  if v12 = 0 then (
  rz (0 : Int32) h12) else (
  (gR 10 1 h12 a0).bind fun v19 =>
  (aI 0 h12 v19 (0 : Int32)).bind fun v23 =>
  b2 (mX10_isIn h12 v23 x2) fun v25 h25 =>
  if v25 = 0 then (
  rz (0 : Int32) h25) else (
  if x1 = x2 then (
  rz (0 : Int32) h25) else (
  (gR 10 1 h25 a0).bind fun v39 =>
  b2 (mX10_pairOf h25 v39 x1 x2) fun v44 h44 =>
  if v44 = (-1 : Int32) then (
  mX10_relate_b61 h44 a0 x1 x2 x3 v44 x3 (0 : Int32)) else (
  mX10_relate_b61 h44 a0 x1 x2 x3 v44 x3 (1 : Int32)))))
def mX10_rule (h : PH) (a0 : Nat) (x1 : Int32) (x2 : Int32) : Option (Int32 × PH) :=
  oO h a0 10 <|
  (pF 10 0 h a0 (.inl (0 : Int32))).bind fun h2 =>
  b2 (mX10_within h2 (Int32.toInt64 x1) (0 : Int64) (3 : Int64)) fun v11 h11 =>
  if v11 = 0 then (
  some ((-1 : Int32), h11)) else (
  b2 (mX10_leastOf h11 ((6 : Int32) + x1)) fun v23 h23 =>
  b2 (mX10_mostOf h23 ((6 : Int32) + x1)) fun v31 h31 =>
  b2 (mX10_within h31 (Int32.toInt64 x2) (Int32.toInt64 v23) (Int32.toInt64 v31)) fun v35 h35 =>
  if v35 = 0 then (
  some ((-1 : Int32), h35)) else (
  b2 (mX10_sets h35 a0 ((6 : Int32) + x1) x2) fun v47 h47 =>
  some (v47, h47)))
def mX10_turn (h : PH) (a0 : Nat) : Option (Int32 × PH) :=
  oO h a0 10 <|
  (pF 10 0 h a0 (.inl (0 : Int32))).bind fun h2 =>
  (mX10_acts h2 a0).bind fun h6 =>
  (gR 10 1 h6 a0).bind fun v10 =>
  (gR 10 1 h6 a0).bind fun v17 =>
  (aI 0 h6 v17 (10 : Int32)).bind fun v22 =>
  (sI h6 v10 (10 : Int32) ((1 : Int32) - v22)).bind fun h24 =>
  (gR 10 1 h24 a0).bind fun v26 =>
  (aI 0 h24 v26 (10 : Int32)).bind fun v31 =>
  some (v31, h24)
def mX10_resell (h : PH) (a0 : Nat) (x1 : Int32) (x2 : Int32) (x3 : Int32) (x4 : Int32) : Option (Int32 × PH) :=
  oO h a0 10 <|
  (pF 10 0 h a0 (.inl (0 : Int32))).bind fun h2 =>
  (gR 10 1 h2 a0).bind fun v6 =>
  (aI 0 h2 v6 (1 : Int32)).bind fun v10 =>
  b2 (mX10_isIn h2 v10 x1) fun v12 h12 =>
  if v12 = 0 then (
  some ((-1 : Int32), h12)) else (
  b2 (mX10_within h12 (Int32.toInt64 x2) (1 : Int64) (9999 : Int64)) fun v24 h24 =>
  if v24 = 0 then (
  some ((-1 : Int32), h24)) else (
  b2 (mX10_within h24 (Int32.toInt64 x3) (1 : Int64) (9999 : Int64)) fun v36 h36 =>
  if v36 = 0 then (
  some ((-1 : Int32), h36)) else (
  b2 (mX10_within h36 (Int32.toInt64 x4) (0 : Int64) (999 : Int64)) fun v49 h49 =>
  if v49 = 0 then (
  some ((-1 : Int32), h49)) else (
  (gR 10 1 h49 a0).bind fun v56 =>
  (aI 0 h49 v56 (4 : Int32)).bind fun v60 =>
  if v60 = (12 : Int32) then (
  some ((-1 : Int32), h49)) else (
  (mX10_acts h49 a0).bind fun h69 =>
  (gR 10 1 h69 a0).bind fun v77 =>
  (aI 0 h69 v77 (4 : Int32)).bind fun v81 =>
  (gR 10 1 h69 a0).bind fun v87 =>
  (sI h69 v87 (((176 : Int32) + ((4 : Int32) * v81)) + (0 : Int32)) x1).bind fun h95 =>
  (gR 10 1 h95 a0).bind fun v97 =>
  (sI h95 v97 (((176 : Int32) + ((4 : Int32) * v81)) + (1 : Int32)) x2).bind fun h105 =>
  (gR 10 1 h105 a0).bind fun v107 =>
  (sI h105 v107 (((176 : Int32) + ((4 : Int32) * v81)) + (2 : Int32)) x3).bind fun h115 =>
  (gR 10 1 h115 a0).bind fun v117 =>
  (sI h115 v117 (((176 : Int32) + ((4 : Int32) * v81)) + (3 : Int32)) x4).bind fun h126 =>
  (gR 10 1 h126 a0).bind fun v128 =>
  (aI 0 h126 v128 (4 : Int32)).bind fun v133 =>
  (sI h126 v128 (4 : Int32) (v133 + (1 : Int32))).bind fun h136 =>
  (gR 10 1 h136 a0).bind fun v138 =>
  (aI 0 h136 v138 (4 : Int32)).bind fun v142 =>
  some ((v142 - (1 : Int32)), h136))))))
def mX10_spread (h : PH) (a0 : Nat) (x1 : Int32) (x2 : Int32) : Option (Int32 × PH) :=
  oO h a0 10 <|
  (pF 10 0 h a0 (.inl (0 : Int32))).bind fun h2 =>
  (gR 10 1 h2 a0).bind fun v6 =>
  (aI 0 h2 v6 (2 : Int32)).bind fun v10 =>
  b2 (mX10_isIn h2 v10 x1) fun v12 h12 =>
  if v12 = 0 then (
  some ((-1 : Int32), h12)) else (
  b2 (mX10_within h12 (Int32.toInt64 x2) (0 : Int64) (9999 : Int64)) fun v24 h24 =>
  if v24 = 0 then (
  some ((-1 : Int32), h24)) else (
  b2 (mX10_sets h24 a0 (((48 : Int32) + ((2 : Int32) * x1)) + (1 : Int32)) x2) fun v40 h40 =>
  some (v40, h40)))
def mX10_lessen (h : PH) (a0 : Nat) (x1 : Int32) (x2 : Int32) : Option (Int32 × PH) :=
  oO h a0 10 <|
  (pF 10 0 h a0 (.inl (0 : Int32))).bind fun h2 =>
  (gR 10 1 h2 a0).bind fun v6 =>
  (aI 0 h2 v6 (5 : Int32)).bind fun v10 =>
  b2 (mX10_isIn h2 v10 x1) fun v12 h12 =>
  if v12 = 0 then (
  some ((-1 : Int32), h12)) else (
  b2 (mX10_within h12 (Int32.toInt64 x2) (0 : Int64) (90 : Int64)) fun v24 h24 =>
  if v24 = 0 then (
  some ((-1 : Int32), h24)) else (
  b2 (mX10_sets h24 a0 (((224 : Int32) + ((2 : Int32) * x1)) + (1 : Int32)) x2) fun v41 h41 =>
  some (v41, h41)))
def mX10_undo (h : PH) (a0 : Nat) : Option (Int32 × PH) :=
  oO h a0 10 <|
  (pF 10 0 h a0 (.inl (0 : Int32))).bind fun h2 =>
  (gI 10 6 h2 a0).bind fun v6 =>
  if v6 = 0 then (
  some ((-1 : Int32), h2)) else (
  (gI 10 6 h2 a0).bind fun v16 =>
  (pF 10 6 h2 a0 (.inl (v16 - (1 : Int32)))).bind fun h21 =>
  (gR 10 3 h21 a0).bind fun v25 =>
  (gI 10 6 h21 a0).bind fun v32 =>
  (gR 10 1 h21 a0).bind fun v37 =>
  (mX10_copies h21 v25 ((232 : Int32) * v32) v37 (0 : Int32)).bind fun h41 =>
  (gI 10 6 h41 a0).bind fun v45 =>
  some (v45, h41))
def mX10_keep_b30 (h : PH) (a0 : Nat) (x1 : Int32) (x2 : Int32) : Option (Int32 × PH) :=
  if x2 = 0 then (
  (gR 10 1 h a0).bind fun v60 =>
  (gR 10 4 h a0).bind fun v65 =>
  (mX10_copies h v60 (0 : Int32) v65 ((232 : Int32) * x1)).bind fun h73 =>
  (gR 10 5 h73 a0).bind fun v77 =>
  (sB 3 .boolean h73 v77 x1 (1 : Int32)).bind fun h82 =>
  rz (1 : Int32) h82) else (
  (gR 10 4 h a0).bind fun v35 =>
  (gR 10 1 h a0).bind fun v44 =>
  (mX10_copies h v35 ((232 : Int32) * x1) v44 (0 : Int32)).bind fun h48 =>
  (pF 10 6 h48 a0 (.inl (0 : Int32))).bind fun h53 =>
  rz (1 : Int32) h53)
def mX10_keep (h : PH) (a0 : Nat) (x1 : Int32) (x2 : Int32) : Option (Int32 × PH) :=
  oO h a0 10 <|
  (pF 10 0 h a0 (.inl (0 : Int32))).bind fun h2 =>
  b2 (mX10_within h2 (Int32.toInt64 x1) (0 : Int64) (1 : Int64)) fun v9 h9 =>
  if v9 = 0 then (
  rz (0 : Int32) h9) else (
  if x2 = 0 then (
  mX10_keep_b30 h9 a0 x1 x2) else (
  (gR 10 5 h9 a0).bind fun v20 =>
  (aI 3 h9 v20 x1).bind fun v24 =>
  if v24 = 0 then (
  rz (0 : Int32) h9) else (
  mX10_keep_b30 h9 a0 x1 x2)))
