/-! ===== 99b: the constructors leave nothing beyond ===== -/
theorem pq_fill : ∀ (fu : Nat) (h : PH) (x0 : Nat) (x1 : Int32) (x2 : Int32) (x3 : Int32), QB h → PQ (mJ7_fill_53178_L5 fu h x0 x1 x2 x3) := by
  intro fu
  induction fu with
  | zero => intro h x0 x1 x2 x3 hq; exact PQ.none
  | succ fu ih =>
    intro h x0 x1 x2 x3 hq
    show PQ (mJ7_fill_53178_b5 _ _ _ _ _ _)
    unfold mJ7_fill_53178_b5
    repeat' (first
      | assumption
      | exact eQ_o
      | exact eQ_i
      | exact eQ_l
      | exact eQ_r
      | exact PQ.none
      | apply PQ.oO
      | apply PQ.some
      | (refine PQ.al ?_ ?_ (fun _ _ _ => ?_))
      | (refine PQ.al2 ?_ (fun _ _ _ => ?_))
      | (refine PQ.bh (pq_pF ?_) (fun _ _ => ?_))
      | (refine PQ.bh (pq_sI ?_) (fun _ _ => ?_))
      | (refine PQ.bh (pq_sL ?_) (fun _ _ => ?_))
      | (refine PQ.bh (pq_sR ?_) (fun _ _ => ?_))
      | (apply ih; assumption)
      | (refine PQ.ite ?_ ?_)
      | (refine PQ.br (fun _ => ?_)))
theorem pq_fillF {h : PH} {a : Nat} {x : Int32} (hq : QB h) : PQ (mJ7_fill_53178 h a x) := PQ.br (fun _ => pq_fill _ _ _ _ _ _ hq)
theorem pq_c18 : ∀ (fu : Nat) (h : PH) (x0 : Nat) (x1 : Int32), QB h → PQ (mX8_clear_L18 fu h x0 x1) := by
  intro fu
  induction fu with
  | zero => intro h x0 x1 hq; exact PQ.none
  | succ fu ih =>
    intro h x0 x1 hq
    show PQ (mX8_clear_b18 _ _ _ _)
    unfold mX8_clear_b18
    repeat' (first
      | assumption
      | exact eQ_o
      | exact eQ_i
      | exact eQ_l
      | exact eQ_r
      | exact PQ.none
      | apply PQ.oO
      | apply PQ.some
      | (refine PQ.al ?_ ?_ (fun _ _ _ => ?_))
      | (refine PQ.al2 ?_ (fun _ _ _ => ?_))
      | (refine PQ.bh (pq_pF ?_) (fun _ _ => ?_))
      | (refine PQ.bh (pq_sI ?_) (fun _ _ => ?_))
      | (refine PQ.bh (pq_sL ?_) (fun _ _ => ?_))
      | (refine PQ.bh (pq_sR ?_) (fun _ _ => ?_))
      | (apply ih; assumption)
      | (refine PQ.ite ?_ ?_)
      | (refine PQ.br (fun _ => ?_)))
theorem pq_ru : ∀ (fu : Nat) (h : PH) (x0 : Nat) (x1 : Int32), QB h → PQ (mX10_rules_L2 fu h x0 x1) := by
  intro fu
  induction fu with
  | zero => intro h x0 x1 hq; exact PQ.none
  | succ fu ih =>
    intro h x0 x1 hq
    show PQ (mX10_rules_b2 _ _ _ _)
    unfold mX10_rules_b2
    repeat' (first
      | assumption
      | exact eQ_o
      | exact eQ_i
      | exact eQ_l
      | exact eQ_r
      | exact PQ.none
      | apply PQ.oO
      | apply PQ.some
      | (refine PQ.al ?_ ?_ (fun _ _ _ => ?_))
      | (refine PQ.al2 ?_ (fun _ _ _ => ?_))
      | (refine PQ.bh (pq_pF ?_) (fun _ _ => ?_))
      | (refine PQ.bh (pq_sI ?_) (fun _ _ => ?_))
      | (refine PQ.bh (pq_sL ?_) (fun _ _ => ?_))
      | (refine PQ.bh (pq_sR ?_) (fun _ _ => ?_))
      | (apply ih; assumption)
      | (refine PQ.ite ?_ ?_)
      | (refine PQ.br (fun _ => ?_)))
theorem pq_lrn : ∀ (fu : Nat) (h : PH) (x0 : Nat) (x1 : Nat) (x2 : Int32) (x3 : Int32), QB h → PQ (mX7_learn_L5 fu h x0 x1 x2 x3) := by
  intro fu
  induction fu with
  | zero => intro h x0 x1 x2 x3 hq; exact PQ.none
  | succ fu ih =>
    intro h x0 x1 x2 x3 hq
    show PQ (mX7_learn_b5 _ _ _ _ _ _)
    unfold mX7_learn_b5
    repeat' (first
      | assumption
      | exact eQ_o
      | exact eQ_i
      | exact eQ_l
      | exact eQ_r
      | exact PQ.none
      | apply PQ.oO
      | apply PQ.some
      | (refine PQ.al ?_ ?_ (fun _ _ _ => ?_))
      | (refine PQ.al2 ?_ (fun _ _ _ => ?_))
      | (refine PQ.bh (pq_pF ?_) (fun _ _ => ?_))
      | (refine PQ.bh (pq_sI ?_) (fun _ _ => ?_))
      | (refine PQ.bh (pq_sL ?_) (fun _ _ => ?_))
      | (refine PQ.bh (pq_sR ?_) (fun _ _ => ?_))
      | (apply ih; assumption)
      | (refine PQ.ite ?_ ?_)
      | (refine PQ.br (fun _ => ?_)))
theorem pq_clear {h : PH} {x0 : Nat} (hq : QB h) : PQ (mX8_clear h x0) := by
  unfold mX8_clear
  repeat' (first
    | assumption
    | exact eQ_o
    | exact eQ_i
    | exact eQ_l
    | exact eQ_r
    | exact PQ.none
    | apply PQ.oO
    | apply PQ.some
    | (refine PQ.al ?_ ?_ (fun _ _ _ => ?_))
    | (refine PQ.al2 ?_ (fun _ _ _ => ?_))
    | (refine PQ.bh (pq_pF ?_) (fun _ _ => ?_))
    | (refine PQ.bh (pq_sI ?_) (fun _ _ => ?_))
    | (refine PQ.bh (pq_sL ?_) (fun _ _ => ?_))
    | (refine PQ.bh (pq_sR ?_) (fun _ _ => ?_))
    | (refine PQ.bh (pq_fillF ?_) (fun _ _ => ?_))
    | (apply pq_c18; assumption)
    | (refine PQ.ite ?_ ?_)
    | (refine PQ.br (fun _ => ?_)))
theorem pq_rules {h : PH} {a : Nat} (hq : QB h) : PQ (mX10_rules h a) := pq_ru _ _ _ _ hq
theorem pq_learn {h : PH} {a b : Nat} {x : Int32} (hq : QB h) : PQ (mX7_learn h a b x) := PQ.oO (pq_lrn _ _ _ _ _ _ hq)
theorem pq_i8 {h : PH} {x0 : Nat} (hq : QB h) : PQ (mX8_init h x0) := by
  unfold mX8_init
  repeat' (first
    | assumption
    | exact eQ_o
    | exact eQ_i
    | exact eQ_l
    | exact eQ_r
    | exact PQ.none
    | apply PQ.oO
    | apply PQ.some
    | (refine PQ.al ?_ ?_ (fun _ _ _ => ?_))
    | (refine PQ.al2 ?_ (fun _ _ _ => ?_))
    | (refine PQ.bh (pq_pF ?_) (fun _ _ => ?_))
    | (refine PQ.bh (pq_sI ?_) (fun _ _ => ?_))
    | (refine PQ.bh (pq_sL ?_) (fun _ _ => ?_))
    | (refine PQ.bh (pq_sR ?_) (fun _ _ => ?_))
    | (refine PQ.bh (pq_clear ?_) (fun _ _ => ?_))
    | (refine PQ.ite ?_ ?_)
    | (refine PQ.br (fun _ => ?_)))
theorem pq_i6 {h : PH} {x0 : Nat} (hq : QB h) : PQ (mX6_init h x0) := by
  unfold mX6_init
  repeat' (first
    | assumption
    | exact eQ_o
    | exact eQ_i
    | exact eQ_l
    | exact eQ_r
    | exact PQ.none
    | apply PQ.oO
    | apply PQ.some
    | (refine PQ.al ?_ ?_ (fun _ _ _ => ?_))
    | (refine PQ.al2 ?_ (fun _ _ _ => ?_))
    | (refine PQ.bh (pq_pF ?_) (fun _ _ => ?_))
    | (refine PQ.bh (pq_sI ?_) (fun _ _ => ?_))
    | (refine PQ.bh (pq_sL ?_) (fun _ _ => ?_))
    | (refine PQ.bh (pq_sR ?_) (fun _ _ => ?_))
    | (refine PQ.ite ?_ ?_)
    | (refine PQ.br (fun _ => ?_)))
theorem pq_i7 {h : PH} {x0 : Nat} {x1 : Nat} (hq : QB h) : PQ (mX7_init h x0 x1) := by
  unfold mX7_init
  repeat' (first
    | assumption
    | exact eQ_o
    | exact eQ_i
    | exact eQ_l
    | exact eQ_r
    | exact PQ.none
    | apply PQ.oO
    | apply PQ.some
    | (refine PQ.al ?_ ?_ (fun _ _ _ => ?_))
    | (refine PQ.al2 ?_ (fun _ _ _ => ?_))
    | (refine PQ.bh (pq_pF ?_) (fun _ _ => ?_))
    | (refine PQ.bh (pq_sI ?_) (fun _ _ => ?_))
    | (refine PQ.bh (pq_sL ?_) (fun _ _ => ?_))
    | (refine PQ.bh (pq_sR ?_) (fun _ _ => ?_))
    | (refine PQ.bh (pq_learn ?_) (fun _ _ => ?_))
    | (refine PQ.ite ?_ ?_)
    | (refine PQ.br (fun _ => ?_)))
theorem pq_i4 {h : PH} {x0 : Nat} {x1 : Nat} {x2 : Nat} (hq : QB h) : PQ (mX4_init h x0 x1 x2) := by
  unfold mX4_init
  repeat' (first
    | assumption
    | exact eQ_o
    | exact eQ_i
    | exact eQ_l
    | exact eQ_r
    | exact PQ.none
    | apply PQ.oO
    | apply PQ.some
    | (refine PQ.al ?_ ?_ (fun _ _ _ => ?_))
    | (refine PQ.al2 ?_ (fun _ _ _ => ?_))
    | (refine PQ.bh (pq_pF ?_) (fun _ _ => ?_))
    | (refine PQ.bh (pq_sI ?_) (fun _ _ => ?_))
    | (refine PQ.bh (pq_sL ?_) (fun _ _ => ?_))
    | (refine PQ.bh (pq_sR ?_) (fun _ _ => ?_))
    | (refine PQ.bh (pq_i7 ?_) (fun _ _ => ?_))
    | (refine PQ.ite ?_ ?_)
    | (refine PQ.br (fun _ => ?_)))
theorem pq_i2 {h : PH} {x0 : Nat} {x1 : Nat} (hq : QB h) : PQ (mX2_init h x0 x1) := by
  unfold mX2_init
  repeat' (first
    | assumption
    | exact eQ_o
    | exact eQ_i
    | exact eQ_l
    | exact eQ_r
    | exact PQ.none
    | apply PQ.oO
    | apply PQ.some
    | (refine PQ.al ?_ ?_ (fun _ _ _ => ?_))
    | (refine PQ.al2 ?_ (fun _ _ _ => ?_))
    | (refine PQ.bh (pq_pF ?_) (fun _ _ => ?_))
    | (refine PQ.bh (pq_sI ?_) (fun _ _ => ?_))
    | (refine PQ.bh (pq_sL ?_) (fun _ _ => ?_))
    | (refine PQ.bh (pq_sR ?_) (fun _ _ => ?_))
    | (refine PQ.ite ?_ ?_)
    | (refine PQ.br (fun _ => ?_)))
theorem pq_i1 {h : PH} {x0 : Nat} {x1 : Nat} {x2 : Nat} (hq : QB h) : PQ (mX1_init h x0 x1 x2) := by
  unfold mX1_init
  repeat' (first
    | assumption
    | exact eQ_o
    | exact eQ_i
    | exact eQ_l
    | exact eQ_r
    | exact PQ.none
    | apply PQ.oO
    | apply PQ.some
    | (refine PQ.al ?_ ?_ (fun _ _ _ => ?_))
    | (refine PQ.al2 ?_ (fun _ _ _ => ?_))
    | (refine PQ.bh (pq_pF ?_) (fun _ _ => ?_))
    | (refine PQ.bh (pq_sI ?_) (fun _ _ => ?_))
    | (refine PQ.bh (pq_sL ?_) (fun _ _ => ?_))
    | (refine PQ.bh (pq_sR ?_) (fun _ _ => ?_))
    | (refine PQ.ite ?_ ?_)
    | (refine PQ.br (fun _ => ?_)))
theorem pq_i5 {h : PH} {x0 : Nat} {x1 : Nat} {x2 : Nat} (hq : QB h) : PQ (mX5_init h x0 x1 x2) := by
  unfold mX5_init
  repeat' (first
    | assumption
    | exact eQ_o
    | exact eQ_i
    | exact eQ_l
    | exact eQ_r
    | exact PQ.none
    | apply PQ.oO
    | apply PQ.some
    | (refine PQ.al ?_ ?_ (fun _ _ _ => ?_))
    | (refine PQ.al2 ?_ (fun _ _ _ => ?_))
    | (refine PQ.bh (pq_pF ?_) (fun _ _ => ?_))
    | (refine PQ.bh (pq_sI ?_) (fun _ _ => ?_))
    | (refine PQ.bh (pq_sL ?_) (fun _ _ => ?_))
    | (refine PQ.bh (pq_sR ?_) (fun _ _ => ?_))
    | (refine PQ.ite ?_ ?_)
    | (refine PQ.br (fun _ => ?_)))
theorem pq_i0 {h : PH} {x0 : Nat} (hq : QB h) : PQ (mX0_init h x0) := by
  unfold mX0_init
  repeat' (first
    | assumption
    | exact eQ_o
    | exact eQ_i
    | exact eQ_l
    | exact eQ_r
    | exact PQ.none
    | apply PQ.oO
    | apply PQ.some
    | (refine PQ.al ?_ ?_ (fun _ _ _ => ?_))
    | (refine PQ.al2 ?_ (fun _ _ _ => ?_))
    | (refine PQ.bh (pq_pF ?_) (fun _ _ => ?_))
    | (refine PQ.bh (pq_sI ?_) (fun _ _ => ?_))
    | (refine PQ.bh (pq_sL ?_) (fun _ _ => ?_))
    | (refine PQ.bh (pq_sR ?_) (fun _ _ => ?_))
    | (refine PQ.ite ?_ ?_)
    | (refine PQ.br (fun _ => ?_)))
theorem pq_i3 {h : PH} {x0 : Nat} (hq : QB h) : PQ (mX3_init h x0) := by
  unfold mX3_init
  repeat' (first
    | assumption
    | exact eQ_o
    | exact eQ_i
    | exact eQ_l
    | exact eQ_r
    | exact PQ.none
    | apply PQ.oO
    | apply PQ.some
    | (refine PQ.al ?_ ?_ (fun _ _ _ => ?_))
    | (refine PQ.al2 ?_ (fun _ _ _ => ?_))
    | (refine PQ.bh (pq_pF ?_) (fun _ _ => ?_))
    | (refine PQ.bh (pq_sI ?_) (fun _ _ => ?_))
    | (refine PQ.bh (pq_sL ?_) (fun _ _ => ?_))
    | (refine PQ.bh (pq_sR ?_) (fun _ _ => ?_))
    | (refine PQ.ite ?_ ?_)
    | (refine PQ.br (fun _ => ?_)))
theorem pq_i9 {h : PH} {x0 : Nat} (hq : QB h) : PQ (mX9_init h x0) := by
  unfold mX9_init
  repeat' (first
    | assumption
    | exact eQ_o
    | exact eQ_i
    | exact eQ_l
    | exact eQ_r
    | exact PQ.none
    | apply PQ.oO
    | apply PQ.some
    | (refine PQ.al ?_ ?_ (fun _ _ _ => ?_))
    | (refine PQ.al2 ?_ (fun _ _ _ => ?_))
    | (refine PQ.bh (pq_pF ?_) (fun _ _ => ?_))
    | (refine PQ.bh (pq_sI ?_) (fun _ _ => ?_))
    | (refine PQ.bh (pq_sL ?_) (fun _ _ => ?_))
    | (refine PQ.bh (pq_sR ?_) (fun _ _ => ?_))
    | (refine PQ.bh (pq_i6 ?_) (fun _ _ => ?_))
    | (refine PQ.bh (pq_i8 ?_) (fun _ _ => ?_))
    | (refine PQ.bh (pq_i4 ?_) (fun _ _ => ?_))
    | (refine PQ.bh (pq_i2 ?_) (fun _ _ => ?_))
    | (refine PQ.bh (pq_i1 ?_) (fun _ _ => ?_))
    | (refine PQ.bh (pq_i5 ?_) (fun _ _ => ?_))
    | (refine PQ.bh (pq_i0 ?_) (fun _ _ => ?_))
    | (refine PQ.bh (pq_i3 ?_) (fun _ _ => ?_))
    | (refine PQ.ite ?_ ?_)
    | (refine PQ.br (fun _ => ?_)))
theorem pq_i10 {h : PH} {x0 : Nat} (hq : QB h) : PQ (mX10_init h x0) := by
  unfold mX10_init
  repeat' (first
    | assumption
    | exact eQ_o
    | exact eQ_i
    | exact eQ_l
    | exact eQ_r
    | exact PQ.none
    | apply PQ.oO
    | apply PQ.some
    | (refine PQ.al ?_ ?_ (fun _ _ _ => ?_))
    | (refine PQ.al2 ?_ (fun _ _ _ => ?_))
    | (refine PQ.bh (pq_pF ?_) (fun _ _ => ?_))
    | (refine PQ.bh (pq_sI ?_) (fun _ _ => ?_))
    | (refine PQ.bh (pq_sL ?_) (fun _ _ => ?_))
    | (refine PQ.bh (pq_sR ?_) (fun _ _ => ?_))
    | (refine PQ.bh (pq_rules ?_) (fun _ _ => ?_))
    | (refine PQ.ite ?_ ?_)
    | (refine PQ.br (fun _ => ?_)))
