/-! ===== 99c: the heap behind the constructors is a shape filled with numbers ===== -/
def PQ4 (c : Option (Nat × Nat × Nat × PH)) : Prop := ∀ r, c = some r → QB r.2.2.2
theorem PQ4.al {e : PC} {h : PH} {f : Nat → PH → Option (Nat × Nat × Nat × PH)} (hq : QB h) (he : eQ e) (hf : ∀ n h', QB h' → PQ4 (f n h')) : PQ4 (al e h f) := hf _ _ (hq.new he)
theorem PQ4.bh {o : Option PH} {f : PH → Option (Nat × Nat × Nat × PH)} (ho : PQ o) (h : ∀ v, QB v → PQ4 (f v)) : PQ4 (o.bind f) := fun h' e => by
  cases o with
  | none => cases e
  | some v => exact h v (ho v rfl) h' e
theorem QB_0 : QB (0, fun _ => none) := ⟨fun _ _ => rfl, fun k t n f z => by cases z⟩
theorem st_q : PQ4 mL_start := by
  unfold mL_start
  refine PQ4.al QB_0 eQ_o (fun x h1 q1 => ?_)
  refine PQ4.bh (pq_i9 q1) (fun h2 q2 => ?_)
  refine PQ4.al q2 eQ_o (fun y h3 q3 => ?_)
  refine PQ4.bh (pq_i10 q3) (fun h4 q4 => ?_)
  refine PQ4.al q4 eQ_l (fun o h5 q5 => ?_)
  intro r e
  cases e
  exact q5
def hC : PH := (mL_start.getD (0, 0, 0, (0, fun _ => none))).2.2.2
theorem st_e : mL_start = some (0, 224, 238, hC) ∧ QB hC ∧ hC.1 = 239 := by
  have h := st_n
  have q := st_q
  unfold hC
  cases hm : mL_start with
  | none => rw [hm] at h; cases h
  | some r =>
    rw [hm] at h q
    obtain ⟨a, b, c, d⟩ := r
    simp only [Option.map_some, Option.some.injEq, Prod.mk.injEq] at h
    obtain ⟨rfl, rfl, rfl, h4⟩ := h
    exact ⟨rfl, q _ rfl, h4⟩
def iof (c : Option PC) : Nat → Int32 := match c with
  | some (.inr (_, _, .inl i)) => i
  | some (.inl (_, fs)) => fun f => match fs[f]? with
    | some (.inl x) => x
    | _ => 0
  | _ => fun _ => 0
def jof (c : Option PC) : Nat → Int64 := match c with
  | some (.inr (_, _, .inr (.inl j))) => j
  | some (.inl (_, fs)) => fun f => match fs[f]? with
    | some (.inr (.inl x)) => x
    | _ => 0
  | _ => fun _ => 0
def okf (v : PV) (w : Nat) : Bool := match v with
  | .inl _ => w == 0
  | .inr (.inl _) => w == 1
  | .inr (.inr (some r)) => w == r + 2
  | .inr (.inr none) => false
def okc (k : Nat) (c : Option PC) : Bool := match c with
  | some (.inr (t, n, .inl _)) => isI k t n
  | some (.inr (t, n, .inr (.inl _))) => t == 1 && isJ k n
  | some (.inr (t, n, .inr (.inr f))) => isQ k t n && (List.range n).all (fun i => f i == ptQ k i)
  | some (.inl (c, fs)) => isC k c && fs.length == (fdL.getD k []).length && (List.range fs.length).all (fun f => okf (fs.getD f (.inl 0)) ((fdL.getD k []).getD f 0))
  | none => false
theorem okc_all : ∀ k, k < 239 → okc k (hC.2 k) = true := by decide +kernel
