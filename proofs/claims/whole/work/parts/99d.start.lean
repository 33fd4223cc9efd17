/-! ===== 99d: the start ===== -/
theorem ptQ_out {k t n i : Nat} (h : isQ k t n = true) (hi : n ≤ i) : ptQ k i = none := by
  unfold isQ at h
  simp only [Bool.and_eq_true, beq_iff_eq, Bool.or_eq_true] at h
  obtain ⟨⟨-, h2⟩, -⟩ := h
  unfold ptQ
  by_cases h93 : k = 93
  · subst h93
    have hn : n = 2 := by rw [← h2]; rfl
    rw [if_pos rfl]
    unfold va_up
    rw [if_neg (by omega), if_neg (by omega)]
  · rw [if_neg h93, if_neg (by rw [h2]; omega)]
theorem okc_eq {k : Nat} {c : Option PC} (h : okc k c = true) (hb : ∀ t n f, c = some (.inr (t, n, .inr (.inr f))) → ∀ i, n ≤ i → f i = none) : c = shc k (iof c) (jof c) := by
  match c, h, hb with
  | some (.inr (t, n, .inl i)), h, _ => exact (isI_sp h _ _).symm
  | some (.inr (t, n, .inr (.inl j))), h, _ =>
    have h' : (t == 1 && isJ k n) = true := h
    rw [Bool.and_eq_true, beq_iff_eq] at h'
    obtain ⟨rfl, h2⟩ := h'
    exact (isJ_sp h2 _ _).symm
  | some (.inr (t, n, .inr (.inr f))), h, hb =>
    have h' : (isQ k t n && (List.range n).all (fun i => f i == ptQ k i)) = true := h
    rw [Bool.and_eq_true, List.all_eq_true] at h'
    obtain ⟨h1, h2⟩ := h'
    rw [isQ_sp h1]
    have : f = ptQ k := funext fun i => by
      by_cases hi : i < n
      · exact beq_iff_eq.mp (h2 i (List.mem_range.mpr hi))
      · rw [hb t n f rfl i (by omega), ptQ_out h1 (by omega)]
    rw [this]
  | some (.inl (cl, fs)), h, _ =>
    have h' : (isC k cl && fs.length == (fdL.getD k []).length && (List.range fs.length).all (fun f => okf (fs.getD f (.inl 0)) ((fdL.getD k []).getD f 0))) = true := h
    rw [Bool.and_eq_true, Bool.and_eq_true, List.all_eq_true, beq_iff_eq] at h'
    obtain ⟨⟨h1, h2⟩, h3⟩ := h'
    rw [isC_sp h1]
    have : fs = rf (fdL.getD k []) (iof (some (.inl (cl, fs)))) (jof (some (.inl (cl, fs)))) := by
      refine List.ext_getElem? (fun f => ?_)
      unfold rf
      rw [List.getElem?_map]
      by_cases hf : f < fs.length
      rotate_left
      · rw [List.getElem?_eq_none (by omega), List.getElem?_eq_none (by rw [List.length_range, ← h2]; omega)]
        rfl
      have h4 := h3 f (List.mem_range.mpr hf)
      rw [List.getElem?_range (by omega)]
      have e0 : fs[f]? = some fs[f] := List.getElem?_eq_getElem hf
      have e1 : fs.getD f (.inl 0) = fs[f] := by rw [List.getD_eq_getElem?_getD, e0]; rfl
      rw [e1] at h4
      show fs[f]? = some (fv _ (match fs[f]? with | some (.inl x) => x | _ => 0) (match fs[f]? with | some (.inr (.inl x)) => x | _ => 0))
      rw [e0]
      generalize fs[f] = v at *
      match v, h4 with
      | .inl x, h4 =>
        have h5 : ((fdL.getD k []).getD f 0 == 0) = true := h4
        rw [beq_iff_eq.mp h5]
        rfl
      | .inr (.inl x), h4 =>
        have h5 : ((fdL.getD k []).getD f 0 == 1) = true := h4
        rw [beq_iff_eq.mp h5]
        rfl
      | .inr (.inr (some r)), h4 =>
        have h5 : ((fdL.getD k []).getD f 0 == r + 2) = true := h4
        rw [beq_iff_eq.mp h5]
        rfl
    rw [← this]
theorem hC_mk : hC = mk 239 (fun k => iof (hC.2 k)) (fun k => jof (hC.2 k)) := by
  obtain ⟨-, q, e⟩ := st_e
  refine Prod.ext e (funext fun k => ?_)
  show hC.2 k = shc k (iof (hC.2 k)) (jof (hC.2 k))
  by_cases hk : k < 239
  · exact okc_eq (okc_all k hk) (fun t n f z => q.2 k t n f z)
  · rw [q.1 k (by omega)]
    unfold shc
    rw [List.getElem?_eq_none (by show 239 ≤ k; omega)]
