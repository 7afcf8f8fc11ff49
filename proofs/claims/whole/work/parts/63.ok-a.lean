/-! WHAT THE ACTS KEEP -/
theorem kG_F {g : Sg} (ok : okG g) : okG (gF g) := ok
theorem kG_B {g : Sg} (ok : okG g) : okG (gB g) := by
  refine ⟨ok.1, fun t ht => ?_, ?_, ok.2.2.2⟩
  · have h := List.mem_of_mem_take ht
    rcases List.mem_cons.mp h with e | e
    · rw [e]; exact ok.1
    · exact ok.2.1 t e
  · show ((g.1 :: g.2.1).take 25).length ≤ 25
    rw [List.length_take]
    omega
theorem kG_N {g : Sg} {t : Nt} (ok : okG g) (ht : okN t) : okG (gN g t) := ⟨ht, ok.2⟩
theorem okN_set {t : Nt} {i n : Nat} {x : Cmp} (ok : okN t) (hn : n ≤ 40) (hx : okC t.1 x) (h : ∀ j, j < n → j = i ∨ j < t.2.1) : okN (t.1, n, va_up t.2.2 i x) := ⟨ok.1, ok.2.1, hn, fun j hj => by
  show okC t.1 (va_up t.2.2 i x j)
  by_cases e : j = i
  · rw [e, va_up_self]; exact hx
  · rw [va_up_ne _ _ e]
    rcases h j hj with q | q
    · exact absurd q e
    · exact ok.2.2.2 j q⟩
theorem kG_undo {g : Sg} (ok : okG g) : okG (op_undo g).2 := by
  unfold op_undo
  cases h : g.2.1 with
  | nil => exact ok
  | cons t r =>
    refine ⟨ok.2.1 t (by rw [h]; exact List.mem_cons_self), fun u hu => ok.2.1 u (by rw [h]; exact List.mem_cons_of_mem _ hu), ?_, ok.2.2.2⟩
    have w := ok.2.2.1
    rw [h, List.length_cons] at w
    show r.length ≤ 25
    omega
theorem kG_lanes {g : Sg} {o : Option Nat} (ok : okG g) : okG (op_lanes g o).2 := by
  cases o with
  | none => exact ok
  | some n =>
    show okG (cond (tb (2 ≤ n ∧ n ≤ 8)) (nI g.1.2.1, gN (gB g) (n, 0, g.1.2.2)) (-1, gF g)).2
    cases h : tb (2 ≤ n ∧ n ≤ 8) with
    | false => exact ok
    | true => exact kG_N (kG_B ok) ⟨(tb_t.mp h).1, (tb_t.mp h).2, Nat.zero_le _, fun i q => absurd q (Nat.not_lt_zero _)⟩
theorem kG_cut {g : Sg} {o : Option Nat} (ok : okG g) : okG (op_cut g o).2 := by
  cases o with
  | none => exact ok
  | some n =>
    show okG (cond (tb (n ≤ g.1.2.1)) (nI (g.1.2.1 - n), gN (gB g) (g.1.1, n, g.1.2.2)) (-1, gF g)).2
    cases h : tb (n ≤ g.1.2.1) with
    | false => exact ok
    | true =>
      have hn := tb_t.mp h
      exact kG_N (kG_B ok) ⟨ok.1.1, ok.1.2.1, by have := ok.1.2.2.1; show n ≤ 40; omega, fun i q => ok.1.2.2.2 i (Nat.lt_of_lt_of_le q hn)⟩
theorem kG_keep {g : Sg} {o : Option Nat} (ok : okG g) : okG (op_keep g o).2 := by
  unfold op_keep
  cases h : tb (inO o 4) with
  | false => exact ok
  | true =>
    refine ⟨ok.1, ok.2.1, ok.2.2.1, fun k t hk ht => ?_, ok.2.2.2.2⟩
    have ht : va_up g.2.2.1 (o.getD 0) (some g.1) k = some t := ht
    by_cases e : k = o.getD 0
    · rw [e, va_up_self] at ht
      cases ht
      exact ok.1
    · rw [va_up_ne _ _ e] at ht
      exact ok.2.2.2.1 k t hk ht
theorem kG_mirror {g : Sg} (ok : okG g) : okG (op_mirror g).2 := kG_N (kG_B ok) ⟨ok.1.1, ok.1.2.1, ok.1.2.2.1, fun i hi => by
  have hi : i < g.1.2.1 := hi
  obtain ⟨c1, c2, c3, c4⟩ := ok.1.2.2.2 i hi
  show okC g.1.1 (mirR g.1.1 g.1.2.2 g.1.2.1 i)
  rw [mirR_lt _ hi]
  refine ⟨c1, ?_, ?_, c4⟩
  · show g.1.1 - 1 - (g.1.2.2 i).2.2.1 < g.1.1 - 1 - (g.1.2.2 i).2.1
    omega
  · show g.1.1 - 1 - (g.1.2.2 i).2.1 < g.1.1
    omega⟩
