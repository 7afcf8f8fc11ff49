/-! WHAT THE ACTS KEEP, third -/
theorem kG_told {g : Sg} {o : Option Nat} (ok : okG g) : okG (op_told g o).2 := by
  unfold op_told
  split
  · exact ok
  · split
    · exact ok
    · split
      · exact ok
      · split <;> exact ok
theorem kG_as {g : Sg} {i o : Option Nat} (ok : okG g) : okG (op_as g i o).2 := by
  unfold op_as
  cases tb (inO i g.1.2.1 ∧ inO o 5) with
  | false => exact ok
  | true => cases und (g.1.2.2 (i.getD 0)).1 (o.getD 0) <;> exact ok
theorem kG_would {g : Sg} (ok : okG g) : okG (op_would g).2 := by
  have w : okG (gW g) := ⟨ok.1, ok.2.1, ok.2.2.1, ok.2.2.2.1, ok.2.2.2.2.1, Nat.zero_le _⟩
  unfold op_would
  cases tb (g.2.2.2.2.1.1 % 2 = 0) with
  | false => exact w
  | true => cases tb (∀ k, 2 * k < g.2.2.2.2.1.1 → vld g.1.1 (g.2.2.2.2.1.2 (2 * k)) (g.2.2.2.2.1.2 (2 * k + 1))) <;> exact w
theorem drR_ok {t : Nt} (ok : okN t) : ∀ i, i ≤ t.2.1 → ∀ j, j < (drR t i).1 → okC t.1 ((drR t i).2 j)
  | 0, _ => fun j hj => absurd hj (Nat.not_lt_zero _)
  | i + 1, hi => by
    have ih := drR_ok ok i (by omega)
    unfold drR
    cases tb (Idl t i) with
    | true => exact ih
    | false =>
      intro j hj
      have hj : j < (drR t i).1 + 1 := hj
      show okC t.1 (va_up (drR t i).2 (drR t i).1 (t.2.2 i) j)
      by_cases e : j = (drR t i).1
      · rw [e, va_up_self]; exact ok.2.2.2 i (by omega)
      · rw [va_up_ne _ _ e]; exact ih j (by omega)
theorem kG_drop {g : Sg} (ok : okG g) : okG (op_drop g).2 := kG_N (kG_B ok) ⟨ok.1.1, ok.1.2.1, by have := drR_le (t := g.1) g.1.2.1; have := ok.1.2.2.1; show (drR g.1 g.1.2.1).1 ≤ 40; omega, drR_ok ok.1 g.1.2.1 (Nat.le_refl _)⟩
theorem kG_gX {g : Sg} {b : Bool} (ok : okG g) : okG (gX b g g) := by cases b <;> exact ok
