/-! WHAT THE ACTS KEEP, copy and turn -/
theorem kG_copy {g : Sg} {c fr e to n : Option Nat} (ok : okG g) : okG (op_copy g c fr e to n).2 := by
  unfold op_copy
  cases h : tb (inO c 6 ∧ inO e 6) with
  | false => exact ok
  | true =>
    obtain ⟨⟨a, rfl, ha⟩, ⟨b, rfl, hb⟩⟩ := tb_t.mp h
    cases tb ((g.2.2.2.1 ((some a).getD 0)).1 = 0 ∨ (g.2.2.2.1 ((some b).getD 0)).1 = 0) with
    | true => exact ok
    | false =>
      cases h3 : tb ((g.2.2.2.1 ((some a).getD 0)).1 = (g.2.2.2.1 ((some b).getD 0)).1) with
      | false => exact ok
      | true =>
        have hk : (g.2.2.2.1 a).1 = (g.2.2.2.1 b).1 := tb_t.mp h3
        cases h4 : tb ((∃ a, fr = some a) ∧ (∃ a, to = some a) ∧ (∃ a, n = some a) ∧ fr.getD 0 + n.getD 0 ≤ (g.2.2.2.1 ((some a).getD 0)).2.1 ∧ to.getD 0 + n.getD 0 ≤ (g.2.2.2.1 ((some b).getD 0)).2.1) with
        | false => exact ok
        | true =>
          obtain ⟨-, -, -, q1, q2⟩ := tb_t.mp h4
          have q1 : fr.getD 0 + n.getD 0 ≤ (g.2.2.2.1 a).2.1 := q1
          have wa := ok.2.2.2.2.1 a ha
          have wb := ok.2.2.2.2.1 b hb
          refine kG_C ok ⟨wb.1, wb.2.1, fun e j hj => ?_⟩
          have e : (g.2.2.2.1 b).1 = 6 := e
          show i32 (if to.getD 0 ≤ j ∧ j < to.getD 0 + n.getD 0 then (g.2.2.2.1 a).2.2 (fr.getD 0 + (j - to.getD 0)) else (g.2.2.2.1 b).2.2 j)
          by_cases z : to.getD 0 ≤ j ∧ j < to.getD 0 + n.getD 0
          · rw [if_pos z]; exact wa.2.2 (hk.trans e) _ (by have := wa.2.1; omega)
          · rw [if_neg z]; exact wb.2.2 e j hj
theorem tuR_ok {t : Nt} (ok : okN t) : ∀ i, i ≤ t.2.1 → ∀ j, j < (tuR t.2.2 i).1 → okC t.1 ((tuR t.2.2 i).2.1 j)
  | 0, _ => fun j hj => absurd hj (Nat.not_lt_zero _)
  | i + 1, hi => by
    have ih := tuR_ok ok i (by omega)
    obtain ⟨tp, ti⟩ := tuR_p ok i (by omega)
    obtain ⟨c1, c2, c3, c4⟩ := ok.2.2.2 i (by omega)
    rw [tuR_1, tuR_2]
    cases decide (actK (t.2.2 i) = 3) with
    | true => exact ih
    | false =>
      intro j hj
      have hj : j < (tuR t.2.2 i).1 + 1 := hj
      show okC t.1 (va_up _ _ _ j)
      by_cases e : j = (tuR t.2.2 i).1
      · rw [e, va_up_self]
        have la := tp (t.2.2 i).2.1 (by omega)
        have lb := tp (t.2.2 i).2.2.1 c3
        have ne : (tuR t.2.2 i).2.2 (t.2.2 i).2.1 ≠ (tuR t.2.2 i).2.2 (t.2.2 i).2.2.1 := fun q => by have := ti _ _ (by omega) c3 q; omega
        refine ⟨Nat.zero_le _, ?_, ?_, fun _ => rfl⟩
        · show min _ _ < max _ _
          omega
        · show max _ _ < t.1
          omega
      · rw [va_up_ne _ _ e]; exact ih j (by omega)
theorem kG_turn {g : Sg} (ok : okG g) : okG (op_turn g).2 := by
  unfold op_turn
  cases tb (∃ i, i < g.1.2.1 ∧ actK (g.1.2.2 i) = 2) with
  | true => exact ok
  | false => exact kG_N (kG_B ok) ⟨ok.1.1, ok.1.2.1, by have := tuR_le (f := g.1.2.2) g.1.2.1; have := ok.1.2.2.1; show (tuR g.1.2.2 g.1.2.1).1 ≤ 40; omega, tuR_ok ok.1 g.1.2.1 (Nat.le_refl _)⟩
