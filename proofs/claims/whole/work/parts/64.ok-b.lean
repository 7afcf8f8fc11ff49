/-! WHAT THE ACTS KEEP, second -/
theorem kG_comparer {g : Sg} {o a b : Option Nat} (ok : okG g) : okG (op_comparer g o a b).2 := by
  unfold op_comparer
  cases h : tb (inO o 5 ∧ inO a g.1.1 ∧ inO b g.1.1) with
  | false => exact ok
  | true =>
    obtain ⟨⟨k, rfl, hk⟩, ⟨x, rfl, hx⟩, ⟨y, rfl, hy⟩⟩ := tb_t.mp h
    cases h2 : tb ((some x).getD 0 < (some y).getD 0) with
    | false => exact ok
    | true =>
      have hxy : x < y := tb_t.mp h2
      cases h3 : tb (g.1.2.1 = 40) with
      | true => exact ok
      | false =>
        have h40 := tb_f.mp h3
        have h4 := ok.1.2.2.1
        refine kG_N (kG_B ok) (okN_set (t := g.1) ok.1 (by omega) ⟨?_, hxy, hy, fun q => ?_⟩ (fun j q => by omega))
        · show k ≤ 4; omega
        · exact tb_0 q
theorem kG_change {g : Sg} {i o : Option Nat} (ok : okG g) : okG (op_change g i o).2 := by
  unfold op_change
  cases h : tb (inO i g.1.2.1 ∧ inO o 5) with
  | false => exact ok
  | true =>
    obtain ⟨⟨k, rfl, hk⟩, ⟨x, rfl, hx⟩⟩ := tb_t.mp h
    obtain ⟨c1, c2, c3, c4⟩ := ok.1.2.2.2 k hk
    exact kG_N (kG_B ok) (okN_set (t := g.1) ok.1 ok.1.2.2.1 ⟨by show x ≤ 4; omega, c2, c3, fun q => tb_0 q⟩ (fun j q => Or.inr q))
theorem kG_turnSwitch {g : Sg} {i : Option Nat} {b : Bool} (ok : okG g) : okG (op_turnSwitch g i b).2 := by
  unfold op_turnSwitch
  cases h : tb (inO i g.1.2.1) with
  | false => exact ok
  | true =>
    obtain ⟨k, rfl, hk⟩ := tb_t.mp h
    cases h2 : tb ((g.1.2.2 ((some k).getD 0)).1 = 4) with
    | false => exact ok
    | true =>
      obtain ⟨c1, c2, c3, c4⟩ := ok.1.2.2.2 k hk
      exact kG_N (kG_B ok) (okN_set (t := g.1) ok.1 ok.1.2.2.1 ⟨Nat.le_refl 4, c2, c3, fun q => absurd rfl q⟩ (fun j q => Or.inr q))
theorem kG_bring {g : Sg} {o : Option Nat} (ok : okG g) : okG (op_bring g o).2 := by
  unfold op_bring
  cases h : tb (inO o 4) with
  | false => exact ok
  | true =>
    obtain ⟨k, rfl, hk⟩ := tb_t.mp h
    show okG (match g.2.2.1 k with | some t => _ | none => _ : Int32 × Sg).2
    cases hs : g.2.2.1 k with
    | none => exact ok
    | some t => exact kG_N (kG_B ok) (ok.2.2.2.1 k t hk hs)
theorem kG_follow {g : Sg} {o : Option Nat} (ok : okG g) : okG (op_follow g o).2 := by
  unfold op_follow
  cases h : tb (inO o 4) with
  | false => exact ok
  | true =>
    obtain ⟨k, rfl, hk⟩ := tb_t.mp h
    show okG (match g.2.2.1 k with | some t => _ | none => _ : Int32 × Sg).2
    cases hs : g.2.2.1 k with
    | none => exact ok
    | some t =>
      show okG (cond (tb (t.1 = g.1.1)) _ _ : Int32 × Sg).2
      cases h2 : tb (t.1 = g.1.1) with
      | false => exact ok
      | true =>
        show okG (cond (tb (g.1.2.1 + t.2.1 ≤ 40)) _ _ : Int32 × Sg).2
        cases h3 : tb (g.1.2.1 + t.2.1 ≤ 40) with
        | false => exact ok
        | true =>
          have okt := ok.2.2.2.1 k t hk hs
          refine kG_N (kG_B ok) ⟨ok.1.1, ok.1.2.1, tb_t.mp h3, fun i hi => ?_⟩
          have hi : i < g.1.2.1 + t.2.1 := hi
          show okC g.1.1 (if i < g.1.2.1 then g.1.2.2 i else t.2.2 (i - g.1.2.1))
          by_cases q : i < g.1.2.1
          · rw [if_pos q]; exact ok.1.2.2.2 i q
          · rw [if_neg q, ← tb_t.mp h2]; exact okt.2.2.2 _ (by omega)
theorem kG_tell {g : Sg} {v : Int32} (ok : okG g) : okG (op_tell g v).2 := by
  unfold op_tell
  cases h : tb (g.2.2.2.2.1.1 = 80) with
  | true => exact ok
  | false =>
    refine ⟨ok.1, ok.2.1, ok.2.2.1, ok.2.2.2.1, ok.2.2.2.2.1, ?_⟩
    have := tb_f.mp h
    have := ok.2.2.2.2.2
    show g.2.2.2.2.1.1 + 1 ≤ 80
    omega
