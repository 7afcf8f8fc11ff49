/-! WHAT THE ACTS KEEP, crates -/
theorem kG_C {g : Sg} {c : Nat} {x : Nat × Nat × (Nat → Int64)} (ok : okG g) (h : x.1 ≤ 7 ∧ x.2.1 ≤ 12 ∧ (x.1 = 6 → ∀ i, i < 12 → i32 (x.2.2 i))) : okG (gC g c x) := by
  refine ⟨ok.1, ok.2.1, ok.2.2.1, ok.2.2.2.1, fun k hk => ?_, ok.2.2.2.2.2⟩
  show (va_up g.2.2.2.1 c x k).1 ≤ 7 ∧ (va_up g.2.2.2.1 c x k).2.1 ≤ 12 ∧ ((va_up g.2.2.2.1 c x k).1 = 6 → ∀ i, i < 12 → i32 ((va_up g.2.2.2.1 c x k).2.2 i))
  by_cases e : k = c
  · rw [e, va_up_self]; exact h
  · rw [va_up_ne _ _ e]; exact ok.2.2.2.2.1 k hk
theorem nar_i (v : Int64) : i32 (narM 6 v) := by
  show i32 (if v.toInt32 &&& 2147483647 ≤ 2139095040 then v.toInt32.toInt64 else 2143289344)
  split
  · unfold i32
    rw [Int32.toInt_toInt64]
    have h1 := Int32.le_toInt v.toInt32
    have h2 := Int32.toInt_lt v.toInt32
    exact ⟨by omega, by omega⟩
  · exact ⟨by decide, by decide⟩
theorem kG_crate {g : Sg} {c k n : Option Nat} (ok : okG g) : okG (op_crate g c k n).2 := by
  unfold op_crate
  cases h : tb (inO c 6 ∧ inO k 8) with
  | false => exact ok
  | true =>
    obtain ⟨-, ⟨q, rfl, hq⟩⟩ := tb_t.mp h
    cases n with
    | none => exact ok
    | some n =>
      show okG (cond (tb (n ≤ 12)) _ _ : Int32 × Sg).2
      cases h2 : tb (n ≤ 12) with
      | false => exact ok
      | true =>
        have hn := tb_t.mp h2
        refine kG_C ok ⟨by show q ≤ 7; omega, ?_, fun _ i _ => (show i32 0 from ⟨by decide, by decide⟩)⟩
        show (if (some q).getD 0 = 0 then 0 else n) ≤ 12
        split <;> omega
theorem kG_put {g : Sg} {c i : Option Nat} {v : Int64} (ok : okG g) : okG (op_put g c i v).2 := by
  unfold op_put
  rcases lkO_c g c i with ⟨hl, a, b, rfl, rfl, ha, hk0, hb⟩ | hl
  · rw [tb_1 hl]
    have w := ok.2.2.2.2.1 a ha
    refine kG_C ok ⟨w.1, w.2.1, fun e j hj => ?_⟩
    have e : (g.2.2.2.1 a).1 = 6 := e
    show i32 (va_up (g.2.2.2.1 a).2.2 b (narM (g.2.2.2.1 a).1 v) j)
    by_cases q : j = b
    · rw [q, va_up_self, e]; exact nar_i v
    · rw [va_up_ne _ _ q]; exact w.2.2 e j hj
  · rw [tb_0 (lkO_m hl).2]
    exact ok
theorem kG_run {g : Sg} {c : Option Nat} (ok : okG g) : okG (op_run g c).2 := by
  unfold op_run
  cases h : tb (inO c 6) with
  | false => exact ok
  | true =>
    obtain ⟨a, rfl, ha⟩ := tb_t.mp h
    cases tb ((g.2.2.2.1 ((some a).getD 0)).1 = 0) with
    | true => exact ok
    | false =>
      cases tb (g.1.1 ≤ (g.2.2.2.1 ((some a).getD 0)).2.1) with
      | false => exact ok
      | true =>
        have w := ok.2.2.2.2.1 a ha
        exact kG_C ok ⟨w.1, w.2.1, rnR_i ok.1 w.2.2 g.1.2.1 (Nat.le_refl _)⟩
