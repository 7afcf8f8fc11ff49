/-! THE CLASS: rows of pairs with none in them that changes nothing -/
def cpX (L : Nat) (x : Int64) (p : Nat) : Int64 := cmpV x (prT L p).1 (prT L p).2
def RsX (L : Nat) (x : Int64) : Prop := ∀ a, a + 1 < L → ∀ r, r < 16 → bt x (16 * a + r) = true → bt x (16 * (a + 1) + r) = true
def PS (L : Nat) : Nat → Int64 → Nat → Prop
  | 0, x, _ => RsX L x
  | n + 1, x, s => cpX L x (s / nPr L ^ n) ≠ x ∧ PS L n (cpX L x (s / nPr L ^ n)) (s % nPr L ^ n)
/-- the first n pairs numbered s make all sixteen rows rise -/
def S16 (L : Nat) (x : Int64) (n s : Nat) : Prop := ∀ r, r < 16 → Ris L (gk (tc L (dg (nPr L) n s)) (-1) (rowX x r) n)
theorem gk_hd (f : Nat → Cmp) (v : Nat) : ∀ n, gk f (-1) v (n + 1) = gk (fun k => f (k + 1)) (-1) (stp (f 0) v) n
  | 0 => gk_m
  | n + 1 => by rw [gk_m, gk_hd f v n, gk_m]
theorem gk_cg {f f' : Nat → Cmp} {v : Nat} : ∀ n, (∀ k, k < n → f k = f' k) → gk f (-1) v n = gk f' (-1) v n
  | 0, _ => rfl
  | n + 1, h => by rw [gk_m, gk_m, gk_cg n (fun k hk => h k (by omega)), h n (by omega)]
theorem dg_s {P n s k : Nat} (hk : k < n) : dg P (n + 1) s (k + 1) = dg P n (s % P ^ n) k := by
  unfold dg
  obtain ⟨e, he⟩ : ∃ e, n - 1 - k = e := ⟨_, rfl⟩
  have h1 : n + 1 - 1 - (k + 1) = e := by omega
  have h2 : P ^ n = P ^ e * P ^ (k + 1) := by rw [← Nat.pow_add]; congr 1; omega
  rw [h1, he, h2, Nat.mod_mul_right_div_self, Nat.mod_mod_of_dvd _ ⟨P ^ k, by rw [Nat.pow_succ, Nat.mul_comm]⟩]
theorem dg_h {P n s : Nat} (hs : s < P ^ (n + 1)) : dg P (n + 1) s 0 = s / P ^ n := by
  unfold dg
  rw [show n + 1 - 1 - 0 = n by omega]
  apply Nat.mod_eq_of_lt
  apply Nat.div_lt_of_lt_mul
  rw [Nat.pow_succ] at hs
  exact hs
theorem row_c {x : Int64} {a b r : Nat} (hab : a < b) (hb : b < 4) (hr : r < 16) : rowX (cmpV x a b) r = stp (0, a, b, false) (rowX x r) := by
  obtain ⟨h1, h2⟩ := rowX_tb x r
  obtain ⟨h3, h4⟩ := rowX_tb (cmpV x a b) r
  have hs : stp (0, a, b, false) (rowX x r) < 2 ^ 4 := stp_lt h1 ⟨Nat.zero_le 4, hab, hb, fun _ => rfl⟩
  have hst : stp (0, a, b, false) (rowX x r) = if (bt x (16 * a + r) && !bt x (16 * b + r)) = true then rowX x r ^^^ 2 ^ a ^^^ 2 ^ b else rowX x r := by
    show (if chg (0, a, b, false) (hw (rowX x r) a b) = true ∧ hw (rowX x r) a b ≠ 0 then rowX x r ^^^ 2 ^ a ^^^ 2 ^ b else rowX x r) = _
    have hh : (chg (0, a, b, false) (hw (rowX x r) a b) = true ∧ hw (rowX x r) a b ≠ 0) ↔ (bt x (16 * a + r) && !bt x (16 * b + r)) = true := by
      have key : ∀ p q : Bool, (chgK 0 ((p.toNat : Int) - (q.toNat : Int)) = true ∧ (p.toNat : Int) - (q.toNat : Int) ≠ 0) ↔ (p && !q) = true := by decide
      have w := key (bt x (16 * a + r)) (bt x (16 * b + r))
      rw [← h2 a (by omega), ← h2 b hb] at w
      rw [← h2 a (by omega), ← h2 b hb]
      exact w
    by_cases q : (bt x (16 * a + r) && !bt x (16 * b + r)) = true
    · rw [if_pos q, if_pos (hh.mpr q)]
    · rw [if_neg q, if_neg (fun w => q (hh.mp w))]
  apply Nat.eq_of_testBit_eq
  intro i
  by_cases hi : i < 4
  · rw [h4 i hi, cmp_b (by omega) hb hi hr, hst]
    cases q : (bt x (16 * a + r) && !bt x (16 * b + r))
    · rw [if_neg (by decide), h2 i hi, Bool.false_and, Bool.xor_false]
    · rw [if_pos rfl, Nat.testBit_xor, Nat.testBit_xor, Nat.testBit_two_pow, Nat.testBit_two_pow, h2 i hi, Bool.true_and]
      cases bt x (16 * i + r) <;> cases decide (a = i) <;> cases decide (b = i) <;> rfl
  · rw [Nat.testBit_lt_two_pow (Nat.lt_of_lt_of_le h3 (show 2 ^ 4 ≤ 2 ^ i from Nat.pow_le_pow_right (by decide) (by omega))), Nat.testBit_lt_two_pow (Nat.lt_of_lt_of_le hs (Nat.pow_le_pow_right (by decide) (by omega)))]
theorem S16_0 {L : Nat} {x : Int64} {s : Nat} (h4 : L ≤ 4) : S16 L x 0 s ↔ RsX L x := by
  have e : ∀ r a, a < 4 → (rowX x r).testBit a = bt x (16 * a + r) := fun r => (rowX_tb x r).2
  constructor
  · intro h a ha r hr h1
    have w := h r hr a ha
    have w : (rowX x r).testBit a = true → (rowX x r).testBit (a + 1) = true := w
    rw [e r a (by omega), e r (a + 1) (by omega)] at w
    exact w h1
  · intro h r hr a ha
    show (rowX x r).testBit a = true → (rowX x r).testBit (a + 1) = true
    rw [e r a (by omega), e r (a + 1) (by omega)]
    exact h a ha r hr
theorem S16_s {L : Nat} {x : Int64} {n s : Nat} (h2 : 2 ≤ L) (h4 : L ≤ 4) (hs : s < nPr L ^ (n + 1)) : S16 L x (n + 1) s ↔ S16 L (cpX L x (s / nPr L ^ n)) n (s % nPr L ^ n) := by
  have hp : s / nPr L ^ n < nPr L := by
    apply Nat.div_lt_of_lt_mul
    rw [Nat.pow_succ] at hs
    exact hs
  obtain ⟨o1, o2⟩ := prT_ok h2 h4 hp
  have key : ∀ r, r < 16 → gk (tc L (dg (nPr L) (n + 1) s)) (-1) (rowX x r) (n + 1) = gk (tc L (dg (nPr L) n (s % nPr L ^ n))) (-1) (rowX (cpX L x (s / nPr L ^ n)) r) n := fun r hr => by
    rw [gk_hd]
    have e0 : tc L (dg (nPr L) (n + 1) s) 0 = (0, (prT L (s / nPr L ^ n)).1, (prT L (s / nPr L ^ n)).2, false) := by unfold tc; rw [dg_h hs]
    have e1 : rowX (cpX L x (s / nPr L ^ n)) r = stp (0, (prT L (s / nPr L ^ n)).1, (prT L (s / nPr L ^ n)).2, false) (rowX x r) := row_c o1 (by omega) hr
    rw [e0, e1]
    exact gk_cg n (fun k hk => by unfold tc; rw [dg_s hk])
  unfold S16
  constructor
  · intro h r hr
    rw [← key r hr]
    exact h r hr
  · intro h r hr
    rw [key r hr]
    exact h r hr
theorem S16_iff {L : Nat} {x : Int64} {n s : Nat} (hz : ∀ r, 2 ^ L ≤ r → r < 16 → rowX x r = 0) (h4 : L ≤ 4) : S16 L x n s ↔ SrtX L x n s := by
  have h16 : 2 ^ L ≤ 2 ^ 4 := Nat.pow_le_pow_right (by decide) h4
  have g0 : ∀ (f : Nat → Cmp) n, gk f (-1) 0 n = 0 := fun f n => by
    induction n with
    | zero => rfl
    | succ n ih =>
      rw [gk_m, ih]
      unfold stp hw
      rw [Nat.zero_testBit, Nat.zero_testBit]
      exact if_neg (fun q => q.2 (by decide))
  constructor
  · exact fun h r hr => h r (by omega)
  · intro h r hr
    by_cases q : r < 2 ^ L
    · exact h r q
    · rw [hz r (by omega) hr, g0]
      intro a ha h1
      rw [Nat.zero_testBit] at h1
      cases h1
def m16 (L : Nat) (x : Int64) (n : Nat) : Prop := ∃ s, s < nPr L ^ n ∧ S16 L x n s
theorem PS_S {L : Nat} (h2 : 2 ≤ L) (h4 : L ≤ 4) : ∀ (n : Nat) (x : Int64) (s : Nat), s < nPr L ^ n → PS L n x s → S16 L x n s
  | 0, x, s, _, h => (S16_0 h4).mpr h
  | n + 1, x, s, hs, h => (S16_s h2 h4 hs).mpr (PS_S h2 h4 n _ _ (Nat.mod_lt _ (Nat.pow_pos (nPr_b h2 h4).1)) h.2)
theorem S_PS {L : Nat} (h2 : 2 ≤ L) (h4 : L ≤ 4) : ∀ (n : Nat) (x : Int64) (s : Nat), s < nPr L ^ n → (∀ m, m < n → ¬ m16 L x m) → S16 L x n s → PS L n x s
  | 0, x, s, _, _, h => (S16_0 h4).mp h
  | n + 1, x, s, hs, hm, h => by
    have hpos : ∀ e, 0 < nPr L ^ e := fun e => Nat.pow_pos (nPr_b h2 h4).1
    have hp : s / nPr L ^ n < nPr L := by
      apply Nat.div_lt_of_lt_mul
      rw [Nat.pow_succ] at hs
      exact hs
    have w := (S16_s h2 h4 hs).mp h
    refine ⟨fun q => ?_, S_PS h2 h4 n _ _ (Nat.mod_lt _ (hpos n)) (fun m hmn ⟨z, z1, z2⟩ => ?_) w⟩
    · rw [q] at w
      exact hm n (by omega) ⟨_, Nat.mod_lt _ (hpos n), w⟩
    · have hb : nPr L ^ m * (s / nPr L ^ n) + z < nPr L ^ (m + 1) := by
        have : nPr L ^ m * (s / nPr L ^ n + 1) ≤ nPr L ^ m * nPr L := Nat.mul_le_mul_left _ hp
        rw [Nat.mul_succ] at this
        rw [Nat.pow_succ]
        omega
      refine hm (m + 1) (by omega) ⟨_, hb, (S16_s h2 h4 hb).mpr ?_⟩
      rw [Nat.mul_add_div (hpos m), Nat.div_eq_of_lt z1, Nat.add_zero, Nat.mul_add_mod, Nat.mod_eq_of_lt z1]
      exact z2
theorem PS_skip {L n p : Nat} {x : Int64} (h : ∀ s, s < nPr L ^ n * p → ¬ PS L (n + 1) x s) (hp : cpX L x p = x ∨ ∀ s', s' < nPr L ^ n → ¬ PS L n (cpX L x p) s') (hpos : 0 < nPr L ^ n) : ∀ s, s < nPr L ^ n * (p + 1) → ¬ PS L (n + 1) x s := fun s hs q => by
  by_cases w : s < nPr L ^ n * p
  · exact h s w q
  · have e : s / nPr L ^ n = p := Nat.div_eq_of_lt_le (by rw [Nat.mul_comm]; omega) (by rw [Nat.mul_comm]; exact hs)
    obtain ⟨q1, q2⟩ := q
    rw [e] at q1 q2
    rcases hp with hp | hp
    · exact q1 hp
    · exact hp _ (Nat.mod_lt _ hpos) q2
theorem PS_hit {L n p s' : Nat} {x : Int64} (h : ∀ s, s < nPr L ^ n * p → ¬ PS L (n + 1) x s) (hp : p < nPr L) (hne : cpX L x p ≠ x) (hs : isL (nPr L ^ n) (PS L n (cpX L x p)) (some s')) : isL (nPr L ^ (n + 1)) (PS L (n + 1) x) (some (nPr L ^ n * p + s')) := by
  obtain ⟨h1, h2, h3⟩ := hs
  have hpos : 0 < nPr L ^ n := by omega
  have hb : nPr L ^ n * p + s' < nPr L ^ (n + 1) := by
    have : nPr L ^ n * (p + 1) ≤ nPr L ^ n * nPr L := Nat.mul_le_mul_left _ hp
    rw [Nat.mul_succ] at this
    rw [Nat.pow_succ]
    omega
  refine ⟨hb, ?_, fun r hr q => ?_⟩
  · unfold PS
    rw [Nat.mul_add_div hpos, Nat.div_eq_of_lt h1, Nat.add_zero, Nat.mul_add_mod, Nat.mod_eq_of_lt h1]
    exact ⟨hne, h2⟩
  · by_cases w : r < nPr L ^ n * p
    · exact h r w q
    · have e : r / nPr L ^ n = p := Nat.div_eq_of_lt_le (by rw [Nat.mul_comm]; omega) (by rw [Nat.mul_comm, Nat.mul_succ]; omega)
      obtain ⟨q1, q2⟩ := q
      rw [e] at q1 q2
      refine h3 _ ?_ q2
      have := Nat.div_add_mod r (nPr L ^ n)
      rw [e] at this
      omega
theorem dg_q0 {P n p s' : Nat} (hp : p < P) (hs : s' < P ^ n) : dg P (n + 1) (P ^ n * p + s') 0 = p := by
  have hb : P ^ n * p + s' < P ^ (n + 1) := by
    have : P ^ n * (p + 1) ≤ P ^ n * P := Nat.mul_le_mul_left _ hp
    rw [Nat.mul_succ] at this
    rw [Nat.pow_succ]
    omega
  rw [dg_h hb, Nat.mul_add_div (by omega), Nat.div_eq_of_lt hs, Nat.add_zero]
theorem dg_qs {P n p s' k : Nat} (hs : s' < P ^ n) (hk : k < n) : dg P (n + 1) (P ^ n * p + s') (k + 1) = dg P n s' k := by rw [dg_s hk, Nat.mul_add_mod, Nat.mod_eq_of_lt hs]
-- the pairs in their order
def prI (n a b : Nat) : Nat := a * n - a * (a + 1) / 2 + (b - a - 1)
theorem prI_in {n a b : Nat} (h2 : 2 ≤ n) (h4 : n ≤ 4) (hab : a < b) (hb : b < n) : prI n a b < nPr n ∧ prT n (prI n a b) = (a, b) ∧ prI n a (b + 1) = prI n a b + 1 := by
  have k1 : ∀ n, n < 5 → ∀ a, a < 5 → ∀ b, b < 5 → (2 ≤ n ∧ a < b ∧ b < n) → prI n a b < nPr n := by decide
  have k2 : ∀ n, n < 5 → ∀ a, a < 5 → ∀ b, b < 5 → (2 ≤ n ∧ a < b ∧ b < n) → (prT n (prI n a b)).1 = a ∧ (prT n (prI n a b)).2 = b := by decide
  refine ⟨k1 n (by omega) a (by omega) b (by omega) ⟨h2, hab, hb⟩, ?_, ?_⟩
  · obtain ⟨q1, q2⟩ := k2 n (by omega) a (by omega) b (by omega) ⟨h2, hab, hb⟩
    exact Prod.ext q1 q2
  · unfold prI
    omega
theorem prI_nx {n a : Nat} (h2 : 2 ≤ n) (h4 : n ≤ 4) (ha : a < n) : prI n (a + 1) (a + 1 + 1) = prI n a n := by
  have key : ∀ n, n < 5 → 2 ≤ n → ∀ a, a < 5 → a < n → prI n (a + 1) (a + 1 + 1) = prI n a n := by decide
  exact key n (by omega) h2 a (by omega) ha
theorem prI_e {n : Nat} (h2 : 2 ≤ n) (h4 : n ≤ 4) : prI n n (n + 1) = nPr n := by
  have key : ∀ n, n < 5 → 2 ≤ n → prI n n (n + 1) = nPr n := by decide
  exact key n (by omega) h2
theorem prI_0 {n : Nat} : prI n 0 (0 + 1) = 0 := by unfold prI; omega
/-- five pairs are enough -/
theorem m16_5 {L : Nat} (h2 : 2 ≤ L) (h4 : L ≤ 4) (x : Int64) : ∃ n, n ≤ 5 ∧ m16 L x n := by
  have k2 : ∀ v, v < 16 → ∀ a, a < 4 → a + 1 < 2 → (gk (tc 2 (dg (nPr 2) 1 0)) (-1) v 1).testBit a = true → (gk (tc 2 (dg (nPr 2) 1 0)) (-1) v 1).testBit (a + 1) = true := by decide +kernel
  have k3 : ∀ v, v < 16 → ∀ a, a < 4 → a + 1 < 3 → (gk (tc 3 (dg (nPr 3) 3 6)) (-1) v 3).testBit a = true → (gk (tc 3 (dg (nPr 3) 3 6)) (-1) v 3).testBit (a + 1) = true := by decide +kernel
  have k4 : ∀ v, v < 16 → ∀ a, a < 4 → a + 1 < 4 → (gk (tc 4 (dg (nPr 4) 5 1143)) (-1) v 5).testBit a = true → (gk (tc 4 (dg (nPr 4) 5 1143)) (-1) v 5).testBit (a + 1) = true := by decide +kernel
  rcases (show L = 2 ∨ L = 3 ∨ L = 4 by omega) with e | e | e <;> subst e
  · exact ⟨1, by decide, 0, by decide, fun r _ a ha => k2 _ (rowX_tb x r).1 a (by omega) ha⟩
  · exact ⟨3, by decide, 6, by decide, fun r _ a ha => k3 _ (rowX_tb x r).1 a (by omega) ha⟩
  · exact ⟨5, by decide, 1143, by decide, fun r _ a ha => k4 _ (rowX_tb x r).1 a (by omega) ha⟩
