/-! WHAT IS MEANT: nets, rows, least rows, in plain numbers -/
abbrev Cmp : Type := Nat × Nat × Nat × Bool
abbrev Nt : Type := Nat × Nat × (Nat → Cmp)
noncomputable def tb (P : Prop) : Bool := @decide P (Classical.propDecidable P)
theorem tb_t {P : Prop} : tb P = true ↔ P := by unfold tb; exact @decide_eq_true_iff P (Classical.propDecidable P)
theorem tb_f {P : Prop} : tb P = false ↔ ¬ P := by unfold tb; exact @decide_eq_false_iff_not P (Classical.propDecidable P)
theorem tb_1 {P : Prop} (h : P) : tb P = true := tb_t.mpr h
theorem tb_0 {P : Prop} (h : ¬ P) : tb P = false := tb_f.mpr h
theorem tb_congr {P Q : Prop} (h : P ↔ Q) : tb P = tb Q := by
  by_cases q : Q
  · rw [tb_1 q, tb_1 (h.mpr q)]
  · rw [tb_0 q, tb_0 (fun p => q (h.mp p))]
theorem sv_congr {P Q : Prop} (h : P ↔ Q) : (some (Value.int (bI (tb P))) : Option Value) = some (.int (bI (tb Q))) := by rw [tb_congr h]
theorem tb_b {b : Bool} : tb (b = true) = b := by cases b; exact tb_0 (by decide); exact tb_1 rfl
def okC (n : Nat) (c : Cmp) : Prop := c.1 ≤ 4 ∧ c.2.1 < c.2.2.1 ∧ c.2.2.1 < n ∧ (c.1 ≠ 4 → c.2.2.2 = false)
def okN (t : Nt) : Prop := 2 ≤ t.1 ∧ t.1 ≤ 8 ∧ t.2.1 ≤ 40 ∧ ∀ i, i < t.2.1 → okC t.1 (t.2.2 i)
def actK (c : Cmp) : Nat := if c.1 = 4 then (if c.2.2.2 = true then 0 else 2) else c.1
def chgK (k : Nat) (how : Int) : Bool := if k = 0 then decide (0 < how) else if k = 1 then decide (how < 0) else decide (k = 3)
def chg (c : Cmp) (how : Int) : Bool := chgK (actK c) how
def hw (v a b : Nat) : Int := ((v.testBit a).toNat : Int) - ((v.testBit b).toNat : Int)
def stp (c : Cmp) (v : Nat) : Nat := if chg c (hw v c.2.1 c.2.2.1) = true ∧ hw v c.2.1 c.2.2.1 ≠ 0 then v ^^^ 2 ^ c.2.1 ^^^ 2 ^ c.2.2.1 else v
/-- a row behind the first so many comparers, the one numbered s being stuck -/
def gk (f : Nat → Cmp) (s : Int) (v : Nat) : Nat → Nat
  | 0 => v
  | i + 1 => if (i : Int) = s then gk f s v i else stp (f i) (gk f s v i)
def Ris (n v : Nat) : Prop := ∀ a, a + 1 < n → v.testBit a = true → v.testBit (a + 1) = true
/-- the least number below N of a kind -/
def isL (N : Nat) (P : Nat → Prop) (o : Option Nat) : Prop := match o with
  | none => ∀ r, r < N → ¬ P r
  | some k => k < N ∧ P k ∧ ∀ r, r < k → ¬ P r
theorem isL_ex (N : Nat) (P : Nat → Prop) : ∃ o, isL N P o := by
  by_cases h : ∃ r, r < N ∧ P r
  · obtain ⟨k, ⟨h1, h2⟩, h3⟩ := pk_least (fun r => r < N ∧ P r) h
    exact ⟨some k, h1, h2, fun r hr hp => h3 r hr ⟨Nat.lt_trans hr h1, hp⟩⟩
  · exact ⟨none, fun r hr hp => h ⟨r, hr, hp⟩⟩
theorem isL_un {N : Nat} {P : Nat → Prop} {o o' : Option Nat} (h : isL N P o) (h' : isL N P o') : o = o' := by
  cases o with
  | none =>
    cases o' with
    | none => rfl
    | some k => exact absurd h'.2.1 (h k h'.1)
  | some j =>
    cases o' with
    | none => exact absurd h.2.1 (h' j h.1)
    | some k =>
      rcases Nat.lt_trichotomy j k with q | q | q
      · exact absurd h.2.1 (h'.2.2 j q)
      · rw [q]
      · exact absurd h'.2.1 (h.2.2 k q)
noncomputable def lst (N : Nat) (P : Nat → Prop) : Option Nat := Classical.choose (isL_ex N P)
theorem lst_is (N : Nat) (P : Nat → Prop) : isL N P (lst N P) := Classical.choose_spec (isL_ex N P)
theorem lst_eq {N : Nat} {P : Nat → Prop} {o : Option Nat} (h : isL N P o) : lst N P = o := isL_un (lst_is N P) h
theorem lst_congr {N : Nat} {P P' : Nat → Prop} (h : ∀ r, r < N → (P r ↔ P' r)) : lst N P = lst N P' := by
  refine lst_eq ?_
  have q := lst_is N P'
  revert q
  cases lst N P' with
  | none => exact fun q r hr hp => q r hr ((h r hr).mp hp)
  | some k => exact fun q => ⟨q.1, (h k q.1).mpr q.2.1, fun r hr hp => q.2.2 r hr ((h r (Nat.lt_trans hr q.1)).mp hp)⟩
/-- how many below N -/
noncomputable def cnt (P : Nat → Prop) : Nat → Nat
  | 0 => 0
  | i + 1 => cnt P i + (cond (tb (P i)) 1 0)
theorem cnt_le (P : Nat → Prop) : ∀ n, cnt P n ≤ n
  | 0 => Nat.le_refl _
  | n + 1 => by
    have := cnt_le P n
    unfold cnt
    cases tb (P n) <;> simp <;> omega
/-- a row that comes out not rising, comparer s being stuck -/
def bad (t : Nt) (s : Int) (r : Nat) : Prop := ¬ Ris t.1 (gk t.2.2 s r t.2.1)
theorem hw_c (v a b : Nat) : hw v a b = 1 ∨ hw v a b = 0 ∨ hw v a b = -1 := by
  unfold hw
  cases v.testBit a <;> cases v.testBit b <;> simp
theorem bI_sub (p q : Bool) : (bI p - bI q).toInt = ((p.toNat : Int) - (q.toNat : Int)) := by cases p <;> cases q <;> decide
theorem bI_hw (v a b : Nat) : (bI (v.testBit a) - bI (v.testBit b)).toInt = hw v a b := bI_sub _ _
theorem xor_lt {a b n : Nat} (ha : a < 2 ^ n) (hb : b < 2 ^ n) : a ^^^ b < 2 ^ n := Nat.xor_lt_two_pow ha hb
theorem stp_lt {c : Cmp} {v n : Nat} (h : v < 2 ^ n) (hc : okC n c) : stp c v < 2 ^ n := by
  unfold stp
  split
  · exact xor_lt (xor_lt h (Nat.pow_lt_pow_right (by omega) (Nat.lt_trans hc.2.1 hc.2.2.1))) (Nat.pow_lt_pow_right (by omega) hc.2.2.1)
  · exact h
theorem gk_lt {t : Nt} (h : okN t) {s : Int} {r : Nat} (hr : r < 2 ^ t.1) : ∀ i, i ≤ t.2.1 → gk t.2.2 s r i < 2 ^ t.1
  | 0, _ => hr
  | i + 1, hi => by
    have := gk_lt h (s := s) hr i (by omega)
    unfold gk
    split
    · exact this
    · exact stp_lt this (h.2.2.2 i (by omega))
theorem p2_le {n : Nat} (h : n ≤ 8) : 2 ^ n ≤ 256 := Nat.pow_le_pow_right (by omega) h
-- bits of ints
theorem nI_bit {v a : Nat} (hv : v < 2 ^ 31) (ha : a < 31) : (nI v >>> (nI a &&& 31)) &&& nI 1 = bI (v.testBit a) := by
  have h31 : nI a &&& 31 = nI a := by
    rw [show (31 : Int32) = nI 31 from rfl, pk_andN (by omega) 5 (by decide)]
    rw [Nat.mod_eq_of_lt (by omega)]
  have hs : ((nI a).toBitVec.smod 32).toNat = a := by
    have : ∀ x, x < 31 → ((nI x).toBitVec.smod 32).toNat = x := by decide +kernel
    exact this a ha
  rw [h31, pk_shrN hv _ a hs, pk_andN (by have := Nat.div_le_self v (2 ^ a); omega) 1 (by decide)]
  rw [Nat.testBit_eq_decide_div_mod_eq]
  have hm := Nat.mod_lt (v / 2 ^ a) (show 0 < 2 by omega)
  rcases (show v / 2 ^ a % 2 = 0 ∨ v / 2 ^ a % 2 = 1 by omega) with e | e <;> simp [e, bI]
theorem nI_pow {a : Nat} (ha : a < 31) : nI 1 <<< (nI a &&& 31) = nI (2 ^ a) := by
  have : ∀ x, x < 31 → nI 1 <<< (nI x &&& 31) = nI (2 ^ x) := by decide +kernel
  exact this a ha
theorem nI_xor (a b : Nat) : nI a ^^^ nI b = nI (a ^^^ b) := by
  apply Int32.toBitVec_inj.mp
  show (BitVec.ofNat 32 a) ^^^ (BitVec.ofNat 32 b) = BitVec.ofNat 32 (a ^^^ b)
  apply BitVec.eq_of_toNat_eq
  simp only [BitVec.toNat_xor, BitVec.toNat_ofNat]
  rw [Nat.xor_mod_two_pow]
