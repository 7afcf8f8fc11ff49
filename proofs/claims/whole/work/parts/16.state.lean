/-! THE STATE as it is meant, and how the reference holds it -/
abbrev Sg : Type := Nt × List Nt × (Nat → Option Nt) × (Nat → Nat × Nat × (Nat → Int64)) × (Nat × (Nat → Int32)) × Int32
def nA (l m : Int32) (a b c d : Nat → Int32) (off : Nat) (t : Nt) : Prop := l = nI t.1 ∧ m = nI t.2.1 ∧ ∀ i, i < t.2.1 → a (off + i) = nI (t.2.2 i).1 ∧ b (off + i) = nI (t.2.2 i).2.1 ∧ c (off + i) = nI (t.2.2 i).2.2.1 ∧ ((t.2.2 i).1 = 4 → d (off + i) = bI (t.2.2 i).2.2.2)
def hA (q : Int32) (l m a b c d : Nat → Int32) (h : List Nt) : Prop := q = nI h.length ∧ h.length ≤ 25 ∧ ∀ j t, h[j]? = some t → nA (l (h.length - 1 - j)) (m (h.length - 1 - j)) a b c d (40 * (h.length - 1 - j)) t
def sA (l m a b c d : Nat → Int32) (s : Nat → Option Nt) : Prop := ∀ k, k < 4 → match s k with
  | some t => nA (l (25 + k)) (m (25 + k)) a b c d (40 * (25 + k)) t
  | none => l (25 + k) = nI 0
def cA (a b : Nat → Int32) (v : Nat → Int64) (c : Nat → Nat × Nat × (Nat → Int64)) : Prop := ∀ k, k < 6 → a k = nI (c k).1 ∧ b k = nI (c k).2.1 ∧ ∀ i, i < 12 → v (12 * k + i) = (c k).2.2 i
def wA (q : Int32) (a : Nat → Int32) (w : Nat × (Nat → Int32)) : Prop := q = nI w.1 ∧ w.1 ≤ 80 ∧ ∀ i, i < w.1 → a i = w.2 i
def AbM (I : Nat → Nat → Int32) (L : Nat → Nat → Int64) (g : Sg) : Prop := nA (I 85 0) (I 85 1) (I 86) (I 87) (I 88) (I 89) 0 g.1 ∧ hA (I 85 12) (I 90) (I 91) (I 92) (I 93) (I 94) (I 95) g.2.1 ∧ sA (I 90) (I 91) (I 92) (I 93) (I 94) (I 95) g.2.2.1 ∧ cA (I 96) (I 97) (L 98) g.2.2.2.1 ∧ wA (I 85 17) (I 99) g.2.2.2.2.1 ∧ I 85 18 = g.2.2.2.2.2
def i32 (v : Int64) : Prop := -(2 ^ 31) ≤ v.toInt ∧ v.toInt < 2 ^ 31
def okG (g : Sg) : Prop := okN g.1 ∧ (∀ t ∈ g.2.1, okN t) ∧ g.2.1.length ≤ 25 ∧ (∀ k t, k < 4 → g.2.2.1 k = some t → okN t) ∧ (∀ k, k < 6 → (g.2.2.2.1 k).1 ≤ 7 ∧ (g.2.2.2.1 k).2.1 ≤ 12 ∧ ((g.2.2.2.1 k).1 = 6 → ∀ i, i < 12 → i32 ((g.2.2.2.1 k).2.2 i))) ∧ g.2.2.2.2.1.1 ≤ 80
theorem NM_nA {I : Nat → Nat → Int32} {t : Nt} : NM I t ↔ nA (I 85 0) (I 85 1) (I 86) (I 87) (I 88) (I 89) 0 t := by
  unfold NM nA
  simp only [Nat.zero_add]
theorem AbM.nm {I : Nat → Nat → Int32} {L : Nat → Nat → Int64} {g : Sg} (h : AbM I L g) : NM I g.1 := NM_nA.mpr h.1
-- next states
def gF (g : Sg) : Sg := (g.1, g.2.1, g.2.2.1, g.2.2.2.1, g.2.2.2.2.1, g.2.2.2.2.2 + nI 1)
def gN (g : Sg) (t : Nt) : Sg := (t, g.2)
/-- an act that can be undone begins -/
def gB (g : Sg) : Sg := (g.1, (g.1 :: g.2.1).take 25, g.2.2)
def gX (b : Bool) (g g' : Sg) : Sg := cond b (gF g) g'
theorem okG_F {g : Sg} (h : okG g) : okG (gF g) := h
theorem okG_B {g : Sg} (h : okG g) : okG (gB g) := by
  obtain ⟨h1, h2, h3, h4⟩ := h
  refine ⟨h1, fun t ht => ?_, ?_, h4⟩
  · rcases List.mem_cons.mp (List.mem_of_mem_take ht) with e | e
    · rw [e]; exact h1
    · exact h2 t e
  · simp only [gB, List.length_take]; omega
theorem AbM_F {I : Nat → Nat → Int32} {L : Nat → Nat → Int64} {g : Sg} (h : AbM I L g) : AbM (fM I) L (gF g) := by
  obtain ⟨h1, h2, h3, h4, h5, h6⟩ := h
  have e : ∀ j, j ≠ 18 → fM I 85 j = I 85 j := fun j hj => up2_m _ _ _ hj
  have e2 : ∀ k, k ≠ 85 → fM I k = I k := fun k hk => up2_n _ _ _ hk
  refine ⟨?_, ?_, ?_, ?_, ?_, ?_⟩
  · rw [e 0 (by decide), e 1 (by decide), e2 86 (by decide), e2 87 (by decide), e2 88 (by decide), e2 89 (by decide)]; exact h1
  · rw [e 12 (by decide), e2 90 (by decide), e2 91 (by decide), e2 92 (by decide), e2 93 (by decide), e2 94 (by decide), e2 95 (by decide)]; exact h2
  · rw [e2 90 (by decide), e2 91 (by decide), e2 92 (by decide), e2 93 (by decide), e2 94 (by decide), e2 95 (by decide)]; exact h3
  · rw [e2 96 (by decide), e2 97 (by decide)]; exact h4
  · rw [e 17 (by decide), e2 99 (by decide)]; exact h5
  · show up2 I 85 18 _ 85 18 = _
    rw [up2_s, h6]
    rfl
-- what a store makes
theorem stR_k {a : Nat} {I : Nat → Nat → Int32} (i : Nat) : (∀ j, stR a I i 92 j = if 40 * a ≤ j ∧ j < 40 * a + i then I 86 (j - 40 * a) else I 92 j) ∧ (∀ j, stR a I i 93 j = if 40 * a ≤ j ∧ j < 40 * a + i then I 87 (j - 40 * a) else I 93 j) ∧ (∀ j, stR a I i 94 j = if 40 * a ≤ j ∧ j < 40 * a + i then I 88 (j - 40 * a) else I 94 j) ∧ (∀ j, stR a I i 95 j = if 40 * a ≤ j ∧ j < 40 * a + i then zn (I 89 (j - 40 * a)) else I 95 j) := by
  induction i with
  | zero => refine ⟨fun j => ?_, fun j => ?_, fun j => ?_, fun j => ?_⟩ <;> rw [if_neg (by omega)] <;> rfl
  | succ i ih =>
    obtain ⟨h1, h2, h3, h4⟩ := ih
    have o : ∀ k, k ≠ 92 → k ≠ 93 → k ≠ 94 → k ≠ 95 → stR a I i k = I k := fun k a1 a2 a3 a4 => stR_o a1 a2 a3 a4 i
    have key : ∀ (f : Nat → Int32) (x : Int32) (j : Nat) (g z : Nat → Int32), (∀ j, f j = if 40 * a ≤ j ∧ j < 40 * a + i then g (j - 40 * a) else z j) → x = g i → (if j = 40 * a + i then x else f j) = if 40 * a ≤ j ∧ j < 40 * a + (i + 1) then g (j - 40 * a) else z j := by
      intro f x j g z hf hx
      by_cases hj : j = 40 * a + i
      · rw [if_pos hj, if_pos (by omega), hx]
        congr 1
        omega
      · rw [if_neg hj, hf]
        by_cases h : 40 * a ≤ j ∧ j < 40 * a + i
        · rw [if_pos h, if_pos (by omega)]
        · rw [if_neg h, if_neg (by omega)]
    refine ⟨fun j => ?_, fun j => ?_, fun j => ?_, fun j => ?_⟩
    · unfold stR
      rw [up2_n _ _ _ (by decide), up2_n _ _ _ (by decide), up2_n _ _ _ (by decide), up2_v]
      simp only [true_and]
      exact key _ _ j _ _ h1 (by rw [o 86 (by decide) (by decide) (by decide) (by decide)])
    · unfold stR
      rw [up2_n _ _ _ (by decide), up2_n _ _ _ (by decide), up2_v]
      simp only [true_and]
      rw [up2_n _ _ _ (by decide)]
      exact key _ _ j _ _ h2 (by rw [o 87 (by decide) (by decide) (by decide) (by decide)])
    · unfold stR
      rw [up2_n _ _ _ (by decide), up2_v]
      simp only [true_and]
      rw [up2_n _ _ _ (by decide), up2_n _ _ _ (by decide)]
      exact key _ _ j _ _ h3 (by rw [o 88 (by decide) (by decide) (by decide) (by decide)])
    · unfold stR
      rw [up2_v]
      simp only [true_and]
      rw [up2_n _ _ _ (by decide), up2_n _ _ _ (by decide), up2_n _ _ _ (by decide)]
      exact key _ _ j (fun q => zn (I 89 q)) _ h4 (by rw [o 89 (by decide) (by decide) (by decide) (by decide)])
theorem stM_o {I : Nat → Nat → Int32} {a k : Nat} (h0 : k ≠ 90) (h1 : k ≠ 91) (h : k ≠ 92) (h2 : k ≠ 93) (h3 : k ≠ 94) (h4 : k ≠ 95) : stM I a k = I k := by
  unfold stM
  rw [stR_o h h2 h3 h4, up2_n _ _ _ h1, up2_n _ _ _ h0]
theorem stM_v (I : Nat → Nat → Int32) (a : Nat) : (∀ j, stM I a 90 j = if j = a then I 85 0 else I 90 j) ∧ (∀ j, stM I a 91 j = if j = a then I 85 1 else I 91 j) ∧ (∀ j, stM I a 92 j = if 40 * a ≤ j ∧ j < 40 * a + 40 then I 86 (j - 40 * a) else I 92 j) ∧ (∀ j, stM I a 93 j = if 40 * a ≤ j ∧ j < 40 * a + 40 then I 87 (j - 40 * a) else I 93 j) ∧ (∀ j, stM I a 94 j = if 40 * a ≤ j ∧ j < 40 * a + 40 then I 88 (j - 40 * a) else I 94 j) ∧ (∀ j, stM I a 95 j = if 40 * a ≤ j ∧ j < 40 * a + 40 then zn (I 89 (j - 40 * a)) else I 95 j) := by
  have h := stR_k (a := a) (I := up2 (up2 I 90 a (I 85 0)) 91 a (I 85 1)) 40
  have e : ∀ k, k ≠ 90 → k ≠ 91 → up2 (up2 I 90 a (I 85 0)) 91 a (I 85 1) k = I k := fun k h0 h1 => by rw [up2_n _ _ _ h1, up2_n _ _ _ h0]
  rw [e 86 (by decide) (by decide), e 87 (by decide) (by decide), e 88 (by decide) (by decide), e 89 (by decide) (by decide), e 92 (by decide) (by decide), e 93 (by decide) (by decide), e 94 (by decide) (by decide), e 95 (by decide) (by decide)] at h
  refine ⟨fun j => ?_, fun j => ?_, h⟩
  · unfold stM
    rw [stR_o (by decide) (by decide) (by decide) (by decide), up2_n _ _ _ (by decide), up2_v]
    simp only [true_and]
  · unfold stM
    rw [stR_o (by decide) (by decide) (by decide) (by decide), up2_v]
    simp only [true_and]
    rw [up2_n _ _ _ (by decide)]
/-- the place that was stored to -/
theorem stM_in {I : Nat → Nat → Int32} {a : Nat} {t : Nt} (h : nA (I 85 0) (I 85 1) (I 86) (I 87) (I 88) (I 89) 0 t) (h40 : t.2.1 ≤ 40) : nA (stM I a 90 a) (stM I a 91 a) (stM I a 92) (stM I a 93) (stM I a 94) (stM I a 95) (40 * a) t := by
  obtain ⟨v0, v1, v2, v3, v4, v5⟩ := stM_v I a
  obtain ⟨h1, h2, h3⟩ := h
  refine ⟨by rw [v0, if_pos rfl]; exact h1, by rw [v1, if_pos rfl]; exact h2, fun i hi => ?_⟩
  have h4 := h3 i hi
  rw [Nat.zero_add] at h4
  rw [v2, v3, v4, v5, if_pos (by omega), if_pos (by omega), if_pos (by omega), if_pos (by omega), show 40 * a + i - 40 * a = i by omega]
  exact ⟨h4.1, h4.2.1, h4.2.2.1, fun q => by rw [h4.2.2.2 q, zn_b]⟩
/-- the other places -/
theorem stM_out {I : Nat → Nat → Int32} {a b : Nat} {t : Nt} (hb : b ≠ a) (h : nA (I 90 b) (I 91 b) (I 92) (I 93) (I 94) (I 95) (40 * b) t) (h40 : t.2.1 ≤ 40) : nA (stM I a 90 b) (stM I a 91 b) (stM I a 92) (stM I a 93) (stM I a 94) (stM I a 95) (40 * b) t := by
  obtain ⟨v0, v1, v2, v3, v4, v5⟩ := stM_v I a
  obtain ⟨h1, h2, h3⟩ := h
  refine ⟨by rw [v0, if_neg hb]; exact h1, by rw [v1, if_neg hb]; exact h2, fun i hi => ?_⟩
  have hn : ¬ (40 * a ≤ 40 * b + i ∧ 40 * b + i < 40 * a + 40) := by omega
  rw [v2, v3, v4, v5, if_neg hn, if_neg hn, if_neg hn, if_neg hn]
  exact h3 i hi
-- what a shift makes
theorem shA_o {I : Nat → Nat → Int32} {k : Nat} (h : k ≠ 90) (h2 : k ≠ 91) : ∀ i, shA I i k = I k
  | 0 => rfl
  | i + 1 => by unfold shA; rw [up2_n _ _ _ h2, up2_n _ _ _ h]; exact shA_o h h2 i
theorem shA_v (I : Nat → Nat → Int32) (i : Nat) : (∀ j, shA I i 90 j = if j < i then I 90 (j + 1) else I 90 j) ∧ (∀ j, shA I i 91 j = if j < i then I 91 (j + 1) else I 91 j) := by
  induction i with
  | zero => refine ⟨fun j => ?_, fun j => ?_⟩ <;> rw [if_neg (by omega)] <;> rfl
  | succ i ih =>
    obtain ⟨h1, h2⟩ := ih
    have key : ∀ (f z : Nat → Int32) (j : Nat), (∀ j, f j = if j < i then z (j + 1) else z j) → (if j = i then f (i + 1) else f j) = if j < i + 1 then z (j + 1) else z j := by
      intro f z j hf
      by_cases hj : j = i
      · subst hj
        rw [if_pos rfl, if_pos (by omega), hf, if_neg (by omega)]
      · rw [if_neg hj, hf]
        by_cases h : j < i
        · rw [if_pos h, if_pos (by omega)]
        · rw [if_neg h, if_neg (by omega)]
    refine ⟨fun j => ?_, fun j => ?_⟩
    · unfold shA
      rw [up2_n _ _ _ (by decide), up2_v]
      simp only [true_and]
      exact key _ _ j h1
    · unfold shA
      rw [up2_v]
      simp only [true_and]
      rw [up2_n _ _ _ (by decide)]
      exact key _ _ j h2
theorem shB_o {I : Nat → Nat → Int32} {k : Nat} (h : k ≠ 92) (h2 : k ≠ 93) (h3 : k ≠ 94) (h4 : k ≠ 95) : ∀ i, shB I i k = I k
  | 0 => rfl
  | i + 1 => by unfold shB; rw [up2_n _ _ _ h4, up2_n _ _ _ h3, up2_n _ _ _ h2, up2_n _ _ _ h]; exact shB_o h h2 h3 h4 i
theorem shB_v (I : Nat → Nat → Int32) (i : Nat) : (∀ j, shB I i 92 j = if j < i then I 92 (j + 40) else I 92 j) ∧ (∀ j, shB I i 93 j = if j < i then I 93 (j + 40) else I 93 j) ∧ (∀ j, shB I i 94 j = if j < i then I 94 (j + 40) else I 94 j) ∧ (∀ j, shB I i 95 j = if j < i then zn (I 95 (j + 40)) else I 95 j) := by
  induction i with
  | zero => refine ⟨fun j => ?_, fun j => ?_, fun j => ?_, fun j => ?_⟩ <;> rw [if_neg (by omega)] <;> rfl
  | succ i ih =>
    obtain ⟨h1, h2, h3, h4⟩ := ih
    have key : ∀ (f z : Nat → Int32) (w : Int32 → Int32) (j : Nat), (∀ j, f j = if j < i then w (z (j + 40)) else z j) → (if j = i then w (f (i + 40)) else f j) = if j < i + 1 then w (z (j + 40)) else z j := by
      intro f z w j hf
      by_cases hj : j = i
      · subst hj
        rw [if_pos rfl, if_pos (by omega), hf, if_neg (by omega)]
      · rw [if_neg hj, hf]
        by_cases h : j < i
        · rw [if_pos h, if_pos (by omega)]
        · rw [if_neg h, if_neg (by omega)]
    refine ⟨fun j => ?_, fun j => ?_, fun j => ?_, fun j => ?_⟩
    · unfold shB
      rw [up2_n _ _ _ (by decide), up2_n _ _ _ (by decide), up2_n _ _ _ (by decide), up2_v]
      simp only [true_and]
      exact key _ _ (fun x => x) j h1
    · unfold shB
      rw [up2_n _ _ _ (by decide), up2_n _ _ _ (by decide), up2_v]
      simp only [true_and]
      rw [up2_n _ _ _ (by decide)]
      exact key _ _ (fun x => x) j h2
    · unfold shB
      rw [up2_n _ _ _ (by decide), up2_v]
      simp only [true_and]
      rw [up2_n _ _ _ (by decide), up2_n _ _ _ (by decide)]
      exact key _ _ (fun x => x) j h3
    · unfold shB
      rw [up2_v]
      simp only [true_and]
      rw [up2_n _ _ _ (by decide), up2_n _ _ _ (by decide), up2_n _ _ _ (by decide)]
      exact key _ _ zn j h4
