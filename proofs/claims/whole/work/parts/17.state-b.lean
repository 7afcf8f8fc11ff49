/-! begins and restore, as the state has them -/
theorem sh_in {I : Nat → Nat → Int32} {b : Nat} {t : Nt} (hb : b < 24) (h40 : t.2.1 ≤ 40) (h : nA (I 90 (b + 1)) (I 91 (b + 1)) (I 92) (I 93) (I 94) (I 95) (40 * (b + 1)) t) : nA (shB (shA I 24) 960 90 b) (shB (shA I 24) 960 91 b) (shB (shA I 24) 960 92) (shB (shA I 24) 960 93) (shB (shA I 24) 960 94) (shB (shA I 24) 960 95) (40 * b) t := by
  obtain ⟨v2, v3, v4, v5⟩ := shB_v (shA I 24) 960
  obtain ⟨v0, v1⟩ := shA_v I 24
  obtain ⟨h1, h2, h3⟩ := h
  rw [shB_o (by decide) (by decide) (by decide) (by decide), shB_o (by decide) (by decide) (by decide) (by decide)]
  refine ⟨by rw [v0, if_pos hb]; exact h1, by rw [v1, if_pos hb]; exact h2, fun i hi => ?_⟩
  have h4 := h3 i hi
  have hn : 40 * b + i < 960 := by omega
  rw [v2, v3, v4, v5, if_pos hn, if_pos hn, if_pos hn, if_pos hn, shA_o (by decide) (by decide), shA_o (by decide) (by decide), shA_o (by decide) (by decide), shA_o (by decide) (by decide), show 40 * b + i + 40 = 40 * (b + 1) + i by omega]
  exact ⟨h4.1, h4.2.1, h4.2.2.1, fun q => by rw [h4.2.2.2 q, zn_b]⟩
theorem sh_out {I : Nat → Nat → Int32} {b : Nat} {t : Nt} (hb : 25 ≤ b) (h : nA (I 90 b) (I 91 b) (I 92) (I 93) (I 94) (I 95) (40 * b) t) : nA (shB (shA I 24) 960 90 b) (shB (shA I 24) 960 91 b) (shB (shA I 24) 960 92) (shB (shA I 24) 960 93) (shB (shA I 24) 960 94) (shB (shA I 24) 960 95) (40 * b) t := by
  obtain ⟨v2, v3, v4, v5⟩ := shB_v (shA I 24) 960
  obtain ⟨v0, v1⟩ := shA_v I 24
  obtain ⟨h1, h2, h3⟩ := h
  rw [shB_o (by decide) (by decide) (by decide) (by decide), shB_o (by decide) (by decide) (by decide) (by decide)]
  refine ⟨by rw [v0, if_neg (by omega)]; exact h1, by rw [v1, if_neg (by omega)]; exact h2, fun i hi => ?_⟩
  have hn : ¬ 40 * b + i < 960 := by omega
  rw [v2, v3, v4, v5, if_neg hn, if_neg hn, if_neg hn, if_neg hn, shA_o (by decide) (by decide), shA_o (by decide) (by decide), shA_o (by decide) (by decide), shA_o (by decide) (by decide)]
  exact h3 i hi
theorem sh_k {I : Nat → Nat → Int32} {k : Nat} (h0 : k ≠ 90) (h1 : k ≠ 91) (h : k ≠ 92) (h2 : k ≠ 93) (h3 : k ≠ 94) (h4 : k ≠ 95) : shB (shA I 24) 960 k = I k := by rw [shB_o h h2 h3 h4, shA_o h0 h1]
theorem AbM_beS {I : Nat → Nat → Int32} {L : Nat → Nat → Int64} {g : Sg} (h : AbM I L g) (ok : okG g) (hq : g.2.1.length < 25) : AbM (beS I g.2.1.length) L (g.1, g.1 :: g.2.1, g.2.2) := by
  obtain ⟨h1, ⟨h2a, h2b, h2c⟩, h3, h4, h5, h6⟩ := h
  have e5 : ∀ j, j ≠ 12 → beS I g.2.1.length 85 j = I 85 j := fun j hj => by unfold beS; rw [up2_m _ _ _ hj, stM_85]
  have ek : ∀ k, k ≠ 85 → beS I g.2.1.length k = stM I g.2.1.length k := fun k hk => up2_n _ _ _ hk
  have eo : ∀ k, k ≠ 85 → k ≠ 90 → k ≠ 91 → k ≠ 92 → k ≠ 93 → k ≠ 94 → k ≠ 95 → beS I g.2.1.length k = I k := fun k a0 a1 a2 a3 a4 a5 a6 => by rw [ek k a0, stM_o a1 a2 a3 a4 a5 a6]
  have h40 := ok.1.2.2.1
  refine ⟨?_, ⟨?_, ?_, ?_⟩, ?_, ?_, ?_, ?_⟩
  · rw [e5 0 (by decide), e5 1 (by decide), eo 86 (by decide) (by decide) (by decide) (by decide) (by decide) (by decide) (by decide), eo 87 (by decide) (by decide) (by decide) (by decide) (by decide) (by decide) (by decide), eo 88 (by decide) (by decide) (by decide) (by decide) (by decide) (by decide) (by decide), eo 89 (by decide) (by decide) (by decide) (by decide) (by decide) (by decide) (by decide)]
    exact h1
  · show up2 _ 85 12 _ 85 12 = _
    rw [up2_s]
    rfl
  · show (g.1 :: g.2.1).length ≤ 25
    rw [List.length_cons]; omega
  · intro j t hj
    have hlen : (g.1 :: g.2.1).length = g.2.1.length + 1 := List.length_cons
    rw [ek 90 (by decide), ek 91 (by decide), ek 92 (by decide), ek 93 (by decide), ek 94 (by decide), ek 95 (by decide)]
    show nA (stM I g.2.1.length 90 ((g.1 :: g.2.1).length - 1 - j)) (stM I g.2.1.length 91 ((g.1 :: g.2.1).length - 1 - j)) _ _ _ _ (40 * ((g.1 :: g.2.1).length - 1 - j)) t
    rw [hlen]
    cases j with
    | zero =>
      rw [show g.2.1.length + 1 - 1 - 0 = g.2.1.length by omega]
      have e : g.1 = t := by simpa using hj
      subst e
      exact stM_in h1 h40
    | succ j =>
      have hj2 : g.2.1[j]? = some t := by simpa using hj
      have hl : j < g.2.1.length := (List.getElem?_eq_some_iff.mp hj2).1
      rw [show g.2.1.length + 1 - 1 - (j + 1) = g.2.1.length - 1 - j by omega]
      exact stM_out (by omega) (h2c j t hj2) (ok.2.1 t (List.mem_of_getElem? hj2)).2.2.1
  · rw [ek 90 (by decide), ek 91 (by decide), ek 92 (by decide), ek 93 (by decide), ek 94 (by decide), ek 95 (by decide)]
    intro k hk
    have q := h3 k hk
    show match g.2.2.1 k with | some t => _ | none => _
    cases hs : g.2.2.1 k with
    | none =>
      rw [hs] at q
      show stM I g.2.1.length 90 (25 + k) = nI 0
      rw [(stM_v I g.2.1.length).1, if_neg (by omega)]
      exact q
    | some t =>
      rw [hs] at q
      exact stM_out (by omega) q (ok.2.2.2.1 k t hk hs).2.2.1
  · rw [eo 96 (by decide) (by decide) (by decide) (by decide) (by decide) (by decide) (by decide), eo 97 (by decide) (by decide) (by decide) (by decide) (by decide) (by decide) (by decide)]; exact h4
  · rw [e5 17 (by decide), eo 99 (by decide) (by decide) (by decide) (by decide) (by decide) (by decide) (by decide)]; exact h5
  · rw [e5 18 (by decide)]; exact h6
theorem AbM_be {I : Nat → Nat → Int32} {L : Nat → Nat → Int64} {g : Sg} (h : AbM I L g) (ok : okG g) : AbM (beM I g.2.1.length) L (gB g) := by
  by_cases hq : g.2.1.length = 25
  · unfold beM
    rw [if_pos hq]
    obtain ⟨h1, ⟨h2a, h2b, h2c⟩, h3, h4, h5, h6⟩ := h
    have e5 : ∀ j, j ≠ 12 → up2 (shB (shA I 24) 960) 85 12 (nI 24) 85 j = I 85 j := fun j hj => by rw [up2_m _ _ _ hj, sh_k (by decide) (by decide) (by decide) (by decide) (by decide) (by decide)]
    have ek : ∀ k, k ≠ 85 → up2 (shB (shA I 24) 960) 85 12 (nI 24) k = shB (shA I 24) 960 k := fun k hk => up2_n _ _ _ hk
    have eo : ∀ k, k ≠ 85 → k ≠ 90 → k ≠ 91 → k ≠ 92 → k ≠ 93 → k ≠ 94 → k ≠ 95 → up2 (shB (shA I 24) 960) 85 12 (nI 24) k = I k := fun k a0 a1 a2 a3 a4 a5 a6 => by rw [ek k a0, sh_k a1 a2 a3 a4 a5 a6]
    have hl : (g.2.1.take 24).length = 24 := by rw [List.length_take]; omega
    have key : AbM (up2 (shB (shA I 24) 960) 85 12 (nI 24)) L (g.1, g.2.1.take 24, g.2.2) := by
      refine ⟨?_, ⟨?_, ?_, ?_⟩, ?_, ?_, ?_, ?_⟩
      · rw [e5 0 (by decide), e5 1 (by decide), eo 86 (by decide) (by decide) (by decide) (by decide) (by decide) (by decide) (by decide), eo 87 (by decide) (by decide) (by decide) (by decide) (by decide) (by decide) (by decide), eo 88 (by decide) (by decide) (by decide) (by decide) (by decide) (by decide) (by decide), eo 89 (by decide) (by decide) (by decide) (by decide) (by decide) (by decide) (by decide)]
        exact h1
      · show up2 _ 85 12 _ 85 12 = nI (g.2.1.take 24).length
        rw [up2_s, hl]
      · show (g.2.1.take 24).length ≤ 25
        omega
      · intro j t hj
        rw [ek 90 (by decide), ek 91 (by decide), ek 92 (by decide), ek 93 (by decide), ek 94 (by decide), ek 95 (by decide)]
        have hj : (g.2.1.take 24)[j]? = some t := hj
        have hjl : j < 24 := by have := (List.getElem?_eq_some_iff.mp hj).1; omega
        rw [List.getElem?_take, if_pos hjl] at hj
        have q := h2c j t hj
        show nA (shB (shA I 24) 960 90 ((g.2.1.take 24).length - 1 - j)) (shB (shA I 24) 960 91 ((g.2.1.take 24).length - 1 - j)) _ _ _ _ (40 * ((g.2.1.take 24).length - 1 - j)) t
        rw [hl]
        rw [hq, show 25 - 1 - j = 24 - 1 - j + 1 by omega] at q
        exact sh_in (by omega) (ok.2.1 t (List.mem_of_getElem? hj)).2.2.1 q
      · rw [ek 90 (by decide), ek 91 (by decide), ek 92 (by decide), ek 93 (by decide), ek 94 (by decide), ek 95 (by decide)]
        intro k hk
        have q := h3 k hk
        show match g.2.2.1 k with | some t => _ | none => _
        cases hs : g.2.2.1 k with
        | none =>
          rw [hs] at q
          show shB (shA I 24) 960 90 (25 + k) = nI 0
          rw [shB_o (by decide) (by decide) (by decide) (by decide), (shA_v I 24).1, if_neg (by omega)]
          exact q
        | some t =>
          rw [hs] at q
          exact sh_out (by omega) q
      · rw [eo 96 (by decide) (by decide) (by decide) (by decide) (by decide) (by decide) (by decide), eo 97 (by decide) (by decide) (by decide) (by decide) (by decide) (by decide) (by decide)]; exact h4
      · rw [e5 17 (by decide), eo 99 (by decide) (by decide) (by decide) (by decide) (by decide) (by decide) (by decide)]; exact h5
      · rw [e5 18 (by decide)]; exact h6
    have q := AbM_beS key (g := (g.1, g.2.1.take 24, g.2.2)) ⟨ok.1, fun t ht => ok.2.1 t (List.mem_of_mem_take ht), by show (g.2.1.take 24).length ≤ 25; omega, ok.2.2.2⟩ (by show (g.2.1.take 24).length < 25; omega)
    have q2 : AbM (beS (up2 (shB (shA I 24) 960) 85 12 (nI 24)) (g.2.1.take 24).length) L (g.1, g.1 :: g.2.1.take 24, g.2.2) := q
    rw [hl] at q2
    have e : gB g = (g.1, g.1 :: g.2.1.take 24, g.2.2) := by unfold gB; rw [List.take_succ_cons]
    rw [e]
    exact q2
  · have hl := ok.2.2.1
    unfold beM
    rw [if_neg hq]
    have e : gB g = (g.1, g.1 :: g.2.1, g.2.2) := by unfold gB; rw [List.take_of_length_le (by rw [List.length_cons]; omega)]
    rw [e]
    exact AbM_beS h ok (by omega)
theorem beM_o {I : Nat → Nat → Int32} {q k : Nat} (hk : k < 85) : beM I q k = I k := by
  unfold beM
  split
  · unfold beS
    rw [up2_n _ _ _ (by omega), stM_o (by omega) (by omega) (by omega) (by omega) (by omega) (by omega), up2_n _ _ _ (by omega), sh_k (by omega) (by omega) (by omega) (by omega) (by omega) (by omega)]
  · unfold beS
    rw [up2_n _ _ _ (by omega), stM_o (by omega) (by omega) (by omega) (by omega) (by omega) (by omega)]
-- restore
theorem rsR_o {a : Nat} {I : Nat → Nat → Int32} {k : Nat} (h : k ≠ 86) (h2 : k ≠ 87) (h3 : k ≠ 88) (h4 : k ≠ 89) : ∀ i, rsR a I i k = I k
  | 0 => rfl
  | i + 1 => by unfold rsR; rw [up2_n _ _ _ h4, up2_n _ _ _ h3, up2_n _ _ _ h2, up2_n _ _ _ h]; exact rsR_o h h2 h3 h4 i
theorem rsR_k {a : Nat} {I : Nat → Nat → Int32} (i : Nat) : (∀ j, rsR a I i 86 j = if j < i then I 92 (40 * a + j) else I 86 j) ∧ (∀ j, rsR a I i 87 j = if j < i then I 93 (40 * a + j) else I 87 j) ∧ (∀ j, rsR a I i 88 j = if j < i then I 94 (40 * a + j) else I 88 j) ∧ (∀ j, rsR a I i 89 j = if j < i then zn (I 95 (40 * a + j)) else I 89 j) := by
  induction i with
  | zero => refine ⟨fun j => ?_, fun j => ?_, fun j => ?_, fun j => ?_⟩ <;> rw [if_neg (by omega)] <;> rfl
  | succ i ih =>
    obtain ⟨h1, h2, h3, h4⟩ := ih
    have o : ∀ k, k ≠ 86 → k ≠ 87 → k ≠ 88 → k ≠ 89 → rsR a I i k = I k := fun k a1 a2 a3 a4 => rsR_o a1 a2 a3 a4 i
    have key : ∀ (f : Nat → Int32) (x : Int32) (j : Nat) (g z : Nat → Int32), (∀ j, f j = if j < i then g j else z j) → x = g i → (if j = i then x else f j) = if j < i + 1 then g j else z j := by
      intro f x j g z hf hx
      by_cases hj : j = i
      · rw [if_pos hj, if_pos (by omega), hx, hj]
      · rw [if_neg hj, hf]
        by_cases h : j < i
        · rw [if_pos h, if_pos (by omega)]
        · rw [if_neg h, if_neg (by omega)]
    refine ⟨fun j => ?_, fun j => ?_, fun j => ?_, fun j => ?_⟩
    · unfold rsR
      rw [up2_n _ _ _ (by decide), up2_n _ _ _ (by decide), up2_n _ _ _ (by decide), up2_v]
      simp only [true_and]
      exact key _ _ j (fun q => I 92 (40 * a + q)) _ h1 (by rw [o 92 (by decide) (by decide) (by decide) (by decide)])
    · unfold rsR
      rw [up2_n _ _ _ (by decide), up2_n _ _ _ (by decide), up2_v]
      simp only [true_and]
      rw [up2_n _ _ _ (by decide)]
      exact key _ _ j (fun q => I 93 (40 * a + q)) _ h2 (by rw [o 93 (by decide) (by decide) (by decide) (by decide)])
    · unfold rsR
      rw [up2_n _ _ _ (by decide), up2_v]
      simp only [true_and]
      rw [up2_n _ _ _ (by decide), up2_n _ _ _ (by decide)]
      exact key _ _ j (fun q => I 94 (40 * a + q)) _ h3 (by rw [o 94 (by decide) (by decide) (by decide) (by decide)])
    · unfold rsR
      rw [up2_v]
      simp only [true_and]
      rw [up2_n _ _ _ (by decide), up2_n _ _ _ (by decide), up2_n _ _ _ (by decide)]
      exact key _ _ j (fun q => zn (I 95 (40 * a + q))) _ h4 (by rw [o 95 (by decide) (by decide) (by decide) (by decide)])
theorem rsM_o {I : Nat → Nat → Int32} {a k : Nat} (h0 : k ≠ 85) (h : k ≠ 86) (h2 : k ≠ 87) (h3 : k ≠ 88) (h4 : k ≠ 89) : rsM I a k = I k := by
  unfold rsM
  rw [rsR_o h h2 h3 h4, up2_n _ _ _ h0, up2_n _ _ _ h0]
theorem rsM_85 {I : Nat → Nat → Int32} {a j : Nat} (h0 : j ≠ 0) (h1 : j ≠ 1) : rsM I a 85 j = I 85 j := by
  unfold rsM
  rw [rsR_o (by decide) (by decide) (by decide) (by decide), up2_m _ _ _ h1, up2_m _ _ _ h0]
theorem rsM_in {I : Nat → Nat → Int32} {a : Nat} {t : Nt} (h : nA (I 90 a) (I 91 a) (I 92) (I 93) (I 94) (I 95) (40 * a) t) (h40 : t.2.1 ≤ 40) : nA (rsM I a 85 0) (rsM I a 85 1) (rsM I a 86) (rsM I a 87) (rsM I a 88) (rsM I a 89) 0 t := by
  obtain ⟨v2, v3, v4, v5⟩ := rsR_k (a := a) (I := up2 (up2 I 85 0 (I 90 a)) 85 1 (I 91 a)) 40
  have e : ∀ k, k ≠ 85 → up2 (up2 I 85 0 (I 90 a)) 85 1 (I 91 a) k = I k := fun k h0 => by rw [up2_n _ _ _ h0, up2_n _ _ _ h0]
  obtain ⟨h1, h2, h3⟩ := h
  refine ⟨?_, ?_, fun i hi => ?_⟩
  · unfold rsM
    rw [rsR_o (by decide) (by decide) (by decide) (by decide), up2_m _ _ _ (by decide), up2_s]
    exact h1
  · unfold rsM
    rw [rsR_o (by decide) (by decide) (by decide) (by decide), up2_s]
    exact h2
  · have h4 := h3 i hi
    have hn : i < 40 := by omega
    unfold rsM
    rw [Nat.zero_add, v2, v3, v4, v5, if_pos hn, if_pos hn, if_pos hn, if_pos hn, e 92 (by decide), e 93 (by decide), e 94 (by decide), e 95 (by decide)]
    exact ⟨h4.1, h4.2.1, h4.2.2.1, fun q => by rw [h4.2.2.2 q, zn_b]⟩
/-- the net is another one: the rest as it was -/
theorem AbM_net {I I' : Nat → Nat → Int32} {L : Nat → Nat → Int64} {g : Sg} {t : Nt} (h : AbM I L g) (hn : nA (I' 85 0) (I' 85 1) (I' 86) (I' 87) (I' 88) (I' 89) 0 t) (e5 : ∀ j, j ≠ 0 → j ≠ 1 → I' 85 j = I 85 j) (ek : ∀ k, 90 ≤ k → k ≤ 99 → I' k = I k) : AbM I' L (gN g t) := by
  obtain ⟨h1, h2, h3, h4, h5, h6⟩ := h
  refine ⟨hn, ?_, ?_, ?_, ?_, ?_⟩
  · rw [e5 12 (by decide) (by decide), ek 90 (by decide) (by decide), ek 91 (by decide) (by decide), ek 92 (by decide) (by decide), ek 93 (by decide) (by decide), ek 94 (by decide) (by decide), ek 95 (by decide) (by decide)]; exact h2
  · rw [ek 90 (by decide) (by decide), ek 91 (by decide) (by decide), ek 92 (by decide) (by decide), ek 93 (by decide) (by decide), ek 94 (by decide) (by decide), ek 95 (by decide) (by decide)]; exact h3
  · rw [ek 96 (by decide) (by decide), ek 97 (by decide) (by decide)]; exact h4
  · rw [e5 17 (by decide) (by decide), ek 99 (by decide) (by decide)]; exact h5
  · rw [e5 18 (by decide) (by decide)]; exact h6
