/-! THE REFERENCE: the first of the shortest rows, by a counter in base P -/
def dg (P n s k : Nat) : Nat := s / P ^ (n - 1 - k) % P
theorem dg_lt {P n s k : Nat} (hP : 1 ≤ P) : dg P n s k < P := Nat.mod_lt _ hP
theorem dg_0 {P n k : Nat} : dg P n 0 k = 0 := by unfold dg; rw [Nat.zero_div, Nat.zero_mod]
/-- the last m places are all P - 1 -/
def Tl (P s m : Nat) : Prop := s % P ^ m + 1 = P ^ m
theorem Tl_0 {P s : Nat} : Tl P s 0 := by unfold Tl; rw [Nat.pow_zero, Nat.mod_one]
theorem Tl_s {P s m : Nat} (hP : 1 ≤ P) (h : Tl P s m) (hd : s / P ^ m % P = P - 1) : Tl P s (m + 1) := by
  unfold Tl at h ⊢
  rw [Nat.pow_succ, Nat.mod_mul, hd]
  have e : P ^ m * (P - 1) + P ^ m = P ^ m * P := by
    rw [← Nat.mul_succ]
    congr 1
    omega
  omega
theorem Tl_all {P n s : Nat} (hs : s < P ^ n) (h : Tl P s n) : s + 1 = P ^ n := by
  unfold Tl at h
  rw [Nat.mod_eq_of_lt hs] at h
  exact h
theorem dg_up {P n s j : Nat} (hP : 1 ≤ P) (hj : j ≤ n) (h1 : 1 ≤ j) (h : Tl P s (n - j)) (hd : s / P ^ (n - j) % P ≠ P - 1) : ∀ k, k < n → dg P n (s + 1) k = if k + 1 < j then dg P n s k else if k + 1 = j then dg P n s k + 1 else 0 := by
  intro k hk
  have hpos : ∀ e, 0 < P ^ e := fun e => Nat.pow_pos hP
  generalize hm : n - j = m at h hd
  have hq : s + 1 = (s / P ^ m + 1) * P ^ m := by
    have := Nat.div_add_mod s (P ^ m)
    unfold Tl at h
    rw [Nat.add_mul, Nat.one_mul, Nat.mul_comm]
    omega
  have hq2 : ∀ d, s / P ^ (m + d) = s / P ^ m / P ^ d := fun d => by rw [Nat.pow_add, Nat.div_div_eq_div_mul]
  have hq3 : ∀ d, (s + 1) / P ^ (m + d) = (s / P ^ m + 1) / P ^ d := fun d => by
    rw [hq, Nat.pow_add, ← Nat.div_div_eq_div_mul, Nat.mul_div_cancel _ (hpos m)]
  generalize s / P ^ m = q at *
  have hmod : q % P < P := Nat.mod_lt _ hP
  have hdiv : (q + 1) / P = q / P := by
    rw [Nat.succ_div, if_neg (fun hdv => by
      have := Nat.mod_eq_zero_of_dvd hdv
      have h2 := Nat.add_mod q 1 P
      rw [this] at h2
      rcases Nat.lt_or_ge 1 P with hp | hp
      · rw [Nat.mod_eq_of_lt hp, Nat.mod_eq_of_lt (by omega)] at h2
        omega
      · have : P = 1 := by omega
        subst this
        omega)]
    rfl
  unfold dg
  by_cases c1 : k + 1 < j
  · rw [if_pos c1]
    obtain ⟨d, hd2⟩ : ∃ d, n - 1 - k = m + (d + 1) := ⟨n - 1 - k - m - 1, by omega⟩
    rw [hd2, hq2, hq3, Nat.pow_succ, Nat.mul_comm, ← Nat.div_div_eq_div_mul, ← Nat.div_div_eq_div_mul, hdiv]
  · rw [if_neg c1]
    by_cases c2 : k + 1 = j
    · rw [if_pos c2, show n - 1 - k = m + 0 by omega, hq2, hq3, Nat.pow_zero, Nat.div_one, Nat.div_one, Nat.add_mod]
      rcases Nat.lt_or_ge 1 P with hp | hp
      · rw [Nat.mod_eq_of_lt hp, Nat.mod_eq_of_lt (by omega)]
      · have : P = 1 := by omega
        subst this
        omega
    · rw [if_neg c2]
      obtain ⟨d, hd2⟩ : ∃ d, m = n - 1 - k + (d + 1) := ⟨m - (n - 1 - k) - 1, by omega⟩
      rw [hq, hd2, Nat.pow_add, Nat.mul_comm (P ^ (n - 1 - k)), ← Nat.mul_assoc, Nat.mul_div_cancel _ (hpos _), Nat.pow_succ, ← Nat.mul_assoc, Nat.mul_mod_left]
def SrtN (t : Nt) (n s : Nat) : Prop := Srt t (tc t.1 (dg (nPr t.1) n s)) n
def misP (t : Nt) (n : Nat) : Prop := ∃ s, s < nPr t.1 ^ n ∧ SrtN t n s
theorem nPr_b {L : Nat} (h2 : 2 ≤ L) (h4 : L ≤ 4) : 1 ≤ nPr L ∧ nPr L ≤ 6 := by
  rcases (show L = 2 ∨ L = 3 ∨ L = 4 by omega) with e | e | e <;> subst e <;> decide
set_option maxHeartbeats 4000000 in
set_option maxRecDepth 100000 in
theorem lp_X6_shortest_z {l : Launch} {X : Cx} {V : Vx} {P : Option Value → (Nat → va_E) → Prop} {I : Nat → Nat → Int32} {L : Nat → Nat → Int64} (C : CX l X V RX6 cX6_shortest 5 wsX6_shortest 4 0 0 (some .int)) {q n : Nat} (hn : n < 10) (hx : ∀ J0, (∀ k, k ≠ 104 → J0 k = I k) → (∀ k, k < n → J0 104 k = nI 0) → E X V P 5 42 [(0, .ref (ad V 85)), (1, .int (nI q)), (2, .int (nI n)), (3, .int (nI n))] [] J0 L) : ∀ (r k : Nat) (J0 : Nat → Nat → Int32), k + r = n → (∀ k, k ≠ 104 → J0 k = I k) → (∀ j, j < k → J0 104 j = nI 0) → E X V P 5 24 [(0, .ref (ad V 85)), (1, .int (nI q)), (2, .int (nI n)), (3, .int (nI k))] [] J0 L := by
  intro r
  induction r with
  | zero =>
    intro k J0 hk hf hb
    obtain rfl : k = n := by omega
    refine J.iload_n C dX6_shortest_24 rfl ?_
    refine J.iload_n C dX6_shortest_25 rfl ?_
    first | refine J.icmp_ge_n C (by omega) (by omega) dX6_shortest_26 (tgt := 42) (by decide) (fun _ => ?_) (fun c26 => absurd c26 (by first | omega | decide | simp_all)) | refine J.icmp_ge_xn C (by omega) dX6_shortest_26 (tgt := 42) (by decide) (fun _ => ?_) (fun c26 => absurd c26 (by first | omega | decide | simp_all)) | refine J.icmp_ge_nx C (by omega) dX6_shortest_26 (tgt := 42) (by decide) (fun _ => ?_) (fun c26 => absurd c26 (by first | omega | decide | simp_all)) | refine J.icmp_ge C dX6_shortest_26 (tgt := 42) (by decide) (fun _ => ?_) (fun c26 => absurd c26 (by first | omega | decide | simp_all))
    exact hx J0 hf hb
  | succ r ih =>
    intro k J0 hk hf hb
    refine J.iload_n C dX6_shortest_24 rfl ?_
    refine J.iload_n C dX6_shortest_25 rfl ?_
    first | refine J.icmp_ge_n C (by omega) (by omega) dX6_shortest_26 (tgt := 42) (by decide) (fun c26 => absurd c26 (by first | omega | decide | simp_all)) (fun _ => ?_) | refine J.icmp_ge_xn C (by omega) dX6_shortest_26 (tgt := 42) (by decide) (fun c26 => absurd c26 (by first | omega | decide | simp_all)) (fun _ => ?_) | refine J.icmp_ge_nx C (by omega) dX6_shortest_26 (tgt := 42) (by decide) (fun c26 => absurd c26 (by first | omega | decide | simp_all)) (fun _ => ?_) | refine J.icmp_ge C dX6_shortest_26 (tgt := 42) (by decide) (fun c26 => absurd c26 (by first | omega | decide | simp_all)) (fun _ => ?_)
    refine J.aload_n C dX6_shortest_29 rfl ?_
    refine J.getR C flX6_shortest_70 (by first | decide | omega) rfl (by exact rfl) dX6_shortest_30 ?_
    refine J.iload_n C dX6_shortest_33 rfl ?_
    refine J.iconst C dX6_shortest_34 (v := (nI 0)) (by decide) ?_
    refine J.ias C (by first | exact rfl | assumption) (by first | exact rfl | exact rfl) (by first | (have h_ln := ln_all; omega) | omega) dX6_shortest_35 ?_
    refine J.iinc (ls' := [(0, _), (1, _), (2, _), (3, _)]) C dX6_shortest_36 rfl (by first | exact nI_inc _ 1 | exact rfl) (by decide) rfl ?_
    refine J.goto C dX6_shortest_39 (tgt := 24) (by decide) ?_
    refine ih (k + 1) _ (by omega) (fun q a => by rw [up2_n _ _ _ a]; exact hf q a) (fun j hj => ?_)
    by_cases e : j = k
    · rw [e, up2_s]
    · rw [up2_m _ _ _ e]; exact hb j (by omega)
set_option maxHeartbeats 4000000 in
set_option maxRecDepth 100000 in
theorem lp_X6_shortest_k {l : Launch} {X : Cx} {V : Vx} {P : Option Value → (Nat → va_E) → Prop} {I : Nat → Nat → Int32} {L : Nat → Nat → Int64} (C : CX l X V RX6 cX6_shortest 5 wsX6_shortest 4 0 0 (some .int)) {q n s : Nat} {y : Int32} (hq1 : 1 ≤ q) (hq6 : q ≤ 6) (hn : n < 10) (hs : s < q ^ n)
    (hx0 : s + 1 = q ^ n → ∀ J0, (∀ k, k ≠ 104 → J0 k = I k) → E X V P 5 44 [(0, .ref (ad V 85)), (1, .int (nI q)), (2, .int (nI n)), (3, .int (nI 0)), (4, .int (nI 0 - nI 1))] [] J0 L)
    (hx1 : s + 1 < q ^ n → ∀ J0 z, (∀ k, k ≠ 104 → J0 k = I k) → (∀ k, k < n → J0 104 k = nI (dg q n (s + 1) k)) → E X V P 5 44 [(0, .ref (ad V 85)), (1, .int (nI q)), (2, .int (nI n)), (3, .int (nI 1)), (4, .int z)] [] J0 L) : ∀ (j : Nat) (J0 : Nat → Nat → Int32), j ≤ n → (∀ k, k ≠ 104 → J0 k = I k) → (∀ k, k < j → J0 104 k = nI (dg q n s k)) → (∀ k, j ≤ k → k < n → J0 104 k = nI 0) → Tl q s (n - j) → E X V P 5 63 [(0, .ref (ad V 85)), (1, .int (nI q)), (2, .int (nI n)), (3, .int y), (4, .int (nI j - nI 1))] [] J0 L := by
  intro j
  induction j with
  | zero =>
    intro J0 hj hf hb hz hT
    have hall := Tl_all hs hT
    refine J.iload C dX6_shortest_63 rfl ?_
    refine J.if_lt_z C dX6_shortest_65 (tgt := 95) (by decide) (fun _ => ?_) (fun c65 => absurd c65 (by first | omega | decide | simp_all))
    refine J.iload C dX6_shortest_95 rfl ?_
    refine J.if_lt_z C dX6_shortest_97 (tgt := 104) (by decide) (fun _ => ?_) (fun c97 => absurd c97 (by first | omega | decide | simp_all))
    refine J.iconst C dX6_shortest_104 (v := (nI 0)) (by decide) ?_
    refine J.istore_n (ls' := [(0, _), (1, _), (2, _), (3, _), (4, _)]) C dX6_shortest_105 (by decide) rfl ?_
    refine J.iload_n C dX6_shortest_106 rfl ?_
    first | refine J.if_eq_b C dX6_shortest_107 (tgt := 121) (by decide) (fun _ => ?_) (fun c107 => absurd c107 (by first | omega | decide | simp_all)) | refine J.if_eq_n C (by omega) dX6_shortest_107 (tgt := 121) (by decide) (fun _ => ?_) (fun c107 => absurd c107 (by first | omega | decide | simp_all)) | refine J.if_eq C dX6_shortest_107 (tgt := 121) (by decide) (fun _ => ?_) (fun c107 => absurd c107 (by first | omega | decide | simp_all))
    refine J.goto C dX6_shortest_121 (tgt := 44) (by decide) ?_
    exact hx0 hall J0 hf
  | succ j ih =>
    intro J0 hj hf hb hz hT
    have hd := hb j (by omega)
    have hdl := dg_lt (P := q) (n := n) (s := s) (k := j) hq1
    have he : n - (j + 1) = n - 1 - j := by omega
    rw [show nI (j + 1) - nI 1 = nI j from by rw [pk_sub (by omega)]; rfl]
    refine J.iload C dX6_shortest_63 rfl ?_
    refine J.if_lt_n C (by omega) dX6_shortest_65 (tgt := 95) (by decide) ?_
    refine J.aload_n C dX6_shortest_68 rfl ?_
    refine J.getR C flX6_shortest_70 (by first | decide | omega) rfl (by exact rfl) dX6_shortest_69 ?_
    refine J.iload C dX6_shortest_72 rfl ?_
    refine J.ia C (by first | exact rfl | assumption) (by first | exact rfl | exact rfl) (by first | (have h_ln := ln_all; omega) | omega) (by first | ((repeat (first | refine up2_rd (by decide) ?_ | refine up2_rm (by decide) ?_ | refine up3_rd (by decide) ?_)) <;> (first | exact up2_s _ _ _ _ | assumption | exact rfl))) dX6_shortest_74 ?_
    refine J.iload_n C dX6_shortest_75 rfl ?_
    refine J.iconst C dX6_shortest_76 (v := (nI 1)) (by decide) ?_
    first | refine J.isub_n C (by omega) dX6_shortest_77 ?_ | refine J.isub C dX6_shortest_77 ?_
    first | refine J.icmp_ne_n C (by omega) (by omega) dX6_shortest_78 (tgt := 95) (by decide) (fun c78t => ?_) (fun c78f => ?_) | refine J.icmp_ne_xn C (by omega) dX6_shortest_78 (tgt := 95) (by decide) (fun c78t => ?_) (fun c78f => ?_) | refine J.icmp_ne_nx C (by omega) dX6_shortest_78 (tgt := 95) (by decide) (fun c78t => ?_) (fun c78f => ?_) | refine J.icmp_ne C dX6_shortest_78 (tgt := 95) (by decide) (fun c78t => ?_) (fun c78f => ?_)
    · refine J.iload C dX6_shortest_95 rfl ?_
      refine J.if_lt_n C (by omega) dX6_shortest_97 (tgt := 104) (by decide) ?_
      refine J.iconst C dX6_shortest_100 (v := (nI 1)) (by decide) ?_
      refine J.goto C dX6_shortest_101 (tgt := 105) (by decide) ?_
      refine J.istore_n (ls' := [(0, _), (1, _), (2, _), (3, _), (4, _)]) C dX6_shortest_105 (by decide) rfl ?_
      refine J.iload_n C dX6_shortest_106 rfl ?_
      first | refine J.if_eq_b C dX6_shortest_107 (tgt := 121) (by decide) (fun c107 => absurd c107 (by first | omega | decide | simp_all)) (fun _ => ?_) | refine J.if_eq_n C (by omega) dX6_shortest_107 (tgt := 121) (by decide) (fun c107 => absurd c107 (by first | omega | decide | simp_all)) (fun _ => ?_) | refine J.if_eq C dX6_shortest_107 (tgt := 121) (by decide) (fun c107 => absurd c107 (by first | omega | decide | simp_all)) (fun _ => ?_)
      refine J.aload_n C dX6_shortest_110 rfl ?_
      refine J.getR C flX6_shortest_70 (by first | decide | omega) rfl (by exact rfl) dX6_shortest_111 ?_
      refine J.iload C dX6_shortest_114 rfl ?_
      refine J.dup2 C dX6_shortest_116 rfl rfl ?_
      refine J.ia C (by first | exact rfl | assumption) (by first | exact rfl | exact rfl) (by first | (have h_ln := ln_all; omega) | omega) (by first | ((repeat (first | refine up2_rd (by decide) ?_ | refine up2_rm (by decide) ?_ | refine up3_rd (by decide) ?_)) <;> (first | exact up2_s _ _ _ _ | assumption | exact rfl))) dX6_shortest_117 ?_
      refine J.iconst C dX6_shortest_118 (v := (nI 1)) (by decide) ?_
      first | refine J.iadd_n C dX6_shortest_119 ?_ | refine J.iadd C dX6_shortest_119 ?_
      refine J.ias C (by first | exact rfl | assumption) (by first | exact rfl | exact rfl) (by first | (have h_ln := ln_all; omega) | omega) dX6_shortest_120 ?_
      refine J.goto C dX6_shortest_121 (tgt := 44) (by decide) ?_
      have hup := dg_up hq1 hj (by omega) hT (by rw [he]; show dg q n s j ≠ q - 1; omega)
      have hlt : s + 1 < q ^ n := by
        rcases Nat.lt_or_ge (s + 1) (q ^ n) with h | h
        · exact h
        · exfalso
          have h2 := hup j (by omega)
          rw [if_neg (by omega), if_pos rfl, show s + 1 = q ^ n by omega] at h2
          unfold dg at h2
          rw [show q ^ n = q ^ j * q * q ^ (n - 1 - j) by rw [Nat.mul_assoc, ← Nat.pow_succ', ← Nat.pow_add]; congr 1; omega, Nat.mul_div_cancel _ (Nat.pow_pos hq1), Nat.mul_mod_left] at h2
          omega
      refine hx1 hlt _ _ (fun q a => by rw [up2_n _ _ _ a]; exact hf q a) (fun k hk => ?_)
      rw [hup k hk]
      by_cases e : k = j
      · subst e
        rw [up2_s, if_neg (by omega), if_pos rfl]
      · rw [up2_m _ _ _ e]
        by_cases e2 : k < j
        · rw [if_pos (by omega)]; exact hb k (by omega)
        · rw [if_neg (by omega), if_neg (by omega)]; exact hz k (by omega) hk
    · refine J.aload_n C dX6_shortest_81 rfl ?_
      refine J.getR C flX6_shortest_70 (by first | decide | omega) rfl (by exact rfl) dX6_shortest_82 ?_
      refine J.iload C dX6_shortest_85 rfl ?_
      refine J.iconst C dX6_shortest_87 (v := (nI 0)) (by decide) ?_
      refine J.ias C (by first | exact rfl | assumption) (by first | exact rfl | exact rfl) (by first | (have h_ln := ln_all; omega) | omega) dX6_shortest_88 ?_
      refine J.iinc (ls' := [(0, _), (1, _), (2, _), (3, _), (4, _)]) C dX6_shortest_89 rfl (m1_s _) (by decide) rfl ?_
      refine J.goto C dX6_shortest_92 (tgt := 63) (by decide) ?_
      refine ih _ (by omega) (fun q a => by rw [up2_n _ _ _ a]; exact hf q a) (fun k hk => by rw [up2_m _ _ _ (by omega)]; exact hb k (by omega)) (fun k h1 h2 => ?_) ?_
      · by_cases e : k = j
        · rw [e, up2_s]
        · rw [up2_m _ _ _ e]; exact hz k (by omega) h2
      · have e := Tl_s hq1 hT (by rw [he]; show dg q n s j = q - 1; omega)
        rw [show n - (j + 1) + 1 = n - j by omega] at e
        exact e
set_option maxHeartbeats 4000000 in
set_option maxRecDepth 100000 in
theorem lp_X6_shortest_s {l : Launch} {X : Cx} {V : Vx} {P : Option Value → (Nat → va_E) → Prop} {I : Nat → Nat → Int32} {L : Nat → Nat → Int64} (C : CX l X V RX6 cX6_shortest 5 wsX6_shortest 4 0 0 (some .int)) {t : Nt} {n : Nat} (hN : NM I t) (ok : okN t) (h4 : t.1 ≤ 4) (hn : n < 10)
    (hP : ∀ J0 s, (∀ k, k ≠ 104 → J0 k = I k) → isL (nPr t.1 ^ n) (SrtN t n) (some s) → (∀ k, k < n → J0 104 k = nI (dg (nPr t.1) n s k)) → P (some (.int (nI n))) (mm V J0 L))
    (hx : ¬ misP t n → ∀ J0 z, (∀ k, k ≠ 104 → J0 k = I k) → E X V P 5 124 [(0, .ref (ad V 85)), (1, .int (nI (nPr t.1))), (2, .int (nI n)), (3, .int (nI 0)), (4, .int z)] [] J0 L) : ∀ (r s : Nat) (y : List (Nat × Value)) (J0 : Nat → Nat → Int32), s + r + 1 = nPr t.1 ^ n → (∀ k, k ≠ 104 → J0 k = I k) → (∀ k, k < n → J0 104 k = nI (dg (nPr t.1) n s k)) → (∀ z, z < s → ¬ SrtN t n z) → E X V P 5 44 ([(0, .ref (ad V 85)), (1, .int (nI (nPr t.1))), (2, .int (nI n)), (3, .int (nI 1))] ++ y) [] J0 L := by
  intro r
  obtain ⟨hp1, hp6⟩ := nPr_b ok.1 h4
  induction r with
  | zero =>
    intro s y J0 hs hf hb hz
    refine J.lsx (ls' := [(0, _), (1, _), (2, _), (3, _)]) (ex := y) rfl ?_
    have hNJ : NM J0 t := by unfold NM; rw [hf 85 (by decide), hf 86 (by decide), hf 87 (by decide), hf 88 (by decide), hf 89 (by decide)]; exact hN
    refine J.iload_n C dX6_shortest_44 rfl ?_
    first | refine J.if_eq_b C dX6_shortest_45 (tgt := 124) (by decide) (fun c45 => absurd c45 (by first | omega | decide | simp_all)) (fun _ => ?_) | refine J.if_eq_n C (by omega) dX6_shortest_45 (tgt := 124) (by decide) (fun c45 => absurd c45 (by first | omega | decide | simp_all)) (fun _ => ?_) | refine J.if_eq C dX6_shortest_45 (tgt := 124) (by decide) (fun c45 => absurd c45 (by first | omega | decide | simp_all)) (fun _ => ?_)
    refine J.aload_n C dX6_shortest_48 rfl ?_
    refine J.iload_n C dX6_shortest_49 rfl ?_
    refine J.cVDi (q := (RX6, TX6, 25)) (ci := 6) C (ok_X6_does l V _ _ hNJ ok h4 (by omega) (fun k hk => ⟨dg_lt hp1, hb k hk⟩)) gX6_shortest_X6_does rfl mfX6_does rfl (by decide) (by decide) (by first | decide | omega) rfl rfl rfl rfl (Nat.le_of_ble_eq_true rfl) dX6_shortest_50 (Nat.le_refl _) (Nat.le_refl _) ?_
    first | refine J.if_eq_b C dX6_shortest_53 (tgt := 58) (by decide) (fun c53t => ?_) (fun c53f => ?_) | refine J.if_eq_n C (by omega) dX6_shortest_53 (tgt := 58) (by decide) (fun c53t => ?_) (fun c53f => ?_) | refine J.if_eq C dX6_shortest_53 (tgt := 58) (by decide) (fun c53t => ?_) (fun c53f => ?_)
    · refine J.iload_n C dX6_shortest_58 rfl ?_
      refine J.iconst C dX6_shortest_59 (v := (nI 1)) (by decide) ?_
      refine J.isub C dX6_shortest_60 ?_
      refine J.istore (ls' := [(0, _), (1, _), (2, _), (3, _), (4, _)]) C dX6_shortest_61 (by decide) rfl ?_
      have hno : ¬ SrtN t n s := tb_f.mp c53t
      refine lp_X6_shortest_k C (I := J0) hp1 hp6 hn (by omega) (fun _ J1 hf1 => ?_) (fun h => absurd h (by omega)) n J0 (Nat.le_refl _) (fun _ _ => rfl) hb (fun k h1 h2 => absurd h2 (by omega)) (by rw [Nat.sub_self]; exact Tl_0)
      refine J.iload_n C dX6_shortest_44 rfl ?_
      first | refine J.if_eq_b C dX6_shortest_45 (tgt := 124) (by decide) (fun _ => ?_) (fun c45 => absurd c45 (by first | omega | decide | simp_all)) | refine J.if_eq_n C (by omega) dX6_shortest_45 (tgt := 124) (by decide) (fun _ => ?_) (fun c45 => absurd c45 (by first | omega | decide | simp_all)) | refine J.if_eq C dX6_shortest_45 (tgt := 124) (by decide) (fun _ => ?_) (fun c45 => absurd c45 (by first | omega | decide | simp_all))
      exact hx (fun ⟨z, h1, h2⟩ => by rcases Nat.lt_or_ge z s with q | q; exact hz z q h2; obtain rfl : z = s := (by omega); exact hno h2) J1 _ (fun k a => (hf1 k a).trans (hf k a))
    · refine J.iload_n C dX6_shortest_56 rfl ?_
      exact J.iret C dX6_shortest_57 (hP J0 s hf ⟨by omega, tb_t.mp c53f, hz⟩ hb)
  | succ r ih =>
    intro s y J0 hs hf hb hz
    refine J.lsx (ls' := [(0, _), (1, _), (2, _), (3, _)]) (ex := y) rfl ?_
    have hNJ : NM J0 t := by unfold NM; rw [hf 85 (by decide), hf 86 (by decide), hf 87 (by decide), hf 88 (by decide), hf 89 (by decide)]; exact hN
    refine J.iload_n C dX6_shortest_44 rfl ?_
    first | refine J.if_eq_b C dX6_shortest_45 (tgt := 124) (by decide) (fun c45 => absurd c45 (by first | omega | decide | simp_all)) (fun _ => ?_) | refine J.if_eq_n C (by omega) dX6_shortest_45 (tgt := 124) (by decide) (fun c45 => absurd c45 (by first | omega | decide | simp_all)) (fun _ => ?_) | refine J.if_eq C dX6_shortest_45 (tgt := 124) (by decide) (fun c45 => absurd c45 (by first | omega | decide | simp_all)) (fun _ => ?_)
    refine J.aload_n C dX6_shortest_48 rfl ?_
    refine J.iload_n C dX6_shortest_49 rfl ?_
    refine J.cVDi (q := (RX6, TX6, 25)) (ci := 6) C (ok_X6_does l V _ _ hNJ ok h4 (by omega) (fun k hk => ⟨dg_lt hp1, hb k hk⟩)) gX6_shortest_X6_does rfl mfX6_does rfl (by decide) (by decide) (by first | decide | omega) rfl rfl rfl rfl (Nat.le_of_ble_eq_true rfl) dX6_shortest_50 (Nat.le_refl _) (Nat.le_refl _) ?_
    first | refine J.if_eq_b C dX6_shortest_53 (tgt := 58) (by decide) (fun c53t => ?_) (fun c53f => ?_) | refine J.if_eq_n C (by omega) dX6_shortest_53 (tgt := 58) (by decide) (fun c53t => ?_) (fun c53f => ?_) | refine J.if_eq C dX6_shortest_53 (tgt := 58) (by decide) (fun c53t => ?_) (fun c53f => ?_)
    · refine J.iload_n C dX6_shortest_58 rfl ?_
      refine J.iconst C dX6_shortest_59 (v := (nI 1)) (by decide) ?_
      refine J.isub C dX6_shortest_60 ?_
      refine J.istore (ls' := [(0, _), (1, _), (2, _), (3, _), (4, _)]) C dX6_shortest_61 (by decide) rfl ?_
      have hno : ¬ SrtN t n s := tb_f.mp c53t
      refine lp_X6_shortest_k C (I := J0) hp1 hp6 hn (by omega) (fun h => absurd h (by omega)) (fun _ J1 z hf1 hb1 => ?_) n J0 (Nat.le_refl _) (fun _ _ => rfl) hb (fun k h1 h2 => absurd h2 (by omega)) (by rw [Nat.sub_self]; exact Tl_0)
      exact ih (s + 1) [(4, _)] J1 (by omega) (fun k a => (hf1 k a).trans (hf k a)) hb1 (fun z hz2 h2 => by rcases Nat.lt_or_ge z s with q | q; exact hz z q h2; obtain rfl : z = s := (by omega); exact hno h2)
    · refine J.iload_n C dX6_shortest_56 rfl ?_
      exact J.iret C dX6_shortest_57 (hP J0 s hf ⟨by omega, tb_t.mp c53f, hz⟩ hb)
set_option maxHeartbeats 4000000 in
set_option maxRecDepth 100000 in
theorem lp_X6_shortest {l : Launch} {X : Cx} {V : Vx} {P : Option Value → (Nat → va_E) → Prop} {I : Nat → Nat → Int32} {L : Nat → Nat → Int64} (C : CX l X V RX6 cX6_shortest 5 wsX6_shortest 4 0 0 (some .int)) {t : Nt} (hN : NM I t) (ok : okN t) (h4 : t.1 ≤ 4)
    (hP : ∀ J0 o, (∀ k, k ≠ 104 → J0 k = I k) → isL 10 (misP t) o → (∀ n, o = some n → ∃ s, isL (nPr t.1 ^ n) (SrtN t n) (some s) ∧ ∀ k, k < n → J0 104 k = nI (dg (nPr t.1) n s k)) → P (some (.int (oI o (-1)))) (mm V J0 L)) : ∀ (r n : Nat) (y : List (Nat × Value)) (J0 : Nat → Nat → Int32), n + r = 10 → (∀ k, k ≠ 104 → J0 k = I k) → (∀ z, z < n → ¬ misP t z) → E X V P 5 16 ([(0, .ref (ad V 85)), (1, .int (nI (nPr t.1))), (2, .int (nI n))] ++ y) [] J0 L := by
  intro r
  obtain ⟨hp1, hp6⟩ := nPr_b ok.1 h4
  induction r with
  | zero =>
    intro n y J0 hn hf hz
    obtain rfl : n = 10 := by omega
    refine J.lsx (ls' := [(0, _), (1, _), (2, _)]) (ex := y) rfl ?_
    refine J.iload_n C dX6_shortest_16 rfl ?_
    refine J.bipush C dX6_shortest_17 (v := (nI 10)) (by decide) ?_
    first | refine J.icmp_ge_n C (by omega) (by omega) dX6_shortest_19 (tgt := 130) (by decide) (fun _ => ?_) (fun c19 => absurd c19 (by first | omega | decide | simp_all)) | refine J.icmp_ge_xn C (by omega) dX6_shortest_19 (tgt := 130) (by decide) (fun _ => ?_) (fun c19 => absurd c19 (by first | omega | decide | simp_all)) | refine J.icmp_ge_nx C (by omega) dX6_shortest_19 (tgt := 130) (by decide) (fun _ => ?_) (fun c19 => absurd c19 (by first | omega | decide | simp_all)) | refine J.icmp_ge C dX6_shortest_19 (tgt := 130) (by decide) (fun _ => ?_) (fun c19 => absurd c19 (by first | omega | decide | simp_all))
    refine J.iconst C dX6_shortest_130 (v := (-1)) (by decide) ?_
    exact J.iret C dX6_shortest_131 (hP J0 none hf hz (fun n e => by cases e))
  | succ r ih =>
    intro n y J0 hn hf hz
    refine J.lsx (ls' := [(0, _), (1, _), (2, _)]) (ex := y) rfl ?_
    have hNJ : NM J0 t := by unfold NM; rw [hf 85 (by decide), hf 86 (by decide), hf 87 (by decide), hf 88 (by decide), hf 89 (by decide)]; exact hN
    have hpos : 0 < nPr t.1 ^ n := Nat.pow_pos hp1
    refine J.iload_n C dX6_shortest_16 rfl ?_
    refine J.bipush C dX6_shortest_17 (v := (nI 10)) (by decide) ?_
    first | refine J.icmp_ge_n C (by omega) (by omega) dX6_shortest_19 (tgt := 130) (by decide) (fun c19 => absurd c19 (by first | omega | decide | simp_all)) (fun _ => ?_) | refine J.icmp_ge_xn C (by omega) dX6_shortest_19 (tgt := 130) (by decide) (fun c19 => absurd c19 (by first | omega | decide | simp_all)) (fun _ => ?_) | refine J.icmp_ge_nx C (by omega) dX6_shortest_19 (tgt := 130) (by decide) (fun c19 => absurd c19 (by first | omega | decide | simp_all)) (fun _ => ?_) | refine J.icmp_ge C dX6_shortest_19 (tgt := 130) (by decide) (fun c19 => absurd c19 (by first | omega | decide | simp_all)) (fun _ => ?_)
    refine J.iconst C dX6_shortest_22 (v := (nI 0)) (by decide) ?_
    refine J.istore_n (ls' := [(0, _), (1, _), (2, _), (3, _)]) C dX6_shortest_23 (by decide) rfl ?_
    refine lp_X6_shortest_z C (I := J0) (by omega) (fun J1 hf1 hb1 => ?_) n 0 J0 (by omega) (fun _ _ => rfl) (fun j hj => absurd hj (Nat.not_lt_zero j))
    have hf2 : ∀ k, k ≠ 104 → J1 k = I k := fun k a => (hf1 k a).trans (hf k a)
    refine J.iconst C dX6_shortest_42 (v := (nI 1)) (by decide) ?_
    refine J.istore_n (ls' := [(0, _), (1, _), (2, _), (3, _)]) C dX6_shortest_43 (by decide) rfl ?_
    refine lp_X6_shortest_s C (I := I) hN ok h4 (by omega) (fun J2 s hf3 hl hd => hP J2 (some n) hf3 ⟨by omega, ⟨s, hl.1, hl.2.1⟩, hz⟩ (fun n' e => by cases e; exact ⟨s, hl, hd⟩)) (fun hno J2 z hf3 => ?_) (nPr t.1 ^ n - 1) 0 [] J1 (by omega) hf2 (fun k hk => by rw [dg_0]; exact hb1 k hk) (fun z hz => absurd hz (Nat.not_lt_zero z))
    refine J.iinc (ls' := [(0, _), (1, _), (2, _), (3, _), (4, _)]) C dX6_shortest_124 rfl (by first | exact nI_inc _ 1 | exact rfl) (by decide) rfl ?_
    refine J.goto C dX6_shortest_127 (tgt := 16) (by decide) ?_
    exact ih (n + 1) [(3, _), (4, _)] J2 (by omega) hf3 (fun z hz2 => by rcases Nat.lt_or_ge z n with q | q; exact hz z q; obtain rfl : z = n := (by omega); exact hno)
set_option maxHeartbeats 4000000 in
set_option maxRecDepth 100000 in
theorem ok_X6_shortest (l : Launch) (V : Vx) {t : Nt} (I : Nat → Nat → Int32) (L : Nat → Nat → Int64) (hN : NM I t) (ok : okN t) (h4 : t.1 ≤ 4) : Gi l V yX6_shortest wsX6_shortest 4 [.ref (ad V 85)] I L (fun r I' L' => ∃ o, isL 10 (misP t) o ∧ r = oI o (-1) ∧ (∀ n, o = some n → ∃ s, isL (nPr t.1 ^ n) (SrtN t n) (some s) ∧ ∀ k, k < n → I' 104 k = nI (dg (nPr t.1) n s k)) ∧ (∀ k, k ≠ 104 → I' k = I k) ∧ L' = L) := by
  have h0 := hN.1
  have h2 := ok.1
  have hnl : t.1 * (t.1 - 1) < 2 ^ 31 := by have q : t.1 * (t.1 - 1) ≤ 4 * 3 := Nat.mul_le_mul h4 (by omega); omega
  refine Ok.of (cc := cX6_shortest) (maxL := 5) (ret := (some .int)) (by decide) rfl (Nat.le_of_ble_eq_true rfl) (fun X hnm C => ?_)
  have C : CX l X V RX6 cX6_shortest 5 wsX6_shortest 4 0 0 (some .int) := C
  refine J.cast (ls' := [(0, _)]) rfl rfl rfl rfl ?_
  refine J.aload_n C dX6_shortest_0 rfl ?_
  refine J.getI C flX6_shortest_7 (by first | decide | omega) rfl (by exact rfl) (by first | ((repeat (first | refine up2_rd (by decide) ?_ | refine up2_rm (by decide) ?_ | refine up3_rd (by decide) ?_)) <;> (first | exact up2_s _ _ _ _ | assumption | exact rfl))) dX6_shortest_1 ?_
  refine J.aload_n C dX6_shortest_4 rfl ?_
  refine J.getI C flX6_shortest_7 (by first | decide | omega) rfl (by exact rfl) (by first | ((repeat (first | refine up2_rd (by decide) ?_ | refine up2_rm (by decide) ?_ | refine up3_rd (by decide) ?_)) <;> (first | exact up2_s _ _ _ _ | assumption | exact rfl))) dX6_shortest_5 ?_
  refine J.iconst C dX6_shortest_8 (v := (nI 1)) (by decide) ?_
  first | refine J.isub_n C (by omega) dX6_shortest_9 ?_ | refine J.isub C dX6_shortest_9 ?_
  first | refine J.imul_n C dX6_shortest_10 ?_ | refine J.imul C dX6_shortest_10 ?_
  refine J.iconst C dX6_shortest_11 (v := (nI 2)) (by decide) ?_
  refine J.idiv_n C hnl (by decide) (by decide) dX6_shortest_12 ?_
  rw [show t.1 * (t.1 - 1) / 2 = nPr t.1 from rfl]
  refine J.istore_n (ls' := [(0, _), (1, _)]) C dX6_shortest_13 (by decide) rfl ?_
  refine J.iconst C dX6_shortest_14 (v := (nI 0)) (by decide) ?_
  refine J.istore_n (ls' := [(0, _), (1, _), (2, _)]) C dX6_shortest_15 (by decide) rfl ?_
  exact lp_X6_shortest C hN ok h4 (fun J0 o hf ho hd => ⟨_, _, _, rfl, rfl, o, ho, rfl, hd, hf, rfl⟩) 10 0 [] I (by omega) (fun _ _ => rfl) (fun z hz => absurd hz (Nat.not_lt_zero z))
noncomputable def op_missing (g : Sg) : Int32 × Sg := cond (tb (g.1.1 ≤ 4)) (oI (lst 10 (misP g.1)) (-1), g) (-8, gF g)
noncomputable def nxt (t : Nt) (n k : Nat) : Int32 := match lst (nPr t.1 ^ n) (SrtN t n) with
  | some s => nI (10 * (prT t.1 (dg (nPr t.1) n s k)).1 + (prT t.1 (dg (nPr t.1) n s k)).2)
  | none => 0
noncomputable def op_next (g : Sg) (o : Option Nat) : Int32 × Sg := cond (tb (g.1.1 ≤ 4)) (match lst 10 (misP g.1) with
  | some n => cond (tb (inO o n)) (nxt g.1 n (o.getD 0), g) (-6, gF g)
  | none => (-6, gF g)) (-8, gF g)
set_option maxHeartbeats 4000000 in
set_option maxRecDepth 100000 in
theorem ok_X6_missing (l : Launch) (V : Vx) {g : Sg} (I : Nat → Nat → Int32) (L : Nat → Nat → Int64) (h : AbM I L g) (ok : okG g) : PM l V yX6_missing wsX6_missing 5 [.ref (ad V 85)] I L (op_missing g) := by
  have hN := h.nm
  have h0 := hN.1
  have hm := hN.2.1
  have hl2 := ok.1.1
  have hl8 := ok.1.2.1
  have h40 := ok.1.2.2.1
  have hq := h.2.1.1
  have hq25 := ok.2.2.1
  have hB := AbM_be h ok
  have hb0 : beM I g.2.1.length 85 0 = nI g.1.1 := hB.1.1
  have hb1 : beM I g.2.1.length 85 1 = nI g.1.2.1 := hB.1.2.1
  unfold op_missing
  by_cases hle : g.1.1 ≤ 4
  · rw [tb_1 hle]
    refine Ok.of (cc := cX6_missing) (maxL := 1) (ret := (some .int)) (by decide) rfl (Nat.le_of_ble_eq_true rfl) (fun X hnm C => ?_)
    have C : CX l X V RX6 cX6_missing 1 wsX6_missing 5 0 0 (some .int) := C
    refine J.cast (ls' := [(0, _)]) rfl rfl rfl rfl ?_
    refine J.aload_n C dX6_missing_0 rfl ?_
    refine J.getI C flX6_missing_7 (by first | decide | omega) rfl (by exact rfl) (by first | ((repeat (first | refine up2_rd (by decide) ?_ | refine up2_rm (by decide) ?_ | refine up3_rd (by decide) ?_)) <;> (first | exact up2_s _ _ _ _ | assumption | exact rfl))) dX6_missing_1 ?_
    refine J.iconst C dX6_missing_4 (v := (nI 4)) (by decide) ?_
    first | refine J.icmp_le_n C (by omega) (by omega) dX6_missing_5 (tgt := 17) (by decide) (fun _ => ?_) (fun c5 => absurd c5 (by first | omega | decide | simp_all)) | refine J.icmp_le_xn C (by omega) dX6_missing_5 (tgt := 17) (by decide) (fun _ => ?_) (fun c5 => absurd c5 (by first | omega | decide | simp_all)) | refine J.icmp_le_nx C (by omega) dX6_missing_5 (tgt := 17) (by decide) (fun _ => ?_) (fun c5 => absurd c5 (by first | omega | decide | simp_all)) | refine J.icmp_le C dX6_missing_5 (tgt := 17) (by decide) (fun _ => ?_) (fun c5 => absurd c5 (by first | omega | decide | simp_all))
    refine J.aload_n C dX6_missing_17 rfl ?_
    refine J.cVGi (q := (RX6, TX6, 25)) (ci := 6) C (ok_X6_shortest l V _ _ hN ok.1 hle) gX6_missing_X6_shortest rfl mfX6_shortest rfl (by decide) (by decide) (by first | decide | omega) rfl rfl rfl rfl (Nat.le_of_ble_eq_true rfl) dX6_missing_18 (Nat.le_refl _) (Nat.le_refl _) (fun r18 I18 L18 h18 => ?_)
    obtain ⟨o, ho, rfl, hd, hf, rfl⟩ := h18
    rw [lst_eq ho]
    exact J.iret C dX6_missing_21 (qM_s ⟨rfl, AbM_scr h (fun k a b => hf k (by omega)) rfl, fun k hk => hf k (by omega), frmL_rfl⟩)
  · rw [tb_0 hle]
    refine Ok.of (cc := cX6_missing) (maxL := 1) (ret := (some .int)) (by decide) rfl (Nat.le_of_ble_eq_true rfl) (fun X hnm C => ?_)
    have C : CX l X V RX6 cX6_missing 1 wsX6_missing 5 0 0 (some .int) := C
    refine J.cast (ls' := [(0, _)]) rfl rfl rfl rfl ?_
    refine J.aload_n C dX6_missing_0 rfl ?_
    refine J.getI C flX6_missing_7 (by first | decide | omega) rfl (by exact rfl) (by first | ((repeat (first | refine up2_rd (by decide) ?_ | refine up2_rm (by decide) ?_ | refine up3_rd (by decide) ?_)) <;> (first | exact up2_s _ _ _ _ | assumption | exact rfl))) dX6_missing_1 ?_
    refine J.iconst C dX6_missing_4 (v := (nI 4)) (by decide) ?_
    first | refine J.icmp_le_n C (by omega) (by omega) dX6_missing_5 (tgt := 17) (by decide) (fun c5 => absurd c5 (by first | omega | decide | simp_all)) (fun _ => ?_) | refine J.icmp_le_xn C (by omega) dX6_missing_5 (tgt := 17) (by decide) (fun c5 => absurd c5 (by first | omega | decide | simp_all)) (fun _ => ?_) | refine J.icmp_le_nx C (by omega) dX6_missing_5 (tgt := 17) (by decide) (fun c5 => absurd c5 (by first | omega | decide | simp_all)) (fun _ => ?_) | refine J.icmp_le C dX6_missing_5 (tgt := 17) (by decide) (fun c5 => absurd c5 (by first | omega | decide | simp_all)) (fun _ => ?_)
    refine J.aload_n C dX6_missing_8 rfl ?_
    refine J.bipush C dX6_missing_9 (v := (-8)) (by decide) ?_
    refine J.cVDi (q := (RX6, TX6, 25)) (ci := 6) C (ok_X6_found l V _ _ _) gX6_missing_X6_found rfl mfX6_found rfl (by decide) (by decide) (by first | decide | omega) rfl rfl rfl rfl (Nat.le_of_ble_eq_true rfl) dX6_missing_11 (Nat.le_refl _) (Nat.le_refl _) ?_
    refine J.goto C dX6_missing_14 (tgt := 21) (by decide) ?_
    exact J.iret C dX6_missing_21 (qM_s (qM_F h))
theorem ok_X6_in_b (l : Launch) (V : Vx) {x b : Int32} {o : Option Nat} (I : Nat → Nat → Int32) (L : Nat → Nat → Int64) (hx : AG x o) (hb : b.toInt < 0) : Di l V yX6_in wsX6_in 1 [.int x, .int (nI 0), .int b] I L (bI false) I L := by
  have h := ok_X6_in l V x (nI 0) b I L
  rw [nI_ti (by decide), tb_0 (by omega)] at h
  exact h
set_option maxHeartbeats 4000000 in
set_option maxRecDepth 100000 in
theorem ok_X6_next (l : Launch) (V : Vx) {g : Sg} {x1 : Int32} {o1 : Option Nat} (I : Nat → Nat → Int32) (L : Nat → Nat → Int64) (hx1 : AG x1 o1) (h : AbM I L g) (ok : okG g) : PM l V yX6_next wsX6_next 5 [.ref (ad V 85), .int x1] I L (op_next g o1) := by
  have hN := h.nm
  have h0 := hN.1
  have hm := hN.2.1
  have hl2 := ok.1.1
  have hl8 := ok.1.2.1
  have h40 := ok.1.2.2.1
  have hq := h.2.1.1
  have hq25 := ok.2.2.1
  have hB := AbM_be h ok
  have hb0 : beM I g.2.1.length 85 0 = nI g.1.1 := hB.1.1
  have hb1 : beM I g.2.1.length 85 1 = nI g.1.2.1 := hB.1.2.1
  unfold op_next
  by_cases hle : g.1.1 ≤ 4
  · rw [tb_1 hle]
    refine Ok.of (cc := cX6_next) (maxL := 3) (ret := (some .int)) (by decide) rfl (Nat.le_of_ble_eq_true rfl) (fun X hnm C => ?_)
    have C : CX l X V RX6 cX6_next 3 wsX6_next 5 0 0 (some .int) := C
    refine J.cast (ls' := [(0, _), (1, _)]) rfl rfl rfl rfl ?_
    refine J.aload_n C dX6_next_0 rfl ?_
    refine J.getI C flX6_next_7 (by first | decide | omega) rfl (by exact rfl) (by first | ((repeat (first | refine up2_rd (by decide) ?_ | refine up2_rm (by decide) ?_ | refine up3_rd (by decide) ?_)) <;> (first | exact up2_s _ _ _ _ | assumption | exact rfl))) dX6_next_1 ?_
    refine J.iconst C dX6_next_4 (v := (nI 4)) (by decide) ?_
    first | refine J.icmp_le_n C (by omega) (by omega) dX6_next_5 (tgt := 15) (by decide) (fun _ => ?_) (fun c5 => absurd c5 (by first | omega | decide | simp_all)) | refine J.icmp_le_xn C (by omega) dX6_next_5 (tgt := 15) (by decide) (fun _ => ?_) (fun c5 => absurd c5 (by first | omega | decide | simp_all)) | refine J.icmp_le_nx C (by omega) dX6_next_5 (tgt := 15) (by decide) (fun _ => ?_) (fun c5 => absurd c5 (by first | omega | decide | simp_all)) | refine J.icmp_le C dX6_next_5 (tgt := 15) (by decide) (fun _ => ?_) (fun c5 => absurd c5 (by first | omega | decide | simp_all))
    refine J.aload_n C dX6_next_15 rfl ?_
    refine J.cVGi (q := (RX6, TX6, 25)) (ci := 6) C (ok_X6_shortest l V _ _ hN ok.1 hle) gX6_next_X6_shortest rfl mfX6_shortest rfl (by decide) (by decide) (by first | decide | omega) rfl rfl rfl rfl (Nat.le_of_ble_eq_true rfl) dX6_next_16 (Nat.le_refl _) (Nat.le_refl _) (fun r16 I16 L16 h16 => ?_)
    obtain ⟨o, ho, rfl, hd, hf, rfl⟩ := h16
    rw [lst_eq ho]
    refine J.istore_n (ls' := [(0, _), (1, _), (2, _)]) C dX6_next_19 (by decide) rfl ?_
    have hA := AbM_scr (L' := L16) h (fun k a b => hf k (by omega)) rfl
    have hfr : frm I I16 := fun k hk => hf k (by omega)
    have qF : ∀ z, qM I L16 (z, gF g) z (fM I16) L16 := fun z => ⟨rfl, AbM_F hA, frm_F hfr, frmL_rfl⟩
    have hNJ : NM I16 g.1 := hA.nm
    cases o with
    | none =>
      refine J.iload_n C dX6_next_20 rfl ?_
      refine J.iconst C dX6_next_21 (v := (nI 0)) (by decide) ?_
      refine J.iload_n C dX6_next_22 rfl ?_
      refine J.iconst C dX6_next_23 (v := (nI 1)) (by decide) ?_
      refine J.isub C dX6_next_24 ?_
      refine J.cSDi C (ok_X6_in_b l V _ _ hx1 (by decide)) gX6_next_X6_in rfl mfX6_in (by decide) (by decide) rfl rfl (Nat.le_of_ble_eq_true rfl) dX6_next_25 (Nat.le_refl _) (Nat.le_refl _) ?_
      first | refine J.if_eq_b C dX6_next_28 (tgt := 44) (by decide) (fun _ => ?_) (fun c28 => absurd c28 (by first | omega | decide | simp_all)) | refine J.if_eq_n C (by omega) dX6_next_28 (tgt := 44) (by decide) (fun _ => ?_) (fun c28 => absurd c28 (by first | omega | decide | simp_all)) | refine J.if_eq C dX6_next_28 (tgt := 44) (by decide) (fun _ => ?_) (fun c28 => absurd c28 (by first | omega | decide | simp_all))
      refine J.aload_n C dX6_next_44 rfl ?_
      refine J.bipush C dX6_next_45 (v := (-6)) (by decide) ?_
      refine J.cVDi (q := (RX6, TX6, 25)) (ci := 6) C (ok_X6_found l V _ _ _) gX6_next_X6_found rfl mfX6_found rfl (by decide) (by decide) (by first | decide | omega) rfl rfl rfl rfl (Nat.le_of_ble_eq_true rfl) dX6_next_47 (Nat.le_refl _) (Nat.le_refl _) ?_
      exact J.iret C dX6_next_50 (qM_s (qF _))
    | some n =>
      obtain ⟨s, hs, hdd⟩ := hd n rfl
      have hn10 : n < 10 := ho.1
      simp only []
      refine J.iload_n C dX6_next_20 rfl ?_
      refine J.iconst C dX6_next_21 (v := (nI 0)) (by decide) ?_
      refine J.iload_n C dX6_next_22 rfl ?_
      refine J.iconst C dX6_next_23 (v := (nI 1)) (by decide) ?_
      refine J.isub C dX6_next_24 ?_
      refine J.cSDi C (ok_X6_in_p l V _ (by omega) _ _ hx1) gX6_next_X6_in rfl mfX6_in (by decide) (by decide) rfl rfl (Nat.le_of_ble_eq_true rfl) dX6_next_25 (Nat.le_refl _) (Nat.le_refl _) ?_
      first | refine J.if_eq_b C dX6_next_28 (tgt := 44) (by decide) (fun c28t => ?_) (fun c28f => ?_) | refine J.if_eq_n C (by omega) dX6_next_28 (tgt := 44) (by decide) (fun c28t => ?_) (fun c28f => ?_) | refine J.if_eq C dX6_next_28 (tgt := 44) (by decide) (fun c28t => ?_) (fun c28f => ?_)
      · rw [c28t]
        refine J.aload_n C dX6_next_44 rfl ?_
        refine J.bipush C dX6_next_45 (v := (-6)) (by decide) ?_
        refine J.cVDi (q := (RX6, TX6, 25)) (ci := 6) C (ok_X6_found l V _ _ _) gX6_next_X6_found rfl mfX6_found rfl (by decide) (by decide) (by first | decide | omega) rfl rfl rfl rfl (Nat.le_of_ble_eq_true rfl) dX6_next_47 (Nat.le_refl _) (Nat.le_refl _) ?_
        exact J.iret C dX6_next_50 (qM_s (qF _))
      · rw [c28f]
        obtain ⟨k, rfl, hk⟩ := tb_t.mp c28f
        obtain ⟨-, rfl⟩ := hx1
        have en : nxt g.1 n k = nI (10 * (prT g.1.1 (dg (nPr g.1.1) n s k)).1 + (prT g.1.1 (dg (nPr g.1.1) n s k)).2) := by unfold nxt; rw [lst_eq hs]
        refine J.aload_n C dX6_next_31 rfl ?_
        refine J.aload_n C dX6_next_32 rfl ?_
        refine J.getR C flX6_next_70 (by first | decide | omega) rfl (by exact rfl) dX6_next_33 ?_
        refine J.iload_n C dX6_next_36 rfl ?_
        refine J.ia C (by first | exact rfl | assumption) (by first | exact rfl | exact rfl) (by first | (have h_ln := ln_all; omega) | omega) (by first | exact hdd _ hk | ((repeat (first | refine up2_rd (by decide) ?_ | refine up2_rm (by decide) ?_ | refine up3_rd (by decide) ?_)) <;> (first | exact up2_s _ _ _ _ | assumption | exact rfl))) dX6_next_37 ?_
        refine J.cVDi (q := (RX6, TX6, 25)) (ci := 6) C (ok_X6_pair l V _ _ hNJ.1 ok.1.1 hle (dg_lt (nPr_b ok.1.1 hle).1)) gX6_next_X6_pair rfl mfX6_pair rfl (by decide) (by decide) (by first | decide | omega) rfl rfl rfl rfl (Nat.le_of_ble_eq_true rfl) dX6_next_38 (Nat.le_refl _) (Nat.le_refl _) ?_
        refine J.goto C dX6_next_41 (tgt := 50) (by decide) ?_
        exact J.iret C dX6_next_50 (qM_s ⟨by show _ = nxt g.1 n k; rw [en], hA, hfr, frmL_rfl⟩)
  · rw [tb_0 hle]
    refine Ok.of (cc := cX6_next) (maxL := 3) (ret := (some .int)) (by decide) rfl (Nat.le_of_ble_eq_true rfl) (fun X hnm C => ?_)
    have C : CX l X V RX6 cX6_next 3 wsX6_next 5 0 0 (some .int) := C
    refine J.cast (ls' := [(0, _), (1, _)]) rfl rfl rfl rfl ?_
    refine J.aload_n C dX6_next_0 rfl ?_
    refine J.getI C flX6_next_7 (by first | decide | omega) rfl (by exact rfl) (by first | ((repeat (first | refine up2_rd (by decide) ?_ | refine up2_rm (by decide) ?_ | refine up3_rd (by decide) ?_)) <;> (first | exact up2_s _ _ _ _ | assumption | exact rfl))) dX6_next_1 ?_
    refine J.iconst C dX6_next_4 (v := (nI 4)) (by decide) ?_
    first | refine J.icmp_le_n C (by omega) (by omega) dX6_next_5 (tgt := 15) (by decide) (fun c5 => absurd c5 (by first | omega | decide | simp_all)) (fun _ => ?_) | refine J.icmp_le_xn C (by omega) dX6_next_5 (tgt := 15) (by decide) (fun c5 => absurd c5 (by first | omega | decide | simp_all)) (fun _ => ?_) | refine J.icmp_le_nx C (by omega) dX6_next_5 (tgt := 15) (by decide) (fun c5 => absurd c5 (by first | omega | decide | simp_all)) (fun _ => ?_) | refine J.icmp_le C dX6_next_5 (tgt := 15) (by decide) (fun c5 => absurd c5 (by first | omega | decide | simp_all)) (fun _ => ?_)
    refine J.aload_n C dX6_next_8 rfl ?_
    refine J.bipush C dX6_next_9 (v := (-8)) (by decide) ?_
    refine J.cVDi (q := (RX6, TX6, 25)) (ci := 6) C (ok_X6_found l V _ _ _) gX6_next_X6_found rfl mfX6_found rfl (by decide) (by decide) (by first | decide | omega) rfl rfl rfl rfl (Nat.le_of_ble_eq_true rfl) dX6_next_11 (Nat.le_refl _) (Nat.le_refl _) ?_
    exact J.iret C dX6_next_14 (qM_s (qM_F h))
