/-! THE CLASS: the least row -/
theorem bt_n (x : Int64) (r : Nat) : bt x r = (tn x).testBit r := rfl
theorem low_n {N k : Nat} (hN : N < 2 ^ 64) (hk : k < 64) (h1 : N.testBit k = true) (h0 : ∀ j, j < k → N.testBit j = false) : N &&& (2 ^ 64 - N) = 2 ^ k := by
  have hp := Nat.two_pow_pos k
  have hm : N % 2 ^ (k + 1) = 2 ^ k := by
    apply Nat.eq_of_testBit_eq
    intro i
    rw [Nat.testBit_mod_two_pow, Nat.testBit_two_pow]
    by_cases e : i = k
    · subst e; rw [h1]; simp
    · by_cases l : i < k
      · rw [h0 i l, decide_eq_false (show ¬ k = i by omega), Bool.and_false]
      · rw [decide_eq_false (show ¬ k = i by omega), decide_eq_false (show ¬ i < k + 1 by omega), Bool.false_and]
  have hs : 2 ^ (k + 1) = 2 * 2 ^ k := by rw [Nat.pow_succ]; omega
  have hd := Nat.div_add_mod N (2 ^ (k + 1))
  have hpos : 0 < N := by omega
  have hm1 : (N - 1) % 2 ^ (k + 1) = 2 ^ k - 1 ∧ (N - 1) / 2 ^ (k + 1) = N / 2 ^ (k + 1) := by
    rw [hm] at hd
    have e : N - 1 = (2 ^ k - 1) + 2 ^ (k + 1) * (N / 2 ^ (k + 1)) := by omega
    generalize N / 2 ^ (k + 1) = q at e ⊢
    rw [e]
    exact ⟨by rw [Nat.add_mul_mod_self_left, Nat.mod_eq_of_lt (by omega)], by rw [Nat.add_mul_div_left _ _ (by omega), Nat.div_eq_of_lt (by omega), Nat.zero_add]⟩
  apply Nat.eq_of_testBit_eq
  intro i
  rw [Nat.testBit_and, Nat.testBit_two_pow]
  have e2 : 2 ^ 64 - N = 2 ^ 64 - ((N - 1) + 1) := by omega
  rw [e2, Nat.testBit_two_pow_sub_succ (by omega)]
  by_cases e : i = k
  · subst e
    have w : (N - 1).testBit i = false := by
      have q := Nat.testBit_mod_two_pow (N - 1) (i + 1) i
      rw [hm1.1, Nat.testBit_lt_two_pow (show 2 ^ i - 1 < 2 ^ i by omega), decide_eq_true (show i < i + 1 by omega), Bool.true_and] at q
      exact q.symm
    rw [h1, w, decide_eq_true hk]
    simp
  · rw [decide_eq_false (show ¬ k = i from fun q => e q.symm)]
    by_cases l : i < k
    · rw [h0 i l]; rfl
    · obtain ⟨j, rfl⟩ : ∃ j, i = j + (k + 1) := ⟨i - (k + 1), by omega⟩
      have q1 : (N / 2 ^ (k + 1)).testBit j = N.testBit (j + (k + 1)) := Nat.testBit_div_two_pow _ _
      have q2 : ((N - 1) / 2 ^ (k + 1)).testBit j = (N - 1).testBit (j + (k + 1)) := Nat.testBit_div_two_pow _ _
      rw [← q1, ← q2, hm1.2]
      cases (N / 2 ^ (k + 1)).testBit j <;> simp
theorem low_c {x : Int64} {k : Nat} (hk : k < 64) (h1 : bt x k = true) (h0 : ∀ j, j < k → bt x j = false) : pcN (tn ((x &&& -x) - 1)) 64 = k := by
  have key : ∀ k, k < 64 → pcN (2 ^ k - 1) 64 = k := by decide +kernel
  have hp := Nat.two_pow_pos k
  have hp2 : 2 ^ k < 2 ^ 64 := Nat.pow_lt_pow_right (by decide) hk
  have e1 : tn (-x) = 2 ^ 64 - tn x := by
    have hne : tn x ≠ 0 := fun q => by rw [bt_n, q, Nat.zero_testBit] at h1; cases h1
    have := tn_lt x
    unfold tn at *
    rw [Int64.toBitVec_neg, BitVec.toNat_neg]
    omega
  have e2 : tn (x &&& -x) = 2 ^ k := by rw [tn_and, e1]; exact low_n (tn_lt x) hk h1 h0
  rw [tn_sub, e2, show tn 1 = 1 from rfl, show (2 ^ 64 - 1 + 2 ^ k) % 2 ^ 64 = 2 ^ k - 1 by omega]
  exact key k hk
theorem low_x {x : Int64} (h : ¬ x = 0) : ∃ k, k < 64 ∧ bt x k = true ∧ ∀ j, j < k → bt x j = false := by
  have e : ∃ r, r < 64 ∧ bt x r = true := Classical.byContradiction (fun q => h (bt_z.mpr (fun r hr => by cases w : bt x r; rfl; exact absurd ⟨r, hr, w⟩ q)))
  obtain ⟨k, ⟨h1, h2⟩, h3⟩ := pk_least (fun r => r < 64 ∧ bt x r = true) e
  exact ⟨k, h1, h2, fun j hj => by cases w : bt x j; rfl; exact absurd ⟨by omega, w⟩ (h3 j hj)⟩
theorem blk_n {n : Nat} (h : n ≤ 8) : 2 ^ n ≤ 64 * 2 ^ (n - 6) ∧ 2 ^ (n - 6) ≤ 4 := by
  have key : ∀ n, n < 9 → 2 ^ n ≤ 64 * 2 ^ (n - 6) ∧ 2 ^ (n - 6) ≤ 4 := by decide +kernel
  exact key n (by omega)
set_option maxHeartbeats 4000000 in
set_option maxRecDepth 100000 in
theorem ok_X4_leastOf (l : Launch) (V : Vx) {x : Int64} {b k : Nat} (I : Nat → Nat → Int32) (L : Nat → Nat → Int64) (hb : b < 4) (hk : k < 64) (h1 : bt x k = true) (h0 : ∀ j, j < k → bt x j = false) : Di l V yX4_leastOf wsX4_leastOf 2 [.long x, .int (nI b)] I L (nI (64 * b + k)) I L := by
  refine Ok.of (cc := cX4_leastOf) (maxL := 3) (ret := (some .int)) (by decide) rfl (Nat.le_of_ble_eq_true rfl) (fun X hnm C => ?_)
  have C : CX l X V RX4 cX4_leastOf 3 wsX4_leastOf 2 0 0 (some .int) := C
  refine J.cast (ls' := [(0, _), (2, _)]) rfl rfl rfl rfl ?_
  refine J.iload_n C dX4_leastOf_0 rfl ?_
  refine J.bipush C dX4_leastOf_1 (v := (nI 64)) (by decide) ?_
  first | refine J.imul_n C dX4_leastOf_3 ?_ | refine J.imul C dX4_leastOf_3 ?_
  refine J.lload_n C dX4_leastOf_4 rfl ?_
  refine J.lload_n C dX4_leastOf_5 rfl ?_
  refine J.lneg C dX4_leastOf_6 ?_
  refine J.land C dX4_leastOf_7 ?_
  refine J.lconst C dX4_leastOf_8 (v := 1) (by decide) ?_
  refine J.lsub C dX4_leastOf_9 ?_
  refine J.cSDi C (ok_J13_bitCount_95d88 l V _ _ _) gX4_leastOf_J13_bitCount_95d88 rfl mfJ13_bitCount_95d88 (by decide) (by decide) rfl rfl (Nat.le_of_ble_eq_true rfl) dX4_leastOf_10 (Nat.le_refl _) (Nat.le_refl _) ?_
  rw [low_c hk h1 h0]
  first | refine J.iadd_n C dX4_leastOf_13 ?_ | refine J.iadd C dX4_leastOf_13 ?_
  exact J.iret C dX4_leastOf_14 ⟨by rw [Nat.mul_comm b 64], rfl⟩
set_option maxHeartbeats 4000000 in
set_option maxRecDepth 100000 in
theorem lp_X5_leastFailing {l : Launch} {X : Cx} {V : Vx} {P : Option Value → (Nat → va_E) → Prop} {I : Nat → Nat → Int32} {L : Nat → Nat → Int64} (C : CX l X V RX5 cX5_leastFailing 5 wsX5_leastFailing 5 0 0 (some .int)) {t : Nt} {s : Int32} (ok : okN t) (hN : netC I 1 t) (hP : ∀ L0, (∀ q, q ≠ 57 → q ≠ 58 → L0 q = L q) → P (some (.int (oI (lst (2 ^ t.1) (bad t s.toInt)) (-6)))) (mm V I L0)) : ∀ (z b : Nat) (L0 : Nat → Nat → Int64), b + z = 2 ^ (t.1 - 6) → (∀ q, q ≠ 57 → q ≠ 58 → L0 q = L q) → (∀ r, r < 64 * b → r < 2 ^ t.1 → ¬ bad t s.toInt r) → E X V P 5 2 [(0, .ref (ad V 0)), (1, .int s), (2, .int (nI b))] [] I L0 := by
  have h8 := ok.2.1
  have h0 := hN.1
  obtain ⟨hbk, hb4⟩ := blk_n h8
  intro z
  induction z with
  | zero =>
    intro b L0 hb hf hr
    have e : lst (2 ^ t.1) (bad t s.toInt) = none := lst_eq (show ∀ r, r < 2 ^ t.1 → ¬ bad t s.toInt r from fun r q => hr r (by omega) q)
    refine J.iload_n C dX5_leastFailing_2 rfl ?_
    refine J.aload_n C dX5_leastFailing_3 rfl ?_
    refine J.getR C flX5_leastFailing_10 (by first | decide | omega) rfl (by exact rfl) dX5_leastFailing_4 ?_
    refine J.getI C flX5_leastFailing_160 (by first | decide | omega) (by first | exact rfl | exact mk_3 (by assumption)) (by exact rfl) (by first | ((repeat (first | rewrite [up2_n _ _ _ (by first | decide | omega)] | rewrite [up2_m _ _ _ (by decide)] | rewrite [up3_n _ _ _ (by first | decide | omega)])) <;> (first | exact up2_s _ _ _ _ | exact up3_s _ _ _ _ | assumption | exact rfl))) dX5_leastFailing_7 ?_
    refine J.cSDi C (ok_X4_blocks l V _ _ h8) gX5_leastFailing_X4_blocks rfl mfX4_blocks (by decide) (by decide) rfl rfl (Nat.le_of_ble_eq_true rfl) dX5_leastFailing_10 (Nat.le_refl _) (Nat.le_refl _) ?_
    first | refine J.icmp_ge_n C (by omega) (by omega) dX5_leastFailing_13 (tgt := 41) (by decide) (fun _ => ?_) (fun c13 => absurd c13 (by first | omega | decide | simp_all)) | refine J.icmp_ge_xn C (by omega) dX5_leastFailing_13 (tgt := 41) (by decide) (fun _ => ?_) (fun c13 => absurd c13 (by first | omega | decide | simp_all)) | refine J.icmp_ge_nx C (by omega) dX5_leastFailing_13 (tgt := 41) (by decide) (fun _ => ?_) (fun c13 => absurd c13 (by first | omega | decide | simp_all)) | refine J.icmp_ge C dX5_leastFailing_13 (tgt := 41) (by decide) (fun _ => ?_) (fun c13 => absurd c13 (by first | omega | decide | simp_all))
    refine J.bipush C dX5_leastFailing_41 (v := (-6)) (by decide) ?_
    exact J.iret C dX5_leastFailing_43 (by have w := hP L0 hf; rw [e] at w; exact w)
  | succ z ih =>
    intro b L0 hb hf hr
    refine J.iload_n C dX5_leastFailing_2 rfl ?_
    refine J.aload_n C dX5_leastFailing_3 rfl ?_
    refine J.getR C flX5_leastFailing_10 (by first | decide | omega) rfl (by exact rfl) dX5_leastFailing_4 ?_
    refine J.getI C flX5_leastFailing_160 (by first | decide | omega) (by first | exact rfl | exact mk_3 (by assumption)) (by exact rfl) (by first | ((repeat (first | rewrite [up2_n _ _ _ (by first | decide | omega)] | rewrite [up2_m _ _ _ (by decide)] | rewrite [up3_n _ _ _ (by first | decide | omega)])) <;> (first | exact up2_s _ _ _ _ | exact up3_s _ _ _ _ | assumption | exact rfl))) dX5_leastFailing_7 ?_
    refine J.cSDi C (ok_X4_blocks l V _ _ h8) gX5_leastFailing_X4_blocks rfl mfX4_blocks (by decide) (by decide) rfl rfl (Nat.le_of_ble_eq_true rfl) dX5_leastFailing_10 (Nat.le_refl _) (Nat.le_refl _) ?_
    first | refine J.icmp_ge_n C (by omega) (by omega) dX5_leastFailing_13 (tgt := 41) (by decide) (fun c13 => absurd c13 (by first | omega | decide | simp_all)) (fun _ => ?_) | refine J.icmp_ge_xn C (by omega) dX5_leastFailing_13 (tgt := 41) (by decide) (fun c13 => absurd c13 (by first | omega | decide | simp_all)) (fun _ => ?_) | refine J.icmp_ge_nx C (by omega) dX5_leastFailing_13 (tgt := 41) (by decide) (fun c13 => absurd c13 (by first | omega | decide | simp_all)) (fun _ => ?_) | refine J.icmp_ge C dX5_leastFailing_13 (tgt := 41) (by decide) (fun c13 => absurd c13 (by first | omega | decide | simp_all)) (fun _ => ?_)
    refine J.aload_n C dX5_leastFailing_16 rfl ?_
    refine J.iload_n C dX5_leastFailing_17 rfl ?_
    refine J.iload_n C dX5_leastFailing_18 rfl ?_
    refine J.cVGl (q := (RX5, TX5, 11)) (ci := 5) C (ok_X5_failingRows l V (b := b) _ _ ok hN (by omega)) gX5_leastFailing_X5_failingRows rfl mfX5_failingRows rfl (by decide) (by decide) (by first | decide | omega) rfl rfl rfl rfl (Nat.le_of_ble_eq_true rfl) dX5_leastFailing_19 (Nat.le_refl _) (Nat.le_refl _) (fun r19 I19 L19 h19 => ?_)
    obtain ⟨rfl, hf2, hx⟩ := h19
    refine J.lstore_n (ls' := [(0, _), (1, _), (2, _), (3, _)]) C dX5_leastFailing_22 (by decide) rfl ?_
    refine J.lload_n C dX5_leastFailing_23 rfl ?_
    refine J.lconst C dX5_leastFailing_24 (v := 0) (by decide) ?_
    refine J.lcmp C dX5_leastFailing_25 ?_
    refine J.if_eq_c C dX5_leastFailing_26 (tgt := 35) (by decide) (fun c26t => ?_) (fun c26f => ?_)
    · refine J.iinc (ls' := [(0, _), (1, _), (2, _), (3, _)]) C dX5_leastFailing_35 rfl (by first | exact nI_inc _ 1 | exact rfl) (by decide) rfl ?_
      refine J.goto C dX5_leastFailing_38 (tgt := 2) (by decide) ?_
      refine J.lsx (ls' := [(0, _), (1, _), (2, _)]) (ex := [(3, _)]) rfl ?_
      refine ih (b + 1) L19 (by omega) (fun q a b => by rw [hf2 q a b]; exact hf q a b) (fun r q1 q2 => ?_)
      by_cases z : r < 64 * b
      · exact hr r z q2
      · intro w
        have y := (hx (r - 64 * b) (by omega)).mpr (by rw [show 64 * b + (r - 64 * b) = r by omega]; exact ⟨q2, w⟩)
        rw [c26t, bt_0] at y
        cases y
    · obtain ⟨k, hk, h1, h2⟩ := low_x c26f
      have hbad := (hx k hk).mp h1
      have e : lst (2 ^ t.1) (bad t s.toInt) = some (64 * b + k) := lst_eq ⟨hbad.1, hbad.2, fun r q => by
        by_cases z : r < 64 * b
        · exact hr r z (by omega)
        · intro w
          have y := (hx (r - 64 * b) (by omega)).mpr (by rw [show 64 * b + (r - 64 * b) = r by omega]; exact ⟨by omega, w⟩)
          rw [h2 _ (by omega)] at y
          cases y⟩
      refine J.lload_n C dX5_leastFailing_29 rfl ?_
      refine J.iload_n C dX5_leastFailing_30 rfl ?_
      refine J.cSDi C (ok_X4_leastOf l V _ _ (by omega) hk h1 h2) gX5_leastFailing_X4_leastOf rfl mfX4_leastOf (by decide) (by decide) rfl rfl (Nat.le_of_ble_eq_true rfl) dX5_leastFailing_31 (Nat.le_refl _) (Nat.le_refl _) ?_
      exact J.iret C dX5_leastFailing_34 (by have w := hP L19 (fun q a b => by rw [hf2 q a b]; exact hf q a b); rw [e] at w; exact w)
set_option maxHeartbeats 4000000 in
set_option maxRecDepth 100000 in
theorem ok_X5_leastFailing (l : Launch) (V : Vx) {t : Nt} {s : Int32} (I : Nat → Nat → Int32) (L : Nat → Nat → Int64) (ok : okN t) (hN : netC I 1 t) : Gi l V yX5_leastFailing wsX5_leastFailing 5 [.ref (ad V 0), .int s] I L (fun r I' L' => r = oI (lst (2 ^ t.1) (bad t s.toInt)) (-6) ∧ I' = I ∧ ∀ q, q ≠ 57 → q ≠ 58 → L' q = L q) := by
  refine Ok.of (cc := cX5_leastFailing) (maxL := 5) (ret := (some .int)) (by decide) rfl (Nat.le_of_ble_eq_true rfl) (fun X hnm C => ?_)
  have C : CX l X V RX5 cX5_leastFailing 5 wsX5_leastFailing 5 0 0 (some .int) := C
  refine J.cast (ls' := [(0, _), (1, _)]) rfl rfl rfl rfl ?_
  refine J.iconst C dX5_leastFailing_0 (v := (nI 0)) (by decide) ?_
  refine J.istore_n (ls' := [(0, _), (1, _), (2, _)]) C dX5_leastFailing_1 (by decide) rfl ?_
  refine lp_X5_leastFailing C ok hN (fun L0 hf => ?_) (2 ^ (t.1 - 6)) 0 L (by omega) (fun _ _ _ => rfl) (fun r q => by omega)
  exact ⟨_, I, L0, rfl, rfl, rfl, rfl, hf⟩
