/-! THE CLASS: packed -/
theorem rowX_tb (x : Int64) (r : Nat) : rowX x r < 16 ∧ ∀ a, a < 4 → (rowX x r).testBit a = bt x (16 * a + r) := by
  have key : ∀ p q s t : Bool, (p.toNat + 2 * q.toNat + 4 * s.toNat + 8 * t.toNat < 16) ∧ (p.toNat + 2 * q.toNat + 4 * s.toNat + 8 * t.toNat).testBit 0 = p ∧ (p.toNat + 2 * q.toNat + 4 * s.toNat + 8 * t.toNat).testBit 1 = q ∧ (p.toNat + 2 * q.toNat + 4 * s.toNat + 8 * t.toNat).testBit 2 = s ∧ (p.toNat + 2 * q.toNat + 4 * s.toNat + 8 * t.toNat).testBit 3 = t := by decide +kernel
  obtain ⟨k0, k1, k2, k3, k4⟩ := key (x.toBitVec.getLsbD r) (x.toBitVec.getLsbD (16 + r)) (x.toBitVec.getLsbD (32 + r)) (x.toBitVec.getLsbD (48 + r))
  refine ⟨k0, fun a ha => ?_⟩
  rcases (show a = 0 ∨ a = 1 ∨ a = 2 ∨ a = 3 by omega) with e | e | e | e <;> subst e
  · rw [show 16 * 0 + r = r by omega]; exact k1
  · exact k2
  · exact k3
  · exact k4
theorem rowX_v {x : Int64} {n r v : Nat} (hn : n ≤ 4) (hv : v < 2 ^ n) (h : ∀ a, a < 4 → bt x (16 * a + r) = (decide (a < n) && v.testBit a)) : rowX x r = v := by
  obtain ⟨h1, h2⟩ := rowX_tb x r
  apply Nat.eq_of_testBit_eq
  intro i
  by_cases hi : i < 4
  · rw [h2 i hi, h i hi]
    by_cases e : i < n
    · rw [decide_eq_true e, Bool.true_and]
    · rw [decide_eq_false e, Bool.false_and, Nat.testBit_lt_two_pow (Nat.lt_of_lt_of_le hv (Nat.pow_le_pow_right (by decide) (by omega)))]
  · rw [Nat.testBit_lt_two_pow (Nat.lt_of_lt_of_le h1 (show 2 ^ 4 ≤ 2 ^ i from Nat.pow_le_pow_right (by decide) (by omega))), Nat.testBit_lt_two_pow (Nat.lt_of_lt_of_le hv (Nat.pow_le_pow_right (by decide) (by omega)))]
set_option maxHeartbeats 4000000 in
set_option maxRecDepth 100000 in
theorem lp_X4_packed {l : Launch} {X : Cx} {V : Vx} {P : Option Value → (Nat → va_E) → Prop} {I : Nat → Nat → Int32} {L : Nat → Nat → Int64} (C : CX l X V RX4 cX4_packed 5 wsX4_packed 1 0 0 (some .long)) {k n : Nat} (hk : kd k = 4) (hn : n ≤ 4) (hz : ∀ a, a < n → ∀ r, 16 ≤ r → r < 64 → bt (L (k + 1) a) r = false) (hP : ∀ x, (∀ a, a < 4 → ∀ r, r < 16 → bt x (16 * a + r) = (decide (a < n) && bt (L (k + 1) a) r)) → P (some (.long x)) (mm V I L)) : ∀ (z i : Nat) (x : Int64), i + z = n → (∀ a, a < 4 → ∀ r, r < 16 → bt x (16 * a + r) = (decide (a < i) && bt (L (k + 1) a) r)) → E X V P 5 5 [(0, .ref (ad V k)), (1, .int (nI n)), (2, .long x), (4, .int (nI i))] [] I L := by
  obtain ⟨hk1, hkl⟩ := kd4 hk
  have hk106 := kd_lt hk (by decide)
  intro z
  induction z with
  | zero =>
    intro i x hi hb
    obtain rfl : i = n := by omega
    refine J.iload C dX4_packed_5 rfl ?_
    refine J.iload_n C dX4_packed_7 rfl ?_
    first | refine J.icmp_ge_n C (by omega) (by omega) dX4_packed_8 (tgt := 39) (by decide) (fun _ => ?_) (fun c8 => absurd c8 (by first | omega | decide | simp_all)) | refine J.icmp_ge_xn C (by omega) dX4_packed_8 (tgt := 39) (by decide) (fun _ => ?_) (fun c8 => absurd c8 (by first | omega | decide | simp_all)) | refine J.icmp_ge_nx C (by omega) dX4_packed_8 (tgt := 39) (by decide) (fun _ => ?_) (fun c8 => absurd c8 (by first | omega | decide | simp_all)) | refine J.icmp_ge C dX4_packed_8 (tgt := 39) (by decide) (fun _ => ?_) (fun c8 => absurd c8 (by first | omega | decide | simp_all))
    refine J.lload_n C dX4_packed_39 rfl ?_
    exact J.lret C dX4_packed_40 (hP x hb)
  | succ z ih =>
    intro i x hi hb
    refine J.iload C dX4_packed_5 rfl ?_
    refine J.iload_n C dX4_packed_7 rfl ?_
    first | refine J.icmp_ge_n C (by omega) (by omega) dX4_packed_8 (tgt := 39) (by decide) (fun c8 => absurd c8 (by first | omega | decide | simp_all)) (fun _ => ?_) | refine J.icmp_ge_xn C (by omega) dX4_packed_8 (tgt := 39) (by decide) (fun c8 => absurd c8 (by first | omega | decide | simp_all)) (fun _ => ?_) | refine J.icmp_ge_nx C (by omega) dX4_packed_8 (tgt := 39) (by decide) (fun c8 => absurd c8 (by first | omega | decide | simp_all)) (fun _ => ?_) | refine J.icmp_ge C dX4_packed_8 (tgt := 39) (by decide) (fun c8 => absurd c8 (by first | omega | decide | simp_all)) (fun _ => ?_)
    refine J.iload C dX4_packed_11 rfl ?_
    refine J.iconst C dX4_packed_13 (v := (nI 4)) (by decide) ?_
    first | refine J.icmp_ge_n C (by omega) (by omega) dX4_packed_14 (tgt := 39) (by decide) (fun c14 => absurd c14 (by first | omega | decide | simp_all)) (fun _ => ?_) | refine J.icmp_ge_xn C (by omega) dX4_packed_14 (tgt := 39) (by decide) (fun c14 => absurd c14 (by first | omega | decide | simp_all)) (fun _ => ?_) | refine J.icmp_ge_nx C (by omega) dX4_packed_14 (tgt := 39) (by decide) (fun c14 => absurd c14 (by first | omega | decide | simp_all)) (fun _ => ?_) | refine J.icmp_ge C dX4_packed_14 (tgt := 39) (by decide) (fun c14 => absurd c14 (by first | omega | decide | simp_all)) (fun _ => ?_)
    refine J.lload_n C dX4_packed_17 rfl ?_
    refine J.aload_n C dX4_packed_18 rfl ?_
    refine J.getR C flX4_packed_9 (by first | decide | omega) (by first | exact rfl | exact mk_4 (by assumption)) (by exact rfl) dX4_packed_19 ?_
    refine J.iload C dX4_packed_22 rfl ?_
    refine J.la C (by first | exact rfl | assumption) (by first | exact rfl | exact rfl) (by first | (have h_ln := ln_all; have h_l2 := ln_all2; omega) | omega) (by first | ((repeat (first | rewrite [up2_n _ _ _ (by first | decide | omega)] | rewrite [up2_m _ _ _ (by decide)] | rewrite [up3_n _ _ _ (by first | decide | omega)])) <;> (first | exact up2_s _ _ _ _ | exact up3_s _ _ _ _ | assumption | exact rfl))) dX4_packed_24 ?_
    refine J.iload C dX4_packed_25 rfl ?_
    refine J.bipush C dX4_packed_27 (v := (nI 16)) (by decide) ?_
    first | refine J.imul_n C dX4_packed_29 ?_ | refine J.imul C dX4_packed_29 ?_
    refine J.lshl C dX4_packed_30 ?_
    refine J.lor C dX4_packed_31 ?_
    refine J.lstore_n (ls' := [(0, _), (1, _), (2, _), (4, _)]) C dX4_packed_32 (by decide) rfl ?_
    refine J.iinc (ls' := [(0, _), (1, _), (2, _), (4, _)]) C dX4_packed_33 rfl (by first | exact nI_inc _ 1 | exact rfl) (by decide) rfl ?_
    refine J.goto C dX4_packed_36 (tgt := 5) (by decide) ?_
    refine ih (i + 1) _ (by omega) (fun a ha r hr => ?_)
    rw [bt_or, hb a ha r hr, bt_sl (by omega) (by omega)]
    rcases (show a < i ∨ a = i ∨ i < a by omega) with e | e | e
    · rw [decide_eq_true e, decide_eq_true (show a < i + 1 by omega), decide_eq_false (show ¬ i * 16 ≤ 16 * a + r by omega), Bool.false_and, Bool.or_false]
    · subst e
      rw [decide_eq_false (show ¬ a < a by omega), decide_eq_true (show a < a + 1 by omega), decide_eq_true (show a * 16 ≤ 16 * a + r by omega), show 16 * a + r - a * 16 = r by omega, Bool.false_and, Bool.false_or]
    · rw [decide_eq_false (show ¬ a < i by omega), decide_eq_false (show ¬ a < i + 1 by omega), hz i (by omega) _ (by omega) (by omega), Bool.and_false, Bool.false_and]
      rfl
set_option maxHeartbeats 4000000 in
set_option maxRecDepth 100000 in
theorem ok_X4_packed (l : Launch) (V : Vx) {k n : Nat} (I : Nat → Nat → Int32) (L : Nat → Nat → Int64) (hk : kd k = 4) (hn : n ≤ 4) (hz : ∀ a, a < n → ∀ r, 16 ≤ r → r < 64 → bt (L (k + 1) a) r = false) : Gl l V yX4_packed wsX4_packed 1 [.ref (ad V k), .int (nI n)] I L (fun x I' L' => I' = I ∧ L' = L ∧ ∀ a, a < 4 → ∀ r, r < 16 → bt x (16 * a + r) = (decide (a < n) && bt (L (k + 1) a) r)) := by
  refine Ok.of (cc := cX4_packed) (maxL := 5) (ret := (some .long)) (by decide) rfl (Nat.le_of_ble_eq_true rfl) (fun X hnm C => ?_)
  have C : CX l X V RX4 cX4_packed 5 wsX4_packed 1 0 0 (some .long) := C
  refine J.cast (ls' := [(0, _), (1, _)]) rfl rfl rfl rfl ?_
  refine J.lconst C dX4_packed_0 (v := 0) (by decide) ?_
  refine J.lstore_n (ls' := [(0, _), (1, _), (2, _)]) C dX4_packed_1 (by decide) rfl ?_
  refine J.iconst C dX4_packed_2 (v := (nI 0)) (by decide) ?_
  refine J.istore (ls' := [(0, _), (1, _), (2, _), (4, _)]) C dX4_packed_3 (by decide) rfl ?_
  refine lp_X4_packed C hk hn hz (fun x hx => ?_) n 0 0 (by omega) (fun a ha r hr => by rw [bt_0, decide_eq_false (Nat.not_lt_zero _)]; rfl)
  exact ⟨x, I, L, rfl, rfl, rfl, rfl, hx⟩
/-- the columns of up to four lanes, told row by row -/
theorem pck_v {x : Int64} {n : Nat} {C : Nat → Int64} {v : Nat → Nat} (hn : n ≤ 4) (hR : RwI n 0 C v) (hv : ∀ r, r < 2 ^ n → v r < 2 ^ n) (hx : ∀ a, a < 4 → ∀ r, r < 16 → bt x (16 * a + r) = (decide (a < n) && bt (C a) r)) : ∀ r, r < 2 ^ n → rowX x r = v r := fun r hr => by
  have h16 : 2 ^ n ≤ 2 ^ 4 := Nat.pow_le_pow_right (by decide) hn
  refine rowX_v hn (hv r hr) (fun a ha => ?_)
  rw [hx a ha r (by omega)]
  by_cases e : a < n
  · rw [hR a e r (by omega), decide_eq_true hr, Bool.true_and, show 64 * 0 + r = r by omega]
  · rw [decide_eq_false e, Bool.false_and, Bool.false_and]
theorem pck_z {n : Nat} {C : Nat → Int64} {v : Nat → Nat} (hn : n ≤ 4) (hR : RwI n 0 C v) : ∀ a, a < n → ∀ r, 16 ≤ r → r < 64 → bt (C a) r = false := fun a ha r h1 h2 => by
  have h16 : 2 ^ n ≤ 2 ^ 4 := Nat.pow_le_pow_right (by decide) hn
  rw [hR a ha r h2, decide_eq_false (by omega), Bool.false_and]
