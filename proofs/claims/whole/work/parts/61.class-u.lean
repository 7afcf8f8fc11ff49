/-! THE CLASS: columns packed in one number -/
theorem bt_us {x : Int64} {k r : Nat} (hk : k < 64) : bt (us x k) r = bt x (r + k) := by
  rw [bt_n, bt_n, tn_us hk]
  exact Nat.testBit_div_two_pow _ _
theorem bt_ff {r : Nat} (hr : r < 64) : bt 65535 r = decide (r < 16) := by
  have key : ∀ r, r < 64 → bt 65535 r = decide (r < 16) := by decide +kernel
  exact key r hr
theorem bt_sl {x : Int64} {k r : Nat} (hk : k < 64) (hr : r < 64) : bt (x <<< ((nI k).toInt64 &&& 63)) r = (decide (k ≤ r) && bt x (r - k)) := by
  have key : ∀ k, k < 64 → (((nI k).toInt64 &&& 63).toBitVec.smod 64).toNat = k := by decide +kernel
  unfold bt
  rw [Int64.toBitVec_shiftLeft, BitVec.shiftLeft_eq', key k hk, BitVec.getLsbD_shiftLeft, decide_eq_true hr, Bool.true_and]
  by_cases e : r < k
  · rw [decide_eq_true e, decide_eq_false (show ¬ k ≤ r by omega)]; rfl
  · rw [decide_eq_false e, decide_eq_true (show k ≤ r by omega)]; rfl
def colV (x : Int64) (a : Nat) : Int64 := us x (a * 16) &&& 65535
theorem col_b {x : Int64} {a r : Nat} (ha : a < 4) (hr : r < 64) : bt (colV x a) r = (decide (r < 16) && bt x (16 * a + r)) := by
  unfold colV
  rw [bt_and, bt_us (by omega), bt_ff hr, Bool.and_comm, show r + a * 16 = 16 * a + r by omega]
def cmpV (x : Int64) (a b : Nat) : Int64 := (x ^^^ ((colV x a &&& (colV x b ^^^ -1)) <<< ((nI (a * 16)).toInt64 &&& 63))) ^^^ ((colV x a &&& (colV x b ^^^ -1)) <<< ((nI (b * 16)).toInt64 &&& 63))
theorem cmp_b {x : Int64} {a b c r : Nat} (ha : a < 4) (hb : b < 4) (hc : c < 4) (hr : r < 16) : bt (cmpV x a b) (16 * c + r) = (bt x (16 * c + r) ^^ ((bt x (16 * a + r) && !bt x (16 * b + r)) && (decide (a = c) ^^ decide (b = c)))) := by
  have sh : ∀ d, d < 4 → bt ((colV x a &&& (colV x b ^^^ -1)) <<< ((nI (d * 16)).toInt64 &&& 63)) (16 * c + r) = (decide (d = c) && (bt x (16 * a + r) && !bt x (16 * b + r))) := fun d hd => by
    rw [bt_sl (by omega) (by omega)]
    by_cases e : d = c
    · subst e
      rw [decide_eq_true (show d * 16 ≤ 16 * d + r by omega), decide_eq_true (rfl : d = d), show 16 * d + r - d * 16 = r by omega, bt_and, bt_not (by omega), col_b ha (by omega), col_b hb (by omega), decide_eq_true hr]
      rfl
    · rw [decide_eq_false e, Bool.false_and]
      by_cases q : d * 16 ≤ 16 * c + r
      · rw [decide_eq_true q, bt_and, col_b ha (by omega), decide_eq_false (show ¬ 16 * c + r - d * 16 < 16 by omega)]
        rfl
      · rw [decide_eq_false q]; rfl
  unfold cmpV
  rw [bt_xor, bt_xor, sh a ha, sh b hb]
  cases bt x (16 * c + r) <;> cases (bt x (16 * a + r) && !bt x (16 * b + r)) <;> cases decide (a = c) <;> cases decide (b = c) <;> rfl
set_option maxHeartbeats 4000000 in
set_option maxRecDepth 100000 in
theorem ok_X0_column (l : Launch) (V : Vx) {x : Int64} {a : Nat} (I : Nat → Nat → Int32) (L : Nat → Nat → Int64) : Dl l V yX0_column wsX0_column 1 [.long x, .int (nI a)] I L (colV x a) I L := by
  refine Ok.of (cc := cX0_column) (maxL := 3) (ret := (some .long)) (by decide) rfl (Nat.le_of_ble_eq_true rfl) (fun X hnm C => ?_)
  have C : CX l X V RX0 cX0_column 3 wsX0_column 1 0 0 (some .long) := C
  refine J.cast (ls' := [(0, _), (2, _)]) rfl rfl rfl rfl ?_
  refine J.lload_n C dX0_column_0 rfl ?_
  refine J.iload_n C dX0_column_1 rfl ?_
  refine J.bipush C dX0_column_2 (v := (nI 16)) (by decide) ?_
  first | refine J.imul_n C dX0_column_4 ?_ | refine J.imul C dX0_column_4 ?_
  refine J.lushr C dX0_column_5 ?_
  refine J.ldc2 C (v := 65535) (by decide +kernel) dX0_column_6 ?_
  refine J.land C dX0_column_9 ?_
  exact J.lret C dX0_column_10 ⟨rfl, rfl⟩
set_option maxHeartbeats 4000000 in
set_option maxRecDepth 100000 in
theorem ok_X0_compared (l : Launch) (V : Vx) {x : Int64} {a b : Nat} (I : Nat → Nat → Int32) (L : Nat → Nat → Int64) : Dl l V yX0_compared wsX0_compared 2 [.long x, .int (nI a), .int (nI b)] I L (cmpV x a b) I L := by
  refine Ok.of (cc := cX0_compared) (maxL := 6) (ret := (some .long)) (by decide) rfl (Nat.le_of_ble_eq_true rfl) (fun X hnm C => ?_)
  have C : CX l X V RX0 cX0_compared 6 wsX0_compared 2 0 0 (some .long) := C
  refine J.cast (ls' := [(0, _), (2, _), (3, _)]) rfl rfl rfl rfl ?_
  refine J.lload_n C dX0_compared_0 rfl ?_
  refine J.iload_n C dX0_compared_1 rfl ?_
  refine J.cSDl C (ok_X0_column l V _ _) gX0_compared_X0_column rfl mfX0_column (by decide) (by decide) rfl rfl (Nat.le_of_ble_eq_true rfl) dX0_compared_2 (Nat.le_refl _) (Nat.le_refl _) ?_
  refine J.lload_n C dX0_compared_5 rfl ?_
  refine J.iload_n C dX0_compared_6 rfl ?_
  refine J.cSDl C (ok_X0_column l V _ _) gX0_compared_X0_column rfl mfX0_column (by decide) (by decide) rfl rfl (Nat.le_of_ble_eq_true rfl) dX0_compared_7 (Nat.le_refl _) (Nat.le_refl _) ?_
  refine J.ldc2 C (v := -1) (by decide +kernel) dX0_compared_10 ?_
  refine J.lxor C dX0_compared_13 ?_
  refine J.land C dX0_compared_14 ?_
  refine J.lstore (ls' := [(0, _), (2, _), (3, _), (4, _)]) C dX0_compared_15 (by decide) rfl ?_
  refine J.lload_n C dX0_compared_17 rfl ?_
  refine J.lload C dX0_compared_18 rfl ?_
  refine J.iload_n C dX0_compared_20 rfl ?_
  refine J.bipush C dX0_compared_21 (v := (nI 16)) (by decide) ?_
  first | refine J.imul_n C dX0_compared_23 ?_ | refine J.imul C dX0_compared_23 ?_
  refine J.lshl C dX0_compared_24 ?_
  refine J.lxor C dX0_compared_25 ?_
  refine J.lload C dX0_compared_26 rfl ?_
  refine J.iload_n C dX0_compared_28 rfl ?_
  refine J.bipush C dX0_compared_29 (v := (nI 16)) (by decide) ?_
  first | refine J.imul_n C dX0_compared_31 ?_ | refine J.imul C dX0_compared_31 ?_
  refine J.lshl C dX0_compared_32 ?_
  refine J.lxor C dX0_compared_33 ?_
  exact J.lret C dX0_compared_34 ⟨rfl, rfl⟩
set_option maxHeartbeats 4000000 in
set_option maxRecDepth 100000 in
theorem lp_X0_areRising {l : Launch} {X : Cx} {V : Vx} {P : Option Value → (Nat → va_E) → Prop} {I : Nat → Nat → Int32} {L : Nat → Nat → Int64} (C : CX l X V RX0 cX0_areRising 4 wsX0_areRising 2 0 0 (some .boolean)) {n : Nat} {x : Int64} (hn : n ≤ 4) (hP : P (some (.int (bI (tb (∀ a, a + 1 < n → ∀ r, r < 16 → bt x (16 * a + r) = true → bt x (16 * (a + 1) + r) = true))))) (mm V I L)) : ∀ (z i : Nat), n ≤ i + 1 + z → i ≤ 4 → (∀ a, a < i → a + 1 < n → ∀ r, r < 16 → bt x (16 * a + r) = true → bt x (16 * (a + 1) + r) = true) → E X V P 4 2 [(0, .long x), (2, .int (nI n)), (3, .int (nI i))] [] I L := by
  intro z
  induction z with
  | zero =>
    intro i hi h4 hb
    refine J.iload_n C dX0_areRising_2 rfl ?_
    refine J.iconst C dX0_areRising_3 (v := (nI 1)) (by decide) ?_
    first | refine J.iadd_n C dX0_areRising_4 ?_ | refine J.iadd C dX0_areRising_4 ?_
    refine J.iload_n C dX0_areRising_5 rfl ?_
    first | refine J.icmp_ge_n C (by omega) (by omega) dX0_areRising_6 (tgt := 39) (by decide) (fun _ => ?_) (fun c6 => absurd c6 (by first | omega | decide | simp_all)) | refine J.icmp_ge_xn C (by omega) dX0_areRising_6 (tgt := 39) (by decide) (fun _ => ?_) (fun c6 => absurd c6 (by first | omega | decide | simp_all)) | refine J.icmp_ge_nx C (by omega) dX0_areRising_6 (tgt := 39) (by decide) (fun _ => ?_) (fun c6 => absurd c6 (by first | omega | decide | simp_all)) | refine J.icmp_ge C dX0_areRising_6 (tgt := 39) (by decide) (fun _ => ?_) (fun c6 => absurd c6 (by first | omega | decide | simp_all))
    refine J.iconst C dX0_areRising_39 (v := (nI 1)) (by decide) ?_
    exact J.zret C dX0_areRising_40 (by first | exact bI_nar _ | rfl | decide | assumption) (by rw [tb_1 (show (∀ a, a + 1 < n → ∀ r, r < 16 → bt x (16 * a + r) = true → bt x (16 * (a + 1) + r) = true) from fun a q => hb a (by omega) q)] at hP; exact hP)
  | succ z ih =>
    intro i hi h4 hb
    have hbit : i + 1 < n → ∀ r, r < 64 → bt (colV x i &&& (colV x (i + 1) ^^^ -1)) r = (decide (r < 16) && (bt x (16 * i + r) && !bt x (16 * (i + 1) + r))) := fun q r hr => by
      rw [bt_and, bt_not hr, col_b (by omega) hr, col_b (by omega) hr]
      cases decide (r < 16) <;> simp
    refine J.iload_n C dX0_areRising_2 rfl ?_
    refine J.iconst C dX0_areRising_3 (v := (nI 1)) (by decide) ?_
    first | refine J.iadd_n C dX0_areRising_4 ?_ | refine J.iadd C dX0_areRising_4 ?_
    refine J.iload_n C dX0_areRising_5 rfl ?_
    first | refine J.icmp_ge_n C (by omega) (by omega) dX0_areRising_6 (tgt := 39) (by decide) (fun c6t => ?_) (fun c6f => ?_) | refine J.icmp_ge_xn C (by omega) dX0_areRising_6 (tgt := 39) (by decide) (fun c6t => ?_) (fun c6f => ?_) | refine J.icmp_ge_nx C (by omega) dX0_areRising_6 (tgt := 39) (by decide) (fun c6t => ?_) (fun c6f => ?_) | refine J.icmp_ge C dX0_areRising_6 (tgt := 39) (by decide) (fun c6t => ?_) (fun c6f => ?_)
    · refine J.iconst C dX0_areRising_39 (v := (nI 1)) (by decide) ?_
      exact J.zret C dX0_areRising_40 (by first | exact bI_nar _ | rfl | decide | assumption) (by rw [tb_1 (show (∀ a, a + 1 < n → ∀ r, r < 16 → bt x (16 * a + r) = true → bt x (16 * (a + 1) + r) = true) from fun a q => hb a (by omega) q)] at hP; exact hP)
    · refine J.lload_n C dX0_areRising_9 rfl ?_
      refine J.iload_n C dX0_areRising_10 rfl ?_
      refine J.cSDl C (ok_X0_column l V _ _) gX0_areRising_X0_column rfl mfX0_column (by decide) (by decide) rfl rfl (Nat.le_of_ble_eq_true rfl) dX0_areRising_11 (Nat.le_refl _) (Nat.le_refl _) ?_
      refine J.lload_n C dX0_areRising_14 rfl ?_
      refine J.iload_n C dX0_areRising_15 rfl ?_
      refine J.iconst C dX0_areRising_16 (v := (nI 1)) (by decide) ?_
      first | refine J.iadd_n C dX0_areRising_17 ?_ | refine J.iadd C dX0_areRising_17 ?_
      refine J.cSDl C (ok_X0_column l V _ _) gX0_areRising_X0_column rfl mfX0_column (by decide) (by decide) rfl rfl (Nat.le_of_ble_eq_true rfl) dX0_areRising_18 (Nat.le_refl _) (Nat.le_refl _) ?_
      refine J.ldc2 C (v := -1) (by decide +kernel) dX0_areRising_21 ?_
      refine J.lxor C dX0_areRising_24 ?_
      refine J.land C dX0_areRising_25 ?_
      refine J.lconst C dX0_areRising_26 (v := 0) (by decide) ?_
      refine J.lcmp C dX0_areRising_27 ?_
      refine J.if_eq_c C dX0_areRising_28 (tgt := 33) (by decide) (fun c28t => ?_) (fun c28f => ?_)
      · refine J.iinc (ls' := [(0, _), (2, _), (3, _)]) C dX0_areRising_33 rfl (by first | exact nI_inc _ 1 | exact rfl) (by decide) rfl ?_
        refine J.goto C dX0_areRising_36 (tgt := 2) (by decide) ?_
        refine ih (i + 1) (by omega) (by omega) (fun a q1 q2 r hr h1 => ?_)
        by_cases e : a = i
        · subst e
          have y := hbit (by omega) r (by omega)
          rw [c28t, bt_0, decide_eq_true hr, h1] at y
          cases w : bt x (16 * (a + 1) + r)
          · rw [w] at y; cases y
          · rfl
        · exact hb a (by omega) q2 r hr h1
      · obtain ⟨r, hr, h1, -⟩ := low_x c28f
        rw [hbit (by omega) r hr, Bool.and_eq_true, Bool.and_eq_true, decide_eq_true_eq, Bool.not_eq_true'] at h1
        refine J.iconst C dX0_areRising_31 (v := (nI 0)) (by decide) ?_
        exact J.zret C dX0_areRising_32 (by first | exact bI_nar _ | rfl | decide | assumption) (by rw [tb_0 (fun q => by have y := q i (by omega) r h1.1 h1.2.1; rw [h1.2.2] at y; cases y)] at hP; exact hP)
set_option maxHeartbeats 4000000 in
set_option maxRecDepth 100000 in
theorem ok_X0_areRising (l : Launch) (V : Vx) {n : Nat} {x : Int64} (I : Nat → Nat → Int32) (L : Nat → Nat → Int64) (hn : n ≤ 4) : Di l V yX0_areRising wsX0_areRising 2 [.long x, .int (nI n)] I L (bI (tb (∀ a, a + 1 < n → ∀ r, r < 16 → bt x (16 * a + r) = true → bt x (16 * (a + 1) + r) = true))) I L := by
  refine Ok.of (cc := cX0_areRising) (maxL := 4) (ret := (some .boolean)) (by decide) rfl (Nat.le_of_ble_eq_true rfl) (fun X hnm C => ?_)
  have C : CX l X V RX0 cX0_areRising 4 wsX0_areRising 2 0 0 (some .boolean) := C
  refine J.cast (ls' := [(0, _), (2, _)]) rfl rfl rfl rfl ?_
  refine J.iconst C dX0_areRising_0 (v := (nI 0)) (by decide) ?_
  refine J.istore_n (ls' := [(0, _), (2, _), (3, _)]) C dX0_areRising_1 (by decide) rfl ?_
  exact lp_X0_areRising C hn ⟨rfl, rfl⟩ 4 0 (by omega) (by omega) (fun a q => absurd q (Nat.not_lt_zero _))
