/-! THE CLASS: rows as columns of bits -/
def bt (x : Int64) (r : Nat) : Bool := x.toBitVec.getLsbD r
theorem bt_and {x y : Int64} {r : Nat} : bt (x &&& y) r = (bt x r && bt y r) := by unfold bt; rw [Int64.toBitVec_and, BitVec.getLsbD_and]
theorem bt_or {x y : Int64} {r : Nat} : bt (x ||| y) r = (bt x r || bt y r) := by unfold bt; rw [Int64.toBitVec_or, BitVec.getLsbD_or]
theorem bt_xor {x y : Int64} {r : Nat} : bt (x ^^^ y) r = (bt x r ^^ bt y r) := by unfold bt; rw [Int64.toBitVec_xor, BitVec.getLsbD_xor]
theorem bt_m1 {r : Nat} (h : r < 64) : bt (-1) r = true := by
  have key : ∀ r, r < 64 → bt (-1) r = true := by decide +kernel
  exact key r h
theorem bt_0 {r : Nat} : bt 0 r = false := BitVec.getLsbD_zero
theorem bt_not {x : Int64} {r : Nat} (h : r < 64) : bt (x ^^^ -1) r = !bt x r := by rw [bt_xor, bt_m1 h]; cases bt x r <;> rfl
theorem bt_ext {x y : Int64} (h : ∀ r, r < 64 → bt x r = bt y r) : x = y := Int64.toBitVec_inj.mp (BitVec.eq_of_getLsbD_eq (fun i hi => h i hi))
theorem bt_z {x : Int64} : x = 0 ↔ ∀ r, r < 64 → bt x r = false := ⟨fun e r _ => by rw [e]; exact bt_0, fun h => bt_ext (fun r hr => by rw [h r hr, bt_0])⟩
theorem kd4 {k : Nat} (h : kd k = 4) : kd (k + 1) = 8 ∧ ln (k + 1) = 8 := by
  have key : ∀ k, k < 106 → kd k = 4 → kd (k + 1) = 8 ∧ ln (k + 1) = 8 := by decide +kernel
  exact key k (kd_lt h (by decide)) h
def fcV (a b : Nat) : Int64 := if a < 6 then (match a with
  | 0 => -6148914691236517206
  | 1 => -3689348814741910324
  | 2 => -1085102592571150096
  | 3 => -71777214294589696
  | 4 => -281470681808896
  | _ => -4294967296) else if b.testBit (a - 6) = true then -1 else 0
theorem fcV_b {a b r : Nat} (ha : a < 8) (hb : b < 4) (hr : r < 64) : bt (fcV a b) r = (64 * b + r).testBit a := by
  have key : ∀ a, a < 8 → ∀ b, b < 4 → ∀ r, r < 64 → bt (fcV a b) r = (64 * b + r).testBit a := by decide +kernel
  exact key a ha b hb r hr
theorem fcV_F {a : Nat} (h : a < 6) (b : Nat) : fcF a = .long (fcV a b) := by
  rcases (show a = 0 ∨ a = 1 ∨ a = 2 ∨ a = 3 ∨ a = 4 ∨ a = 5 by omega) with e | e | e | e | e | e <;> subst e <;> rfl
def alV (n : Nat) : Int64 := if n < 6 then 1 <<< ((nI 1 <<< (nI n &&& 31)).toInt64 &&& 63) - 1 else -1
def RwA (n : Nat) (x : Int64) : Prop := ∀ r, r < 64 → bt x r = decide (r < 2 ^ n)
theorem alV_b {n : Nat} (h8 : n ≤ 8) : RwA n (alV n) := fun r hr => by
  have key : ∀ n, n < 9 → ∀ r, r < 64 → bt (alV n) r = decide (r < 2 ^ n) := by decide +kernel
  exact key n (by omega) r hr
def RwI (n b : Nat) (c : Nat → Int64) (v : Nat → Nat) : Prop := ∀ a, a < n → ∀ r, r < 64 → bt (c a) r = (decide (r < 2 ^ n) && (v (64 * b + r)).testBit a)
theorem RwI_0 {n b : Nat} {c : Nat → Int64} (h8 : n ≤ 8) (hb : b < 4) (h : ∀ a, a < n → c a = alV n &&& fcV a b) : RwI n b c (fun r => r) := fun a ha r hr => by
  rw [h a ha, bt_and, alV_b h8 r hr, fcV_b (by omega) hb hr]
/-- does a comparer that acts so change lanes of such loads -/
def flp (q : Nat) (x y : Bool) : Bool := if q = 0 then x && !y else if q = 1 then !x && y else (decide (q = 3) && (x ^^ y))
theorem stp_tb {c : Cmp} {v j : Nat} (hne : c.2.1 ≠ c.2.2.1) : (stp c v).testBit j = (v.testBit j ^^ (flp (actK c) (v.testBit c.2.1) (v.testBit c.2.2.1) && (decide (c.2.1 = j) || decide (c.2.2.1 = j)))) := by
  have e : (chg c (hw v c.2.1 c.2.2.1) = true ∧ hw v c.2.1 c.2.2.1 ≠ 0) ↔ flp (actK c) (v.testBit c.2.1) (v.testBit c.2.2.1) = true := by
    unfold chg chgK hw flp
    generalize actK c = q
    cases v.testBit c.2.1 <;> cases v.testBit c.2.2.1 <;> (by_cases q0 : q = 0 <;> by_cases q1 : q = 1 <;> by_cases q3 : q = 3 <;> simp [q0, q1, q3])
  unfold stp
  by_cases w : flp (actK c) (v.testBit c.2.1) (v.testBit c.2.2.1) = true
  · rw [if_pos (e.mpr w), w, Nat.testBit_xor, Nat.testBit_xor, Nat.testBit_two_pow, Nat.testBit_two_pow]
    by_cases e1 : c.2.1 = j
    · have e2 : ¬ c.2.2.1 = j := fun q => hne (e1.trans q.symm)
      simp [e1, e2]
    · by_cases e2 : c.2.2.1 = j
      · simp [e1, e2]
      · simp [e1, e2]
  · rw [if_neg (fun q => w (e.mp q))]
    rw [Bool.not_eq_true] at w
    rw [w]
    simp
def chV (q : Nat) (x y z : Int64) : Int64 := if q = 0 then x &&& (y ^^^ -1) else if q = 1 then y &&& (x ^^^ -1) else if q = 3 then z else 0
theorem chV_b {q r : Nat} {x y z : Int64} {p a b : Bool} (hr : r < 64) (hx : bt x r = (p && a)) (hy : bt y r = (p && b)) (hz : bt z r = p) : bt (chV q x y z &&& (x ^^^ y)) r = (p && flp q a b) := by
  unfold chV flp
  rw [bt_and, bt_xor, hx, hy]
  by_cases q0 : q = 0
  · rw [if_pos q0, if_pos q0, bt_and, bt_not hr, hx, hy]
    cases p <;> cases a <;> cases b <;> rfl
  · rw [if_neg q0, if_neg q0]
    by_cases q1 : q = 1
    · rw [if_pos q1, if_pos q1, bt_and, bt_not hr, hx, hy]
      cases p <;> cases a <;> cases b <;> rfl
    · rw [if_neg q1, if_neg q1]
      by_cases q3 : q = 3
      · rw [if_pos q3, hz, decide_eq_true q3]
        cases p <;> cases a <;> cases b <;> rfl
      · rw [if_neg q3, bt_0, decide_eq_false q3]
        cases p <;> cases a <;> cases b <;> rfl
theorem RwI_step {n b : Nat} {C C' : Nat → Int64} {v : Nat → Nat} {z : Int64} {c : Cmp} (h : RwI n b C v) (hz : RwA n z) (hc : okC n c) (e1 : C' c.2.1 = C c.2.1 ^^^ (chV (actK c) (C c.2.1) (C c.2.2.1) z &&& (C c.2.1 ^^^ C c.2.2.1))) (e2 : C' c.2.2.1 = C c.2.2.1 ^^^ (chV (actK c) (C c.2.1) (C c.2.2.1) z &&& (C c.2.1 ^^^ C c.2.2.1))) (e3 : ∀ a, a ≠ c.2.1 → a ≠ c.2.2.1 → C' a = C a) : RwI n b C' (fun r => stp c (v r)) := fun a ha r hr => by
  obtain ⟨c1, c2, c3, c4⟩ := hc
  have hx := h c.2.1 (by omega) r hr
  have hy := h c.2.2.1 c3 r hr
  have hu := chV_b (q := actK c) hr hx hy (hz r hr)
  show bt (C' a) r = (decide (r < 2 ^ n) && (stp c (v (64 * b + r))).testBit a)
  rw [stp_tb (by omega)]
  by_cases q1 : a = c.2.1
  · subst q1
    rw [e1, bt_xor, hu, hx, decide_eq_true (show c.2.1 = c.2.1 from rfl)]
    cases decide (r < 2 ^ n) <;> simp
  · by_cases q2 : a = c.2.2.1
    · subst q2
      rw [e2, bt_xor, hu, hy, decide_eq_true (show c.2.2.1 = c.2.2.1 from rfl)]
      cases decide (r < 2 ^ n) <;> simp
    · rw [e3 a q1 q2, h a ha r hr, decide_eq_false (show ¬ c.2.1 = a from fun e => q1 e.symm), decide_eq_false (show ¬ c.2.2.1 = a from fun e => q2 e.symm)]
      simp
set_option maxHeartbeats 4000000 in
set_option maxRecDepth 100000 in
theorem ok_X4_blocks (l : Launch) (V : Vx) {n : Nat} (I : Nat → Nat → Int32) (L : Nat → Nat → Int64) (hn : n ≤ 8) : Di l V yX4_blocks wsX4_blocks 1 [.int (nI n)] I L (nI (2 ^ (n - 6))) I L := by
  refine Ok.of (cc := cX4_blocks) (maxL := 1) (ret := (some .int)) (by decide) rfl (Nat.le_of_ble_eq_true rfl) (fun X hnm C => ?_)
  have C : CX l X V RX4 cX4_blocks 1 wsX4_blocks 1 0 0 (some .int) := C
  refine J.cast (ls' := [(0, _)]) rfl rfl rfl rfl ?_
  refine J.iload_n C dX4_blocks_0 rfl ?_
  refine J.bipush C dX4_blocks_1 (v := (nI 6)) (by decide) ?_
  first | refine J.icmp_le_n C (by omega) (by omega) dX4_blocks_3 (tgt := 15) (by decide) (fun c3t => ?_) (fun c3f => ?_) | refine J.icmp_le_xn C (by omega) dX4_blocks_3 (tgt := 15) (by decide) (fun c3t => ?_) (fun c3f => ?_) | refine J.icmp_le_nx C (by omega) dX4_blocks_3 (tgt := 15) (by decide) (fun c3t => ?_) (fun c3f => ?_) | refine J.icmp_le C dX4_blocks_3 (tgt := 15) (by decide) (fun c3t => ?_) (fun c3f => ?_)
  · refine J.iconst C dX4_blocks_15 (v := (nI 1)) (by decide) ?_
    exact J.iret C dX4_blocks_16 ⟨by rw [show n - 6 = 0 by omega], rfl⟩
  · refine J.iconst C dX4_blocks_6 (v := (nI 1)) (by decide) ?_
    refine J.iload_n C dX4_blocks_7 rfl ?_
    refine J.bipush C dX4_blocks_8 (v := (nI 6)) (by decide) ?_
    first | refine J.isub_n C (by omega) dX4_blocks_10 ?_ | refine J.isub C dX4_blocks_10 ?_
    refine J.ishl C dX4_blocks_11 ?_
    rw [nI_pow (by omega)]
    refine J.goto C dX4_blocks_12 (tgt := 16) (by decide) ?_
    exact J.iret C dX4_blocks_16 ⟨rfl, rfl⟩
set_option maxHeartbeats 4000000 in
set_option maxRecDepth 100000 in
theorem ok_X4_firstColumn (l : Launch) (V : Vx) {a b : Nat} (I : Nat → Nat → Int32) (L : Nat → Nat → Int64) (ha : a < 8) (hb : b < 4) : Dl l V yX4_firstColumn wsX4_firstColumn 1 [.int (nI a), .int (nI b)] I L (fcV a b) I L := by
  refine Ok.of (cc := cX4_firstColumn) (maxL := 2) (ret := (some .long)) (by decide) rfl (Nat.le_of_ble_eq_true rfl) (fun X hnm C => ?_)
  have C : CX l X V RX4 cX4_firstColumn 2 wsX4_firstColumn 1 0 0 (some .long) := C
  refine J.cast (ls' := [(0, _), (1, _)]) rfl rfl rfl rfl ?_
  refine J.iload_n C dX4_firstColumn_0 rfl ?_
  refine J.bipush C dX4_firstColumn_1 (v := (nI 6)) (by decide) ?_
  first | refine J.icmp_ge_n C (by omega) (by omega) dX4_firstColumn_3 (tgt := 12) (by decide) (fun c3t => ?_) (fun c3f => ?_) | refine J.icmp_ge_xn C (by omega) dX4_firstColumn_3 (tgt := 12) (by decide) (fun c3t => ?_) (fun c3f => ?_) | refine J.icmp_ge_nx C (by omega) dX4_firstColumn_3 (tgt := 12) (by decide) (fun c3t => ?_) (fun c3f => ?_) | refine J.icmp_ge C dX4_firstColumn_3 (tgt := 12) (by decide) (fun c3t => ?_) (fun c3f => ?_)
  · refine J.iload_n C dX4_firstColumn_12 rfl ?_
    refine J.iload_n C dX4_firstColumn_13 rfl ?_
    refine J.bipush C dX4_firstColumn_14 (v := (nI 6)) (by decide) ?_
    first | refine J.isub_n C (by omega) dX4_firstColumn_16 ?_ | refine J.isub C dX4_firstColumn_16 ?_
    refine J.ishr C dX4_firstColumn_17 ?_
    refine J.iconst C dX4_firstColumn_18 (v := (nI 1)) (by decide) ?_
    refine J.iand C dX4_firstColumn_19 ?_
    rw [nI_bit (by omega) (by omega)]
    first | refine J.if_eq_b C dX4_firstColumn_20 (tgt := 29) (by decide) (fun c20t => ?_) (fun c20f => ?_) | refine J.if_eq_n C (by omega) dX4_firstColumn_20 (tgt := 29) (by decide) (fun c20t => ?_) (fun c20f => ?_) | refine J.if_eq C dX4_firstColumn_20 (tgt := 29) (by decide) (fun c20t => ?_) (fun c20f => ?_)
    · have e : fcV a b = 0 := by unfold fcV; rw [if_neg (by omega), if_neg (by rw [c20t]; decide)]
      refine J.lconst C dX4_firstColumn_29 (v := 0) (by decide) ?_
      exact J.lret C dX4_firstColumn_30 ⟨by rw [e], rfl⟩
    · have e : fcV a b = -1 := by unfold fcV; rw [if_neg (by omega), if_pos c20f]
      refine J.ldc2 C (v := -1) (by decide +kernel) dX4_firstColumn_23 ?_
      refine J.goto C dX4_firstColumn_26 (tgt := 30) (by decide) ?_
      exact J.lret C dX4_firstColumn_30 ⟨by rw [e], rfl⟩
  · refine J.fc C (by decide +kernel) dX4_firstColumn_6 ?_
    refine J.iload_n C dX4_firstColumn_9 rfl ?_
    refine J.fcl C rfl (by omega) (fcV_F (by omega) b) dX4_firstColumn_10 ?_
    exact J.lret C dX4_firstColumn_11 ⟨rfl, rfl⟩
set_option maxHeartbeats 4000000 in
set_option maxRecDepth 100000 in
theorem lp_X4_start {l : Launch} {X : Cx} {V : Vx} {P : Option Value → (Nat → va_E) → Prop} {I : Nat → Nat → Int32} {L : Nat → Nat → Int64} (C : CX l X V RX4 cX4_start 4 wsX4_start 2 0 0 none) {k n b : Nat} (hk : kd k = 4) (hn : n ≤ 8) (hb : b < 4) (ha : L k 1 = alV n) (hP : ∀ L0, L0 k = L k → (∀ a, a < n → L0 (k + 1) a = alV n &&& fcV a b) → (∀ q, q ≠ k + 1 → L0 q = L q) → P none (mm V I L0)) : ∀ (z i : Nat) (L0 : Nat → Nat → Int64), i + z = n → (∀ a, a < i → L0 (k + 1) a = alV n &&& fcV a b) → (∀ q, q ≠ k + 1 → L0 q = L q) → E X V P 4 25 [(0, .ref (ad V k)), (1, .int (nI n)), (2, .int (nI b)), (3, .int (nI i))] [] I L0 := by
  obtain ⟨hk1, hkl⟩ := kd4 hk
  have hk106 := kd_lt hk (by decide)
  intro z
  induction z with
  | zero =>
    intro i L0 hi h0 hf
    obtain rfl : i = n := by omega
    refine J.iload_n C dX4_start_25 rfl ?_
    refine J.iload_n C dX4_start_26 rfl ?_
    first | refine J.icmp_ge_n C (by omega) (by omega) dX4_start_27 (tgt := 52) (by decide) (fun _ => ?_) (fun c27 => absurd c27 (by first | omega | decide | simp_all)) | refine J.icmp_ge_xn C (by omega) dX4_start_27 (tgt := 52) (by decide) (fun _ => ?_) (fun c27 => absurd c27 (by first | omega | decide | simp_all)) | refine J.icmp_ge_nx C (by omega) dX4_start_27 (tgt := 52) (by decide) (fun _ => ?_) (fun c27 => absurd c27 (by first | omega | decide | simp_all)) | refine J.icmp_ge C dX4_start_27 (tgt := 52) (by decide) (fun _ => ?_) (fun c27 => absurd c27 (by first | omega | decide | simp_all))
    exact J.vret C dX4_start_52 (hP L0 (hf k (by omega)) h0 hf)
  | succ z ih =>
    intro i L0 hi h0 hf
    have haJ : L0 k 1 = alV n := by rw [hf k (by omega)]; exact ha
    refine J.iload_n C dX4_start_25 rfl ?_
    refine J.iload_n C dX4_start_26 rfl ?_
    first | refine J.icmp_ge_n C (by omega) (by omega) dX4_start_27 (tgt := 52) (by decide) (fun c27 => absurd c27 (by first | omega | decide | simp_all)) (fun _ => ?_) | refine J.icmp_ge_xn C (by omega) dX4_start_27 (tgt := 52) (by decide) (fun c27 => absurd c27 (by first | omega | decide | simp_all)) (fun _ => ?_) | refine J.icmp_ge_nx C (by omega) dX4_start_27 (tgt := 52) (by decide) (fun c27 => absurd c27 (by first | omega | decide | simp_all)) (fun _ => ?_) | refine J.icmp_ge C dX4_start_27 (tgt := 52) (by decide) (fun c27 => absurd c27 (by first | omega | decide | simp_all)) (fun _ => ?_)
    refine J.aload_n C dX4_start_30 rfl ?_
    refine J.getR C flX4_start_9 (by first | decide | omega) (by first | exact rfl | exact mk_4 (by assumption)) (by exact rfl) dX4_start_31 ?_
    refine J.iload_n C dX4_start_34 rfl ?_
    refine J.aload_n C dX4_start_35 rfl ?_
    refine J.getL C flX4_start_15 (by first | decide | omega) (by first | exact rfl | exact mk_4 (by assumption)) (by exact rfl) (by first | ((repeat (first | rewrite [up2_n _ _ _ (by first | decide | omega)] | rewrite [up2_m _ _ _ (by decide)] | rewrite [up3_n _ _ _ (by first | decide | omega)])) <;> (first | exact up2_s _ _ _ _ | exact up3_s _ _ _ _ | assumption | exact rfl))) dX4_start_36 ?_
    refine J.iload_n C dX4_start_39 rfl ?_
    refine J.iload_n C dX4_start_40 rfl ?_
    refine J.cSDl C (ok_X4_firstColumn l V _ _ (by omega) hb) gX4_start_X4_firstColumn rfl mfX4_firstColumn (by decide) (by decide) rfl rfl (Nat.le_of_ble_eq_true rfl) dX4_start_41 (Nat.le_refl _) (Nat.le_refl _) ?_
    refine J.land C dX4_start_44 ?_
    refine J.las C (by first | exact rfl | assumption) (by first | exact rfl | exact rfl) (by first | (have h_ln := ln_all; have h_l2 := ln_all2; omega) | omega) dX4_start_45 ?_
    refine J.iinc (ls' := [(0, _), (1, _), (2, _), (3, _)]) C dX4_start_46 rfl (by first | exact nI_inc _ 1 | exact rfl) (by decide) rfl ?_
    refine J.goto C dX4_start_49 (tgt := 25) (by decide) ?_
    refine ih (i + 1) _ (by omega) (fun j q => ?_) (fun q a => by rw [up3_n _ _ _ a]; exact hf q a)
    by_cases e : j = i
    · subst e; exact up3_s _ _ _ _
    · rw [up3_m _ _ _ e]; exact h0 j (by omega)
set_option maxHeartbeats 4000000 in
set_option maxRecDepth 100000 in
theorem ok_X4_start (l : Launch) (V : Vx) {k n b : Nat} (I : Nat → Nat → Int32) (L : Nat → Nat → Int64) (hk : kd k = 4) (hn : n ≤ 8) (hb : b < 4) : Gv l V yX4_start wsX4_start 2 [.ref (ad V k), .int (nI n), .int (nI b)] I L (fun I' L' => I' = I ∧ L' k 1 = alV n ∧ (∀ a, a < n → L' (k + 1) a = alV n &&& fcV a b) ∧ ∀ q, q ≠ k → q ≠ k + 1 → L' q = L q) := by
  obtain ⟨hk1, hkl⟩ := kd4 hk
  have hk106 := kd_lt hk (by decide)
  refine Ok.of (cc := cX4_start) (maxL := 4) (ret := none) (by decide) rfl (Nat.le_of_ble_eq_true rfl) (fun X hnm C => ?_)
  have C : CX l X V RX4 cX4_start 4 wsX4_start 2 0 0 none := C
  refine J.cast (ls' := [(0, _), (1, _), (2, _)]) rfl rfl rfl rfl ?_
  refine J.aload_n C dX4_start_0 rfl ?_
  refine J.iload_n C dX4_start_1 rfl ?_
  refine J.bipush C dX4_start_2 (v := (nI 6)) (by decide) ?_
  first | refine J.icmp_ge_n C (by omega) (by omega) dX4_start_4 (tgt := 17) (by decide) (fun c4t => ?_) (fun c4f => ?_) | refine J.icmp_ge_xn C (by omega) dX4_start_4 (tgt := 17) (by decide) (fun c4t => ?_) (fun c4f => ?_) | refine J.icmp_ge_nx C (by omega) dX4_start_4 (tgt := 17) (by decide) (fun c4t => ?_) (fun c4f => ?_) | refine J.icmp_ge C dX4_start_4 (tgt := 17) (by decide) (fun c4t => ?_) (fun c4f => ?_)
  · have e : alV n = -1 := if_neg (by omega)
    refine J.ldc2 C (v := -1) (by decide +kernel) dX4_start_17 ?_
    refine J.putL C fpX4_start_15 (by first | decide | omega) (by first | exact rfl | exact mk_4 (by assumption)) (Nat.le_of_ble_eq_true rfl) (by first | exact mp_4_1 rfl | exact mp_4_1 (by assumption)) dX4_start_20 ?_
    refine J.iconst C dX4_start_23 (v := (nI 0)) (by decide) ?_
    refine J.istore_n (ls' := [(0, _), (1, _), (2, _), (3, _)]) C dX4_start_24 (by decide) rfl ?_
    rw [← e]
    refine lp_X4_start C hk hn hb (L := up3 L k 1 (alV n)) (up3_s _ _ _ _) (fun L0 h1 h2 h3 => ?_) n 0 _ (by omega) (fun j q => absurd q (Nat.not_lt_zero _)) (fun _ _ => rfl)
    exact ⟨I, L0, rfl, rfl, rfl, by rw [h1, up3_s], h2, fun q a b => by rw [h3 q b, up3_n _ _ _ a]⟩
  · have e : alV n = 1 <<< ((nI 1 <<< (nI n &&& 31)).toInt64 &&& 63) - 1 := if_pos (by omega)
    refine J.lconst C dX4_start_7 (v := 1) (by decide) ?_
    refine J.iconst C dX4_start_8 (v := (nI 1)) (by decide) ?_
    refine J.iload_n C dX4_start_9 rfl ?_
    refine J.ishl C dX4_start_10 ?_
    refine J.lshl C dX4_start_11 ?_
    refine J.lconst C dX4_start_12 (v := 1) (by decide) ?_
    refine J.lsub C dX4_start_13 ?_
    refine J.goto C dX4_start_14 (tgt := 20) (by decide) ?_
    refine J.putL C fpX4_start_15 (by first | decide | omega) (by first | exact rfl | exact mk_4 (by assumption)) (Nat.le_of_ble_eq_true rfl) (by first | exact mp_4_1 rfl | exact mp_4_1 (by assumption)) dX4_start_20 ?_
    refine J.iconst C dX4_start_23 (v := (nI 0)) (by decide) ?_
    refine J.istore_n (ls' := [(0, _), (1, _), (2, _), (3, _)]) C dX4_start_24 (by decide) rfl ?_
    rw [← e]
    refine lp_X4_start C hk hn hb (L := up3 L k 1 (alV n)) (up3_s _ _ _ _) (fun L0 h1 h2 h3 => ?_) n 0 _ (by omega) (fun j q => absurd q (Nat.not_lt_zero _)) (fun _ _ => rfl)
    exact ⟨I, L0, rfl, rfl, rfl, by rw [h1, up3_s], h2, fun q a b => by rw [h3 q b, up3_n _ _ _ a]⟩
set_option maxHeartbeats 4000000 in
set_option maxRecDepth 100000 in
theorem ok_X4_changing (l : Launch) (V : Vx) {k q a b : Nat} {x y z : Int64} (I : Nat → Nat → Int32) (L : Nat → Nat → Int64) (hk : kd k = 4) (hq : q < 4) (ha : a < 8) (hb : b < 8) (hx : L (k + 1) a = x) (hy : L (k + 1) b = y) (hz : L k 1 = z) : Dl l V yX4_changing wsX4_changing 1 [.ref (ad V k), .int (nI q), .int (nI a), .int (nI b)] I L (chV q x y z) I L := by
  obtain ⟨hk1, hkl⟩ := kd4 hk
  have hk106 := kd_lt hk (by decide)
  refine Ok.of (cc := cX4_changing) (maxL := 4) (ret := (some .long)) (by decide) rfl (Nat.le_of_ble_eq_true rfl) (fun X hnm C => ?_)
  have C : CX l X V RX4 cX4_changing 4 wsX4_changing 1 0 0 (some .long) := C
  refine J.cast (ls' := [(0, _), (1, _), (2, _), (3, _)]) rfl rfl rfl rfl ?_
  refine J.iload_n C dX4_changing_0 rfl ?_
  rcases (show q = 0 ∨ q = 1 ∨ q = 2 ∨ q = 3 by omega) with e | e | e | e <;> subst e
  · refine J.look C dX4_changing_1 (off := 27) (by decide) (by decide) (tgt := 28) (by decide) ?_
    refine J.aload_n C dX4_changing_28 rfl ?_
    refine J.getR C flX4_changing_9 (by first | decide | omega) (by first | exact rfl | exact mk_4 (by assumption)) (by exact rfl) dX4_changing_29 ?_
    refine J.iload_n C dX4_changing_32 rfl ?_
    refine J.la C (by first | exact rfl | assumption) (by first | exact rfl | exact rfl) (by first | (have h_ln := ln_all; have h_l2 := ln_all2; omega) | omega) (by first | ((repeat (first | rewrite [up2_n _ _ _ (by first | decide | omega)] | rewrite [up2_m _ _ _ (by decide)] | rewrite [up3_n _ _ _ (by first | decide | omega)])) <;> (first | exact up2_s _ _ _ _ | exact up3_s _ _ _ _ | assumption | exact rfl))) dX4_changing_33 ?_
    refine J.aload_n C dX4_changing_34 rfl ?_
    refine J.getR C flX4_changing_9 (by first | decide | omega) (by first | exact rfl | exact mk_4 (by assumption)) (by exact rfl) dX4_changing_35 ?_
    refine J.iload_n C dX4_changing_38 rfl ?_
    refine J.la C (by first | exact rfl | assumption) (by first | exact rfl | exact rfl) (by first | (have h_ln := ln_all; have h_l2 := ln_all2; omega) | omega) (by first | ((repeat (first | rewrite [up2_n _ _ _ (by first | decide | omega)] | rewrite [up2_m _ _ _ (by decide)] | rewrite [up3_n _ _ _ (by first | decide | omega)])) <;> (first | exact up2_s _ _ _ _ | exact up3_s _ _ _ _ | assumption | exact rfl))) dX4_changing_39 ?_
    refine J.ldc2 C (v := -1) (by decide +kernel) dX4_changing_40 ?_
    refine J.lxor C dX4_changing_43 ?_
    refine J.land C dX4_changing_44 ?_
    exact J.lret C dX4_changing_45 ⟨rfl, rfl⟩
  · refine J.look C dX4_changing_1 (off := 45) (by decide) (by decide) (tgt := 46) (by decide) ?_
    refine J.aload_n C dX4_changing_46 rfl ?_
    refine J.getR C flX4_changing_9 (by first | decide | omega) (by first | exact rfl | exact mk_4 (by assumption)) (by exact rfl) dX4_changing_47 ?_
    refine J.iload_n C dX4_changing_50 rfl ?_
    refine J.la C (by first | exact rfl | assumption) (by first | exact rfl | exact rfl) (by first | (have h_ln := ln_all; have h_l2 := ln_all2; omega) | omega) (by first | ((repeat (first | rewrite [up2_n _ _ _ (by first | decide | omega)] | rewrite [up2_m _ _ _ (by decide)] | rewrite [up3_n _ _ _ (by first | decide | omega)])) <;> (first | exact up2_s _ _ _ _ | exact up3_s _ _ _ _ | assumption | exact rfl))) dX4_changing_51 ?_
    refine J.aload_n C dX4_changing_52 rfl ?_
    refine J.getR C flX4_changing_9 (by first | decide | omega) (by first | exact rfl | exact mk_4 (by assumption)) (by exact rfl) dX4_changing_53 ?_
    refine J.iload_n C dX4_changing_56 rfl ?_
    refine J.la C (by first | exact rfl | assumption) (by first | exact rfl | exact rfl) (by first | (have h_ln := ln_all; have h_l2 := ln_all2; omega) | omega) (by first | ((repeat (first | rewrite [up2_n _ _ _ (by first | decide | omega)] | rewrite [up2_m _ _ _ (by decide)] | rewrite [up3_n _ _ _ (by first | decide | omega)])) <;> (first | exact up2_s _ _ _ _ | exact up3_s _ _ _ _ | assumption | exact rfl))) dX4_changing_57 ?_
    refine J.ldc2 C (v := -1) (by decide +kernel) dX4_changing_58 ?_
    refine J.lxor C dX4_changing_61 ?_
    refine J.land C dX4_changing_62 ?_
    exact J.lret C dX4_changing_63 ⟨rfl, rfl⟩
  · refine J.look C dX4_changing_1 (off := 63) (by decide) (by decide) (tgt := 64) (by decide) ?_
    refine J.iload_n C dX4_changing_64 rfl ?_
    refine J.iconst C dX4_changing_65 (v := (nI 3)) (by decide) ?_
    first | refine J.icmp_ne_n C (by omega) (by omega) dX4_changing_66 (tgt := 76) (by decide) (fun _ => ?_) (fun c66 => absurd c66 (by first | omega | decide | simp_all)) | refine J.icmp_ne_xn C (by omega) dX4_changing_66 (tgt := 76) (by decide) (fun _ => ?_) (fun c66 => absurd c66 (by first | omega | decide | simp_all)) | refine J.icmp_ne_nx C (by omega) dX4_changing_66 (tgt := 76) (by decide) (fun _ => ?_) (fun c66 => absurd c66 (by first | omega | decide | simp_all)) | refine J.icmp_ne C dX4_changing_66 (tgt := 76) (by decide) (fun _ => ?_) (fun c66 => absurd c66 (by first | omega | decide | simp_all))
    refine J.lconst C dX4_changing_76 (v := 0) (by decide) ?_
    exact J.lret C dX4_changing_77 ⟨rfl, rfl⟩
  · refine J.look C dX4_changing_1 (off := 63) (by decide) (by decide) (tgt := 64) (by decide) ?_
    refine J.iload_n C dX4_changing_64 rfl ?_
    refine J.iconst C dX4_changing_65 (v := (nI 3)) (by decide) ?_
    first | refine J.icmp_ne_n C (by omega) (by omega) dX4_changing_66 (tgt := 76) (by decide) (fun c66 => absurd c66 (by first | omega | decide | simp_all)) (fun _ => ?_) | refine J.icmp_ne_xn C (by omega) dX4_changing_66 (tgt := 76) (by decide) (fun c66 => absurd c66 (by first | omega | decide | simp_all)) (fun _ => ?_) | refine J.icmp_ne_nx C (by omega) dX4_changing_66 (tgt := 76) (by decide) (fun c66 => absurd c66 (by first | omega | decide | simp_all)) (fun _ => ?_) | refine J.icmp_ne C dX4_changing_66 (tgt := 76) (by decide) (fun c66 => absurd c66 (by first | omega | decide | simp_all)) (fun _ => ?_)
    refine J.aload_n C dX4_changing_69 rfl ?_
    refine J.getL C flX4_changing_15 (by first | decide | omega) (by first | exact rfl | exact mk_4 (by assumption)) (by exact rfl) (by first | ((repeat (first | rewrite [up2_n _ _ _ (by first | decide | omega)] | rewrite [up2_m _ _ _ (by decide)] | rewrite [up3_n _ _ _ (by first | decide | omega)])) <;> (first | exact up2_s _ _ _ _ | exact up3_s _ _ _ _ | assumption | exact rfl))) dX4_changing_70 ?_
    refine J.goto C dX4_changing_73 (tgt := 77) (by decide) ?_
    exact J.lret C dX4_changing_77 ⟨rfl, rfl⟩
set_option maxHeartbeats 4000000 in
set_option maxRecDepth 100000 in
theorem ok_X4_step (l : Launch) (V : Vx) {k q a b : Nat} {x y z : Int64} (I : Nat → Nat → Int32) (L : Nat → Nat → Int64) (hk : kd k = 4) (hq : q < 4) (ha : a < 8) (hb : b < 8) (hab : a ≠ b) (hx : L (k + 1) a = x) (hy : L (k + 1) b = y) (hz : L k 1 = z) : Dv l V yX4_step wsX4_step 2 [.ref (ad V k), .int (nI q), .int (nI a), .int (nI b)] I L I (up3 (up3 L (k + 1) a (x ^^^ (chV q x y z &&& (x ^^^ y)))) (k + 1) b (y ^^^ (chV q x y z &&& (x ^^^ y)))) := by
  obtain ⟨hk1, hkl⟩ := kd4 hk
  have hk106 := kd_lt hk (by decide)
  refine Ok.of (cc := cX4_step) (maxL := 6) (ret := none) (by decide) rfl (Nat.le_of_ble_eq_true rfl) (fun X hnm C => ?_)
  have C : CX l X V RX4 cX4_step 6 wsX4_step 2 0 0 none := C
  refine J.cast (ls' := [(0, _), (1, _), (2, _), (3, _)]) rfl rfl rfl rfl ?_
  refine J.aload_n C dX4_step_0 rfl ?_
  refine J.iload_n C dX4_step_1 rfl ?_
  refine J.iload_n C dX4_step_2 rfl ?_
  refine J.iload_n C dX4_step_3 rfl ?_
  refine J.cVDl (q := (RX4, TX4, 2)) (ci := 4) C (ok_X4_changing l V _ _ hk hq ha hb hx hy hz) gX4_step_X4_changing rfl mfX4_changing rfl (by decide) (by decide) (by first | decide | omega) (by first | exact rfl | exact mk_4 (by assumption)) rfl rfl rfl (Nat.le_of_ble_eq_true rfl) dX4_step_4 (Nat.le_refl _) (Nat.le_refl _) ?_
  refine J.aload_n C dX4_step_7 rfl ?_
  refine J.getR C flX4_step_9 (by first | decide | omega) (by first | exact rfl | exact mk_4 (by assumption)) (by exact rfl) dX4_step_8 ?_
  refine J.iload_n C dX4_step_11 rfl ?_
  refine J.la C (by first | exact rfl | assumption) (by first | exact rfl | exact rfl) (by first | (have h_ln := ln_all; have h_l2 := ln_all2; omega) | omega) (by first | ((repeat (first | rewrite [up2_n _ _ _ (by first | decide | omega)] | rewrite [up2_m _ _ _ (by decide)] | rewrite [up3_n _ _ _ (by first | decide | omega)])) <;> (first | exact up2_s _ _ _ _ | exact up3_s _ _ _ _ | assumption | exact rfl))) dX4_step_12 ?_
  refine J.aload_n C dX4_step_13 rfl ?_
  refine J.getR C flX4_step_9 (by first | decide | omega) (by first | exact rfl | exact mk_4 (by assumption)) (by exact rfl) dX4_step_14 ?_
  refine J.iload_n C dX4_step_17 rfl ?_
  refine J.la C (by first | exact rfl | assumption) (by first | exact rfl | exact rfl) (by first | (have h_ln := ln_all; have h_l2 := ln_all2; omega) | omega) (by first | ((repeat (first | rewrite [up2_n _ _ _ (by first | decide | omega)] | rewrite [up2_m _ _ _ (by decide)] | rewrite [up3_n _ _ _ (by first | decide | omega)])) <;> (first | exact up2_s _ _ _ _ | exact up3_s _ _ _ _ | assumption | exact rfl))) dX4_step_18 ?_
  refine J.lxor C dX4_step_19 ?_
  refine J.land C dX4_step_20 ?_
  refine J.lstore (ls' := [(0, _), (1, _), (2, _), (3, _), (4, _)]) C dX4_step_21 (by decide) rfl ?_
  refine J.aload_n C dX4_step_23 rfl ?_
  refine J.getR C flX4_step_9 (by first | decide | omega) (by first | exact rfl | exact mk_4 (by assumption)) (by exact rfl) dX4_step_24 ?_
  refine J.iload_n C dX4_step_27 rfl ?_
  refine J.dup2 C dX4_step_28 rfl rfl ?_
  refine J.la C (by first | exact rfl | assumption) (by first | exact rfl | exact rfl) (by first | (have h_ln := ln_all; have h_l2 := ln_all2; omega) | omega) (by first | ((repeat (first | rewrite [up2_n _ _ _ (by first | decide | omega)] | rewrite [up2_m _ _ _ (by decide)] | rewrite [up3_n _ _ _ (by first | decide | omega)])) <;> (first | exact up2_s _ _ _ _ | exact up3_s _ _ _ _ | assumption | exact rfl))) dX4_step_29 ?_
  refine J.lload C dX4_step_30 rfl ?_
  refine J.lxor C dX4_step_32 ?_
  refine J.las C (by first | exact rfl | assumption) (by first | exact rfl | exact rfl) (by first | (have h_ln := ln_all; have h_l2 := ln_all2; omega) | omega) dX4_step_33 ?_
  refine J.aload_n C dX4_step_34 rfl ?_
  refine J.getR C flX4_step_9 (by first | decide | omega) (by first | exact rfl | exact mk_4 (by assumption)) (by exact rfl) dX4_step_35 ?_
  refine J.iload_n C dX4_step_38 rfl ?_
  refine J.dup2 C dX4_step_39 rfl rfl ?_
  refine J.la C (by first | exact rfl | assumption) (by first | exact rfl | exact rfl) (by first | (have h_ln := ln_all; have h_l2 := ln_all2; omega) | omega) (by first | exact (up3_m _ _ _ (fun e => hab e.symm)).trans hy | ((repeat (first | rewrite [up2_n _ _ _ (by first | decide | omega)] | rewrite [up2_m _ _ _ (by decide)] | rewrite [up3_n _ _ _ (by first | decide | omega)])) <;> (first | exact up2_s _ _ _ _ | exact up3_s _ _ _ _ | assumption | exact rfl))) dX4_step_40 ?_
  refine J.lload C dX4_step_41 rfl ?_
  refine J.lxor C dX4_step_43 ?_
  refine J.las C (by first | exact rfl | assumption) (by first | exact rfl | exact rfl) (by first | (have h_ln := ln_all; have h_l2 := ln_all2; omega) | omega) dX4_step_44 ?_
  exact J.vret C dX4_step_45 ⟨rfl, rfl⟩
