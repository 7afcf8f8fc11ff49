/-! THE CLASS: Net and History -/
def pk (c : Cmp) : Nat := c.1 + 8 * c.2.1 + 64 * c.2.2.1 + 512 * c.2.2.2.toNat
def netC (I : Nat → Nat → Int32) (k : Nat) (t : Nt) : Prop := I k 0 = nI t.1 ∧ I k 1 = nI t.2.1 ∧ ∀ i, i < t.2.1 → I (k + 1) i = nI (pk (t.2.2 i))
theorem kd3 {k : Nat} (h : kd k = 3) : kd (k + 1) = 7 ∧ ln (k + 1) = 40 := by
  have key : ∀ k, k < 106 → kd k = 3 → kd (k + 1) = 7 ∧ ln (k + 1) = 40 := by decide +kernel
  exact key k (kd_lt h (by decide)) h
theorem kd_ne {a b : Nat} {x y : Nat} (ha : kd a = x) (hb : kd b = y) (h : x ≠ y) : a ≠ b := fun e => h (by rw [← ha, ← hb, e])
def okB (c : Cmp) : Prop := c.1 ≤ 4 ∧ c.2.1 < 8 ∧ c.2.2.1 < 8
theorem okC_B {n : Nat} {c : Cmp} (h : okC n c) (hn : n ≤ 8) : okB c := ⟨h.1, by have := h.2.1; have := h.2.2.1; omega, by have := h.2.2.1; omega⟩
theorem pq_lt {c : Cmp} (h : okB c) : pk c < 1024 := by
  obtain ⟨h1, h2, h3⟩ := h
  unfold pk
  have : c.2.2.2.toNat ≤ 1 := by cases c.2.2.2 <;> decide
  omega
theorem pq_k {c : Cmp} (h : okB c) : nI (pk c) &&& nI 7 = nI c.1 := by
  have h0 := pq_lt h
  obtain ⟨h1, h2, h3⟩ := h
  rw [pk_andN (by omega) 3 (by decide)]
  congr 1
  unfold pk
  omega
theorem pq_a {c : Cmp} (h : okB c) : (nI (pk c) >>> (nI 3 &&& 31)) &&& nI 7 = nI c.2.1 := by
  have h0 := pq_lt h
  obtain ⟨h1, h2, h3⟩ := h
  rw [pk_shrN (by omega) (nI 3 &&& 31) 3 (by decide), pk_andN (by omega) 3 (by decide)]
  congr 1
  unfold pk
  have : c.2.2.2.toNat ≤ 1 := by cases c.2.2.2 <;> decide
  omega
theorem pq_b {c : Cmp} (h : okB c) : (nI (pk c) >>> (nI 6 &&& 31)) &&& nI 7 = nI c.2.2.1 := by
  have h0 := pq_lt h
  obtain ⟨h1, h2, h3⟩ := h
  rw [pk_shrN (by omega) (nI 6 &&& 31) 6 (by decide), pk_andN (by omega) 3 (by decide)]
  congr 1
  unfold pk
  have : c.2.2.2.toNat ≤ 1 := by cases c.2.2.2 <;> decide
  omega
theorem and512 : ∀ p, p < 1024 → nI p &&& nI 512 = nI (if 512 ≤ p then 512 else 0) := by decide +kernel
theorem pq_o {c : Cmp} (h : okB c) : nI (pk c) &&& nI 512 = nI (cond c.2.2.2 512 0) := by
  rw [and512 _ (pq_lt h)]
  obtain ⟨h1, h2, h3⟩ := h
  unfold pk
  cases c.2.2.2 with
  | true => rw [if_pos (by simp)]; rfl
  | false => rw [if_neg (by simp; omega)]; rfl
theorem pq_w : ∀ k, k < 5 → ∀ a, a < 8 → ∀ b, b < 8 → ∀ o : Bool, ((nI k ||| (nI a <<< (nI 3 &&& 31))) ||| (nI b <<< (nI 6 &&& 31))) ||| nI (cond o 512 0) = nI (k + 8 * a + 64 * b + 512 * o.toNat) := by decide +kernel
theorem or512 : ∀ p, p < 1024 → nI p ||| nI 512 = nI (p % 512 + 512) := by decide +kernel
theorem andm513 : ∀ p, p < 1024 → nI p &&& (-513) = nI (p % 512) := by decide +kernel
theorem pq_s {c : Cmp} (h : okB c) (b : Bool) : (cond b (nI (pk c) ||| nI 512) (nI (pk c) &&& (-513))) = nI (pk (c.1, c.2.1, c.2.2.1, b)) := by
  have h0 := pq_lt h
  obtain ⟨h1, h2, h3⟩ := h
  cases b with
  | true =>
    show nI (pk c) ||| nI 512 = _
    rw [or512 _ h0]
    congr 1
    unfold pk
    have : c.2.2.2.toNat ≤ 1 := by cases c.2.2.2 <;> decide
    show _ = c.1 + 8 * c.2.1 + 64 * c.2.2.1 + 512 * 1
    omega
  | false =>
    show nI (pk c) &&& (-513) = _
    rw [andm513 _ h0]
    congr 1
    unfold pk
    have : c.2.2.2.toNat ≤ 1 := by cases c.2.2.2 <;> decide
    show _ = c.1 + 8 * c.2.1 + 64 * c.2.2.1 + 512 * 0
    omega
set_option maxHeartbeats 4000000 in
set_option maxRecDepth 100000 in
theorem ok_X3_isNone (l : Launch) (V : Vx) {k : Nat} {n : Nat} (I : Nat → Nat → Int32) (L : Nat → Nat → Int64) (hk : kd k = 3) (h : I k 0 = nI n) (hn : n ≤ 8) : Di l V yX3_isNone wsX3_isNone 1 [.ref (ad V k)] I L (bI (tb (n = 0))) I L := by
  obtain ⟨hk1, hkl⟩ := kd3 hk
  have hk106 := kd_lt hk (by decide)
  refine Ok.of (cc := cX3_isNone) (maxL := 1) (ret := (some .boolean)) (by decide) rfl (Nat.le_of_ble_eq_true rfl) (fun X hnm C => ?_)
  have C : CX l X V RX3 cX3_isNone 1 wsX3_isNone 1 0 0 (some .boolean) := C
  refine J.cast (ls' := [(0, _)]) rfl rfl rfl rfl ?_
  refine J.aload_n C dX3_isNone_0 rfl ?_
  refine J.getI C flX3_isNone_9 (by first | decide | omega) (by first | exact rfl | exact mk_3 (by assumption)) (by exact rfl) (by first | ((repeat (first | rewrite [up2_n _ _ _ (by first | decide | omega)] | rewrite [up2_m _ _ _ (by decide)] | rewrite [up3_n _ _ _ (by first | decide | omega)])) <;> (first | exact up2_s _ _ _ _ | exact up3_s _ _ _ _ | assumption | exact rfl))) dX3_isNone_1 ?_
  first | refine J.if_ne_b C dX3_isNone_4 (tgt := 11) (by decide) (fun c4t => ?_) (fun c4f => ?_) | refine J.if_ne_n C (by omega) dX3_isNone_4 (tgt := 11) (by decide) (fun c4t => ?_) (fun c4f => ?_) | refine J.if_ne C dX3_isNone_4 (tgt := 11) (by decide) (fun c4t => ?_) (fun c4f => ?_)
  · rw [tb_0 c4t]
    refine J.iconst C dX3_isNone_11 (v := (nI 0)) (by decide) ?_
    exact J.zret C dX3_isNone_12 (by first | exact bI_nar _ | rfl | decide | assumption) ⟨rfl, rfl⟩
  · rw [tb_1 c4f]
    refine J.iconst C dX3_isNone_7 (v := (nI 1)) (by decide) ?_
    refine J.goto C dX3_isNone_8 (tgt := 12) (by decide) ?_
    exact J.zret C dX3_isNone_12 (by first | exact bI_nar _ | rfl | decide | assumption) ⟨rfl, rfl⟩
set_option maxHeartbeats 4000000 in
set_option maxRecDepth 100000 in
theorem ok_X3_has (l : Launch) (V : Vx) {k : Nat} {x : Int32} {o : Option Nat} {n : Nat} (I : Nat → Nat → Int32) (L : Nat → Nat → Int64) (hk : kd k = 3) (hx : AG x o) (h : I k 1 = nI n) (hn : n ≤ 40) : Di l V yX3_has wsX3_has 1 [.ref (ad V k), .int x] I L (bI (tb (inO o n))) I L := by
  obtain ⟨hk1, hkl⟩ := kd3 hk
  have hk106 := kd_lt hk (by decide)
  rw [← tb_congr (AG_in (m := n) hx)]
  refine Ok.of (cc := cX3_has) (maxL := 2) (ret := (some .boolean)) (by decide) rfl (Nat.le_of_ble_eq_true rfl) (fun X hnm C => ?_)
  have C : CX l X V RX3 cX3_has 2 wsX3_has 1 0 0 (some .boolean) := C
  refine J.cast (ls' := [(0, _), (1, _)]) rfl rfl rfl rfl ?_
  refine J.iload_n C dX3_has_0 rfl ?_
  refine J.if_lt_z C dX3_has_1 (tgt := 16) (by decide) (fun c1t => ?_) (fun c1f => ?_)
  · refine J.iconst C dX3_has_16 (v := (nI 0)) (by decide) ?_
    exact J.zret C dX3_has_17 (by first | exact bI_nar _ | rfl | decide | assumption) ⟨rb_f (tb_0 (by omega)), rfl⟩
  · refine J.iload_n C dX3_has_4 rfl ?_
    refine J.aload_n C dX3_has_5 rfl ?_
    refine J.getI C flX3_has_15 (by first | decide | omega) (by first | exact rfl | exact mk_3 (by assumption)) (by exact rfl) (by first | ((repeat (first | rewrite [up2_n _ _ _ (by first | decide | omega)] | rewrite [up2_m _ _ _ (by decide)] | rewrite [up3_n _ _ _ (by first | decide | omega)])) <;> (first | exact up2_s _ _ _ _ | exact up3_s _ _ _ _ | assumption | exact rfl))) dX3_has_6 ?_
    first | refine J.icmp_ge_n C (by omega) (by omega) dX3_has_9 (tgt := 16) (by decide) (fun c9t => ?_) (fun c9f => ?_) | refine J.icmp_ge_xn C (by omega) dX3_has_9 (tgt := 16) (by decide) (fun c9t => ?_) (fun c9f => ?_) | refine J.icmp_ge_nx C (by omega) dX3_has_9 (tgt := 16) (by decide) (fun c9t => ?_) (fun c9f => ?_) | refine J.icmp_ge C dX3_has_9 (tgt := 16) (by decide) (fun c9t => ?_) (fun c9f => ?_)
    · refine J.iconst C dX3_has_16 (v := (nI 0)) (by decide) ?_
      exact J.zret C dX3_has_17 (by first | exact bI_nar _ | rfl | decide | assumption) ⟨rb_f (tb_0 (by omega)), rfl⟩
    · refine J.iconst C dX3_has_12 (v := (nI 1)) (by decide) ?_
      refine J.goto C dX3_has_13 (tgt := 17) (by decide) ?_
      exact J.zret C dX3_has_17 (by first | exact bI_nar _ | rfl | decide | assumption) ⟨rb_t (tb_1 (by omega)), rfl⟩
set_option maxHeartbeats 4000000 in
set_option maxRecDepth 100000 in
theorem ok_X3_hasLane (l : Launch) (V : Vx) {k : Nat} {x : Int32} {o : Option Nat} {n : Nat} (I : Nat → Nat → Int32) (L : Nat → Nat → Int64) (hk : kd k = 3) (hx : AG x o) (h : I k 0 = nI n) (hn : n ≤ 40) : Di l V yX3_hasLane wsX3_hasLane 1 [.ref (ad V k), .int x] I L (bI (tb (inO o n))) I L := by
  obtain ⟨hk1, hkl⟩ := kd3 hk
  have hk106 := kd_lt hk (by decide)
  rw [← tb_congr (AG_in (m := n) hx)]
  refine Ok.of (cc := cX3_hasLane) (maxL := 2) (ret := (some .boolean)) (by decide) rfl (Nat.le_of_ble_eq_true rfl) (fun X hnm C => ?_)
  have C : CX l X V RX3 cX3_hasLane 2 wsX3_hasLane 1 0 0 (some .boolean) := C
  refine J.cast (ls' := [(0, _), (1, _)]) rfl rfl rfl rfl ?_
  refine J.iload_n C dX3_hasLane_0 rfl ?_
  refine J.if_lt_z C dX3_hasLane_1 (tgt := 16) (by decide) (fun c1t => ?_) (fun c1f => ?_)
  · refine J.iconst C dX3_hasLane_16 (v := (nI 0)) (by decide) ?_
    exact J.zret C dX3_hasLane_17 (by first | exact bI_nar _ | rfl | decide | assumption) ⟨rb_f (tb_0 (by omega)), rfl⟩
  · refine J.iload_n C dX3_hasLane_4 rfl ?_
    refine J.aload_n C dX3_hasLane_5 rfl ?_
    refine J.getI C flX3_hasLane_9 (by first | decide | omega) (by first | exact rfl | exact mk_3 (by assumption)) (by exact rfl) (by first | ((repeat (first | rewrite [up2_n _ _ _ (by first | decide | omega)] | rewrite [up2_m _ _ _ (by decide)] | rewrite [up3_n _ _ _ (by first | decide | omega)])) <;> (first | exact up2_s _ _ _ _ | exact up3_s _ _ _ _ | assumption | exact rfl))) dX3_hasLane_6 ?_
    first | refine J.icmp_ge_n C (by omega) (by omega) dX3_hasLane_9 (tgt := 16) (by decide) (fun c9t => ?_) (fun c9f => ?_) | refine J.icmp_ge_xn C (by omega) dX3_hasLane_9 (tgt := 16) (by decide) (fun c9t => ?_) (fun c9f => ?_) | refine J.icmp_ge_nx C (by omega) dX3_hasLane_9 (tgt := 16) (by decide) (fun c9t => ?_) (fun c9f => ?_) | refine J.icmp_ge C dX3_hasLane_9 (tgt := 16) (by decide) (fun c9t => ?_) (fun c9f => ?_)
    · refine J.iconst C dX3_hasLane_16 (v := (nI 0)) (by decide) ?_
      exact J.zret C dX3_hasLane_17 (by first | exact bI_nar _ | rfl | decide | assumption) ⟨rb_f (tb_0 (by omega)), rfl⟩
    · refine J.iconst C dX3_hasLane_12 (v := (nI 1)) (by decide) ?_
      refine J.goto C dX3_hasLane_13 (tgt := 17) (by decide) ?_
      exact J.zret C dX3_hasLane_17 (by first | exact bI_nar _ | rfl | decide | assumption) ⟨rb_t (tb_1 (by omega)), rfl⟩
set_option maxHeartbeats 4000000 in
set_option maxRecDepth 100000 in
theorem ok_X3_kind (l : Launch) (V : Vx) {k : Nat} {c : Cmp} {i : Nat} (I : Nat → Nat → Int32) (L : Nat → Nat → Int64) (hk : kd k = 3) (hi : i < 40) (hc : okB c) (hv : I (k + 1) i = nI (pk c)) : Di l V yX3_kind wsX3_kind 1 [.ref (ad V k), .int (nI i)] I L (nI c.1) I L := by
  obtain ⟨hk1, hkl⟩ := kd3 hk
  have hk106 := kd_lt hk (by decide)
  refine Ok.of (cc := cX3_kind) (maxL := 2) (ret := (some .int)) (by decide) rfl (Nat.le_of_ble_eq_true rfl) (fun X hnm C => ?_)
  have C : CX l X V RX3 cX3_kind 2 wsX3_kind 1 0 0 (some .int) := C
  refine J.cast (ls' := [(0, _), (1, _)]) rfl rfl rfl rfl ?_
  refine J.aload_n C dX3_kind_0 rfl ?_
  refine J.getR C flX3_kind_18 (by first | decide | omega) (by first | exact rfl | exact mk_3 (by assumption)) (by exact rfl) dX3_kind_1 ?_
  refine J.iload_n C dX3_kind_4 rfl ?_
  refine J.ia C (by first | exact rfl | assumption) (by first | exact rfl | exact rfl) (by first | (have h_ln := ln_all; omega) | omega) (by first | ((repeat (first | rewrite [up2_n _ _ _ (by first | decide | omega)] | rewrite [up2_m _ _ _ (by decide)] | rewrite [up3_n _ _ _ (by first | decide | omega)])) <;> (first | exact up2_s _ _ _ _ | exact up3_s _ _ _ _ | assumption | exact rfl))) dX3_kind_5 ?_
  refine J.bipush C dX3_kind_6 (v := (nI 7)) (by decide) ?_
  refine J.iand C dX3_kind_8 ?_
  exact J.iret C dX3_kind_9 ⟨by rw [pq_k hc], rfl⟩
set_option maxHeartbeats 4000000 in
set_option maxRecDepth 100000 in
theorem ok_X3_low (l : Launch) (V : Vx) {k : Nat} {c : Cmp} {i : Nat} (I : Nat → Nat → Int32) (L : Nat → Nat → Int64) (hk : kd k = 3) (hi : i < 40) (hc : okB c) (hv : I (k + 1) i = nI (pk c)) : Di l V yX3_low wsX3_low 1 [.ref (ad V k), .int (nI i)] I L (nI c.2.1) I L := by
  obtain ⟨hk1, hkl⟩ := kd3 hk
  have hk106 := kd_lt hk (by decide)
  refine Ok.of (cc := cX3_low) (maxL := 2) (ret := (some .int)) (by decide) rfl (Nat.le_of_ble_eq_true rfl) (fun X hnm C => ?_)
  have C : CX l X V RX3 cX3_low 2 wsX3_low 1 0 0 (some .int) := C
  refine J.cast (ls' := [(0, _), (1, _)]) rfl rfl rfl rfl ?_
  refine J.aload_n C dX3_low_0 rfl ?_
  refine J.getR C flX3_low_18 (by first | decide | omega) (by first | exact rfl | exact mk_3 (by assumption)) (by exact rfl) dX3_low_1 ?_
  refine J.iload_n C dX3_low_4 rfl ?_
  refine J.ia C (by first | exact rfl | assumption) (by first | exact rfl | exact rfl) (by first | (have h_ln := ln_all; omega) | omega) (by first | ((repeat (first | rewrite [up2_n _ _ _ (by first | decide | omega)] | rewrite [up2_m _ _ _ (by decide)] | rewrite [up3_n _ _ _ (by first | decide | omega)])) <;> (first | exact up2_s _ _ _ _ | exact up3_s _ _ _ _ | assumption | exact rfl))) dX3_low_5 ?_
  refine J.iconst C dX3_low_6 (v := (nI 3)) (by decide) ?_
  refine J.ishr C dX3_low_7 ?_
  refine J.bipush C dX3_low_8 (v := (nI 7)) (by decide) ?_
  refine J.iand C dX3_low_10 ?_
  exact J.iret C dX3_low_11 ⟨by rw [pq_a hc], rfl⟩
set_option maxHeartbeats 4000000 in
set_option maxRecDepth 100000 in
theorem ok_X3_high (l : Launch) (V : Vx) {k : Nat} {c : Cmp} {i : Nat} (I : Nat → Nat → Int32) (L : Nat → Nat → Int64) (hk : kd k = 3) (hi : i < 40) (hc : okB c) (hv : I (k + 1) i = nI (pk c)) : Di l V yX3_high wsX3_high 1 [.ref (ad V k), .int (nI i)] I L (nI c.2.2.1) I L := by
  obtain ⟨hk1, hkl⟩ := kd3 hk
  have hk106 := kd_lt hk (by decide)
  refine Ok.of (cc := cX3_high) (maxL := 2) (ret := (some .int)) (by decide) rfl (Nat.le_of_ble_eq_true rfl) (fun X hnm C => ?_)
  have C : CX l X V RX3 cX3_high 2 wsX3_high 1 0 0 (some .int) := C
  refine J.cast (ls' := [(0, _), (1, _)]) rfl rfl rfl rfl ?_
  refine J.aload_n C dX3_high_0 rfl ?_
  refine J.getR C flX3_high_18 (by first | decide | omega) (by first | exact rfl | exact mk_3 (by assumption)) (by exact rfl) dX3_high_1 ?_
  refine J.iload_n C dX3_high_4 rfl ?_
  refine J.ia C (by first | exact rfl | assumption) (by first | exact rfl | exact rfl) (by first | (have h_ln := ln_all; omega) | omega) (by first | ((repeat (first | rewrite [up2_n _ _ _ (by first | decide | omega)] | rewrite [up2_m _ _ _ (by decide)] | rewrite [up3_n _ _ _ (by first | decide | omega)])) <;> (first | exact up2_s _ _ _ _ | exact up3_s _ _ _ _ | assumption | exact rfl))) dX3_high_5 ?_
  refine J.bipush C dX3_high_6 (v := (nI 6)) (by decide) ?_
  refine J.ishr C dX3_high_8 ?_
  refine J.bipush C dX3_high_9 (v := (nI 7)) (by decide) ?_
  refine J.iand C dX3_high_11 ?_
  exact J.iret C dX3_high_12 ⟨by rw [pq_b hc], rfl⟩
set_option maxHeartbeats 4000000 in
set_option maxRecDepth 100000 in
theorem ok_X3_switchOf (l : Launch) (V : Vx) {k : Nat} {c : Cmp} {i : Nat} (I : Nat → Nat → Int32) (L : Nat → Nat → Int64) (hk : kd k = 3) (hi : i < 40) (hc : okB c) (hv : I (k + 1) i = nI (pk c)) : Di l V yX3_switchOf wsX3_switchOf 1 [.ref (ad V k), .int (nI i)] I L (bI c.2.2.2) I L := by
  obtain ⟨hk1, hkl⟩ := kd3 hk
  have hk106 := kd_lt hk (by decide)
  refine Ok.of (cc := cX3_switchOf) (maxL := 2) (ret := (some .int)) (by decide) rfl (Nat.le_of_ble_eq_true rfl) (fun X hnm C => ?_)
  have C : CX l X V RX3 cX3_switchOf 2 wsX3_switchOf 1 0 0 (some .int) := C
  refine J.cast (ls' := [(0, _), (1, _)]) rfl rfl rfl rfl ?_
  refine J.aload_n C dX3_switchOf_0 rfl ?_
  refine J.getR C flX3_switchOf_18 (by first | decide | omega) (by first | exact rfl | exact mk_3 (by assumption)) (by exact rfl) dX3_switchOf_1 ?_
  refine J.iload_n C dX3_switchOf_4 rfl ?_
  refine J.ia C (by first | exact rfl | assumption) (by first | exact rfl | exact rfl) (by first | (have h_ln := ln_all; omega) | omega) (by first | ((repeat (first | rewrite [up2_n _ _ _ (by first | decide | omega)] | rewrite [up2_m _ _ _ (by decide)] | rewrite [up3_n _ _ _ (by first | decide | omega)])) <;> (first | exact up2_s _ _ _ _ | exact up3_s _ _ _ _ | assumption | exact rfl))) dX3_switchOf_5 ?_
  refine J.sipush C dX3_switchOf_6 (v := (nI 512)) (by decide) ?_
  refine J.iand C dX3_switchOf_9 ?_
  rw [pq_o hc]
  refine J.if_eq_n C (by cases c.2.2.2 <;> decide) dX3_switchOf_10 (tgt := 17) (by decide) (fun c10t => ?_) (fun c10f => ?_)
  · refine J.iconst C dX3_switchOf_17 (v := (nI 0)) (by decide) ?_
    exact J.iret C dX3_switchOf_18 ⟨rb_f (by revert c10t; cases c.2.2.2 <;> simp), rfl⟩
  · refine J.iconst C dX3_switchOf_13 (v := (nI 1)) (by decide) ?_
    refine J.goto C dX3_switchOf_14 (tgt := 18) (by decide) ?_
    exact J.iret C dX3_switchOf_18 ⟨rb_t (by revert c10f; cases c.2.2.2 <;> simp), rfl⟩
set_option maxHeartbeats 4000000 in
set_option maxRecDepth 100000 in
theorem ok_X3_actingKind (l : Launch) (V : Vx) {k : Nat} {c : Cmp} {i : Nat} (I : Nat → Nat → Int32) (L : Nat → Nat → Int64) (hk : kd k = 3) (hi : i < 40) (hc : okB c) (hv : I (k + 1) i = nI (pk c)) : Di l V yX3_actingKind wsX3_actingKind 2 [.ref (ad V k), .int (nI i)] I L (nI (actK c)) I L := by
  obtain ⟨hk1, hkl⟩ := kd3 hk
  have hk106 := kd_lt hk (by decide)
  obtain ⟨hc1, hc2, hc3⟩ := id hc
  refine Ok.of (cc := cX3_actingKind) (maxL := 3) (ret := (some .int)) (by decide) rfl (Nat.le_of_ble_eq_true rfl) (fun X hnm C => ?_)
  have C : CX l X V RX3 cX3_actingKind 3 wsX3_actingKind 2 0 0 (some .int) := C
  refine J.cast (ls' := [(0, _), (1, _)]) rfl rfl rfl rfl ?_
  refine J.aload_n C dX3_actingKind_0 rfl ?_
  refine J.iload_n C dX3_actingKind_1 rfl ?_
  refine J.cVDi (q := (RX3, TX3, 3)) (ci := 3) C (ok_X3_kind l V _ _ hk hi hc hv) gX3_actingKind_X3_kind rfl mfX3_kind rfl (by decide) (by decide) (by first | decide | omega) (by first | exact rfl | exact mk_3 (by assumption)) rfl rfl rfl (Nat.le_of_ble_eq_true rfl) dX3_actingKind_2 (Nat.le_refl _) (Nat.le_refl _) ?_
  refine J.istore_n (ls' := [(0, _), (1, _), (2, _)]) C dX3_actingKind_5 (by decide) rfl ?_
  refine J.iload_n C dX3_actingKind_6 rfl ?_
  refine J.iconst C dX3_actingKind_7 (v := (nI 4)) (by decide) ?_
  refine J.icmp_eq_n C (by omega) (by omega) dX3_actingKind_8 (tgt := 13) (by decide) (fun c8t => ?_) (fun c8f => ?_)
  · have e : actK c = cond c.2.2.2 0 2 := by unfold actK; rw [if_pos c8t]; cases c.2.2.2 <;> rfl
    rw [e]
    refine J.aload_n C dX3_actingKind_13 rfl ?_
    refine J.iload_n C dX3_actingKind_14 rfl ?_
    refine J.cVDi (q := (RX3, TX3, 3)) (ci := 3) C (ok_X3_switchOf l V _ _ hk hi hc hv) gX3_actingKind_X3_switchOf rfl mfX3_switchOf rfl (by decide) (by decide) (by first | decide | omega) (by first | exact rfl | exact mk_3 (by assumption)) rfl rfl rfl (Nat.le_of_ble_eq_true rfl) dX3_actingKind_15 (Nat.le_refl _) (Nat.le_refl _) ?_
    refine J.iconst C dX3_actingKind_18 (v := (nI 1)) (by decide) ?_
    first | refine J.icmp_ne_n C (by cases c.2.2.2 <;> decide) (by decide) dX3_actingKind_19 (tgt := 26) (by decide) (fun c19t => ?_) (fun c19f => ?_) | refine J.icmp_ne_xn C (by omega) dX3_actingKind_19 (tgt := 26) (by decide) (fun c19t => ?_) (fun c19f => ?_) | refine J.icmp_ne_nx C (by omega) dX3_actingKind_19 (tgt := 26) (by decide) (fun c19t => ?_) (fun c19f => ?_) | refine J.icmp_ne C dX3_actingKind_19 (tgt := 26) (by decide) (fun c19t => ?_) (fun c19f => ?_)
    · refine J.iconst C dX3_actingKind_26 (v := (nI 2)) (by decide) ?_
      exact J.iret C dX3_actingKind_27 ⟨by revert c19t; cases c.2.2.2 <;> simp, rfl⟩
    · refine J.iconst C dX3_actingKind_22 (v := (nI 0)) (by decide) ?_
      refine J.goto C dX3_actingKind_23 (tgt := 27) (by decide) ?_
      exact J.iret C dX3_actingKind_27 ⟨by revert c19f; cases c.2.2.2 <;> simp, rfl⟩
  · have e : actK c = c.1 := by unfold actK; rw [if_neg c8f]
    rw [e]
    refine J.iload_n C dX3_actingKind_11 rfl ?_
    exact J.iret C dX3_actingKind_12 ⟨rfl, rfl⟩
set_option maxHeartbeats 4000000 in
set_option maxRecDepth 100000 in
theorem ok_X3_clear (l : Launch) (V : Vx) {k : Nat} {x : Int32} (I : Nat → Nat → Int32) (L : Nat → Nat → Int64) (hk : kd k = 3)  : Dv l V yX3_clear wsX3_clear 1 [.ref (ad V k), .int x] I L (up2 (up2 I k 0 x) k 1 (nI 0)) L := by
  obtain ⟨hk1, hkl⟩ := kd3 hk
  have hk106 := kd_lt hk (by decide)
  refine Ok.of (cc := cX3_clear) (maxL := 2) (ret := none) (by decide) rfl (Nat.le_of_ble_eq_true rfl) (fun X hnm C => ?_)
  have C : CX l X V RX3 cX3_clear 2 wsX3_clear 1 0 0 none := C
  refine J.cast (ls' := [(0, _), (1, _)]) rfl rfl rfl rfl ?_
  refine J.aload_n C dX3_clear_0 rfl ?_
  refine J.iload_n C dX3_clear_1 rfl ?_
  refine J.putI C fpX3_clear_9 (by first | decide | omega) (by first | exact rfl | exact mk_3 (by assumption)) (Nat.le_of_ble_eq_true rfl) (by first | exact mp_3_0 rfl | exact mp_3_0 (by assumption)) dX3_clear_2 ?_
  refine J.aload_n C dX3_clear_5 rfl ?_
  refine J.iconst C dX3_clear_6 (v := (nI 0)) (by decide) ?_
  refine J.putI C fpX3_clear_15 (by first | decide | omega) (by first | exact rfl | exact mk_3 (by assumption)) (Nat.le_of_ble_eq_true rfl) (by first | exact mp_3_1 rfl | exact mp_3_1 (by assumption)) dX3_clear_7 ?_
  exact J.vret C dX3_clear_10 ⟨rfl, rfl⟩
set_option maxHeartbeats 4000000 in
set_option maxRecDepth 100000 in
theorem ok_X3_write (l : Launch) (V : Vx) {k : Nat} {i a b m : Nat} (I : Nat → Nat → Int32) (L : Nat → Nat → Int64) (hk : kd k = 3) (hi : i < 40) (hm : m < 5) (ha : a < 8) (hb : b < 8) : Dv l V yX3_write wsX3_write 1 [.ref (ad V k), .int (nI i), .int (nI m), .int (nI a), .int (nI b)] I L (up2 I (k + 1) i (nI (pk (m, a, b, tb (m = 4))))) L := by
  obtain ⟨hk1, hkl⟩ := kd3 hk
  have hk106 := kd_lt hk (by decide)
  refine Ok.of (cc := cX3_write) (maxL := 6) (ret := none) (by decide) rfl (Nat.le_of_ble_eq_true rfl) (fun X hnm C => ?_)
  have C : CX l X V RX3 cX3_write 6 wsX3_write 1 0 0 none := C
  refine J.cast (ls' := [(0, _), (1, _), (2, _), (3, _), (4, _)]) rfl rfl rfl rfl ?_
  refine J.iload_n C dX3_write_0 rfl ?_
  refine J.iconst C dX3_write_1 (v := (nI 4)) (by decide) ?_
  first | refine J.icmp_ne_n C (by omega) (by omega) dX3_write_2 (tgt := 11) (by decide) (fun c2t => ?_) (fun c2f => ?_) | refine J.icmp_ne_xn C (by omega) dX3_write_2 (tgt := 11) (by decide) (fun c2t => ?_) (fun c2f => ?_) | refine J.icmp_ne_nx C (by omega) dX3_write_2 (tgt := 11) (by decide) (fun c2t => ?_) (fun c2f => ?_) | refine J.icmp_ne C dX3_write_2 (tgt := 11) (by decide) (fun c2t => ?_) (fun c2f => ?_)
  · have e : tb (m = 4) = false := tb_0 c2t
    refine J.iconst C dX3_write_11 (v := (nI 0)) (by decide) ?_
    refine J.istore (ls' := [(0, _), (1, _), (2, _), (3, _), (4, _), (5, _)]) C dX3_write_12 (by decide) rfl ?_
    refine J.aload_n C dX3_write_14 rfl ?_
    refine J.getR C flX3_write_18 (by first | decide | omega) (by first | exact rfl | exact mk_3 (by assumption)) (by exact rfl) dX3_write_15 ?_
    refine J.iload_n C dX3_write_18 rfl ?_
    refine J.iload_n C dX3_write_19 rfl ?_
    refine J.iload_n C dX3_write_20 rfl ?_
    refine J.iconst C dX3_write_21 (v := (nI 3)) (by decide) ?_
    refine J.ishl C dX3_write_22 ?_
    refine J.ior C dX3_write_23 ?_
    refine J.iload C dX3_write_24 rfl ?_
    refine J.bipush C dX3_write_26 (v := (nI 6)) (by decide) ?_
    refine J.ishl C dX3_write_28 ?_
    refine J.ior C dX3_write_29 ?_
    refine J.iload C dX3_write_30 rfl ?_
    refine J.ior C dX3_write_32 ?_
    first | rw [show ((nI m ||| (nI a <<< (nI 3 &&& 31))) ||| (nI b <<< (nI 6 &&& 31))) ||| nI 512 = nI (m + 8 * a + 64 * b + 512 * true.toNat) from pq_w m hm a ha b hb true] | rw [show ((nI m ||| (nI a <<< (nI 3 &&& 31))) ||| (nI b <<< (nI 6 &&& 31))) ||| nI 0 = nI (m + 8 * a + 64 * b + 512 * false.toNat) from pq_w m hm a ha b hb false]
    refine J.ias C (by first | exact rfl | assumption) (by first | exact rfl | exact rfl) (by first | (have h_ln := ln_all; omega) | omega) dX3_write_33 ?_
    exact J.vret C dX3_write_34 ⟨rfl, by rw [e]; rfl⟩
  · have e : tb (m = 4) = true := tb_1 c2f
    refine J.sipush C dX3_write_5 (v := (nI 512)) (by decide) ?_
    refine J.goto C dX3_write_8 (tgt := 12) (by decide) ?_
    refine J.istore (ls' := [(0, _), (1, _), (2, _), (3, _), (4, _), (5, _)]) C dX3_write_12 (by decide) rfl ?_
    refine J.aload_n C dX3_write_14 rfl ?_
    refine J.getR C flX3_write_18 (by first | decide | omega) (by first | exact rfl | exact mk_3 (by assumption)) (by exact rfl) dX3_write_15 ?_
    refine J.iload_n C dX3_write_18 rfl ?_
    refine J.iload_n C dX3_write_19 rfl ?_
    refine J.iload_n C dX3_write_20 rfl ?_
    refine J.iconst C dX3_write_21 (v := (nI 3)) (by decide) ?_
    refine J.ishl C dX3_write_22 ?_
    refine J.ior C dX3_write_23 ?_
    refine J.iload C dX3_write_24 rfl ?_
    refine J.bipush C dX3_write_26 (v := (nI 6)) (by decide) ?_
    refine J.ishl C dX3_write_28 ?_
    refine J.ior C dX3_write_29 ?_
    refine J.iload C dX3_write_30 rfl ?_
    refine J.ior C dX3_write_32 ?_
    first | rw [show ((nI m ||| (nI a <<< (nI 3 &&& 31))) ||| (nI b <<< (nI 6 &&& 31))) ||| nI 512 = nI (m + 8 * a + 64 * b + 512 * true.toNat) from pq_w m hm a ha b hb true] | rw [show ((nI m ||| (nI a <<< (nI 3 &&& 31))) ||| (nI b <<< (nI 6 &&& 31))) ||| nI 0 = nI (m + 8 * a + 64 * b + 512 * false.toNat) from pq_w m hm a ha b hb false]
    refine J.ias C (by first | exact rfl | assumption) (by first | exact rfl | exact rfl) (by first | (have h_ln := ln_all; omega) | omega) dX3_write_33 ?_
    exact J.vret C dX3_write_34 ⟨rfl, by rw [e]; rfl⟩
set_option maxHeartbeats 4000000 in
set_option maxRecDepth 100000 in
theorem ok_X3_add (l : Launch) (V : Vx) {k : Nat} {a b m n : Nat} (I : Nat → Nat → Int32) (L : Nat → Nat → Int64) (hk : kd k = 3) (hn : I k 1 = nI n) (hi : n < 40) (hm : m < 5) (ha : a < 8) (hb : b < 8) : Dv l V yX3_add wsX3_add 2 [.ref (ad V k), .int (nI m), .int (nI a), .int (nI b)] I L (up2 (up2 I (k + 1) n (nI (pk (m, a, b, tb (m = 4))))) k 1 (nI (n + 1))) L := by
  obtain ⟨hk1, hkl⟩ := kd3 hk
  have hk106 := kd_lt hk (by decide)
  refine Ok.of (cc := cX3_add) (maxL := 4) (ret := none) (by decide) rfl (Nat.le_of_ble_eq_true rfl) (fun X hnm C => ?_)
  have C : CX l X V RX3 cX3_add 4 wsX3_add 2 0 0 none := C
  refine J.cast (ls' := [(0, _), (1, _), (2, _), (3, _)]) rfl rfl rfl rfl ?_
  refine J.aload_n C dX3_add_0 rfl ?_
  refine J.aload_n C dX3_add_1 rfl ?_
  refine J.getI C flX3_add_15 (by first | decide | omega) (by first | exact rfl | exact mk_3 (by assumption)) (by exact rfl) (by first | ((repeat (first | rewrite [up2_n _ _ _ (by first | decide | omega)] | rewrite [up2_m _ _ _ (by decide)] | rewrite [up3_n _ _ _ (by first | decide | omega)])) <;> (first | exact up2_s _ _ _ _ | exact up3_s _ _ _ _ | assumption | exact rfl))) dX3_add_2 ?_
  refine J.iload_n C dX3_add_5 rfl ?_
  refine J.iload_n C dX3_add_6 rfl ?_
  refine J.iload_n C dX3_add_7 rfl ?_
  refine J.cVDv (q := (RX3, TX3, 3)) (ci := 3) C (ok_X3_write l V _ _ hk hi hm ha hb) gX3_add_X3_write rfl mfX3_write rfl (by decide) (by decide) (by first | decide | omega) (by first | exact rfl | exact mk_3 (by assumption)) rfl rfl rfl (Nat.le_of_ble_eq_true rfl) dX3_add_8 (Nat.le_refl _) (Nat.le_refl _) ?_
  refine J.aload_n C dX3_add_11 rfl ?_
  refine J.dup C dX3_add_12 rfl ?_
  refine J.getI C flX3_add_15 (by first | decide | omega) (by first | exact rfl | exact mk_3 (by assumption)) (by exact rfl) (by first | ((repeat (first | rewrite [up2_n _ _ _ (by first | decide | omega)] | rewrite [up2_m _ _ _ (by decide)] | rewrite [up3_n _ _ _ (by first | decide | omega)])) <;> (first | exact up2_s _ _ _ _ | exact up3_s _ _ _ _ | assumption | exact rfl))) dX3_add_13 ?_
  refine J.iconst C dX3_add_16 (v := (nI 1)) (by decide) ?_
  first | refine J.iadd_n C dX3_add_17 ?_ | refine J.iadd C dX3_add_17 ?_
  refine J.putI C fpX3_add_15 (by first | decide | omega) (by first | exact rfl | exact mk_3 (by assumption)) (Nat.le_of_ble_eq_true rfl) (by first | exact mp_3_1 rfl | exact mp_3_1 (by assumption)) dX3_add_18 ?_
  exact J.vret C dX3_add_21 ⟨rfl, rfl⟩
set_option maxHeartbeats 4000000 in
set_option maxRecDepth 100000 in
theorem ok_X3_move (l : Launch) (V : Vx) {k : Nat} {c : Cmp} {i a b : Nat} (I : Nat → Nat → Int32) (L : Nat → Nat → Int64) (hk : kd k = 3) (hi : i < 40) (hc : okB c) (hv : I (k + 1) i = nI (pk c)) (ha : a < 8) (hb : b < 8) : Dv l V yX3_move wsX3_move 2 [.ref (ad V k), .int (nI i), .int (nI a), .int (nI b)] I L (up2 I (k + 1) i (nI (pk (c.1, a, b, c.2.2.2)))) L := by
  obtain ⟨hk1, hkl⟩ := kd3 hk
  have hk106 := kd_lt hk (by decide)
  refine Ok.of (cc := cX3_move) (maxL := 5) (ret := none) (by decide) rfl (Nat.le_of_ble_eq_true rfl) (fun X hnm C => ?_)
  have C : CX l X V RX3 cX3_move 5 wsX3_move 2 0 0 none := C
  refine J.cast (ls' := [(0, _), (1, _), (2, _), (3, _)]) rfl rfl rfl rfl ?_
  refine J.aload_n C dX3_move_0 rfl ?_
  refine J.getR C flX3_move_18 (by first | decide | omega) (by first | exact rfl | exact mk_3 (by assumption)) (by exact rfl) dX3_move_1 ?_
  refine J.iload_n C dX3_move_4 rfl ?_
  refine J.ia C (by first | exact rfl | assumption) (by first | exact rfl | exact rfl) (by first | (have h_ln := ln_all; omega) | omega) (by first | ((repeat (first | rewrite [up2_n _ _ _ (by first | decide | omega)] | rewrite [up2_m _ _ _ (by decide)] | rewrite [up3_n _ _ _ (by first | decide | omega)])) <;> (first | exact up2_s _ _ _ _ | exact up3_s _ _ _ _ | assumption | exact rfl))) dX3_move_5 ?_
  refine J.sipush C dX3_move_6 (v := (nI 512)) (by decide) ?_
  refine J.iand C dX3_move_9 ?_
  rw [pq_o hc]
  refine J.istore (ls' := [(0, _), (1, _), (2, _), (3, _), (4, _)]) C dX3_move_10 (by decide) rfl ?_
  refine J.aload_n C dX3_move_12 rfl ?_
  refine J.getR C flX3_move_18 (by first | decide | omega) (by first | exact rfl | exact mk_3 (by assumption)) (by exact rfl) dX3_move_13 ?_
  refine J.iload_n C dX3_move_16 rfl ?_
  refine J.aload_n C dX3_move_17 rfl ?_
  refine J.iload_n C dX3_move_18 rfl ?_
  refine J.cVDi (q := (RX3, TX3, 3)) (ci := 3) C (ok_X3_kind l V _ _ hk hi hc hv) gX3_move_X3_kind rfl mfX3_kind rfl (by decide) (by decide) (by first | decide | omega) (by first | exact rfl | exact mk_3 (by assumption)) rfl rfl rfl (Nat.le_of_ble_eq_true rfl) dX3_move_19 (Nat.le_refl _) (Nat.le_refl _) ?_
  refine J.iload_n C dX3_move_22 rfl ?_
  refine J.iconst C dX3_move_23 (v := (nI 3)) (by decide) ?_
  refine J.ishl C dX3_move_24 ?_
  refine J.ior C dX3_move_25 ?_
  refine J.iload_n C dX3_move_26 rfl ?_
  refine J.bipush C dX3_move_27 (v := (nI 6)) (by decide) ?_
  refine J.ishl C dX3_move_29 ?_
  refine J.ior C dX3_move_30 ?_
  refine J.iload C dX3_move_31 rfl ?_
  refine J.ior C dX3_move_33 ?_
  rw [pq_w c.1 (by have := hc.1; omega) a ha b hb c.2.2.2]
  refine J.ias C (by first | exact rfl | assumption) (by first | exact rfl | exact rfl) (by first | (have h_ln := ln_all; omega) | omega) dX3_move_34 ?_
  exact J.vret C dX3_move_35 ⟨rfl, rfl⟩
set_option maxHeartbeats 4000000 in
set_option maxRecDepth 100000 in
theorem ok_X3_setSwitch (l : Launch) (V : Vx) {k : Nat} {c : Cmp} {i : Nat} {b : Bool} (I : Nat → Nat → Int32) (L : Nat → Nat → Int64) (hk : kd k = 3) (hi : i < 40) (hc : okB c) (hv : I (k + 1) i = nI (pk c)) : Dv l V yX3_setSwitch wsX3_setSwitch 1 [.ref (ad V k), .int (nI i), .int (bI b)] I L (up2 I (k + 1) i (nI (pk (c.1, c.2.1, c.2.2.1, b)))) L := by
  obtain ⟨hk1, hkl⟩ := kd3 hk
  have hk106 := kd_lt hk (by decide)
  have hs := pq_s hc b
  refine Ok.of (cc := cX3_setSwitch) (maxL := 3) (ret := none) (by decide) rfl (Nat.le_of_ble_eq_true rfl) (fun X hnm C => ?_)
  have C : CX l X V RX3 cX3_setSwitch 3 wsX3_setSwitch 1 0 0 none := C
  refine J.cast (ls' := [(0, _), (1, _), (2, _)]) rfl rfl rfl rfl ?_
  refine J.aload_n C dX3_setSwitch_0 rfl ?_
  refine J.getR C flX3_setSwitch_18 (by first | decide | omega) (by first | exact rfl | exact mk_3 (by assumption)) (by exact rfl) dX3_setSwitch_1 ?_
  refine J.iload_n C dX3_setSwitch_4 rfl ?_
  refine J.iload_n C dX3_setSwitch_5 rfl ?_
  first | refine J.if_eq_b C dX3_setSwitch_6 (tgt := 22) (by decide) (fun c6t => ?_) (fun c6f => ?_) | refine J.if_eq_n C (by omega) dX3_setSwitch_6 (tgt := 22) (by decide) (fun c6t => ?_) (fun c6f => ?_) | refine J.if_eq C dX3_setSwitch_6 (tgt := 22) (by decide) (fun c6t => ?_) (fun c6f => ?_)
  · subst c6t
    have hs : nI (pk c) &&& (-513) = nI (pk (c.1, c.2.1, c.2.2.1, false)) := hs
    refine J.aload_n C dX3_setSwitch_22 rfl ?_
    refine J.getR C flX3_setSwitch_18 (by first | decide | omega) (by first | exact rfl | exact mk_3 (by assumption)) (by exact rfl) dX3_setSwitch_23 ?_
    refine J.iload_n C dX3_setSwitch_26 rfl ?_
    refine J.ia C (by first | exact rfl | assumption) (by first | exact rfl | exact rfl) (by first | (have h_ln := ln_all; omega) | omega) (by first | ((repeat (first | rewrite [up2_n _ _ _ (by first | decide | omega)] | rewrite [up2_m _ _ _ (by decide)] | rewrite [up3_n _ _ _ (by first | decide | omega)])) <;> (first | exact up2_s _ _ _ _ | exact up3_s _ _ _ _ | assumption | exact rfl))) dX3_setSwitch_27 ?_
    refine J.sipush C dX3_setSwitch_28 (v := (-513)) (by decide) ?_
    refine J.iand C dX3_setSwitch_31 ?_
    rw [hs]
    refine J.ias C (by first | exact rfl | assumption) (by first | exact rfl | exact rfl) (by first | (have h_ln := ln_all; omega) | omega) dX3_setSwitch_32 ?_
    exact J.vret C dX3_setSwitch_33 ⟨rfl, rfl⟩
  · subst c6f
    have hs : nI (pk c) ||| nI 512 = nI (pk (c.1, c.2.1, c.2.2.1, true)) := hs
    refine J.aload_n C dX3_setSwitch_9 rfl ?_
    refine J.getR C flX3_setSwitch_18 (by first | decide | omega) (by first | exact rfl | exact mk_3 (by assumption)) (by exact rfl) dX3_setSwitch_10 ?_
    refine J.iload_n C dX3_setSwitch_13 rfl ?_
    refine J.ia C (by first | exact rfl | assumption) (by first | exact rfl | exact rfl) (by first | (have h_ln := ln_all; omega) | omega) (by first | ((repeat (first | rewrite [up2_n _ _ _ (by first | decide | omega)] | rewrite [up2_m _ _ _ (by decide)] | rewrite [up3_n _ _ _ (by first | decide | omega)])) <;> (first | exact up2_s _ _ _ _ | exact up3_s _ _ _ _ | assumption | exact rfl))) dX3_setSwitch_14 ?_
    refine J.sipush C dX3_setSwitch_15 (v := (nI 512)) (by decide) ?_
    refine J.ior C dX3_setSwitch_18 ?_
    refine J.goto C dX3_setSwitch_19 (tgt := 32) (by decide) ?_
    rw [hs]
    refine J.ias C (by first | exact rfl | assumption) (by first | exact rfl | exact rfl) (by first | (have h_ln := ln_all; omega) | omega) dX3_setSwitch_32 ?_
    exact J.vret C dX3_setSwitch_33 ⟨rfl, rfl⟩
def beC (I : Nat → Nat → Int32) (k o c : Nat) : Nat → Nat → Int32 := va_up (up2 (up2 I k 0 (I o 0)) k 1 (I o 1)) (k + 1) (va_cpy (I (o + 1)) (I (k + 1)) 0 0 c)
theorem beC_o {I : Nat → Nat → Int32} {k o c q : Nat} (h : q ≠ k) (h2 : q ≠ k + 1) : beC I k o c q = I q := by
  unfold beC
  rw [va_up_ne _ _ h2, up2_n _ _ _ h, up2_n _ _ _ h]
theorem beC_k {I : Nat → Nat → Int32} {k o c : Nat} : beC I k o c k 0 = I o 0 ∧ beC I k o c k 1 = I o 1 ∧ (∀ j, j ≠ 0 → j ≠ 1 → beC I k o c k j = I k j) ∧ ∀ i, i < c → beC I k o c (k + 1) i = I (o + 1) i := by
  unfold beC
  refine ⟨?_, ?_, fun j h0 h1 => ?_, fun i hi => ?_⟩
  · rw [va_up_ne _ _ (by omega), up2_m _ _ _ (by decide), up2_s]
  · rw [va_up_ne _ _ (by omega), up2_s]
  · rw [va_up_ne _ _ (by omega), up2_m _ _ _ h1, up2_m _ _ _ h0]
  · rw [va_up_self, pk_cpy_in (Nat.zero_le i) (by omega)]
    congr 1
    omega
theorem beC_net {I : Nat → Nat → Int32} {k o : Nat} {t : Nt} (h : netC I o t) : netC (beC I k o t.2.1) k t := by
  obtain ⟨h1, h2, -, h4⟩ := beC_k (I := I) (k := k) (o := o) (c := t.2.1)
  exact ⟨by rw [h1]; exact h.1, by rw [h2]; exact h.2.1, fun i hi => by rw [h4 i hi]; exact h.2.2 i hi⟩
set_option maxHeartbeats 4000000 in
set_option maxRecDepth 100000 in
theorem ok_X3_become (l : Launch) (V : Vx) {k o c : Nat} (I : Nat → Nat → Int32) (L : Nat → Nat → Int64) (hz : V.2.2.2.2.2 = false) (hk : kd k = 3) (ho : kd o = 3) (hne : k ≠ o) (hc : I o 1 = nI c) (h40 : c ≤ 40) : Dv l V yX3_become wsX3_become 1 [.ref (ad V k), .ref (ad V o)] I L (beC I k o c) L := by
  obtain ⟨hk1, hkl⟩ := kd3 hk
  have hk106 := kd_lt hk (by decide)
  obtain ⟨ho1, hol⟩ := kd3 ho
  have ho106 := kd_lt ho (by decide)
  have n1 := kd_ne hk ho1 (by decide)
  have n2 := kd_ne ho hk1 (by decide)
  unfold beC
  refine Ok.of (cc := cX3_become) (maxL := 2) (ret := none) (by decide) rfl (Nat.le_of_ble_eq_true rfl) (fun X hnm C => ?_)
  have C : CX l X V RX3 cX3_become 2 wsX3_become 1 0 0 none := C
  refine J.cast (ls' := [(0, _), (1, _)]) rfl rfl rfl rfl ?_
  refine J.aload_n C dX3_become_0 rfl ?_
  refine J.aload_n C dX3_become_1 rfl ?_
  refine J.getI C flX3_become_9 (by first | decide | omega) (by first | exact rfl | exact mk_3 (by assumption)) (by exact rfl) (by first | exact rfl | ((repeat (first | rewrite [up2_n _ _ _ (by first | decide | omega)] | rewrite [up2_m _ _ _ (by decide)] | rewrite [up3_n _ _ _ (by first | decide | omega)])) <;> (first | exact up2_s _ _ _ _ | exact up3_s _ _ _ _ | assumption | exact rfl))) dX3_become_2 ?_
  refine J.putI C fpX3_become_9 (by first | decide | omega) (by first | exact rfl | exact mk_3 (by assumption)) (Nat.le_of_ble_eq_true rfl) (by first | exact mp_3_0 rfl | exact mp_3_0 (by assumption)) dX3_become_5 ?_
  refine J.aload_n C dX3_become_8 rfl ?_
  refine J.aload_n C dX3_become_9 rfl ?_
  refine J.getI C flX3_become_15 (by first | decide | omega) (by first | exact rfl | exact mk_3 (by assumption)) (by exact rfl) (by first | exact up2_rd (by omega) rfl | ((repeat (first | rewrite [up2_n _ _ _ (by first | decide | omega)] | rewrite [up2_m _ _ _ (by decide)] | rewrite [up3_n _ _ _ (by first | decide | omega)])) <;> (first | exact up2_s _ _ _ _ | exact up3_s _ _ _ _ | assumption | exact rfl))) dX3_become_10 ?_
  refine J.putI C fpX3_become_15 (by first | decide | omega) (by first | exact rfl | exact mk_3 (by assumption)) (Nat.le_of_ble_eq_true rfl) (by first | exact mp_3_1 rfl | exact mp_3_1 (by assumption)) dX3_become_13 ?_
  refine J.aload_n C dX3_become_16 rfl ?_
  refine J.getR C flX3_become_18 (by first | decide | omega) (by first | exact rfl | exact mk_3 (by assumption)) (by exact rfl) dX3_become_17 ?_
  refine J.iconst C dX3_become_20 (v := (nI 0)) (by decide) ?_
  refine J.aload_n C dX3_become_21 rfl ?_
  refine J.getR C flX3_become_18 (by first | decide | omega) (by first | exact rfl | exact mk_3 (by assumption)) (by exact rfl) dX3_become_22 ?_
  refine J.iconst C dX3_become_25 (v := (nI 0)) (by decide) ?_
  refine J.aload_n C dX3_become_26 rfl ?_
  refine J.getI C flX3_become_15 (by first | decide | omega) (by first | exact rfl | exact mk_3 (by assumption)) (by exact rfl) (by first | exact up2_rd (by omega) (up2_rd (by omega) hc) | ((repeat (first | rewrite [up2_n _ _ _ (by first | decide | omega)] | rewrite [up2_m _ _ _ (by decide)] | rewrite [up3_n _ _ _ (by first | decide | omega)])) <;> (first | exact up2_s _ _ _ _ | exact up3_s _ _ _ _ | assumption | exact rfl))) dX3_become_27 ?_
  refine J.acpI C hz (k0 := o + 1) (k1 := k + 1) (a := 0) (b := 0) (c := c) (by decide +kernel) (by decide +kernel) (by decide +kernel) (by decide +kernel) ho1 hk1 rfl rfl rfl (by omega) (by omega) (by decide) (Nat.le_of_ble_eq_true rfl) dX3_become_30 ?_
  exact J.vret C dX3_become_33 ⟨rfl, by rw [hc, up2_n _ _ _ (show o + 1 ≠ k by omega), up2_n _ _ _ (show o + 1 ≠ k by omega), up2_n _ _ _ (show k + 1 ≠ k by omega), up2_n _ _ _ (show k + 1 ≠ k by omega)]⟩
