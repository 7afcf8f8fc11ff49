/-! THE CLASS: a crate -/
theorem kd1 {k : Nat} (h : kd k = 1) : kd (k + 1) = 8 ∧ ln (k + 1) = 12 := by
  have key : ∀ k, k < 106 → kd k = 1 → kd (k + 1) = 8 ∧ ln (k + 1) = 12 := by decide +kernel
  exact key k (kd_lt h (by decide)) h
theorem xm (N p : Nat) : (N ^^^ (2 ^ p - 1)) + 2 * (N % 2 ^ p) = N + (2 ^ p - 1) := by
  have hp := Nat.two_pow_pos p
  have h1 : (N ^^^ (2 ^ p - 1)) % 2 ^ p = 2 ^ p - 1 - N % 2 ^ p := by
    rw [Nat.xor_mod_two_pow, Nat.mod_eq_of_lt (show 2 ^ p - 1 < 2 ^ p by omega)]
    have h := BitVec.toNat_not (x := BitVec.ofNat p N)
    rw [← BitVec.xor_allOnes, BitVec.toNat_xor, BitVec.toNat_allOnes, BitVec.toNat_ofNat] at h
    exact h
  have h2 : (N ^^^ (2 ^ p - 1)) / 2 ^ p = N / 2 ^ p := by
    rw [← Nat.shiftRight_eq_div_pow, ← Nat.shiftRight_eq_div_pow, Nat.shiftRight_xor_distrib, Nat.shiftRight_eq_div_pow (2 ^ p - 1) p, Nat.div_eq_of_lt (by omega), Nat.xor_zero]
  have e1 := Nat.div_add_mod (N ^^^ (2 ^ p - 1)) (2 ^ p)
  have e2 := Nat.div_add_mod N (2 ^ p)
  have e3 := Nat.mod_lt N hp
  rw [h1, h2] at e1
  omega
theorem i64_ti (v : Int64) : v.toInt = if v.toBitVec.toNat < 2 ^ 63 then (v.toBitVec.toNat : Int) else (v.toBitVec.toNat : Int) - 2 ^ 64 := by
  show v.toBitVec.toInt = _
  rw [BitVec.toInt_eq_toNat_cond]
  split <;> split <;> omega
theorem xorF {v : Int64} (h : v.toInt < 0) : (v ^^^ 9223372036854775807).toInt = -9223372036854775809 - v.toInt := by
  have hN := v.toBitVec.isLt
  have w := xm v.toBitVec.toNat 63
  have e : (v ^^^ 9223372036854775807).toBitVec.toNat = v.toBitVec.toNat ^^^ (2 ^ 63 - 1) := by
    rw [Int64.toBitVec_xor, BitVec.toNat_xor]
    rfl
  rw [i64_ti] at h
  rw [i64_ti, i64_ti, e]
  have h2 : ¬ v.toBitVec.toNat < 2 ^ 63 := fun q => by rw [if_pos q] at h; omega
  rw [if_neg h2]
  have h3 : ¬ (v.toBitVec.toNat ^^^ (2 ^ 63 - 1)) < 2 ^ 63 := by omega
  rw [if_neg h3]
  omega
theorem xorI {v : Int64} (h : v.toInt < 0) (hi : i32 v) : (v ^^^ 2147483647).toInt = -2147483649 - v.toInt := by
  have hN := v.toBitVec.isLt
  have w := xm v.toBitVec.toNat 31
  have e : (v ^^^ 2147483647).toBitVec.toNat = v.toBitVec.toNat ^^^ (2 ^ 31 - 1) := by
    rw [Int64.toBitVec_xor, BitVec.toNat_xor]
    rfl
  have hi1 := hi.1
  rw [i64_ti] at h hi1
  rw [i64_ti, i64_ti, e]
  have h2 : ¬ v.toBitVec.toNat < 2 ^ 63 := fun q => by rw [if_pos q] at h; omega
  rw [if_neg h2] at hi1
  rw [if_neg h2]
  have h3 : ¬ (v.toBitVec.toNat ^^^ (2 ^ 31 - 1)) < 2 ^ 63 := by omega
  rw [if_neg h3]
  omega
def rkC (k : Nat) (v : Int64) : Int64 := if 6 ≤ k ∧ v < 0 then v ^^^ 9223372036854775807 else v
theorem rk_lt {k : Nat} {a b : Int64} (h7 : k ≤ 7) (h6 : k = 6 → i32 a ∧ i32 b) : rkC k a < rkC k b ↔ keyM k a < keyM k b := by
  have z : ∀ v : Int64, v < 0 ↔ v.toInt < 0 := fun v => Int64.lt_iff_toInt_lt
  have rf : ∀ v : Int64, 6 ≤ k → (rkC k v).toInt = if v.toInt < 0 then -9223372036854775809 - v.toInt else v.toInt := fun v hk => by
    unfold rkC
    by_cases q : v.toInt < 0
    · rw [if_pos ⟨hk, (z v).mpr q⟩, if_pos q, xorF q]
    · rw [if_neg (fun w => q ((z v).mp w.2)), if_neg q]
  by_cases hk : 6 ≤ k
  · rw [Int64.lt_iff_toInt_lt, Int64.lt_iff_toInt_lt, rf a hk, rf b hk]
    rcases (show k = 6 ∨ k = 7 by omega) with e | e
    · subst e
      have kf : ∀ v : Int64, i32 v → (keyM 6 v).toInt = if v.toInt < 0 then -2147483649 - v.toInt else v.toInt := fun v hv => by
        unfold keyM
        by_cases q : v.toInt < 0
        · rw [if_pos ⟨rfl, (z v).mpr q⟩, if_pos q, xorI q hv]
        · rw [if_neg (fun w => q ((z v).mp w.2)), if_neg (fun w => absurd w.1 (by decide)), if_neg q]
      have ha := (h6 rfl).1
      have hb := (h6 rfl).2
      rw [kf a ha, kf b hb]
      unfold i32 at ha hb
      split <;> split <;> omega
    · subst e
      have kf : ∀ v : Int64, (keyM 7 v).toInt = if v.toInt < 0 then -9223372036854775809 - v.toInt else v.toInt := fun v => by
        unfold keyM
        rw [if_neg (fun w => absurd w.1 (by decide))]
        by_cases q : v.toInt < 0
        · rw [if_pos ⟨rfl, (z v).mpr q⟩, if_pos q, xorF q]
        · rw [if_neg (fun w => q ((z v).mp w.2)), if_neg q]
      rw [kf a, kf b]
  · have r : ∀ v : Int64, rkC k v = v := fun v => if_neg (fun q => hk q.1)
    have kf : ∀ v : Int64, keyM k v = v := fun v => by unfold keyM; rw [if_neg (fun q => by omega), if_neg (fun q => by omega)]
    rw [r, r, kf, kf]
theorem rk_ord {k : Nat} {a b : Int64} (h7 : k ≤ 7) (h6 : k = 6 → i32 a ∧ i32 b) : (if rkC k a < rkC k b then (-1 : Int32) else if rkC k a = rkC k b then nI 0 else nI 1) = ordI k a b := by
  unfold ordI
  have h1 := rk_lt h7 h6
  have h2 := rk_lt (a := b) (b := a) h7 (fun q => ⟨(h6 q).2, (h6 q).1⟩)
  by_cases p : rkC k a < rkC k b
  · rw [if_pos p, if_pos (h1.mp p)]
  · rw [if_neg p, if_neg (fun q => p (h1.mpr q))]
    by_cases r : rkC k b < rkC k a
    · rw [if_pos (h2.mp r), if_neg (fun q => by rw [q] at r; exact Int64.lt_irrefl r)]
    · rw [if_neg (fun q => r (h2.mpr q)), if_pos (Int64.le_antisymm (Int64.not_lt.mp r) (Int64.not_lt.mp p))]
theorem i2c_l (v : Int64) : ((v.toInt32.toUInt32 % 65536).toInt32).toInt64 = v &&& 65535 := by
  have hm : v.toBitVec.toNat % 65536 < 65536 := Nat.mod_lt _ (by decide)
  have e1 : (v.toInt32.toUInt32 % 65536).toNat = v.toBitVec.toNat % 65536 := by
    rw [UInt32.toNat_mod]
    show (v.toBitVec.signExtend 32).toNat % 65536 = _
    rw [BitVec.signExtend_eq_setWidth_of_le _ (by decide), BitVec.toNat_setWidth]
    omega
  have e2 : (v.toInt32.toUInt32 % 65536).toInt32 = nI (v.toBitVec.toNat % 65536) := by
    apply Int32.toBitVec_inj.mp
    apply BitVec.eq_of_toNat_eq
    show (v.toInt32.toUInt32 % 65536).toNat = (BitVec.ofNat 32 (v.toBitVec.toNat % 65536)).toNat
    rw [e1, BitVec.toNat_ofNat]
    omega
  rw [e2]
  apply Int64.toInt_inj.mp
  have e3 : (v &&& 65535).toBitVec.toNat = v.toBitVec.toNat % 65536 := by
    rw [Int64.toBitVec_and, BitVec.toNat_and]
    exact Nat.and_two_pow_sub_one_eq_mod _ 16
  rw [i64_ti (v &&& 65535), e3, if_pos (by omega)]
  rw [Int32.toInt_toInt64, nI_ti (by omega)]
set_option maxHeartbeats 4000000 in
set_option maxRecDepth 100000 in
theorem ok_X1_fitted (l : Launch) (V : Vx) {k : Nat} (v : Int64) (I : Nat → Nat → Int32) (L : Nat → Nat → Int64) (h1 : 1 ≤ k) (h7 : k ≤ 7) : Dl l V yX1_fitted wsX1_fitted 1 [.int (nI k), .long v] I L (narM k v) I L := by
  refine Ok.of (cc := cX1_fitted) (maxL := 3) (ret := (some .long)) (by decide) rfl (Nat.le_of_ble_eq_true rfl) (fun X hnm C => ?_)
  have C : CX l X V RX1 cX1_fitted 3 wsX1_fitted 1 0 0 (some .long) := C
  refine J.cast (ls' := [(0, _), (1, _)]) rfl rfl rfl rfl ?_
  refine J.iload_n C dX1_fitted_0 rfl ?_
  rcases (show k = 1 ∨ k = 2 ∨ k = 3 ∨ k = 4 ∨ k = 5 ∨ k = 6 ∨ k = 7 by omega) with e | e | e | e | e | e | e <;> subst e
  · refine J.tabIn C dX1_fitted_1 (by decide) (by decide) (off := 43) (by decide) (tgt := 44) (by decide) ?_
    refine J.lload_n C dX1_fitted_44 rfl ?_
    refine J.l2i C dX1_fitted_45 ?_
    refine J.i2b C dX1_fitted_46 ?_
    refine J.i2l C dX1_fitted_47 ?_
    exact J.lret C dX1_fitted_48 ⟨rfl, rfl⟩
  · refine J.tabIn C dX1_fitted_1 (by decide) (by decide) (off := 48) (by decide) (tgt := 49) (by decide) ?_
    refine J.lload_n C dX1_fitted_49 rfl ?_
    refine J.l2i C dX1_fitted_50 ?_
    refine J.i2c C dX1_fitted_51 ?_
    refine J.i2l C dX1_fitted_52 ?_
    exact J.lret C dX1_fitted_53 ⟨by rw [i2c_l]; rfl, rfl⟩
  · refine J.tabIn C dX1_fitted_1 (by decide) (by decide) (off := 53) (by decide) (tgt := 54) (by decide) ?_
    refine J.lload_n C dX1_fitted_54 rfl ?_
    refine J.l2i C dX1_fitted_55 ?_
    refine J.i2s C dX1_fitted_56 ?_
    refine J.i2l C dX1_fitted_57 ?_
    exact J.lret C dX1_fitted_58 ⟨rfl, rfl⟩
  · refine J.tabIn C dX1_fitted_1 (by decide) (by decide) (off := 58) (by decide) (tgt := 59) (by decide) ?_
    refine J.lload_n C dX1_fitted_59 rfl ?_
    refine J.l2i C dX1_fitted_60 ?_
    refine J.i2l C dX1_fitted_61 ?_
    exact J.lret C dX1_fitted_62 ⟨rfl, rfl⟩
  · refine J.tabIn C dX1_fitted_1 (by decide) (by decide) (off := 102) (by decide) (tgt := 103) (by decide) ?_
    refine J.lload_n C dX1_fitted_103 rfl ?_
    exact J.lret C dX1_fitted_104 ⟨rfl, rfl⟩
  · refine J.tabIn C dX1_fitted_1 (by decide) (by decide) (off := 62) (by decide) (tgt := 63) (by decide) ?_
    refine J.lload_n C dX1_fitted_63 rfl ?_
    refine J.l2i C dX1_fitted_64 ?_
    refine J.ldc C (v := 2147483647) (by decide +kernel) dX1_fitted_65 ?_
    refine J.iand C dX1_fitted_67 ?_
    refine J.ldc C (v := 2139095040) (by decide +kernel) dX1_fitted_68 ?_
    refine J.icmp_le C dX1_fitted_70 (tgt := 79) (by decide) (fun c70t => ?_) (fun c70f => ?_)
    · refine J.lload_n C dX1_fitted_79 rfl ?_
      refine J.l2i C dX1_fitted_80 ?_
      refine J.i2l C dX1_fitted_81 ?_
      exact J.lret C dX1_fitted_82 ⟨by rw [show narM 6 v = v.toInt32.toInt64 from if_pos c70t], rfl⟩
    · refine J.ldc2 C (v := 2143289344) (by decide +kernel) dX1_fitted_73 ?_
      refine J.goto C dX1_fitted_76 (tgt := 82) (by decide) ?_
      exact J.lret C dX1_fitted_82 ⟨by rw [show narM 6 v = 2143289344 from if_neg c70f], rfl⟩
  · refine J.tabIn C dX1_fitted_1 (by decide) (by decide) (off := 82) (by decide) (tgt := 83) (by decide) ?_
    refine J.lload_n C dX1_fitted_83 rfl ?_
    refine J.ldc2 C (v := 9223372036854775807) (by decide +kernel) dX1_fitted_84 ?_
    refine J.land C dX1_fitted_87 ?_
    refine J.ldc2 C (v := 9218868437227405312) (by decide +kernel) dX1_fitted_88 ?_
    refine J.lcmp C dX1_fitted_91 ?_
    refine J.if_le_c C dX1_fitted_92 (tgt := 101) (by decide) (fun c92t => ?_) (fun c92f => ?_)
    · refine J.lload_n C dX1_fitted_101 rfl ?_
      exact J.lret C dX1_fitted_102 ⟨by rw [show narM 7 v = v from if_pos c92t], rfl⟩
    · refine J.ldc2 C (v := 9221120237041090560) (by decide +kernel) dX1_fitted_95 ?_
      refine J.goto C dX1_fitted_98 (tgt := 102) (by decide) ?_
      exact J.lret C dX1_fitted_102 ⟨by rw [show narM 7 v = 9221120237041090560 from if_neg c92f], rfl⟩
set_option maxHeartbeats 4000000 in
set_option maxRecDepth 100000 in
theorem ok_J13_compare_74951 (l : Launch) (V : Vx) (a b : Int64) (I : Nat → Nat → Int32) (L : Nat → Nat → Int64) : Di l V yJ13_compare_74951 wsJ13_compare_74951 1 [.long a, .long b] I L (if a < b then (-1 : Int32) else if a = b then nI 0 else nI 1) I L := by
  refine Ok.of (cc := cJ13_compare_74951) (maxL := 4) (ret := (some .int)) (by decide) rfl (Nat.le_of_ble_eq_true rfl) (fun X hnm C => ?_)
  have C : CX l X V RJ13 cJ13_compare_74951 4 wsJ13_compare_74951 1 0 0 (some .int) := C
  refine J.cast (ls' := [(0, _), (2, _)]) rfl rfl rfl rfl ?_
  refine J.lload_n C dJ13_compare_74951_0 rfl ?_
  refine J.lload_n C dJ13_compare_74951_1 rfl ?_
  refine J.lcmp C dJ13_compare_74951_2 ?_
  refine J.if_ge_c C dJ13_compare_74951_3 (tgt := 10) (by decide) (fun c3t => ?_) (fun c3f => ?_)
  · rw [if_neg (Int64.not_lt.mpr c3t)]
    refine J.lload_n C dJ13_compare_74951_10 rfl ?_
    refine J.lload_n C dJ13_compare_74951_11 rfl ?_
    refine J.lcmp C dJ13_compare_74951_12 ?_
    refine J.if_ne_c C dJ13_compare_74951_13 (tgt := 20) (by decide) (fun c13t => ?_) (fun c13f => ?_)
    · rw [if_neg c13t]
      refine J.iconst C dJ13_compare_74951_20 (v := (nI 1)) (by decide) ?_
      exact J.iret C dJ13_compare_74951_21 ⟨rfl, rfl⟩
    · rw [if_pos c13f]
      refine J.iconst C dJ13_compare_74951_16 (v := (nI 0)) (by decide) ?_
      refine J.goto C dJ13_compare_74951_17 (tgt := 21) (by decide) ?_
      exact J.iret C dJ13_compare_74951_21 ⟨rfl, rfl⟩
  · rw [if_pos (Int64.not_le.mp c3f)]
    refine J.iconst C dJ13_compare_74951_6 (v := (-1)) (by decide) ?_
    refine J.goto C dJ13_compare_74951_7 (tgt := 21) (by decide) ?_
    exact J.iret C dJ13_compare_74951_21 ⟨rfl, rfl⟩
set_option maxHeartbeats 4000000 in
set_option maxRecDepth 100000 in
theorem ok_X1_isMissing (l : Launch) (V : Vx) {k : Nat} {n : Nat} (I : Nat → Nat → Int32) (L : Nat → Nat → Int64) (hk : kd k = 1) (h : I k 0 = nI n) (hn : n ≤ 7) : Di l V yX1_isMissing wsX1_isMissing 1 [.ref (ad V k)] I L (bI (tb (n = 0))) I L := by
  obtain ⟨hk1, hkl⟩ := kd1 hk
  have hk106 := kd_lt hk (by decide)
  refine Ok.of (cc := cX1_isMissing) (maxL := 1) (ret := (some .boolean)) (by decide) rfl (Nat.le_of_ble_eq_true rfl) (fun X hnm C => ?_)
  have C : CX l X V RX1 cX1_isMissing 1 wsX1_isMissing 1 0 0 (some .boolean) := C
  refine J.cast (ls' := [(0, _)]) rfl rfl rfl rfl ?_
  refine J.aload_n C dX1_isMissing_0 rfl ?_
  refine J.getI C flX1_isMissing_9 (by first | decide | omega) (by first | exact rfl | exact mk_1 (by assumption)) (by exact rfl) (by first | ((repeat (first | rewrite [up2_n _ _ _ (by first | decide | omega)] | rewrite [up2_m _ _ _ (by decide)] | rewrite [up3_n _ _ _ (by first | decide | omega)])) <;> (first | exact up2_s _ _ _ _ | exact up3_s _ _ _ _ | assumption | exact rfl))) dX1_isMissing_1 ?_
  first | refine J.if_ne_b C dX1_isMissing_4 (tgt := 11) (by decide) (fun c4t => ?_) (fun c4f => ?_) | refine J.if_ne_n C (by omega) dX1_isMissing_4 (tgt := 11) (by decide) (fun c4t => ?_) (fun c4f => ?_) | refine J.if_ne C dX1_isMissing_4 (tgt := 11) (by decide) (fun c4t => ?_) (fun c4f => ?_)
  · rw [tb_0 c4t]
    refine J.iconst C dX1_isMissing_11 (v := (nI 0)) (by decide) ?_
    exact J.zret C dX1_isMissing_12 (by first | exact bI_nar _ | rfl | decide | assumption) ⟨rfl, rfl⟩
  · rw [tb_1 c4f]
    refine J.iconst C dX1_isMissing_7 (v := (nI 1)) (by decide) ?_
    refine J.goto C dX1_isMissing_8 (tgt := 12) (by decide) ?_
    exact J.zret C dX1_isMissing_12 (by first | exact bI_nar _ | rfl | decide | assumption) ⟨rfl, rfl⟩
set_option maxHeartbeats 4000000 in
set_option maxRecDepth 100000 in
theorem ok_X1_write (l : Launch) (V : Vx) {k : Nat} {i n : Nat} {v : Int64} (I : Nat → Nat → Int32) (L : Nat → Nat → Int64) (hk : kd k = 1) (h : I k 0 = nI n) (h1 : 1 ≤ n) (h7 : n ≤ 7) (hi : i < 12) : Dv l V yX1_write wsX1_write 2 [.ref (ad V k), .int (nI i), .long v] I L I (up3 L (k + 1) i (narM n v)) := by
  obtain ⟨hk1, hkl⟩ := kd1 hk
  have hk106 := kd_lt hk (by decide)
  refine Ok.of (cc := cX1_write) (maxL := 4) (ret := none) (by decide) rfl (Nat.le_of_ble_eq_true rfl) (fun X hnm C => ?_)
  have C : CX l X V RX1 cX1_write 4 wsX1_write 2 0 0 none := C
  refine J.cast (ls' := [(0, _), (1, _), (2, _)]) rfl rfl rfl rfl ?_
  refine J.aload_n C dX1_write_0 rfl ?_
  refine J.getR C flX1_write_18 (by first | decide | omega) (by first | exact rfl | exact mk_1 (by assumption)) (by exact rfl) dX1_write_1 ?_
  refine J.iload_n C dX1_write_4 rfl ?_
  refine J.aload_n C dX1_write_5 rfl ?_
  refine J.getI C flX1_write_9 (by first | decide | omega) (by first | exact rfl | exact mk_1 (by assumption)) (by exact rfl) (by first | ((repeat (first | rewrite [up2_n _ _ _ (by first | decide | omega)] | rewrite [up2_m _ _ _ (by decide)] | rewrite [up3_n _ _ _ (by first | decide | omega)])) <;> (first | exact up2_s _ _ _ _ | exact up3_s _ _ _ _ | assumption | exact rfl))) dX1_write_6 ?_
  refine J.lload_n C dX1_write_9 rfl ?_
  refine J.cSDl C (ok_X1_fitted l V _ _ _ h1 h7) gX1_write_X1_fitted rfl mfX1_fitted (by decide) (by decide) rfl rfl (Nat.le_of_ble_eq_true rfl) dX1_write_10 (Nat.le_refl _) (Nat.le_refl _) ?_
  refine J.las C (by first | exact rfl | assumption) (by first | exact rfl | exact rfl) (by first | (have h_ln := ln_all; have h_l2 := ln_all2; omega) | omega) dX1_write_13 ?_
  exact J.vret C dX1_write_14 ⟨rfl, rfl⟩
set_option maxHeartbeats 4000000 in
set_option maxRecDepth 100000 in
theorem ok_X1_rank (l : Launch) (V : Vx) {k : Nat} {n : Nat} {v : Int64} (I : Nat → Nat → Int32) (L : Nat → Nat → Int64) (hk : kd k = 1) (h : I k 0 = nI n) (h7 : n ≤ 7) : Dl l V yX1_rank wsX1_rank 1 [.ref (ad V k), .long v] I L (rkC n v) I L := by
  obtain ⟨hk1, hkl⟩ := kd1 hk
  have hk106 := kd_lt hk (by decide)
  unfold rkC
  refine Ok.of (cc := cX1_rank) (maxL := 4) (ret := (some .long)) (by decide) rfl (Nat.le_of_ble_eq_true rfl) (fun X hnm C => ?_)
  have C : CX l X V RX1 cX1_rank 4 wsX1_rank 1 0 0 (some .long) := C
  refine J.cast (ls' := [(0, _), (1, _)]) rfl rfl rfl rfl ?_
  refine J.aload_n C dX1_rank_0 rfl ?_
  refine J.getI C flX1_rank_9 (by first | decide | omega) (by first | exact rfl | exact mk_1 (by assumption)) (by exact rfl) (by first | ((repeat (first | rewrite [up2_n _ _ _ (by first | decide | omega)] | rewrite [up2_m _ _ _ (by decide)] | rewrite [up3_n _ _ _ (by first | decide | omega)])) <;> (first | exact up2_s _ _ _ _ | exact up3_s _ _ _ _ | assumption | exact rfl))) dX1_rank_1 ?_
  refine J.bipush C dX1_rank_4 (v := (nI 6)) (by decide) ?_
  first | refine J.icmp_lt_n C (by omega) (by omega) dX1_rank_6 (tgt := 19) (by decide) (fun c6t => ?_) (fun c6f => ?_) | refine J.icmp_lt_xn C (by omega) dX1_rank_6 (tgt := 19) (by decide) (fun c6t => ?_) (fun c6f => ?_) | refine J.icmp_lt_nx C (by omega) dX1_rank_6 (tgt := 19) (by decide) (fun c6t => ?_) (fun c6f => ?_) | refine J.icmp_lt C dX1_rank_6 (tgt := 19) (by decide) (fun c6t => ?_) (fun c6f => ?_)
  · rw [if_neg (fun q => by omega)]
    refine J.iconst C dX1_rank_19 (v := (nI 0)) (by decide) ?_
    refine J.istore_n (ls' := [(0, _), (1, _), (3, _)]) C dX1_rank_20 (by decide) rfl ?_
    refine J.iload_n C dX1_rank_21 rfl ?_
    refine J.if_eq_n C (by omega) dX1_rank_22 (tgt := 33) (by decide) (fun _ => ?_) (fun c22 => absurd c22 (by first | omega | decide | simp_all))
    refine J.lload_n C dX1_rank_33 rfl ?_
    exact J.lret C dX1_rank_34 ⟨rfl, rfl⟩
  · refine J.lload_n C dX1_rank_9 rfl ?_
    refine J.lconst C dX1_rank_10 (v := 0) (by decide) ?_
    refine J.lcmp C dX1_rank_11 ?_
    refine J.if_ge_c C dX1_rank_12 (tgt := 19) (by decide) (fun c12t => ?_) (fun c12f => ?_)
    · rw [if_neg (fun q => Int64.not_lt.mpr c12t q.2)]
      refine J.iconst C dX1_rank_19 (v := (nI 0)) (by decide) ?_
      refine J.istore_n (ls' := [(0, _), (1, _), (3, _)]) C dX1_rank_20 (by decide) rfl ?_
      refine J.iload_n C dX1_rank_21 rfl ?_
      refine J.if_eq_n C (by omega) dX1_rank_22 (tgt := 33) (by decide) (fun _ => ?_) (fun c22 => absurd c22 (by first | omega | decide | simp_all))
      refine J.lload_n C dX1_rank_33 rfl ?_
      exact J.lret C dX1_rank_34 ⟨rfl, rfl⟩
    · rw [if_pos ⟨by omega, Int64.not_le.mp c12f⟩]
      refine J.iconst C dX1_rank_15 (v := (nI 1)) (by decide) ?_
      refine J.goto C dX1_rank_16 (tgt := 20) (by decide) ?_
      refine J.istore_n (ls' := [(0, _), (1, _), (3, _)]) C dX1_rank_20 (by decide) rfl ?_
      refine J.iload_n C dX1_rank_21 rfl ?_
      refine J.if_eq_n C (by omega) dX1_rank_22 (tgt := 33) (by decide) (fun c22 => absurd c22 (by first | omega | decide | simp_all)) (fun _ => ?_)
      refine J.lload_n C dX1_rank_25 rfl ?_
      refine J.ldc2 C (v := 9223372036854775807) (by decide +kernel) dX1_rank_26 ?_
      refine J.lxor C dX1_rank_29 ?_
      refine J.goto C dX1_rank_30 (tgt := 34) (by decide) ?_
      exact J.lret C dX1_rank_34 ⟨rfl, rfl⟩
set_option maxHeartbeats 4000000 in
set_option maxRecDepth 100000 in
theorem ok_X1_compare (l : Launch) (V : Vx) {k : Nat} {i j n : Nat} {a b : Int64} (I : Nat → Nat → Int32) (L : Nat → Nat → Int64) (hk : kd k = 1) (h : I k 0 = nI n) (h7 : n ≤ 7) (hi : i < 12) (hj : j < 12) (ha : L (k + 1) i = a) (hb : L (k + 1) j = b) (h6 : n = 6 → i32 a ∧ i32 b) : Di l V yX1_compare wsX1_compare 2 [.ref (ad V k), .int (nI i), .int (nI j)] I L (ordI n a b) I L := by
  obtain ⟨hk1, hkl⟩ := kd1 hk
  have hk106 := kd_lt hk (by decide)
  rw [← rk_ord h7 h6]
  refine Ok.of (cc := cX1_compare) (maxL := 3) (ret := (some .int)) (by decide) rfl (Nat.le_of_ble_eq_true rfl) (fun X hnm C => ?_)
  have C : CX l X V RX1 cX1_compare 3 wsX1_compare 2 0 0 (some .int) := C
  refine J.cast (ls' := [(0, _), (1, _), (2, _)]) rfl rfl rfl rfl ?_
  refine J.aload_n C dX1_compare_0 rfl ?_
  refine J.aload_n C dX1_compare_1 rfl ?_
  refine J.getR C flX1_compare_18 (by first | decide | omega) (by first | exact rfl | exact mk_1 (by assumption)) (by exact rfl) dX1_compare_2 ?_
  refine J.iload_n C dX1_compare_5 rfl ?_
  refine J.la C (by first | exact rfl | assumption) (by first | exact rfl | exact rfl) (by first | (have h_ln := ln_all; have h_l2 := ln_all2; omega) | omega) (by first | ((repeat (first | rewrite [up2_n _ _ _ (by first | decide | omega)] | rewrite [up2_m _ _ _ (by decide)] | rewrite [up3_n _ _ _ (by first | decide | omega)])) <;> (first | exact up2_s _ _ _ _ | exact up3_s _ _ _ _ | assumption | exact rfl))) dX1_compare_6 ?_
  refine J.cVDl (q := (RX1, TX1, 3)) (ci := 1) C (ok_X1_rank l V _ _ hk h h7) gX1_compare_X1_rank rfl mfX1_rank rfl (by decide) (by decide) (by first | decide | omega) (by first | exact rfl | exact mk_1 (by assumption)) rfl rfl rfl (Nat.le_of_ble_eq_true rfl) dX1_compare_7 (Nat.le_refl _) (Nat.le_refl _) ?_
  refine J.aload_n C dX1_compare_10 rfl ?_
  refine J.aload_n C dX1_compare_11 rfl ?_
  refine J.getR C flX1_compare_18 (by first | decide | omega) (by first | exact rfl | exact mk_1 (by assumption)) (by exact rfl) dX1_compare_12 ?_
  refine J.iload_n C dX1_compare_15 rfl ?_
  refine J.la C (by first | exact rfl | assumption) (by first | exact rfl | exact rfl) (by first | (have h_ln := ln_all; have h_l2 := ln_all2; omega) | omega) (by first | ((repeat (first | rewrite [up2_n _ _ _ (by first | decide | omega)] | rewrite [up2_m _ _ _ (by decide)] | rewrite [up3_n _ _ _ (by first | decide | omega)])) <;> (first | exact up2_s _ _ _ _ | exact up3_s _ _ _ _ | assumption | exact rfl))) dX1_compare_16 ?_
  refine J.cVDl (q := (RX1, TX1, 3)) (ci := 1) C (ok_X1_rank l V _ _ hk h h7) gX1_compare_X1_rank rfl mfX1_rank rfl (by decide) (by decide) (by first | decide | omega) (by first | exact rfl | exact mk_1 (by assumption)) rfl rfl rfl (Nat.le_of_ble_eq_true rfl) dX1_compare_17 (Nat.le_refl _) (Nat.le_refl _) ?_
  refine J.cSDi C (ok_J13_compare_74951 l V _ _ _ _) gX1_compare_J13_compare_74951 rfl mfJ13_compare_74951 (by decide) (by decide) rfl rfl (Nat.le_of_ble_eq_true rfl) dX1_compare_20 (Nat.le_refl _) (Nat.le_refl _) ?_
  exact J.iret C dX1_compare_23 ⟨rfl, rfl⟩
set_option maxHeartbeats 4000000 in
set_option maxRecDepth 100000 in
theorem ok_X1_mustChange (l : Launch) (V : Vx) {k : Nat} {i j n q : Nat} {a b : Int64} (I : Nat → Nat → Int32) (L : Nat → Nat → Int64) (hk : kd k = 1) (h : I k 0 = nI n) (h7 : n ≤ 7) (hi : i < 12) (hj : j < 12) (ha : L (k + 1) i = a) (hb : L (k + 1) j = b) (h6 : n = 6 → i32 a ∧ i32 b) (hq : q < 4) : Di l V yX1_mustChange wsX1_mustChange 3 [.ref (ad V k), .int (nI q), .int (nI i), .int (nI j)] I L (bI (chgK q (ordI n a b).toInt)) I L := by
  obtain ⟨hk1, hkl⟩ := kd1 hk
  have hk106 := kd_lt hk (by decide)
  refine Ok.of (cc := cX1_mustChange) (maxL := 4) (ret := (some .boolean)) (by decide) rfl (Nat.le_of_ble_eq_true rfl) (fun X hnm C => ?_)
  have C : CX l X V RX1 cX1_mustChange 4 wsX1_mustChange 3 0 0 (some .boolean) := C
  refine J.cast (ls' := [(0, _), (1, _), (2, _), (3, _)]) rfl rfl rfl rfl ?_
  refine J.iload_n C dX1_mustChange_0 rfl ?_
  rcases (show q = 0 ∨ q = 1 ∨ q = 2 ∨ q = 3 by omega) with e | e | e | e <;> subst e
  · refine J.look C dX1_mustChange_1 (off := 27) (by decide) (by decide) (tgt := 28) (by decide) ?_
    refine J.aload_n C dX1_mustChange_28 rfl ?_
    refine J.iload_n C dX1_mustChange_29 rfl ?_
    refine J.iload_n C dX1_mustChange_30 rfl ?_
    refine J.cVDi (q := (RX1, TX1, 3)) (ci := 1) C (ok_X1_compare l V _ _ hk h h7 hi hj ha hb h6) gX1_mustChange_X1_compare rfl mfX1_compare rfl (by decide) (by decide) (by first | decide | omega) (by first | exact rfl | exact mk_1 (by assumption)) rfl rfl rfl (Nat.le_of_ble_eq_true rfl) dX1_mustChange_31 (Nat.le_refl _) (Nat.le_refl _) ?_
    refine J.if_le_z C dX1_mustChange_34 (tgt := 41) (by decide) (fun c34t => ?_) (fun c34f => ?_)
    · have e : chgK 0 (ordI n a b).toInt = false := by unfold chgK; simp; omega
      refine J.iconst C dX1_mustChange_41 (v := (nI 0)) (by decide) ?_
      exact J.zret C dX1_mustChange_42 (by first | exact bI_nar _ | rfl | decide | assumption) ⟨rb_f e, rfl⟩
    · have e : chgK 0 (ordI n a b).toInt = true := by unfold chgK; simp; omega
      refine J.iconst C dX1_mustChange_37 (v := (nI 1)) (by decide) ?_
      refine J.goto C dX1_mustChange_38 (tgt := 42) (by decide) ?_
      exact J.zret C dX1_mustChange_42 (by first | exact bI_nar _ | rfl | decide | assumption) ⟨rb_t e, rfl⟩
  · refine J.look C dX1_mustChange_1 (off := 42) (by decide) (by decide) (tgt := 43) (by decide) ?_
    refine J.aload_n C dX1_mustChange_43 rfl ?_
    refine J.iload_n C dX1_mustChange_44 rfl ?_
    refine J.iload_n C dX1_mustChange_45 rfl ?_
    refine J.cVDi (q := (RX1, TX1, 3)) (ci := 1) C (ok_X1_compare l V _ _ hk h h7 hi hj ha hb h6) gX1_mustChange_X1_compare rfl mfX1_compare rfl (by decide) (by decide) (by first | decide | omega) (by first | exact rfl | exact mk_1 (by assumption)) rfl rfl rfl (Nat.le_of_ble_eq_true rfl) dX1_mustChange_46 (Nat.le_refl _) (Nat.le_refl _) ?_
    refine J.if_ge_z C dX1_mustChange_49 (tgt := 56) (by decide) (fun c49t => ?_) (fun c49f => ?_)
    · have e : chgK 1 (ordI n a b).toInt = false := by unfold chgK; simp; omega
      refine J.iconst C dX1_mustChange_56 (v := (nI 0)) (by decide) ?_
      exact J.zret C dX1_mustChange_57 (by first | exact bI_nar _ | rfl | decide | assumption) ⟨rb_f e, rfl⟩
    · have e : chgK 1 (ordI n a b).toInt = true := by unfold chgK; simp; omega
      refine J.iconst C dX1_mustChange_52 (v := (nI 1)) (by decide) ?_
      refine J.goto C dX1_mustChange_53 (tgt := 57) (by decide) ?_
      exact J.zret C dX1_mustChange_57 (by first | exact bI_nar _ | rfl | decide | assumption) ⟨rb_t e, rfl⟩
  · refine J.look C dX1_mustChange_1 (off := 57) (by decide) (by decide) (tgt := 58) (by decide) ?_
    refine J.iload_n C dX1_mustChange_58 rfl ?_
    refine J.iconst C dX1_mustChange_59 (v := (nI 3)) (by decide) ?_
    first | refine J.icmp_ne_n C (by omega) (by omega) dX1_mustChange_60 (tgt := 67) (by decide) (fun _ => ?_) (fun c60 => absurd c60 (by first | omega | decide | simp_all)) | refine J.icmp_ne_xn C (by omega) dX1_mustChange_60 (tgt := 67) (by decide) (fun _ => ?_) (fun c60 => absurd c60 (by first | omega | decide | simp_all)) | refine J.icmp_ne_nx C (by omega) dX1_mustChange_60 (tgt := 67) (by decide) (fun _ => ?_) (fun c60 => absurd c60 (by first | omega | decide | simp_all)) | refine J.icmp_ne C dX1_mustChange_60 (tgt := 67) (by decide) (fun _ => ?_) (fun c60 => absurd c60 (by first | omega | decide | simp_all))
    refine J.iconst C dX1_mustChange_67 (v := (nI 0)) (by decide) ?_
    exact J.zret C dX1_mustChange_68 (by first | exact bI_nar _ | rfl | decide | assumption) ⟨rfl, rfl⟩
  · refine J.look C dX1_mustChange_1 (off := 57) (by decide) (by decide) (tgt := 58) (by decide) ?_
    refine J.iload_n C dX1_mustChange_58 rfl ?_
    refine J.iconst C dX1_mustChange_59 (v := (nI 3)) (by decide) ?_
    first | refine J.icmp_ne_n C (by omega) (by omega) dX1_mustChange_60 (tgt := 67) (by decide) (fun c60 => absurd c60 (by first | omega | decide | simp_all)) (fun _ => ?_) | refine J.icmp_ne_xn C (by omega) dX1_mustChange_60 (tgt := 67) (by decide) (fun c60 => absurd c60 (by first | omega | decide | simp_all)) (fun _ => ?_) | refine J.icmp_ne_nx C (by omega) dX1_mustChange_60 (tgt := 67) (by decide) (fun c60 => absurd c60 (by first | omega | decide | simp_all)) (fun _ => ?_) | refine J.icmp_ne C dX1_mustChange_60 (tgt := 67) (by decide) (fun c60 => absurd c60 (by first | omega | decide | simp_all)) (fun _ => ?_)
    refine J.iconst C dX1_mustChange_63 (v := (nI 1)) (by decide) ?_
    refine J.goto C dX1_mustChange_64 (tgt := 68) (by decide) ?_
    exact J.zret C dX1_mustChange_68 (by first | exact bI_nar _ | rfl | decide | assumption) ⟨rfl, rfl⟩
set_option maxHeartbeats 4000000 in
set_option maxRecDepth 100000 in
theorem ok_X1_exchange (l : Launch) (V : Vx) {k : Nat} {i j : Nat} {a b : Int64} (I : Nat → Nat → Int32) (L : Nat → Nat → Int64) (hk : kd k = 1) (hi : i < 12) (hj : j < 12) (ha : L (k + 1) i = a) (hb : L (k + 1) j = b) : Dv l V yX1_exchange wsX1_exchange 1 [.ref (ad V k), .int (nI i), .int (nI j)] I L I (up3 (up3 L (k + 1) i b) (k + 1) j a) := by
  obtain ⟨hk1, hkl⟩ := kd1 hk
  have hk106 := kd_lt hk (by decide)
  refine Ok.of (cc := cX1_exchange) (maxL := 5) (ret := none) (by decide) rfl (Nat.le_of_ble_eq_true rfl) (fun X hnm C => ?_)
  have C : CX l X V RX1 cX1_exchange 5 wsX1_exchange 1 0 0 none := C
  refine J.cast (ls' := [(0, _), (1, _), (2, _)]) rfl rfl rfl rfl ?_
  refine J.aload_n C dX1_exchange_0 rfl ?_
  refine J.getR C flX1_exchange_18 (by first | decide | omega) (by first | exact rfl | exact mk_1 (by assumption)) (by exact rfl) dX1_exchange_1 ?_
  refine J.iload_n C dX1_exchange_4 rfl ?_
  refine J.la C (by first | exact rfl | assumption) (by first | exact rfl | exact rfl) (by first | (have h_ln := ln_all; have h_l2 := ln_all2; omega) | omega) (by first | ((repeat (first | rewrite [up2_n _ _ _ (by first | decide | omega)] | rewrite [up2_m _ _ _ (by decide)] | rewrite [up3_n _ _ _ (by first | decide | omega)])) <;> (first | exact up2_s _ _ _ _ | exact up3_s _ _ _ _ | assumption | exact rfl))) dX1_exchange_5 ?_
  refine J.lstore_n (ls' := [(0, _), (1, _), (2, _), (3, _)]) C dX1_exchange_6 (by decide) rfl ?_
  refine J.aload_n C dX1_exchange_7 rfl ?_
  refine J.getR C flX1_exchange_18 (by first | decide | omega) (by first | exact rfl | exact mk_1 (by assumption)) (by exact rfl) dX1_exchange_8 ?_
  refine J.iload_n C dX1_exchange_11 rfl ?_
  refine J.aload_n C dX1_exchange_12 rfl ?_
  refine J.getR C flX1_exchange_18 (by first | decide | omega) (by first | exact rfl | exact mk_1 (by assumption)) (by exact rfl) dX1_exchange_13 ?_
  refine J.iload_n C dX1_exchange_16 rfl ?_
  refine J.la C (by first | exact rfl | assumption) (by first | exact rfl | exact rfl) (by first | (have h_ln := ln_all; have h_l2 := ln_all2; omega) | omega) (by first | ((repeat (first | rewrite [up2_n _ _ _ (by first | decide | omega)] | rewrite [up2_m _ _ _ (by decide)] | rewrite [up3_n _ _ _ (by first | decide | omega)])) <;> (first | exact up2_s _ _ _ _ | exact up3_s _ _ _ _ | assumption | exact rfl))) dX1_exchange_17 ?_
  refine J.las C (by first | exact rfl | assumption) (by first | exact rfl | exact rfl) (by first | (have h_ln := ln_all; have h_l2 := ln_all2; omega) | omega) dX1_exchange_18 ?_
  refine J.aload_n C dX1_exchange_19 rfl ?_
  refine J.getR C flX1_exchange_18 (by first | decide | omega) (by first | exact rfl | exact mk_1 (by assumption)) (by exact rfl) dX1_exchange_20 ?_
  refine J.iload_n C dX1_exchange_23 rfl ?_
  refine J.lload_n C dX1_exchange_24 rfl ?_
  refine J.las C (by first | exact rfl | assumption) (by first | exact rfl | exact rfl) (by first | (have h_ln := ln_all; have h_l2 := ln_all2; omega) | omega) dX1_exchange_25 ?_
  exact J.vret C dX1_exchange_26 ⟨rfl, rfl⟩
theorem sub_ti {n b : Nat} (hn : n ≤ 12) (hb : b < 2 ^ 31) : (nI n - nI b).toInt = (n : Int) - (b : Int) := by
  rw [Int32.toInt_sub, nI_ti (by omega), nI_ti hb]
  exact Int.bmod_eq_of_le (by omega) (by omega)
set_option maxHeartbeats 4000000 in
set_option maxRecDepth 100000 in
theorem ok_X1_hasPart (l : Launch) (V : Vx) {k n : Nat} {x1 : Int32} {o1 : Option Nat} {x2 : Int32} {o2 : Option Nat} (I : Nat → Nat → Int32) (L : Nat → Nat → Int64) (hk : kd k = 1) (hx1 : AG x1 o1) (hx2 : AG x2 o2) (h : I k 1 = nI n) (hn : n ≤ 12) : Di l V yX1_hasPart wsX1_hasPart 1 [.ref (ad V k), .int x1, .int x2] I L (bI (tb ((∃ a, o1 = some a) ∧ (∃ b, o2 = some b) ∧ o1.getD 0 + o2.getD 0 ≤ n))) I L := by
  obtain ⟨hk1, hkl⟩ := kd1 hk
  have hk106 := kd_lt hk (by decide)
  cases o1 with
  | none =>
    have hx1 : x1.toInt < 0 := hx1
    rw [tb_0 (fun q => by obtain ⟨⟨a, e⟩, -⟩ := q; cases e)]
    refine Ok.of (cc := cX1_hasPart) (maxL := 3) (ret := (some .boolean)) (by decide) rfl (Nat.le_of_ble_eq_true rfl) (fun X hnm C => ?_)
    have C : CX l X V RX1 cX1_hasPart 3 wsX1_hasPart 1 0 0 (some .boolean) := C
    refine J.cast (ls' := [(0, _), (1, _), (2, _)]) rfl rfl rfl rfl ?_
    refine J.iload_n C dX1_hasPart_0 rfl ?_
    refine J.if_lt_z C dX1_hasPart_1 (tgt := 22) (by decide) (fun _ => ?_) (fun c1 => absurd c1 (by first | omega | decide | simp_all))
    refine J.iconst C dX1_hasPart_22 (v := (nI 0)) (by decide) ?_
    exact J.zret C dX1_hasPart_23 (by first | exact bI_nar _ | rfl | decide | assumption) ⟨rfl, rfl⟩
  | some a =>
    obtain ⟨ha, rfl⟩ := hx1
    cases o2 with
    | none =>
      have hx2 : x2.toInt < 0 := hx2
      rw [tb_0 (fun q => by obtain ⟨-, ⟨a, e⟩, -⟩ := q; cases e)]
      refine Ok.of (cc := cX1_hasPart) (maxL := 3) (ret := (some .boolean)) (by decide) rfl (Nat.le_of_ble_eq_true rfl) (fun X hnm C => ?_)
      have C : CX l X V RX1 cX1_hasPart 3 wsX1_hasPart 1 0 0 (some .boolean) := C
      refine J.cast (ls' := [(0, _), (1, _), (2, _)]) rfl rfl rfl rfl ?_
      refine J.iload_n C dX1_hasPart_0 rfl ?_
      refine J.if_lt_z C dX1_hasPart_1 (tgt := 22) (by decide) (fun c1 => absurd c1 (by rw [nI_ti ha]; omega)) (fun _ => ?_)
      refine J.iload_n C dX1_hasPart_4 rfl ?_
      refine J.if_lt_z C dX1_hasPart_5 (tgt := 22) (by decide) (fun _ => ?_) (fun c5 => absurd c5 (by first | omega | decide | simp_all))
      refine J.iconst C dX1_hasPart_22 (v := (nI 0)) (by decide) ?_
      exact J.zret C dX1_hasPart_23 (by first | exact bI_nar _ | rfl | decide | assumption) ⟨rfl, rfl⟩
    | some b =>
      obtain ⟨hb, rfl⟩ := hx2
      have w := sub_ti hn hb
      refine Ok.of (cc := cX1_hasPart) (maxL := 3) (ret := (some .boolean)) (by decide) rfl (Nat.le_of_ble_eq_true rfl) (fun X hnm C => ?_)
      have C : CX l X V RX1 cX1_hasPart 3 wsX1_hasPart 1 0 0 (some .boolean) := C
      refine J.cast (ls' := [(0, _), (1, _), (2, _)]) rfl rfl rfl rfl ?_
      refine J.iload_n C dX1_hasPart_0 rfl ?_
      refine J.if_lt_z C dX1_hasPart_1 (tgt := 22) (by decide) (fun c1 => absurd c1 (by rw [nI_ti ha]; omega)) (fun _ => ?_)
      refine J.iload_n C dX1_hasPart_4 rfl ?_
      refine J.if_lt_z C dX1_hasPart_5 (tgt := 22) (by decide) (fun c5 => absurd c5 (by rw [nI_ti hb]; omega)) (fun _ => ?_)
      refine J.iload_n C dX1_hasPart_8 rfl ?_
      refine J.aload_n C dX1_hasPart_9 rfl ?_
      refine J.getI C flX1_hasPart_15 (by first | decide | omega) (by first | exact rfl | exact mk_1 (by assumption)) (by exact rfl) (by first | ((repeat (first | rewrite [up2_n _ _ _ (by first | decide | omega)] | rewrite [up2_m _ _ _ (by decide)] | rewrite [up3_n _ _ _ (by first | decide | omega)])) <;> (first | exact up2_s _ _ _ _ | exact up3_s _ _ _ _ | assumption | exact rfl))) dX1_hasPart_10 ?_
      refine J.iload_n C dX1_hasPart_13 rfl ?_
      refine J.isub C dX1_hasPart_14 ?_
      refine J.icmp_gt C dX1_hasPart_15 (tgt := 22) (by decide) (fun c15t => ?_) (fun c15f => ?_)
      · rw [tb_0 (fun q => by have c := Int32.lt_iff_toInt_lt.mp c15t; rw [w, nI_ti ha] at c; have q : a + b ≤ n := q.2.2; omega)]
        refine J.iconst C dX1_hasPart_22 (v := (nI 0)) (by decide) ?_
        exact J.zret C dX1_hasPart_23 (by first | exact bI_nar _ | rfl | decide | assumption) ⟨rfl, rfl⟩
      · rw [tb_1 ⟨⟨a, rfl⟩, ⟨b, rfl⟩, by have c : ¬ ((n : Int) - (b : Int) < (a : Int)) := fun z => c15f (Int32.lt_iff_toInt_lt.mpr (by rw [w, nI_ti ha]; exact z)); show a + b ≤ n; omega⟩]
        refine J.iconst C dX1_hasPart_18 (v := (nI 1)) (by decide) ?_
        refine J.goto C dX1_hasPart_19 (tgt := 23) (by decide) ?_
        exact J.zret C dX1_hasPart_23 (by first | exact bI_nar _ | rfl | decide | assumption) ⟨rfl, rfl⟩
set_option maxHeartbeats 4000000 in
set_option maxRecDepth 100000 in
theorem lp_X1_renew {l : Launch} {X : Cx} {V : Vx} {P : Option Value → (Nat → va_E) → Prop} {I : Nat → Nat → Int32} {L : Nat → Nat → Int64} (C : CX l X V RX1 cX1_renew 4 wsX1_renew 1 0 0 none) {k : Nat} {x y : Int32} (hk : kd k = 1) (hP : ∀ L0, (∀ j, j < 12 → L0 (k + 1) j = 0) → (∀ q, q ≠ k + 1 → L0 q = L q) → P none (mm V I L0)) : ∀ (z i : Nat) (L0 : Nat → Nat → Int64), i + z = 12 → (∀ j, j < i → L0 (k + 1) j = 0) → (∀ q, q ≠ k + 1 → L0 q = L q) → E X V P 4 12 [(0, .ref (ad V k)), (1, .int x), (2, .int y), (3, .int (nI i))] [] I L0 := by
  obtain ⟨hk1, hkl⟩ := kd1 hk
  have hk106 := kd_lt hk (by decide)
  intro z
  induction z with
  | zero =>
    intro i L0 hi h0 hf
    obtain rfl : i = 12 := by omega
    refine J.iload_n C dX1_renew_12 rfl ?_
    refine J.bipush C dX1_renew_13 (v := (nI 12)) (by decide) ?_
    first | refine J.icmp_ge_n C (by omega) (by omega) dX1_renew_15 (tgt := 31) (by decide) (fun _ => ?_) (fun c15 => absurd c15 (by first | omega | decide | simp_all)) | refine J.icmp_ge_xn C (by omega) dX1_renew_15 (tgt := 31) (by decide) (fun _ => ?_) (fun c15 => absurd c15 (by first | omega | decide | simp_all)) | refine J.icmp_ge_nx C (by omega) dX1_renew_15 (tgt := 31) (by decide) (fun _ => ?_) (fun c15 => absurd c15 (by first | omega | decide | simp_all)) | refine J.icmp_ge C dX1_renew_15 (tgt := 31) (by decide) (fun _ => ?_) (fun c15 => absurd c15 (by first | omega | decide | simp_all))
    exact J.vret C dX1_renew_31 (hP L0 h0 hf)
  | succ z ih =>
    intro i L0 hi h0 hf
    refine J.iload_n C dX1_renew_12 rfl ?_
    refine J.bipush C dX1_renew_13 (v := (nI 12)) (by decide) ?_
    first | refine J.icmp_ge_n C (by omega) (by omega) dX1_renew_15 (tgt := 31) (by decide) (fun c15 => absurd c15 (by first | omega | decide | simp_all)) (fun _ => ?_) | refine J.icmp_ge_xn C (by omega) dX1_renew_15 (tgt := 31) (by decide) (fun c15 => absurd c15 (by first | omega | decide | simp_all)) (fun _ => ?_) | refine J.icmp_ge_nx C (by omega) dX1_renew_15 (tgt := 31) (by decide) (fun c15 => absurd c15 (by first | omega | decide | simp_all)) (fun _ => ?_) | refine J.icmp_ge C dX1_renew_15 (tgt := 31) (by decide) (fun c15 => absurd c15 (by first | omega | decide | simp_all)) (fun _ => ?_)
    refine J.aload_n C dX1_renew_18 rfl ?_
    refine J.getR C flX1_renew_18 (by first | decide | omega) (by first | exact rfl | exact mk_1 (by assumption)) (by exact rfl) dX1_renew_19 ?_
    refine J.iload_n C dX1_renew_22 rfl ?_
    refine J.lconst C dX1_renew_23 (v := 0) (by decide) ?_
    refine J.las C (by first | exact rfl | assumption) (by first | exact rfl | exact rfl) (by first | (have h_ln := ln_all; have h_l2 := ln_all2; omega) | omega) dX1_renew_24 ?_
    refine J.iinc (ls' := [(0, _), (1, _), (2, _), (3, _)]) C dX1_renew_25 rfl (by first | exact nI_inc _ 1 | exact rfl) (by decide) rfl ?_
    refine J.goto C dX1_renew_28 (tgt := 12) (by decide) ?_
    refine ih (i + 1) _ (by omega) (fun j q => ?_) (fun q a => by rw [up3_n _ _ _ a]; exact hf q a)
    by_cases e : j = i
    · subst e; exact up3_s _ _ _ _
    · rw [up3_m _ _ _ e]; exact h0 j (by omega)
set_option maxHeartbeats 4000000 in
set_option maxRecDepth 100000 in
theorem ok_X1_renew (l : Launch) (V : Vx) {k : Nat} {x y : Int32} (I : Nat → Nat → Int32) (L : Nat → Nat → Int64) (hk : kd k = 1) : Gv l V yX1_renew wsX1_renew 1 [.ref (ad V k), .int x, .int y] I L (fun I' L' => I' = up2 (up2 I k 0 x) k 1 y ∧ (∀ j, j < 12 → L' (k + 1) j = 0) ∧ ∀ q, q ≠ k + 1 → L' q = L q) := by
  obtain ⟨hk1, hkl⟩ := kd1 hk
  have hk106 := kd_lt hk (by decide)
  refine Ok.of (cc := cX1_renew) (maxL := 4) (ret := none) (by decide) rfl (Nat.le_of_ble_eq_true rfl) (fun X hnm C => ?_)
  have C : CX l X V RX1 cX1_renew 4 wsX1_renew 1 0 0 none := C
  refine J.cast (ls' := [(0, _), (1, _), (2, _)]) rfl rfl rfl rfl ?_
  refine J.aload_n C dX1_renew_0 rfl ?_
  refine J.iload_n C dX1_renew_1 rfl ?_
  refine J.putI C fpX1_renew_9 (by first | decide | omega) (by first | exact rfl | exact mk_1 (by assumption)) (Nat.le_of_ble_eq_true rfl) (by first | exact mp_1_0 rfl | exact mp_1_0 (by assumption)) dX1_renew_2 ?_
  refine J.aload_n C dX1_renew_5 rfl ?_
  refine J.iload_n C dX1_renew_6 rfl ?_
  refine J.putI C fpX1_renew_15 (by first | decide | omega) (by first | exact rfl | exact mk_1 (by assumption)) (Nat.le_of_ble_eq_true rfl) (by first | exact mp_1_1 rfl | exact mp_1_1 (by assumption)) dX1_renew_7 ?_
  refine J.iconst C dX1_renew_10 (v := (nI 0)) (by decide) ?_
  refine J.istore_n (ls' := [(0, _), (1, _), (2, _), (3, _)]) C dX1_renew_11 (by decide) rfl ?_
  refine lp_X1_renew C hk (fun L0 h0 hf => ?_) 12 0 L (by omega) (fun j q => absurd q (Nat.not_lt_zero _)) (fun _ _ => rfl)
  exact ⟨_, L0, rfl, rfl, rfl, h0, hf⟩
