/-! THE CLASS: out, merges -/
def bL (b : Bool) : Int64 := cond b 1 0
theorem us_1 {x : Int64} {r : Nat} (hr : r < 64) : us x r &&& 1 = bL (bt x r) := by
  apply Int64.toBitVec_inj.mp
  apply BitVec.eq_of_toNat_eq
  show tn (us x r &&& 1) = tn (bL (bt x r))
  rw [tn_and, tn_us hr, show tn 1 = 1 from rfl, Nat.and_one_is_mod, bt_n, Nat.testBit_eq_decide_div_mod_eq]
  have hm := Nat.mod_lt (tn x / 2 ^ r) (show 0 < 2 by omega)
  rcases (show tn x / 2 ^ r % 2 = 0 ∨ tn x / 2 ^ r % 2 = 1 by omega) with e | e
  · rw [e]; rfl
  · rw [e]; rfl
theorem nb_a {x a : Nat} (hx : x < 256) (ha : a < 8) : nI (x % 2 ^ a) ||| ((bL (x.testBit a)).toInt32 <<< (nI a &&& 31)) = nI (x % 2 ^ (a + 1)) := by
  have key : ∀ x, x < 256 → ∀ a, a < 8 → nI (x % 2 ^ a) ||| ((bL (x.testBit a)).toInt32 <<< (nI a &&& 31)) = nI (x % 2 ^ (a + 1)) := by decide +kernel
  exact key x hx a ha
set_option maxHeartbeats 4000000 in
set_option maxRecDepth 100000 in
theorem lp_X4_numberOf {l : Launch} {X : Cx} {V : Vx} {P : Option Value → (Nat → va_E) → Prop} {I : Nat → Nat → Int32} {L : Nat → Nat → Int64} (C : CX l X V RX4 cX4_numberOf 5 wsX4_numberOf 1 0 0 (some .int)) {k n b r : Nat} {v : Nat → Nat} (hk : kd k = 4) (hn : n ≤ 8) (hr : r < 64) (hrn : r < 2 ^ n) (hv : v (64 * b + r) < 256) (hR : RwI n b (L (k + 1)) v) (hP : P (some (.int (nI (v (64 * b + r) % 2 ^ n)))) (mm V I L)) : ∀ (z i : Nat), i + z = n → E X V P 5 5 [(0, .ref (ad V k)), (1, .int (nI r)), (2, .int (nI n)), (3, .int (nI (v (64 * b + r) % 2 ^ i))), (4, .int (nI i))] [] I L := by
  obtain ⟨hk1, hkl⟩ := kd4 hk
  have hk106 := kd_lt hk (by decide)
  intro z
  induction z with
  | zero =>
    intro i hi
    obtain rfl : i = n := by omega
    refine J.iload C dX4_numberOf_5 rfl ?_
    refine J.iload_n C dX4_numberOf_7 rfl ?_
    first | refine J.icmp_ge_n C (by omega) (by omega) dX4_numberOf_8 (tgt := 35) (by decide) (fun _ => ?_) (fun c8 => absurd c8 (by first | omega | decide | simp_all)) | refine J.icmp_ge_xn C (by omega) dX4_numberOf_8 (tgt := 35) (by decide) (fun _ => ?_) (fun c8 => absurd c8 (by first | omega | decide | simp_all)) | refine J.icmp_ge_nx C (by omega) dX4_numberOf_8 (tgt := 35) (by decide) (fun _ => ?_) (fun c8 => absurd c8 (by first | omega | decide | simp_all)) | refine J.icmp_ge C dX4_numberOf_8 (tgt := 35) (by decide) (fun _ => ?_) (fun c8 => absurd c8 (by first | omega | decide | simp_all))
    refine J.iload_n C dX4_numberOf_35 rfl ?_
    exact J.iret C dX4_numberOf_36 hP
  | succ z ih =>
    intro i hi
    have e1 : ((L (k + 1) i).toUInt64 >>> ((nI r).toInt64.toUInt64 &&& Int64.toUInt64 63)).toInt64 &&& 1 = bL ((v (64 * b + r)).testBit i) := by
      have w := us_1 (x := L (k + 1) i) hr
      rw [hR i (by omega) r hr, decide_eq_true hrn, Bool.true_and] at w
      exact w
    have e2 := nb_a hv (a := i) (by omega)
    refine J.iload C dX4_numberOf_5 rfl ?_
    refine J.iload_n C dX4_numberOf_7 rfl ?_
    first | refine J.icmp_ge_n C (by omega) (by omega) dX4_numberOf_8 (tgt := 35) (by decide) (fun c8 => absurd c8 (by first | omega | decide | simp_all)) (fun _ => ?_) | refine J.icmp_ge_xn C (by omega) dX4_numberOf_8 (tgt := 35) (by decide) (fun c8 => absurd c8 (by first | omega | decide | simp_all)) (fun _ => ?_) | refine J.icmp_ge_nx C (by omega) dX4_numberOf_8 (tgt := 35) (by decide) (fun c8 => absurd c8 (by first | omega | decide | simp_all)) (fun _ => ?_) | refine J.icmp_ge C dX4_numberOf_8 (tgt := 35) (by decide) (fun c8 => absurd c8 (by first | omega | decide | simp_all)) (fun _ => ?_)
    refine J.iload_n C dX4_numberOf_11 rfl ?_
    refine J.aload_n C dX4_numberOf_12 rfl ?_
    refine J.getR C flX4_numberOf_9 (by first | decide | omega) (by first | exact rfl | exact mk_4 (by assumption)) (by exact rfl) dX4_numberOf_13 ?_
    refine J.iload C dX4_numberOf_16 rfl ?_
    refine J.la C (by first | exact rfl | assumption) (by first | exact rfl | exact rfl) (by first | (have h_ln := ln_all; have h_l2 := ln_all2; omega) | omega) (by first | ((repeat (first | rewrite [up2_n _ _ _ (by first | decide | omega)] | rewrite [up2_m _ _ _ (by decide)] | rewrite [up3_n _ _ _ (by first | decide | omega)])) <;> (first | exact up2_s _ _ _ _ | exact up3_s _ _ _ _ | assumption | exact rfl))) dX4_numberOf_18 ?_
    refine J.iload_n C dX4_numberOf_19 rfl ?_
    refine J.lushr C dX4_numberOf_20 ?_
    refine J.lconst C dX4_numberOf_21 (v := 1) (by decide) ?_
    refine J.land C dX4_numberOf_22 ?_
    rw [e1]
    refine J.l2i C dX4_numberOf_23 ?_
    refine J.iload C dX4_numberOf_24 rfl ?_
    refine J.ishl C dX4_numberOf_26 ?_
    refine J.ior C dX4_numberOf_27 ?_
    rw [e2]
    refine J.istore_n (ls' := [(0, _), (1, _), (2, _), (3, _), (4, _)]) C dX4_numberOf_28 (by decide) rfl ?_
    refine J.iinc (ls' := [(0, _), (1, _), (2, _), (3, _), (4, _)]) C dX4_numberOf_29 rfl (by first | exact nI_inc _ 1 | exact rfl) (by decide) rfl ?_
    refine J.goto C dX4_numberOf_32 (tgt := 5) (by decide) ?_
    exact ih (i + 1) (by omega)
set_option maxHeartbeats 4000000 in
set_option maxRecDepth 100000 in
theorem ok_X4_numberOf (l : Launch) (V : Vx) {k n b r : Nat} {v : Nat → Nat} (I : Nat → Nat → Int32) (L : Nat → Nat → Int64) (hk : kd k = 4) (hn : n ≤ 8) (hr : r < 64) (hrn : r < 2 ^ n) (hv : v (64 * b + r) < 256) (hR : RwI n b (L (k + 1)) v) : Di l V yX4_numberOf wsX4_numberOf 1 [.ref (ad V k), .int (nI r), .int (nI n)] I L (nI (v (64 * b + r) % 2 ^ n)) I L := by
  refine Ok.of (cc := cX4_numberOf) (maxL := 5) (ret := (some .int)) (by decide) rfl (Nat.le_of_ble_eq_true rfl) (fun X hnm C => ?_)
  have C : CX l X V RX4 cX4_numberOf 5 wsX4_numberOf 1 0 0 (some .int) := C
  refine J.cast (ls' := [(0, _), (1, _), (2, _)]) rfl rfl rfl rfl ?_
  refine J.iconst C dX4_numberOf_0 (v := (nI 0)) (by decide) ?_
  refine J.istore_n (ls' := [(0, _), (1, _), (2, _), (3, _)]) C dX4_numberOf_1 (by decide) rfl ?_
  refine J.iconst C dX4_numberOf_2 (v := (nI 0)) (by decide) ?_
  refine J.istore (ls' := [(0, _), (1, _), (2, _), (3, _), (4, _)]) C dX4_numberOf_3 (by decide) rfl ?_
  have w := lp_X4_numberOf C (b := b) hk hn hr hrn hv hR (P := fun a M => a = some (.int (nI (v (64 * b + r) % 2 ^ n))) ∧ M = mm V I L) (I := I) ⟨rfl, rfl⟩ n 0 (by omega)
  rw [show v (64 * b + r) % 2 ^ 0 = 0 from Nat.mod_one _] at w
  exact w
set_option maxHeartbeats 4000000 in
set_option maxRecDepth 100000 in
theorem ok_X5_out (l : Launch) (V : Vx) {g : Sg} {x1 : Int32} {o1 : Option Nat} (I : Nat → Nat → Int32) (L : Nat → Nat → Int64) (hx1 : AG x1 o1) (hz : V.2.2.2.2.2 = false) (h : AbC I L g) (ok : okG g) : PC l V yX5_out wsX5_out 4 [.ref (ad V 0), .int x1] I L (((sp_out g.1 o1).1, gX (sp_out g.1 o1).2 g g)) := by
  have hN := h.1
  have h0 := hN.1
  have hm := hN.2.1
  have hl2 := ok.1.1
  have hl8 := ok.1.2.1
  have h40 := ok.1.2.2.1
  have h8 := p2_le hl8
  cases o1 with
  | none =>
    have hx1 : x1.toInt < 0 := hx1
    refine Ok.of (cc := cX5_out) (maxL := 2) (ret := (some .int)) (by decide) rfl (Nat.le_of_ble_eq_true rfl) (fun X hnm C => ?_)
    have C : CX l X V RX5 cX5_out 2 wsX5_out 4 0 0 (some .int) := C
    refine J.cast (ls' := [(0, _), (1, _)]) rfl rfl rfl rfl ?_
    refine J.iload_n C dX5_out_0 rfl ?_
    refine J.if_lt_z C dX5_out_1 (tgt := 17) (by decide) (fun _ => ?_) (fun c1 => absurd c1 (by first | omega | decide | simp_all))
    refine J.aload_n C dX5_out_17 rfl ?_
    refine J.iconst C dX5_out_18 (v := (-1)) (by decide) ?_
    refine J.cVDi (q := (RX5, TX5, 11)) (ci := 5) C (ok_X5_finding l V _ _ _) gX5_out_X5_finding rfl mfX5_finding rfl (by decide) (by decide) (by first | decide | omega) rfl rfl rfl rfl (Nat.le_of_ble_eq_true rfl) dX5_out_19 (Nat.le_refl _) (Nat.le_refl _) ?_
    exact J.iret C dX5_out_22 (qC_s (qC_F h))
  | some r =>
    obtain ⟨hr31, rfl⟩ := hx1
    refine Ok.of (cc := cX5_out) (maxL := 2) (ret := (some .int)) (by decide) rfl (Nat.le_of_ble_eq_true rfl) (fun X hnm C => ?_)
    have C : CX l X V RX5 cX5_out 2 wsX5_out 4 0 0 (some .int) := C
    refine J.cast (ls' := [(0, _), (1, _)]) rfl rfl rfl rfl ?_
    refine J.iload_n C dX5_out_0 rfl ?_
    refine J.if_lt_z C dX5_out_1 (tgt := 17) (by decide) (fun c1 => absurd c1 (by rw [nI_ti hr31]; omega)) (fun _ => ?_)
    refine J.iload_n C dX5_out_4 rfl ?_
    refine J.iconst C dX5_out_5 (v := (nI 1)) (by decide) ?_
    refine J.aload_n C dX5_out_6 rfl ?_
    refine J.getR C flX5_out_10 (by first | decide | omega) rfl (by exact rfl) dX5_out_7 ?_
    refine J.getI C flX5_out_160 (by first | decide | omega) (by first | exact rfl | exact mk_3 (by assumption)) (by exact rfl) (by first | ((repeat (first | rewrite [up2_n _ _ _ (by first | decide | omega)] | rewrite [up2_m _ _ _ (by decide)] | rewrite [up3_n _ _ _ (by first | decide | omega)])) <;> (first | exact up2_s _ _ _ _ | exact up3_s _ _ _ _ | assumption | exact rfl))) dX5_out_10 ?_
    refine J.ishl C dX5_out_13 ?_
    rw [nI_pow (by omega)]
    first | refine J.icmp_lt_n C (by omega) (by omega) dX5_out_14 (tgt := 23) (by decide) (fun c14t => ?_) (fun c14f => ?_) | refine J.icmp_lt_xn C (by omega) dX5_out_14 (tgt := 23) (by decide) (fun c14t => ?_) (fun c14f => ?_) | refine J.icmp_lt_nx C (by omega) dX5_out_14 (tgt := 23) (by decide) (fun c14t => ?_) (fun c14f => ?_) | refine J.icmp_lt C dX5_out_14 (tgt := 23) (by decide) (fun c14t => ?_) (fun c14f => ?_)
    · have e : sp_out g.1 (some r) = (nI (gk g.1.2.2 (-1) r g.1.2.1), false) := if_pos c14t
      rw [e]
      have hb4 : r / 64 < 4 := by omega
      have hrm : r % 64 < 2 ^ g.1.1 := by have := Nat.mod_le r 64; omega
      refine J.aload_n C dX5_out_23 rfl ?_
      refine J.getR C flX5_out_36 (by first | decide | omega) rfl (by exact rfl) dX5_out_24 ?_
      refine J.aload_n C dX5_out_27 rfl ?_
      refine J.getR C flX5_out_10 (by first | decide | omega) rfl (by exact rfl) dX5_out_28 ?_
      refine J.getI C flX5_out_160 (by first | decide | omega) (by first | exact rfl | exact mk_3 (by assumption)) (by exact rfl) (by first | ((repeat (first | rewrite [up2_n _ _ _ (by first | decide | omega)] | rewrite [up2_m _ _ _ (by decide)] | rewrite [up3_n _ _ _ (by first | decide | omega)])) <;> (first | exact up2_s _ _ _ _ | exact up3_s _ _ _ _ | assumption | exact rfl))) dX5_out_31 ?_
      refine J.iload_n C dX5_out_34 rfl ?_
      refine J.bipush C dX5_out_35 (v := (nI 64)) (by decide) ?_
      first | refine J.idiv_n C (by omega) (by omega) (by omega) dX5_out_37 ?_ | refine J.idiv C (by decide) dX5_out_37 ?_
      refine J.cVGv (q := (RX4, TX4, 2)) (ci := 4) C (ok_X4_start l V (k := 57) (b := r / 64) _ _ rfl hl8 hb4) gX5_out_X4_start rfl mfX4_start rfl (by decide) (by decide) (by first | decide | omega) (by first | exact rfl | exact mk_4 (by assumption)) rfl rfl rfl (Nat.le_of_ble_eq_true rfl) dX5_out_38 (Nat.le_refl _) (Nat.le_refl _) (fun I38 L38 h38 => ?_)
      obtain ⟨rfl, ha, hc, hf⟩ := h38
      have hR := RwI_0 hl8 hb4 hc
      have hA : RwA g.1.1 (L38 57 1) := by rw [ha]; exact alV_b hl8
      refine J.aload_n C dX5_out_41 rfl ?_
      refine J.getR C flX5_out_36 (by first | decide | omega) rfl (by exact rfl) dX5_out_42 ?_
      refine J.aload_n C dX5_out_45 rfl ?_
      refine J.getR C flX5_out_10 (by first | decide | omega) rfl (by exact rfl) dX5_out_46 ?_
      refine J.iconst C dX5_out_49 (v := (-1)) (by decide) ?_
      refine J.cVGv (q := (RX4, TX4, 2)) (ci := 4) C (ok_X4_pass l V (k := 57) (q := 1) (b := r / 64) _ _ rfl rfl ok.1 hN hA hR) gX5_out_X4_pass rfl mfX4_pass rfl (by decide) (by decide) (by first | decide | omega) (by first | exact rfl | exact mk_4 (by assumption)) rfl rfl rfl (Nat.le_of_ble_eq_true rfl) dX5_out_50 (Nat.le_refl _) (Nat.le_refl _) (fun I50 L50 h50 => ?_)
      obtain ⟨rfl, hp1, hp2, hp3⟩ := h50
      rw [toInt_m1] at hp3
      have hrr : 64 * (r / 64) + r % 64 = r := by omega
      have hgl := gk_lt ok.1 (s := -1) (r := r) c14t g.1.2.1 (Nat.le_refl _)
      refine J.aload_n C dX5_out_53 rfl ?_
      refine J.getR C flX5_out_36 (by first | decide | omega) rfl (by exact rfl) dX5_out_54 ?_
      refine J.iload_n C dX5_out_57 rfl ?_
      refine J.bipush C dX5_out_58 (v := (nI 64)) (by decide) ?_
      first | refine J.irem_n C (by omega) (by omega) (by omega) dX5_out_60 ?_ | refine J.irem C (by decide) dX5_out_60 ?_
      refine J.aload_n C dX5_out_61 rfl ?_
      refine J.getR C flX5_out_10 (by first | decide | omega) rfl (by exact rfl) dX5_out_62 ?_
      refine J.getI C flX5_out_160 (by first | decide | omega) (by first | exact rfl | exact mk_3 (by assumption)) (by exact rfl) (by first | ((repeat (first | rewrite [up2_n _ _ _ (by first | decide | omega)] | rewrite [up2_m _ _ _ (by decide)] | rewrite [up3_n _ _ _ (by first | decide | omega)])) <;> (first | exact up2_s _ _ _ _ | exact up3_s _ _ _ _ | assumption | exact rfl))) dX5_out_65 ?_
      refine J.cVDi (q := (RX4, TX4, 2)) (ci := 4) C (ok_X4_numberOf l V (k := 57) (b := r / 64) (r := r % 64) _ _ rfl hl8 (by omega) hrm (by show gk _ _ (64 * (r / 64) + r % 64) _ < 256; rw [hrr]; omega) hp3) gX5_out_X4_numberOf rfl mfX4_numberOf rfl (by decide) (by decide) (by first | decide | omega) (by first | exact rfl | exact mk_4 (by assumption)) rfl rfl rfl (Nat.le_of_ble_eq_true rfl) dX5_out_68 (Nat.le_refl _) (Nat.le_refl _) ?_
      rw [show gk g.1.2.2 (-1) (64 * (r / 64) + r % 64) g.1.2.1 % 2 ^ g.1.1 = gk g.1.2.2 (-1) r g.1.2.1 by rw [hrr, Nat.mod_eq_of_lt hgl]]
      exact J.iret C dX5_out_71 (qC_s (qC_rw h (fun q a b => by rw [hp2 q b, hf q a b])))
    · have e : sp_out g.1 (some r) = (-1, true) := if_neg c14f
      rw [e]
      refine J.aload_n C dX5_out_17 rfl ?_
      refine J.iconst C dX5_out_18 (v := (-1)) (by decide) ?_
      refine J.cVDi (q := (RX5, TX5, 11)) (ci := 5) C (ok_X5_finding l V _ _ _) gX5_out_X5_finding rfl mfX5_finding rfl (by decide) (by decide) (by first | decide | omega) rfl rfl rfl rfl (Nat.le_of_ble_eq_true rfl) dX5_out_19 (Nat.le_refl _) (Nat.le_refl _) ?_
      exact J.iret C dX5_out_22 (qC_s (qC_F h))
