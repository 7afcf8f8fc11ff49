/-! THE REFERENCE: numbers that wait, kinds, rounds -/
theorem AbM_scr {I I' : Nat → Nat → Int32} {L L' : Nat → Nat → Int64} {g : Sg} (h : AbM I L g) (e : ∀ k, 85 ≤ k → k ≤ 99 → I' k = I k) (e2 : L' 98 = L 98) : AbM I' L' g := by
  unfold AbM
  rw [e 85 (by decide) (by decide), e 86 (by decide) (by decide), e 87 (by decide) (by decide), e 88 (by decide) (by decide), e 89 (by decide) (by decide), e 90 (by decide) (by decide), e 91 (by decide) (by decide), e 92 (by decide) (by decide), e 93 (by decide) (by decide), e 94 (by decide) (by decide), e 95 (by decide) (by decide), e 96 (by decide) (by decide), e 97 (by decide) (by decide), e 99 (by decide) (by decide), e2]
  exact h
noncomputable def op_tell (g : Sg) (v : Int32) : Int32 × Sg := cond (tb (g.2.2.2.2.1.1 = 80)) (-5, gF g) (nI (g.2.2.2.2.1.1 + 1), (g.1, g.2.1, g.2.2.1, g.2.2.2.1, (g.2.2.2.2.1.1 + 1, va_up g.2.2.2.2.1.2 g.2.2.2.2.1.1 v), g.2.2.2.2.2))
def op_told (g : Sg) (o : Option Nat) : Int32 × Sg := if o = some 0 then (nI g.1.1, g) else if o = some 1 then (nI g.1.2.1, g) else if o = some 2 then (nI g.2.2.2.2.1.1, g) else if o = some 3 then (g.2.2.2.2.2, g) else (-1, gF g)
theorem AG_eq {x : Int32} {o : Option Nat} (h : AG x o) {k : Nat} (hk : k < 2 ^ 31) : x = nI k ↔ o = some k := by
  cases o with
  | none =>
    have h : x.toInt < 0 := h
    exact ⟨fun q => by rw [q, nI_ti hk] at h; omega, fun q => by cases q⟩
  | some j =>
    obtain ⟨hj, rfl⟩ := h
    rw [nI_eq hj hk]
    exact ⟨fun q => by rw [q], fun q => by cases q; rfl⟩
theorem AbM_wait {I : Nat → Nat → Int32} {L : Nat → Nat → Int64} {g : Sg} {I' : Nat → Nat → Int32} {w : Nat × (Nat → Int32)} (h : AbM I L g) (e5 : ∀ j, j ≠ 17 → I' 85 j = I 85 j) (ek : ∀ k, 86 ≤ k → k ≤ 98 → I' k = I k) (hw : wA (I' 85 17) (I' 99) w) : AbM I' L (g.1, g.2.1, g.2.2.1, g.2.2.2.1, w, g.2.2.2.2.2) := by
  obtain ⟨h1, h2, h3, h4, h5, h6⟩ := h
  refine ⟨?_, ?_, ?_, ?_, hw, ?_⟩
  · rw [e5 0 (by decide), e5 1 (by decide), ek 86 (by decide) (by decide), ek 87 (by decide) (by decide), ek 88 (by decide) (by decide), ek 89 (by decide) (by decide)]; exact h1
  · rw [e5 12 (by decide), ek 90 (by decide) (by decide), ek 91 (by decide) (by decide), ek 92 (by decide) (by decide), ek 93 (by decide) (by decide), ek 94 (by decide) (by decide), ek 95 (by decide) (by decide)]; exact h2
  · rw [ek 90 (by decide) (by decide), ek 91 (by decide) (by decide), ek 92 (by decide) (by decide), ek 93 (by decide) (by decide), ek 94 (by decide) (by decide), ek 95 (by decide) (by decide)]; exact h3
  · rw [ek 96 (by decide) (by decide), ek 97 (by decide) (by decide)]; exact h4
  · rw [e5 18 (by decide)]; exact h6
set_option maxHeartbeats 4000000 in
set_option maxRecDepth 100000 in
theorem ok_X6_tell (l : Launch) (V : Vx) {g : Sg} (v : Int32) (I : Nat → Nat → Int32) (L : Nat → Nat → Int64) (h : AbM I L g) (ok : okG g) : PM l V yX6_tell wsX6_tell 2 [.ref (ad V 85), .int v] I L (op_tell g v) := by
  have hw := h.2.2.2.2.1
  have hq := hw.1
  have hq80 := hw.2.1
  unfold op_tell
  refine Ok.of (cc := cX6_tell) (maxL := 2) (ret := (some .int)) (by decide) rfl (Nat.le_of_ble_eq_true rfl) (fun X hnm C => ?_)
  have C : CX l X V RX6 cX6_tell 2 wsX6_tell 2 0 0 (some .int) := C
  refine J.cast (ls' := [(0, _), (1, _)]) rfl rfl rfl rfl ?_
  refine J.aload_n C dX6_tell_0 rfl ?_
  refine J.getI C flX6_tell_193 (by first | decide | omega) rfl (by exact rfl) (by first | ((repeat (first | refine up2_rd (by decide) ?_ | refine up2_rm (by decide) ?_ | refine up3_rd (by decide) ?_)) <;> (first | exact up2_s _ _ _ _ | assumption | exact rfl))) dX6_tell_1 ?_
  refine J.bipush C dX6_tell_4 (v := (nI 80)) (by decide) ?_
  first | refine J.icmp_ne_n C (by omega) (by omega) dX6_tell_6 (tgt := 16) (by decide) (fun c6t => ?_) (fun c6f => ?_) | refine J.icmp_ne_xn C (by omega) dX6_tell_6 (tgt := 16) (by decide) (fun c6t => ?_) (fun c6f => ?_) | refine J.icmp_ne_nx C (by omega) dX6_tell_6 (tgt := 16) (by decide) (fun c6t => ?_) (fun c6f => ?_) | refine J.icmp_ne C dX6_tell_6 (tgt := 16) (by decide) (fun c6t => ?_) (fun c6f => ?_)
  · rw [tb_0 c6t]
    refine J.aload_n C dX6_tell_16 rfl ?_
    refine J.getR C flX6_tell_55 (by first | decide | omega) rfl (by exact rfl) dX6_tell_17 ?_
    refine J.aload_n C dX6_tell_20 rfl ?_
    refine J.getI C flX6_tell_193 (by first | decide | omega) rfl (by exact rfl) (by first | ((repeat (first | refine up2_rd (by decide) ?_ | refine up2_rm (by decide) ?_ | refine up3_rd (by decide) ?_)) <;> (first | exact up2_s _ _ _ _ | assumption | exact rfl))) dX6_tell_21 ?_
    refine J.iload_n C dX6_tell_24 rfl ?_
    refine J.ias C (by first | exact rfl | assumption) (by first | exact rfl | exact rfl) (by first | (have h_ln := ln_all; omega) | omega) dX6_tell_25 ?_
    refine J.aload_n C dX6_tell_26 rfl ?_
    refine J.dup C dX6_tell_27 rfl ?_
    refine J.getI C flX6_tell_193 (by first | decide | omega) rfl (by exact rfl) (by first | ((repeat (first | refine up2_rd (by decide) ?_ | refine up2_rm (by decide) ?_ | refine up3_rd (by decide) ?_)) <;> (first | exact up2_s _ _ _ _ | assumption | exact rfl))) dX6_tell_28 ?_
    refine J.iconst C dX6_tell_31 (v := (nI 1)) (by decide) ?_
    first | refine J.iadd_n C dX6_tell_32 ?_ | refine J.iadd C dX6_tell_32 ?_
    refine J.putI C fpX6_tell_193 (by first | decide | omega) rfl (Nat.le_of_ble_eq_true rfl) (by first | exact mp_6_17 rfl | exact mp_6_17 (by assumption)) dX6_tell_33 ?_
    refine J.aload_n C dX6_tell_36 rfl ?_
    refine J.getI C flX6_tell_193 (by first | decide | omega) rfl (by exact rfl) (by first | ((repeat (first | refine up2_rd (by decide) ?_ | refine up2_rm (by decide) ?_ | refine up3_rd (by decide) ?_)) <;> (first | exact up2_s _ _ _ _ | assumption | exact rfl))) dX6_tell_37 ?_
    exact J.iret C dX6_tell_40 (qM_s ⟨rfl, AbM_wait h (fun j a => by rw [up2_m _ _ _ a, up2_n _ _ _ (by decide)]) (fun k a b => by rw [up2_n _ _ _ (by omega), up2_n _ _ _ (by omega)]) ⟨up2_s _ _ _ _, by show g.2.2.2.2.1.1 + 1 ≤ 80; omega, fun i hi => by rw [up2_n _ _ _ (by decide)]; show up2 I 99 _ v 99 i = va_up g.2.2.2.2.1.2 g.2.2.2.2.1.1 v i; by_cases e : i = g.2.2.2.2.1.1; rw [e, up2_s, va_up_self]; rw [up2_m _ _ _ e, va_up_ne _ _ e]; exact hw.2.2 i (by have hi : i < g.2.2.2.2.1.1 + 1 := hi; omega)⟩, (by repeat (first | exact frm_rfl | refine frm_up (by decide) ?_ | refine frm_be ?_ | refine frm_rs ?_ | refine frm_st ?_ | refine frm_F ?_)), frmL_rfl⟩)
  · rw [tb_1 c6f]
    refine J.aload_n C dX6_tell_9 rfl ?_
    refine J.bipush C dX6_tell_10 (v := (-5)) (by decide) ?_
    refine J.cVDi (q := (RX6, TX6, 25)) (ci := 6) C (ok_X6_found l V _ _ _) gX6_tell_X6_found rfl mfX6_found rfl (by decide) (by decide) (by first | decide | omega) rfl rfl rfl rfl (Nat.le_of_ble_eq_true rfl) dX6_tell_12 (Nat.le_refl _) (Nat.le_refl _) ?_
    exact J.iret C dX6_tell_15 (qM_s (qM_F h))
set_option maxHeartbeats 4000000 in
set_option maxRecDepth 100000 in
theorem ok_X6_told (l : Launch) (V : Vx) {g : Sg} {x1 : Int32} {o1 : Option Nat} (I : Nat → Nat → Int32) (L : Nat → Nat → Int64) (hx1 : AG x1 o1) (h : AbM I L g) (ok : okG g) : PM l V yX6_told wsX6_told 2 [.ref (ad V 85), .int x1] I L (op_told g o1) := by
  have h0 := h.1.1
  have h1 := h.1.2.1
  have h17 := h.2.2.2.2.1.1
  have h18 := h.2.2.2.2.2
  have q0 : x1 = 0 ↔ o1 = some 0 := AG_eq hx1 (k := 0) (by decide)
  have q1 := AG_eq hx1 (k := 1) (by decide)
  have q2 := AG_eq hx1 (k := 2) (by decide)
  have q3 := AG_eq hx1 (k := 3) (by decide)
  unfold op_told
  refine Ok.of (cc := cX6_told) (maxL := 2) (ret := (some .int)) (by decide) rfl (Nat.le_of_ble_eq_true rfl) (fun X hnm C => ?_)
  have C : CX l X V RX6 cX6_told 2 wsX6_told 2 0 0 (some .int) := C
  refine J.cast (ls' := [(0, _), (1, _)]) rfl rfl rfl rfl ?_
  refine J.iload_n C dX6_told_0 rfl ?_
  refine J.if_ne C dX6_told_1 (tgt := 11) (by decide) (fun c1t => ?_) (fun c1f => ?_)
  · rw [if_neg (fun q => c1t (q0.mpr q))]
    refine J.iload_n C dX6_told_11 rfl ?_
    refine J.iconst C dX6_told_12 (v := (nI 1)) (by decide) ?_
    refine J.icmp_ne C dX6_told_13 (tgt := 23) (by decide) (fun c13t => ?_) (fun c13f => ?_)
    · rw [if_neg (fun q => c13t (q1.mpr q))]
      refine J.iload_n C dX6_told_23 rfl ?_
      refine J.iconst C dX6_told_24 (v := (nI 2)) (by decide) ?_
      refine J.icmp_ne C dX6_told_25 (tgt := 35) (by decide) (fun c25t => ?_) (fun c25f => ?_)
      · rw [if_neg (fun q => c25t (q2.mpr q))]
        refine J.iload_n C dX6_told_35 rfl ?_
        refine J.iconst C dX6_told_36 (v := (nI 3)) (by decide) ?_
        refine J.icmp_ne C dX6_told_37 (tgt := 47) (by decide) (fun c37t => ?_) (fun c37f => ?_)
        · rw [if_neg (fun q => c37t (q3.mpr q))]
          refine J.aload_n C dX6_told_47 rfl ?_
          refine J.iconst C dX6_told_48 (v := (-1)) (by decide) ?_
          refine J.cVDi (q := (RX6, TX6, 25)) (ci := 6) C (ok_X6_found l V _ _ _) gX6_told_X6_found rfl mfX6_found rfl (by decide) (by decide) (by first | decide | omega) rfl rfl rfl rfl (Nat.le_of_ble_eq_true rfl) dX6_told_49 (Nat.le_refl _) (Nat.le_refl _) ?_
          exact J.iret C dX6_told_52 (qM_s (qM_F h))
        · rw [if_pos (q3.mp c37f)]
          refine J.aload_n C dX6_told_40 rfl ?_
          refine J.getI C flX6_told_76 (by first | decide | omega) rfl (by exact rfl) (by first | ((repeat (first | refine up2_rd (by decide) ?_ | refine up2_rm (by decide) ?_ | refine up3_rd (by decide) ?_)) <;> (first | exact up2_s _ _ _ _ | assumption | exact rfl))) dX6_told_41 ?_
          refine J.goto C dX6_told_44 (tgt := 52) (by decide) ?_
          exact J.iret C dX6_told_52 (qM_s ⟨rfl, h, frm_rfl, frmL_rfl⟩)
      · rw [if_pos (q2.mp c25f)]
        refine J.aload_n C dX6_told_28 rfl ?_
        refine J.getI C flX6_told_193 (by first | decide | omega) rfl (by exact rfl) (by first | ((repeat (first | refine up2_rd (by decide) ?_ | refine up2_rm (by decide) ?_ | refine up3_rd (by decide) ?_)) <;> (first | exact up2_s _ _ _ _ | assumption | exact rfl))) dX6_told_29 ?_
        refine J.goto C dX6_told_32 (tgt := 52) (by decide) ?_
        exact J.iret C dX6_told_52 (qM_s ⟨rfl, h, frm_rfl, frmL_rfl⟩)
    · rw [if_pos (q1.mp c13f)]
      refine J.aload_n C dX6_told_16 rfl ?_
      refine J.getI C flX6_told_79 (by first | decide | omega) rfl (by exact rfl) (by first | ((repeat (first | refine up2_rd (by decide) ?_ | refine up2_rm (by decide) ?_ | refine up3_rd (by decide) ?_)) <;> (first | exact up2_s _ _ _ _ | assumption | exact rfl))) dX6_told_17 ?_
      refine J.goto C dX6_told_20 (tgt := 52) (by decide) ?_
      exact J.iret C dX6_told_52 (qM_s ⟨rfl, h, frm_rfl, frmL_rfl⟩)
  · rw [if_pos (q0.mp c1f)]
    refine J.aload_n C dX6_told_4 rfl ?_
    refine J.getI C flX6_told_7 (by first | decide | omega) rfl (by exact rfl) (by first | ((repeat (first | refine up2_rd (by decide) ?_ | refine up2_rm (by decide) ?_ | refine up3_rd (by decide) ?_)) <;> (first | exact up2_s _ _ _ _ | assumption | exact rfl))) dX6_told_5 ?_
    refine J.goto C dX6_told_8 (tgt := 52) (by decide) ?_
    exact J.iret C dX6_told_52 (qM_s ⟨rfl, h, frm_rfl, frmL_rfl⟩)
/-- kind k is m or stands under it -/
def und (k m : Nat) : Bool := decide (k = m) || decide (m = 0) || (decide (k = 3) && decide (m = 1)) || (decide (k = 4) && decide (m = 2))
noncomputable def op_as (g : Sg) (i o : Option Nat) : Int32 × Sg := cond (tb (inO i g.1.2.1 ∧ inO o 5)) (cond (und (g.1.2.2 (i.getD 0)).1 (o.getD 0)) (nI (i.getD 0), g) (-4, gF g)) (-1, gF g)
def abv (k : Nat) : Int32 := if k = 0 then -1 else if k < 3 then nI 0 else nI (k - 2)
set_option maxHeartbeats 4000000 in
set_option maxRecDepth 100000 in
theorem ok_X6_above (l : Launch) (V : Vx) {k : Nat} (I : Nat → Nat → Int32) (L : Nat → Nat → Int64) (hk : k ≤ 4) : Di l V yX6_above wsX6_above 1 [.int (nI k)] I L (abv k) I L := by
  unfold abv
  refine Ok.of (cc := cX6_above) (maxL := 1) (ret := (some .int)) (by decide) rfl (Nat.le_of_ble_eq_true rfl) (fun X hnm C => ?_)
  have C : CX l X V RX6 cX6_above 1 wsX6_above 1 0 0 (some .int) := C
  refine J.cast (ls' := [(0, _)]) rfl rfl rfl rfl ?_
  refine J.iload_n C dX6_above_0 rfl ?_
  first | refine J.if_ne_b C dX6_above_1 (tgt := 8) (by decide) (fun c1t => ?_) (fun c1f => ?_) | refine J.if_ne_n C (by omega) dX6_above_1 (tgt := 8) (by decide) (fun c1t => ?_) (fun c1f => ?_) | refine J.if_ne C dX6_above_1 (tgt := 8) (by decide) (fun c1t => ?_) (fun c1f => ?_)
  · rw [if_neg c1t]
    refine J.iload_n C dX6_above_8 rfl ?_
    refine J.iconst C dX6_above_9 (v := (nI 3)) (by decide) ?_
    first | refine J.icmp_ge_n C (by omega) (by omega) dX6_above_10 (tgt := 17) (by decide) (fun c10t => ?_) (fun c10f => ?_) | refine J.icmp_ge_xn C (by omega) dX6_above_10 (tgt := 17) (by decide) (fun c10t => ?_) (fun c10f => ?_) | refine J.icmp_ge_nx C (by omega) dX6_above_10 (tgt := 17) (by decide) (fun c10t => ?_) (fun c10f => ?_) | refine J.icmp_ge C dX6_above_10 (tgt := 17) (by decide) (fun c10t => ?_) (fun c10f => ?_)
    · rw [if_neg (by omega)]
      refine J.iload_n C dX6_above_17 rfl ?_
      refine J.iconst C dX6_above_18 (v := (nI 2)) (by decide) ?_
      first | refine J.isub_n C (by omega) dX6_above_19 ?_ | refine J.isub C dX6_above_19 ?_
      exact J.iret C dX6_above_20 ⟨rfl, rfl⟩
    · rw [if_pos (by omega)]
      refine J.iconst C dX6_above_13 (v := (nI 0)) (by decide) ?_
      refine J.goto C dX6_above_14 (tgt := 20) (by decide) ?_
      exact J.iret C dX6_above_20 ⟨rfl, rfl⟩
  · rw [if_pos c1f]
    refine J.iconst C dX6_above_4 (v := (-1)) (by decide) ?_
    refine J.goto C dX6_above_5 (tgt := 20) (by decide) ?_
    exact J.iret C dX6_above_20 ⟨rfl, rfl⟩
set_option maxHeartbeats 4000000 in
set_option maxRecDepth 100000 in
theorem lp_X6_as_m {l : Launch} {X : Cx} {V : Vx} {P : Option Value → (Nat → va_E) → Prop} {I : Nat → Nat → Int32} {L : Nat → Nat → Int64} (C : CX l X V RX6 cX6_as 4 wsX6_as 3 0 0 (some .int)) {x : Int32} {m : Nat} {y : Int32} (hy : y.toInt < 0) (hP : P (some (.int (-4))) (mm V (fM I) L)) : E X V P 4 30 [(0, .ref (ad V 85)), (1, .int x), (2, .int (nI m)), (3, .int y)] [] I L := by
  refine J.iload_n C dX6_as_30 rfl ?_
  refine J.if_lt_z C dX6_as_31 (tgt := 49) (by decide) (fun _ => ?_) (fun c31 => absurd c31 (by first | omega | decide | simp_all))
  refine J.aload_n C dX6_as_49 rfl ?_
  refine J.bipush C dX6_as_50 (v := (-4)) (by decide) ?_
  refine J.cVDi (q := (RX6, TX6, 25)) (ci := 6) C (ok_X6_found l V _ _ _) gX6_as_X6_found rfl mfX6_found rfl (by decide) (by decide) (by first | decide | omega) rfl rfl rfl rfl (Nat.le_of_ble_eq_true rfl) dX6_as_52 (Nat.le_refl _) (Nat.le_refl _) ?_
  exact J.iret C dX6_as_55 hP
set_option maxHeartbeats 4000000 in
set_option maxRecDepth 100000 in
theorem lp_X6_as_0 {l : Launch} {X : Cx} {V : Vx} {P : Option Value → (Nat → va_E) → Prop} {I : Nat → Nat → Int32} {L : Nat → Nat → Int64} (C : CX l X V RX6 cX6_as 4 wsX6_as 3 0 0 (some .int)) {x : Int32} {m : Nat} (hm : m < 5) (ht : m = 0 → P (some (.int x)) (mm V I L)) (hf : ¬ m = 0 → P (some (.int (-4))) (mm V (fM I) L)) : E X V P 4 30 [(0, .ref (ad V 85)), (1, .int x), (2, .int (nI m)), (3, .int (nI 0))] [] I L := by
  refine J.iload_n C dX6_as_30 rfl ?_
  refine J.if_lt_n C (by omega) dX6_as_31 (tgt := 49) (by decide) ?_
  refine J.iload_n C dX6_as_34 rfl ?_
  refine J.iload_n C dX6_as_35 rfl ?_
  first | refine J.icmp_ne_n C (by omega) (by omega) dX6_as_36 (tgt := 41) (by decide) (fun c36t => ?_) (fun c36f => ?_) | refine J.icmp_ne_xn C (by omega) dX6_as_36 (tgt := 41) (by decide) (fun c36t => ?_) (fun c36f => ?_) | refine J.icmp_ne_nx C (by omega) dX6_as_36 (tgt := 41) (by decide) (fun c36t => ?_) (fun c36f => ?_) | refine J.icmp_ne C dX6_as_36 (tgt := 41) (by decide) (fun c36t => ?_) (fun c36f => ?_)
  · refine J.iload_n C dX6_as_41 rfl ?_
    refine J.cSDi C (ok_X6_above l V _ _ (by decide)) gX6_as_X6_above rfl mfX6_above (by decide) (by decide) rfl rfl (Nat.le_of_ble_eq_true rfl) dX6_as_42 (Nat.le_refl _) (Nat.le_refl _) ?_
    refine J.istore_n (ls' := [(0, _), (1, _), (2, _), (3, _)]) C dX6_as_45 (by decide) rfl ?_
    refine J.goto C dX6_as_46 (tgt := 30) (by decide) ?_
    exact lp_X6_as_m C (by decide) (hf (by omega))
  · refine J.iload_n C dX6_as_39 rfl ?_
    exact J.iret C dX6_as_40 (ht (by omega))
set_option maxHeartbeats 4000000 in
set_option maxRecDepth 100000 in
theorem lp_X6_as_1 {l : Launch} {X : Cx} {V : Vx} {P : Option Value → (Nat → va_E) → Prop} {I : Nat → Nat → Int32} {L : Nat → Nat → Int64} (C : CX l X V RX6 cX6_as 4 wsX6_as 3 0 0 (some .int)) {x : Int32} {m k : Nat} (hm : m < 5) (h1 : 1 ≤ k) (h2 : k ≤ 2) (ht : (m = k ∨ m = 0) → P (some (.int x)) (mm V I L)) (hf : ¬ (m = k ∨ m = 0) → P (some (.int (-4))) (mm V (fM I) L)) : E X V P 4 30 [(0, .ref (ad V 85)), (1, .int x), (2, .int (nI m)), (3, .int (nI k))] [] I L := by
  have e : abv k = nI 0 := by unfold abv; rw [if_neg (by omega), if_pos (by omega)]
  refine J.iload_n C dX6_as_30 rfl ?_
  refine J.if_lt_n C (by omega) dX6_as_31 (tgt := 49) (by decide) ?_
  refine J.iload_n C dX6_as_34 rfl ?_
  refine J.iload_n C dX6_as_35 rfl ?_
  first | refine J.icmp_ne_n C (by omega) (by omega) dX6_as_36 (tgt := 41) (by decide) (fun c36t => ?_) (fun c36f => ?_) | refine J.icmp_ne_xn C (by omega) dX6_as_36 (tgt := 41) (by decide) (fun c36t => ?_) (fun c36f => ?_) | refine J.icmp_ne_nx C (by omega) dX6_as_36 (tgt := 41) (by decide) (fun c36t => ?_) (fun c36f => ?_) | refine J.icmp_ne C dX6_as_36 (tgt := 41) (by decide) (fun c36t => ?_) (fun c36f => ?_)
  · refine J.iload_n C dX6_as_41 rfl ?_
    refine J.cSDi C (ok_X6_above l V _ _ (by omega)) gX6_as_X6_above rfl mfX6_above (by decide) (by decide) rfl rfl (Nat.le_of_ble_eq_true rfl) dX6_as_42 (Nat.le_refl _) (Nat.le_refl _) ?_
    rw [e]
    refine J.istore_n (ls' := [(0, _), (1, _), (2, _), (3, _)]) C dX6_as_45 (by decide) rfl ?_
    refine J.goto C dX6_as_46 (tgt := 30) (by decide) ?_
    exact lp_X6_as_0 C hm (fun q => ht (Or.inr q)) (fun q => hf (fun z => by omega))
  · refine J.iload_n C dX6_as_39 rfl ?_
    exact J.iret C dX6_as_40 (ht (Or.inl (by omega)))
set_option maxHeartbeats 4000000 in
set_option maxRecDepth 100000 in
theorem lp_X6_as_3 {l : Launch} {X : Cx} {V : Vx} {P : Option Value → (Nat → va_E) → Prop} {I : Nat → Nat → Int32} {L : Nat → Nat → Int64} (C : CX l X V RX6 cX6_as 4 wsX6_as 3 0 0 (some .int)) {x : Int32} {m k : Nat} (hm : m < 5) (h1 : 3 ≤ k) (h2 : k ≤ 4) (ht : (m = k ∨ m = k - 2 ∨ m = 0) → P (some (.int x)) (mm V I L)) (hf : ¬ (m = k ∨ m = k - 2 ∨ m = 0) → P (some (.int (-4))) (mm V (fM I) L)) : E X V P 4 30 [(0, .ref (ad V 85)), (1, .int x), (2, .int (nI m)), (3, .int (nI k))] [] I L := by
  have e : abv k = nI (k - 2) := by unfold abv; rw [if_neg (by omega), if_neg (by omega)]
  refine J.iload_n C dX6_as_30 rfl ?_
  refine J.if_lt_n C (by omega) dX6_as_31 (tgt := 49) (by decide) ?_
  refine J.iload_n C dX6_as_34 rfl ?_
  refine J.iload_n C dX6_as_35 rfl ?_
  first | refine J.icmp_ne_n C (by omega) (by omega) dX6_as_36 (tgt := 41) (by decide) (fun c36t => ?_) (fun c36f => ?_) | refine J.icmp_ne_xn C (by omega) dX6_as_36 (tgt := 41) (by decide) (fun c36t => ?_) (fun c36f => ?_) | refine J.icmp_ne_nx C (by omega) dX6_as_36 (tgt := 41) (by decide) (fun c36t => ?_) (fun c36f => ?_) | refine J.icmp_ne C dX6_as_36 (tgt := 41) (by decide) (fun c36t => ?_) (fun c36f => ?_)
  · refine J.iload_n C dX6_as_41 rfl ?_
    refine J.cSDi C (ok_X6_above l V _ _ (by omega)) gX6_as_X6_above rfl mfX6_above (by decide) (by decide) rfl rfl (Nat.le_of_ble_eq_true rfl) dX6_as_42 (Nat.le_refl _) (Nat.le_refl _) ?_
    rw [e]
    refine J.istore_n (ls' := [(0, _), (1, _), (2, _), (3, _)]) C dX6_as_45 (by decide) rfl ?_
    refine J.goto C dX6_as_46 (tgt := 30) (by decide) ?_
    exact lp_X6_as_1 C hm (by omega) (by omega) (fun q => ht (by omega)) (fun q => hf (by omega))
  · refine J.iload_n C dX6_as_39 rfl ?_
    exact J.iret C dX6_as_40 (ht (Or.inl (by omega)))
theorem und_t {k m : Nat} (hk : k ≤ 4) : und k m = true ↔ (k = m ∨ m = 0 ∨ (k = 3 ∧ m = 1) ∨ (k = 4 ∧ m = 2)) := by
  unfold und
  simp only [Bool.or_eq_true, Bool.and_eq_true, decide_eq_true_eq]
  omega
set_option maxHeartbeats 4000000 in
set_option maxRecDepth 100000 in
theorem ok_X6_as (l : Launch) (V : Vx) {g : Sg} {x1 : Int32} {o1 : Option Nat} {x2 : Int32} {o2 : Option Nat} (I : Nat → Nat → Int32) (L : Nat → Nat → Int64) (hx1 : AG x1 o1) (hx2 : AG x2 o2) (h : AbM I L g) (ok : okG g) : PM l V yX6_as wsX6_as 3 [.ref (ad V 85), .int x1, .int x2] I L (op_as g o1 o2) := by
  have hN := h.nm
  have h0 := hN.1
  have hm := hN.2.1
  have hl2 := ok.1.1
  have hl8 := ok.1.2.1
  have h40 := ok.1.2.2.1
  have hq := h.2.1.1
  have hq25 := ok.2.2.1
  have hB := AbM_be h ok
  have hb0 : beM I g.2.1.length 85 0 = nI g.1.1 := hB.1.1
  have hb1 : beM I g.2.1.length 85 1 = nI g.1.2.1 := hB.1.2.1
  refine Ok.of (cc := cX6_as) (maxL := 4) (ret := (some .int)) (by decide) rfl (Nat.le_of_ble_eq_true rfl) (fun X hnm C => ?_)
  have C : CX l X V RX6 cX6_as 4 wsX6_as 3 0 0 (some .int) := C
  refine J.cast (ls' := [(0, _), (1, _), (2, _)]) rfl rfl rfl rfl ?_
  refine J.aload_n C dX6_as_0 rfl ?_
  refine J.iload_n C dX6_as_1 rfl ?_
  refine J.cVDi (q := (RX6, TX6, 25)) (ci := 6) C (ok_X6_isComparer_o l V _ _ hx1 hm h40) gX6_as_X6_isComparer rfl mfX6_isComparer rfl (by decide) (by decide) (by first | decide | omega) rfl rfl rfl rfl (Nat.le_of_ble_eq_true rfl) dX6_as_2 (Nat.le_refl _) (Nat.le_refl _) ?_
  first | refine J.if_eq_b C dX6_as_5 (tgt := 17) (by decide) (fun c5t => ?_) (fun c5f => ?_) | refine J.if_eq_n C (by omega) dX6_as_5 (tgt := 17) (by decide) (fun c5t => ?_) (fun c5f => ?_) | refine J.if_eq C dX6_as_5 (tgt := 17) (by decide) (fun c5t => ?_) (fun c5f => ?_)
  · refine J.aload_n C dX6_as_17 rfl ?_
    refine J.iconst C dX6_as_18 (v := (-1)) (by decide) ?_
    refine J.cVDi (q := (RX6, TX6, 25)) (ci := 6) C (ok_X6_found l V _ _ _) gX6_as_X6_found rfl mfX6_found rfl (by decide) (by decide) (by first | decide | omega) rfl rfl rfl rfl (Nat.le_of_ble_eq_true rfl) dX6_as_19 (Nat.le_refl _) (Nat.le_refl _) ?_
    exact J.iret C dX6_as_22 (qM_s (by unfold op_as; rw [tb_0 (fun q => by first | exact tb_f.mp c5t q.1 | exact tb_f.mp c14f q.2)]; exact qM_F h))
  · refine J.iload_n C dX6_as_8 rfl ?_
    refine J.iconst C dX6_as_9 (v := (nI 0)) (by decide) ?_
    refine J.iconst C dX6_as_10 (v := (nI 4)) (by decide) ?_
    refine J.cSDi C (ok_X6_in_o l V 4 (by decide) _ _ hx2) gX6_as_X6_in rfl mfX6_in (by decide) (by decide) rfl rfl (Nat.le_of_ble_eq_true rfl) dX6_as_11 (Nat.le_refl _) (Nat.le_refl _) ?_
    first | refine J.if_ne_b C dX6_as_14 (tgt := 23) (by decide) (fun c14t => ?_) (fun c14f => ?_) | refine J.if_ne_n C (by omega) dX6_as_14 (tgt := 23) (by decide) (fun c14t => ?_) (fun c14f => ?_) | refine J.if_ne C dX6_as_14 (tgt := 23) (by decide) (fun c14t => ?_) (fun c14f => ?_)
    · obtain ⟨i, rfl, hi⟩ := tb_t.mp c5f
      obtain ⟨k, rfl, hk⟩ := tb_t.mp c14t
      obtain ⟨-, rfl⟩ := hx1
      obtain ⟨-, rfl⟩ := hx2
      unfold op_as
      rw [tb_1 (show inO (some i) g.1.2.1 ∧ inO (some k) 5 from ⟨tb_t.mp c5f, tb_t.mp c14t⟩)]
      have hnk := (hN.2.2 i hi).1
      have hk4 := (ok.1.2.2.2 i hi).1
      have ut := und_t (m := k) hk4
      refine J.aload_n C dX6_as_23 rfl ?_
      refine J.getR C flX6_as_13 (by first | decide | omega) rfl (by exact rfl) dX6_as_24 ?_
      refine J.iload_n C dX6_as_27 rfl ?_
      refine J.ia C (by first | exact rfl | assumption) (by first | exact rfl | exact rfl) (by first | (have h_ln := ln_all; omega) | omega) (by first | ((repeat (first | refine up2_rd (by decide) ?_ | refine up2_rm (by decide) ?_ | refine up3_rd (by decide) ?_)) <;> (first | exact up2_s _ _ _ _ | assumption | exact rfl))) dX6_as_28 ?_
      refine J.istore_n (ls' := [(0, _), (1, _), (2, _), (3, _)]) C dX6_as_29 (by decide) rfl ?_
      have gt : und (g.1.2.2 i).1 k = true → ∃ r' I'' L'', (some (Value.int (nI i)) : Option Value) = some (.int r') ∧ mm V I L = mm V I'' L'' ∧ qM I L (cond true (cond (und (g.1.2.2 ((some i).getD 0)).1 ((some k).getD 0)) (nI ((some i).getD 0), g) (-4, gF g)) (-1, gF g)) r' I'' L'' := fun q => by
        show ∃ r' I'' L'', _ ∧ _ ∧ qM I L (cond (und (g.1.2.2 i).1 k) (nI i, g) (-4, gF g)) r' I'' L''
        rw [q]
        exact qM_s ⟨rfl, h, frm_rfl, frmL_rfl⟩
      have gf : ¬ und (g.1.2.2 i).1 k = true → ∃ r' I'' L'', (some (Value.int (-4)) : Option Value) = some (.int r') ∧ mm V (fM I) L = mm V I'' L'' ∧ qM I L (cond true (cond (und (g.1.2.2 ((some i).getD 0)).1 ((some k).getD 0)) (nI ((some i).getD 0), g) (-4, gF g)) (-1, gF g)) r' I'' L'' := fun q => by
        show ∃ r' I'' L'', _ ∧ _ ∧ qM I L (cond (und (g.1.2.2 i).1 k) (nI i, g) (-4, gF g)) r' I'' L''
        rw [Bool.not_eq_true] at q
        rw [q]
        exact qM_s (qM_F h)
      rcases (show (g.1.2.2 i).1 = 0 ∨ (1 ≤ (g.1.2.2 i).1 ∧ (g.1.2.2 i).1 ≤ 2) ∨ 3 ≤ (g.1.2.2 i).1 by omega) with e | e | e
      · rw [e]
        refine lp_X6_as_0 C hk (fun q => gt (ut.mpr (by omega))) (fun q => gf (fun z => by have := ut.mp z; omega))
      · exact lp_X6_as_1 C hk e.1 e.2 (fun q => gt (ut.mpr (by omega))) (fun q => gf (fun z => by have := ut.mp z; omega))
      · exact lp_X6_as_3 C hk e hk4 (fun q => gt (ut.mpr (by omega))) (fun q => gf (fun z => by have := ut.mp z; omega))
    · refine J.aload_n C dX6_as_17 rfl ?_
      refine J.iconst C dX6_as_18 (v := (-1)) (by decide) ?_
      refine J.cVDi (q := (RX6, TX6, 25)) (ci := 6) C (ok_X6_found l V _ _ _) gX6_as_X6_found rfl mfX6_found rfl (by decide) (by decide) (by first | decide | omega) rfl rfl rfl rfl (Nat.le_of_ble_eq_true rfl) dX6_as_19 (Nat.le_refl _) (Nat.le_refl _) ?_
      exact J.iret C dX6_as_22 (qM_s (by unfold op_as; rw [tb_0 (fun q => by first | exact tb_f.mp c5t q.1 | exact tb_f.mp c14f q.2)]; exact qM_F h))
