/-! THE CLASS: idle, drop -/
set_option maxHeartbeats 4000000 in
set_option maxRecDepth 100000 in
theorem ok_X5_idle (l : Launch) (V : Vx) {g : Sg} {x1 : Int32} {o1 : Option Nat} (I : Nat → Nat → Int32) (L : Nat → Nat → Int64) (hx1 : AG x1 o1) (hz : V.2.2.2.2.2 = false) (h : AbC I L g) (ok : okG g) : PC l V yX5_idle wsX5_idle 4 [.ref (ad V 0), .int x1] I L (((sp_idle g.1 o1).1, gX (sp_idle g.1 o1).2 g g)) := by
  have hN := h.1
  have h0 := hN.1
  have hm := hN.2.1
  have hl2 := ok.1.1
  have hl8 := ok.1.2.1
  have h40 := ok.1.2.2.1
  refine Ok.of (cc := cX5_idle) (maxL := 2) (ret := (some .int)) (by decide) rfl (Nat.le_of_ble_eq_true rfl) (fun X hnm C => ?_)
  have C : CX l X V RX5 cX5_idle 2 wsX5_idle 4 0 0 (some .int) := C
  refine J.cast (ls' := [(0, _), (1, _)]) rfl rfl rfl rfl ?_
  refine J.aload_n C dX5_idle_0 rfl ?_
  refine J.getR C flX5_idle_10 (by first | decide | omega) rfl (by exact rfl) dX5_idle_1 ?_
  refine J.iload_n C dX5_idle_4 rfl ?_
  refine J.cVDi (q := (RX3, TX3, 3)) (ci := 3) C (ok_X3_has l V _ _ rfl hx1 hm h40) gX5_idle_X3_has rfl mfX3_has rfl (by decide) (by decide) (by first | decide | omega) (by first | exact rfl | exact mk_3 (by assumption)) rfl rfl rfl (Nat.le_of_ble_eq_true rfl) dX5_idle_5 (Nat.le_refl _) (Nat.le_refl _) ?_
  first | refine J.if_ne_b C dX5_idle_8 (tgt := 17) (by decide) (fun c8t => ?_) (fun c8f => ?_) | refine J.if_ne_n C (by omega) dX5_idle_8 (tgt := 17) (by decide) (fun c8t => ?_) (fun c8f => ?_) | refine J.if_ne C dX5_idle_8 (tgt := 17) (by decide) (fun c8t => ?_) (fun c8f => ?_)
  · obtain ⟨i, rfl, hi⟩ := tb_t.mp c8t
    obtain ⟨-, rfl⟩ := hx1
    have e : sp_idle g.1 (some i) = (bI (tb (Idl g.1 i)), false) := if_pos hi
    rw [e]
    refine J.aload_n C dX5_idle_17 rfl ?_
    refine J.cVGl (q := (RX5, TX5, 11)) (ci := 5) C (ok_X5_busyComparers l V _ _ ok.1 hN) gX5_idle_X5_busyComparers rfl mfX5_busyComparers rfl (by decide) (by decide) (by first | decide | omega) rfl rfl rfl rfl (Nat.le_of_ble_eq_true rfl) dX5_idle_18 (Nat.le_refl _) (Nat.le_refl _) (fun r18 I18 L18 h18 => ?_)
    obtain ⟨rfl, hf, hB⟩ := h18
    have hBi := hB i hi
    refine J.iload_n C dX5_idle_21 rfl ?_
    refine J.cSDi C (ok_X5_isIn l V _ _ (by omega)) gX5_idle_X5_isIn rfl mfX5_isIn (by decide) (by decide) rfl rfl (Nat.le_of_ble_eq_true rfl) dX5_idle_22 (Nat.le_refl _) (Nat.le_refl _) ?_
    first | refine J.if_eq_b C dX5_idle_25 (tgt := 32) (by decide) (fun c25t => ?_) (fun c25f => ?_) | refine J.if_eq_n C (by omega) dX5_idle_25 (tgt := 32) (by decide) (fun c25t => ?_) (fun c25f => ?_) | refine J.if_eq C dX5_idle_25 (tgt := 32) (by decide) (fun c25t => ?_) (fun c25f => ?_)
    · rw [tb_1 (show Idl g.1 i from Classical.byContradiction (fun q => by have y := hBi.mpr q; rw [c25t] at y; cases y))]
      refine J.iconst C dX5_idle_32 (v := (nI 1)) (by decide) ?_
      exact J.iret C dX5_idle_33 (qC_s (qC_rw h hf))
    · rw [tb_0 (hBi.mp c25f)]
      refine J.iconst C dX5_idle_28 (v := (nI 0)) (by decide) ?_
      refine J.goto C dX5_idle_29 (tgt := 33) (by decide) ?_
      exact J.iret C dX5_idle_33 (qC_s (qC_rw h hf))
  · have e : sp_idle g.1 o1 = (-1, true) := by
      cases o1 with
      | none => rfl
      | some i => exact if_neg (fun q => tb_f.mp c8f (inO_s.mpr q))
    rw [e]
    refine J.aload_n C dX5_idle_11 rfl ?_
    refine J.iconst C dX5_idle_12 (v := (-1)) (by decide) ?_
    refine J.cVDi (q := (RX5, TX5, 11)) (ci := 5) C (ok_X5_finding l V _ _ _) gX5_idle_X5_finding rfl mfX5_finding rfl (by decide) (by decide) (by first | decide | omega) rfl rfl rfl rfl (Nat.le_of_ble_eq_true rfl) dX5_idle_13 (Nat.le_refl _) (Nat.le_refl _) ?_
    exact J.iret C dX5_idle_16 (qC_s (qC_F h))
set_option maxHeartbeats 4000000 in
set_option maxRecDepth 100000 in
theorem lp_X5_drop {l : Launch} {X : Cx} {V : Vx} {P : Option Value → (Nat → va_E) → Prop} {I : Nat → Nat → Int32} {L : Nat → Nat → Int64} (C : CX l X V RX5 cX5_drop 5 wsX5_drop 4 0 0 (some .int)) {t : Nt} {x : Int64} (ok : okN t) (hB : ∀ j, j < t.2.1 → (bt x j = true ↔ ¬ Idl t j)) (hP : ∀ J0, netC J0 1 (t.1, t.2.1, (drR t t.2.1).2) → (∀ k, k ≠ 2 → J0 k = I k) → P (some (.int (nI (t.2.1 - (drR t t.2.1).1)))) (mm V (up2 J0 1 1 (nI (drR t t.2.1).1)) L)) : ∀ (z i w : Nat) (J0 : Nat → Nat → Int32), i + z = t.2.1 → w = (drR t i).1 → netC J0 1 (t.1, t.2.1, (drR t i).2) → (∀ k, k ≠ 2 → J0 k = I k) → E X V P 5 21 [(0, .ref (ad V 0)), (1, .long x), (3, .int (nI w)), (4, .int (nI i))] [] J0 L := by
  have h40 := ok.2.2.1
  have l2 : ln (1 + 1) = 40 := by decide +kernel
  intro z
  induction z with
  | zero =>
    intro i w J0 hi hw hn hf
    obtain rfl : i = t.2.1 := by omega
    subst hw
    have h1 : J0 1 1 = nI t.2.1 := hn.2.1
    have hle := drR_le (t := t) t.2.1
    refine J.iload C dX5_drop_21 rfl ?_
    refine J.aload_n C dX5_drop_23 rfl ?_
    refine J.getR C flX5_drop_10 (by first | decide | omega) rfl (by exact rfl) dX5_drop_24 ?_
    refine J.getI C flX5_drop_77 (by first | decide | omega) (by first | exact rfl | exact mk_3 (by assumption)) (by exact rfl) (by first | ((repeat (first | rewrite [up2_n _ _ _ (by first | decide | omega)] | rewrite [up2_m _ _ _ (by decide)] | rewrite [up3_n _ _ _ (by first | decide | omega)])) <;> (first | exact up2_s _ _ _ _ | exact up3_s _ _ _ _ | assumption | exact rfl))) dX5_drop_27 ?_
    first | refine J.icmp_ge_n C (by omega) (by omega) dX5_drop_30 (tgt := 70) (by decide) (fun _ => ?_) (fun c30 => absurd c30 (by first | omega | decide | simp_all)) | refine J.icmp_ge_xn C (by omega) dX5_drop_30 (tgt := 70) (by decide) (fun _ => ?_) (fun c30 => absurd c30 (by first | omega | decide | simp_all)) | refine J.icmp_ge_nx C (by omega) dX5_drop_30 (tgt := 70) (by decide) (fun _ => ?_) (fun c30 => absurd c30 (by first | omega | decide | simp_all)) | refine J.icmp_ge C dX5_drop_30 (tgt := 70) (by decide) (fun _ => ?_) (fun c30 => absurd c30 (by first | omega | decide | simp_all))
    refine J.aload_n C dX5_drop_70 rfl ?_
    refine J.getR C flX5_drop_10 (by first | decide | omega) rfl (by exact rfl) dX5_drop_71 ?_
    refine J.getI C flX5_drop_77 (by first | decide | omega) (by first | exact rfl | exact mk_3 (by assumption)) (by exact rfl) (by first | ((repeat (first | rewrite [up2_n _ _ _ (by first | decide | omega)] | rewrite [up2_m _ _ _ (by decide)] | rewrite [up3_n _ _ _ (by first | decide | omega)])) <;> (first | exact up2_s _ _ _ _ | exact up3_s _ _ _ _ | assumption | exact rfl))) dX5_drop_74 ?_
    refine J.iload_n C dX5_drop_77 rfl ?_
    first | refine J.isub_n C (by omega) dX5_drop_78 ?_ | refine J.isub C dX5_drop_78 ?_
    refine J.istore (ls' := [(0, _), (1, _), (3, _), (4, _)]) C dX5_drop_79 (by decide) rfl ?_
    refine J.aload_n C dX5_drop_81 rfl ?_
    refine J.getR C flX5_drop_10 (by first | decide | omega) rfl (by exact rfl) dX5_drop_82 ?_
    refine J.iload_n C dX5_drop_85 rfl ?_
    refine J.putI C fpX5_drop_77 (by first | decide | omega) (by first | exact rfl | exact mk_3 (by assumption)) (Nat.le_of_ble_eq_true rfl) (by first | exact mp_3_1 rfl | exact mp_3_1 (by assumption)) dX5_drop_86 ?_
    refine J.iload C dX5_drop_89 rfl ?_
    exact J.iret C dX5_drop_91 (hP J0 hn hf)
  | succ z ih =>
    intro i w J0 hi hw hn hf
    have h1 : J0 1 1 = nI t.2.1 := hn.2.1
    have hle := drR_le (t := t) i
    have hBi := hB i (by omega)
    have hi2 := hn.2.2 i (by show i < t.2.1; omega)
    rw [show (t.1, t.2.1, (drR t i).2).2.2 i = t.2.2 i from drR_ge i hle] at hi2
    refine J.iload C dX5_drop_21 rfl ?_
    refine J.aload_n C dX5_drop_23 rfl ?_
    refine J.getR C flX5_drop_10 (by first | decide | omega) rfl (by exact rfl) dX5_drop_24 ?_
    refine J.getI C flX5_drop_77 (by first | decide | omega) (by first | exact rfl | exact mk_3 (by assumption)) (by exact rfl) (by first | ((repeat (first | rewrite [up2_n _ _ _ (by first | decide | omega)] | rewrite [up2_m _ _ _ (by decide)] | rewrite [up3_n _ _ _ (by first | decide | omega)])) <;> (first | exact up2_s _ _ _ _ | exact up3_s _ _ _ _ | assumption | exact rfl))) dX5_drop_27 ?_
    first | refine J.icmp_ge_n C (by omega) (by omega) dX5_drop_30 (tgt := 70) (by decide) (fun c30 => absurd c30 (by first | omega | decide | simp_all)) (fun _ => ?_) | refine J.icmp_ge_xn C (by omega) dX5_drop_30 (tgt := 70) (by decide) (fun c30 => absurd c30 (by first | omega | decide | simp_all)) (fun _ => ?_) | refine J.icmp_ge_nx C (by omega) dX5_drop_30 (tgt := 70) (by decide) (fun c30 => absurd c30 (by first | omega | decide | simp_all)) (fun _ => ?_) | refine J.icmp_ge C dX5_drop_30 (tgt := 70) (by decide) (fun c30 => absurd c30 (by first | omega | decide | simp_all)) (fun _ => ?_)
    refine J.lload_n C dX5_drop_33 rfl ?_
    refine J.iload C dX5_drop_34 rfl ?_
    refine J.cSDi C (ok_X5_isIn l V _ _ (by omega)) gX5_drop_X5_isIn rfl mfX5_isIn (by decide) (by decide) rfl rfl (Nat.le_of_ble_eq_true rfl) dX5_drop_36 (Nat.le_refl _) (Nat.le_refl _) ?_
    first | refine J.if_eq_b C dX5_drop_39 (tgt := 64) (by decide) (fun c39t => ?_) (fun c39f => ?_) | refine J.if_eq_n C (by omega) dX5_drop_39 (tgt := 64) (by decide) (fun c39t => ?_) (fun c39f => ?_) | refine J.if_eq C dX5_drop_39 (tgt := 64) (by decide) (fun c39t => ?_) (fun c39f => ?_)
    · have e1 : drR t (i + 1) = drR t i := by show cond (tb (Idl t i)) _ _ = _; rw [tb_1 (Classical.byContradiction (fun q => by have y := hBi.mpr q; rw [c39t] at y; cases y))]; rfl
      refine J.iinc (ls' := [(0, _), (1, _), (3, _), (4, _)]) C dX5_drop_64 rfl (by first | exact nI_inc _ 1 | exact rfl) (by decide) rfl ?_
      refine J.goto C dX5_drop_67 (tgt := 21) (by decide) ?_
      exact ih (i + 1) w J0 (by omega) (by rw [e1]; exact hw) (by rw [e1]; exact hn) hf
    · have e1 : drR t (i + 1) = ((drR t i).1 + 1, va_up (drR t i).2 (drR t i).1 (t.2.2 i)) := by show cond (tb (Idl t i)) _ _ = _; rw [tb_0 (hBi.mp c39f)]; rfl
      refine J.aload_n C dX5_drop_42 rfl ?_
      refine J.getR C flX5_drop_10 (by first | decide | omega) rfl (by exact rfl) dX5_drop_43 ?_
      refine J.getR C flX5_drop_218 (by first | decide | omega) (by first | exact rfl | exact mk_3 (by assumption)) (by exact rfl) dX5_drop_46 ?_
      refine J.iload_n C dX5_drop_49 rfl ?_
      refine J.aload_n C dX5_drop_50 rfl ?_
      refine J.getR C flX5_drop_10 (by first | decide | omega) rfl (by exact rfl) dX5_drop_51 ?_
      refine J.getR C flX5_drop_218 (by first | decide | omega) (by first | exact rfl | exact mk_3 (by assumption)) (by exact rfl) dX5_drop_54 ?_
      refine J.iload C dX5_drop_57 rfl ?_
      refine J.ia C (by first | exact rfl | assumption) (by first | exact rfl | exact rfl) (by first | omega | omega) (by first | ((repeat (first | rewrite [up2_n _ _ _ (by first | decide | omega)] | rewrite [up2_m _ _ _ (by decide)] | rewrite [up3_n _ _ _ (by first | decide | omega)])) <;> (first | exact up2_s _ _ _ _ | exact up3_s _ _ _ _ | assumption | exact rfl))) dX5_drop_59 ?_
      refine J.ias C (by first | exact rfl | assumption) (by first | exact rfl | exact rfl) (by first | omega | omega) dX5_drop_60 ?_
      refine J.iinc (ls' := [(0, _), (1, _), (3, _), (4, _)]) C dX5_drop_61 rfl (by first | exact nI_inc _ 1 | exact rfl) (by decide) rfl ?_
      refine J.iinc (ls' := [(0, _), (1, _), (3, _), (4, _)]) C dX5_drop_64 rfl (by first | exact nI_inc _ 1 | exact rfl) (by decide) rfl ?_
      refine J.goto C dX5_drop_67 (tgt := 21) (by decide) ?_
      refine ih (i + 1) _ _ (by omega) (by rw [e1, hw]) ?_ (fun q a => by rw [up2_n _ _ _ a]; exact hf q a)
      rw [e1]
      subst hw
      exact netC_set (t := (t.1, t.2.1, (drR t i).2)) (n := t.2.1) (i := (drR t i).1) (x := t.2.2 i) hn (by rw [up2_n _ _ _ (by decide)]) (by rw [up2_n _ _ _ (by decide)]; exact h1) (fun j q => Or.inr q) (fun j q => up2_m _ _ _ q) (up2_s _ _ _ _)
set_option maxHeartbeats 4000000 in
set_option maxRecDepth 100000 in
theorem ok_X5_drop (l : Launch) (V : Vx) {g : Sg}  (I : Nat → Nat → Int32) (L : Nat → Nat → Int64)  (hz : V.2.2.2.2.2 = false) (h : AbC I L g) (ok : okG g) : PC l V yX5_drop wsX5_drop 4 [.ref (ad V 0)] I L (op_drop g) := by
  have hN := h.1
  have h0 := hN.1
  have hm := hN.2.1
  have hl2 := ok.1.1
  have hl8 := ok.1.2.1
  have h40 := ok.1.2.2.1
  have hle := drR_le (t := g.1) g.1.2.1
  refine Ok.of (cc := cX5_drop) (maxL := 5) (ret := (some .int)) (by decide) rfl (Nat.le_of_ble_eq_true rfl) (fun X hnm C => ?_)
  have C : CX l X V RX5 cX5_drop 5 wsX5_drop 4 0 0 (some .int) := C
  refine J.cast (ls' := [(0, _)]) rfl rfl rfl rfl ?_
  refine J.aload_n C dX5_drop_0 rfl ?_
  refine J.cVGl (q := (RX5, TX5, 11)) (ci := 5) C (ok_X5_busyComparers l V _ _ ok.1 hN) gX5_drop_X5_busyComparers rfl mfX5_busyComparers rfl (by decide) (by decide) (by first | decide | omega) rfl rfl rfl rfl (Nat.le_of_ble_eq_true rfl) dX5_drop_1 (Nat.le_refl _) (Nat.le_refl _) (fun r1 I1 L1 h1 => ?_)
  obtain ⟨rfl, hf, hBB⟩ := h1
  have hR := AbC_rw h hf
  refine J.lstore_n (ls' := [(0, _), (1, _)]) C dX5_drop_4 (by decide) rfl ?_
  refine J.aload_n C dX5_drop_5 rfl ?_
  refine J.getR C flX5_drop_23 (by first | decide | omega) rfl (by exact rfl) dX5_drop_6 ?_
  refine J.aload_n C dX5_drop_9 rfl ?_
  refine J.getR C flX5_drop_10 (by first | decide | omega) rfl (by exact rfl) dX5_drop_10 ?_
  refine J.cVGv (q := (RX2, TX2, 3)) (ci := 2) C (ok_X2_remember l V _ _ hz hR ok) gX5_drop_X2_remember rfl mfX2_remember rfl (by decide) (by decide) (by first | decide | omega) rfl rfl rfl rfl (Nat.le_of_ble_eq_true rfl) dX5_drop_13 (Nat.le_refl _) (Nat.le_refl _) (fun I13 L13 h13 => ?_)
  obtain ⟨hB, hfr, hLL⟩ := h13
  subst hLL
  refine J.iconst C dX5_drop_16 (v := (nI 0)) (by decide) ?_
  refine J.istore_n (ls' := [(0, _), (1, _), (3, _)]) C dX5_drop_17 (by decide) rfl ?_
  refine J.iconst C dX5_drop_18 (v := (nI 0)) (by decide) ?_
  refine J.istore (ls' := [(0, _), (1, _), (3, _), (4, _)]) C dX5_drop_19 (by decide) rfl ?_
  refine lp_X5_drop C ok.1 hBB (I := I13) (fun J0 hn hf0 => ?_) g.1.2.1 0 0 _ (by omega) rfl hB.1 (fun _ _ => rfl)
  exact qC_s ⟨rfl, AbC_net hB (t := (g.1.1, (drR g.1 g.1.2.1).1, (drR g.1 g.1.2.1).2)) ⟨by rw [up2_m _ _ _ (by decide)]; exact hn.1, up2_s _ _ _ _, fun i hi => by rw [up2_n _ _ _ (by decide)]; exact hn.2.2 i (Nat.lt_of_lt_of_le hi hle)⟩ (fun q a b c => by rw [up2_n _ _ _ a]; exact hf0 q b), fun q a => by rw [up2_n _ _ _ (by omega), hf0 q (by omega)]; exact hfr q a, fun q a => hf q (by omega) (by omega)⟩
