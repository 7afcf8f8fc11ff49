/-! THE CLASS: turn -/
set_option maxHeartbeats 4000000 in
set_option maxRecDepth 100000 in
theorem ok_X5_changesPlaces (l : Launch) (V : Vx) {k a b : Nat} (I : Nat → Nat → Int32) (L : Nat → Nat → Int64) (hk : k < 4) (h2 : k ≠ 2) (ha : a < 8) (hb : b < 8) : Di l V yX5_changesPlaces wsX5_changesPlaces 1 [.int (nI k), .int (nI a), .int (nI b)] I L (bI (swp k a b)) I L := by
  refine Ok.of (cc := cX5_changesPlaces) (maxL := 3) (ret := (some .boolean)) (by decide) rfl (Nat.le_of_ble_eq_true rfl) (fun X hnm C => ?_)
  have C : CX l X V RX5 cX5_changesPlaces 3 wsX5_changesPlaces 1 0 0 (some .boolean) := C
  refine J.cast (ls' := [(0, _), (1, _), (2, _)]) rfl rfl rfl rfl ?_
  refine J.iload_n C dX5_changesPlaces_0 rfl ?_
  rcases (show k = 0 ∨ k = 1 ∨ k = 3 by omega) with e | e | e <;> subst e
  · refine J.look C dX5_changesPlaces_1 (off := 27) (by decide) (by decide) (tgt := 28) (by decide) ?_
    refine J.iload_n C dX5_changesPlaces_28 rfl ?_
    refine J.iload_n C dX5_changesPlaces_29 rfl ?_
    first | refine J.icmp_le_n C (by omega) (by omega) dX5_changesPlaces_30 (tgt := 37) (by decide) (fun c30t => ?_) (fun c30f => ?_) | refine J.icmp_le_xn C (by omega) dX5_changesPlaces_30 (tgt := 37) (by decide) (fun c30t => ?_) (fun c30f => ?_) | refine J.icmp_le_nx C (by omega) dX5_changesPlaces_30 (tgt := 37) (by decide) (fun c30t => ?_) (fun c30f => ?_) | refine J.icmp_le C dX5_changesPlaces_30 (tgt := 37) (by decide) (fun c30t => ?_) (fun c30f => ?_)
    · have e : swp 0 a b = false := by unfold swp; simp; omega
      refine J.iconst C dX5_changesPlaces_37 (v := (nI 0)) (by decide) ?_
      exact J.zret C dX5_changesPlaces_38 (by first | exact bI_nar _ | rfl | decide | assumption) ⟨rb_f e, rfl⟩
    · have e : swp 0 a b = true := by unfold swp; simp; omega
      refine J.iconst C dX5_changesPlaces_33 (v := (nI 1)) (by decide) ?_
      refine J.goto C dX5_changesPlaces_34 (tgt := 38) (by decide) ?_
      exact J.zret C dX5_changesPlaces_38 (by first | exact bI_nar _ | rfl | decide | assumption) ⟨rb_t e, rfl⟩
  · refine J.look C dX5_changesPlaces_1 (off := 38) (by decide) (by decide) (tgt := 39) (by decide) ?_
    refine J.iload_n C dX5_changesPlaces_39 rfl ?_
    refine J.iload_n C dX5_changesPlaces_40 rfl ?_
    first | refine J.icmp_le_n C (by omega) (by omega) dX5_changesPlaces_41 (tgt := 48) (by decide) (fun c41t => ?_) (fun c41f => ?_) | refine J.icmp_le_xn C (by omega) dX5_changesPlaces_41 (tgt := 48) (by decide) (fun c41t => ?_) (fun c41f => ?_) | refine J.icmp_le_nx C (by omega) dX5_changesPlaces_41 (tgt := 48) (by decide) (fun c41t => ?_) (fun c41f => ?_) | refine J.icmp_le C dX5_changesPlaces_41 (tgt := 48) (by decide) (fun c41t => ?_) (fun c41f => ?_)
    · have e : swp 1 a b = false := by unfold swp; simp; omega
      refine J.iconst C dX5_changesPlaces_48 (v := (nI 0)) (by decide) ?_
      exact J.zret C dX5_changesPlaces_49 (by first | exact bI_nar _ | rfl | decide | assumption) ⟨rb_f e, rfl⟩
    · have e : swp 1 a b = true := by unfold swp; simp; omega
      refine J.iconst C dX5_changesPlaces_44 (v := (nI 1)) (by decide) ?_
      refine J.goto C dX5_changesPlaces_45 (tgt := 49) (by decide) ?_
      exact J.zret C dX5_changesPlaces_49 (by first | exact bI_nar _ | rfl | decide | assumption) ⟨rb_t e, rfl⟩
  · refine J.look C dX5_changesPlaces_1 (off := 49) (by decide) (by decide) (tgt := 50) (by decide) ?_
    refine J.iload_n C dX5_changesPlaces_50 rfl ?_
    refine J.iconst C dX5_changesPlaces_51 (v := (nI 3)) (by decide) ?_
    first | refine J.icmp_ne_n C (by omega) (by omega) dX5_changesPlaces_52 (tgt := 59) (by decide) (fun c52 => absurd c52 (by first | omega | decide | simp_all)) (fun _ => ?_) | refine J.icmp_ne_xn C (by omega) dX5_changesPlaces_52 (tgt := 59) (by decide) (fun c52 => absurd c52 (by first | omega | decide | simp_all)) (fun _ => ?_) | refine J.icmp_ne_nx C (by omega) dX5_changesPlaces_52 (tgt := 59) (by decide) (fun c52 => absurd c52 (by first | omega | decide | simp_all)) (fun _ => ?_) | refine J.icmp_ne C dX5_changesPlaces_52 (tgt := 59) (by decide) (fun c52 => absurd c52 (by first | omega | decide | simp_all)) (fun _ => ?_)
    refine J.iconst C dX5_changesPlaces_55 (v := (nI 1)) (by decide) ?_
    refine J.goto C dX5_changesPlaces_56 (tgt := 60) (by decide) ?_
    exact J.zret C dX5_changesPlaces_60 (by first | exact bI_nar _ | rfl | decide | assumption) ⟨rb_t rfl, rfl⟩
theorem actK_lt {c : Cmp} (h : okB c) : actK c < 4 := by
  have := h.1
  unfold actK
  split
  · split <;> omega
  · omega
set_option maxHeartbeats 4000000 in
set_option maxRecDepth 100000 in
theorem lp_X5_turn_a {l : Launch} {X : Cx} {V : Vx} {P : Option Value → (Nat → va_E) → Prop} {I : Nat → Nat → Int32} {L : Nat → Nat → Int64} (C : CX l X V RX5 cX5_turn 8 wsX5_turn 3 0 0 (some .int)) {t : Nt} (ok : okN t) (hN : netC I 1 t) (hP : (∃ i, i < t.2.1 ∧ actK (t.2.2 i) = 2) → P (some (.int (-7))) (mm V (fC I) L)) (hx : (¬ ∃ i, i < t.2.1 ∧ actK (t.2.2 i) = 2) → E X V P 8 38 [(0, .ref (ad V 0)), (1, .int (nI t.2.1))] [] I L) : ∀ (k i : Nat), i + k = t.2.1 → (∀ j, j < i → ¬ actK (t.2.2 j) = 2) → E X V P 8 2 [(0, .ref (ad V 0)), (1, .int (nI i))] [] I L := by
  have h40 := ok.2.2.1
  have hl8 := ok.2.1
  have h1 := hN.2.1
  intro k
  induction k with
  | zero =>
    intro i hi hj
    obtain rfl : i = t.2.1 := by omega
    refine J.iload_n C dX5_turn_2 rfl ?_
    refine J.aload_n C dX5_turn_3 rfl ?_
    refine J.getR C flX5_turn_10 (by first | decide | omega) rfl (by exact rfl) dX5_turn_4 ?_
    refine J.getI C flX5_turn_77 (by first | decide | omega) (by first | exact rfl | exact mk_3 (by assumption)) (by exact rfl) (by first | ((repeat (first | rewrite [up2_n _ _ _ (by first | decide | omega)] | rewrite [up2_m _ _ _ (by decide)] | rewrite [up3_n _ _ _ (by first | decide | omega)])) <;> (first | exact up2_s _ _ _ _ | exact up3_s _ _ _ _ | assumption | exact rfl))) dX5_turn_7 ?_
    first | refine J.icmp_ge_n C (by omega) (by omega) dX5_turn_10 (tgt := 38) (by decide) (fun _ => ?_) (fun c10 => absurd c10 (by first | omega | decide | simp_all)) | refine J.icmp_ge_xn C (by omega) dX5_turn_10 (tgt := 38) (by decide) (fun _ => ?_) (fun c10 => absurd c10 (by first | omega | decide | simp_all)) | refine J.icmp_ge_nx C (by omega) dX5_turn_10 (tgt := 38) (by decide) (fun _ => ?_) (fun c10 => absurd c10 (by first | omega | decide | simp_all)) | refine J.icmp_ge C dX5_turn_10 (tgt := 38) (by decide) (fun _ => ?_) (fun c10 => absurd c10 (by first | omega | decide | simp_all))
    exact hx (fun ⟨j, a, b⟩ => hj j a b)
  | succ k ih =>
    intro i hi hj
    have hcB := okC_B (ok.2.2.2 i (by omega)) hl8
    have hi2 := hN.2.2 i (by omega)
    have ha4 := actK_lt hcB
    refine J.iload_n C dX5_turn_2 rfl ?_
    refine J.aload_n C dX5_turn_3 rfl ?_
    refine J.getR C flX5_turn_10 (by first | decide | omega) rfl (by exact rfl) dX5_turn_4 ?_
    refine J.getI C flX5_turn_77 (by first | decide | omega) (by first | exact rfl | exact mk_3 (by assumption)) (by exact rfl) (by first | ((repeat (first | rewrite [up2_n _ _ _ (by first | decide | omega)] | rewrite [up2_m _ _ _ (by decide)] | rewrite [up3_n _ _ _ (by first | decide | omega)])) <;> (first | exact up2_s _ _ _ _ | exact up3_s _ _ _ _ | assumption | exact rfl))) dX5_turn_7 ?_
    first | refine J.icmp_ge_n C (by omega) (by omega) dX5_turn_10 (tgt := 38) (by decide) (fun c10 => absurd c10 (by first | omega | decide | simp_all)) (fun _ => ?_) | refine J.icmp_ge_xn C (by omega) dX5_turn_10 (tgt := 38) (by decide) (fun c10 => absurd c10 (by first | omega | decide | simp_all)) (fun _ => ?_) | refine J.icmp_ge_nx C (by omega) dX5_turn_10 (tgt := 38) (by decide) (fun c10 => absurd c10 (by first | omega | decide | simp_all)) (fun _ => ?_) | refine J.icmp_ge C dX5_turn_10 (tgt := 38) (by decide) (fun c10 => absurd c10 (by first | omega | decide | simp_all)) (fun _ => ?_)
    refine J.aload_n C dX5_turn_13 rfl ?_
    refine J.getR C flX5_turn_10 (by first | decide | omega) rfl (by exact rfl) dX5_turn_14 ?_
    refine J.iload_n C dX5_turn_17 rfl ?_
    refine J.cVDi (q := (RX3, TX3, 3)) (ci := 3) C (ok_X3_actingKind l V _ _ rfl (by omega) hcB hi2) gX5_turn_X3_actingKind rfl mfX3_actingKind rfl (by decide) (by decide) (by first | decide | omega) (by first | exact rfl | exact mk_3 (by assumption)) rfl rfl rfl (Nat.le_of_ble_eq_true rfl) dX5_turn_18 (Nat.le_refl _) (Nat.le_refl _) ?_
    refine J.iconst C dX5_turn_21 (v := (nI 2)) (by decide) ?_
    first | refine J.icmp_ne_n C (by omega) (by omega) dX5_turn_22 (tgt := 32) (by decide) (fun c22t => ?_) (fun c22f => ?_) | refine J.icmp_ne_xn C (by omega) dX5_turn_22 (tgt := 32) (by decide) (fun c22t => ?_) (fun c22f => ?_) | refine J.icmp_ne_nx C (by omega) dX5_turn_22 (tgt := 32) (by decide) (fun c22t => ?_) (fun c22f => ?_) | refine J.icmp_ne C dX5_turn_22 (tgt := 32) (by decide) (fun c22t => ?_) (fun c22f => ?_)
    · refine J.iinc (ls' := [(0, _), (1, _)]) C dX5_turn_32 rfl (by first | exact nI_inc _ 1 | exact rfl) (by decide) rfl ?_
      refine J.goto C dX5_turn_35 (tgt := 2) (by decide) ?_
      exact ih (i + 1) (by omega) (fun j q => by rcases (show j < i ∨ j = i by omega) with z | z; exact hj j z; rw [z]; omega)
    · refine J.aload_n C dX5_turn_25 rfl ?_
      refine J.bipush C dX5_turn_26 (v := (-7)) (by decide) ?_
      refine J.cVDi (q := (RX5, TX5, 11)) (ci := 5) C (ok_X5_finding l V _ _ _) gX5_turn_X5_finding rfl mfX5_finding rfl (by decide) (by decide) (by first | decide | omega) rfl rfl rfl rfl (Nat.le_of_ble_eq_true rfl) dX5_turn_28 (Nat.le_refl _) (Nat.le_refl _) ?_
      exact J.iret C dX5_turn_31 (hP ⟨i, by omega, by omega⟩)
set_option maxHeartbeats 4000000 in
set_option maxRecDepth 100000 in
theorem lp_X5_turn_b {l : Launch} {X : Cx} {V : Vx} {P : Option Value → (Nat → va_E) → Prop} {I : Nat → Nat → Int32} {L : Nat → Nat → Int64} (C : CX l X V RX5 cX5_turn 8 wsX5_turn 3 0 0 (some .int)) (hx : ∀ J0, (∀ k, k ≠ 63 → J0 k = I k) → (∀ x, x < 8 → J0 63 x = nI x) → E X V P 8 70 [(0, .ref (ad V 0)), (1, .int (nI 8))] [] J0 L) : ∀ (k i : Nat) (J0 : Nat → Nat → Int32), i + k = 8 → (∀ k, k ≠ 63 → J0 k = I k) → (∀ x, x < i → J0 63 x = nI x) → E X V P 8 51 [(0, .ref (ad V 0)), (1, .int (nI i))] [] J0 L := by
  have h63 : ln 63 = 8 := by decide +kernel
  intro k
  induction k with
  | zero =>
    intro i J0 hi hf hx0
    obtain rfl : i = 8 := by omega
    refine J.iload_n C dX5_turn_51 rfl ?_
    refine J.bipush C dX5_turn_52 (v := (nI 8)) (by decide) ?_
    first | refine J.icmp_ge_n C (by omega) (by omega) dX5_turn_54 (tgt := 70) (by decide) (fun _ => ?_) (fun c54 => absurd c54 (by first | omega | decide | simp_all)) | refine J.icmp_ge_xn C (by omega) dX5_turn_54 (tgt := 70) (by decide) (fun _ => ?_) (fun c54 => absurd c54 (by first | omega | decide | simp_all)) | refine J.icmp_ge_nx C (by omega) dX5_turn_54 (tgt := 70) (by decide) (fun _ => ?_) (fun c54 => absurd c54 (by first | omega | decide | simp_all)) | refine J.icmp_ge C dX5_turn_54 (tgt := 70) (by decide) (fun _ => ?_) (fun c54 => absurd c54 (by first | omega | decide | simp_all))
    exact hx J0 hf hx0
  | succ k ih =>
    intro i J0 hi hf hx0
    refine J.iload_n C dX5_turn_51 rfl ?_
    refine J.bipush C dX5_turn_52 (v := (nI 8)) (by decide) ?_
    first | refine J.icmp_ge_n C (by omega) (by omega) dX5_turn_54 (tgt := 70) (by decide) (fun c54 => absurd c54 (by first | omega | decide | simp_all)) (fun _ => ?_) | refine J.icmp_ge_xn C (by omega) dX5_turn_54 (tgt := 70) (by decide) (fun c54 => absurd c54 (by first | omega | decide | simp_all)) (fun _ => ?_) | refine J.icmp_ge_nx C (by omega) dX5_turn_54 (tgt := 70) (by decide) (fun c54 => absurd c54 (by first | omega | decide | simp_all)) (fun _ => ?_) | refine J.icmp_ge C dX5_turn_54 (tgt := 70) (by decide) (fun c54 => absurd c54 (by first | omega | decide | simp_all)) (fun _ => ?_)
    refine J.aload_n C dX5_turn_57 rfl ?_
    refine J.getR C flX5_turn_50 (by first | decide | omega) rfl (by exact rfl) dX5_turn_58 ?_
    refine J.iload_n C dX5_turn_61 rfl ?_
    refine J.iload_n C dX5_turn_62 rfl ?_
    refine J.ias C (by first | exact rfl | assumption) (by first | exact rfl | exact rfl) (by first | omega | omega) dX5_turn_63 ?_
    refine J.iinc (ls' := [(0, _), (1, _)]) C dX5_turn_64 rfl (by first | exact nI_inc _ 1 | exact rfl) (by decide) rfl ?_
    refine J.goto C dX5_turn_67 (tgt := 51) (by decide) ?_
    refine ih (i + 1) _ (by omega) (fun q a => by rw [up2_n _ _ _ a]; exact hf q a) (fun x q => ?_)
    by_cases e : x = i
    · subst e; exact up2_s _ _ _ _
    · rw [up2_m _ _ _ e]; exact hx0 x (by omega)
theorem tuR_1 {f : Nat → Cmp} {i : Nat} : (tuR f (i + 1)).1 = cond (decide (actK (f i) = 3)) (tuR f i).1 ((tuR f i).1 + 1) := rfl
theorem tuR_2 {f : Nat → Cmp} {i : Nat} : (tuR f (i + 1)).2.1 = cond (decide (actK (f i) = 3)) (tuR f i).2.1 (va_up (tuR f i).2.1 (tuR f i).1 (0, min ((tuR f i).2.2 (f i).2.1) ((tuR f i).2.2 (f i).2.2.1), max ((tuR f i).2.2 (f i).2.1) ((tuR f i).2.2 (f i).2.2.1), false)) := rfl
theorem tuR_3 {f : Nat → Cmp} {i : Nat} : (tuR f (i + 1)).2.2 = cond (swp (actK (f i)) ((tuR f i).2.2 (f i).2.1) ((tuR f i).2.2 (f i).2.2.1)) (va_up (va_up (tuR f i).2.2 (f i).2.1 ((tuR f i).2.2 (f i).2.2.1)) (f i).2.2.1 ((tuR f i).2.2 (f i).2.1)) (tuR f i).2.2 := rfl
def TuC (t : Nt) (i : Nat) (I J0 : Nat → Nat → Int32) : Prop := (∀ k, k ≠ 2 → k ≠ 63 → J0 k = I k) ∧ netC J0 1 (t.1, t.2.1, (tuR t.2.2 i).2.1) ∧ ∀ x, x < 8 → J0 63 x = nI ((tuR t.2.2 i).2.2 x)
set_option maxHeartbeats 4000000 in
set_option maxRecDepth 100000 in
theorem lp_X5_turn_c {l : Launch} {X : Cx} {V : Vx} {P : Option Value → (Nat → va_E) → Prop} {I : Nat → Nat → Int32} {L : Nat → Nat → Int64} (C : CX l X V RX5 cX5_turn 8 wsX5_turn 3 0 0 (some .int)) {t : Nt} (ok : okN t) (hno : ∀ j, j < t.2.1 → ¬ actK (t.2.2 j) = 2) (hP : ∀ J0, TuC t t.2.1 I J0 → P (some (.int (nI (tuR t.2.2 t.2.1).1))) (mm V (up2 J0 1 1 (nI (tuR t.2.2 t.2.1).1)) L)) : ∀ (k i w : Nat) (J0 : Nat → Nat → Int32), i + k = t.2.1 → w = (tuR t.2.2 i).1 → TuC t i I J0 → E X V P 8 74 [(0, .ref (ad V 0)), (1, .int (nI w)), (2, .int (nI i))] [] J0 L := by
  have h63 : ln 63 = 8 := by decide +kernel
  have h40 := ok.2.2.1
  have hl8 := ok.2.1
  intro k
  induction k with
  | zero =>
    intro i w J0 hi hw hT
    obtain rfl : i = t.2.1 := by omega
    subst hw
    have h1 : J0 1 1 = nI t.2.1 := hT.2.1.2.1
    refine J.iload_n C dX5_turn_74 rfl ?_
    refine J.aload_n C dX5_turn_75 rfl ?_
    refine J.getR C flX5_turn_10 (by first | decide | omega) rfl (by exact rfl) dX5_turn_76 ?_
    refine J.getI C flX5_turn_77 (by first | decide | omega) (by first | exact rfl | exact mk_3 (by assumption)) (by exact rfl) (by first | ((repeat (first | rewrite [up2_n _ _ _ (by first | decide | omega)] | rewrite [up2_m _ _ _ (by decide)] | rewrite [up3_n _ _ _ (by first | decide | omega)])) <;> (first | exact up2_s _ _ _ _ | exact up3_s _ _ _ _ | assumption | exact rfl))) dX5_turn_79 ?_
    first | refine J.icmp_ge_n C (by omega) (by omega) dX5_turn_82 (tgt := 198) (by decide) (fun _ => ?_) (fun c82 => absurd c82 (by first | omega | decide | simp_all)) | refine J.icmp_ge_xn C (by omega) dX5_turn_82 (tgt := 198) (by decide) (fun _ => ?_) (fun c82 => absurd c82 (by first | omega | decide | simp_all)) | refine J.icmp_ge_nx C (by omega) dX5_turn_82 (tgt := 198) (by decide) (fun _ => ?_) (fun c82 => absurd c82 (by first | omega | decide | simp_all)) | refine J.icmp_ge C dX5_turn_82 (tgt := 198) (by decide) (fun _ => ?_) (fun c82 => absurd c82 (by first | omega | decide | simp_all))
    refine J.aload_n C dX5_turn_198 rfl ?_
    refine J.getR C flX5_turn_10 (by first | decide | omega) rfl (by exact rfl) dX5_turn_199 ?_
    refine J.iload_n C dX5_turn_202 rfl ?_
    refine J.putI C fpX5_turn_77 (by first | decide | omega) (by first | exact rfl | exact mk_3 (by assumption)) (Nat.le_of_ble_eq_true rfl) (by first | exact mp_3_1 rfl | exact mp_3_1 (by assumption)) dX5_turn_203 ?_
    refine J.iload_n C dX5_turn_206 rfl ?_
    exact J.iret C dX5_turn_207 (hP J0 hT)
  | succ k ih =>
    intro i w J0 hi hw hT
    have hle := tuR_le (f := t.2.2) i
    have hc := ok.2.2.2 i (by omega)
    have hcB := okC_B hc hl8
    have ha4 := actK_lt hcB
    have ha2 := hno i (by omega)
    obtain ⟨hc1, hc2, hc3, hc4⟩ := hc
    have h1 : J0 1 1 = nI t.2.1 := hT.2.1.2.1
    have hi2 := hT.2.1.2.2 i (by show i < t.2.1; omega)
    rw [show (t.1, t.2.1, (tuR t.2.2 i).2.1).2.2 i = t.2.2 i from tuR_ge i hle] at hi2
    obtain ⟨tp, -⟩ := tuR_p ok i (by omega)
    have la := tp (t.2.2 i).2.1 (by omega)
    have lb := tp (t.2.2 i).2.2.1 hc3
    have hxa := hT.2.2 (t.2.2 i).2.1 (by omega)
    have hxb := hT.2.2 (t.2.2 i).2.2.1 (by omega)
    have fin : ∀ (w' : Nat) (J1 J2 : Nat → Nat → Int32), w' = (tuR t.2.2 (i + 1)).1 → (∀ k, k ≠ 2 → J1 k = J0 k) → netC J1 1 (t.1, t.2.1, (tuR t.2.2 (i + 1)).2.1) → (∀ k, k ≠ 63 → J2 k = J1 k) → (∀ x, x < 8 → J2 63 x = nI ((tuR t.2.2 (i + 1)).2.2 x)) → E X V P 8 74 [(0, .ref (ad V 0)), (1, .int (nI w')), (2, .int (nI (i + 1)))] [] J2 L := fun w' J1 J2 e0 e1 e2 e3 e4 => ih (i + 1) w' J2 (by omega) e0 ⟨fun q a b => by rw [e3 q b, e1 q a]; exact hT.1 q a b, netC_of e2 (e3 1 (by decide)) (e3 2 (by decide)), e4⟩
    have n3 : actK (t.2.2 i) = 3 → (tuR t.2.2 (i + 1)).1 = w ∧ (tuR t.2.2 (i + 1)).2.1 = (tuR t.2.2 i).2.1 := fun e => by rw [tuR_1, tuR_2, decide_eq_true e, hw]; exact ⟨rfl, rfl⟩
    have n4 : ¬ actK (t.2.2 i) = 3 → (tuR t.2.2 (i + 1)).1 = w + 1 ∧ (tuR t.2.2 (i + 1)).2.1 = va_up (tuR t.2.2 i).2.1 w (0, min ((tuR t.2.2 i).2.2 (t.2.2 i).2.1) ((tuR t.2.2 i).2.2 (t.2.2 i).2.2.1), max ((tuR t.2.2 i).2.2 (t.2.2 i).2.1) ((tuR t.2.2 i).2.2 (t.2.2 i).2.2.1), false) := fun e => by rw [tuR_1, tuR_2, decide_eq_false e, hw]; exact ⟨rfl, rfl⟩
    have sw : ∀ J : Nat → Nat → Int32, J 63 = J0 63 → swp (actK (t.2.2 i)) ((tuR t.2.2 i).2.2 (t.2.2 i).2.1) ((tuR t.2.2 i).2.2 (t.2.2 i).2.2.1) = true → ∀ x, x < 8 → up2 (up2 J 63 (t.2.2 i).2.1 (nI ((tuR t.2.2 i).2.2 (t.2.2 i).2.2.1))) 63 (t.2.2 i).2.2.1 (nI ((tuR t.2.2 i).2.2 (t.2.2 i).2.1)) 63 x = nI ((tuR t.2.2 (i + 1)).2.2 x) := fun J hJ hs x hx => by
      rw [tuR_3, hs]
      show _ = nI (va_up (va_up _ _ _) _ _ x)
      by_cases e : x = (t.2.2 i).2.2.1
      · rw [e, up2_s, va_up_self]
      · rw [up2_m _ _ _ e, va_up_ne _ _ e]
        by_cases e' : x = (t.2.2 i).2.1
        · rw [e', up2_s, va_up_self]
        · rw [up2_m _ _ _ e', va_up_ne _ _ e', hJ]
          exact hT.2.2 x hx
    have sn : ∀ J : Nat → Nat → Int32, J 63 = J0 63 → swp (actK (t.2.2 i)) ((tuR t.2.2 i).2.2 (t.2.2 i).2.1) ((tuR t.2.2 i).2.2 (t.2.2 i).2.2.1) = false → ∀ x, x < 8 → J 63 x = nI ((tuR t.2.2 (i + 1)).2.2 x) := fun J hJ hs x hx => by
      rw [tuR_3, hs, hJ]
      exact hT.2.2 x hx
    have nw : ¬ actK (t.2.2 i) = 3 → netC (up2 J0 2 w (nI (pk (0, min ((tuR t.2.2 i).2.2 (t.2.2 i).2.1) ((tuR t.2.2 i).2.2 (t.2.2 i).2.2.1), max ((tuR t.2.2 i).2.2 (t.2.2 i).2.1) ((tuR t.2.2 i).2.2 (t.2.2 i).2.2.1), tb (0 = 4))))) 1 (t.1, t.2.1, (tuR t.2.2 (i + 1)).2.1) := fun e => by
      rw [(n4 e).2]
      exact netC_set (t := (t.1, t.2.1, (tuR t.2.2 i).2.1)) (n := t.2.1) (i := w) (x := (0, min ((tuR t.2.2 i).2.2 (t.2.2 i).2.1) ((tuR t.2.2 i).2.2 (t.2.2 i).2.2.1), max ((tuR t.2.2 i).2.2 (t.2.2 i).2.1) ((tuR t.2.2 i).2.2 (t.2.2 i).2.2.1), false)) hT.2.1 (by rw [up2_n _ _ _ (by decide)]) (by rw [up2_n _ _ _ (by decide)]; exact h1) (fun j q => Or.inr q) (fun j q => up2_m _ _ _ q) (by rw [show tb ((0 : Nat) = 4) = false from tb_0 (by decide)]; exact up2_s _ _ _ _)
    refine J.iload_n C dX5_turn_74 rfl ?_
    refine J.aload_n C dX5_turn_75 rfl ?_
    refine J.getR C flX5_turn_10 (by first | decide | omega) rfl (by exact rfl) dX5_turn_76 ?_
    refine J.getI C flX5_turn_77 (by first | decide | omega) (by first | exact rfl | exact mk_3 (by assumption)) (by exact rfl) (by first | ((repeat (first | rewrite [up2_n _ _ _ (by first | decide | omega)] | rewrite [up2_m _ _ _ (by decide)] | rewrite [up3_n _ _ _ (by first | decide | omega)])) <;> (first | exact up2_s _ _ _ _ | exact up3_s _ _ _ _ | assumption | exact rfl))) dX5_turn_79 ?_
    first | refine J.icmp_ge_n C (by omega) (by omega) dX5_turn_82 (tgt := 198) (by decide) (fun c82 => absurd c82 (by first | omega | decide | simp_all)) (fun _ => ?_) | refine J.icmp_ge_xn C (by omega) dX5_turn_82 (tgt := 198) (by decide) (fun c82 => absurd c82 (by first | omega | decide | simp_all)) (fun _ => ?_) | refine J.icmp_ge_nx C (by omega) dX5_turn_82 (tgt := 198) (by decide) (fun c82 => absurd c82 (by first | omega | decide | simp_all)) (fun _ => ?_) | refine J.icmp_ge C dX5_turn_82 (tgt := 198) (by decide) (fun c82 => absurd c82 (by first | omega | decide | simp_all)) (fun _ => ?_)
    refine J.aload_n C dX5_turn_85 rfl ?_
    refine J.getR C flX5_turn_10 (by first | decide | omega) rfl (by exact rfl) dX5_turn_86 ?_
    refine J.iload_n C dX5_turn_89 rfl ?_
    refine J.cVDi (q := (RX3, TX3, 3)) (ci := 3) C (ok_X3_actingKind l V _ _ rfl (by omega) hcB hi2) gX5_turn_X3_actingKind rfl mfX3_actingKind rfl (by decide) (by decide) (by first | decide | omega) (by first | exact rfl | exact mk_3 (by assumption)) rfl rfl rfl (Nat.le_of_ble_eq_true rfl) dX5_turn_90 (Nat.le_refl _) (Nat.le_refl _) ?_
    refine J.istore_n (ls' := [(0, _), (1, _), (2, _), (3, _)]) C dX5_turn_93 (by decide) rfl ?_
    refine J.aload_n C dX5_turn_94 rfl ?_
    refine J.getR C flX5_turn_10 (by first | decide | omega) rfl (by exact rfl) dX5_turn_95 ?_
    refine J.iload_n C dX5_turn_98 rfl ?_
    refine J.cVDi (q := (RX3, TX3, 3)) (ci := 3) C (ok_X3_low l V _ _ rfl (by omega) hcB hi2) gX5_turn_X3_low rfl mfX3_low rfl (by decide) (by decide) (by first | decide | omega) (by first | exact rfl | exact mk_3 (by assumption)) rfl rfl rfl (Nat.le_of_ble_eq_true rfl) dX5_turn_99 (Nat.le_refl _) (Nat.le_refl _) ?_
    refine J.istore (ls' := [(0, _), (1, _), (2, _), (3, _), (4, _)]) C dX5_turn_102 (by decide) rfl ?_
    refine J.aload_n C dX5_turn_104 rfl ?_
    refine J.getR C flX5_turn_10 (by first | decide | omega) rfl (by exact rfl) dX5_turn_105 ?_
    refine J.iload_n C dX5_turn_108 rfl ?_
    refine J.cVDi (q := (RX3, TX3, 3)) (ci := 3) C (ok_X3_high l V _ _ rfl (by omega) hcB hi2) gX5_turn_X3_high rfl mfX3_high rfl (by decide) (by decide) (by first | decide | omega) (by first | exact rfl | exact mk_3 (by assumption)) rfl rfl rfl (Nat.le_of_ble_eq_true rfl) dX5_turn_109 (Nat.le_refl _) (Nat.le_refl _) ?_
    refine J.istore (ls' := [(0, _), (1, _), (2, _), (3, _), (4, _), (5, _)]) C dX5_turn_112 (by decide) rfl ?_
    refine J.aload_n C dX5_turn_114 rfl ?_
    refine J.getR C flX5_turn_50 (by first | decide | omega) rfl (by exact rfl) dX5_turn_115 ?_
    refine J.iload C dX5_turn_118 rfl ?_
    refine J.ia C (by first | exact rfl | assumption) (by first | exact rfl | exact rfl) (by first | omega | omega) (by first | ((repeat (first | rewrite [up2_n _ _ _ (by first | decide | omega)] | rewrite [up2_m _ _ _ (by decide)] | rewrite [up3_n _ _ _ (by first | decide | omega)])) <;> (first | exact up2_s _ _ _ _ | exact up3_s _ _ _ _ | assumption | exact rfl))) dX5_turn_120 ?_
    refine J.istore (ls' := [(0, _), (1, _), (2, _), (3, _), (4, _), (5, _), (6, _)]) C dX5_turn_121 (by decide) rfl ?_
    refine J.aload_n C dX5_turn_123 rfl ?_
    refine J.getR C flX5_turn_50 (by first | decide | omega) rfl (by exact rfl) dX5_turn_124 ?_
    refine J.iload C dX5_turn_127 rfl ?_
    refine J.ia C (by first | exact rfl | assumption) (by first | exact rfl | exact rfl) (by first | omega | omega) (by first | ((repeat (first | rewrite [up2_n _ _ _ (by first | decide | omega)] | rewrite [up2_m _ _ _ (by decide)] | rewrite [up3_n _ _ _ (by first | decide | omega)])) <;> (first | exact up2_s _ _ _ _ | exact up3_s _ _ _ _ | assumption | exact rfl))) dX5_turn_129 ?_
    refine J.istore (ls' := [(0, _), (1, _), (2, _), (3, _), (4, _), (5, _), (6, _), (7, _)]) C dX5_turn_130 (by decide) rfl ?_
    refine J.iload_n C dX5_turn_132 rfl ?_
    refine J.iconst C dX5_turn_133 (v := (nI 3)) (by decide) ?_
    first | refine J.icmp_eq_n C (by omega) (by omega) dX5_turn_134 (tgt := 163) (by decide) (fun c134t => ?_) (fun c134f => ?_) | refine J.icmp_eq_xn C (by omega) dX5_turn_134 (tgt := 163) (by decide) (fun c134t => ?_) (fun c134f => ?_) | refine J.icmp_eq_nx C (by omega) dX5_turn_134 (tgt := 163) (by decide) (fun c134t => ?_) (fun c134f => ?_) | refine J.icmp_eq C dX5_turn_134 (tgt := 163) (by decide) (fun c134t => ?_) (fun c134f => ?_)
    · refine J.iload_n C dX5_turn_163 rfl ?_
      refine J.iload C dX5_turn_164 rfl ?_
      refine J.iload C dX5_turn_166 rfl ?_
      refine J.cSDi C (ok_X5_changesPlaces l V _ _ ha4 ha2 (by omega) (by omega)) gX5_turn_X5_changesPlaces rfl mfX5_changesPlaces (by decide) (by decide) rfl rfl (Nat.le_of_ble_eq_true rfl) dX5_turn_168 (Nat.le_refl _) (Nat.le_refl _) ?_
      first | refine J.if_eq_b C dX5_turn_171 (tgt := 192) (by decide) (fun c171t => ?_) (fun c171f => ?_) | refine J.if_eq_n C (by omega) dX5_turn_171 (tgt := 192) (by decide) (fun c171t => ?_) (fun c171f => ?_) | refine J.if_eq C dX5_turn_171 (tgt := 192) (by decide) (fun c171t => ?_) (fun c171f => ?_)
      · refine J.iinc (ls' := [(0, _), (1, _), (2, _), (3, _), (4, _), (5, _), (6, _), (7, _)]) C dX5_turn_192 rfl (by first | exact nI_inc _ 1 | exact rfl) (by decide) rfl ?_
        refine J.goto C dX5_turn_195 (tgt := 74) (by decide) ?_
        refine J.lsx (ls' := [(0, _), (1, _), (2, _)]) (ex := [(3, _), (4, _), (5, _), (6, _), (7, _)]) rfl ?_
        first | exact fin w J0 _ (n3 c134t).1.symm (fun _ _ => rfl) (by rw [(n3 c134t).2]; exact hT.2.1) (fun q a => by first | rw [up2_n _ _ _ a, up2_n _ _ _ a] | rfl) (sn _ rfl c171t) | exact fin w J0 _ (n3 c134t).1.symm (fun _ _ => rfl) (by rw [(n3 c134t).2]; exact hT.2.1) (fun q a => by rw [up2_n _ _ _ a, up2_n _ _ _ a]) (sw _ rfl c171f)
      · refine J.aload_n C dX5_turn_174 rfl ?_
        refine J.getR C flX5_turn_50 (by first | decide | omega) rfl (by exact rfl) dX5_turn_175 ?_
        refine J.iload C dX5_turn_178 rfl ?_
        refine J.iload C dX5_turn_180 rfl ?_
        refine J.ias C (by first | exact rfl | assumption) (by first | exact rfl | exact rfl) (by first | omega | omega) dX5_turn_182 ?_
        refine J.aload_n C dX5_turn_183 rfl ?_
        refine J.getR C flX5_turn_50 (by first | decide | omega) rfl (by exact rfl) dX5_turn_184 ?_
        refine J.iload C dX5_turn_187 rfl ?_
        refine J.iload C dX5_turn_189 rfl ?_
        refine J.ias C (by first | exact rfl | assumption) (by first | exact rfl | exact rfl) (by first | omega | omega) dX5_turn_191 ?_
        refine J.iinc (ls' := [(0, _), (1, _), (2, _), (3, _), (4, _), (5, _), (6, _), (7, _)]) C dX5_turn_192 rfl (by first | exact nI_inc _ 1 | exact rfl) (by decide) rfl ?_
        refine J.goto C dX5_turn_195 (tgt := 74) (by decide) ?_
        refine J.lsx (ls' := [(0, _), (1, _), (2, _)]) (ex := [(3, _), (4, _), (5, _), (6, _), (7, _)]) rfl ?_
        first | exact fin w J0 _ (n3 c134t).1.symm (fun _ _ => rfl) (by rw [(n3 c134t).2]; exact hT.2.1) (fun q a => by first | rw [up2_n _ _ _ a, up2_n _ _ _ a] | rfl) (sn _ rfl c171t) | exact fin w J0 _ (n3 c134t).1.symm (fun _ _ => rfl) (by rw [(n3 c134t).2]; exact hT.2.1) (fun q a => by rw [up2_n _ _ _ a, up2_n _ _ _ a]) (sw _ rfl c171f)
    · refine J.aload_n C dX5_turn_137 rfl ?_
      refine J.getR C flX5_turn_10 (by first | decide | omega) rfl (by exact rfl) dX5_turn_138 ?_
      refine J.iload_n C dX5_turn_141 rfl ?_
      refine J.iconst C dX5_turn_142 (v := (nI 0)) (by decide) ?_
      refine J.iload C dX5_turn_143 rfl ?_
      refine J.iload C dX5_turn_145 rfl ?_
      refine J.mmin C (by decide +kernel) (by decide +kernel) (by decide +kernel) (by decide +kernel) (by decide) (Nat.le_of_ble_eq_true rfl) (Nat.le_refl _) (Nat.le_refl _) dX5_turn_147 ?_
      rw [mn_n (by omega) (by omega)]
      refine J.iload C dX5_turn_150 rfl ?_
      refine J.iload C dX5_turn_152 rfl ?_
      refine J.mmax C (by decide +kernel) (by decide +kernel) (by decide +kernel) (by decide +kernel) (by decide) (Nat.le_of_ble_eq_true rfl) (Nat.le_refl _) (Nat.le_refl _) dX5_turn_154 ?_
      rw [mx_n (by omega) (by omega)]
      refine J.cVDv (q := (RX3, TX3, 3)) (ci := 3) C (ok_X3_write l V (m := 0) _ _ rfl (by omega) (by decide) (by omega) (by omega)) gX5_turn_X3_write rfl mfX3_write rfl (by decide) (by decide) (by first | decide | omega) (by first | exact rfl | exact mk_3 (by assumption)) rfl rfl rfl (Nat.le_of_ble_eq_true rfl) dX5_turn_157 (Nat.le_refl _) (Nat.le_refl _) ?_
      refine J.iinc (ls' := [(0, _), (1, _), (2, _), (3, _), (4, _), (5, _), (6, _), (7, _)]) C dX5_turn_160 rfl (by first | exact nI_inc _ 1 | exact rfl) (by decide) rfl ?_
      refine J.iload_n C dX5_turn_163 rfl ?_
      refine J.iload C dX5_turn_164 rfl ?_
      refine J.iload C dX5_turn_166 rfl ?_
      refine J.cSDi C (ok_X5_changesPlaces l V _ _ ha4 ha2 (by omega) (by omega)) gX5_turn_X5_changesPlaces rfl mfX5_changesPlaces (by decide) (by decide) rfl rfl (Nat.le_of_ble_eq_true rfl) dX5_turn_168 (Nat.le_refl _) (Nat.le_refl _) ?_
      first | refine J.if_eq_b C dX5_turn_171 (tgt := 192) (by decide) (fun c171t => ?_) (fun c171f => ?_) | refine J.if_eq_n C (by omega) dX5_turn_171 (tgt := 192) (by decide) (fun c171t => ?_) (fun c171f => ?_) | refine J.if_eq C dX5_turn_171 (tgt := 192) (by decide) (fun c171t => ?_) (fun c171f => ?_)
      · refine J.iinc (ls' := [(0, _), (1, _), (2, _), (3, _), (4, _), (5, _), (6, _), (7, _)]) C dX5_turn_192 rfl (by first | exact nI_inc _ 1 | exact rfl) (by decide) rfl ?_
        refine J.goto C dX5_turn_195 (tgt := 74) (by decide) ?_
        refine J.lsx (ls' := [(0, _), (1, _), (2, _)]) (ex := [(3, _), (4, _), (5, _), (6, _), (7, _)]) rfl ?_
        first | exact fin (w + 1) _ _ (n4 c134f).1.symm (fun q a => up2_n _ _ _ a) (nw c134f) (fun q a => rfl) (sn _ (up2_n _ _ _ (by decide)) c171t) | exact fin (w + 1) _ _ (n4 c134f).1.symm (fun q a => up2_n _ _ _ a) (nw c134f) (fun q a => by rw [up2_n _ _ _ a, up2_n _ _ _ a]) (sw _ (up2_n _ _ _ (by decide)) c171f)
      · refine J.aload_n C dX5_turn_174 rfl ?_
        refine J.getR C flX5_turn_50 (by first | decide | omega) rfl (by exact rfl) dX5_turn_175 ?_
        refine J.iload C dX5_turn_178 rfl ?_
        refine J.iload C dX5_turn_180 rfl ?_
        refine J.ias C (by first | exact rfl | assumption) (by first | exact rfl | exact rfl) (by first | omega | omega) dX5_turn_182 ?_
        refine J.aload_n C dX5_turn_183 rfl ?_
        refine J.getR C flX5_turn_50 (by first | decide | omega) rfl (by exact rfl) dX5_turn_184 ?_
        refine J.iload C dX5_turn_187 rfl ?_
        refine J.iload C dX5_turn_189 rfl ?_
        refine J.ias C (by first | exact rfl | assumption) (by first | exact rfl | exact rfl) (by first | omega | omega) dX5_turn_191 ?_
        refine J.iinc (ls' := [(0, _), (1, _), (2, _), (3, _), (4, _), (5, _), (6, _), (7, _)]) C dX5_turn_192 rfl (by first | exact nI_inc _ 1 | exact rfl) (by decide) rfl ?_
        refine J.goto C dX5_turn_195 (tgt := 74) (by decide) ?_
        refine J.lsx (ls' := [(0, _), (1, _), (2, _)]) (ex := [(3, _), (4, _), (5, _), (6, _), (7, _)]) rfl ?_
        first | exact fin (w + 1) _ _ (n4 c134f).1.symm (fun q a => up2_n _ _ _ a) (nw c134f) (fun q a => rfl) (sn _ (up2_n _ _ _ (by decide)) c171t) | exact fin (w + 1) _ _ (n4 c134f).1.symm (fun q a => up2_n _ _ _ a) (nw c134f) (fun q a => by rw [up2_n _ _ _ a, up2_n _ _ _ a]) (sw _ (up2_n _ _ _ (by decide)) c171f)
set_option maxHeartbeats 4000000 in
set_option maxRecDepth 100000 in
theorem ok_X5_turn (l : Launch) (V : Vx) {g : Sg}  (I : Nat → Nat → Int32) (L : Nat → Nat → Int64)  (hz : V.2.2.2.2.2 = false) (h : AbC I L g) (ok : okG g) : PC l V yX5_turn wsX5_turn 3 [.ref (ad V 0)] I L (op_turn g) := by
  have hN := h.1
  have h0 := hN.1
  have hm := hN.2.1
  have hl2 := ok.1.1
  have hl8 := ok.1.2.1
  have h40 := ok.1.2.2.1
  refine Ok.of (cc := cX5_turn) (maxL := 8) (ret := (some .int)) (by decide) rfl (Nat.le_of_ble_eq_true rfl) (fun X hnm C => ?_)
  have C : CX l X V RX5 cX5_turn 8 wsX5_turn 3 0 0 (some .int) := C
  refine J.cast (ls' := [(0, _)]) rfl rfl rfl rfl ?_
  refine J.iconst C dX5_turn_0 (v := (nI 0)) (by decide) ?_
  refine J.istore_n (ls' := [(0, _), (1, _)]) C dX5_turn_1 (by decide) rfl ?_
  refine lp_X5_turn_a C ok.1 hN (fun q => ?_) (fun q => ?_) g.1.2.1 0 (by omega) (fun j z => absurd z (Nat.not_lt_zero _))
  · unfold op_turn
    rw [tb_1 q]
    exact qC_s (qC_F h)
  · have e : op_turn g = (nI (tuR g.1.2.2 g.1.2.1).1, gN (gB g) (g.1.1, (tuR g.1.2.2 g.1.2.1).1, (tuR g.1.2.2 g.1.2.1).2.1)) := by
      unfold op_turn
      rw [tb_0 q]
      rfl
    rw [e]
    have hno : ∀ j, j < g.1.2.1 → ¬ actK (g.1.2.2 j) = 2 := fun j a b => q ⟨j, a, b⟩
    have hle := tuR_le (f := g.1.2.2) g.1.2.1
    refine J.aload_n C dX5_turn_38 rfl ?_
    refine J.getR C flX5_turn_23 (by first | decide | omega) rfl (by exact rfl) dX5_turn_39 ?_
    refine J.aload_n C dX5_turn_42 rfl ?_
    refine J.getR C flX5_turn_10 (by first | decide | omega) rfl (by exact rfl) dX5_turn_43 ?_
    refine J.cVGv (q := (RX2, TX2, 3)) (ci := 2) C (ok_X2_remember l V _ _ hz h ok) gX5_turn_X2_remember rfl mfX2_remember rfl (by decide) (by decide) (by first | decide | omega) rfl rfl rfl rfl (Nat.le_of_ble_eq_true rfl) dX5_turn_46 (Nat.le_refl _) (Nat.le_refl _) (fun I46 L46 h46 => ?_)
    obtain ⟨hB, hfr, hLL⟩ := h46
    subst hLL
    have hb0 : I46 1 0 = nI g.1.1 := hB.1.1
    have hb1 : I46 1 1 = nI g.1.2.1 := hB.1.2.1
    refine J.iconst C dX5_turn_49 (v := (nI 0)) (by decide) ?_
    refine J.istore_n (ls' := [(0, _), (1, _)]) C dX5_turn_50 (by decide) rfl ?_
    refine lp_X5_turn_b C (I := I46) (fun J0 hf hx0 => ?_) 8 0 I46 (by omega) (fun _ _ => rfl) (fun x z => absurd z (Nat.not_lt_zero _))
    refine J.iconst C dX5_turn_70 (v := (nI 0)) (by decide) ?_
    refine J.istore_n (ls' := [(0, _), (1, _)]) C dX5_turn_71 (by decide) rfl ?_
    refine J.iconst C dX5_turn_72 (v := (nI 0)) (by decide) ?_
    refine J.istore_n (ls' := [(0, _), (1, _), (2, _)]) C dX5_turn_73 (by decide) rfl ?_
    refine lp_X5_turn_c C ok.1 hno (I := I46) (fun J1 hT => ?_) g.1.2.1 0 0 J0 (by omega) rfl ⟨fun q a b => hf q b, netC_of hB.1 (hf 1 (by decide)) (hf 2 (by decide)), hx0⟩
    have w : AbC J1 L46 (gN (gB g) (g.1.1, g.1.2.1, (tuR g.1.2.2 g.1.2.1).2.1)) := AbC_fr (I := va_up (va_up I46 1 (J1 1)) 2 (J1 2)) (AbC_net hB (netC_of hT.2.1 (by rw [va_up_ne _ _ (by decide), va_up_self]) (va_up_self _ _ _)) (fun q a b c => by rw [va_up_ne _ _ b, va_up_ne _ _ a])) (fun q a b c => by
      by_cases q2 : q = 2
      · rw [q2, va_up_self]
      · rw [va_up_ne _ _ q2]
        by_cases q1 : q = 1
        · rw [q1, va_up_self]
        · rw [va_up_ne _ _ q1]
          exact hT.1 q q2 b) (fun _ _ _ => rfl)
    exact qC_s ⟨rfl, AbC_net (g := gN (gB g) (g.1.1, g.1.2.1, (tuR g.1.2.2 g.1.2.1).2.1)) w ⟨by rw [up2_m _ _ _ (by decide)]; exact hT.2.1.1, up2_s _ _ _ _, fun i hi => by rw [up2_n _ _ _ (by decide)]; exact hT.2.1.2.2 i (Nat.lt_of_lt_of_le hi hle)⟩ (fun q a b c => up2_n _ _ _ a), fun q a => by rw [up2_n _ _ _ (by omega), hT.1 q (by omega) (by omega)]; exact hfr q a, frCL_rfl⟩
