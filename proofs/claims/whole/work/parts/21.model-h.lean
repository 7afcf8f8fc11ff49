set_option maxHeartbeats 4000000 in
set_option maxRecDepth 100000 in
theorem ok_X6_drop (l : Launch) (V : Vx) {g : Sg} (I : Nat → Nat → Int32) (L : Nat → Nat → Int64) (h : AbM I L g) (ok : okG g) : PM l V yX6_drop wsX6_drop 4 [.ref (ad V 85)] I L (op_drop g) := by
  have hN := h.nm
  have h0 := hN.1
  have hm := hN.2.1
  have hl2 := ok.1.1
  have hl8 := ok.1.2.1
  have h40 := ok.1.2.2.1
  have hq := h.2.1.1
  have hq25 := ok.2.2.1
  have hB := AbM_be h ok
  have hb0 : beM I g.2.1.length 85 0 = nI g.1.1 := hB.1.1
  have hb1 : beM I g.2.1.length 85 1 = nI g.1.2.1 := hB.1.2.1
  refine Ok.of (cc := cX6_drop) (maxL := 3) (ret := (some .int)) (by decide) rfl (Nat.le_of_ble_eq_true rfl) (fun X hnm C => ?_)
  have C : CX l X V RX6 cX6_drop 3 wsX6_drop 4 0 0 (some .int) := C
  refine J.cast (ls' := [(0, _)]) rfl rfl rfl rfl ?_
  refine J.aload_n C dX6_drop_0 rfl ?_
  refine J.cVDv (q := (RX6, TX6, 25)) (ci := 6) C (ok_X6_begins l V _ _ hq hq25) gX6_drop_X6_begins rfl mfX6_begins rfl (by decide) (by decide) (by first | decide | omega) rfl rfl rfl rfl (Nat.le_of_ble_eq_true rfl) dX6_drop_1 (Nat.le_refl _) (Nat.le_refl _) ?_
  refine J.iconst C dX6_drop_4 (v := (nI 0)) (by decide) ?_
  refine J.istore_n (ls' := [(0, _), (1, _)]) C dX6_drop_5 (by decide) rfl ?_
  refine lp_X6_drop_a C ok.1 (I := beM I g.2.1.length) (fun J0 hf hb => ?_) hB.nm g.1.2.1 0 _ (by omega) (fun _ _ => rfl) (fun j hj => absurd hj (Nat.not_lt_zero j))
  refine J.iconst C dX6_drop_31 (v := (nI 0)) (by decide) ?_
  refine J.istore_n (ls' := [(0, _), (1, _)]) C dX6_drop_32 (by decide) rfl ?_
  refine J.iconst C dX6_drop_33 (v := (nI 0)) (by decide) ?_
  refine J.istore_n (ls' := [(0, _), (1, _), (2, _)]) C dX6_drop_34 (by decide) rfl ?_
  refine lp_X6_drop_b C ok.1 (I := J0) (fun J1 hn h5 hf1 => ?_) hb g.1.2.1 0 0 _ (by omega) rfl (by rw [hf 85 (by decide), hf 86 (by decide), hf 87 (by decide), hf 88 (by decide), hf 89 (by decide)]; exact hB.1) (fun _ _ => rfl)
  exact qM_s ⟨rfl, AbM_net hB hn (fun j a b => by rw [h5 j b, hf 85 (by decide)]) (fun q a b => by rw [hf1 q (Or.inr a), hf q (by omega)]), fun k hk => by rw [hf1 k (Or.inl hk), hf k (by omega)]; exact beM_o hk, frmL_rfl⟩
theorem actK_2 {c : Cmp} : actK c = 2 ↔ c.1 = 2 ∨ (c.1 = 4 ∧ c.2.2.2 = false) := by
  unfold actK
  by_cases h : c.1 = 4
  · rw [if_pos h]
    cases c.2.2.2 <;> simp [h]
  · rw [if_neg h]
    simp [h]
set_option maxHeartbeats 4000000 in
set_option maxRecDepth 100000 in
theorem lp_X6_turn_a {l : Launch} {X : Cx} {V : Vx} {P : Option Value → (Nat → va_E) → Prop} {I : Nat → Nat → Int32} {L : Nat → Nat → Int64} (C : CX l X V RX6 cX6_turn 8 wsX6_turn 3 0 0 (some .int)) {t : Nt} (ok : okN t) (hN : NM I t) (hP : (∃ i, i < t.2.1 ∧ actK (t.2.2 i) = 2) → P (some (.int (-7))) (mm V (fM I) L)) (hx : (¬ ∃ i, i < t.2.1 ∧ actK (t.2.2 i) = 2) → E X V P 8 52 [(0, .ref (ad V 85)), (1, .int (nI t.2.1))] [] I L) : ∀ (k i : Nat), i + k = t.2.1 → (∀ j, j < i → ¬ actK (t.2.2 j) = 2) → E X V P 8 2 [(0, .ref (ad V 85)), (1, .int (nI i))] [] I L := by
  intro k
  have h40 := ok.2.2.1
  have hm := hN.2.1
  induction k with
  | zero =>
    intro i hi hb
    have e : i = t.2.1 := by omega
    subst e
    refine J.iload_n C dX6_turn_2 rfl ?_
    refine J.aload_n C dX6_turn_3 rfl ?_
    refine J.getI C flX6_turn_79 (by first | decide | omega) rfl (by exact rfl) (by first | ((repeat (first | refine up2_rd (by decide) ?_ | refine up2_rm (by decide) ?_ | refine up3_rd (by decide) ?_)) <;> (first | exact up2_s _ _ _ _ | assumption | exact rfl))) dX6_turn_4 ?_
    first | refine J.icmp_ge_n C (by omega) (by omega) dX6_turn_7 (tgt := 52) (by decide) (fun _ => ?_) (fun c7 => absurd c7 (by first | omega | decide | simp_all)) | refine J.icmp_ge_xn C (by omega) dX6_turn_7 (tgt := 52) (by decide) (fun _ => ?_) (fun c7 => absurd c7 (by first | omega | decide | simp_all)) | refine J.icmp_ge_nx C (by omega) dX6_turn_7 (tgt := 52) (by decide) (fun _ => ?_) (fun c7 => absurd c7 (by first | omega | decide | simp_all)) | refine J.icmp_ge C dX6_turn_7 (tgt := 52) (by decide) (fun _ => ?_) (fun c7 => absurd c7 (by first | omega | decide | simp_all))
    exact hx (fun ⟨j, h1, h2⟩ => hb j h1 h2)
  | succ k ih =>
    intro i hi hb
    obtain ⟨g1, g2, g3, g4⟩ := hN.2.2 i (by omega)
    have hk4 := (ok.2.2.2 i (by omega)).1
    have nx : ¬ actK (t.2.2 i) = 2 → ∀ j, j < i + 1 → ¬ actK (t.2.2 j) = 2 := fun h j hj => by
      by_cases e : j = i
      · rw [e]; exact h
      · exact hb j (by omega)
    refine J.iload_n C dX6_turn_2 rfl ?_
    refine J.aload_n C dX6_turn_3 rfl ?_
    refine J.getI C flX6_turn_79 (by first | decide | omega) rfl (by exact rfl) (by first | ((repeat (first | refine up2_rd (by decide) ?_ | refine up2_rm (by decide) ?_ | refine up3_rd (by decide) ?_)) <;> (first | exact up2_s _ _ _ _ | assumption | exact rfl))) dX6_turn_4 ?_
    first | refine J.icmp_ge_n C (by omega) (by omega) dX6_turn_7 (tgt := 52) (by decide) (fun c7 => absurd c7 (by first | omega | decide | simp_all)) (fun _ => ?_) | refine J.icmp_ge_xn C (by omega) dX6_turn_7 (tgt := 52) (by decide) (fun c7 => absurd c7 (by first | omega | decide | simp_all)) (fun _ => ?_) | refine J.icmp_ge_nx C (by omega) dX6_turn_7 (tgt := 52) (by decide) (fun c7 => absurd c7 (by first | omega | decide | simp_all)) (fun _ => ?_) | refine J.icmp_ge C dX6_turn_7 (tgt := 52) (by decide) (fun c7 => absurd c7 (by first | omega | decide | simp_all)) (fun _ => ?_)
    refine J.aload_n C dX6_turn_10 rfl ?_
    refine J.getR C flX6_turn_13 (by first | decide | omega) rfl (by exact rfl) dX6_turn_11 ?_
    refine J.iload_n C dX6_turn_14 rfl ?_
    refine J.ia C (by first | exact rfl | assumption) (by first | exact rfl | exact rfl) (by first | (have h_ln := ln_all; omega) | omega) (by first | ((repeat (first | refine up2_rd (by decide) ?_ | refine up2_rm (by decide) ?_ | refine up3_rd (by decide) ?_)) <;> (first | exact up2_s _ _ _ _ | assumption | exact rfl))) dX6_turn_15 ?_
    refine J.iconst C dX6_turn_16 (v := (nI 2)) (by decide) ?_
    first | refine J.icmp_eq_n C (by omega) (by omega) dX6_turn_17 (tgt := 39) (by decide) (fun c17t => ?_) (fun c17f => ?_) | refine J.icmp_eq_xn C (by omega) dX6_turn_17 (tgt := 39) (by decide) (fun c17t => ?_) (fun c17f => ?_) | refine J.icmp_eq_nx C (by omega) dX6_turn_17 (tgt := 39) (by decide) (fun c17t => ?_) (fun c17f => ?_) | refine J.icmp_eq C dX6_turn_17 (tgt := 39) (by decide) (fun c17t => ?_) (fun c17f => ?_)
    · refine J.aload_n C dX6_turn_39 rfl ?_
      refine J.bipush C dX6_turn_40 (v := (-7)) (by decide) ?_
      refine J.cVDi (q := (RX6, TX6, 25)) (ci := 6) C (ok_X6_found l V _ _ _) gX6_turn_X6_found rfl mfX6_found rfl (by decide) (by decide) (by first | decide | omega) rfl rfl rfl rfl (Nat.le_of_ble_eq_true rfl) dX6_turn_42 (Nat.le_refl _) (Nat.le_refl _) ?_
      exact J.iret C dX6_turn_45 (hP ⟨i, by omega, actK_2.mpr (Or.inl c17t)⟩)
    · refine J.aload_n C dX6_turn_20 rfl ?_
      refine J.getR C flX6_turn_13 (by first | decide | omega) rfl (by exact rfl) dX6_turn_21 ?_
      refine J.iload_n C dX6_turn_24 rfl ?_
      refine J.ia C (by first | exact rfl | assumption) (by first | exact rfl | exact rfl) (by first | (have h_ln := ln_all; omega) | omega) (by first | ((repeat (first | refine up2_rd (by decide) ?_ | refine up2_rm (by decide) ?_ | refine up3_rd (by decide) ?_)) <;> (first | exact up2_s _ _ _ _ | assumption | exact rfl))) dX6_turn_25 ?_
      refine J.iconst C dX6_turn_26 (v := (nI 4)) (by decide) ?_
      first | refine J.icmp_ne_n C (by omega) (by omega) dX6_turn_27 (tgt := 46) (by decide) (fun c27t => ?_) (fun c27f => ?_) | refine J.icmp_ne_xn C (by omega) dX6_turn_27 (tgt := 46) (by decide) (fun c27t => ?_) (fun c27f => ?_) | refine J.icmp_ne_nx C (by omega) dX6_turn_27 (tgt := 46) (by decide) (fun c27t => ?_) (fun c27f => ?_) | refine J.icmp_ne C dX6_turn_27 (tgt := 46) (by decide) (fun c27t => ?_) (fun c27f => ?_)
      · refine J.iinc (ls' := [(0, _), (1, _)]) C dX6_turn_46 rfl (by first | exact nI_inc _ 1 | exact rfl) (by decide) rfl ?_
        refine J.goto C dX6_turn_49 (tgt := 2) (by decide) ?_
        exact ih (i + 1) (by omega) (nx (fun q => by rcases actK_2.mp q with h | h; exact c17f h; exact c27t h.1))
      · have g5 := g4 c27f
        refine J.aload_n C dX6_turn_30 rfl ?_
        refine J.getR C flX6_turn_23 (by first | decide | omega) rfl (by exact rfl) dX6_turn_31 ?_
        refine J.iload_n C dX6_turn_34 rfl ?_
        refine J.za C (by first | exact rfl | assumption) (by first | exact rfl | exact rfl) (by first | (have h_ln := ln_all; omega) | omega) (by first | ((repeat (first | refine up2_rd (by decide) ?_ | refine up2_rm (by decide) ?_ | refine up3_rd (by decide) ?_)) <;> (first | exact up2_s _ _ _ _ | assumption | exact rfl))) dX6_turn_35 ?_
        first | refine J.if_ne_b C dX6_turn_36 (tgt := 46) (by decide) (fun c36t => ?_) (fun c36f => ?_) | refine J.if_ne_n C (by omega) dX6_turn_36 (tgt := 46) (by decide) (fun c36t => ?_) (fun c36f => ?_) | refine J.if_ne C dX6_turn_36 (tgt := 46) (by decide) (fun c36t => ?_) (fun c36f => ?_)
        · refine J.iinc (ls' := [(0, _), (1, _)]) C dX6_turn_46 rfl (by first | exact nI_inc _ 1 | exact rfl) (by decide) rfl ?_
          refine J.goto C dX6_turn_49 (tgt := 2) (by decide) ?_
          exact ih (i + 1) (by omega) (nx (fun q => by rcases actK_2.mp q with h | h; exact c17f h; rw [h.2] at c36t; exact absurd c36t (by decide)))
        · refine J.aload_n C dX6_turn_39 rfl ?_
          refine J.bipush C dX6_turn_40 (v := (-7)) (by decide) ?_
          refine J.cVDi (q := (RX6, TX6, 25)) (ci := 6) C (ok_X6_found l V _ _ _) gX6_turn_X6_found rfl mfX6_found rfl (by decide) (by decide) (by first | decide | omega) rfl rfl rfl rfl (Nat.le_of_ble_eq_true rfl) dX6_turn_42 (Nat.le_refl _) (Nat.le_refl _) ?_
          exact J.iret C dX6_turn_45 (hP ⟨i, by omega, actK_2.mpr (Or.inr ⟨c27f, c36f⟩)⟩)
set_option maxHeartbeats 4000000 in
set_option maxRecDepth 100000 in
theorem lp_X6_turn_b {l : Launch} {X : Cx} {V : Vx} {P : Option Value → (Nat → va_E) → Prop} {I : Nat → Nat → Int32} {L : Nat → Nat → Int64} (C : CX l X V RX6 cX6_turn 8 wsX6_turn 3 0 0 (some .int)) (hx : ∀ J0, (∀ k, k ≠ 103 → J0 k = I k) → (∀ x, x < 8 → J0 103 x = nI x) → E X V P 8 77 [(0, .ref (ad V 85)), (1, .int (nI 8))] [] J0 L) : ∀ (k i : Nat) (J0 : Nat → Nat → Int32), i + k = 8 → (∀ k, k ≠ 103 → J0 k = I k) → (∀ x, x < i → J0 103 x = nI x) → E X V P 8 58 [(0, .ref (ad V 85)), (1, .int (nI i))] [] J0 L := by
  intro k
  induction k with
  | zero =>
    intro i J0 hi hf hb
    obtain rfl : i = 8 := by omega
    refine J.iload_n C dX6_turn_58 rfl ?_
    refine J.bipush C dX6_turn_59 (v := (nI 8)) (by decide) ?_
    first | refine J.icmp_ge_n C (by omega) (by omega) dX6_turn_61 (tgt := 77) (by decide) (fun _ => ?_) (fun c61 => absurd c61 (by first | omega | decide | simp_all)) | refine J.icmp_ge_xn C (by omega) dX6_turn_61 (tgt := 77) (by decide) (fun _ => ?_) (fun c61 => absurd c61 (by first | omega | decide | simp_all)) | refine J.icmp_ge_nx C (by omega) dX6_turn_61 (tgt := 77) (by decide) (fun _ => ?_) (fun c61 => absurd c61 (by first | omega | decide | simp_all)) | refine J.icmp_ge C dX6_turn_61 (tgt := 77) (by decide) (fun _ => ?_) (fun c61 => absurd c61 (by first | omega | decide | simp_all))
    exact hx J0 hf hb
  | succ k ih =>
    intro i J0 hi hf hb
    refine J.iload_n C dX6_turn_58 rfl ?_
    refine J.bipush C dX6_turn_59 (v := (nI 8)) (by decide) ?_
    first | refine J.icmp_ge_n C (by omega) (by omega) dX6_turn_61 (tgt := 77) (by decide) (fun c61 => absurd c61 (by first | omega | decide | simp_all)) (fun _ => ?_) | refine J.icmp_ge_xn C (by omega) dX6_turn_61 (tgt := 77) (by decide) (fun c61 => absurd c61 (by first | omega | decide | simp_all)) (fun _ => ?_) | refine J.icmp_ge_nx C (by omega) dX6_turn_61 (tgt := 77) (by decide) (fun c61 => absurd c61 (by first | omega | decide | simp_all)) (fun _ => ?_) | refine J.icmp_ge C dX6_turn_61 (tgt := 77) (by decide) (fun c61 => absurd c61 (by first | omega | decide | simp_all)) (fun _ => ?_)
    refine J.aload_n C dX6_turn_64 rfl ?_
    refine J.getR C flX6_turn_67 (by first | decide | omega) rfl (by exact rfl) dX6_turn_65 ?_
    refine J.iload_n C dX6_turn_68 rfl ?_
    refine J.iload_n C dX6_turn_69 rfl ?_
    refine J.ias C (by first | exact rfl | assumption) (by first | exact rfl | exact rfl) (by first | (have h_ln := ln_all; omega) | omega) dX6_turn_70 ?_
    refine J.iinc (ls' := [(0, _), (1, _)]) C dX6_turn_71 rfl (by first | exact nI_inc _ 1 | exact rfl) (by decide) rfl ?_
    refine J.goto C dX6_turn_74 (tgt := 58) (by decide) ?_
    refine ih (i + 1) _ (by omega) (fun q a => by rw [up2_n _ _ _ a]; exact hf q a) (fun x hx => ?_)
    by_cases e : x = i
    · subst e; rw [up2_s]
    · rw [up2_m _ _ _ e]; exact hb x (by omega)
theorem tu_e3 {f : Nat → Cmp} {i : Nat} (b : Bool) (h : swp (actK (f i)) ((tuR f i).2.2 (f i).2.1) ((tuR f i).2.2 (f i).2.2.1) = b) : (tuR f (i + 1)).2.2 = cond b (va_up (va_up (tuR f i).2.2 (f i).2.1 ((tuR f i).2.2 (f i).2.2.1)) (f i).2.2.1 ((tuR f i).2.2 (f i).2.1)) (tuR f i).2.2 := by
  show cond (swp (actK (f i)) ((tuR f i).2.2 (f i).2.1) ((tuR f i).2.2 (f i).2.2.1)) _ _ = _
  rw [h]
theorem tu_e1 {f : Nat → Cmp} {i : Nat} (b : Bool) (h : decide (actK (f i) = 3) = b) : (tuR f (i + 1)).1 = cond b (tuR f i).1 ((tuR f i).1 + 1) ∧ (tuR f (i + 1)).2.1 = cond b (tuR f i).2.1 (va_up (tuR f i).2.1 (tuR f i).1 (0, min ((tuR f i).2.2 (f i).2.1) ((tuR f i).2.2 (f i).2.2.1), max ((tuR f i).2.2 (f i).2.1) ((tuR f i).2.2 (f i).2.2.1), false)) := by
  show cond (decide (actK (f i) = 3)) _ _ = _ ∧ cond (decide (actK (f i) = 3)) _ _ = _
  rw [h]
  exact ⟨rfl, rfl⟩
theorem actK_r {c : Cmp} (h4 : c.1 ≤ 4) (h2 : ¬ actK c = 2) : (actK c = 3 ↔ c.1 = 3) ∧ (actK c = 1 ↔ c.1 = 1) := by
  unfold actK at h2 ⊢
  by_cases h : c.1 = 4
  · rw [if_pos h] at h2 ⊢
    cases hb : c.2.2.2 with
    | true => rw [h]; simp
    | false => rw [hb] at h2; simp at h2
  · rw [if_neg h]
    exact ⟨Iff.rfl, Iff.rfl⟩
/-- the reference's places and comparers in the midst of a turn -/
def TuI (t : Nt) (i : Nat) (I J0 : Nat → Nat → Int32) : Prop := nA (J0 85 0) (J0 85 1) (J0 86) (J0 87) (J0 88) (J0 89) 0 (t.1, t.2.1, (tuR t.2.2 i).2.1) ∧ (∀ x, x < t.1 → J0 103 x = nI ((tuR t.2.2 i).2.2 x)) ∧ ∀ k, (k < 86 ∨ (90 ≤ k ∧ k ≠ 103)) → J0 k = I k
theorem TuI_put {t : Nt} {i : Nat} {I J0 : Nat → Nat → Int32} (ok : okN t) (hi : i < t.2.1) (h : nA (J0 85 0) (J0 85 1) (J0 86) (J0 87) (J0 88) (J0 89) 0 (t.1, t.2.1, (tuR t.2.2 i).2.1)) {x y : Nat} (hx : x = min ((tuR t.2.2 i).2.2 (t.2.2 i).2.1) ((tuR t.2.2 i).2.2 (t.2.2 i).2.2.1)) (hy : y = max ((tuR t.2.2 i).2.2 (t.2.2 i).2.1) ((tuR t.2.2 i).2.2 (t.2.2 i).2.2.1)) (hk3 : ¬ actK (t.2.2 i) = 3) :
    nA (up2 (up2 (up2 (up2 J0 86 (tuR t.2.2 i).1 (nI 0)) 87 (tuR t.2.2 i).1 (nI x)) 88 (tuR t.2.2 i).1 (nI y)) 89 (tuR t.2.2 i).1 (nI 1) 85 0) (up2 (up2 (up2 (up2 J0 86 (tuR t.2.2 i).1 (nI 0)) 87 (tuR t.2.2 i).1 (nI x)) 88 (tuR t.2.2 i).1 (nI y)) 89 (tuR t.2.2 i).1 (nI 1) 85 1) (up2 (up2 (up2 (up2 J0 86 (tuR t.2.2 i).1 (nI 0)) 87 (tuR t.2.2 i).1 (nI x)) 88 (tuR t.2.2 i).1 (nI y)) 89 (tuR t.2.2 i).1 (nI 1) 86) (up2 (up2 (up2 (up2 J0 86 (tuR t.2.2 i).1 (nI 0)) 87 (tuR t.2.2 i).1 (nI x)) 88 (tuR t.2.2 i).1 (nI y)) 89 (tuR t.2.2 i).1 (nI 1) 87) (up2 (up2 (up2 (up2 J0 86 (tuR t.2.2 i).1 (nI 0)) 87 (tuR t.2.2 i).1 (nI x)) 88 (tuR t.2.2 i).1 (nI y)) 89 (tuR t.2.2 i).1 (nI 1) 88) (up2 (up2 (up2 (up2 J0 86 (tuR t.2.2 i).1 (nI 0)) 87 (tuR t.2.2 i).1 (nI x)) 88 (tuR t.2.2 i).1 (nI y)) 89 (tuR t.2.2 i).1 (nI 1) 89) 0 (t.1, t.2.1, (tuR t.2.2 (i + 1)).2.1) := by
  rw [(tu_e1 false (decide_eq_false hk3)).2]
  refine nA_set (t := (t.1, t.2.1, (tuR t.2.2 i).2.1)) (n := t.2.1) h ?_ ?_ (fun j q => Or.inr q) (fun j q => ?_) (fun j q => ?_) (fun j q => ?_) (fun j q => ?_) ?_ ?_ ?_ (fun q => absurd q (by decide : ¬ (0 : Nat) = 4))
  · rw [up2_n _ _ _ (by decide), up2_n _ _ _ (by decide), up2_n _ _ _ (by decide), up2_n _ _ _ (by decide)]
  · rw [up2_n _ _ _ (by decide), up2_n _ _ _ (by decide), up2_n _ _ _ (by decide), up2_n _ _ _ (by decide)]; exact h.2.1
  · rw [up2_n _ _ _ (by decide), up2_n _ _ _ (by decide), up2_n _ _ _ (by decide), up2_m _ _ _ q]
  · rw [up2_n _ _ _ (by decide), up2_n _ _ _ (by decide), up2_m _ _ _ q, up2_n _ _ _ (by decide)]
  · rw [up2_n _ _ _ (by decide), up2_m _ _ _ q, up2_n _ _ _ (by decide), up2_n _ _ _ (by decide)]
  · rw [up2_m _ _ _ q, up2_n _ _ _ (by decide), up2_n _ _ _ (by decide), up2_n _ _ _ (by decide)]
  · rw [up2_n _ _ _ (by decide), up2_n _ _ _ (by decide), up2_n _ _ _ (by decide), up2_s]
  · rw [up2_n _ _ _ (by decide), up2_n _ _ _ (by decide), up2_s, hx]
  · rw [up2_n _ _ _ (by decide), up2_s, hy]
theorem Tu_to {t : Nt} {i : Nat} {J0 : Nat → Nat → Int32} (h : ∀ x, x < t.1 → J0 103 x = nI ((tuR t.2.2 i).2.2 x)) (b : Bool) (hb : swp (actK (t.2.2 i)) ((tuR t.2.2 i).2.2 (t.2.2 i).2.1) ((tuR t.2.2 i).2.2 (t.2.2 i).2.2.1) = b) : ∀ x, x < t.1 → cond b (up2 (up2 J0 103 (t.2.2 i).2.1 (nI ((tuR t.2.2 i).2.2 (t.2.2 i).2.2.1))) 103 (t.2.2 i).2.2.1 (nI ((tuR t.2.2 i).2.2 (t.2.2 i).2.1))) J0 103 x = nI ((tuR t.2.2 (i + 1)).2.2 x) := by
  intro x hx
  rw [tu_e3 b hb]
  cases b with
  | false => exact h x hx
  | true =>
    show up2 (up2 J0 103 (t.2.2 i).2.1 _) 103 (t.2.2 i).2.2.1 _ 103 x = nI (va_up (va_up (tuR t.2.2 i).2.2 (t.2.2 i).2.1 _) (t.2.2 i).2.2.1 _ x)
    by_cases e : x = (t.2.2 i).2.2.1
    · rw [e, up2_s, va_up_self]
    · rw [up2_m _ _ _ e, va_up_ne _ _ e]
      by_cases e2 : x = (t.2.2 i).2.1
      · rw [e2, up2_s, va_up_self]
      · rw [up2_m _ _ _ e2, va_up_ne _ _ e2]
        exact h x hx
