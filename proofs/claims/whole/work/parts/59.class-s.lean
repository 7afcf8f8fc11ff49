/-! THE CLASS: unlike -/
theorem ne_tb {n v w : Nat} (hv : v < 2 ^ n) (hw : w < 2 ^ n) : v ≠ w ↔ ∃ a, a < n ∧ v.testBit a ≠ w.testBit a := by
  constructor
  · intro h
    refine Classical.byContradiction (fun q => h (Nat.eq_of_testBit_eq (fun i => ?_)))
    by_cases hi : i < n
    · exact Classical.byContradiction (fun z => q ⟨i, hi, z⟩)
    · rw [Nat.testBit_lt_two_pow (Nat.lt_of_lt_of_le hv (Nat.pow_le_pow_right (by decide) (by omega))), Nat.testBit_lt_two_pow (Nat.lt_of_lt_of_le hw (Nat.pow_le_pow_right (by decide) (by omega)))]
  · rintro ⟨a, -, h⟩ e
    exact h (by rw [e])
theorem dif_b {n b r : Nat} {C D : Nat → Int64} {v w : Nat → Nat} (hC : RwI n b C v) (hD : RwI n b D w) (hr : r < 64) (hl : r < 2 ^ n → v (64 * b + r) < 2 ^ n ∧ w (64 * b + r) < 2 ^ n) : (∃ a, a < n ∧ bt (C a) r ≠ bt (D a) r) ↔ r < 2 ^ n ∧ v (64 * b + r) ≠ w (64 * b + r) := by
  by_cases h : r < 2 ^ n
  · rw [ne_tb (hl h).1 (hl h).2]
    constructor
    · rintro ⟨a, ha, q⟩
      rw [hC a ha r hr, hD a ha r hr, decide_eq_true h, Bool.true_and, Bool.true_and] at q
      exact ⟨h, a, ha, q⟩
    · rintro ⟨-, a, ha, q⟩
      refine ⟨a, ha, ?_⟩
      rw [hC a ha r hr, hD a ha r hr, decide_eq_true h, Bool.true_and, Bool.true_and]
      exact q
  · constructor
    · rintro ⟨a, ha, q⟩
      rw [hC a ha r hr, hD a ha r hr, decide_eq_false h] at q
      exact absurd rfl q
    · exact fun q => absurd q.1 h
set_option maxHeartbeats 4000000 in
set_option maxRecDepth 100000 in
theorem lp_X4_differing {l : Launch} {X : Cx} {V : Vx} {P : Option Value → (Nat → va_E) → Prop} {I : Nat → Nat → Int32} {L : Nat → Nat → Int64} (C : CX l X V RX4 cX4_differing 6 wsX4_differing 1 0 0 (some .long)) {k q n : Nat} (hk : kd k = 4) (hq : kd q = 4) (hn : n ≤ 8) (hP : ∀ x, (∀ r, r < 64 → (bt x r = true ↔ ∃ a, a < n ∧ bt (L (k + 1) a) r ≠ bt (L (q + 1) a) r)) → P (some (.long x)) (mm V I L)) : ∀ (z i : Nat) (x : Int64), i + z = n → (∀ r, r < 64 → (bt x r = true ↔ ∃ a, a < i ∧ bt (L (k + 1) a) r ≠ bt (L (q + 1) a) r)) → E X V P 6 5 [(0, .ref (ad V k)), (1, .ref (ad V q)), (2, .int (nI n)), (3, .long x), (5, .int (nI i))] [] I L := by
  obtain ⟨hk1, hkl⟩ := kd4 hk
  have hk106 := kd_lt hk (by decide)
  obtain ⟨hq1, hql⟩ := kd4 hq
  have hq106 := kd_lt hq (by decide)
  intro z
  induction z with
  | zero =>
    intro i x hi hb
    obtain rfl : i = n := by omega
    refine J.iload C dX4_differing_5 rfl ?_
    refine J.iload_n C dX4_differing_7 rfl ?_
    first | refine J.icmp_ge_n C (by omega) (by omega) dX4_differing_8 (tgt := 35) (by decide) (fun _ => ?_) (fun c8 => absurd c8 (by first | omega | decide | simp_all)) | refine J.icmp_ge_xn C (by omega) dX4_differing_8 (tgt := 35) (by decide) (fun _ => ?_) (fun c8 => absurd c8 (by first | omega | decide | simp_all)) | refine J.icmp_ge_nx C (by omega) dX4_differing_8 (tgt := 35) (by decide) (fun _ => ?_) (fun c8 => absurd c8 (by first | omega | decide | simp_all)) | refine J.icmp_ge C dX4_differing_8 (tgt := 35) (by decide) (fun _ => ?_) (fun c8 => absurd c8 (by first | omega | decide | simp_all))
    refine J.lload_n C dX4_differing_35 rfl ?_
    exact J.lret C dX4_differing_36 (hP x hb)
  | succ z ih =>
    intro i x hi hb
    refine J.iload C dX4_differing_5 rfl ?_
    refine J.iload_n C dX4_differing_7 rfl ?_
    first | refine J.icmp_ge_n C (by omega) (by omega) dX4_differing_8 (tgt := 35) (by decide) (fun c8 => absurd c8 (by first | omega | decide | simp_all)) (fun _ => ?_) | refine J.icmp_ge_xn C (by omega) dX4_differing_8 (tgt := 35) (by decide) (fun c8 => absurd c8 (by first | omega | decide | simp_all)) (fun _ => ?_) | refine J.icmp_ge_nx C (by omega) dX4_differing_8 (tgt := 35) (by decide) (fun c8 => absurd c8 (by first | omega | decide | simp_all)) (fun _ => ?_) | refine J.icmp_ge C dX4_differing_8 (tgt := 35) (by decide) (fun c8 => absurd c8 (by first | omega | decide | simp_all)) (fun _ => ?_)
    refine J.lload_n C dX4_differing_11 rfl ?_
    refine J.aload_n C dX4_differing_12 rfl ?_
    refine J.getR C flX4_differing_9 (by first | decide | omega) (by first | exact rfl | exact mk_4 (by assumption)) (by exact rfl) dX4_differing_13 ?_
    refine J.iload C dX4_differing_16 rfl ?_
    refine J.la C (by first | exact rfl | assumption) (by first | exact rfl | exact rfl) (by first | (have h_ln := ln_all; have h_l2 := ln_all2; omega) | omega) (by first | ((repeat (first | rewrite [up2_n _ _ _ (by first | decide | omega)] | rewrite [up2_m _ _ _ (by decide)] | rewrite [up3_n _ _ _ (by first | decide | omega)])) <;> (first | exact up2_s _ _ _ _ | exact up3_s _ _ _ _ | assumption | exact rfl))) dX4_differing_18 ?_
    refine J.aload_n C dX4_differing_19 rfl ?_
    refine J.getR C flX4_differing_9 (by first | decide | omega) (by first | exact rfl | exact mk_4 (by assumption)) (by exact rfl) dX4_differing_20 ?_
    refine J.iload C dX4_differing_23 rfl ?_
    refine J.la C (by first | exact rfl | assumption) (by first | exact rfl | exact rfl) (by first | (have h_ln := ln_all; have h_l2 := ln_all2; omega) | omega) (by first | ((repeat (first | rewrite [up2_n _ _ _ (by first | decide | omega)] | rewrite [up2_m _ _ _ (by decide)] | rewrite [up3_n _ _ _ (by first | decide | omega)])) <;> (first | exact up2_s _ _ _ _ | exact up3_s _ _ _ _ | assumption | exact rfl))) dX4_differing_25 ?_
    refine J.lxor C dX4_differing_26 ?_
    refine J.lor C dX4_differing_27 ?_
    refine J.lstore_n (ls' := [(0, _), (1, _), (2, _), (3, _), (5, _)]) C dX4_differing_28 (by decide) rfl ?_
    refine J.iinc (ls' := [(0, _), (1, _), (2, _), (3, _), (5, _)]) C dX4_differing_29 rfl (by first | exact nI_inc _ 1 | exact rfl) (by decide) rfl ?_
    refine J.goto C dX4_differing_32 (tgt := 5) (by decide) ?_
    refine ih (i + 1) _ (by omega) (fun r hr => ?_)
    rw [bt_or, bt_xor, Bool.or_eq_true, hb r hr]
    constructor
    · rintro (⟨a, h1, h2⟩ | h4)
      · exact ⟨a, by omega, h2⟩
      · exact ⟨i, by omega, fun e => by rw [e, Bool.xor_self] at h4; cases h4⟩
    · rintro ⟨a, h1, h2⟩
      by_cases e : a = i
      · subst e
        refine Or.inr ?_
        revert h2
        cases bt (L (k + 1) a) r <;> cases bt (L (q + 1) a) r <;> simp
      · exact Or.inl ⟨a, by omega, h2⟩
set_option maxHeartbeats 4000000 in
set_option maxRecDepth 100000 in
theorem ok_X4_differing (l : Launch) (V : Vx) {k q n : Nat} (I : Nat → Nat → Int32) (L : Nat → Nat → Int64) (hk : kd k = 4) (hq : kd q = 4) (hn : n ≤ 8) : Gl l V yX4_differing wsX4_differing 1 [.ref (ad V k), .ref (ad V q), .int (nI n)] I L (fun x I' L' => I' = I ∧ L' = L ∧ ∀ r, r < 64 → (bt x r = true ↔ ∃ a, a < n ∧ bt (L (k + 1) a) r ≠ bt (L (q + 1) a) r)) := by
  refine Ok.of (cc := cX4_differing) (maxL := 6) (ret := (some .long)) (by decide) rfl (Nat.le_of_ble_eq_true rfl) (fun X hnm C => ?_)
  have C : CX l X V RX4 cX4_differing 6 wsX4_differing 1 0 0 (some .long) := C
  refine J.cast (ls' := [(0, _), (1, _), (2, _)]) rfl rfl rfl rfl ?_
  refine J.lconst C dX4_differing_0 (v := 0) (by decide) ?_
  refine J.lstore_n (ls' := [(0, _), (1, _), (2, _), (3, _)]) C dX4_differing_1 (by decide) rfl ?_
  refine J.iconst C dX4_differing_2 (v := (nI 0)) (by decide) ?_
  refine J.istore (ls' := [(0, _), (1, _), (2, _), (3, _), (5, _)]) C dX4_differing_3 (by decide) rfl ?_
  refine lp_X4_differing C hk hq hn (fun x hx => ?_) n 0 0 (by omega) (fun r hr => ⟨(fun q => (by rw [bt_0] at q; cases q)), (fun ⟨a, h1, _⟩ => (by omega))⟩)
  exact ⟨x, I, L, rfl, rfl, rfl, rfl, hx⟩
set_option maxHeartbeats 4000000 in
set_option maxRecDepth 100000 in
theorem lp_X5_unlike {l : Launch} {X : Cx} {V : Vx} {P : Option Value → (Nat → va_E) → Prop} {I : Nat → Nat → Int32} {L : Nat → Nat → Int64} (C : CX l X V RX5 cX5_unlike 6 wsX5_unlike 4 0 0 (some .int)) {g1 t : Nt} {k : Nat} (ok : okN g1) (hN : netC I 1 g1) (hk : k < 4) (okT : okN t) (hT : netC I (65 + 2 * k) t) (ht : t.1 = g1.1) (hP : ∀ L0 r, (∀ q, q < 57 ∨ 61 ≤ q → L0 q = L q) → lst (2 ^ g1.1) (fun r => gk g1.2.2 (-1) r g1.2.1 ≠ gk t.2.2 (-1) r t.2.1) = some r → P (some (.int (nI r))) (mm V I L0)) (hPn : ∀ L0, (∀ q, q < 57 ∨ 61 ≤ q → L0 q = L q) → lst (2 ^ g1.1) (fun r => gk g1.2.2 (-1) r g1.2.1 ≠ gk t.2.2 (-1) r t.2.1) = none → P (some (.int (-8))) (mm V (fC I) L0)) : ∀ (z b : Nat) (L0 : Nat → Nat → Int64), b + z = 2 ^ (g1.1 - 6) → (∀ q, q < 57 ∨ 61 ≤ q → L0 q = L q) → (∀ r, r < 64 * b → r < 2 ^ g1.1 → ¬ gk g1.2.2 (-1) r g1.2.1 ≠ gk t.2.2 (-1) r t.2.1) → E X V P 6 18 [(0, .ref (ad V 0)), (1, .int (nI k)), (2, .int (nI 0)), (3, .int (nI b))] [] I L0 := by
  have h8 := ok.2.1
  have h0 := hN.1
  have hkd := kd65 hk
  obtain ⟨hbk, hb4⟩ := blk_n h8
  intro z
  induction z with
  | zero =>
    intro b L0 hb hf hr
    have e : lst (2 ^ g1.1) (fun r => gk g1.2.2 (-1) r g1.2.1 ≠ gk t.2.2 (-1) r t.2.1) = none := lst_eq (show ∀ r, r < 2 ^ g1.1 → ¬ gk g1.2.2 (-1) r g1.2.1 ≠ gk t.2.2 (-1) r t.2.1 from fun r q => hr r (by omega) q)
    refine J.iload_n C dX5_unlike_18 rfl ?_
    refine J.aload_n C dX5_unlike_19 rfl ?_
    refine J.getR C flX5_unlike_10 (by first | decide | omega) rfl (by exact rfl) dX5_unlike_20 ?_
    refine J.getI C flX5_unlike_160 (by first | decide | omega) (by first | exact rfl | exact mk_3 (by assumption)) (by exact rfl) (by first | ((repeat (first | rewrite [up2_n _ _ _ (by first | decide | omega)] | rewrite [up2_m _ _ _ (by decide)] | rewrite [up3_n _ _ _ (by first | decide | omega)])) <;> (first | exact up2_s _ _ _ _ | exact up3_s _ _ _ _ | assumption | exact rfl))) dX5_unlike_23 ?_
    refine J.cSDi C (ok_X4_blocks l V _ _ h8) gX5_unlike_X4_blocks rfl mfX4_blocks (by decide) (by decide) rfl rfl (Nat.le_of_ble_eq_true rfl) dX5_unlike_26 (Nat.le_refl _) (Nat.le_refl _) ?_
    first | refine J.icmp_ge_n C (by omega) (by omega) dX5_unlike_29 (tgt := 128) (by decide) (fun _ => ?_) (fun c29 => absurd c29 (by first | omega | decide | simp_all)) | refine J.icmp_ge_xn C (by omega) dX5_unlike_29 (tgt := 128) (by decide) (fun _ => ?_) (fun c29 => absurd c29 (by first | omega | decide | simp_all)) | refine J.icmp_ge_nx C (by omega) dX5_unlike_29 (tgt := 128) (by decide) (fun _ => ?_) (fun c29 => absurd c29 (by first | omega | decide | simp_all)) | refine J.icmp_ge C dX5_unlike_29 (tgt := 128) (by decide) (fun _ => ?_) (fun c29 => absurd c29 (by first | omega | decide | simp_all))
    refine J.aload_n C dX5_unlike_128 rfl ?_
    refine J.bipush C dX5_unlike_129 (v := (-8)) (by decide) ?_
    refine J.cVDi (q := (RX5, TX5, 11)) (ci := 5) C (ok_X5_finding l V _ _ _) gX5_unlike_X5_finding rfl mfX5_finding rfl (by decide) (by decide) (by first | decide | omega) rfl rfl rfl rfl (Nat.le_of_ble_eq_true rfl) dX5_unlike_131 (Nat.le_refl _) (Nat.le_refl _) ?_
    exact J.iret C dX5_unlike_134 (hPn L0 hf e)
  | succ z ih =>
    intro b L0 hb hf hr
    have hbb : b < 2 ^ (g1.1 - 6) := by omega
    refine J.iload_n C dX5_unlike_18 rfl ?_
    refine J.aload_n C dX5_unlike_19 rfl ?_
    refine J.getR C flX5_unlike_10 (by first | decide | omega) rfl (by exact rfl) dX5_unlike_20 ?_
    refine J.getI C flX5_unlike_160 (by first | decide | omega) (by first | exact rfl | exact mk_3 (by assumption)) (by exact rfl) (by first | ((repeat (first | rewrite [up2_n _ _ _ (by first | decide | omega)] | rewrite [up2_m _ _ _ (by decide)] | rewrite [up3_n _ _ _ (by first | decide | omega)])) <;> (first | exact up2_s _ _ _ _ | exact up3_s _ _ _ _ | assumption | exact rfl))) dX5_unlike_23 ?_
    refine J.cSDi C (ok_X4_blocks l V _ _ h8) gX5_unlike_X4_blocks rfl mfX4_blocks (by decide) (by decide) rfl rfl (Nat.le_of_ble_eq_true rfl) dX5_unlike_26 (Nat.le_refl _) (Nat.le_refl _) ?_
    first | refine J.icmp_ge_n C (by omega) (by omega) dX5_unlike_29 (tgt := 128) (by decide) (fun c29 => absurd c29 (by first | omega | decide | simp_all)) (fun _ => ?_) | refine J.icmp_ge_xn C (by omega) dX5_unlike_29 (tgt := 128) (by decide) (fun c29 => absurd c29 (by first | omega | decide | simp_all)) (fun _ => ?_) | refine J.icmp_ge_nx C (by omega) dX5_unlike_29 (tgt := 128) (by decide) (fun c29 => absurd c29 (by first | omega | decide | simp_all)) (fun _ => ?_) | refine J.icmp_ge C dX5_unlike_29 (tgt := 128) (by decide) (fun c29 => absurd c29 (by first | omega | decide | simp_all)) (fun _ => ?_)
    refine J.aload_n C dX5_unlike_32 rfl ?_
    refine J.getR C flX5_unlike_36 (by first | decide | omega) rfl (by exact rfl) dX5_unlike_33 ?_
    refine J.aload_n C dX5_unlike_36 rfl ?_
    refine J.getR C flX5_unlike_10 (by first | decide | omega) rfl (by exact rfl) dX5_unlike_37 ?_
    refine J.getI C flX5_unlike_160 (by first | decide | omega) (by first | exact rfl | exact mk_3 (by assumption)) (by exact rfl) (by first | ((repeat (first | rewrite [up2_n _ _ _ (by first | decide | omega)] | rewrite [up2_m _ _ _ (by decide)] | rewrite [up3_n _ _ _ (by first | decide | omega)])) <;> (first | exact up2_s _ _ _ _ | exact up3_s _ _ _ _ | assumption | exact rfl))) dX5_unlike_40 ?_
    refine J.iload_n C dX5_unlike_43 rfl ?_
    refine J.cVGv (q := (RX4, TX4, 2)) (ci := 4) C (ok_X4_start l V (k := 57) (b := b) _ _ rfl h8 (by omega)) gX5_unlike_X4_start rfl mfX4_start rfl (by decide) (by decide) (by first | decide | omega) (by first | exact rfl | exact mk_4 (by assumption)) rfl rfl rfl (Nat.le_of_ble_eq_true rfl) dX5_unlike_44 (Nat.le_refl _) (Nat.le_refl _) (fun I44 L44 h44 => ?_)
    obtain ⟨rfl, ha, hc, hf2⟩ := h44
    have hR := RwI_0 h8 (show b < 4 by omega) hc
    have hA : RwA g1.1 (L44 57 1) := by rw [ha]; exact alV_b h8
    refine J.aload_n C dX5_unlike_47 rfl ?_
    refine J.getR C flX5_unlike_36 (by first | decide | omega) rfl (by exact rfl) dX5_unlike_48 ?_
    refine J.aload_n C dX5_unlike_51 rfl ?_
    refine J.getR C flX5_unlike_10 (by first | decide | omega) rfl (by exact rfl) dX5_unlike_52 ?_
    refine J.iconst C dX5_unlike_55 (v := (-1)) (by decide) ?_
    refine J.cVGv (q := (RX4, TX4, 2)) (ci := 4) C (ok_X4_pass l V (k := 57) (q := 1) (b := b) _ _ rfl rfl ok hN hA hR) gX5_unlike_X4_pass rfl mfX4_pass rfl (by decide) (by decide) (by first | decide | omega) (by first | exact rfl | exact mk_4 (by assumption)) rfl rfl rfl (Nat.le_of_ble_eq_true rfl) dX5_unlike_56 (Nat.le_refl _) (Nat.le_refl _) (fun I56 L56 h56 => ?_)
    obtain ⟨rfl, hp1, hp2, hp3⟩ := h56
    rw [toInt_m1] at hp3
    refine J.aload_n C dX5_unlike_59 rfl ?_
    refine J.getR C flX5_unlike_40 (by first | decide | omega) rfl (by exact rfl) dX5_unlike_60 ?_
    refine J.aload_n C dX5_unlike_63 rfl ?_
    refine J.getR C flX5_unlike_10 (by first | decide | omega) rfl (by exact rfl) dX5_unlike_64 ?_
    refine J.getI C flX5_unlike_160 (by first | decide | omega) (by first | exact rfl | exact mk_3 (by assumption)) (by exact rfl) (by first | ((repeat (first | rewrite [up2_n _ _ _ (by first | decide | omega)] | rewrite [up2_m _ _ _ (by decide)] | rewrite [up3_n _ _ _ (by first | decide | omega)])) <;> (first | exact up2_s _ _ _ _ | exact up3_s _ _ _ _ | assumption | exact rfl))) dX5_unlike_67 ?_
    refine J.iload_n C dX5_unlike_70 rfl ?_
    refine J.cVGv (q := (RX4, TX4, 2)) (ci := 4) C (ok_X4_start l V (k := 59) (b := b) _ _ rfl h8 (by omega)) gX5_unlike_X4_start rfl mfX4_start rfl (by decide) (by decide) (by first | decide | omega) (by first | exact rfl | exact mk_4 (by assumption)) rfl rfl rfl (Nat.le_of_ble_eq_true rfl) dX5_unlike_71 (Nat.le_refl _) (Nat.le_refl _) (fun I71 L71 h71 => ?_)
    obtain ⟨rfl, ha', hc', hf3⟩ := h71
    rw [← ht] at ha' hc'
    have hR' := RwI_0 (show t.1 ≤ 8 by omega) (show b < 4 by omega) hc'
    have hA' : RwA t.1 (L71 59 1) := by rw [ha']; exact alV_b (by omega)
    refine J.aload_n C dX5_unlike_74 rfl ?_
    refine J.getR C flX5_unlike_40 (by first | decide | omega) rfl (by exact rfl) dX5_unlike_75 ?_
    refine J.aload_n C dX5_unlike_78 rfl ?_
    refine J.getR C flX5_unlike_16 (by first | decide | omega) rfl (by exact rfl) dX5_unlike_79 ?_
    refine J.iload_n C dX5_unlike_82 rfl ?_
    refine J.aa C (by first | exact Or.inl rfl | exact Or.inr rfl) (by first | exact rfl | exact rfl) (by first | (have h_ln := ln_all; have h_l2 := ln_all2; omega) | omega) dX5_unlike_83 ?_
    rw [show rid 3 k = 65 + 2 * k from rfl]
    refine J.iconst C dX5_unlike_84 (v := (-1)) (by decide) ?_
    refine J.cVGv (q := (RX4, TX4, 2)) (ci := 4) C (ok_X4_pass l V (k := 59) (q := 65 + 2 * k) (b := b) _ _ rfl hkd okT hT hA' hR') gX5_unlike_X4_pass rfl mfX4_pass rfl (by decide) (by decide) (by first | decide | omega) (by first | exact rfl | exact mk_4 (by assumption)) rfl rfl rfl (Nat.le_of_ble_eq_true rfl) dX5_unlike_85 (Nat.le_refl _) (Nat.le_refl _) (fun I85 L85 h85 => ?_)
    obtain ⟨rfl, hq1, hq2, hq3⟩ := h85
    rw [toInt_m1, ht] at hq3
    have hp4 : RwI g1.1 b (L85 58) (fun r => gk g1.2.2 (-1) r g1.2.1) := by rw [hq2 58 (by decide), hf3 58 (by decide) (by decide)]; exact hp3
    refine J.aload_n C dX5_unlike_88 rfl ?_
    refine J.getR C flX5_unlike_36 (by first | decide | omega) rfl (by exact rfl) dX5_unlike_89 ?_
    refine J.aload_n C dX5_unlike_92 rfl ?_
    refine J.getR C flX5_unlike_40 (by first | decide | omega) rfl (by exact rfl) dX5_unlike_93 ?_
    refine J.aload_n C dX5_unlike_96 rfl ?_
    refine J.getR C flX5_unlike_10 (by first | decide | omega) rfl (by exact rfl) dX5_unlike_97 ?_
    refine J.getI C flX5_unlike_160 (by first | decide | omega) (by first | exact rfl | exact mk_3 (by assumption)) (by exact rfl) (by first | ((repeat (first | rewrite [up2_n _ _ _ (by first | decide | omega)] | rewrite [up2_m _ _ _ (by decide)] | rewrite [up3_n _ _ _ (by first | decide | omega)])) <;> (first | exact up2_s _ _ _ _ | exact up3_s _ _ _ _ | assumption | exact rfl))) dX5_unlike_100 ?_
    refine J.cVGl (q := (RX4, TX4, 2)) (ci := 4) C (ok_X4_differing l V (k := 57) (q := 59) _ _ rfl rfl h8) gX5_unlike_X4_differing rfl mfX4_differing rfl (by decide) (by decide) (by first | decide | omega) (by first | exact rfl | exact mk_4 (by assumption)) rfl rfl rfl (Nat.le_of_ble_eq_true rfl) dX5_unlike_103 (Nat.le_refl _) (Nat.le_refl _) (fun r103 I103 L103 h103 => ?_)
    obtain ⟨rfl, rfl, hx⟩ := h103
    have hff : ∀ q, q < 57 ∨ 61 ≤ q → L103 q = L q := fun q a => by rw [hq2 q (by omega), hf3 q (by omega) (by omega), hp2 q (by omega), hf2 q (by omega) (by omega)]; exact hf q a
    have hbit : ∀ r, r < 64 → (bt r103 r = true ↔ 64 * b + r < 2 ^ g1.1 ∧ gk g1.2.2 (-1) (64 * b + r) g1.2.1 ≠ gk t.2.2 (-1) (64 * b + r) t.2.1) := fun r q => by
      rw [hx r q, dif_b hp4 hq3 q (fun y => ⟨gk_lt ok ((rb64 h8 hbb q).1.mp y) _ (Nat.le_refl _), by have u := gk_lt okT (s := -1) (r := 64 * b + r) (by rw [ht]; exact (rb64 h8 hbb q).1.mp y) t.2.1 (Nat.le_refl _); rw [ht] at u; exact u⟩), (rb64 h8 hbb q).1]
    refine J.lstore (ls' := [(0, _), (1, _), (2, _), (3, _), (4, _)]) C dX5_unlike_106 (by decide) rfl ?_
    refine J.lload C dX5_unlike_108 rfl ?_
    refine J.lconst C dX5_unlike_110 (v := 0) (by decide) ?_
    refine J.lcmp C dX5_unlike_111 ?_
    refine J.if_eq_c C dX5_unlike_112 (tgt := 122) (by decide) (fun c112t => ?_) (fun c112f => ?_)
    · refine J.iinc (ls' := [(0, _), (1, _), (2, _), (3, _), (4, _)]) C dX5_unlike_122 rfl (by first | exact nI_inc _ 1 | exact rfl) (by decide) rfl ?_
      refine J.goto C dX5_unlike_125 (tgt := 18) (by decide) ?_
      refine J.lsx (ls' := [(0, _), (1, _), (2, _), (3, _)]) (ex := [(4, _)]) rfl ?_
      refine ih (b + 1) L103 (by omega) hff (fun r q1 q2 => ?_)
      by_cases z : r < 64 * b
      · exact hr r z q2
      · intro w
        have y := (hbit (r - 64 * b) (by omega)).mpr (by rw [show 64 * b + (r - 64 * b) = r by omega]; exact ⟨q2, w⟩)
        rw [c112t, bt_0] at y
        cases y
    · obtain ⟨r0, hr0, h1, h2⟩ := low_x c112f
      have hbad := (hbit r0 hr0).mp h1
      have e : lst (2 ^ g1.1) (fun r => gk g1.2.2 (-1) r g1.2.1 ≠ gk t.2.2 (-1) r t.2.1) = some (64 * b + r0) := lst_eq ⟨hbad.1, hbad.2, fun r q => by
        by_cases z : r < 64 * b
        · exact hr r z (by omega)
        · intro w
          have y := (hbit (r - 64 * b) (by omega)).mpr (by rw [show 64 * b + (r - 64 * b) = r by omega]; exact ⟨by omega, w⟩)
          rw [h2 _ (by omega)] at y
          cases y⟩
      refine J.lload C dX5_unlike_115 rfl ?_
      refine J.iload_n C dX5_unlike_117 rfl ?_
      refine J.cSDi C (ok_X4_leastOf l V _ _ (by omega) hr0 h1 h2) gX5_unlike_X4_leastOf rfl mfX4_leastOf (by decide) (by decide) rfl rfl (Nat.le_of_ble_eq_true rfl) dX5_unlike_118 (Nat.le_refl _) (Nat.le_refl _) ?_
      exact J.iret C dX5_unlike_121 (hP L103 _ hff e)
theorem qC_rw4 {I : Nat → Nat → Int32} {L L' : Nat → Nat → Int64} {g : Sg} {z : Int32} (h : AbC I L g) (hf : ∀ q, q < 57 ∨ 61 ≤ q → L' q = L q) : qC I L (z, g) z I L' := ⟨rfl, AbC_fr h (fun _ _ _ _ => rfl) (fun k a b => hf k (by omega)), frC_rfl, fun q a => hf q (by omega)⟩
theorem qC_rF4 {I : Nat → Nat → Int32} {L L' : Nat → Nat → Int64} {g : Sg} {z : Int32} (h : AbC I L g) (hf : ∀ q, q < 57 ∨ 61 ≤ q → L' q = L q) : qC I L (z, gF g) z (fC I) L' := ⟨rfl, AbC_F (AbC_fr h (fun _ _ _ _ => rfl) (fun k a b => hf k (by omega))), frC_up (by decide) frC_rfl, fun q a => hf q (by omega)⟩
set_option maxHeartbeats 4000000 in
set_option maxRecDepth 100000 in
theorem ok_X5_unlike (l : Launch) (V : Vx) {g : Sg} {x1 : Int32} {o1 : Option Nat} (I : Nat → Nat → Int32) (L : Nat → Nat → Int64) (hx1 : AG x1 o1) (hz : V.2.2.2.2.2 = false) (h : AbC I L g) (ok : okG g) : PC l V yX5_unlike wsX5_unlike 4 [.ref (ad V 0), .int x1] I L (op_unlike g o1) := by
  have hN := h.1
  have h0 := hN.1
  have hm := hN.2.1
  have hl2 := ok.1.1
  have hl8 := ok.1.2.1
  have h40 := ok.1.2.2.1
  by_cases hi : inO o1 4
  · obtain ⟨k, rfl, hk⟩ := id hi
    obtain ⟨-, rfl⟩ := hx1
    have hkd := kd65 hk
    cases hs : g.2.2.1 k with
    | none =>
      have e : op_unlike g (some k) = (-6, gF g) := by
        unfold op_unlike
        rw [tb_1 hi]
        show (match g.2.2.1 k with | some t => _ | none => _) = _
        rw [hs]
      rw [e]
      refine Ok.of (cc := cX5_unlike) (maxL := 6) (ret := (some .int)) (by decide) rfl (Nat.le_of_ble_eq_true rfl) (fun X hnm C => ?_)
      have C : CX l X V RX5 cX5_unlike 6 wsX5_unlike 4 0 0 (some .int) := C
      refine J.cast (ls' := [(0, _), (1, _)]) rfl rfl rfl rfl ?_
      refine J.aload_n C dX5_unlike_0 rfl ?_
      refine J.iload_n C dX5_unlike_1 rfl ?_
      refine J.cVDi (q := (RX5, TX5, 11)) (ci := 5) C (ok_X5_findingOfFit_6 l V _ _ hk hs h ok) gX5_unlike_X5_findingOfFit rfl mfX5_findingOfFit rfl (by decide) (by decide) (by first | decide | omega) rfl rfl rfl rfl (Nat.le_of_ble_eq_true rfl) dX5_unlike_2 (Nat.le_refl _) (Nat.le_refl _) ?_
      refine J.istore_n (ls' := [(0, _), (1, _), (2, _)]) C dX5_unlike_5 (by decide) rfl ?_
      refine J.iload_n C dX5_unlike_6 rfl ?_
      refine J.if_ge_z C dX5_unlike_7 (tgt := 16) (by decide) (fun c7 => absurd c7 (by first | omega | decide | simp_all)) (fun _ => ?_)
      refine J.aload_n C dX5_unlike_10 rfl ?_
      refine J.iload_n C dX5_unlike_11 rfl ?_
      refine J.cVDi (q := (RX5, TX5, 11)) (ci := 5) C (ok_X5_finding l V _ _ _) gX5_unlike_X5_finding rfl mfX5_finding rfl (by decide) (by decide) (by first | decide | omega) rfl rfl rfl rfl (Nat.le_of_ble_eq_true rfl) dX5_unlike_12 (Nat.le_refl _) (Nat.le_refl _) ?_
      exact J.iret C dX5_unlike_15 (qC_s (qC_F h))
    | some t =>
      have hT := sC_some h hk hs
      have hokT := ok.2.2.2.1 k t hk hs
      have ht40 := hokT.2.2.1
      have e : op_unlike g (some k) = cond (tb (t.1 = g.1.1)) (match lst (2 ^ g.1.1) (fun r => gk g.1.2.2 (-1) r g.1.2.1 ≠ gk t.2.2 (-1) r t.2.1) with
        | some r => (nI r, g)
        | none => (-8, gF g)) (-3, gF g) := by
        unfold op_unlike
        rw [tb_1 hi]
        show (match g.2.2.1 k with | some t => _ | none => _) = _
        rw [hs]
        rfl
      rw [e]
      by_cases ht : t.1 = g.1.1
      · rw [tb_1 ht]
        refine Ok.of (cc := cX5_unlike) (maxL := 6) (ret := (some .int)) (by decide) rfl (Nat.le_of_ble_eq_true rfl) (fun X hnm C => ?_)
        have C : CX l X V RX5 cX5_unlike 6 wsX5_unlike 4 0 0 (some .int) := C
        refine J.cast (ls' := [(0, _), (1, _)]) rfl rfl rfl rfl ?_
        refine J.aload_n C dX5_unlike_0 rfl ?_
        refine J.iload_n C dX5_unlike_1 rfl ?_
        refine J.cVDi (q := (RX5, TX5, 11)) (ci := 5) C (ok_X5_findingOfFit_0 l V _ _ hk hs ht h ok) gX5_unlike_X5_findingOfFit rfl mfX5_findingOfFit rfl (by decide) (by decide) (by first | decide | omega) rfl rfl rfl rfl (Nat.le_of_ble_eq_true rfl) dX5_unlike_2 (Nat.le_refl _) (Nat.le_refl _) ?_
        refine J.istore_n (ls' := [(0, _), (1, _), (2, _)]) C dX5_unlike_5 (by decide) rfl ?_
        refine J.iload_n C dX5_unlike_6 rfl ?_
        refine J.if_ge_z C dX5_unlike_7 (tgt := 16) (by decide) (fun _ => ?_) (fun c7 => absurd c7 (by first | omega | decide | simp_all))
        refine J.iconst C dX5_unlike_16 (v := (nI 0)) (by decide) ?_
        refine J.istore_n (ls' := [(0, _), (1, _), (2, _), (3, _)]) C dX5_unlike_17 (by decide) rfl ?_
        refine lp_X5_unlike C ok.1 hN hk hokT hT ht (fun L0 r hf el => ?_) (fun L0 hf el => ?_) (2 ^ (g.1.1 - 6)) 0 L (by omega) (fun _ _ => rfl) (fun r q => by omega)
        · rw [el]
          exact qC_s (qC_rw4 h hf)
        · rw [el]
          exact qC_s (qC_rF4 h hf)
      · rw [tb_0 ht]
        refine Ok.of (cc := cX5_unlike) (maxL := 6) (ret := (some .int)) (by decide) rfl (Nat.le_of_ble_eq_true rfl) (fun X hnm C => ?_)
        have C : CX l X V RX5 cX5_unlike 6 wsX5_unlike 4 0 0 (some .int) := C
        refine J.cast (ls' := [(0, _), (1, _)]) rfl rfl rfl rfl ?_
        refine J.aload_n C dX5_unlike_0 rfl ?_
        refine J.iload_n C dX5_unlike_1 rfl ?_
        refine J.cVDi (q := (RX5, TX5, 11)) (ci := 5) C (ok_X5_findingOfFit_3 l V _ _ hk hs ht h ok) gX5_unlike_X5_findingOfFit rfl mfX5_findingOfFit rfl (by decide) (by decide) (by first | decide | omega) rfl rfl rfl rfl (Nat.le_of_ble_eq_true rfl) dX5_unlike_2 (Nat.le_refl _) (Nat.le_refl _) ?_
        refine J.istore_n (ls' := [(0, _), (1, _), (2, _)]) C dX5_unlike_5 (by decide) rfl ?_
        refine J.iload_n C dX5_unlike_6 rfl ?_
        refine J.if_ge_z C dX5_unlike_7 (tgt := 16) (by decide) (fun c7 => absurd c7 (by first | omega | decide | simp_all)) (fun _ => ?_)
        refine J.aload_n C dX5_unlike_10 rfl ?_
        refine J.iload_n C dX5_unlike_11 rfl ?_
        refine J.cVDi (q := (RX5, TX5, 11)) (ci := 5) C (ok_X5_finding l V _ _ _) gX5_unlike_X5_finding rfl mfX5_finding rfl (by decide) (by decide) (by first | decide | omega) rfl rfl rfl rfl (Nat.le_of_ble_eq_true rfl) dX5_unlike_12 (Nat.le_refl _) (Nat.le_refl _) ?_
        exact J.iret C dX5_unlike_15 (qC_s (qC_F h))
  · have e : op_unlike g o1 = (-1, gF g) := by
      unfold op_unlike
      rw [tb_0 hi]
      rfl
    rw [e]
    refine Ok.of (cc := cX5_unlike) (maxL := 6) (ret := (some .int)) (by decide) rfl (Nat.le_of_ble_eq_true rfl) (fun X hnm C => ?_)
    have C : CX l X V RX5 cX5_unlike 6 wsX5_unlike 4 0 0 (some .int) := C
    refine J.cast (ls' := [(0, _), (1, _)]) rfl rfl rfl rfl ?_
    refine J.aload_n C dX5_unlike_0 rfl ?_
    refine J.iload_n C dX5_unlike_1 rfl ?_
    refine J.cVDi (q := (RX5, TX5, 11)) (ci := 5) C (ok_X5_findingOfFit_1 l V _ _ hx1 hi) gX5_unlike_X5_findingOfFit rfl mfX5_findingOfFit rfl (by decide) (by decide) (by first | decide | omega) rfl rfl rfl rfl (Nat.le_of_ble_eq_true rfl) dX5_unlike_2 (Nat.le_refl _) (Nat.le_refl _) ?_
    refine J.istore_n (ls' := [(0, _), (1, _), (2, _)]) C dX5_unlike_5 (by decide) rfl ?_
    refine J.iload_n C dX5_unlike_6 rfl ?_
    refine J.if_ge_z C dX5_unlike_7 (tgt := 16) (by decide) (fun c7 => absurd c7 (by first | omega | decide | simp_all)) (fun _ => ?_)
    refine J.aload_n C dX5_unlike_10 rfl ?_
    refine J.iload_n C dX5_unlike_11 rfl ?_
    refine J.cVDi (q := (RX5, TX5, 11)) (ci := 5) C (ok_X5_finding l V _ _ _) gX5_unlike_X5_finding rfl mfX5_finding rfl (by decide) (by decide) (by first | decide | omega) rfl rfl rfl rfl (Nat.le_of_ble_eq_true rfl) dX5_unlike_12 (Nat.le_refl _) (Nat.le_refl _) ?_
    exact J.iret C dX5_unlike_15 (qC_s (qC_F h))
