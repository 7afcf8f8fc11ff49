/-! THE CLASS: rows through a net -/
set_option maxHeartbeats 4000000 in
set_option maxRecDepth 100000 in
theorem lp_X4_pass {l : Launch} {X : Cx} {V : Vx} {P : Option Value → (Nat → va_E) → Prop} {I : Nat → Nat → Int32} {L : Nat → Nat → Int64} (C : CX l X V RX4 cX4_pass 4 wsX4_pass 3 0 0 none) {k q b : Nat} {t : Nt} {s : Int32} {v : Nat → Nat} (hk : kd k = 4) (hq : kd q = 3) (ok : okN t) (hN : netC I q t) (hA : RwA t.1 (L k 1)) (hP : ∀ L0, L0 k = L k → (∀ r, r ≠ k + 1 → L0 r = L r) → RwI t.1 b (L0 (k + 1)) (fun r => gk t.2.2 s.toInt (v r) t.2.1) → P none (mm V I L0)) : ∀ (z i : Nat) (L0 : Nat → Nat → Int64), i + z = t.2.1 → L0 k = L k → (∀ r, r ≠ k + 1 → L0 r = L r) → RwI t.1 b (L0 (k + 1)) (fun r => gk t.2.2 s.toInt (v r) i) → E X V P 4 2 [(0, .ref (ad V k)), (1, .ref (ad V q)), (2, .int s), (3, .int (nI i))] [] I L0 := by
  obtain ⟨hk1, hkl⟩ := kd4 hk
  have hk106 := kd_lt hk (by decide)
  have hq106 := kd_lt hq (by decide)
  have h40 := ok.2.2.1
  have hl8 := ok.2.1
  have hm := hN.2.1
  intro z
  induction z with
  | zero =>
    intro i L0 hi h0 hf hr
    obtain rfl : i = t.2.1 := by omega
    refine J.iload_n C dX4_pass_2 rfl ?_
    refine J.aload_n C dX4_pass_3 rfl ?_
    refine J.getI C flX4_pass_38 (by first | decide | omega) (by first | exact rfl | exact mk_3 (by assumption)) (by exact rfl) (by first | ((repeat (first | rewrite [up2_n _ _ _ (by first | decide | omega)] | rewrite [up2_m _ _ _ (by decide)] | rewrite [up3_n _ _ _ (by first | decide | omega)])) <;> (first | exact up2_s _ _ _ _ | exact up3_s _ _ _ _ | assumption | exact rfl))) dX4_pass_4 ?_
    first | refine J.icmp_ge_n C (by omega) (by omega) dX4_pass_7 (tgt := 40) (by decide) (fun _ => ?_) (fun c7 => absurd c7 (by first | omega | decide | simp_all)) | refine J.icmp_ge_xn C (by omega) dX4_pass_7 (tgt := 40) (by decide) (fun _ => ?_) (fun c7 => absurd c7 (by first | omega | decide | simp_all)) | refine J.icmp_ge_nx C (by omega) dX4_pass_7 (tgt := 40) (by decide) (fun _ => ?_) (fun c7 => absurd c7 (by first | omega | decide | simp_all)) | refine J.icmp_ge C dX4_pass_7 (tgt := 40) (by decide) (fun _ => ?_) (fun c7 => absurd c7 (by first | omega | decide | simp_all))
    exact J.vret C dX4_pass_40 (hP L0 h0 hf hr)
  | succ z ih =>
    intro i L0 hi h0 hf hr
    have hcc := ok.2.2.2 i (by omega)
    have hcB := okC_B hcc hl8
    have ha4 := actK_lt hcB
    have hi2 := hN.2.2 i (by omega)
    have hA0 : RwA t.1 (L0 k 1) := by rw [h0]; exact hA
    have hab : (t.2.2 i).2.1 ≠ (t.2.2 i).2.2.1 := by have := hcc.2.1; omega
    obtain ⟨hb1, hb2, hb3⟩ := id hcB
    refine J.iload_n C dX4_pass_2 rfl ?_
    refine J.aload_n C dX4_pass_3 rfl ?_
    refine J.getI C flX4_pass_38 (by first | decide | omega) (by first | exact rfl | exact mk_3 (by assumption)) (by exact rfl) (by first | ((repeat (first | rewrite [up2_n _ _ _ (by first | decide | omega)] | rewrite [up2_m _ _ _ (by decide)] | rewrite [up3_n _ _ _ (by first | decide | omega)])) <;> (first | exact up2_s _ _ _ _ | exact up3_s _ _ _ _ | assumption | exact rfl))) dX4_pass_4 ?_
    first | refine J.icmp_ge_n C (by omega) (by omega) dX4_pass_7 (tgt := 40) (by decide) (fun c7 => absurd c7 (by first | omega | decide | simp_all)) (fun _ => ?_) | refine J.icmp_ge_xn C (by omega) dX4_pass_7 (tgt := 40) (by decide) (fun c7 => absurd c7 (by first | omega | decide | simp_all)) (fun _ => ?_) | refine J.icmp_ge_nx C (by omega) dX4_pass_7 (tgt := 40) (by decide) (fun c7 => absurd c7 (by first | omega | decide | simp_all)) (fun _ => ?_) | refine J.icmp_ge C dX4_pass_7 (tgt := 40) (by decide) (fun c7 => absurd c7 (by first | omega | decide | simp_all)) (fun _ => ?_)
    refine J.iload_n C dX4_pass_10 rfl ?_
    refine J.iload_n C dX4_pass_11 rfl ?_
    refine J.icmp_eq_nx C (by omega) dX4_pass_12 (tgt := 34) (by decide) (fun c12t => ?_) (fun c12f => ?_)
    · refine J.iinc (ls' := [(0, _), (1, _), (2, _), (3, _)]) C dX4_pass_34 rfl (by first | exact nI_inc _ 1 | exact rfl) (by decide) rfl ?_
      refine J.goto C dX4_pass_37 (tgt := 2) (by decide) ?_
      refine ih (i + 1) L0 (by omega) h0 hf (fun a ha r hr' => ?_)
      rw [hr a ha r hr']
      show _ = (_ && (gk t.2.2 s.toInt (v (64 * b + r)) (i + 1)).testBit a)
      rw [show gk t.2.2 s.toInt (v (64 * b + r)) (i + 1) = gk t.2.2 s.toInt (v (64 * b + r)) i from if_pos c12t]
    · refine J.aload_n C dX4_pass_15 rfl ?_
      refine J.aload_n C dX4_pass_16 rfl ?_
      refine J.iload_n C dX4_pass_17 rfl ?_
      refine J.cVDi (q := (RX3, TX3, 3)) (ci := 3) C (ok_X3_actingKind l V _ _ hq (by omega) hcB hi2) gX4_pass_X3_actingKind rfl mfX3_actingKind rfl (by decide) (by decide) (by first | decide | omega) (by first | exact rfl | exact mk_3 (by assumption)) rfl rfl rfl (Nat.le_of_ble_eq_true rfl) dX4_pass_18 (Nat.le_refl _) (Nat.le_refl _) ?_
      refine J.aload_n C dX4_pass_21 rfl ?_
      refine J.iload_n C dX4_pass_22 rfl ?_
      refine J.cVDi (q := (RX3, TX3, 3)) (ci := 3) C (ok_X3_low l V _ _ hq (by omega) hcB hi2) gX4_pass_X3_low rfl mfX3_low rfl (by decide) (by decide) (by first | decide | omega) (by first | exact rfl | exact mk_3 (by assumption)) rfl rfl rfl (Nat.le_of_ble_eq_true rfl) dX4_pass_23 (Nat.le_refl _) (Nat.le_refl _) ?_
      refine J.aload_n C dX4_pass_26 rfl ?_
      refine J.iload_n C dX4_pass_27 rfl ?_
      refine J.cVDi (q := (RX3, TX3, 3)) (ci := 3) C (ok_X3_high l V _ _ hq (by omega) hcB hi2) gX4_pass_X3_high rfl mfX3_high rfl (by decide) (by decide) (by first | decide | omega) (by first | exact rfl | exact mk_3 (by assumption)) rfl rfl rfl (Nat.le_of_ble_eq_true rfl) dX4_pass_28 (Nat.le_refl _) (Nat.le_refl _) ?_
      refine J.cVDv (q := (RX4, TX4, 2)) (ci := 4) C (ok_X4_step l V _ _ hk ha4 hb2 hb3 hab rfl rfl rfl) gX4_pass_X4_step rfl mfX4_step rfl (by decide) (by decide) (by first | decide | omega) (by first | exact rfl | exact mk_4 (by assumption)) rfl rfl rfl (Nat.le_of_ble_eq_true rfl) dX4_pass_31 (Nat.le_refl _) (Nat.le_refl _) ?_
      refine J.iinc (ls' := [(0, _), (1, _), (2, _), (3, _)]) C dX4_pass_34 rfl (by first | exact nI_inc _ 1 | exact rfl) (by decide) rfl ?_
      refine J.goto C dX4_pass_37 (tgt := 2) (by decide) ?_
      refine ih (i + 1) _ (by omega) ?_ (fun r a => by rw [up3_n _ _ _ a, up3_n _ _ _ a]; exact hf r a) ?_
      · rw [up3_n _ _ _ (by omega), up3_n _ _ _ (by omega)]; exact h0
      · have w := RwI_step (C' := up3 (up3 L0 (k + 1) (t.2.2 i).2.1 (L0 (k + 1) (t.2.2 i).2.1 ^^^ (chV (actK (t.2.2 i)) (L0 (k + 1) (t.2.2 i).2.1) (L0 (k + 1) (t.2.2 i).2.2.1) (L0 k 1) &&& (L0 (k + 1) (t.2.2 i).2.1 ^^^ L0 (k + 1) (t.2.2 i).2.2.1)))) (k + 1) (t.2.2 i).2.2.1 (L0 (k + 1) (t.2.2 i).2.2.1 ^^^ (chV (actK (t.2.2 i)) (L0 (k + 1) (t.2.2 i).2.1) (L0 (k + 1) (t.2.2 i).2.2.1) (L0 k 1) &&& (L0 (k + 1) (t.2.2 i).2.1 ^^^ L0 (k + 1) (t.2.2 i).2.2.1))) (k + 1)) hr hA0 hcc (by rw [up3_m _ _ _ hab, up3_s]) (up3_s _ _ _ _) (fun a e1 e2 => by rw [up3_m _ _ _ e2, up3_m _ _ _ e1])
        intro a ha r hr'
        rw [w a ha r hr']
        show _ = (_ && (gk t.2.2 s.toInt (v (64 * b + r)) (i + 1)).testBit a)
        rw [show gk t.2.2 s.toInt (v (64 * b + r)) (i + 1) = stp (t.2.2 i) (gk t.2.2 s.toInt (v (64 * b + r)) i) from if_neg c12f]
set_option maxHeartbeats 4000000 in
set_option maxRecDepth 100000 in
theorem ok_X4_pass (l : Launch) (V : Vx) {k q b : Nat} {t : Nt} {s : Int32} {v : Nat → Nat} (I : Nat → Nat → Int32) (L : Nat → Nat → Int64) (hk : kd k = 4) (hq : kd q = 3) (ok : okN t) (hN : netC I q t) (hA : RwA t.1 (L k 1)) (hr : RwI t.1 b (L (k + 1)) v) : Gv l V yX4_pass wsX4_pass 3 [.ref (ad V k), .ref (ad V q), .int s] I L (fun I' L' => I' = I ∧ L' k = L k ∧ (∀ r, r ≠ k + 1 → L' r = L r) ∧ RwI t.1 b (L' (k + 1)) (fun r => gk t.2.2 s.toInt (v r) t.2.1)) := by
  obtain ⟨hk1, hkl⟩ := kd4 hk
  have hk106 := kd_lt hk (by decide)
  refine Ok.of (cc := cX4_pass) (maxL := 4) (ret := none) (by decide) rfl (Nat.le_of_ble_eq_true rfl) (fun X hnm C => ?_)
  have C : CX l X V RX4 cX4_pass 4 wsX4_pass 3 0 0 none := C
  refine J.cast (ls' := [(0, _), (1, _), (2, _)]) rfl rfl rfl rfl ?_
  refine J.iconst C dX4_pass_0 (v := (nI 0)) (by decide) ?_
  refine J.istore_n (ls' := [(0, _), (1, _), (2, _), (3, _)]) C dX4_pass_1 (by decide) rfl ?_
  refine lp_X4_pass C hk hq ok hN hA (fun L0 h1 h2 h3 => ?_) t.2.1 0 L (by omega) rfl (fun _ _ => rfl) hr
  exact ⟨I, L0, rfl, rfl, rfl, h1, h2, h3⟩
set_option maxHeartbeats 4000000 in
set_option maxRecDepth 100000 in
theorem lp_X4_falling {l : Launch} {X : Cx} {V : Vx} {P : Option Value → (Nat → va_E) → Prop} {I : Nat → Nat → Int32} {L : Nat → Nat → Int64} (C : CX l X V RX4 cX4_falling 6 wsX4_falling 1 0 0 (some .long)) {k f n : Nat} (hk : kd k = 4) (hn : n ≤ 8) (hP : ∀ x, (∀ r, r < 64 → (bt x r = true ↔ ∃ a, f ≤ a ∧ a < n ∧ a + 1 < n ∧ bt (L (k + 1) a) r = true ∧ bt (L (k + 1) (a + 1)) r = false)) → P (some (.long x)) (mm V I L)) : ∀ (z i : Nat) (x : Int64), n ≤ i + 1 + z → i ≤ 8 → f ≤ i → (∀ r, r < 64 → (bt x r = true ↔ ∃ a, f ≤ a ∧ a < i ∧ a + 1 < n ∧ bt (L (k + 1) a) r = true ∧ bt (L (k + 1) (a + 1)) r = false)) → E X V P 6 5 [(0, .ref (ad V k)), (1, .int (nI f)), (2, .int (nI n)), (3, .long x), (5, .int (nI i))] [] I L := by
  obtain ⟨hk1, hkl⟩ := kd4 hk
  have hk106 := kd_lt hk (by decide)
  have fin : ∀ (i : Nat) (x : Int64), n ≤ i + 1 → (∀ r, r < 64 → (bt x r = true ↔ ∃ a, f ≤ a ∧ a < i ∧ a + 1 < n ∧ bt (L (k + 1) a) r = true ∧ bt (L (k + 1) (a + 1)) r = false)) → (∀ r, r < 64 → (bt x r = true ↔ ∃ a, f ≤ a ∧ a < n ∧ a + 1 < n ∧ bt (L (k + 1) a) r = true ∧ bt (L (k + 1) (a + 1)) r = false)) := fun i x hi h r hr => by
    rw [h r hr]
    constructor
    · intro ⟨a, h1, h2, h3, h4⟩; exact ⟨a, h1, by omega, h3, h4⟩
    · intro ⟨a, h1, h2, h3, h4⟩; exact ⟨a, h1, by omega, h3, h4⟩
  intro z
  induction z with
  | zero =>
    intro i x hi h8 hfi hb
    refine J.iload C dX4_falling_5 rfl ?_
    refine J.iconst C dX4_falling_7 (v := (nI 1)) (by decide) ?_
    first | refine J.iadd_n C dX4_falling_8 ?_ | refine J.iadd C dX4_falling_8 ?_
    refine J.iload_n C dX4_falling_9 rfl ?_
    first | refine J.icmp_ge_n C (by omega) (by omega) dX4_falling_10 (tgt := 43) (by decide) (fun _ => ?_) (fun c10 => absurd c10 (by first | omega | decide | simp_all)) | refine J.icmp_ge_xn C (by omega) dX4_falling_10 (tgt := 43) (by decide) (fun _ => ?_) (fun c10 => absurd c10 (by first | omega | decide | simp_all)) | refine J.icmp_ge_nx C (by omega) dX4_falling_10 (tgt := 43) (by decide) (fun _ => ?_) (fun c10 => absurd c10 (by first | omega | decide | simp_all)) | refine J.icmp_ge C dX4_falling_10 (tgt := 43) (by decide) (fun _ => ?_) (fun c10 => absurd c10 (by first | omega | decide | simp_all))
    refine J.lload_n C dX4_falling_43 rfl ?_
    exact J.lret C dX4_falling_44 (hP x (fin i x (by omega) hb))
  | succ z ih =>
    intro i x hi h8 hfi hb
    refine J.iload C dX4_falling_5 rfl ?_
    refine J.iconst C dX4_falling_7 (v := (nI 1)) (by decide) ?_
    first | refine J.iadd_n C dX4_falling_8 ?_ | refine J.iadd C dX4_falling_8 ?_
    refine J.iload_n C dX4_falling_9 rfl ?_
    first | refine J.icmp_ge_n C (by omega) (by omega) dX4_falling_10 (tgt := 43) (by decide) (fun c10t => ?_) (fun c10f => ?_) | refine J.icmp_ge_xn C (by omega) dX4_falling_10 (tgt := 43) (by decide) (fun c10t => ?_) (fun c10f => ?_) | refine J.icmp_ge_nx C (by omega) dX4_falling_10 (tgt := 43) (by decide) (fun c10t => ?_) (fun c10f => ?_) | refine J.icmp_ge C dX4_falling_10 (tgt := 43) (by decide) (fun c10t => ?_) (fun c10f => ?_)
    · refine J.lload_n C dX4_falling_43 rfl ?_
      exact J.lret C dX4_falling_44 (hP x (fin i x (by omega) hb))
    · refine J.lload_n C dX4_falling_13 rfl ?_
      refine J.aload_n C dX4_falling_14 rfl ?_
      refine J.getR C flX4_falling_9 (by first | decide | omega) (by first | exact rfl | exact mk_4 (by assumption)) (by exact rfl) dX4_falling_15 ?_
      refine J.iload C dX4_falling_18 rfl ?_
      refine J.la C (by first | exact rfl | assumption) (by first | exact rfl | exact rfl) (by first | (have h_ln := ln_all; have h_l2 := ln_all2; omega) | omega) (by first | ((repeat (first | rewrite [up2_n _ _ _ (by first | decide | omega)] | rewrite [up2_m _ _ _ (by decide)] | rewrite [up3_n _ _ _ (by first | decide | omega)])) <;> (first | exact up2_s _ _ _ _ | exact up3_s _ _ _ _ | assumption | exact rfl))) dX4_falling_20 ?_
      refine J.aload_n C dX4_falling_21 rfl ?_
      refine J.getR C flX4_falling_9 (by first | decide | omega) (by first | exact rfl | exact mk_4 (by assumption)) (by exact rfl) dX4_falling_22 ?_
      refine J.iload C dX4_falling_25 rfl ?_
      refine J.iconst C dX4_falling_27 (v := (nI 1)) (by decide) ?_
      first | refine J.iadd_n C dX4_falling_28 ?_ | refine J.iadd C dX4_falling_28 ?_
      refine J.la C (by first | exact rfl | assumption) (by first | exact rfl | exact rfl) (by first | (have h_ln := ln_all; have h_l2 := ln_all2; omega) | omega) (by first | ((repeat (first | rewrite [up2_n _ _ _ (by first | decide | omega)] | rewrite [up2_m _ _ _ (by decide)] | rewrite [up3_n _ _ _ (by first | decide | omega)])) <;> (first | exact up2_s _ _ _ _ | exact up3_s _ _ _ _ | assumption | exact rfl))) dX4_falling_29 ?_
      refine J.ldc2 C (v := -1) (by decide +kernel) dX4_falling_30 ?_
      refine J.lxor C dX4_falling_33 ?_
      refine J.land C dX4_falling_34 ?_
      refine J.lor C dX4_falling_35 ?_
      refine J.lstore_n (ls' := [(0, _), (1, _), (2, _), (3, _), (5, _)]) C dX4_falling_36 (by decide) rfl ?_
      refine J.iinc (ls' := [(0, _), (1, _), (2, _), (3, _), (5, _)]) C dX4_falling_37 rfl (by first | exact nI_inc _ 1 | exact rfl) (by decide) rfl ?_
      refine J.goto C dX4_falling_40 (tgt := 5) (by decide) ?_
      refine ih (i + 1) _ (by omega) (by omega) (by omega) (fun r hr => ?_)
      rw [bt_or, bt_and, bt_not hr, Bool.or_eq_true, hb r hr, Bool.and_eq_true, Bool.not_eq_true']
      constructor
      · rintro (⟨a, h1, h2, h3, h4⟩ | h4)
        · exact ⟨a, h1, by omega, h3, h4⟩
        · exact ⟨i, hfi, by omega, by omega, h4⟩
      · rintro ⟨a, h1, h2, h3, h4⟩
        by_cases e : a = i
        · subst e; exact Or.inr h4
        · exact Or.inl ⟨a, h1, by omega, h3, h4⟩
set_option maxHeartbeats 4000000 in
set_option maxRecDepth 100000 in
theorem ok_X4_falling (l : Launch) (V : Vx) {k f n : Nat} (I : Nat → Nat → Int32) (L : Nat → Nat → Int64) (hk : kd k = 4) (hn : n ≤ 8) (hf : f ≤ 8) : Gl l V yX4_falling wsX4_falling 1 [.ref (ad V k), .int (nI f), .int (nI n)] I L (fun x I' L' => I' = I ∧ L' = L ∧ ∀ r, r < 64 → (bt x r = true ↔ ∃ a, f ≤ a ∧ a + 1 < n ∧ bt (L (k + 1) a) r = true ∧ bt (L (k + 1) (a + 1)) r = false)) := by
  refine Ok.of (cc := cX4_falling) (maxL := 6) (ret := (some .long)) (by decide) rfl (Nat.le_of_ble_eq_true rfl) (fun X hnm C => ?_)
  have C : CX l X V RX4 cX4_falling 6 wsX4_falling 1 0 0 (some .long) := C
  refine J.cast (ls' := [(0, _), (1, _), (2, _)]) rfl rfl rfl rfl ?_
  refine J.lconst C dX4_falling_0 (v := 0) (by decide) ?_
  refine J.lstore_n (ls' := [(0, _), (1, _), (2, _), (3, _)]) C dX4_falling_1 (by decide) rfl ?_
  refine J.iload_n C dX4_falling_2 rfl ?_
  refine J.istore (ls' := [(0, _), (1, _), (2, _), (3, _), (5, _)]) C dX4_falling_3 (by decide) rfl ?_
  refine lp_X4_falling C hk hn (f := f) (fun x hx => ?_) 8 f 0 (by omega) hf (Nat.le_refl _) (fun r hr => ⟨(fun q => (by rw [bt_0] at q; cases q)), (fun ⟨a, h1, h2, _⟩ => (by omega))⟩)
  exact ⟨x, I, L, rfl, rfl, rfl, rfl, fun r hr => ⟨(fun q => (by obtain ⟨a, h1, h2, h3, h4⟩ := (hx r hr).mp q; exact ⟨a, h1, h3, h4⟩)), fun ⟨a, h1, h3, h4⟩ => (hx r hr).mpr ⟨a, h1, by omega, h3, h4⟩⟩⟩
theorem rb64 {n b r : Nat} (hn : n ≤ 8) (hb : b < 2 ^ (n - 6)) (hr : r < 64) : (r < 2 ^ n ↔ 64 * b + r < 2 ^ n) ∧ b < 4 := by
  have key : ∀ n, n < 9 → ∀ b, b < 2 ^ (n - 6) → (∀ r, r < 64 → (r < 2 ^ n ↔ 64 * b + r < 2 ^ n)) ∧ b < 4 := by decide +kernel
  have w := key n (by omega) b hb
  exact ⟨w.1 r hr, w.2⟩
/-- not rising somewhere on the lanes f .. m - 1 -/
theorem fall_b {n b f m : Nat} {C : Nat → Int64} {v : Nat → Nat} {r : Nat} (h : RwI n b C v) (hm : m ≤ n) (hr : r < 64) : (∃ a, f ≤ a ∧ a + 1 < m ∧ bt (C a) r = true ∧ bt (C (a + 1)) r = false) ↔ r < 2 ^ n ∧ ∃ a, f ≤ a ∧ a + 1 < m ∧ (v (64 * b + r)).testBit a = true ∧ (v (64 * b + r)).testBit (a + 1) = false := by
  constructor
  · rintro ⟨a, h1, h2, h3, h4⟩
    rw [h a (by omega) r hr, Bool.and_eq_true, decide_eq_true_eq] at h3
    rw [h (a + 1) (by omega) r hr, decide_eq_true h3.1] at h4
    exact ⟨h3.1, a, h1, h2, h3.2, by simpa using h4⟩
  · rintro ⟨h0, a, h1, h2, h3, h4⟩
    refine ⟨a, h1, h2, ?_, ?_⟩
    · rw [h a (by omega) r hr, decide_eq_true h0, h3]; rfl
    · rw [h (a + 1) (by omega) r hr, h4, Bool.and_false]
theorem ris_n {n v : Nat} : ¬ Ris n v ↔ ∃ a, 0 ≤ a ∧ a + 1 < n ∧ v.testBit a = true ∧ v.testBit (a + 1) = false := by
  unfold Ris
  constructor
  · intro h
    refine Classical.byContradiction (fun q => h (fun a h1 h2 => ?_))
    cases e : v.testBit (a + 1) with
    | true => rfl
    | false => exact absurd ⟨a, Nat.zero_le _, h1, h2, e⟩ q
  · rintro ⟨a, -, h1, h2, h3⟩ q
    rw [q a h1 h2] at h3
    cases h3
set_option maxHeartbeats 4000000 in
set_option maxRecDepth 100000 in
theorem ok_X5_failingRows (l : Launch) (V : Vx) {t : Nt} {b : Nat} {s : Int32} (I : Nat → Nat → Int32) (L : Nat → Nat → Int64) (ok : okN t) (hN : netC I 1 t) (hb : b < 2 ^ (t.1 - 6)) : Gl l V yX5_failingRows wsX5_failingRows 4 [.ref (ad V 0), .int (nI b), .int s] I L (fun x I' L' => I' = I ∧ (∀ q, q ≠ 57 → q ≠ 58 → L' q = L q) ∧ ∀ r, r < 64 → (bt x r = true ↔ 64 * b + r < 2 ^ t.1 ∧ bad t s.toInt (64 * b + r))) := by
  have h8 := ok.2.1
  have h0 := hN.1
  have hb4 := (rb64 h8 hb (show 0 < 64 by decide)).2
  refine Ok.of (cc := cX5_failingRows) (maxL := 3) (ret := (some .long)) (by decide) rfl (Nat.le_of_ble_eq_true rfl) (fun X hnm C => ?_)
  have C : CX l X V RX5 cX5_failingRows 3 wsX5_failingRows 4 0 0 (some .long) := C
  refine J.cast (ls' := [(0, _), (1, _), (2, _)]) rfl rfl rfl rfl ?_
  refine J.aload_n C dX5_failingRows_0 rfl ?_
  refine J.getR C flX5_failingRows_36 (by first | decide | omega) rfl (by exact rfl) dX5_failingRows_1 ?_
  refine J.aload_n C dX5_failingRows_4 rfl ?_
  refine J.getR C flX5_failingRows_10 (by first | decide | omega) rfl (by exact rfl) dX5_failingRows_5 ?_
  refine J.getI C flX5_failingRows_160 (by first | decide | omega) (by first | exact rfl | exact mk_3 (by assumption)) (by exact rfl) (by first | ((repeat (first | rewrite [up2_n _ _ _ (by first | decide | omega)] | rewrite [up2_m _ _ _ (by decide)] | rewrite [up3_n _ _ _ (by first | decide | omega)])) <;> (first | exact up2_s _ _ _ _ | exact up3_s _ _ _ _ | assumption | exact rfl))) dX5_failingRows_8 ?_
  refine J.iload_n C dX5_failingRows_11 rfl ?_
  refine J.cVGv (q := (RX4, TX4, 2)) (ci := 4) C (ok_X4_start l V (k := 57) (b := b) _ _ rfl h8 hb4) gX5_failingRows_X4_start rfl mfX4_start rfl (by decide) (by decide) (by first | decide | omega) (by first | exact rfl | exact mk_4 (by assumption)) rfl rfl rfl (Nat.le_of_ble_eq_true rfl) dX5_failingRows_12 (Nat.le_refl _) (Nat.le_refl _) (fun I12 L12 h12 => ?_)
  obtain ⟨rfl, ha, hc, hf⟩ := h12
  have hR := RwI_0 h8 hb4 hc
  have hA : RwA t.1 (L12 57 1) := by rw [ha]; exact alV_b h8
  refine J.aload_n C dX5_failingRows_15 rfl ?_
  refine J.getR C flX5_failingRows_36 (by first | decide | omega) rfl (by exact rfl) dX5_failingRows_16 ?_
  refine J.aload_n C dX5_failingRows_19 rfl ?_
  refine J.getR C flX5_failingRows_10 (by first | decide | omega) rfl (by exact rfl) dX5_failingRows_20 ?_
  refine J.iload_n C dX5_failingRows_23 rfl ?_
  refine J.cVGv (q := (RX4, TX4, 2)) (ci := 4) C (ok_X4_pass l V (k := 57) (q := 1) (b := b) _ _ rfl rfl ok hN hA hR) gX5_failingRows_X4_pass rfl mfX4_pass rfl (by decide) (by decide) (by first | decide | omega) (by first | exact rfl | exact mk_4 (by assumption)) rfl rfl rfl (Nat.le_of_ble_eq_true rfl) dX5_failingRows_24 (Nat.le_refl _) (Nat.le_refl _) (fun I24 L24 h24 => ?_)
  obtain ⟨rfl, hp1, hp2, hp3⟩ := h24
  refine J.aload_n C dX5_failingRows_27 rfl ?_
  refine J.getR C flX5_failingRows_36 (by first | decide | omega) rfl (by exact rfl) dX5_failingRows_28 ?_
  refine J.iconst C dX5_failingRows_31 (v := (nI 0)) (by decide) ?_
  refine J.aload_n C dX5_failingRows_32 rfl ?_
  refine J.getR C flX5_failingRows_10 (by first | decide | omega) rfl (by exact rfl) dX5_failingRows_33 ?_
  refine J.getI C flX5_failingRows_160 (by first | decide | omega) (by first | exact rfl | exact mk_3 (by assumption)) (by exact rfl) (by first | ((repeat (first | rewrite [up2_n _ _ _ (by first | decide | omega)] | rewrite [up2_m _ _ _ (by decide)] | rewrite [up3_n _ _ _ (by first | decide | omega)])) <;> (first | exact up2_s _ _ _ _ | exact up3_s _ _ _ _ | assumption | exact rfl))) dX5_failingRows_36 ?_
  refine J.cVGl (q := (RX4, TX4, 2)) (ci := 4) C (ok_X4_falling l V (k := 57) (f := 0) _ _ rfl h8 (by decide)) gX5_failingRows_X4_falling rfl mfX4_falling rfl (by decide) (by decide) (by first | decide | omega) (by first | exact rfl | exact mk_4 (by assumption)) rfl rfl rfl (Nat.le_of_ble_eq_true rfl) dX5_failingRows_39 (Nat.le_refl _) (Nat.le_refl _) (fun r39 I39 L39 h39 => ?_)
  obtain ⟨rfl, rfl, hx⟩ := h39
  exact J.lret C dX5_failingRows_42 ⟨_, _, _, rfl, rfl, rfl, fun q a b => by rw [hp2 q b, hf q a b], fun r hr => by rw [hx r hr, fall_b hp3 (Nat.le_refl _) hr, ← ris_n, (rb64 h8 hb hr).1]; exact Iff.rfl⟩
