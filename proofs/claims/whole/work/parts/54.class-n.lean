/-! THE CLASS: bears, fails, out, merges -/
set_option maxHeartbeats 4000000 in
set_option maxRecDepth 100000 in
theorem lp_X5_bears {l : Launch} {X : Cx} {V : Vx} {P : Option Value → (Nat → va_E) → Prop} {I : Nat → Nat → Int32} {L : Nat → Nat → Int64} (C : CX l X V RX5 cX5_bears 2 wsX5_bears 7 0 0 (some .int)) {t : Nt} (ok : okN t) (hN : netC I 1 t) (hP : ∀ L0, (∀ q, q ≠ 57 → q ≠ 58 → L0 q = L q) → P (some (.int (bI (tb (∀ i, i < t.2.1 → ∀ r, r < 2 ^ t.1 → ¬ bad t i r))))) (mm V I L0)) : ∀ (z i : Nat) (L0 : Nat → Nat → Int64), i + z = t.2.1 → (∀ q, q ≠ 57 → q ≠ 58 → L0 q = L q) → (∀ j, j < i → ∀ r, r < 2 ^ t.1 → ¬ bad t j r) → E X V P 2 17 [(0, .ref (ad V 0)), (1, .int (nI i))] [] I L0 := by
  have h8 := p2_le ok.2.1
  have h40 := ok.2.2.1
  have hm := hN.2.1
  intro z
  induction z with
  | zero =>
    intro i L0 hi hf hr
    obtain rfl : i = t.2.1 := by omega
    refine J.iload_n C dX5_bears_17 rfl ?_
    refine J.aload_n C dX5_bears_18 rfl ?_
    refine J.getR C flX5_bears_10 (by first | decide | omega) rfl (by exact rfl) dX5_bears_19 ?_
    refine J.getI C flX5_bears_77 (by first | decide | omega) (by first | exact rfl | exact mk_3 (by assumption)) (by exact rfl) (by first | ((repeat (first | rewrite [up2_n _ _ _ (by first | decide | omega)] | rewrite [up2_m _ _ _ (by decide)] | rewrite [up3_n _ _ _ (by first | decide | omega)])) <;> (first | exact up2_s _ _ _ _ | exact up3_s _ _ _ _ | assumption | exact rfl))) dX5_bears_22 ?_
    first | refine J.icmp_ge_n C (by omega) (by omega) dX5_bears_25 (tgt := 46) (by decide) (fun _ => ?_) (fun c25 => absurd c25 (by first | omega | decide | simp_all)) | refine J.icmp_ge_xn C (by omega) dX5_bears_25 (tgt := 46) (by decide) (fun _ => ?_) (fun c25 => absurd c25 (by first | omega | decide | simp_all)) | refine J.icmp_ge_nx C (by omega) dX5_bears_25 (tgt := 46) (by decide) (fun _ => ?_) (fun c25 => absurd c25 (by first | omega | decide | simp_all)) | refine J.icmp_ge C dX5_bears_25 (tgt := 46) (by decide) (fun _ => ?_) (fun c25 => absurd c25 (by first | omega | decide | simp_all))
    refine J.iconst C dX5_bears_46 (v := (nI 1)) (by decide) ?_
    exact J.iret C dX5_bears_47 (by have w := hP L0 hf; rw [tb_1 hr] at w; exact w)
  | succ z ih =>
    intro i L0 hi hf hr
    cases hl : lst (2 ^ t.1) (bad t i) with
    | none =>
      have w := lst_is (2 ^ t.1) (bad t i)
      rw [hl] at w
      have w : ∀ r, r < 2 ^ t.1 → ¬ bad t i r := w
      refine J.iload_n C dX5_bears_17 rfl ?_
      refine J.aload_n C dX5_bears_18 rfl ?_
      refine J.getR C flX5_bears_10 (by first | decide | omega) rfl (by exact rfl) dX5_bears_19 ?_
      refine J.getI C flX5_bears_77 (by first | decide | omega) (by first | exact rfl | exact mk_3 (by assumption)) (by exact rfl) (by first | ((repeat (first | rewrite [up2_n _ _ _ (by first | decide | omega)] | rewrite [up2_m _ _ _ (by decide)] | rewrite [up3_n _ _ _ (by first | decide | omega)])) <;> (first | exact up2_s _ _ _ _ | exact up3_s _ _ _ _ | assumption | exact rfl))) dX5_bears_22 ?_
      first | refine J.icmp_ge_n C (by omega) (by omega) dX5_bears_25 (tgt := 46) (by decide) (fun c25 => absurd c25 (by first | omega | decide | simp_all)) (fun _ => ?_) | refine J.icmp_ge_xn C (by omega) dX5_bears_25 (tgt := 46) (by decide) (fun c25 => absurd c25 (by first | omega | decide | simp_all)) (fun _ => ?_) | refine J.icmp_ge_nx C (by omega) dX5_bears_25 (tgt := 46) (by decide) (fun c25 => absurd c25 (by first | omega | decide | simp_all)) (fun _ => ?_) | refine J.icmp_ge C dX5_bears_25 (tgt := 46) (by decide) (fun c25 => absurd c25 (by first | omega | decide | simp_all)) (fun _ => ?_)
      refine J.aload_n C dX5_bears_28 rfl ?_
      refine J.iload_n C dX5_bears_29 rfl ?_
      refine J.cVGi (q := (RX5, TX5, 11)) (ci := 5) C (ok_X5_leastFailing l V _ _ ok hN) gX5_bears_X5_leastFailing rfl mfX5_leastFailing rfl (by decide) (by decide) (by first | decide | omega) rfl rfl rfl rfl (Nat.le_of_ble_eq_true rfl) dX5_bears_30 (Nat.le_refl _) (Nat.le_refl _) (fun r30 I30 L30 h30 => ?_)
      obtain ⟨rfl, rfl, hf2⟩ := h30
      rw [nI_ti (by omega), hl]
      show E _ _ _ _ _ _ (.int (-6) :: _) _ _
      refine J.bipush C dX5_bears_33 (v := (-6)) (by decide) ?_
      refine J.icmp_eq C dX5_bears_35 (tgt := 40) (by decide) (fun _ => ?_) (fun c35 => absurd c35 (by first | omega | decide | simp_all))
      refine J.iinc (ls' := [(0, _), (1, _)]) C dX5_bears_40 rfl (by first | exact nI_inc _ 1 | exact rfl) (by decide) rfl ?_
      refine J.goto C dX5_bears_43 (tgt := 17) (by decide) ?_
      exact ih (i + 1) L30 (by omega) (fun q a b => by rw [hf2 q a b]; exact hf q a b) (fun j q => by rcases (show j < i ∨ j = i by omega) with z | z; exact hr j z; rw [z]; exact w)
    | some k =>
      have w := lst_is (2 ^ t.1) (bad t i)
      rw [hl] at w
      have w : k < 2 ^ t.1 ∧ bad t i k ∧ _ := w
      refine J.iload_n C dX5_bears_17 rfl ?_
      refine J.aload_n C dX5_bears_18 rfl ?_
      refine J.getR C flX5_bears_10 (by first | decide | omega) rfl (by exact rfl) dX5_bears_19 ?_
      refine J.getI C flX5_bears_77 (by first | decide | omega) (by first | exact rfl | exact mk_3 (by assumption)) (by exact rfl) (by first | ((repeat (first | rewrite [up2_n _ _ _ (by first | decide | omega)] | rewrite [up2_m _ _ _ (by decide)] | rewrite [up3_n _ _ _ (by first | decide | omega)])) <;> (first | exact up2_s _ _ _ _ | exact up3_s _ _ _ _ | assumption | exact rfl))) dX5_bears_22 ?_
      first | refine J.icmp_ge_n C (by omega) (by omega) dX5_bears_25 (tgt := 46) (by decide) (fun c25 => absurd c25 (by first | omega | decide | simp_all)) (fun _ => ?_) | refine J.icmp_ge_xn C (by omega) dX5_bears_25 (tgt := 46) (by decide) (fun c25 => absurd c25 (by first | omega | decide | simp_all)) (fun _ => ?_) | refine J.icmp_ge_nx C (by omega) dX5_bears_25 (tgt := 46) (by decide) (fun c25 => absurd c25 (by first | omega | decide | simp_all)) (fun _ => ?_) | refine J.icmp_ge C dX5_bears_25 (tgt := 46) (by decide) (fun c25 => absurd c25 (by first | omega | decide | simp_all)) (fun _ => ?_)
      refine J.aload_n C dX5_bears_28 rfl ?_
      refine J.iload_n C dX5_bears_29 rfl ?_
      refine J.cVGi (q := (RX5, TX5, 11)) (ci := 5) C (ok_X5_leastFailing l V _ _ ok hN) gX5_bears_X5_leastFailing rfl mfX5_leastFailing rfl (by decide) (by decide) (by first | decide | omega) rfl rfl rfl rfl (Nat.le_of_ble_eq_true rfl) dX5_bears_30 (Nat.le_refl _) (Nat.le_refl _) (fun r30 I30 L30 h30 => ?_)
      obtain ⟨rfl, rfl, hf2⟩ := h30
      rw [nI_ti (by omega), hl]
      show E _ _ _ _ _ _ (.int (nI k) :: _) _ _
      refine J.bipush C dX5_bears_33 (v := (-6)) (by decide) ?_
      refine J.icmp_eq C dX5_bears_35 (tgt := 40) (by decide) (fun c35 => absurd c35 (fun q => by have z := congrArg Int32.toInt q; rw [nI_ti (by omega), show (-6 : Int32).toInt = -6 from by decide] at z; omega)) (fun _ => ?_)
      refine J.iconst C dX5_bears_38 (v := (nI 0)) (by decide) ?_
      exact J.iret C dX5_bears_39 (by have u := hP L30 (fun q a b => by rw [hf2 q a b]; exact hf q a b); rw [tb_0 (fun q => q i (by omega) k w.1 w.2.1)] at u; exact u)
set_option maxHeartbeats 4000000 in
set_option maxRecDepth 100000 in
theorem ok_X5_bears (l : Launch) (V : Vx) {g : Sg}  (I : Nat → Nat → Int32) (L : Nat → Nat → Int64)  (hz : V.2.2.2.2.2 = false) (h : AbC I L g) (ok : okG g) : PC l V yX5_bears wsX5_bears 7 [.ref (ad V 0)] I L ((sp_bears g.1, g)) := by
  have hN := h.1
  have h0 := hN.1
  have hm := hN.2.1
  have hl2 := ok.1.1
  have hl8 := ok.1.2.1
  have h40 := ok.1.2.2.1
  unfold sp_bears
  refine Ok.of (cc := cX5_bears) (maxL := 2) (ret := (some .int)) (by decide) rfl (Nat.le_of_ble_eq_true rfl) (fun X hnm C => ?_)
  have C : CX l X V RX5 cX5_bears 2 wsX5_bears 7 0 0 (some .int) := C
  refine J.cast (ls' := [(0, _)]) rfl rfl rfl rfl ?_
  refine J.aload_n C dX5_bears_0 rfl ?_
  refine J.getR C flX5_bears_10 (by first | decide | omega) rfl (by exact rfl) dX5_bears_1 ?_
  refine J.getI C flX5_bears_77 (by first | decide | omega) (by first | exact rfl | exact mk_3 (by assumption)) (by exact rfl) (by first | ((repeat (first | rewrite [up2_n _ _ _ (by first | decide | omega)] | rewrite [up2_m _ _ _ (by decide)] | rewrite [up3_n _ _ _ (by first | decide | omega)])) <;> (first | exact up2_s _ _ _ _ | exact up3_s _ _ _ _ | assumption | exact rfl))) dX5_bears_4 ?_
  first | refine J.if_ne_b C dX5_bears_7 (tgt := 15) (by decide) (fun c7t => ?_) (fun c7f => ?_) | refine J.if_ne_n C (by omega) dX5_bears_7 (tgt := 15) (by decide) (fun c7t => ?_) (fun c7f => ?_) | refine J.if_ne C dX5_bears_7 (tgt := 15) (by decide) (fun c7t => ?_) (fun c7f => ?_)
  · rw [if_neg c7t]
    refine J.iconst C dX5_bears_15 (v := (nI 0)) (by decide) ?_
    refine J.istore_n (ls' := [(0, _), (1, _)]) C dX5_bears_16 (by decide) rfl ?_
    refine lp_X5_bears C ok.1 hN (fun L0 hf => ?_) g.1.2.1 0 L (by omega) (fun _ _ _ => rfl) (fun j q => absurd q (Nat.not_lt_zero _))
    exact qC_s (qC_rw h hf)
  · rw [if_pos c7f]
    refine J.aload_n C dX5_bears_10 rfl ?_
    refine J.cVGi (q := (RX5, TX5, 11)) (ci := 5) C (ok_X5_sorts l V _ _ hz h ok) gX5_bears_X5_sorts rfl mfX5_sorts rfl (by decide) (by decide) (by first | decide | omega) rfl rfl rfl rfl (Nat.le_of_ble_eq_true rfl) dX5_bears_11 (Nat.le_refl _) (Nat.le_refl _) (fun r11 I11 L11 h11 => ?_)
    exact J.iret C dX5_bears_14 (qC_s h11)
theorem cnt_pc {Q : Nat → Prop} {x : Int64} {b : Nat} (hx : ∀ r, r < 64 → (bt x r = true ↔ Q (64 * b + r))) : ∀ k, k ≤ 64 → cnt Q (64 * b + k) = cnt Q (64 * b) + pcN (tn x) k
  | 0, _ => rfl
  | k + 1, hk => by
    show cnt Q (64 * b + k) + cond (tb (Q (64 * b + k))) 1 0 = cnt Q (64 * b) + (pcN (tn x) k + ((tn x).testBit k).toNat)
    rw [cnt_pc hx k (by omega), ← bt_n]
    have h := hx k (by omega)
    cases e : bt x k with
    | true => rw [tb_1 (h.mp e)]; rfl
    | false => rw [tb_0 (fun q => by have := h.mpr q; rw [e] at this; cases this)]; rfl
theorem cnt_cut {Q P : Nat → Prop} {N : Nat} (h1 : ∀ r, r < N → (Q r ↔ P r)) (h2 : ∀ r, N ≤ r → ¬ Q r) : ∀ k, cnt Q (N + k) = cnt P N
  | k + 1 => by
    show cnt Q (N + k) + cond (tb (Q (N + k))) 1 0 = _
    rw [tb_0 (h2 _ (by omega)), cnt_cut h1 h2 k]
    rfl
  | 0 => by
    have key : ∀ n, n ≤ N → cnt Q n = cnt P n := fun n => by
      induction n with
      | zero => exact fun _ => rfl
      | succ n ih =>
        intro hn
        show cnt Q n + cond (tb (Q n)) 1 0 = cnt P n + cond (tb (P n)) 1 0
        rw [ih (by omega), tb_congr (h1 n (by omega))]
    exact key N (Nat.le_refl _)
set_option maxHeartbeats 4000000 in
set_option maxRecDepth 100000 in
theorem lp_X5_fails {l : Launch} {X : Cx} {V : Vx} {P : Option Value → (Nat → va_E) → Prop} {I : Nat → Nat → Int32} {L : Nat → Nat → Int64} (C : CX l X V RX5 cX5_fails 4 wsX5_fails 6 0 0 (some .int)) {t : Nt} {x : Int32} (ok : okN t) (hN : netC I 1 t) (hP : ∀ L0, (∀ q, q ≠ 57 → q ≠ 58 → L0 q = L q) → P (some (.int (nI (cnt (bad t (-1)) (2 ^ t.1))))) (mm V I L0)) : ∀ (z b w : Nat) (L0 : Nat → Nat → Int64), b + z = 2 ^ (t.1 - 6) → w = cnt (fun r => r < 2 ^ t.1 ∧ bad t (-1) r) (64 * b) → (∀ q, q ≠ 57 → q ≠ 58 → L0 q = L q) → E X V P 4 18 [(0, .ref (ad V 0)), (1, .int x), (2, .int (nI w)), (3, .int (nI b))] [] I L0 := by
  have h8 := ok.2.1
  have h0 := hN.1
  obtain ⟨hbk, hb4⟩ := blk_n h8
  intro z
  induction z with
  | zero =>
    intro b w L0 hb hw hf
    have e : w = cnt (bad t (-1)) (2 ^ t.1) := by
      rw [hw, show 64 * b = 2 ^ t.1 + (64 * b - 2 ^ t.1) by omega]
      exact cnt_cut (fun r q => ⟨fun z => z.2, fun z => ⟨q, z⟩⟩) (fun r q z => by omega) _
    subst e
    refine J.iload_n C dX5_fails_18 rfl ?_
    refine J.aload_n C dX5_fails_19 rfl ?_
    refine J.getR C flX5_fails_10 (by first | decide | omega) rfl (by exact rfl) dX5_fails_20 ?_
    refine J.getI C flX5_fails_160 (by first | decide | omega) (by first | exact rfl | exact mk_3 (by assumption)) (by exact rfl) (by first | ((repeat (first | rewrite [up2_n _ _ _ (by first | decide | omega)] | rewrite [up2_m _ _ _ (by decide)] | rewrite [up3_n _ _ _ (by first | decide | omega)])) <;> (first | exact up2_s _ _ _ _ | exact up3_s _ _ _ _ | assumption | exact rfl))) dX5_fails_23 ?_
    refine J.cSDi C (ok_X4_blocks l V _ _ h8) gX5_fails_X4_blocks rfl mfX4_blocks (by decide) (by decide) rfl rfl (Nat.le_of_ble_eq_true rfl) dX5_fails_26 (Nat.le_refl _) (Nat.le_refl _) ?_
    first | refine J.icmp_ge_n C (by omega) (by omega) dX5_fails_29 (tgt := 50) (by decide) (fun _ => ?_) (fun c29 => absurd c29 (by first | omega | decide | simp_all)) | refine J.icmp_ge_xn C (by omega) dX5_fails_29 (tgt := 50) (by decide) (fun _ => ?_) (fun c29 => absurd c29 (by first | omega | decide | simp_all)) | refine J.icmp_ge_nx C (by omega) dX5_fails_29 (tgt := 50) (by decide) (fun _ => ?_) (fun c29 => absurd c29 (by first | omega | decide | simp_all)) | refine J.icmp_ge C dX5_fails_29 (tgt := 50) (by decide) (fun _ => ?_) (fun c29 => absurd c29 (by first | omega | decide | simp_all))
    refine J.iload_n C dX5_fails_50 rfl ?_
    exact J.iret C dX5_fails_51 (hP L0 hf)
  | succ z ih =>
    intro b w L0 hb hw hf
    refine J.iload_n C dX5_fails_18 rfl ?_
    refine J.aload_n C dX5_fails_19 rfl ?_
    refine J.getR C flX5_fails_10 (by first | decide | omega) rfl (by exact rfl) dX5_fails_20 ?_
    refine J.getI C flX5_fails_160 (by first | decide | omega) (by first | exact rfl | exact mk_3 (by assumption)) (by exact rfl) (by first | ((repeat (first | rewrite [up2_n _ _ _ (by first | decide | omega)] | rewrite [up2_m _ _ _ (by decide)] | rewrite [up3_n _ _ _ (by first | decide | omega)])) <;> (first | exact up2_s _ _ _ _ | exact up3_s _ _ _ _ | assumption | exact rfl))) dX5_fails_23 ?_
    refine J.cSDi C (ok_X4_blocks l V _ _ h8) gX5_fails_X4_blocks rfl mfX4_blocks (by decide) (by decide) rfl rfl (Nat.le_of_ble_eq_true rfl) dX5_fails_26 (Nat.le_refl _) (Nat.le_refl _) ?_
    first | refine J.icmp_ge_n C (by omega) (by omega) dX5_fails_29 (tgt := 50) (by decide) (fun c29 => absurd c29 (by first | omega | decide | simp_all)) (fun _ => ?_) | refine J.icmp_ge_xn C (by omega) dX5_fails_29 (tgt := 50) (by decide) (fun c29 => absurd c29 (by first | omega | decide | simp_all)) (fun _ => ?_) | refine J.icmp_ge_nx C (by omega) dX5_fails_29 (tgt := 50) (by decide) (fun c29 => absurd c29 (by first | omega | decide | simp_all)) (fun _ => ?_) | refine J.icmp_ge C dX5_fails_29 (tgt := 50) (by decide) (fun c29 => absurd c29 (by first | omega | decide | simp_all)) (fun _ => ?_)
    refine J.iload_n C dX5_fails_32 rfl ?_
    refine J.aload_n C dX5_fails_33 rfl ?_
    refine J.iload_n C dX5_fails_34 rfl ?_
    refine J.iconst C dX5_fails_35 (v := (-1)) (by decide) ?_
    refine J.cVGl (q := (RX5, TX5, 11)) (ci := 5) C (ok_X5_failingRows l V (b := b) _ _ ok hN (by omega)) gX5_fails_X5_failingRows rfl mfX5_failingRows rfl (by decide) (by decide) (by first | decide | omega) rfl rfl rfl rfl (Nat.le_of_ble_eq_true rfl) dX5_fails_36 (Nat.le_refl _) (Nat.le_refl _) (fun r36 I36 L36 h36 => ?_)
    obtain ⟨rfl, hf2, hx⟩ := h36
    rw [toInt_m1] at hx
    refine J.cSDi C (ok_J13_bitCount_95d88 l V _ _ _) gX5_fails_J13_bitCount_95d88 rfl mfJ13_bitCount_95d88 (by decide) (by decide) rfl rfl (Nat.le_of_ble_eq_true rfl) dX5_fails_39 (Nat.le_refl _) (Nat.le_refl _) ?_
    first | refine J.iadd_n C dX5_fails_42 ?_ | refine J.iadd C dX5_fails_42 ?_
    refine J.istore_n (ls' := [(0, _), (1, _), (2, _), (3, _)]) C dX5_fails_43 (by decide) rfl ?_
    refine J.iinc (ls' := [(0, _), (1, _), (2, _), (3, _)]) C dX5_fails_44 rfl (by first | exact nI_inc _ 1 | exact rfl) (by decide) rfl ?_
    refine J.goto C dX5_fails_47 (tgt := 18) (by decide) ?_
    refine ih (b + 1) _ L36 (by omega) ?_ (fun q a b => by rw [hf2 q a b]; exact hf q a b)
    rw [hw, show 64 * (b + 1) = 64 * b + 64 by omega]
    exact (cnt_pc (Q := fun r => r < 2 ^ t.1 ∧ bad t (-1) r) hx 64 (Nat.le_refl _)).symm
set_option maxHeartbeats 4000000 in
set_option maxRecDepth 100000 in
theorem ok_X5_fails (l : Launch) (V : Vx) {g : Sg} (b : Bool) (I : Nat → Nat → Int32) (L : Nat → Nat → Int64)  (hz : V.2.2.2.2.2 = false) (h : AbC I L g) (ok : okG g) : PC l V yX5_fails wsX5_fails 6 [.ref (ad V 0), .int (bI b)] I L (((sp_fails g.1 b).1, gX (sp_fails g.1 b).2 g g)) := by
  have hN := h.1
  have h0 := hN.1
  have hm := hN.2.1
  have hl2 := ok.1.1
  have hl8 := ok.1.2.1
  have h40 := ok.1.2.2.1
  have h8 := p2_le hl8
  cases b with
  | false =>
    refine Ok.of (cc := cX5_fails) (maxL := 4) (ret := (some .int)) (by decide) rfl (Nat.le_of_ble_eq_true rfl) (fun X hnm C => ?_)
    have C : CX l X V RX5 cX5_fails 4 wsX5_fails 6 0 0 (some .int) := C
    refine J.cast (ls' := [(0, _), (1, _)]) rfl rfl rfl rfl ?_
    refine J.iload_n C dX5_fails_0 rfl ?_
    first | refine J.if_eq_b C dX5_fails_1 (tgt := 14) (by decide) (fun _ => ?_) (fun c1 => absurd c1 (by decide)) | refine J.if_eq_n C (by omega) dX5_fails_1 (tgt := 14) (by decide) (fun _ => ?_) (fun c1 => absurd c1 (by decide)) | refine J.if_eq C dX5_fails_1 (tgt := 14) (by decide) (fun _ => ?_) (fun c1 => absurd c1 (by decide))
    refine J.iconst C dX5_fails_14 (v := (nI 0)) (by decide) ?_
    refine J.istore_n (ls' := [(0, _), (1, _), (2, _)]) C dX5_fails_15 (by decide) rfl ?_
    refine J.iconst C dX5_fails_16 (v := (nI 0)) (by decide) ?_
    refine J.istore_n (ls' := [(0, _), (1, _), (2, _), (3, _)]) C dX5_fails_17 (by decide) rfl ?_
    refine lp_X5_fails C ok.1 hN (fun L0 hf => ?_) (2 ^ (g.1.1 - 6)) 0 0 L (by omega) rfl (fun _ _ _ => rfl)
    exact qC_s (qC_rw h hf)
  | true =>
    have e : sp_fails g.1 true = sp_first g.1 (-1) := rfl
    rw [e]
    unfold sp_first
    cases hl : lst (2 ^ g.1.1) (bad g.1 (-1)) with
    | none =>
      refine Ok.of (cc := cX5_fails) (maxL := 4) (ret := (some .int)) (by decide) rfl (Nat.le_of_ble_eq_true rfl) (fun X hnm C => ?_)
      have C : CX l X V RX5 cX5_fails 4 wsX5_fails 6 0 0 (some .int) := C
      refine J.cast (ls' := [(0, _), (1, _)]) rfl rfl rfl rfl ?_
      refine J.iload_n C dX5_fails_0 rfl ?_
      first | refine J.if_eq_b C dX5_fails_1 (tgt := 14) (by decide) (fun c1 => absurd c1 (by decide)) (fun _ => ?_) | refine J.if_eq_n C (by omega) dX5_fails_1 (tgt := 14) (by decide) (fun c1 => absurd c1 (by decide)) (fun _ => ?_) | refine J.if_eq C dX5_fails_1 (tgt := 14) (by decide) (fun c1 => absurd c1 (by decide)) (fun _ => ?_)
      refine J.aload_n C dX5_fails_4 rfl ?_
      refine J.aload_n C dX5_fails_5 rfl ?_
      refine J.iconst C dX5_fails_6 (v := (-1)) (by decide) ?_
      refine J.cVGi (q := (RX5, TX5, 11)) (ci := 5) C (ok_X5_leastFailing l V _ _ ok.1 hN) gX5_fails_X5_leastFailing rfl mfX5_leastFailing rfl (by decide) (by decide) (by first | decide | omega) rfl rfl rfl rfl (Nat.le_of_ble_eq_true rfl) dX5_fails_7 (Nat.le_refl _) (Nat.le_refl _) (fun r7 I7 L7 h7 => ?_)
      obtain ⟨rfl, rfl, hf⟩ := h7
      rw [toInt_m1, hl]
      show E _ _ _ _ _ _ (.int (-6) :: _) _ _
      refine J.cVDi (q := (RX5, TX5, 11)) (ci := 5) C (ok_X5_toldOrFinding_n l V _ _ (by decide)) gX5_fails_X5_toldOrFinding rfl mfX5_toldOrFinding rfl (by decide) (by decide) (by first | decide | omega) rfl rfl rfl rfl (Nat.le_of_ble_eq_true rfl) dX5_fails_10 (Nat.le_refl _) (Nat.le_refl _) ?_
      exact J.iret C dX5_fails_13 (qC_s (qC_rF h hf))
    | some k =>
      have w := lst_is (2 ^ g.1.1) (bad g.1 (-1))
      rw [hl] at w
      have w : k < 2 ^ g.1.1 ∧ bad g.1 (-1) k ∧ _ := w
      refine Ok.of (cc := cX5_fails) (maxL := 4) (ret := (some .int)) (by decide) rfl (Nat.le_of_ble_eq_true rfl) (fun X hnm C => ?_)
      have C : CX l X V RX5 cX5_fails 4 wsX5_fails 6 0 0 (some .int) := C
      refine J.cast (ls' := [(0, _), (1, _)]) rfl rfl rfl rfl ?_
      refine J.iload_n C dX5_fails_0 rfl ?_
      first | refine J.if_eq_b C dX5_fails_1 (tgt := 14) (by decide) (fun c1 => absurd c1 (by decide)) (fun _ => ?_) | refine J.if_eq_n C (by omega) dX5_fails_1 (tgt := 14) (by decide) (fun c1 => absurd c1 (by decide)) (fun _ => ?_) | refine J.if_eq C dX5_fails_1 (tgt := 14) (by decide) (fun c1 => absurd c1 (by decide)) (fun _ => ?_)
      refine J.aload_n C dX5_fails_4 rfl ?_
      refine J.aload_n C dX5_fails_5 rfl ?_
      refine J.iconst C dX5_fails_6 (v := (-1)) (by decide) ?_
      refine J.cVGi (q := (RX5, TX5, 11)) (ci := 5) C (ok_X5_leastFailing l V _ _ ok.1 hN) gX5_fails_X5_leastFailing rfl mfX5_leastFailing rfl (by decide) (by decide) (by first | decide | omega) rfl rfl rfl rfl (Nat.le_of_ble_eq_true rfl) dX5_fails_7 (Nat.le_refl _) (Nat.le_refl _) (fun r7 I7 L7 h7 => ?_)
      obtain ⟨rfl, rfl, hf⟩ := h7
      rw [toInt_m1, hl]
      show E _ _ _ _ _ _ (.int (nI k) :: _) _ _
      refine J.cVDi (q := (RX5, TX5, 11)) (ci := 5) C (ok_X5_toldOrFinding_p l V _ _ (by omega)) gX5_fails_X5_toldOrFinding rfl mfX5_toldOrFinding rfl (by decide) (by decide) (by first | decide | omega) rfl rfl rfl rfl (Nat.le_of_ble_eq_true rfl) dX5_fails_10 (Nat.le_refl _) (Nat.le_refl _) ?_
      exact J.iret C dX5_fails_13 (qC_s (qC_rw h hf))
