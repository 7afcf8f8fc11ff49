/-! THE CLASS: merges -/
theorem risK_n {n k v : Nat} (hk : k < n) : RisK n k v ↔ (¬ ∃ a, 0 ≤ a ∧ a + 1 < k ∧ v.testBit a = true ∧ v.testBit (a + 1) = false) ∧ ¬ ∃ a, k ≤ a ∧ a + 1 < n ∧ v.testBit a = true ∧ v.testBit (a + 1) = false := by
  constructor
  · intro h
    refine ⟨fun ⟨a, h1, h2, h3, h4⟩ => ?_, fun ⟨a, h1, h2, h3, h4⟩ => ?_⟩
    · rw [h a (by omega) (by omega) h3] at h4; cases h4
    · rw [h a (by omega) (by omega) h3] at h4; cases h4
  · intro ⟨h1, h2⟩ a ha hk' hb
    cases e : v.testBit (a + 1) with
    | true => rfl
    | false =>
      rcases (show a + 1 < k ∨ k ≤ a by omega) with q | q
      · exact absurd ⟨a, Nat.zero_le _, q, hb, e⟩ h1
      · exact absurd ⟨a, q, ha, hb, e⟩ h2
set_option maxHeartbeats 4000000 in
set_option maxRecDepth 100000 in
theorem lp_X5_merges {l : Launch} {X : Cx} {V : Vx} {P : Option Value → (Nat → va_E) → Prop} {I : Nat → Nat → Int32} {L : Nat → Nat → Int64} (C : CX l X V RX5 cX5_merges 5 wsX5_merges 4 0 0 (some .int)) {t : Nt} {k : Nat} (ok : okN t) (hN : netC I 1 t) (hk1 : 1 ≤ k) (hk : k < t.1) (hP : ∀ L0, (∀ q, q ≠ 57 → q ≠ 58 → L0 q = L q) → P (some (.int (bI (tb (∀ r, r < 2 ^ t.1 → RisK t.1 k r → ¬ bad t (-1) r))))) (mm V I L0)) : ∀ (z b : Nat) (L0 : Nat → Nat → Int64), b + z = 2 ^ (t.1 - 6) → (∀ q, q ≠ 57 → q ≠ 58 → L0 q = L q) → (∀ r, r < 64 * b → r < 2 ^ t.1 → RisK t.1 k r → ¬ bad t (-1) r) → E X V P 5 24 [(0, .ref (ad V 0)), (1, .int (nI k)), (2, .int (nI b))] [] I L0 := by
  have h8 := ok.2.1
  have h0 := hN.1
  obtain ⟨hbk, hb4⟩ := blk_n h8
  intro z
  induction z with
  | zero =>
    intro b L0 hb hf hr
    refine J.iload_n C dX5_merges_24 rfl ?_
    refine J.aload_n C dX5_merges_25 rfl ?_
    refine J.getR C flX5_merges_10 (by first | decide | omega) rfl (by exact rfl) dX5_merges_26 ?_
    refine J.getI C flX5_merges_160 (by first | decide | omega) (by first | exact rfl | exact mk_3 (by assumption)) (by exact rfl) (by first | ((repeat (first | rewrite [up2_n _ _ _ (by first | decide | omega)] | rewrite [up2_m _ _ _ (by decide)] | rewrite [up3_n _ _ _ (by first | decide | omega)])) <;> (first | exact up2_s _ _ _ _ | exact up3_s _ _ _ _ | assumption | exact rfl))) dX5_merges_29 ?_
    refine J.cSDi C (ok_X4_blocks l V _ _ h8) gX5_merges_X4_blocks rfl mfX4_blocks (by decide) (by decide) rfl rfl (Nat.le_of_ble_eq_true rfl) dX5_merges_32 (Nat.le_refl _) (Nat.le_refl _) ?_
    first | refine J.icmp_ge_n C (by omega) (by omega) dX5_merges_35 (tgt := 125) (by decide) (fun _ => ?_) (fun c35 => absurd c35 (by first | omega | decide | simp_all)) | refine J.icmp_ge_xn C (by omega) dX5_merges_35 (tgt := 125) (by decide) (fun _ => ?_) (fun c35 => absurd c35 (by first | omega | decide | simp_all)) | refine J.icmp_ge_nx C (by omega) dX5_merges_35 (tgt := 125) (by decide) (fun _ => ?_) (fun c35 => absurd c35 (by first | omega | decide | simp_all)) | refine J.icmp_ge C dX5_merges_35 (tgt := 125) (by decide) (fun _ => ?_) (fun c35 => absurd c35 (by first | omega | decide | simp_all))
    refine J.iconst C dX5_merges_125 (v := (nI 1)) (by decide) ?_
    exact J.iret C dX5_merges_126 (by have w := hP L0 hf; rw [tb_1 (show (∀ r, r < 2 ^ t.1 → RisK t.1 k r → ¬ bad t (-1) r) from fun r q => hr r (by omega) q)] at w; exact w)
  | succ z ih =>
    intro b L0 hb hf hr
    have hbb : b < 2 ^ (t.1 - 6) := by omega
    refine J.iload_n C dX5_merges_24 rfl ?_
    refine J.aload_n C dX5_merges_25 rfl ?_
    refine J.getR C flX5_merges_10 (by first | decide | omega) rfl (by exact rfl) dX5_merges_26 ?_
    refine J.getI C flX5_merges_160 (by first | decide | omega) (by first | exact rfl | exact mk_3 (by assumption)) (by exact rfl) (by first | ((repeat (first | rewrite [up2_n _ _ _ (by first | decide | omega)] | rewrite [up2_m _ _ _ (by decide)] | rewrite [up3_n _ _ _ (by first | decide | omega)])) <;> (first | exact up2_s _ _ _ _ | exact up3_s _ _ _ _ | assumption | exact rfl))) dX5_merges_29 ?_
    refine J.cSDi C (ok_X4_blocks l V _ _ h8) gX5_merges_X4_blocks rfl mfX4_blocks (by decide) (by decide) rfl rfl (Nat.le_of_ble_eq_true rfl) dX5_merges_32 (Nat.le_refl _) (Nat.le_refl _) ?_
    first | refine J.icmp_ge_n C (by omega) (by omega) dX5_merges_35 (tgt := 125) (by decide) (fun c35 => absurd c35 (by first | omega | decide | simp_all)) (fun _ => ?_) | refine J.icmp_ge_xn C (by omega) dX5_merges_35 (tgt := 125) (by decide) (fun c35 => absurd c35 (by first | omega | decide | simp_all)) (fun _ => ?_) | refine J.icmp_ge_nx C (by omega) dX5_merges_35 (tgt := 125) (by decide) (fun c35 => absurd c35 (by first | omega | decide | simp_all)) (fun _ => ?_) | refine J.icmp_ge C dX5_merges_35 (tgt := 125) (by decide) (fun c35 => absurd c35 (by first | omega | decide | simp_all)) (fun _ => ?_)
    refine J.aload_n C dX5_merges_38 rfl ?_
    refine J.getR C flX5_merges_36 (by first | decide | omega) rfl (by exact rfl) dX5_merges_39 ?_
    refine J.aload_n C dX5_merges_42 rfl ?_
    refine J.getR C flX5_merges_10 (by first | decide | omega) rfl (by exact rfl) dX5_merges_43 ?_
    refine J.getI C flX5_merges_160 (by first | decide | omega) (by first | exact rfl | exact mk_3 (by assumption)) (by exact rfl) (by first | ((repeat (first | rewrite [up2_n _ _ _ (by first | decide | omega)] | rewrite [up2_m _ _ _ (by decide)] | rewrite [up3_n _ _ _ (by first | decide | omega)])) <;> (first | exact up2_s _ _ _ _ | exact up3_s _ _ _ _ | assumption | exact rfl))) dX5_merges_46 ?_
    refine J.iload_n C dX5_merges_49 rfl ?_
    refine J.cVGv (q := (RX4, TX4, 2)) (ci := 4) C (ok_X4_start l V (k := 57) (b := b) _ _ rfl h8 (by omega)) gX5_merges_X4_start rfl mfX4_start rfl (by decide) (by decide) (by first | decide | omega) (by first | exact rfl | exact mk_4 (by assumption)) rfl rfl rfl (Nat.le_of_ble_eq_true rfl) dX5_merges_50 (Nat.le_refl _) (Nat.le_refl _) (fun I50 L50 h50 => ?_)
    obtain ⟨rfl, ha, hc, hf2⟩ := h50
    have hR := RwI_0 h8 (show b < 4 by omega) hc
    have hA : RwA t.1 (L50 57 1) := by rw [ha]; exact alV_b h8
    refine J.aload_n C dX5_merges_53 rfl ?_
    refine J.getR C flX5_merges_36 (by first | decide | omega) rfl (by exact rfl) dX5_merges_54 ?_
    refine J.iconst C dX5_merges_57 (v := (nI 0)) (by decide) ?_
    refine J.iload_n C dX5_merges_58 rfl ?_
    refine J.cVGl (q := (RX4, TX4, 2)) (ci := 4) C (ok_X4_falling l V (k := 57) (f := 0) _ _ rfl (show k ≤ 8 by omega) (by decide)) gX5_merges_X4_falling rfl mfX4_falling rfl (by decide) (by decide) (by first | decide | omega) (by first | exact rfl | exact mk_4 (by assumption)) rfl rfl rfl (Nat.le_of_ble_eq_true rfl) dX5_merges_59 (Nat.le_refl _) (Nat.le_refl _) (fun r59 I59 L59 h59 => ?_)
    obtain ⟨rfl, rfl, hx1⟩ := h59
    refine J.aload_n C dX5_merges_62 rfl ?_
    refine J.getR C flX5_merges_36 (by first | decide | omega) rfl (by exact rfl) dX5_merges_63 ?_
    refine J.iload_n C dX5_merges_66 rfl ?_
    refine J.aload_n C dX5_merges_67 rfl ?_
    refine J.getR C flX5_merges_10 (by first | decide | omega) rfl (by exact rfl) dX5_merges_68 ?_
    refine J.getI C flX5_merges_160 (by first | decide | omega) (by first | exact rfl | exact mk_3 (by assumption)) (by exact rfl) (by first | ((repeat (first | rewrite [up2_n _ _ _ (by first | decide | omega)] | rewrite [up2_m _ _ _ (by decide)] | rewrite [up3_n _ _ _ (by first | decide | omega)])) <;> (first | exact up2_s _ _ _ _ | exact up3_s _ _ _ _ | assumption | exact rfl))) dX5_merges_71 ?_
    refine J.cVGl (q := (RX4, TX4, 2)) (ci := 4) C (ok_X4_falling l V (k := 57) (f := k) _ _ rfl h8 (by omega)) gX5_merges_X4_falling rfl mfX4_falling rfl (by decide) (by decide) (by first | decide | omega) (by first | exact rfl | exact mk_4 (by assumption)) rfl rfl rfl (Nat.le_of_ble_eq_true rfl) dX5_merges_74 (Nat.le_refl _) (Nat.le_refl _) (fun r74 I74 L74 h74 => ?_)
    obtain ⟨rfl, rfl, hx2⟩ := h74
    refine J.lor C dX5_merges_77 ?_
    refine J.lstore_n (ls' := [(0, _), (1, _), (2, _), (3, _)]) C dX5_merges_78 (by decide) rfl ?_
    refine J.aload_n C dX5_merges_79 rfl ?_
    refine J.getR C flX5_merges_36 (by first | decide | omega) rfl (by exact rfl) dX5_merges_80 ?_
    refine J.aload_n C dX5_merges_83 rfl ?_
    refine J.getR C flX5_merges_10 (by first | decide | omega) rfl (by exact rfl) dX5_merges_84 ?_
    refine J.iconst C dX5_merges_87 (v := (-1)) (by decide) ?_
    refine J.cVGv (q := (RX4, TX4, 2)) (ci := 4) C (ok_X4_pass l V (k := 57) (q := 1) (b := b) _ _ rfl rfl ok hN hA hR) gX5_merges_X4_pass rfl mfX4_pass rfl (by decide) (by decide) (by first | decide | omega) (by first | exact rfl | exact mk_4 (by assumption)) rfl rfl rfl (Nat.le_of_ble_eq_true rfl) dX5_merges_88 (Nat.le_refl _) (Nat.le_refl _) (fun I88 L88 h88 => ?_)
    obtain ⟨rfl, hp1, hp2, hp3⟩ := h88
    rw [toInt_m1] at hp3
    refine J.aload_n C dX5_merges_91 rfl ?_
    refine J.getR C flX5_merges_36 (by first | decide | omega) rfl (by exact rfl) dX5_merges_92 ?_
    refine J.iconst C dX5_merges_95 (v := (nI 0)) (by decide) ?_
    refine J.aload_n C dX5_merges_96 rfl ?_
    refine J.getR C flX5_merges_10 (by first | decide | omega) rfl (by exact rfl) dX5_merges_97 ?_
    refine J.getI C flX5_merges_160 (by first | decide | omega) (by first | exact rfl | exact mk_3 (by assumption)) (by exact rfl) (by first | ((repeat (first | rewrite [up2_n _ _ _ (by first | decide | omega)] | rewrite [up2_m _ _ _ (by decide)] | rewrite [up3_n _ _ _ (by first | decide | omega)])) <;> (first | exact up2_s _ _ _ _ | exact up3_s _ _ _ _ | assumption | exact rfl))) dX5_merges_100 ?_
    refine J.cVGl (q := (RX4, TX4, 2)) (ci := 4) C (ok_X4_falling l V (k := 57) (f := 0) _ _ rfl h8 (by decide)) gX5_merges_X4_falling rfl mfX4_falling rfl (by decide) (by decide) (by first | decide | omega) (by first | exact rfl | exact mk_4 (by assumption)) rfl rfl rfl (Nat.le_of_ble_eq_true rfl) dX5_merges_103 (Nat.le_refl _) (Nat.le_refl _) (fun r103 I103 L103 h103 => ?_)
    obtain ⟨rfl, rfl, hx3⟩ := h103
    have hff : ∀ q, q ≠ 57 → q ≠ 58 → L103 q = L q := fun q a b => by rw [hp2 q b, hf2 q a b]; exact hf q a b
    have hbit : ∀ r, r < 64 → (bt (r103 &&& ((r59 ||| r74) ^^^ -1)) r = true ↔ 64 * b + r < 2 ^ t.1 ∧ RisK t.1 k (64 * b + r) ∧ bad t (-1) (64 * b + r)) := fun r q => by
      rw [bt_and, bt_not q, bt_or, Bool.and_eq_true, Bool.not_eq_true', Bool.or_eq_false_iff, hx3 r q, fall_b hp3 (Nat.le_refl _) q, ← ris_n, (rb64 h8 hbb q).1, ← Bool.not_eq_true, ← Bool.not_eq_true, hx1 r q, hx2 r q, fall_b hR (Nat.le_of_lt hk) q, fall_b hR (Nat.le_refl _) q, risK_n hk, (rb64 h8 hbb q).1]
      constructor
      · rintro ⟨⟨a1, a2⟩, a3, a4⟩
        exact ⟨a1, ⟨fun z => a3 ⟨a1, z⟩, fun z => a4 ⟨a1, z⟩⟩, a2⟩
      · rintro ⟨a1, ⟨a3, a4⟩, a2⟩
        exact ⟨⟨a1, a2⟩, fun z => a3 z.2, fun z => a4 z.2⟩
    refine J.lload_n C dX5_merges_106 rfl ?_
    refine J.ldc2 C (v := -1) (by decide +kernel) dX5_merges_107 ?_
    refine J.lxor C dX5_merges_110 ?_
    refine J.land C dX5_merges_111 ?_
    refine J.lconst C dX5_merges_112 (v := 0) (by decide) ?_
    refine J.lcmp C dX5_merges_113 ?_
    refine J.if_eq_c C dX5_merges_114 (tgt := 119) (by decide) (fun c114t => ?_) (fun c114f => ?_)
    · refine J.iinc (ls' := [(0, _), (1, _), (2, _), (3, _)]) C dX5_merges_119 rfl (by first | exact nI_inc _ 1 | exact rfl) (by decide) rfl ?_
      refine J.goto C dX5_merges_122 (tgt := 24) (by decide) ?_
      refine J.lsx (ls' := [(0, _), (1, _), (2, _)]) (ex := [(3, _)]) rfl ?_
      refine ih (b + 1) L103 (by omega) hff (fun r q1 q2 q3 q4 => ?_)
      by_cases z : r < 64 * b
      · exact hr r z q2 q3 q4
      · have y := (hbit (r - 64 * b) (by omega)).mpr (by rw [show 64 * b + (r - 64 * b) = r by omega]; exact ⟨q2, q3, q4⟩)
        rw [c114t, bt_0] at y
        cases y
    · obtain ⟨r0, hr0, hb1, -⟩ := low_x c114f
      obtain ⟨w1, w2, w3⟩ := (hbit r0 hr0).mp hb1
      refine J.iconst C dX5_merges_117 (v := (nI 0)) (by decide) ?_
      exact J.iret C dX5_merges_118 (by have w := hP L103 hff; rw [tb_0 (fun q => q _ w1 w2 w3)] at w; exact w)
set_option maxHeartbeats 4000000 in
set_option maxRecDepth 100000 in
theorem ok_X5_merges (l : Launch) (V : Vx) {g : Sg} {x1 : Int32} {o1 : Option Nat} (I : Nat → Nat → Int32) (L : Nat → Nat → Int64) (hx1 : AG x1 o1) (hz : V.2.2.2.2.2 = false) (h : AbC I L g) (ok : okG g) : PC l V yX5_merges wsX5_merges 4 [.ref (ad V 0), .int x1] I L (((sp_merges g.1 o1).1, gX (sp_merges g.1 o1).2 g g)) := by
  have hN := h.1
  have h0 := hN.1
  have hm := hN.2.1
  have hl2 := ok.1.1
  have hl8 := ok.1.2.1
  have h40 := ok.1.2.2.1
  cases o1 with
  | none =>
    have hx1 : x1.toInt < 0 := hx1
    refine Ok.of (cc := cX5_merges) (maxL := 5) (ret := (some .int)) (by decide) rfl (Nat.le_of_ble_eq_true rfl) (fun X hnm C => ?_)
    have C : CX l X V RX5 cX5_merges 5 wsX5_merges 4 0 0 (some .int) := C
    refine J.cast (ls' := [(0, _), (1, _)]) rfl rfl rfl rfl ?_
    refine J.iload_n C dX5_merges_0 rfl ?_
    refine J.iconst C dX5_merges_1 (v := (nI 1)) (by decide) ?_
    first | refine J.icmp_lt_n C (by omega) (by omega) dX5_merges_2 (tgt := 16) (by decide) (fun _ => ?_) (fun c2 => absurd c2 (by first | omega | decide | simp_all)) | refine J.icmp_lt_xn C (by omega) dX5_merges_2 (tgt := 16) (by decide) (fun _ => ?_) (fun c2 => absurd c2 (by first | omega | decide | simp_all)) | refine J.icmp_lt_nx C (by omega) dX5_merges_2 (tgt := 16) (by decide) (fun _ => ?_) (fun c2 => absurd c2 (by first | omega | decide | simp_all)) | refine J.icmp_lt C dX5_merges_2 (tgt := 16) (by decide) (fun _ => ?_) (fun c2 => absurd c2 (by first | omega | decide | simp_all))
    refine J.aload_n C dX5_merges_16 rfl ?_
    refine J.iconst C dX5_merges_17 (v := (-1)) (by decide) ?_
    refine J.cVDi (q := (RX5, TX5, 11)) (ci := 5) C (ok_X5_finding l V _ _ _) gX5_merges_X5_finding rfl mfX5_finding rfl (by decide) (by decide) (by first | decide | omega) rfl rfl rfl rfl (Nat.le_of_ble_eq_true rfl) dX5_merges_18 (Nat.le_refl _) (Nat.le_refl _) ?_
    exact J.iret C dX5_merges_21 (qC_s (qC_F h))
  | some k =>
    obtain ⟨hk31, rfl⟩ := hx1
    refine Ok.of (cc := cX5_merges) (maxL := 5) (ret := (some .int)) (by decide) rfl (Nat.le_of_ble_eq_true rfl) (fun X hnm C => ?_)
    have C : CX l X V RX5 cX5_merges 5 wsX5_merges 4 0 0 (some .int) := C
    refine J.cast (ls' := [(0, _), (1, _)]) rfl rfl rfl rfl ?_
    refine J.iload_n C dX5_merges_0 rfl ?_
    refine J.iconst C dX5_merges_1 (v := (nI 1)) (by decide) ?_
    refine J.icmp_lt_n C (by omega) (by omega) dX5_merges_2 (tgt := 16) (by decide) (fun c2t => ?_) (fun c2f => ?_)
    · have e : sp_merges g.1 (some k) = (-1, true) := if_neg (fun q => by omega)
      rw [e]
      refine J.aload_n C dX5_merges_16 rfl ?_
      refine J.iconst C dX5_merges_17 (v := (-1)) (by decide) ?_
      refine J.cVDi (q := (RX5, TX5, 11)) (ci := 5) C (ok_X5_finding l V _ _ _) gX5_merges_X5_finding rfl mfX5_finding rfl (by decide) (by decide) (by first | decide | omega) rfl rfl rfl rfl (Nat.le_of_ble_eq_true rfl) dX5_merges_18 (Nat.le_refl _) (Nat.le_refl _) ?_
      exact J.iret C dX5_merges_21 (qC_s (qC_F h))
    · refine J.iload_n C dX5_merges_5 rfl ?_
      refine J.aload_n C dX5_merges_6 rfl ?_
      refine J.getR C flX5_merges_10 (by first | decide | omega) rfl (by exact rfl) dX5_merges_7 ?_
      refine J.getI C flX5_merges_160 (by first | decide | omega) (by first | exact rfl | exact mk_3 (by assumption)) (by exact rfl) (by first | ((repeat (first | rewrite [up2_n _ _ _ (by first | decide | omega)] | rewrite [up2_m _ _ _ (by decide)] | rewrite [up3_n _ _ _ (by first | decide | omega)])) <;> (first | exact up2_s _ _ _ _ | exact up3_s _ _ _ _ | assumption | exact rfl))) dX5_merges_10 ?_
      refine J.icmp_lt_n C (by omega) (by omega) dX5_merges_13 (tgt := 22) (by decide) (fun c13t => ?_) (fun c13f => ?_)
      · have e : sp_merges g.1 (some k) = (bI (tb (∀ r, r < 2 ^ g.1.1 → RisK g.1.1 k r → ¬ bad g.1 (-1) r)), false) := if_pos ⟨by omega, c13t⟩
        rw [e]
        refine J.iconst C dX5_merges_22 (v := (nI 0)) (by decide) ?_
        refine J.istore_n (ls' := [(0, _), (1, _), (2, _)]) C dX5_merges_23 (by decide) rfl ?_
        refine lp_X5_merges C ok.1 hN (by omega) c13t (fun L0 hf => ?_) (2 ^ (g.1.1 - 6)) 0 L (by omega) (fun _ _ _ => rfl) (fun r q => by omega)
        exact qC_s (qC_rw h hf)
      · have e : sp_merges g.1 (some k) = (-1, true) := if_neg (fun q => by omega)
        rw [e]
        refine J.aload_n C dX5_merges_16 rfl ?_
        refine J.iconst C dX5_merges_17 (v := (-1)) (by decide) ?_
        refine J.cVDi (q := (RX5, TX5, 11)) (ci := 5) C (ok_X5_finding l V _ _ _) gX5_merges_X5_finding rfl mfX5_finding rfl (by decide) (by decide) (by first | decide | omega) rfl rfl rfl rfl (Nat.le_of_ble_eq_true rfl) dX5_merges_18 (Nat.le_refl _) (Nat.le_refl _) ?_
        exact J.iret C dX5_merges_21 (qC_s (qC_F h))
