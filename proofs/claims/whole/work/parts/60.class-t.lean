/-! THE CLASS: would -/
set_option maxHeartbeats 4000000 in
set_option maxRecDepth 100000 in
theorem lp_X5_areLanePairs {l : Launch} {X : Cx} {V : Vx} {P : Option Value → (Nat → va_E) → Prop} {I : Nat → Nat → Int32} {L : Nat → Nat → Int64} (C : CX l X V RX5 cX5_areLanePairs 5 wsX5_areLanePairs 2 0 0 (some .boolean)) {n c : Nat} {w : Nat → Int32} (hn : I 1 0 = nI n) (hn8 : n ≤ 8) (hc : c ≤ 80) (hw : ∀ i, i < c → I 64 i = w i) (hP : P (some (.int (bI (tb (∀ k, 2 * k + 1 < c → vld n (w (2 * k)) (w (2 * k + 1))))))) (mm V I L)) : ∀ (z k : Nat), c ≤ 2 * (k + z) → k ≤ 40 → (∀ j, j < k → 2 * j + 1 < c → vld n (w (2 * j)) (w (2 * j + 1))) → E X V P 5 2 [(0, .ref (ad V 0)), (1, .int (nI c)), (2, .int (nI (2 * k)))] [] I L := by
  have l64 : ln 64 = 80 := by decide +kernel
  intro z
  induction z with
  | zero =>
    intro k hk hk40 hb
    refine J.iload_n C dX5_areLanePairs_2 rfl ?_
    refine J.iconst C dX5_areLanePairs_3 (v := (nI 1)) (by decide) ?_
    first | refine J.iadd_n C dX5_areLanePairs_4 ?_ | refine J.iadd C dX5_areLanePairs_4 ?_
    refine J.iload_n C dX5_areLanePairs_5 rfl ?_
    first | refine J.icmp_ge_n C (by omega) (by omega) dX5_areLanePairs_6 (tgt := 63) (by decide) (fun _ => ?_) (fun c6 => absurd c6 (by first | omega | decide | simp_all)) | refine J.icmp_ge_xn C (by omega) dX5_areLanePairs_6 (tgt := 63) (by decide) (fun _ => ?_) (fun c6 => absurd c6 (by first | omega | decide | simp_all)) | refine J.icmp_ge_nx C (by omega) dX5_areLanePairs_6 (tgt := 63) (by decide) (fun _ => ?_) (fun c6 => absurd c6 (by first | omega | decide | simp_all)) | refine J.icmp_ge C dX5_areLanePairs_6 (tgt := 63) (by decide) (fun _ => ?_) (fun c6 => absurd c6 (by first | omega | decide | simp_all))
    refine J.iconst C dX5_areLanePairs_63 (v := (nI 1)) (by decide) ?_
    exact J.zret C dX5_areLanePairs_64 (by first | exact bI_nar _ | rfl | decide | assumption) (by rw [tb_1 (show (∀ k, 2 * k + 1 < c → vld n (w (2 * k)) (w (2 * k + 1))) from fun j q => hb j (by omega) q)] at hP; exact hP)
  | succ z ih =>
    intro k hk hk40 hb
    obtain ⟨o1, ho1⟩ := AG_ex (w (2 * k))
    obtain ⟨o2, ho2⟩ := AG_ex (w (2 * k + 1))
    have a1 := AG_in (m := n) ho1
    have a2 := AG_in (m := n) ho2
    have no : 2 * k + 1 < c → ¬ vld n (w (2 * k)) (w (2 * k + 1)) → P (some (.int (bI false))) (mm V I L) := fun q1 q2 => by
      rw [tb_0 (show ¬ (∀ k, 2 * k + 1 < c → vld n (w (2 * k)) (w (2 * k + 1))) from fun q => q2 (q k q1))] at hP
      exact hP
    refine J.iload_n C dX5_areLanePairs_2 rfl ?_
    refine J.iconst C dX5_areLanePairs_3 (v := (nI 1)) (by decide) ?_
    first | refine J.iadd_n C dX5_areLanePairs_4 ?_ | refine J.iadd C dX5_areLanePairs_4 ?_
    refine J.iload_n C dX5_areLanePairs_5 rfl ?_
    first | refine J.icmp_ge_n C (by omega) (by omega) dX5_areLanePairs_6 (tgt := 63) (by decide) (fun c6t => ?_) (fun c6f => ?_) | refine J.icmp_ge_xn C (by omega) dX5_areLanePairs_6 (tgt := 63) (by decide) (fun c6t => ?_) (fun c6f => ?_) | refine J.icmp_ge_nx C (by omega) dX5_areLanePairs_6 (tgt := 63) (by decide) (fun c6t => ?_) (fun c6f => ?_) | refine J.icmp_ge C dX5_areLanePairs_6 (tgt := 63) (by decide) (fun c6t => ?_) (fun c6f => ?_)
    · refine J.iconst C dX5_areLanePairs_63 (v := (nI 1)) (by decide) ?_
      exact J.zret C dX5_areLanePairs_64 (by first | exact bI_nar _ | rfl | decide | assumption) (by rw [tb_1 (show (∀ k, 2 * k + 1 < c → vld n (w (2 * k)) (w (2 * k + 1))) from fun j q => hb j (by omega) q)] at hP; exact hP)
    · refine J.aload_n C dX5_areLanePairs_9 rfl ?_
      refine J.getR C flX5_areLanePairs_54 (by first | decide | omega) rfl (by exact rfl) dX5_areLanePairs_10 ?_
      refine J.iload_n C dX5_areLanePairs_13 rfl ?_
      refine J.ia C (by first | exact rfl | assumption) (by first | exact rfl | exact rfl) (by first | omega | omega) (by first | exact hw _ (by omega) | ((repeat (first | rewrite [up2_n _ _ _ (by first | decide | omega)] | rewrite [up2_m _ _ _ (by decide)] | rewrite [up3_n _ _ _ (by first | decide | omega)])) <;> (first | exact up2_s _ _ _ _ | exact up3_s _ _ _ _ | assumption | exact rfl))) dX5_areLanePairs_14 ?_
      refine J.istore_n (ls' := [(0, _), (1, _), (2, _), (3, _)]) C dX5_areLanePairs_15 (by decide) rfl ?_
      refine J.aload_n C dX5_areLanePairs_16 rfl ?_
      refine J.getR C flX5_areLanePairs_54 (by first | decide | omega) rfl (by exact rfl) dX5_areLanePairs_17 ?_
      refine J.iload_n C dX5_areLanePairs_20 rfl ?_
      refine J.iconst C dX5_areLanePairs_21 (v := (nI 1)) (by decide) ?_
      first | refine J.iadd_n C dX5_areLanePairs_22 ?_ | refine J.iadd C dX5_areLanePairs_22 ?_
      refine J.ia C (by first | exact rfl | assumption) (by first | exact rfl | exact rfl) (by first | omega | omega) (by first | exact hw _ (by omega) | ((repeat (first | rewrite [up2_n _ _ _ (by first | decide | omega)] | rewrite [up2_m _ _ _ (by decide)] | rewrite [up3_n _ _ _ (by first | decide | omega)])) <;> (first | exact up2_s _ _ _ _ | exact up3_s _ _ _ _ | assumption | exact rfl))) dX5_areLanePairs_23 ?_
      refine J.istore (ls' := [(0, _), (1, _), (2, _), (3, _), (4, _)]) C dX5_areLanePairs_24 (by decide) rfl ?_
      refine J.aload_n C dX5_areLanePairs_26 rfl ?_
      refine J.getR C flX5_areLanePairs_10 (by first | decide | omega) rfl (by exact rfl) dX5_areLanePairs_27 ?_
      refine J.iload_n C dX5_areLanePairs_30 rfl ?_
      refine J.cVDi (q := (RX3, TX3, 3)) (ci := 3) C (ok_X3_hasLane l V _ _ rfl ho1 hn (by omega)) gX5_areLanePairs_X3_hasLane rfl mfX3_hasLane rfl (by decide) (by decide) (by first | decide | omega) (by first | exact rfl | exact mk_3 (by assumption)) rfl rfl rfl (Nat.le_of_ble_eq_true rfl) dX5_areLanePairs_31 (Nat.le_refl _) (Nat.le_refl _) ?_
      first | refine J.if_eq_b C dX5_areLanePairs_34 (tgt := 55) (by decide) (fun c34t => ?_) (fun c34f => ?_) | refine J.if_eq_n C (by omega) dX5_areLanePairs_34 (tgt := 55) (by decide) (fun c34t => ?_) (fun c34f => ?_) | refine J.if_eq C dX5_areLanePairs_34 (tgt := 55) (by decide) (fun c34t => ?_) (fun c34f => ?_)
      · refine J.iconst C dX5_areLanePairs_55 (v := (nI 0)) (by decide) ?_
        exact J.zret C dX5_areLanePairs_56 (by first | exact bI_nar _ | rfl | decide | assumption) (no (by omega) (fun q => by first | exact tb_f.mp c34t (a1.mp q.1) | exact tb_f.mp c46t (a2.mp q.2.1) | exact c52f (Int32.lt_iff_toInt_lt.mpr q.2.2)))
      · refine J.aload_n C dX5_areLanePairs_37 rfl ?_
        refine J.getR C flX5_areLanePairs_10 (by first | decide | omega) rfl (by exact rfl) dX5_areLanePairs_38 ?_
        refine J.iload C dX5_areLanePairs_41 rfl ?_
        refine J.cVDi (q := (RX3, TX3, 3)) (ci := 3) C (ok_X3_hasLane l V _ _ rfl ho2 hn (by omega)) gX5_areLanePairs_X3_hasLane rfl mfX3_hasLane rfl (by decide) (by decide) (by first | decide | omega) (by first | exact rfl | exact mk_3 (by assumption)) rfl rfl rfl (Nat.le_of_ble_eq_true rfl) dX5_areLanePairs_43 (Nat.le_refl _) (Nat.le_refl _) ?_
        first | refine J.if_eq_b C dX5_areLanePairs_46 (tgt := 55) (by decide) (fun c46t => ?_) (fun c46f => ?_) | refine J.if_eq_n C (by omega) dX5_areLanePairs_46 (tgt := 55) (by decide) (fun c46t => ?_) (fun c46f => ?_) | refine J.if_eq C dX5_areLanePairs_46 (tgt := 55) (by decide) (fun c46t => ?_) (fun c46f => ?_)
        · refine J.iconst C dX5_areLanePairs_55 (v := (nI 0)) (by decide) ?_
          exact J.zret C dX5_areLanePairs_56 (by first | exact bI_nar _ | rfl | decide | assumption) (no (by omega) (fun q => by first | exact tb_f.mp c34t (a1.mp q.1) | exact tb_f.mp c46t (a2.mp q.2.1) | exact c52f (Int32.lt_iff_toInt_lt.mpr q.2.2)))
        · refine J.iload_n C dX5_areLanePairs_49 rfl ?_
          refine J.iload C dX5_areLanePairs_50 rfl ?_
          refine J.icmp_lt C dX5_areLanePairs_52 (tgt := 57) (by decide) (fun c52t => ?_) (fun c52f => ?_)
          · refine J.iinc (ls' := [(0, _), (1, _), (2, _), (3, _), (4, _)]) C dX5_areLanePairs_57 rfl (by first | exact nI_inc _ 2 | exact rfl) (by decide) rfl ?_
            refine J.goto C dX5_areLanePairs_60 (tgt := 2) (by decide) ?_
            refine J.lsx (ls' := [(0, _), (1, _), (2, _)]) (ex := [(3, _), (4, _)]) rfl ?_
            refine ih (k + 1) (by omega) (by omega) (fun j q q2 => ?_)
            by_cases e : j = k
            · subst e
              exact ⟨a1.mpr (tb_t.mp c34f), a2.mpr (tb_t.mp c46f), Int32.lt_iff_toInt_lt.mp c52t⟩
            · exact hb j (by omega) q2
          · refine J.iconst C dX5_areLanePairs_55 (v := (nI 0)) (by decide) ?_
            exact J.zret C dX5_areLanePairs_56 (by first | exact bI_nar _ | rfl | decide | assumption) (no (by omega) (fun q => by first | exact tb_f.mp c34t (a1.mp q.1) | exact tb_f.mp c46t (a2.mp q.2.1) | exact c52f (Int32.lt_iff_toInt_lt.mpr q.2.2)))
set_option maxHeartbeats 4000000 in
set_option maxRecDepth 100000 in
theorem ok_X5_areLanePairs (l : Launch) (V : Vx) {n c : Nat} {w : Nat → Int32} (I : Nat → Nat → Int32) (L : Nat → Nat → Int64) (hn : I 1 0 = nI n) (hn8 : n ≤ 8) (hc : c ≤ 80) (hw : ∀ i, i < c → I 64 i = w i) : Di l V yX5_areLanePairs wsX5_areLanePairs 2 [.ref (ad V 0), .int (nI c)] I L (bI (tb (∀ k, 2 * k + 1 < c → vld n (w (2 * k)) (w (2 * k + 1))))) I L := by
  refine Ok.of (cc := cX5_areLanePairs) (maxL := 5) (ret := (some .boolean)) (by decide) rfl (Nat.le_of_ble_eq_true rfl) (fun X hnm C => ?_)
  have C : CX l X V RX5 cX5_areLanePairs 5 wsX5_areLanePairs 2 0 0 (some .boolean) := C
  refine J.cast (ls' := [(0, _), (1, _)]) rfl rfl rfl rfl ?_
  refine J.iconst C dX5_areLanePairs_0 (v := (nI 0)) (by decide) ?_
  refine J.istore_n (ls' := [(0, _), (1, _), (2, _)]) C dX5_areLanePairs_1 (by decide) rfl ?_
  exact lp_X5_areLanePairs C hn hn8 hc hw ⟨rfl, rfl⟩ 40 0 (by omega) (by omega) (fun j q => absurd q (Nat.not_lt_zero _))
set_option maxHeartbeats 4000000 in
set_option maxRecDepth 100000 in
theorem lp_X5_would_i {l : Launch} {X : Cx} {V : Vx} {P : Option Value → (Nat → va_E) → Prop} {I : Nat → Nat → Int32} {L : Nat → Nat → Int64} (C : CX l X V RX5 cX5_would 4 wsX5_would 4 0 0 (some .int)) {n b c : Nat} {w : Nat → Int32} {v : Nat → Nat} (hn8 : n ≤ 8) (hc : c ≤ 80) (hw : ∀ i, i < c → I 64 i = w i) (hv : ∀ k, 2 * k < c → vld n (w (2 * k)) (w (2 * k + 1))) (h2 : c % 2 = 0) (hx : ∀ (L0 : Nat → Nat → Int64), (∀ q, q ≠ 57 → q ≠ 58 → L0 q = L q) → RwI n b (L0 58) (fun r => gk (wc w) (-1) (v r) (c / 2)) → E X V P 4 117 [(0, .ref (ad V 0)), (1, .int (nI c)), (2, .int (nI b)), (3, .int (nI c))] [] I L0) : ∀ (z k : Nat) (L0 : Nat → Nat → Int64), 2 * (k + z) = c → (∀ q, q ≠ 57 → q ≠ 58 → L0 q = L q) → RwA n (L0 57 1) → RwI n b (L0 58) (fun r => gk (wc w) (-1) (v r) k) → E X V P 4 82 [(0, .ref (ad V 0)), (1, .int (nI c)), (2, .int (nI b)), (3, .int (nI (2 * k)))] [] I L0 := by
  have l64 : ln 64 = 80 := by decide +kernel
  intro z
  induction z with
  | zero =>
    intro k L0 hk hf hA hR
    obtain rfl : c = 2 * k := by omega
    refine J.iload_n C dX5_would_82 rfl ?_
    refine J.iconst C dX5_would_83 (v := (nI 1)) (by decide) ?_
    first | refine J.iadd_n C dX5_would_84 ?_ | refine J.iadd C dX5_would_84 ?_
    refine J.iload_n C dX5_would_85 rfl ?_
    first | refine J.icmp_ge_n C (by omega) (by omega) dX5_would_86 (tgt := 117) (by decide) (fun _ => ?_) (fun c86 => absurd c86 (by first | omega | decide | simp_all)) | refine J.icmp_ge_xn C (by omega) dX5_would_86 (tgt := 117) (by decide) (fun _ => ?_) (fun c86 => absurd c86 (by first | omega | decide | simp_all)) | refine J.icmp_ge_nx C (by omega) dX5_would_86 (tgt := 117) (by decide) (fun _ => ?_) (fun c86 => absurd c86 (by first | omega | decide | simp_all)) | refine J.icmp_ge C dX5_would_86 (tgt := 117) (by decide) (fun _ => ?_) (fun c86 => absurd c86 (by first | omega | decide | simp_all))
    exact hx L0 hf (by rw [show 2 * k / 2 = k by omega]; exact hR)
  | succ z ih =>
    intro k L0 hk hf hA hR
    obtain ⟨hcc, w1, w2⟩ := vld_c (hv k (by omega))
    have hcB := okC_B hcc hn8
    have hab : (wc w k).2.1 ≠ (wc w k).2.2.1 := by have := hcc.2.1; omega
    obtain ⟨hb1, hb2, hb3⟩ := id hcB
    have i1 : I 64 (2 * k) = nI (wc w k).2.1 := by rw [hw _ (by omega)]; exact w1
    have i2 : I 64 (2 * k + 1) = nI (wc w k).2.2.1 := by rw [hw _ (by omega)]; exact w2
    have q0 : actK (wc w k) = 0 := rfl
    have u := RwI_step (C' := up3 (up3 L0 58 (wc w k).2.1 (L0 58 (wc w k).2.1 ^^^ (chV 0 (L0 58 (wc w k).2.1) (L0 58 (wc w k).2.2.1) (L0 57 1) &&& (L0 58 (wc w k).2.1 ^^^ L0 58 (wc w k).2.2.1)))) 58 (wc w k).2.2.1 (L0 58 (wc w k).2.2.1 ^^^ (chV 0 (L0 58 (wc w k).2.1) (L0 58 (wc w k).2.2.1) (L0 57 1) &&& (L0 58 (wc w k).2.1 ^^^ L0 58 (wc w k).2.2.1))) 58) hR hA hcc (by rw [up3_m _ _ _ hab, up3_s, q0]) (by rw [up3_s, q0]) (fun a e1 e2 => by rw [up3_m _ _ _ e2, up3_m _ _ _ e1])
    refine J.iload_n C dX5_would_82 rfl ?_
    refine J.iconst C dX5_would_83 (v := (nI 1)) (by decide) ?_
    first | refine J.iadd_n C dX5_would_84 ?_ | refine J.iadd C dX5_would_84 ?_
    refine J.iload_n C dX5_would_85 rfl ?_
    first | refine J.icmp_ge_n C (by omega) (by omega) dX5_would_86 (tgt := 117) (by decide) (fun c86 => absurd c86 (by first | omega | decide | simp_all)) (fun _ => ?_) | refine J.icmp_ge_xn C (by omega) dX5_would_86 (tgt := 117) (by decide) (fun c86 => absurd c86 (by first | omega | decide | simp_all)) (fun _ => ?_) | refine J.icmp_ge_nx C (by omega) dX5_would_86 (tgt := 117) (by decide) (fun c86 => absurd c86 (by first | omega | decide | simp_all)) (fun _ => ?_) | refine J.icmp_ge C dX5_would_86 (tgt := 117) (by decide) (fun c86 => absurd c86 (by first | omega | decide | simp_all)) (fun _ => ?_)
    refine J.aload_n C dX5_would_89 rfl ?_
    refine J.getR C flX5_would_36 (by first | decide | omega) rfl (by exact rfl) dX5_would_90 ?_
    refine J.iconst C dX5_would_93 (v := (nI 0)) (by decide) ?_
    refine J.aload_n C dX5_would_94 rfl ?_
    refine J.getR C flX5_would_54 (by first | decide | omega) rfl (by exact rfl) dX5_would_95 ?_
    refine J.iload_n C dX5_would_98 rfl ?_
    refine J.ia C (by first | exact rfl | assumption) (by first | exact rfl | exact rfl) (by first | omega | omega) (by first | ((repeat (first | rewrite [up2_n _ _ _ (by first | decide | omega)] | rewrite [up2_m _ _ _ (by decide)] | rewrite [up3_n _ _ _ (by first | decide | omega)])) <;> (first | exact up2_s _ _ _ _ | exact up3_s _ _ _ _ | assumption | exact rfl))) dX5_would_99 ?_
    refine J.aload_n C dX5_would_100 rfl ?_
    refine J.getR C flX5_would_54 (by first | decide | omega) rfl (by exact rfl) dX5_would_101 ?_
    refine J.iload_n C dX5_would_104 rfl ?_
    refine J.iconst C dX5_would_105 (v := (nI 1)) (by decide) ?_
    first | refine J.iadd_n C dX5_would_106 ?_ | refine J.iadd C dX5_would_106 ?_
    refine J.ia C (by first | exact rfl | assumption) (by first | exact rfl | exact rfl) (by first | omega | omega) (by first | ((repeat (first | rewrite [up2_n _ _ _ (by first | decide | omega)] | rewrite [up2_m _ _ _ (by decide)] | rewrite [up3_n _ _ _ (by first | decide | omega)])) <;> (first | exact up2_s _ _ _ _ | exact up3_s _ _ _ _ | assumption | exact rfl))) dX5_would_107 ?_
    refine J.cVDv (q := (RX4, TX4, 2)) (ci := 4) C (ok_X4_step l V (k := 57) (q := 0) _ _ rfl (by decide) hb2 hb3 hab rfl rfl rfl) gX5_would_X4_step rfl mfX4_step rfl (by decide) (by decide) (by first | decide | omega) (by first | exact rfl | exact mk_4 (by assumption)) rfl rfl rfl (Nat.le_of_ble_eq_true rfl) dX5_would_108 (Nat.le_refl _) (Nat.le_refl _) ?_
    refine J.iinc (ls' := [(0, _), (1, _), (2, _), (3, _)]) C dX5_would_111 rfl (by first | exact nI_inc _ 2 | exact rfl) (by decide) rfl ?_
    refine J.goto C dX5_would_114 (tgt := 82) (by decide) ?_
    refine ih (k + 1) _ (by omega) (fun q a b => by rw [up3_n _ _ _ b, up3_n _ _ _ b]; exact hf q a b) (by rw [up3_n _ _ _ (by decide), up3_n _ _ _ (by decide)]; exact hA) (fun a ha r hr => ?_)
    rw [u a ha r hr]
    show (_ && (stp (wc w k) (gk (wc w) (-1) (v (64 * b + r)) k)).testBit a) = (_ && (gk (wc w) (-1) (v (64 * b + r)) (k + 1)).testBit a)
    rw [gk_m1]
set_option maxHeartbeats 4000000 in
set_option maxRecDepth 100000 in
theorem lp_X5_would_o {l : Launch} {X : Cx} {V : Vx} {P : Option Value → (Nat → va_E) → Prop} {I : Nat → Nat → Int32} {L : Nat → Nat → Int64} (C : CX l X V RX5 cX5_would 4 wsX5_would 4 0 0 (some .int)) {t : Nt} {c : Nat} {w : Nat → Int32} (ok : okN t) (hN : netC I 1 t) (hc : c ≤ 80) (hw : ∀ i, i < c → I 64 i = w i) (hv : ∀ k, 2 * k < c → vld t.1 (w (2 * k)) (w (2 * k + 1))) (h2 : c % 2 = 0) (hP : ∀ L0, (∀ q, q ≠ 57 → q ≠ 58 → L0 q = L q) → P (some (.int (bI (tb (∀ r, r < 2 ^ t.1 → Ris t.1 (gk (wc w) (-1) (gk t.2.2 (-1) r t.2.1) (c / 2))))))) (mm V I L0)) : ∀ (z b : Nat) (L0 : Nat → Nat → Int64), b + z = 2 ^ (t.1 - 6) → (∀ q, q ≠ 57 → q ≠ 58 → L0 q = L q) → (∀ r, r < 64 * b → r < 2 ^ t.1 → Ris t.1 (gk (wc w) (-1) (gk t.2.2 (-1) r t.2.1) (c / 2))) → E X V P 4 39 [(0, .ref (ad V 0)), (1, .int (nI c)), (2, .int (nI b))] [] I L0 := by
  have h8 := ok.2.1
  have h0 := hN.1
  obtain ⟨hbk, hb4⟩ := blk_n h8
  intro z
  induction z with
  | zero =>
    intro b L0 hb hf hr
    refine J.iload_n C dX5_would_39 rfl ?_
    refine J.aload_n C dX5_would_40 rfl ?_
    refine J.getR C flX5_would_10 (by first | decide | omega) rfl (by exact rfl) dX5_would_41 ?_
    refine J.getI C flX5_would_160 (by first | decide | omega) (by first | exact rfl | exact mk_3 (by assumption)) (by exact rfl) (by first | ((repeat (first | rewrite [up2_n _ _ _ (by first | decide | omega)] | rewrite [up2_m _ _ _ (by decide)] | rewrite [up3_n _ _ _ (by first | decide | omega)])) <;> (first | exact up2_s _ _ _ _ | exact up3_s _ _ _ _ | assumption | exact rfl))) dX5_would_44 ?_
    refine J.cSDi C (ok_X4_blocks l V _ _ h8) gX5_would_X4_blocks rfl mfX4_blocks (by decide) (by decide) rfl rfl (Nat.le_of_ble_eq_true rfl) dX5_would_47 (Nat.le_refl _) (Nat.le_refl _) ?_
    first | refine J.icmp_ge_n C (by omega) (by omega) dX5_would_50 (tgt := 145) (by decide) (fun _ => ?_) (fun c50 => absurd c50 (by first | omega | decide | simp_all)) | refine J.icmp_ge_xn C (by omega) dX5_would_50 (tgt := 145) (by decide) (fun _ => ?_) (fun c50 => absurd c50 (by first | omega | decide | simp_all)) | refine J.icmp_ge_nx C (by omega) dX5_would_50 (tgt := 145) (by decide) (fun _ => ?_) (fun c50 => absurd c50 (by first | omega | decide | simp_all)) | refine J.icmp_ge C dX5_would_50 (tgt := 145) (by decide) (fun _ => ?_) (fun c50 => absurd c50 (by first | omega | decide | simp_all))
    refine J.iconst C dX5_would_145 (v := (nI 1)) (by decide) ?_
    exact J.iret C dX5_would_146 (by have w' := hP L0 hf; rw [tb_1 (show (∀ r, r < 2 ^ t.1 → Ris t.1 (gk (wc w) (-1) (gk t.2.2 (-1) r t.2.1) (c / 2))) from fun r q => hr r (by omega) q)] at w'; exact w')
  | succ z ih =>
    intro b L0 hb hf hr
    have hbb : b < 2 ^ (t.1 - 6) := by omega
    refine J.iload_n C dX5_would_39 rfl ?_
    refine J.aload_n C dX5_would_40 rfl ?_
    refine J.getR C flX5_would_10 (by first | decide | omega) rfl (by exact rfl) dX5_would_41 ?_
    refine J.getI C flX5_would_160 (by first | decide | omega) (by first | exact rfl | exact mk_3 (by assumption)) (by exact rfl) (by first | ((repeat (first | rewrite [up2_n _ _ _ (by first | decide | omega)] | rewrite [up2_m _ _ _ (by decide)] | rewrite [up3_n _ _ _ (by first | decide | omega)])) <;> (first | exact up2_s _ _ _ _ | exact up3_s _ _ _ _ | assumption | exact rfl))) dX5_would_44 ?_
    refine J.cSDi C (ok_X4_blocks l V _ _ h8) gX5_would_X4_blocks rfl mfX4_blocks (by decide) (by decide) rfl rfl (Nat.le_of_ble_eq_true rfl) dX5_would_47 (Nat.le_refl _) (Nat.le_refl _) ?_
    first | refine J.icmp_ge_n C (by omega) (by omega) dX5_would_50 (tgt := 145) (by decide) (fun c50 => absurd c50 (by first | omega | decide | simp_all)) (fun _ => ?_) | refine J.icmp_ge_xn C (by omega) dX5_would_50 (tgt := 145) (by decide) (fun c50 => absurd c50 (by first | omega | decide | simp_all)) (fun _ => ?_) | refine J.icmp_ge_nx C (by omega) dX5_would_50 (tgt := 145) (by decide) (fun c50 => absurd c50 (by first | omega | decide | simp_all)) (fun _ => ?_) | refine J.icmp_ge C dX5_would_50 (tgt := 145) (by decide) (fun c50 => absurd c50 (by first | omega | decide | simp_all)) (fun _ => ?_)
    refine J.aload_n C dX5_would_53 rfl ?_
    refine J.getR C flX5_would_36 (by first | decide | omega) rfl (by exact rfl) dX5_would_54 ?_
    refine J.aload_n C dX5_would_57 rfl ?_
    refine J.getR C flX5_would_10 (by first | decide | omega) rfl (by exact rfl) dX5_would_58 ?_
    refine J.getI C flX5_would_160 (by first | decide | omega) (by first | exact rfl | exact mk_3 (by assumption)) (by exact rfl) (by first | ((repeat (first | rewrite [up2_n _ _ _ (by first | decide | omega)] | rewrite [up2_m _ _ _ (by decide)] | rewrite [up3_n _ _ _ (by first | decide | omega)])) <;> (first | exact up2_s _ _ _ _ | exact up3_s _ _ _ _ | assumption | exact rfl))) dX5_would_61 ?_
    refine J.iload_n C dX5_would_64 rfl ?_
    refine J.cVGv (q := (RX4, TX4, 2)) (ci := 4) C (ok_X4_start l V (k := 57) (b := b) _ _ rfl h8 (by omega)) gX5_would_X4_start rfl mfX4_start rfl (by decide) (by decide) (by first | decide | omega) (by first | exact rfl | exact mk_4 (by assumption)) rfl rfl rfl (Nat.le_of_ble_eq_true rfl) dX5_would_65 (Nat.le_refl _) (Nat.le_refl _) (fun I65 L65 h65 => ?_)
    obtain ⟨rfl, ha, hc', hf2⟩ := h65
    have hR := RwI_0 h8 (show b < 4 by omega) hc'
    have hA : RwA t.1 (L65 57 1) := by rw [ha]; exact alV_b h8
    refine J.aload_n C dX5_would_68 rfl ?_
    refine J.getR C flX5_would_36 (by first | decide | omega) rfl (by exact rfl) dX5_would_69 ?_
    refine J.aload_n C dX5_would_72 rfl ?_
    refine J.getR C flX5_would_10 (by first | decide | omega) rfl (by exact rfl) dX5_would_73 ?_
    refine J.iconst C dX5_would_76 (v := (-1)) (by decide) ?_
    refine J.cVGv (q := (RX4, TX4, 2)) (ci := 4) C (ok_X4_pass l V (k := 57) (q := 1) (b := b) _ _ rfl rfl ok hN hA hR) gX5_would_X4_pass rfl mfX4_pass rfl (by decide) (by decide) (by first | decide | omega) (by first | exact rfl | exact mk_4 (by assumption)) rfl rfl rfl (Nat.le_of_ble_eq_true rfl) dX5_would_77 (Nat.le_refl _) (Nat.le_refl _) (fun I77 L77 h77 => ?_)
    obtain ⟨rfl, hp1, hp2, hp3⟩ := h77
    rw [toInt_m1] at hp3
    rw [← hp1] at hA
    refine J.iconst C dX5_would_80 (v := (nI 0)) (by decide) ?_
    refine J.istore_n (ls' := [(0, _), (1, _), (2, _), (3, _)]) C dX5_would_81 (by decide) rfl ?_
    refine lp_X5_would_i C (b := b) (L := L) h8 hc hw hv h2 (fun L1 hf1 hR1 => ?_) (c / 2) 0 L77 (by omega) (fun q a b => by rw [hp2 q b, hf2 q a b]; exact hf q a b) hA hp3
    refine J.aload_n C dX5_would_117 rfl ?_
    refine J.getR C flX5_would_36 (by first | decide | omega) rfl (by exact rfl) dX5_would_118 ?_
    refine J.iconst C dX5_would_121 (v := (nI 0)) (by decide) ?_
    refine J.aload_n C dX5_would_122 rfl ?_
    refine J.getR C flX5_would_10 (by first | decide | omega) rfl (by exact rfl) dX5_would_123 ?_
    refine J.getI C flX5_would_160 (by first | decide | omega) (by first | exact rfl | exact mk_3 (by assumption)) (by exact rfl) (by first | ((repeat (first | rewrite [up2_n _ _ _ (by first | decide | omega)] | rewrite [up2_m _ _ _ (by decide)] | rewrite [up3_n _ _ _ (by first | decide | omega)])) <;> (first | exact up2_s _ _ _ _ | exact up3_s _ _ _ _ | assumption | exact rfl))) dX5_would_126 ?_
    refine J.cVGl (q := (RX4, TX4, 2)) (ci := 4) C (ok_X4_falling l V (k := 57) (f := 0) _ _ rfl h8 (by decide)) gX5_would_X4_falling rfl mfX4_falling rfl (by decide) (by decide) (by first | decide | omega) (by first | exact rfl | exact mk_4 (by assumption)) rfl rfl rfl (Nat.le_of_ble_eq_true rfl) dX5_would_129 (Nat.le_refl _) (Nat.le_refl _) (fun r129 I129 L129 h129 => ?_)
    obtain ⟨rfl, rfl, hx⟩ := h129
    have hbit : ∀ r, r < 64 → (bt r129 r = true ↔ 64 * b + r < 2 ^ t.1 ∧ ¬ Ris t.1 (gk (wc w) (-1) (gk t.2.2 (-1) (64 * b + r) t.2.1) (c / 2))) := fun r q => by rw [hx r q, fall_b hR1 (Nat.le_refl _) q, ← ris_n, (rb64 h8 hbb q).1]
    refine J.lconst C dX5_would_132 (v := 0) (by decide) ?_
    refine J.lcmp C dX5_would_133 ?_
    refine J.if_eq_c C dX5_would_134 (tgt := 139) (by decide) (fun c134t => ?_) (fun c134f => ?_)
    · refine J.iinc (ls' := [(0, _), (1, _), (2, _), (3, _)]) C dX5_would_139 rfl (by first | exact nI_inc _ 1 | exact rfl) (by decide) rfl ?_
      refine J.goto C dX5_would_142 (tgt := 39) (by decide) ?_
      refine J.lsx (ls' := [(0, _), (1, _), (2, _)]) (ex := [(3, _)]) rfl ?_
      refine ih (b + 1) _ (by omega) hf1 (fun r q1 q2 => ?_)
      by_cases z : r < 64 * b
      · exact hr r z q2
      · refine Classical.byContradiction (fun q3 => ?_)
        have y := (hbit (r - 64 * b) (by omega)).mpr (by rw [show 64 * b + (r - 64 * b) = r by omega]; exact ⟨q2, q3⟩)
        rw [c134t, bt_0] at y
        cases y
    · obtain ⟨r0, hr0, hb1, -⟩ := low_x c134f
      obtain ⟨w1, w2⟩ := (hbit r0 hr0).mp hb1
      refine J.iconst C dX5_would_137 (v := (nI 0)) (by decide) ?_
      exact J.iret C dX5_would_138 (by have w' := hP _ hf1; rw [tb_0 (fun q => w2 (q _ w1))] at w'; exact w')
set_option maxHeartbeats 4000000 in
set_option maxRecDepth 100000 in
theorem ok_X5_would (l : Launch) (V : Vx) {g : Sg}  (I : Nat → Nat → Int32) (L : Nat → Nat → Int64)  (hz : V.2.2.2.2.2 = false) (h : AbC I L g) (ok : okG g) : PC l V yX5_would wsX5_would 4 [.ref (ad V 0)] I L (op_would g) := by
  have hN := h.1
  have h0 := hN.1
  have hm := hN.2.1
  have hl2 := ok.1.1
  have hl8 := ok.1.2.1
  have h40 := ok.1.2.2.1
  obtain ⟨hq, hq80, hwv⟩ := id h.2.2.2.2.1
  have hW : AbC (up2 I 0 9 (nI 0)) L (gW g) := AbC_0 (w := (0, g.2.2.2.2.1.2)) (z := g.2.2.2.2.2) h (fun k a b c => up2_n _ _ _ a) ⟨up2_s _ _ _ _, Nat.zero_le _, fun i q => absurd q (Nat.not_lt_zero _)⟩ (by rw [up2_m _ _ _ (by decide)]; exact h.2.2.2.2.2.1)
  have fr0 : frC I (up2 I 0 9 (nI 0)) := frC_up (by decide) frC_rfl
  have qF : ∀ z, qC I L (z, gF (gW g)) z (fC (up2 I 0 9 (nI 0))) L := fun z => ⟨rfl, AbC_F hW, frC_up (by decide) fr0, frCL_rfl⟩
  have n0 : up2 I 0 9 (nI 0) 1 0 = nI g.1.1 := by rw [up2_n _ _ _ (by decide)]; exact h0
  have w0 : ∀ i, i < g.2.2.2.2.1.1 → up2 I 0 9 (nI 0) 64 i = g.2.2.2.2.1.2 i := fun i q => by rw [up2_n _ _ _ (by decide)]; exact hwv i q
  refine Ok.of (cc := cX5_would) (maxL := 4) (ret := (some .int)) (by decide) rfl (Nat.le_of_ble_eq_true rfl) (fun X hnm C => ?_)
  have C : CX l X V RX5 cX5_would 4 wsX5_would 4 0 0 (some .int) := C
  refine J.cast (ls' := [(0, _)]) rfl rfl rfl rfl ?_
  refine J.aload_n C dX5_would_0 rfl ?_
  refine J.getI C flX5_would_57 (by first | decide | omega) rfl (by exact rfl) (by first | ((repeat (first | rewrite [up2_n _ _ _ (by first | decide | omega)] | rewrite [up2_m _ _ _ (by decide)] | rewrite [up3_n _ _ _ (by first | decide | omega)])) <;> (first | exact up2_s _ _ _ _ | exact up3_s _ _ _ _ | assumption | exact rfl))) dX5_would_1 ?_
  refine J.istore_n (ls' := [(0, _), (1, _)]) C dX5_would_4 (by decide) rfl ?_
  refine J.aload_n C dX5_would_5 rfl ?_
  refine J.iconst C dX5_would_6 (v := (nI 0)) (by decide) ?_
  refine J.putI C fpX5_would_57 (by first | decide | omega) rfl (Nat.le_of_ble_eq_true rfl) (by first | exact mp_5_9 rfl | exact mp_5_9 (by assumption)) dX5_would_7 ?_
  refine J.iload_n C dX5_would_10 rfl ?_
  refine J.iconst C dX5_would_11 (v := (nI 2)) (by decide) ?_
  first | refine J.irem_n C (by omega) (by omega) (by omega) dX5_would_12 ?_ | refine J.irem C (by decide) dX5_would_12 ?_
  first | refine J.if_eq_b C dX5_would_13 (tgt := 23) (by decide) (fun c13t => ?_) (fun c13f => ?_) | refine J.if_eq_n C (by omega) dX5_would_13 (tgt := 23) (by decide) (fun c13t => ?_) (fun c13f => ?_) | refine J.if_eq C dX5_would_13 (tgt := 23) (by decide) (fun c13t => ?_) (fun c13f => ?_)
  · have e0 : g.2.2.2.2.1.1 % 2 = 0 := by omega
    unfold op_would
    rw [tb_1 e0]
    have ev : (∀ k, 2 * k + 1 < g.2.2.2.2.1.1 → vld g.1.1 (g.2.2.2.2.1.2 (2 * k)) (g.2.2.2.2.1.2 (2 * k + 1))) ↔ (∀ k, 2 * k < g.2.2.2.2.1.1 → vld g.1.1 (g.2.2.2.2.1.2 (2 * k)) (g.2.2.2.2.1.2 (2 * k + 1))) := ⟨fun q k z => q k (by omega), fun q k z => q k (by omega)⟩
    refine J.aload_n C dX5_would_23 rfl ?_
    refine J.iload_n C dX5_would_24 rfl ?_
    refine J.cVDi (q := (RX5, TX5, 11)) (ci := 5) C (ok_X5_areLanePairs l V (w := g.2.2.2.2.1.2) _ _ n0 hl8 hq80 w0) gX5_would_X5_areLanePairs rfl mfX5_areLanePairs rfl (by decide) (by decide) (by first | decide | omega) rfl rfl rfl rfl (Nat.le_of_ble_eq_true rfl) dX5_would_25 (Nat.le_refl _) (Nat.le_refl _) ?_
    first | refine J.if_ne_b C dX5_would_28 (tgt := 37) (by decide) (fun c28t => ?_) (fun c28f => ?_) | refine J.if_ne_n C (by omega) dX5_would_28 (tgt := 37) (by decide) (fun c28t => ?_) (fun c28f => ?_) | refine J.if_ne C dX5_would_28 (tgt := 37) (by decide) (fun c28t => ?_) (fun c28f => ?_)
    · have hv := ev.mp (tb_t.mp c28t)
      rw [tb_1 hv]
      refine J.iconst C dX5_would_37 (v := (nI 0)) (by decide) ?_
      refine J.istore_n (ls' := [(0, _), (1, _), (2, _)]) C dX5_would_38 (by decide) rfl ?_
      refine lp_X5_would_o C (w := g.2.2.2.2.1.2) ok.1 hW.1 hq80 w0 hv e0 (fun L0 hf => ?_) (2 ^ (g.1.1 - 6)) 0 L (by omega) (fun _ _ _ => rfl) (fun r q => by omega)
      exact qC_s ⟨rfl, AbC_rw hW hf, fr0, fun q a => hf q (by omega) (by omega)⟩
    · rw [tb_0 (fun q => tb_f.mp c28f (ev.mpr q))]
      refine J.aload_n C dX5_would_31 rfl ?_
      refine J.iconst C dX5_would_32 (v := (-1)) (by decide) ?_
      refine J.cVDi (q := (RX5, TX5, 11)) (ci := 5) C (ok_X5_finding l V _ _ _) gX5_would_X5_finding rfl mfX5_finding rfl (by decide) (by decide) (by first | decide | omega) rfl rfl rfl rfl (Nat.le_of_ble_eq_true rfl) dX5_would_33 (Nat.le_refl _) (Nat.le_refl _) ?_
      exact J.iret C dX5_would_36 (qC_s (qF _))
  · unfold op_would
    rw [tb_0 (show ¬ g.2.2.2.2.1.1 % 2 = 0 by omega)]
    refine J.aload_n C dX5_would_16 rfl ?_
    refine J.bipush C dX5_would_17 (v := (-3)) (by decide) ?_
    refine J.cVDi (q := (RX5, TX5, 11)) (ci := 5) C (ok_X5_finding l V _ _ _) gX5_would_X5_finding rfl mfX5_finding rfl (by decide) (by decide) (by first | decide | omega) rfl rfl rfl rfl (Nat.le_of_ble_eq_true rfl) dX5_would_19 (Nat.le_refl _) (Nat.le_refl _) ?_
    exact J.iret C dX5_would_22 (qC_s (qF _))
