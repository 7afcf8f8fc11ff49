/-! THE REFERENCE: would -/
def vld (n : Nat) (x y : Int32) : Prop := (0 ≤ x.toInt ∧ x.toInt < (n : Int)) ∧ (0 ≤ y.toInt ∧ y.toInt < (n : Int)) ∧ x.toInt < y.toInt
def wc (w : Nat → Int32) (k : Nat) : Cmp := (0, (w (2 * k)).toInt.toNat, (w (2 * k + 1)).toInt.toNat, false)
theorem vld_c {n : Nat} {w : Nat → Int32} {k : Nat} (h : vld n (w (2 * k)) (w (2 * k + 1))) : okC n (wc w k) ∧ w (2 * k) = nI (wc w k).2.1 ∧ w (2 * k + 1) = nI (wc w k).2.2.1 := by
  obtain ⟨⟨h1, h2⟩, ⟨h3, h4⟩, h5⟩ := h
  have key : ∀ x : Int32, 0 ≤ x.toInt → x = nI x.toInt.toNat := fun x hx => by
    rcases nI_or x with ⟨k, hk, rfl⟩ | q
    · rw [nI_ti hk]; rfl
    · omega
  exact ⟨⟨Nat.zero_le 4, by show (w (2 * k)).toInt.toNat < (w (2 * k + 1)).toInt.toNat; omega, by show (w (2 * k + 1)).toInt.toNat < n; omega, fun _ => rfl⟩, key _ h1, key _ h3⟩
def gW (g : Sg) : Sg := (g.1, g.2.1, g.2.2.1, g.2.2.2.1, (0, g.2.2.2.2.1.2), g.2.2.2.2.2)
noncomputable def op_would (g : Sg) : Int32 × Sg := cond (tb (g.2.2.2.2.1.1 % 2 = 0)) (cond (tb (∀ k, 2 * k < g.2.2.2.2.1.1 → vld g.1.1 (g.2.2.2.2.1.2 (2 * k)) (g.2.2.2.2.1.2 (2 * k + 1)))) (bI (tb (∀ r, r < 2 ^ g.1.1 → Ris g.1.1 (gk (wc g.2.2.2.2.1.2) (-1) (gk g.1.2.2 (-1) r g.1.2.1) (g.2.2.2.2.1.1 / 2)))), gW g) (-1, gF (gW g))) (-3, gF (gW g))
set_option maxHeartbeats 4000000 in
set_option maxRecDepth 100000 in
theorem lp_X6_would_a {l : Launch} {X : Cx} {V : Vx} {P : Option Value → (Nat → va_E) → Prop} {I : Nat → Nat → Int32} {L : Nat → Nat → Int64} (C : CX l X V RX6 cX6_would 5 wsX6_would 3 0 0 (some .int)) {n c : Nat} {w : Nat → Int32} (hn : I 85 0 = nI n) (hn1 : 1 ≤ n) (hn8 : n ≤ 8) (hc : c ≤ 80) (h2 : c % 2 = 0) (hw : ∀ i, i < c → I 99 i = w i) (hP : (¬ ∀ k, 2 * k < c → vld n (w (2 * k)) (w (2 * k + 1))) → P (some (.int (-1))) (mm V (fM I) L)) (hx : (∀ k, 2 * k < c → vld n (w (2 * k)) (w (2 * k + 1))) → E X V P 5 87 [(0, .ref (ad V 85)), (1, .int (nI c)), (2, .int (nI c))] [] I L) : ∀ (q k : Nat), 2 * k + 2 * q = c → (∀ j, j < k → vld n (w (2 * j)) (w (2 * j + 1))) → E X V P 5 25 [(0, .ref (ad V 85)), (1, .int (nI c)), (2, .int (nI (2 * k)))] [] I L := by
  intro q
  induction q with
  | zero =>
    intro k hk hb
    have e : 2 * k = c := by omega
    rw [e]
    refine J.iload_n C dX6_would_25 rfl ?_
    refine J.iload_n C dX6_would_26 rfl ?_
    first | refine J.icmp_ge_n C (by omega) (by omega) dX6_would_27 (tgt := 87) (by decide) (fun _ => ?_) (fun c27 => absurd c27 (by first | omega | decide | simp_all)) | refine J.icmp_ge_xn C (by omega) dX6_would_27 (tgt := 87) (by decide) (fun _ => ?_) (fun c27 => absurd c27 (by first | omega | decide | simp_all)) | refine J.icmp_ge_nx C (by omega) dX6_would_27 (tgt := 87) (by decide) (fun _ => ?_) (fun c27 => absurd c27 (by first | omega | decide | simp_all)) | refine J.icmp_ge C dX6_would_27 (tgt := 87) (by decide) (fun _ => ?_) (fun c27 => absurd c27 (by first | omega | decide | simp_all))
    exact hx (fun j hj => hb j (by omega))
  | succ q ih =>
    intro k hk hb
    have w1 := hw (2 * k) (by omega)
    have w2 := hw (2 * k + 1) (by omega)
    refine J.iload_n C dX6_would_25 rfl ?_
    refine J.iload_n C dX6_would_26 rfl ?_
    first | refine J.icmp_ge_n C (by omega) (by omega) dX6_would_27 (tgt := 87) (by decide) (fun c27 => absurd c27 (by first | omega | decide | simp_all)) (fun _ => ?_) | refine J.icmp_ge_xn C (by omega) dX6_would_27 (tgt := 87) (by decide) (fun c27 => absurd c27 (by first | omega | decide | simp_all)) (fun _ => ?_) | refine J.icmp_ge_nx C (by omega) dX6_would_27 (tgt := 87) (by decide) (fun c27 => absurd c27 (by first | omega | decide | simp_all)) (fun _ => ?_) | refine J.icmp_ge C dX6_would_27 (tgt := 87) (by decide) (fun c27 => absurd c27 (by first | omega | decide | simp_all)) (fun _ => ?_)
    refine J.aload_n C dX6_would_30 rfl ?_
    refine J.aload_n C dX6_would_31 rfl ?_
    refine J.getR C flX6_would_55 (by first | decide | omega) rfl (by exact rfl) dX6_would_32 ?_
    refine J.iload_n C dX6_would_35 rfl ?_
    refine J.ia C (by first | exact rfl | assumption) (by first | exact rfl | exact rfl) (by first | (have h_ln := ln_all; omega) | omega) (by first | ((repeat (first | refine up2_rd (by decide) ?_ | refine up2_rm (by decide) ?_ | refine up3_rd (by decide) ?_)) <;> (first | exact up2_s _ _ _ _ | assumption | exact rfl))) dX6_would_36 ?_
    refine J.cVDi (q := (RX6, TX6, 25)) (ci := 6) C (ok_X6_isLane l V _ _ _ hn hn1 hn8) gX6_would_X6_isLane rfl mfX6_isLane rfl (by decide) (by decide) (by first | decide | omega) rfl rfl rfl rfl (Nat.le_of_ble_eq_true rfl) dX6_would_37 (Nat.le_refl _) (Nat.le_refl _) ?_
    first | refine J.if_eq_b C dX6_would_40 (tgt := 75) (by decide) (fun c40t => ?_) (fun c40f => ?_) | refine J.if_eq_n C (by omega) dX6_would_40 (tgt := 75) (by decide) (fun c40t => ?_) (fun c40f => ?_) | refine J.if_eq C dX6_would_40 (tgt := 75) (by decide) (fun c40t => ?_) (fun c40f => ?_)
    · refine J.aload_n C dX6_would_75 rfl ?_
      refine J.iconst C dX6_would_76 (v := (-1)) (by decide) ?_
      refine J.cVDi (q := (RX6, TX6, 25)) (ci := 6) C (ok_X6_found l V _ _ _) gX6_would_X6_found rfl mfX6_found rfl (by decide) (by decide) (by first | decide | omega) rfl rfl rfl rfl (Nat.le_of_ble_eq_true rfl) dX6_would_77 (Nat.le_refl _) (Nat.le_refl _) ?_
      exact J.iret C dX6_would_80 (hP (fun z => tb_f.mp c40t (z k (by omega)).1))
    · refine J.aload_n C dX6_would_43 rfl ?_
      refine J.aload_n C dX6_would_44 rfl ?_
      refine J.getR C flX6_would_55 (by first | decide | omega) rfl (by exact rfl) dX6_would_45 ?_
      refine J.iload_n C dX6_would_48 rfl ?_
      refine J.iconst C dX6_would_49 (v := (nI 1)) (by decide) ?_
      first | refine J.iadd_n C dX6_would_50 ?_ | refine J.iadd C dX6_would_50 ?_
      refine J.ia C (by first | exact rfl | assumption) (by first | exact rfl | exact rfl) (by first | (have h_ln := ln_all; omega) | omega) (by first | ((repeat (first | refine up2_rd (by decide) ?_ | refine up2_rm (by decide) ?_ | refine up3_rd (by decide) ?_)) <;> (first | exact up2_s _ _ _ _ | assumption | exact rfl))) dX6_would_51 ?_
      refine J.cVDi (q := (RX6, TX6, 25)) (ci := 6) C (ok_X6_isLane l V _ _ _ hn hn1 hn8) gX6_would_X6_isLane rfl mfX6_isLane rfl (by decide) (by decide) (by first | decide | omega) rfl rfl rfl rfl (Nat.le_of_ble_eq_true rfl) dX6_would_52 (Nat.le_refl _) (Nat.le_refl _) ?_
      first | refine J.if_eq_b C dX6_would_55 (tgt := 75) (by decide) (fun c55t => ?_) (fun c55f => ?_) | refine J.if_eq_n C (by omega) dX6_would_55 (tgt := 75) (by decide) (fun c55t => ?_) (fun c55f => ?_) | refine J.if_eq C dX6_would_55 (tgt := 75) (by decide) (fun c55t => ?_) (fun c55f => ?_)
      · refine J.aload_n C dX6_would_75 rfl ?_
        refine J.iconst C dX6_would_76 (v := (-1)) (by decide) ?_
        refine J.cVDi (q := (RX6, TX6, 25)) (ci := 6) C (ok_X6_found l V _ _ _) gX6_would_X6_found rfl mfX6_found rfl (by decide) (by decide) (by first | decide | omega) rfl rfl rfl rfl (Nat.le_of_ble_eq_true rfl) dX6_would_77 (Nat.le_refl _) (Nat.le_refl _) ?_
        exact J.iret C dX6_would_80 (hP (fun z => tb_f.mp c55t (z k (by omega)).2.1))
      · refine J.aload_n C dX6_would_58 rfl ?_
        refine J.getR C flX6_would_55 (by first | decide | omega) rfl (by exact rfl) dX6_would_59 ?_
        refine J.iload_n C dX6_would_62 rfl ?_
        refine J.ia C (by first | exact rfl | assumption) (by first | exact rfl | exact rfl) (by first | (have h_ln := ln_all; omega) | omega) (by first | ((repeat (first | refine up2_rd (by decide) ?_ | refine up2_rm (by decide) ?_ | refine up3_rd (by decide) ?_)) <;> (first | exact up2_s _ _ _ _ | assumption | exact rfl))) dX6_would_63 ?_
        refine J.aload_n C dX6_would_64 rfl ?_
        refine J.getR C flX6_would_55 (by first | decide | omega) rfl (by exact rfl) dX6_would_65 ?_
        refine J.iload_n C dX6_would_68 rfl ?_
        refine J.iconst C dX6_would_69 (v := (nI 1)) (by decide) ?_
        first | refine J.iadd_n C dX6_would_70 ?_ | refine J.iadd C dX6_would_70 ?_
        refine J.ia C (by first | exact rfl | assumption) (by first | exact rfl | exact rfl) (by first | (have h_ln := ln_all; omega) | omega) (by first | ((repeat (first | refine up2_rd (by decide) ?_ | refine up2_rm (by decide) ?_ | refine up3_rd (by decide) ?_)) <;> (first | exact up2_s _ _ _ _ | assumption | exact rfl))) dX6_would_71 ?_
        refine J.icmp_lt C dX6_would_72 (tgt := 81) (by decide) (fun c72t => ?_) (fun c72f => ?_)
        · refine J.iinc (ls' := [(0, _), (1, _), (2, _)]) C dX6_would_81 rfl (by first | exact nI_inc _ 2 | exact rfl) (by decide) rfl ?_
          refine J.goto C dX6_would_84 (tgt := 25) (by decide) ?_
          have hv : vld n (w (2 * k)) (w (2 * k + 1)) := ⟨tb_t.mp c40f, tb_t.mp c55f, Int32.lt_iff_toInt_lt.mp c72t⟩
          rw [show 2 * k + 2 = 2 * (k + 1) by omega]
          refine ih (k + 1) (by omega) (fun j hj => ?_)
          by_cases e : j = k
          · rw [e]; exact hv
          · exact hb j (by omega)
        · refine J.aload_n C dX6_would_75 rfl ?_
          refine J.iconst C dX6_would_76 (v := (-1)) (by decide) ?_
          refine J.cVDi (q := (RX6, TX6, 25)) (ci := 6) C (ok_X6_found l V _ _ _) gX6_would_X6_found rfl mfX6_found rfl (by decide) (by decide) (by first | decide | omega) rfl rfl rfl rfl (Nat.le_of_ble_eq_true rfl) dX6_would_77 (Nat.le_refl _) (Nat.le_refl _) ?_
          exact J.iret C dX6_would_80 (hP (fun z => c72f (Int32.lt_iff_toInt_lt.mpr (z k (by omega)).2.2)))
set_option maxHeartbeats 4000000 in
set_option maxRecDepth 100000 in
theorem lp_X6_would_i {l : Launch} {X : Cx} {V : Vx} {P : Option Value → (Nat → va_E) → Prop} {I : Nat → Nat → Int32} {L : Nat → Nat → Int64} (C : CX l X V RX6 cX6_would 5 wsX6_would 3 0 0 (some .int)) {n c r v0 : Nat} {w : Nat → Int32} (hn8 : n ≤ 8) (hc : c ≤ 80) (h2 : c % 2 = 0) (hw : ∀ i, i < c → I 99 i = w i) (hv : ∀ k, 2 * k < c → vld n (w (2 * k)) (w (2 * k + 1))) (hv0 : v0 < 2 ^ n) (hx : E X V P 5 174 [(0, .ref (ad V 85)), (1, .int (nI c)), (2, .int (nI r)), (3, .int (nI (gk (wc w) (-1) v0 (c / 2)))), (4, .int (nI c))] [] I L) : ∀ (q k v : Nat), k + q = c / 2 → v = gk (wc w) (-1) v0 k → E X V P 5 111 [(0, .ref (ad V 85)), (1, .int (nI c)), (2, .int (nI r)), (3, .int (nI v)), (4, .int (nI (2 * k)))] [] I L := by
  intro q
  have h8 := p2_le hn8
  induction q with
  | zero =>
    intro k v hk hv1
    have e : k = c / 2 := by omega
    subst e
    have e2 : 2 * (c / 2) = c := by omega
    rw [e2]
    subst hv1
    refine J.iload C dX6_would_111 rfl ?_
    refine J.iload_n C dX6_would_113 rfl ?_
    first | refine J.icmp_ge_n C (by omega) (by omega) dX6_would_114 (tgt := 174) (by decide) (fun _ => ?_) (fun c114 => absurd c114 (by first | omega | decide | simp_all)) | refine J.icmp_ge_xn C (by omega) dX6_would_114 (tgt := 174) (by decide) (fun _ => ?_) (fun c114 => absurd c114 (by first | omega | decide | simp_all)) | refine J.icmp_ge_nx C (by omega) dX6_would_114 (tgt := 174) (by decide) (fun _ => ?_) (fun c114 => absurd c114 (by first | omega | decide | simp_all)) | refine J.icmp_ge C dX6_would_114 (tgt := 174) (by decide) (fun _ => ?_) (fun c114 => absurd c114 (by first | omega | decide | simp_all))
    exact hx
  | succ q ih =>
    intro k v hk hv1
    obtain ⟨⟨z1, z2, z3, -⟩, z4, z5⟩ := vld_c (hv k (by omega))
    have hq1 : I 99 (2 * k) = nI (wc w k).2.1 := (hw _ (by omega)).trans z4
    have hq2 : I 99 (2 * k + 1) = nI (wc w k).2.2.1 := (hw _ (by omega)).trans z5
    have hg := gk_lt2 (n := n) (c := c / 2) (fun i hi => (vld_c (hv i (by omega))).1) hv0 k (by omega)
    rw [← hv1] at hg
    refine J.iload C dX6_would_111 rfl ?_
    refine J.iload_n C dX6_would_113 rfl ?_
    first | refine J.icmp_ge_n C (by omega) (by omega) dX6_would_114 (tgt := 174) (by decide) (fun c114 => absurd c114 (by first | omega | decide | simp_all)) (fun _ => ?_) | refine J.icmp_ge_xn C (by omega) dX6_would_114 (tgt := 174) (by decide) (fun c114 => absurd c114 (by first | omega | decide | simp_all)) (fun _ => ?_) | refine J.icmp_ge_nx C (by omega) dX6_would_114 (tgt := 174) (by decide) (fun c114 => absurd c114 (by first | omega | decide | simp_all)) (fun _ => ?_) | refine J.icmp_ge C dX6_would_114 (tgt := 174) (by decide) (fun c114 => absurd c114 (by first | omega | decide | simp_all)) (fun _ => ?_)
    refine J.iload_n C dX6_would_117 rfl ?_
    refine J.aload_n C dX6_would_118 rfl ?_
    refine J.getR C flX6_would_55 (by first | decide | omega) rfl (by exact rfl) dX6_would_119 ?_
    refine J.iload C dX6_would_122 rfl ?_
    refine J.ia C (by first | exact rfl | assumption) (by first | exact rfl | exact rfl) (by first | (have h_ln := ln_all; omega) | omega) (by first | exact hq1 | ((repeat (first | refine up2_rd (by decide) ?_ | refine up2_rm (by decide) ?_ | refine up3_rd (by decide) ?_)) <;> (first | exact up2_s _ _ _ _ | assumption | exact rfl))) dX6_would_124 ?_
    refine J.cSDi C (ok_X6_at l V (by omega) (by omega) _ _) gX6_would_X6_at rfl mfX6_at (by decide) (by decide) rfl rfl (Nat.le_of_ble_eq_true rfl) dX6_would_125 (Nat.le_refl _) (Nat.le_refl _) ?_
    refine J.iload_n C dX6_would_128 rfl ?_
    refine J.aload_n C dX6_would_129 rfl ?_
    refine J.getR C flX6_would_55 (by first | decide | omega) rfl (by exact rfl) dX6_would_130 ?_
    refine J.iload C dX6_would_133 rfl ?_
    refine J.iconst C dX6_would_135 (v := (nI 1)) (by decide) ?_
    first | refine J.iadd_n C dX6_would_136 ?_ | refine J.iadd C dX6_would_136 ?_
    refine J.ia C (by first | exact rfl | assumption) (by first | exact rfl | exact rfl) (by first | (have h_ln := ln_all; omega) | omega) (by first | exact hq2 | ((repeat (first | refine up2_rd (by decide) ?_ | refine up2_rm (by decide) ?_ | refine up3_rd (by decide) ?_)) <;> (first | exact up2_s _ _ _ _ | assumption | exact rfl))) dX6_would_137 ?_
    refine J.cSDi C (ok_X6_at l V (by omega) (by omega) _ _) gX6_would_X6_at rfl mfX6_at (by decide) (by decide) rfl rfl (Nat.le_of_ble_eq_true rfl) dX6_would_138 (Nat.le_refl _) (Nat.le_refl _) ?_
    refine J.icmp_le_n C (cb_lt _) (cb_lt _) dX6_would_141 (tgt := 168) (by decide) (fun c141t => ?_) (fun c141f => ?_)
    · refine J.iinc (ls' := [(0, _), (1, _), (2, _), (3, _), (4, _)]) C dX6_would_168 rfl (by first | exact nI_inc _ 2 | exact rfl) (by decide) rfl ?_
      refine J.goto C dX6_would_171 (tgt := 111) (by decide) ?_
      rw [show 2 * k + 2 = 2 * (k + 1) by omega]
      exact ih (k + 1) _ (by omega) (by rw [gk_m, ← hv1]; exact stp0_f c141t)
    · refine J.iload_n C dX6_would_144 rfl ?_
      refine J.iconst C dX6_would_145 (v := (nI 1)) (by decide) ?_
      refine J.aload_n C dX6_would_146 rfl ?_
      refine J.getR C flX6_would_55 (by first | decide | omega) rfl (by exact rfl) dX6_would_147 ?_
      refine J.iload C dX6_would_150 rfl ?_
      refine J.ia C (by first | exact rfl | assumption) (by first | exact rfl | exact rfl) (by first | (have h_ln := ln_all; omega) | omega) (by first | exact hq1 | ((repeat (first | refine up2_rd (by decide) ?_ | refine up2_rm (by decide) ?_ | refine up3_rd (by decide) ?_)) <;> (first | exact up2_s _ _ _ _ | assumption | exact rfl))) dX6_would_152 ?_
      refine J.ishl C dX6_would_153 ?_
      refine J.ixor C dX6_would_154 ?_
      refine J.iconst C dX6_would_155 (v := (nI 1)) (by decide) ?_
      refine J.aload_n C dX6_would_156 rfl ?_
      refine J.getR C flX6_would_55 (by first | decide | omega) rfl (by exact rfl) dX6_would_157 ?_
      refine J.iload C dX6_would_160 rfl ?_
      refine J.iconst C dX6_would_162 (v := (nI 1)) (by decide) ?_
      first | refine J.iadd_n C dX6_would_163 ?_ | refine J.iadd C dX6_would_163 ?_
      refine J.ia C (by first | exact rfl | assumption) (by first | exact rfl | exact rfl) (by first | (have h_ln := ln_all; omega) | omega) (by first | exact hq2 | ((repeat (first | refine up2_rd (by decide) ?_ | refine up2_rm (by decide) ?_ | refine up3_rd (by decide) ?_)) <;> (first | exact up2_s _ _ _ _ | assumption | exact rfl))) dX6_would_164 ?_
      refine J.ishl C dX6_would_165 ?_
      refine J.ixor C dX6_would_166 ?_
      rw [nI_pow (by omega), nI_pow (by omega), nI_xor, nI_xor]
      refine J.istore_n (ls' := [(0, _), (1, _), (2, _), (3, _), (4, _)]) C dX6_would_167 (by decide) rfl ?_
      refine J.iinc (ls' := [(0, _), (1, _), (2, _), (3, _), (4, _)]) C dX6_would_168 rfl (by first | exact nI_inc _ 2 | exact rfl) (by decide) rfl ?_
      refine J.goto C dX6_would_171 (tgt := 111) (by decide) ?_
      rw [show 2 * k + 2 = 2 * (k + 1) by omega]
      exact ih (k + 1) _ (by omega) (by rw [gk_m, ← hv1]; exact stp0_t c141f)
set_option maxHeartbeats 4000000 in
set_option maxRecDepth 100000 in
theorem lp_X6_would_r {l : Launch} {X : Cx} {V : Vx} {P : Option Value → (Nat → va_E) → Prop} {I : Nat → Nat → Int32} {L : Nat → Nat → Int64} (C : CX l X V RX6 cX6_would 5 wsX6_would 3 0 0 (some .int)) {t : Nt} {c : Nat} {w : Nat → Int32} (hN : NM I t) (ok : okN t) (hc : c ≤ 80) (h2 : c % 2 = 0) (hw : ∀ i, i < c → I 99 i = w i) (hv : ∀ k, 2 * k < c → vld t.1 (w (2 * k)) (w (2 * k + 1))) (hP : P (some (.int (bI (tb (∀ r, r < 2 ^ t.1 → Ris t.1 (gk (wc w) (-1) (gk t.2.2 (-1) r t.2.1) (c / 2))))))) (mm V I L)) : ∀ (k r : Nat), r + k = 2 ^ t.1 → (∀ q, q < r → Ris t.1 (gk (wc w) (-1) (gk t.2.2 (-1) q t.2.1) (c / 2))) → E X V P 5 89 [(0, .ref (ad V 85)), (1, .int (nI c)), (2, .int (nI r))] [] I L := by
  intro k
  have h8 := p2_le ok.2.1
  have hm := hN.2.1
  induction k with
  | zero =>
    intro r hr hb
    have e : r = 2 ^ t.1 := by omega
    subst e
    refine J.iload_n C dX6_would_89 rfl ?_
    refine J.aload_n C dX6_would_90 rfl ?_
    refine J.cVDi (q := (RX6, TX6, 25)) (ci := 6) C (ok_X6_rows l V _ _ hN.1 ok.2.1) gX6_would_X6_rows rfl mfX6_rows rfl (by decide) (by decide) (by first | decide | omega) rfl rfl rfl rfl (Nat.le_of_ble_eq_true rfl) dX6_would_91 (Nat.le_refl _) (Nat.le_refl _) ?_
    first | refine J.icmp_ge_n C (by omega) (by omega) dX6_would_94 (tgt := 190) (by decide) (fun _ => ?_) (fun c94 => absurd c94 (by first | omega | decide | simp_all)) | refine J.icmp_ge_xn C (by omega) dX6_would_94 (tgt := 190) (by decide) (fun _ => ?_) (fun c94 => absurd c94 (by first | omega | decide | simp_all)) | refine J.icmp_ge_nx C (by omega) dX6_would_94 (tgt := 190) (by decide) (fun _ => ?_) (fun c94 => absurd c94 (by first | omega | decide | simp_all)) | refine J.icmp_ge C dX6_would_94 (tgt := 190) (by decide) (fun _ => ?_) (fun c94 => absurd c94 (by first | omega | decide | simp_all))
    refine J.iconst C dX6_would_190 (v := (nI 1)) (by decide) ?_
    exact J.iret C dX6_would_191 (by rw [tb_1 hb] at hP; exact hP)
  | succ k ih =>
    intro r hr hb
    have hg := gk_lt ok (s := -1) (r := r) (by omega) t.2.1 (Nat.le_refl _)
    have hg2 := gk_lt2 (n := t.1) (c := c / 2) (f := wc w) (fun i hi => (vld_c (hv i (by omega))).1) hg (c / 2) (Nat.le_refl _)
    refine J.iload_n C dX6_would_89 rfl ?_
    refine J.aload_n C dX6_would_90 rfl ?_
    refine J.cVDi (q := (RX6, TX6, 25)) (ci := 6) C (ok_X6_rows l V _ _ hN.1 ok.2.1) gX6_would_X6_rows rfl mfX6_rows rfl (by decide) (by decide) (by first | decide | omega) rfl rfl rfl rfl (Nat.le_of_ble_eq_true rfl) dX6_would_91 (Nat.le_refl _) (Nat.le_refl _) ?_
    first | refine J.icmp_ge_n C (by omega) (by omega) dX6_would_94 (tgt := 190) (by decide) (fun c94 => absurd c94 (by first | omega | decide | simp_all)) (fun _ => ?_) | refine J.icmp_ge_xn C (by omega) dX6_would_94 (tgt := 190) (by decide) (fun c94 => absurd c94 (by first | omega | decide | simp_all)) (fun _ => ?_) | refine J.icmp_ge_nx C (by omega) dX6_would_94 (tgt := 190) (by decide) (fun c94 => absurd c94 (by first | omega | decide | simp_all)) (fun _ => ?_) | refine J.icmp_ge C dX6_would_94 (tgt := 190) (by decide) (fun c94 => absurd c94 (by first | omega | decide | simp_all)) (fun _ => ?_)
    refine J.aload_n C dX6_would_97 rfl ?_
    refine J.iload_n C dX6_would_98 rfl ?_
    refine J.aload_n C dX6_would_99 rfl ?_
    refine J.getI C flX6_would_79 (by first | decide | omega) rfl (by exact rfl) (by first | ((repeat (first | refine up2_rd (by decide) ?_ | refine up2_rm (by decide) ?_ | refine up3_rd (by decide) ?_)) <;> (first | exact up2_s _ _ _ _ | assumption | exact rfl))) dX6_would_100 ?_
    refine J.iconst C dX6_would_103 (v := (-1)) (by decide) ?_
    refine J.cVDi (q := (RX6, TX6, 25)) (ci := 6) C (ok_X6_goes_z l V _ _ toInt_m1 hN ok (by omega) (by omega)) gX6_would_X6_goes rfl mfX6_goes rfl (by decide) (by decide) (by first | decide | omega) rfl rfl rfl rfl (Nat.le_of_ble_eq_true rfl) dX6_would_104 (Nat.le_refl _) (Nat.le_refl _) ?_
    refine J.istore_n (ls' := [(0, _), (1, _), (2, _), (3, _)]) C dX6_would_107 (by decide) rfl ?_
    refine J.iconst C dX6_would_108 (v := (nI 0)) (by decide) ?_
    refine J.istore (ls' := [(0, _), (1, _), (2, _), (3, _), (4, _)]) C dX6_would_109 (by decide) rfl ?_
    refine lp_X6_would_i C ok.2.1 hc h2 hw hv hg ?_ (c / 2) 0 _ (by omega) rfl
    refine J.aload_n C dX6_would_174 rfl ?_
    refine J.iload_n C dX6_would_175 rfl ?_
    refine J.cVDi (q := (RX6, TX6, 25)) (ci := 6) C (ok_X6_isRising l V _ _ hN.1 ok.1 ok.2.1 (by omega)) gX6_would_X6_isRising rfl mfX6_isRising rfl (by decide) (by decide) (by first | decide | omega) rfl rfl rfl rfl (Nat.le_of_ble_eq_true rfl) dX6_would_176 (Nat.le_refl _) (Nat.le_refl _) ?_
    first | refine J.if_ne_b C dX6_would_179 (tgt := 184) (by decide) (fun c179t => ?_) (fun c179f => ?_) | refine J.if_ne_n C (by omega) dX6_would_179 (tgt := 184) (by decide) (fun c179t => ?_) (fun c179f => ?_) | refine J.if_ne C dX6_would_179 (tgt := 184) (by decide) (fun c179t => ?_) (fun c179f => ?_)
    · refine J.iinc (ls' := [(0, _), (1, _), (2, _), (3, _), (4, _)]) C dX6_would_184 rfl (by first | exact nI_inc _ 1 | exact rfl) (by decide) rfl ?_
      refine J.goto C dX6_would_187 (tgt := 89) (by decide) ?_
      refine J.lsx (ls' := [(0, _), (1, _), (2, _)]) (ex := [(3, _), (4, _)]) rfl ?_
      refine ih (r + 1) (by omega) (fun q hq => ?_)
      by_cases e : q = r
      · rw [e]; exact tb_t.mp c179t
      · exact hb q (by omega)
    · refine J.iconst C dX6_would_182 (v := (nI 0)) (by decide) ?_
      exact J.iret C dX6_would_183 (by rw [tb_0 (fun z => tb_f.mp c179f (z r (by omega)))] at hP; exact hP)
set_option maxHeartbeats 4000000 in
set_option maxRecDepth 100000 in
theorem ok_X6_would (l : Launch) (V : Vx) {g : Sg} (I : Nat → Nat → Int32) (L : Nat → Nat → Int64) (h : AbM I L g) (ok : okG g) : PM l V yX6_would wsX6_would 3 [.ref (ad V 85)] I L (op_would g) := by
  have hw := h.2.2.2.2.1
  have hq := hw.1
  have hq80 := hw.2.1
  have hl2 := ok.1.1
  have hW : AbM (up2 I 85 17 (nI 0)) L (gW g) := AbM_wait h (fun j a => up2_m _ _ _ a) (fun k a b => up2_n _ _ _ (by omega)) ⟨up2_s _ _ _ _, Nat.zero_le _, fun i hi => absurd hi (Nat.not_lt_zero i)⟩
  have hf0 : frm I (up2 I 85 17 (nI 0)) := frm_up (by decide) frm_rfl
  have hwv : ∀ i, i < g.2.2.2.2.1.1 → up2 I 85 17 (nI 0) 99 i = g.2.2.2.2.1.2 i := fun i hi => by rw [up2_n _ _ _ (by decide)]; exact hw.2.2 i hi
  have qF : ∀ z, qM I L (z, gF (gW g)) z (fM (up2 I 85 17 (nI 0))) L := fun z => ⟨rfl, AbM_F hW, frm_F hf0, frmL_rfl⟩
  unfold op_would
  refine Ok.of (cc := cX6_would) (maxL := 5) (ret := (some .int)) (by decide) rfl (Nat.le_of_ble_eq_true rfl) (fun X hnm C => ?_)
  have C : CX l X V RX6 cX6_would 5 wsX6_would 3 0 0 (some .int) := C
  refine J.cast (ls' := [(0, _)]) rfl rfl rfl rfl ?_
  refine J.aload_n C dX6_would_0 rfl ?_
  refine J.getI C flX6_would_193 (by first | decide | omega) rfl (by exact rfl) (by first | ((repeat (first | refine up2_rd (by decide) ?_ | refine up2_rm (by decide) ?_ | refine up3_rd (by decide) ?_)) <;> (first | exact up2_s _ _ _ _ | assumption | exact rfl))) dX6_would_1 ?_
  refine J.istore_n (ls' := [(0, _), (1, _)]) C dX6_would_4 (by decide) rfl ?_
  refine J.aload_n C dX6_would_5 rfl ?_
  refine J.iconst C dX6_would_6 (v := (nI 0)) (by decide) ?_
  refine J.putI C fpX6_would_193 (by first | decide | omega) rfl (Nat.le_of_ble_eq_true rfl) (by first | exact mp_6_17 rfl | exact mp_6_17 (by assumption)) dX6_would_7 ?_
  refine J.iload_n C dX6_would_10 rfl ?_
  refine J.iconst C dX6_would_11 (v := (nI 2)) (by decide) ?_
  first | refine J.irem_n C (by omega) (by omega) (by omega) dX6_would_12 ?_ | refine J.irem C (by decide) dX6_would_12 ?_
  first | refine J.if_eq_b C dX6_would_13 (tgt := 23) (by decide) (fun c13t => ?_) (fun c13f => ?_) | refine J.if_eq_n C (by omega) dX6_would_13 (tgt := 23) (by decide) (fun c13t => ?_) (fun c13f => ?_) | refine J.if_eq C dX6_would_13 (tgt := 23) (by decide) (fun c13t => ?_) (fun c13f => ?_)
  · rw [tb_1 c13t]
    refine J.iconst C dX6_would_23 (v := (nI 0)) (by decide) ?_
    refine J.istore_n (ls' := [(0, _), (1, _), (2, _)]) C dX6_would_24 (by decide) rfl ?_
    refine lp_X6_would_a C (n := g.1.1) (w := g.2.2.2.2.1.2) hW.1.1 (by omega) ok.1.2.1 hq80 c13t hwv (fun hv => ?_) (fun hv => ?_) (g.2.2.2.2.1.1 / 2) 0 (by omega) (fun j hj => absurd hj (Nat.not_lt_zero j))
    · rw [tb_0 hv]
      exact qM_s (qF _)
    · rw [tb_1 hv]
      refine J.iconst C dX6_would_87 (v := (nI 0)) (by decide) ?_
      refine J.istore_n (ls' := [(0, _), (1, _), (2, _)]) C dX6_would_88 (by decide) rfl ?_
      refine lp_X6_would_r C (t := g.1) (w := g.2.2.2.2.1.2) hW.nm ok.1 hq80 c13t hwv hv ?_ (2 ^ g.1.1) 0 (by omega) (fun q hq => absurd hq (Nat.not_lt_zero q))
      exact qM_s ⟨rfl, hW, hf0, frmL_rfl⟩
  · rw [tb_0 c13f]
    refine J.aload_n C dX6_would_16 rfl ?_
    refine J.bipush C dX6_would_17 (v := (-3)) (by decide) ?_
    refine J.cVDi (q := (RX6, TX6, 25)) (ci := 6) C (ok_X6_found l V _ _ _) gX6_would_X6_found rfl mfX6_found rfl (by decide) (by decide) (by first | decide | omega) rfl rfl rfl rfl (Nat.le_of_ble_eq_true rfl) dX6_would_19 (Nat.le_refl _) (Nat.le_refl _) ?_
    exact J.iret C dX6_would_22 (qM_s (qF _))
