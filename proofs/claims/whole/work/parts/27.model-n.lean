/-! THE REFERENCE: run and copy -/
def rnR (k : Nat) (f : Nat → Cmp) (v : Nat → Int64) : Nat → Nat × (Nat → Int64)
  | 0 => (0, v)
  | i + 1 => cond (chg (f i) (ordI k ((rnR k f v i).2 (f i).2.1) ((rnR k f v i).2 (f i).2.2.1)).toInt) ((rnR k f v i).1 + 1, va_up (va_up (rnR k f v i).2 (f i).2.1 ((rnR k f v i).2 (f i).2.2.1)) (f i).2.2.1 ((rnR k f v i).2 (f i).2.1)) (rnR k f v i)
theorem rnR_le {k : Nat} {f : Nat → Cmp} {v : Nat → Int64} : ∀ i, (rnR k f v i).1 ≤ i
  | 0 => Nat.le_refl _
  | i + 1 => by
    have := rnR_le (k := k) (f := f) (v := v) i
    unfold rnR
    cases chg (f i) (ordI k ((rnR k f v i).2 (f i).2.1) ((rnR k f v i).2 (f i).2.2.1)).toInt <;> simp <;> omega
noncomputable def op_run (g : Sg) (c : Option Nat) : Int32 × Sg := cond (tb (inO c 6)) (cond (tb ((g.2.2.2.1 (c.getD 0)).1 = 0)) (-2, gF g) (cond (tb (g.1.1 ≤ (g.2.2.2.1 (c.getD 0)).2.1)) (nI (rnR (g.2.2.2.1 (c.getD 0)).1 g.1.2.2 (g.2.2.2.1 (c.getD 0)).2.2 g.1.2.1).1, gC g (c.getD 0) ((g.2.2.2.1 (c.getD 0)).1, (g.2.2.2.1 (c.getD 0)).2.1, (rnR (g.2.2.2.1 (c.getD 0)).1 g.1.2.2 (g.2.2.2.1 (c.getD 0)).2.2 g.1.2.1).2)) (-3, gF g))) (-1, gF g)
set_option maxHeartbeats 4000000 in
set_option maxRecDepth 100000 in
theorem lp_X6_run {l : Launch} {X : Cx} {V : Vx} {P : Option Value → (Nat → va_E) → Prop} {I : Nat → Nat → Int32} {L : Nat → Nat → Int64} (C : CX l X V RX6 cX6_run 6 wsX6_run 3 0 0 (some .int)) {t : Nt} {c kk : Nat} {v : Nat → Int64} (hN : NM I t) (ok : okN t) (hc : c < 6) (hk : kk ≤ 7) (h0 : I 96 c = nI kk) (hP : ∀ L0, (∀ j, j < 12 → L0 98 (12 * c + j) = (rnR kk t.2.2 v t.2.1).2 j) → (∀ j, (j < 12 * c ∨ 12 * c + 12 ≤ j) → L0 98 j = L 98 j) → (∀ k, k ≠ 98 → L0 k = L k) → P (some (.int (nI (rnR kk t.2.2 v t.2.1).1))) (mm V I L0)) : ∀ (k i w : Nat) (L0 : Nat → Nat → Int64), i + k = t.2.1 → w = (rnR kk t.2.2 v i).1 → (∀ j, j < 12 → L0 98 (12 * c + j) = (rnR kk t.2.2 v i).2 j) → (∀ j, (j < 12 * c ∨ 12 * c + 12 ≤ j) → L0 98 j = L 98 j) → (∀ k, k ≠ 98 → L0 k = L k) → E X V P 6 53 [(0, .ref (ad V 85)), (1, .int (nI c)), (2, .int (nI w)), (3, .int (nI i))] [] I L0 := by
  intro k
  have h40 := ok.2.2.1
  have hl8 := ok.2.1
  have hm := hN.2.1
  induction k with
  | zero =>
    intro i w L0 hi hw hv ho hf
    have e : i = t.2.1 := by omega
    subst e
    subst hw
    refine J.iload_n C dX6_run_53 rfl ?_
    refine J.aload_n C dX6_run_54 rfl ?_
    refine J.getI C flX6_run_79 (by first | decide | omega) rfl (by exact rfl) (by first | ((repeat (first | refine up2_rd (by decide) ?_ | refine up2_rm (by decide) ?_ | refine up3_rd (by decide) ?_)) <;> (first | exact up2_s _ _ _ _ | assumption | exact rfl))) dX6_run_55 ?_
    first | refine J.icmp_ge_n C (by omega) (by omega) dX6_run_58 (tgt := 166) (by decide) (fun _ => ?_) (fun c58 => absurd c58 (by first | omega | decide | simp_all)) | refine J.icmp_ge_xn C (by omega) dX6_run_58 (tgt := 166) (by decide) (fun _ => ?_) (fun c58 => absurd c58 (by first | omega | decide | simp_all)) | refine J.icmp_ge_nx C (by omega) dX6_run_58 (tgt := 166) (by decide) (fun _ => ?_) (fun c58 => absurd c58 (by first | omega | decide | simp_all)) | refine J.icmp_ge C dX6_run_58 (tgt := 166) (by decide) (fun _ => ?_) (fun c58 => absurd c58 (by first | omega | decide | simp_all))
    refine J.iload_n C dX6_run_166 rfl ?_
    exact J.iret C dX6_run_167 (hP L0 hv ho hf)
  | succ k ih =>
    intro i w L0 hi hw hv ho hf
    obtain ⟨g1, g2, g3, g4⟩ := hN.2.2 i (by omega)
    obtain ⟨hc1, hc2, hc3, hc4⟩ := ok.2.2.2 i (by omega)
    have hle := rnR_le (k := kk) (f := t.2.2) (v := v) i
    refine J.iload_n C dX6_run_53 rfl ?_
    refine J.aload_n C dX6_run_54 rfl ?_
    refine J.getI C flX6_run_79 (by first | decide | omega) rfl (by exact rfl) (by first | ((repeat (first | refine up2_rd (by decide) ?_ | refine up2_rm (by decide) ?_ | refine up3_rd (by decide) ?_)) <;> (first | exact up2_s _ _ _ _ | assumption | exact rfl))) dX6_run_55 ?_
    first | refine J.icmp_ge_n C (by omega) (by omega) dX6_run_58 (tgt := 166) (by decide) (fun c58 => absurd c58 (by first | omega | decide | simp_all)) (fun _ => ?_) | refine J.icmp_ge_xn C (by omega) dX6_run_58 (tgt := 166) (by decide) (fun c58 => absurd c58 (by first | omega | decide | simp_all)) (fun _ => ?_) | refine J.icmp_ge_nx C (by omega) dX6_run_58 (tgt := 166) (by decide) (fun c58 => absurd c58 (by first | omega | decide | simp_all)) (fun _ => ?_) | refine J.icmp_ge C dX6_run_58 (tgt := 166) (by decide) (fun c58 => absurd c58 (by first | omega | decide | simp_all)) (fun _ => ?_)
    refine J.aload_n C dX6_run_61 rfl ?_
    refine J.iload_n C dX6_run_62 rfl ?_
    refine J.aload_n C dX6_run_63 rfl ?_
    refine J.iload_n C dX6_run_64 rfl ?_
    refine J.aload_n C dX6_run_65 rfl ?_
    refine J.getR C flX6_run_17 (by first | decide | omega) rfl (by exact rfl) dX6_run_66 ?_
    refine J.iload_n C dX6_run_69 rfl ?_
    refine J.ia C (by first | exact rfl | assumption) (by first | exact rfl | exact rfl) (by first | (have h_ln := ln_all; omega) | omega) (by first | exact g2 | ((repeat (first | refine up2_rd (by decide) ?_ | refine up2_rm (by decide) ?_ | refine up3_rd (by decide) ?_)) <;> (first | exact up2_s _ _ _ _ | assumption | exact rfl))) dX6_run_70 ?_
    refine J.aload_n C dX6_run_71 rfl ?_
    refine J.getR C flX6_run_20 (by first | decide | omega) rfl (by exact rfl) dX6_run_72 ?_
    refine J.iload_n C dX6_run_75 rfl ?_
    refine J.ia C (by first | exact rfl | assumption) (by first | exact rfl | exact rfl) (by first | (have h_ln := ln_all; omega) | omega) (by first | exact g3 | ((repeat (first | refine up2_rd (by decide) ?_ | refine up2_rm (by decide) ?_ | refine up3_rd (by decide) ?_)) <;> (first | exact up2_s _ _ _ _ | assumption | exact rfl))) dX6_run_76 ?_
    refine J.cVDi (q := (RX6, TX6, 25)) (ci := 6) C (ok_X6_against l V _ _ hc (by omega) (by omega) hk h0 (hv _ (by omega)) (hv _ (by omega))) gX6_run_X6_against rfl mfX6_against rfl (by decide) (by decide) (by first | decide | omega) rfl rfl rfl rfl (Nat.le_of_ble_eq_true rfl) dX6_run_77 (Nat.le_refl _) (Nat.le_refl _) ?_
    refine J.cVDi (q := (RX6, TX6, 25)) (ci := 6) C (ok_X6_changes l V (t.2.2 i) _ _ _ (by omega) g1 hc1 g4) gX6_run_X6_changes rfl mfX6_changes rfl (by decide) (by decide) (by first | decide | omega) rfl rfl rfl rfl (Nat.le_of_ble_eq_true rfl) dX6_run_80 (Nat.le_refl _) (Nat.le_refl _) ?_
    first | refine J.if_ne_b C dX6_run_83 (tgt := 89) (by decide) (fun c83t => ?_) (fun c83f => ?_) | refine J.if_ne_n C (by omega) dX6_run_83 (tgt := 89) (by decide) (fun c83t => ?_) (fun c83f => ?_) | refine J.if_ne C dX6_run_83 (tgt := 89) (by decide) (fun c83t => ?_) (fun c83f => ?_)
    · have e1 : rnR kk t.2.2 v (i + 1) = ((rnR kk t.2.2 v i).1 + 1, va_up (va_up (rnR kk t.2.2 v i).2 (t.2.2 i).2.1 ((rnR kk t.2.2 v i).2 (t.2.2 i).2.2.1)) (t.2.2 i).2.2.1 ((rnR kk t.2.2 v i).2 (t.2.2 i).2.1)) := by show cond (chg (t.2.2 i) (ordI kk ((rnR kk t.2.2 v i).2 (t.2.2 i).2.1) ((rnR kk t.2.2 v i).2 (t.2.2 i).2.2.1)).toInt) _ _ = _; rw [c83t]; rfl
      refine J.aload_n C dX6_run_89 rfl ?_
      refine J.getR C flX6_run_51 (by first | decide | omega) rfl (by exact rfl) dX6_run_90 ?_
      refine J.bipush C dX6_run_93 (v := (nI 12)) (by decide) ?_
      refine J.iload_n C dX6_run_95 rfl ?_
      first | refine J.imul_n C dX6_run_96 ?_ | refine J.imul C dX6_run_96 ?_
      refine J.aload_n C dX6_run_97 rfl ?_
      refine J.getR C flX6_run_17 (by first | decide | omega) rfl (by exact rfl) dX6_run_98 ?_
      refine J.iload_n C dX6_run_101 rfl ?_
      refine J.ia C (by first | exact rfl | assumption) (by first | exact rfl | exact rfl) (by first | (have h_ln := ln_all; omega) | omega) (by first | exact g2 | ((repeat (first | refine up2_rd (by decide) ?_ | refine up2_rm (by decide) ?_ | refine up3_rd (by decide) ?_)) <;> (first | exact up2_s _ _ _ _ | assumption | exact rfl))) dX6_run_102 ?_
      first | refine J.iadd_n C dX6_run_103 ?_ | refine J.iadd C dX6_run_103 ?_
      refine J.la C (by first | exact rfl | assumption) (by first | exact rfl | exact rfl) (by first | (have h_ln := ln_all; omega) | omega) (by first | exact hv _ (by omega) | ((repeat (first | refine up2_rd (by decide) ?_ | refine up2_rm (by decide) ?_ | refine up3_rd (by decide) ?_)) <;> (first | exact up2_s _ _ _ _ | assumption | exact rfl))) dX6_run_104 ?_
      refine J.lstore (ls' := [(0, _), (1, _), (2, _), (3, _), (4, _)]) C dX6_run_105 (by decide) rfl ?_
      refine J.aload_n C dX6_run_107 rfl ?_
      refine J.getR C flX6_run_51 (by first | decide | omega) rfl (by exact rfl) dX6_run_108 ?_
      refine J.bipush C dX6_run_111 (v := (nI 12)) (by decide) ?_
      refine J.iload_n C dX6_run_113 rfl ?_
      first | refine J.imul_n C dX6_run_114 ?_ | refine J.imul C dX6_run_114 ?_
      refine J.aload_n C dX6_run_115 rfl ?_
      refine J.getR C flX6_run_17 (by first | decide | omega) rfl (by exact rfl) dX6_run_116 ?_
      refine J.iload_n C dX6_run_119 rfl ?_
      refine J.ia C (by first | exact rfl | assumption) (by first | exact rfl | exact rfl) (by first | (have h_ln := ln_all; omega) | omega) (by first | exact g2 | ((repeat (first | refine up2_rd (by decide) ?_ | refine up2_rm (by decide) ?_ | refine up3_rd (by decide) ?_)) <;> (first | exact up2_s _ _ _ _ | assumption | exact rfl))) dX6_run_120 ?_
      first | refine J.iadd_n C dX6_run_121 ?_ | refine J.iadd C dX6_run_121 ?_
      refine J.aload_n C dX6_run_122 rfl ?_
      refine J.getR C flX6_run_51 (by first | decide | omega) rfl (by exact rfl) dX6_run_123 ?_
      refine J.bipush C dX6_run_126 (v := (nI 12)) (by decide) ?_
      refine J.iload_n C dX6_run_128 rfl ?_
      first | refine J.imul_n C dX6_run_129 ?_ | refine J.imul C dX6_run_129 ?_
      refine J.aload_n C dX6_run_130 rfl ?_
      refine J.getR C flX6_run_20 (by first | decide | omega) rfl (by exact rfl) dX6_run_131 ?_
      refine J.iload_n C dX6_run_134 rfl ?_
      refine J.ia C (by first | exact rfl | assumption) (by first | exact rfl | exact rfl) (by first | (have h_ln := ln_all; omega) | omega) (by first | exact g3 | ((repeat (first | refine up2_rd (by decide) ?_ | refine up2_rm (by decide) ?_ | refine up3_rd (by decide) ?_)) <;> (first | exact up2_s _ _ _ _ | assumption | exact rfl))) dX6_run_135 ?_
      first | refine J.iadd_n C dX6_run_136 ?_ | refine J.iadd C dX6_run_136 ?_
      refine J.la C (by first | exact rfl | assumption) (by first | exact rfl | exact rfl) (by first | (have h_ln := ln_all; omega) | omega) (by first | exact hv _ (by omega) | ((repeat (first | refine up2_rd (by decide) ?_ | refine up2_rm (by decide) ?_ | refine up3_rd (by decide) ?_)) <;> (first | exact up2_s _ _ _ _ | assumption | exact rfl))) dX6_run_137 ?_
      refine J.las C (by first | exact rfl | assumption) (by first | exact rfl | exact rfl) (by first | (have h_ln := ln_all; omega) | omega) dX6_run_138 ?_
      refine J.aload_n C dX6_run_139 rfl ?_
      refine J.getR C flX6_run_51 (by first | decide | omega) rfl (by exact rfl) dX6_run_140 ?_
      refine J.bipush C dX6_run_143 (v := (nI 12)) (by decide) ?_
      refine J.iload_n C dX6_run_145 rfl ?_
      first | refine J.imul_n C dX6_run_146 ?_ | refine J.imul C dX6_run_146 ?_
      refine J.aload_n C dX6_run_147 rfl ?_
      refine J.getR C flX6_run_20 (by first | decide | omega) rfl (by exact rfl) dX6_run_148 ?_
      refine J.iload_n C dX6_run_151 rfl ?_
      refine J.ia C (by first | exact rfl | assumption) (by first | exact rfl | exact rfl) (by first | (have h_ln := ln_all; omega) | omega) (by first | exact g3 | ((repeat (first | refine up2_rd (by decide) ?_ | refine up2_rm (by decide) ?_ | refine up3_rd (by decide) ?_)) <;> (first | exact up2_s _ _ _ _ | assumption | exact rfl))) dX6_run_152 ?_
      first | refine J.iadd_n C dX6_run_153 ?_ | refine J.iadd C dX6_run_153 ?_
      refine J.lload C dX6_run_154 rfl ?_
      refine J.las C (by first | exact rfl | assumption) (by first | exact rfl | exact rfl) (by first | (have h_ln := ln_all; omega) | omega) dX6_run_156 ?_
      refine J.iinc (ls' := [(0, _), (1, _), (2, _), (3, _), (4, _)]) C dX6_run_157 rfl (by first | exact nI_inc _ 1 | exact rfl) (by decide) rfl ?_
      refine J.iinc (ls' := [(0, _), (1, _), (2, _), (3, _), (4, _)]) C dX6_run_160 rfl (by first | exact nI_inc _ 1 | exact rfl) (by decide) rfl ?_
      refine J.goto C dX6_run_163 (tgt := 53) (by decide) ?_
      refine J.lsx (ls' := [(0, _), (1, _), (2, _), (3, _)]) (ex := [(4, _)]) rfl ?_
      refine ih (i + 1) _ _ (by omega) (by rw [e1, hw]) (fun j hj => ?_) (fun j hj => by rw [up3_m _ _ _ (by omega), up3_m _ _ _ (by omega)]; exact ho j hj) (fun q a => by rw [up3_n _ _ _ a, up3_n _ _ _ a]; exact hf q a)
      rw [e1]
      show up3 (up3 L0 98 (12 * c + (t.2.2 i).2.1) _) 98 (12 * c + (t.2.2 i).2.2.1) _ 98 (12 * c + j) = va_up (va_up _ (t.2.2 i).2.1 _) (t.2.2 i).2.2.1 _ j
      by_cases e : j = (t.2.2 i).2.2.1
      · rw [e, up3_s, va_up_self]
      · rw [up3_m _ _ _ (by omega), va_up_ne _ _ e]
        by_cases e2 : j = (t.2.2 i).2.1
        · rw [e2, up3_s, va_up_self]
        · rw [up3_m _ _ _ (by omega), va_up_ne _ _ e2]; exact hv j hj
    · have e1 : rnR kk t.2.2 v (i + 1) = rnR kk t.2.2 v i := by show cond (chg (t.2.2 i) (ordI kk ((rnR kk t.2.2 v i).2 (t.2.2 i).2.1) ((rnR kk t.2.2 v i).2 (t.2.2 i).2.2.1)).toInt) _ _ = _; rw [c83f]; rfl
      refine J.goto C dX6_run_86 (tgt := 160) (by decide) ?_
      refine J.iinc (ls' := [(0, _), (1, _), (2, _), (3, _)]) C dX6_run_160 rfl (by first | exact nI_inc _ 1 | exact rfl) (by decide) rfl ?_
      refine J.goto C dX6_run_163 (tgt := 53) (by decide) ?_
      exact ih (i + 1) _ _ (by omega) (by rw [e1]; exact hw) (by rw [e1]; exact hv) ho hf
set_option maxHeartbeats 4000000 in
set_option maxRecDepth 100000 in
theorem ok_X6_run (l : Launch) (V : Vx) {g : Sg} {x1 : Int32} {o1 : Option Nat} (I : Nat → Nat → Int32) (L : Nat → Nat → Int64) (hx1 : AG x1 o1) (h : AbM I L g) (ok : okG g) : PM l V yX6_run wsX6_run 3 [.ref (ad V 85), .int x1] I L (op_run g o1) := by
  have hN := h.nm
  have h0 := hN.1
  have hl8 := ok.1.2.1
  refine Ok.of (cc := cX6_run) (maxL := 6) (ret := (some .int)) (by decide) rfl (Nat.le_of_ble_eq_true rfl) (fun X hnm C => ?_)
  have C : CX l X V RX6 cX6_run 6 wsX6_run 3 0 0 (some .int) := C
  refine J.cast (ls' := [(0, _), (1, _)]) rfl rfl rfl rfl ?_
  refine J.iload_n C dX6_run_0 rfl ?_
  refine J.cSDi C (ok_X6_isCrate l V _ _ hx1) gX6_run_X6_isCrate rfl mfX6_isCrate (by decide) (by decide) rfl rfl (Nat.le_of_ble_eq_true rfl) dX6_run_1 (Nat.le_refl _) (Nat.le_refl _) ?_
  first | refine J.if_ne_b C dX6_run_4 (tgt := 13) (by decide) (fun c4t => ?_) (fun c4f => ?_) | refine J.if_ne_n C (by omega) dX6_run_4 (tgt := 13) (by decide) (fun c4t => ?_) (fun c4f => ?_) | refine J.if_ne C dX6_run_4 (tgt := 13) (by decide) (fun c4t => ?_) (fun c4f => ?_)
  · obtain ⟨c, rfl, hc⟩ := tb_t.mp c4t
    obtain ⟨-, rfl⟩ := hx1
    unfold op_run
    rw [c4t]
    have hC := h.2.2.2.1 c hc
    have hok := ok.2.2.2.2.1 c hc
    obtain ⟨hc0, hc1, hc2⟩ := hC
    obtain ⟨ok0, ok1, ok2⟩ := hok
    refine J.aload_n C dX6_run_13 rfl ?_
    refine J.getR C flX6_run_45 (by first | decide | omega) rfl (by exact rfl) dX6_run_14 ?_
    refine J.iload_n C dX6_run_17 rfl ?_
    refine J.ia C (by first | exact rfl | assumption) (by first | exact rfl | exact rfl) (by first | (have h_ln := ln_all; omega) | omega) (by first | ((repeat (first | refine up2_rd (by decide) ?_ | refine up2_rm (by decide) ?_ | refine up3_rd (by decide) ?_)) <;> (first | exact up2_s _ _ _ _ | assumption | exact rfl))) dX6_run_18 ?_
    first | refine J.if_ne_b C dX6_run_19 (tgt := 29) (by decide) (fun c19t => ?_) (fun c19f => ?_) | refine J.if_ne_n C (by omega) dX6_run_19 (tgt := 29) (by decide) (fun c19t => ?_) (fun c19f => ?_) | refine J.if_ne C dX6_run_19 (tgt := 29) (by decide) (fun c19t => ?_) (fun c19f => ?_)
    · rw [tb_0 (show ¬ (g.2.2.2.1 ((some c).getD 0)).1 = 0 from c19t)]
      refine J.aload_n C dX6_run_29 rfl ?_
      refine J.getR C flX6_run_48 (by first | decide | omega) rfl (by exact rfl) dX6_run_30 ?_
      refine J.iload_n C dX6_run_33 rfl ?_
      refine J.ia C (by first | exact rfl | assumption) (by first | exact rfl | exact rfl) (by first | (have h_ln := ln_all; omega) | omega) (by first | ((repeat (first | refine up2_rd (by decide) ?_ | refine up2_rm (by decide) ?_ | refine up3_rd (by decide) ?_)) <;> (first | exact up2_s _ _ _ _ | assumption | exact rfl))) dX6_run_34 ?_
      refine J.aload_n C dX6_run_35 rfl ?_
      refine J.getI C flX6_run_7 (by first | decide | omega) rfl (by exact rfl) (by first | ((repeat (first | refine up2_rd (by decide) ?_ | refine up2_rm (by decide) ?_ | refine up3_rd (by decide) ?_)) <;> (first | exact up2_s _ _ _ _ | assumption | exact rfl))) dX6_run_36 ?_
      first | refine J.icmp_ge_n C (by omega) (by omega) dX6_run_39 (tgt := 49) (by decide) (fun c39t => ?_) (fun c39f => ?_) | refine J.icmp_ge_xn C (by omega) dX6_run_39 (tgt := 49) (by decide) (fun c39t => ?_) (fun c39f => ?_) | refine J.icmp_ge_nx C (by omega) dX6_run_39 (tgt := 49) (by decide) (fun c39t => ?_) (fun c39f => ?_) | refine J.icmp_ge C dX6_run_39 (tgt := 49) (by decide) (fun c39t => ?_) (fun c39f => ?_)
      · rw [tb_1 (show g.1.1 ≤ (g.2.2.2.1 ((some c).getD 0)).2.1 from c39t)]
        refine J.iconst C dX6_run_49 (v := (nI 0)) (by decide) ?_
        refine J.istore_n (ls' := [(0, _), (1, _), (2, _)]) C dX6_run_50 (by decide) rfl ?_
        refine J.iconst C dX6_run_51 (v := (nI 0)) (by decide) ?_
        refine J.istore_n (ls' := [(0, _), (1, _), (2, _), (3, _)]) C dX6_run_52 (by decide) rfl ?_
        refine lp_X6_run C hN ok.1 hc ok0 hc0 (fun L0 hv ho hf => ?_) g.1.2.1 0 0 L (by omega) rfl hc2 (fun _ _ => rfl) (fun _ _ => rfl)
        exact qM_s ⟨rfl, AbM_crate (c := c) (x := ((g.2.2.2.1 c).1, (g.2.2.2.1 c).2.1, (rnR (g.2.2.2.1 c).1 g.1.2.2 (g.2.2.2.1 c).2.2 g.1.2.1).2)) h (fun _ _ _ _ _ => rfl) hc0 hc1 hv (fun _ _ => rfl) (fun _ _ => rfl) ho, frm_rfl, fun k hk => hf k (by omega)⟩
      · rw [tb_0 (show ¬ g.1.1 ≤ (g.2.2.2.1 ((some c).getD 0)).2.1 from c39f)]
        refine J.aload_n C dX6_run_42 rfl ?_
        refine J.bipush C dX6_run_43 (v := (-3)) (by decide) ?_
        refine J.cVDi (q := (RX6, TX6, 25)) (ci := 6) C (ok_X6_found l V _ _ _) gX6_run_X6_found rfl mfX6_found rfl (by decide) (by decide) (by first | decide | omega) rfl rfl rfl rfl (Nat.le_of_ble_eq_true rfl) dX6_run_45 (Nat.le_refl _) (Nat.le_refl _) ?_
        exact J.iret C dX6_run_48 (qM_s (qM_F h))
    · rw [tb_1 (show (g.2.2.2.1 ((some c).getD 0)).1 = 0 from c19f)]
      refine J.aload_n C dX6_run_22 rfl ?_
      refine J.bipush C dX6_run_23 (v := (-2)) (by decide) ?_
      refine J.cVDi (q := (RX6, TX6, 25)) (ci := 6) C (ok_X6_found l V _ _ _) gX6_run_X6_found rfl mfX6_found rfl (by decide) (by decide) (by first | decide | omega) rfl rfl rfl rfl (Nat.le_of_ble_eq_true rfl) dX6_run_25 (Nat.le_refl _) (Nat.le_refl _) ?_
      exact J.iret C dX6_run_28 (qM_s (qM_F h))
  · unfold op_run
    rw [c4f]
    refine J.aload_n C dX6_run_7 rfl ?_
    refine J.iconst C dX6_run_8 (v := (-1)) (by decide) ?_
    refine J.cVDi (q := (RX6, TX6, 25)) (ci := 6) C (ok_X6_found l V _ _ _) gX6_run_X6_found rfl mfX6_found rfl (by decide) (by decide) (by first | decide | omega) rfl rfl rfl rfl (Nat.le_of_ble_eq_true rfl) dX6_run_9 (Nat.le_refl _) (Nat.le_refl _) ?_
    exact J.iret C dX6_run_12 (qM_s (qM_F h))
noncomputable def op_copy (g : Sg) (c fr e to n : Option Nat) : Int32 × Sg := cond (tb (inO c 6 ∧ inO e 6)) (cond (tb ((g.2.2.2.1 (c.getD 0)).1 = 0 ∨ (g.2.2.2.1 (e.getD 0)).1 = 0)) (-2, gF g) (cond (tb ((g.2.2.2.1 (c.getD 0)).1 = (g.2.2.2.1 (e.getD 0)).1)) (cond (tb ((∃ a, fr = some a) ∧ (∃ a, to = some a) ∧ (∃ a, n = some a) ∧ fr.getD 0 + n.getD 0 ≤ (g.2.2.2.1 (c.getD 0)).2.1 ∧ to.getD 0 + n.getD 0 ≤ (g.2.2.2.1 (e.getD 0)).2.1)) (nI (n.getD 0), gC g (e.getD 0) ((g.2.2.2.1 (e.getD 0)).1, (g.2.2.2.1 (e.getD 0)).2.1, fun j => if to.getD 0 ≤ j ∧ j < to.getD 0 + n.getD 0 then (g.2.2.2.1 (c.getD 0)).2.2 (fr.getD 0 + (j - to.getD 0)) else (g.2.2.2.1 (e.getD 0)).2.2 j)) (-1, gF g)) (-4, gF g))) (-1, gF g)
def cyA (s : Nat) (L : Nat → Nat → Int64) : Nat → Nat → Nat → Int64
  | 0 => L
  | i + 1 => up3 (cyA s L i) 101 i (cyA s L i 98 (s + i))
def cyB (s : Nat) (L : Nat → Nat → Int64) : Nat → Nat → Nat → Int64
  | 0 => L
  | i + 1 => up3 (cyB s L i) 98 (s + i) (cyB s L i 101 i)
theorem cyA_v {s : Nat} {L : Nat → Nat → Int64} : ∀ i k j, cyA s L i k j = if k = 101 ∧ j < i then L 98 (s + j) else L k j
  | 0, k, j => by rw [if_neg (by omega)]; rfl
  | i + 1, k, j => by
    have e : cyA s L i 98 (s + i) = L 98 (s + i) := by rw [cyA_v i, if_neg (by omega)]
    unfold cyA
    rw [up3_v, e, cyA_v i k j]
    by_cases h : k = 101 ∧ j = i
    · rw [if_pos h, if_pos (by omega), h.2]
    · rw [if_neg h]
      by_cases h2 : k = 101 ∧ j < i
      · rw [if_pos h2, if_pos (by omega)]
      · rw [if_neg h2, if_neg (by omega)]
theorem cyB_v {s : Nat} {L : Nat → Nat → Int64} : ∀ i k j, cyB s L i k j = if k = 98 ∧ s ≤ j ∧ j < s + i then L 101 (j - s) else L k j
  | 0, k, j => by rw [if_neg (by omega)]; rfl
  | i + 1, k, j => by
    have e : cyB s L i 101 i = L 101 i := by rw [cyB_v i, if_neg (by omega)]
    unfold cyB
    rw [up3_v, e, cyB_v i k j]
    by_cases h : k = 98 ∧ j = s + i
    · rw [if_pos h, if_pos (by omega), h.2, show s + i - s = i by omega]
    · rw [if_neg h]
      by_cases h2 : k = 98 ∧ s ≤ j ∧ j < s + i
      · rw [if_pos h2, if_pos (by omega)]
      · rw [if_neg h2, if_neg (by omega)]
theorem ll_gt {a b s : Nat} (ha : a < 2 ^ 31) (hb : b < 2 ^ 31) (hs : s < 2 ^ 31) : (nI s).toInt64 < (nI a).toInt64 + (nI b).toInt64 ↔ s < a + b := by
  rw [nI_l ha, nI_l hb, nI_l hs, lN_add, pk_lLT (by omega) (by omega)]
theorem ll_le {a b s : Nat} (ha : a < 2 ^ 31) (hb : b < 2 ^ 31) (hs : s < 2 ^ 31) : (nI a).toInt64 + (nI b).toInt64 ≤ (nI s).toInt64 ↔ a + b ≤ s := by
  rw [nI_l ha, nI_l hb, nI_l hs, lN_add, pk_lLE (by omega) (by omega)]
set_option maxHeartbeats 4000000 in
set_option maxRecDepth 100000 in
theorem lp_X6_copy_a {l : Launch} {X : Cx} {V : Vx} {P : Option Value → (Nat → va_E) → Prop} {I : Nat → Nat → Int32} {L : Nat → Nat → Int64} (C : CX l X V RX6 cX6_copy 7 wsX6_copy 3 0 0 (some .int)) {c a e b n : Nat} (hc : c < 6) (ha : a + n ≤ 12) (hx : E X V P 7 159 [(0, .ref (ad V 85)), (1, .int (nI c)), (2, .int (nI a)), (3, .int (nI e)), (4, .int (nI b)), (5, .int (nI n)), (6, .int (nI n))] [] I (cyA (12 * c + a) L n)) : ∀ (k i : Nat), i + k = n → E X V P 7 125 [(0, .ref (ad V 85)), (1, .int (nI c)), (2, .int (nI a)), (3, .int (nI e)), (4, .int (nI b)), (5, .int (nI n)), (6, .int (nI i))] [] I (cyA (12 * c + a) L i) := by
  intro k
  induction k with
  | zero =>
    intro i hi
    obtain rfl : i = n := by omega
    refine J.iload C dX6_copy_125 rfl ?_
    refine J.iload C dX6_copy_127 rfl ?_
    first | refine J.icmp_ge_n C (by omega) (by omega) dX6_copy_129 (tgt := 159) (by decide) (fun _ => ?_) (fun c129 => absurd c129 (by first | omega | decide | simp_all)) | refine J.icmp_ge_xn C (by omega) dX6_copy_129 (tgt := 159) (by decide) (fun _ => ?_) (fun c129 => absurd c129 (by first | omega | decide | simp_all)) | refine J.icmp_ge_nx C (by omega) dX6_copy_129 (tgt := 159) (by decide) (fun _ => ?_) (fun c129 => absurd c129 (by first | omega | decide | simp_all)) | refine J.icmp_ge C dX6_copy_129 (tgt := 159) (by decide) (fun _ => ?_) (fun c129 => absurd c129 (by first | omega | decide | simp_all))
    exact hx
  | succ k ih =>
    intro i hi
    refine J.iload C dX6_copy_125 rfl ?_
    refine J.iload C dX6_copy_127 rfl ?_
    first | refine J.icmp_ge_n C (by omega) (by omega) dX6_copy_129 (tgt := 159) (by decide) (fun c129 => absurd c129 (by first | omega | decide | simp_all)) (fun _ => ?_) | refine J.icmp_ge_xn C (by omega) dX6_copy_129 (tgt := 159) (by decide) (fun c129 => absurd c129 (by first | omega | decide | simp_all)) (fun _ => ?_) | refine J.icmp_ge_nx C (by omega) dX6_copy_129 (tgt := 159) (by decide) (fun c129 => absurd c129 (by first | omega | decide | simp_all)) (fun _ => ?_) | refine J.icmp_ge C dX6_copy_129 (tgt := 159) (by decide) (fun c129 => absurd c129 (by first | omega | decide | simp_all)) (fun _ => ?_)
    refine J.aload_n C dX6_copy_132 rfl ?_
    refine J.getR C flX6_copy_61 (by first | decide | omega) rfl (by exact rfl) dX6_copy_133 ?_
    refine J.iload C dX6_copy_136 rfl ?_
    refine J.aload_n C dX6_copy_138 rfl ?_
    refine J.getR C flX6_copy_51 (by first | decide | omega) rfl (by exact rfl) dX6_copy_139 ?_
    refine J.bipush C dX6_copy_142 (v := (nI 12)) (by decide) ?_
    refine J.iload_n C dX6_copy_144 rfl ?_
    first | refine J.imul_n C dX6_copy_145 ?_ | refine J.imul C dX6_copy_145 ?_
    refine J.iload_n C dX6_copy_146 rfl ?_
    first | refine J.iadd_n C dX6_copy_147 ?_ | refine J.iadd C dX6_copy_147 ?_
    refine J.iload C dX6_copy_148 rfl ?_
    first | refine J.iadd_n C dX6_copy_150 ?_ | refine J.iadd C dX6_copy_150 ?_
    refine J.la C (by first | exact rfl | assumption) (by first | exact rfl | exact rfl) (by first | (have h_ln := ln_all; omega) | omega) (by first | ((repeat (first | refine up2_rd (by decide) ?_ | refine up2_rm (by decide) ?_ | refine up3_rd (by decide) ?_)) <;> (first | exact up2_s _ _ _ _ | assumption | exact rfl))) dX6_copy_151 ?_
    refine J.las C (by first | exact rfl | assumption) (by first | exact rfl | exact rfl) (by first | (have h_ln := ln_all; omega) | omega) dX6_copy_152 ?_
    refine J.iinc (ls' := [(0, _), (1, _), (2, _), (3, _), (4, _), (5, _), (6, _)]) C dX6_copy_153 rfl (by first | exact nI_inc _ 1 | exact rfl) (by decide) rfl ?_
    refine J.goto C dX6_copy_156 (tgt := 125) (by decide) ?_
    exact ih (i + 1) (by omega)
set_option maxHeartbeats 4000000 in
set_option maxRecDepth 100000 in
theorem lp_X6_copy_b {l : Launch} {X : Cx} {V : Vx} {P : Option Value → (Nat → va_E) → Prop} {I : Nat → Nat → Int32} {L : Nat → Nat → Int64} (C : CX l X V RX6 cX6_copy 7 wsX6_copy 3 0 0 (some .int)) {c a e b n : Nat} (he : e < 6) (hb : b + n ≤ 12) (hP : P (some (.int (nI n))) (mm V I (cyB (12 * e + b) L n))) : ∀ (k i : Nat), i + k = n → E X V P 7 162 [(0, .ref (ad V 85)), (1, .int (nI c)), (2, .int (nI a)), (3, .int (nI e)), (4, .int (nI b)), (5, .int (nI n)), (6, .int (nI i))] [] I (cyB (12 * e + b) L i) := by
  intro k
  induction k with
  | zero =>
    intro i hi
    obtain rfl : i = n := by omega
    refine J.iload C dX6_copy_162 rfl ?_
    refine J.iload C dX6_copy_164 rfl ?_
    first | refine J.icmp_ge_n C (by omega) (by omega) dX6_copy_166 (tgt := 197) (by decide) (fun _ => ?_) (fun c166 => absurd c166 (by first | omega | decide | simp_all)) | refine J.icmp_ge_xn C (by omega) dX6_copy_166 (tgt := 197) (by decide) (fun _ => ?_) (fun c166 => absurd c166 (by first | omega | decide | simp_all)) | refine J.icmp_ge_nx C (by omega) dX6_copy_166 (tgt := 197) (by decide) (fun _ => ?_) (fun c166 => absurd c166 (by first | omega | decide | simp_all)) | refine J.icmp_ge C dX6_copy_166 (tgt := 197) (by decide) (fun _ => ?_) (fun c166 => absurd c166 (by first | omega | decide | simp_all))
    refine J.iload C dX6_copy_197 rfl ?_
    exact J.iret C dX6_copy_199 hP
  | succ k ih =>
    intro i hi
    refine J.iload C dX6_copy_162 rfl ?_
    refine J.iload C dX6_copy_164 rfl ?_
    first | refine J.icmp_ge_n C (by omega) (by omega) dX6_copy_166 (tgt := 197) (by decide) (fun c166 => absurd c166 (by first | omega | decide | simp_all)) (fun _ => ?_) | refine J.icmp_ge_xn C (by omega) dX6_copy_166 (tgt := 197) (by decide) (fun c166 => absurd c166 (by first | omega | decide | simp_all)) (fun _ => ?_) | refine J.icmp_ge_nx C (by omega) dX6_copy_166 (tgt := 197) (by decide) (fun c166 => absurd c166 (by first | omega | decide | simp_all)) (fun _ => ?_) | refine J.icmp_ge C dX6_copy_166 (tgt := 197) (by decide) (fun c166 => absurd c166 (by first | omega | decide | simp_all)) (fun _ => ?_)
    refine J.aload_n C dX6_copy_169 rfl ?_
    refine J.getR C flX6_copy_51 (by first | decide | omega) rfl (by exact rfl) dX6_copy_170 ?_
    refine J.bipush C dX6_copy_173 (v := (nI 12)) (by decide) ?_
    refine J.iload_n C dX6_copy_175 rfl ?_
    first | refine J.imul_n C dX6_copy_176 ?_ | refine J.imul C dX6_copy_176 ?_
    refine J.iload C dX6_copy_177 rfl ?_
    first | refine J.iadd_n C dX6_copy_179 ?_ | refine J.iadd C dX6_copy_179 ?_
    refine J.iload C dX6_copy_180 rfl ?_
    first | refine J.iadd_n C dX6_copy_182 ?_ | refine J.iadd C dX6_copy_182 ?_
    refine J.aload_n C dX6_copy_183 rfl ?_
    refine J.getR C flX6_copy_61 (by first | decide | omega) rfl (by exact rfl) dX6_copy_184 ?_
    refine J.iload C dX6_copy_187 rfl ?_
    refine J.la C (by first | exact rfl | assumption) (by first | exact rfl | exact rfl) (by first | (have h_ln := ln_all; omega) | omega) (by first | ((repeat (first | refine up2_rd (by decide) ?_ | refine up2_rm (by decide) ?_ | refine up3_rd (by decide) ?_)) <;> (first | exact up2_s _ _ _ _ | assumption | exact rfl))) dX6_copy_189 ?_
    refine J.las C (by first | exact rfl | assumption) (by first | exact rfl | exact rfl) (by first | (have h_ln := ln_all; omega) | omega) dX6_copy_190 ?_
    refine J.iinc (ls' := [(0, _), (1, _), (2, _), (3, _), (4, _), (5, _), (6, _)]) C dX6_copy_191 rfl (by first | exact nI_inc _ 1 | exact rfl) (by decide) rfl ?_
    refine J.goto C dX6_copy_194 (tgt := 162) (by decide) ?_
    exact ih (i + 1) (by omega)
set_option maxHeartbeats 4000000 in
set_option maxRecDepth 100000 in
theorem ok_X6_copy (l : Launch) (V : Vx) {g : Sg} {x1 : Int32} {o1 : Option Nat} {x2 : Int32} {o2 : Option Nat} {x3 : Int32} {o3 : Option Nat} {x4 : Int32} {o4 : Option Nat} {x5 : Int32} {o5 : Option Nat} (I : Nat → Nat → Int32) (L : Nat → Nat → Int64) (hx1 : AG x1 o1) (hx2 : AG x2 o2) (hx3 : AG x3 o3) (hx4 : AG x4 o4) (hx5 : AG x5 o5) (h : AbM I L g) (ok : okG g) : PM l V yX6_copy wsX6_copy 3 [.ref (ad V 85), .int x1, .int x2, .int x3, .int x4, .int x5] I L (op_copy g o1 o2 o3 o4 o5) := by
  refine Ok.of (cc := cX6_copy) (maxL := 7) (ret := (some .int)) (by decide) rfl (Nat.le_of_ble_eq_true rfl) (fun X hnm C => ?_)
  have C : CX l X V RX6 cX6_copy 7 wsX6_copy 3 0 0 (some .int) := C
  refine J.cast (ls' := [(0, _), (1, _), (2, _), (3, _), (4, _), (5, _)]) rfl rfl rfl rfl ?_
  refine J.iload_n C dX6_copy_0 rfl ?_
  refine J.cSDi C (ok_X6_isCrate l V _ _ hx1) gX6_copy_X6_isCrate rfl mfX6_isCrate (by decide) (by decide) rfl rfl (Nat.le_of_ble_eq_true rfl) dX6_copy_1 (Nat.le_refl _) (Nat.le_refl _) ?_
  first | refine J.if_eq_b C dX6_copy_4 (tgt := 14) (by decide) (fun c4t => ?_) (fun c4f => ?_) | refine J.if_eq_n C (by omega) dX6_copy_4 (tgt := 14) (by decide) (fun c4t => ?_) (fun c4f => ?_) | refine J.if_eq C dX6_copy_4 (tgt := 14) (by decide) (fun c4t => ?_) (fun c4f => ?_)
  · refine J.aload_n C dX6_copy_14 rfl ?_
    refine J.iconst C dX6_copy_15 (v := (-1)) (by decide) ?_
    refine J.cVDi (q := (RX6, TX6, 25)) (ci := 6) C (ok_X6_found l V _ _ _) gX6_copy_X6_found rfl mfX6_found rfl (by decide) (by decide) (by first | decide | omega) rfl rfl rfl rfl (Nat.le_of_ble_eq_true rfl) dX6_copy_16 (Nat.le_refl _) (Nat.le_refl _) ?_
    exact J.iret C dX6_copy_19 (qM_s (by unfold op_copy; rw [tb_0 (fun q => by first | exact tb_f.mp c4t q.1 | exact tb_f.mp c11f q.2)]; exact qM_F h))
  · refine J.iload_n C dX6_copy_7 rfl ?_
    refine J.cSDi C (ok_X6_isCrate l V _ _ hx3) gX6_copy_X6_isCrate rfl mfX6_isCrate (by decide) (by decide) rfl rfl (Nat.le_of_ble_eq_true rfl) dX6_copy_8 (Nat.le_refl _) (Nat.le_refl _) ?_
    first | refine J.if_ne_b C dX6_copy_11 (tgt := 20) (by decide) (fun c11t => ?_) (fun c11f => ?_) | refine J.if_ne_n C (by omega) dX6_copy_11 (tgt := 20) (by decide) (fun c11t => ?_) (fun c11f => ?_) | refine J.if_ne C dX6_copy_11 (tgt := 20) (by decide) (fun c11t => ?_) (fun c11f => ?_)
    · obtain ⟨c, rfl, hc⟩ := tb_t.mp c4f
      obtain ⟨e, rfl, he⟩ := tb_t.mp c11t
      obtain ⟨-, rfl⟩ := hx1
      obtain ⟨-, rfl⟩ := hx3
      unfold op_copy
      rw [tb_1 (show inO (some c) 6 ∧ inO (some e) 6 from ⟨tb_t.mp c4f, tb_t.mp c11t⟩)]
      have hC := h.2.2.2.1 c hc
      have hok := ok.2.2.2.2.1 c hc
      obtain ⟨hc0, hc1, hc2⟩ := hC
      obtain ⟨ok0, ok1, ok2⟩ := hok
      obtain ⟨he0, he1, he2⟩ := h.2.2.2.1 e he
      obtain ⟨oe0, oe1, oe2⟩ := ok.2.2.2.2.1 e he
      refine J.aload_n C dX6_copy_20 rfl ?_
      refine J.getR C flX6_copy_45 (by first | decide | omega) rfl (by exact rfl) dX6_copy_21 ?_
      refine J.iload_n C dX6_copy_24 rfl ?_
      refine J.ia C (by first | exact rfl | assumption) (by first | exact rfl | exact rfl) (by first | (have h_ln := ln_all; omega) | omega) (by first | ((repeat (first | refine up2_rd (by decide) ?_ | refine up2_rm (by decide) ?_ | refine up3_rd (by decide) ?_)) <;> (first | exact up2_s _ _ _ _ | assumption | exact rfl))) dX6_copy_25 ?_
      first | refine J.if_eq_b C dX6_copy_26 (tgt := 38) (by decide) (fun c26t => ?_) (fun c26f => ?_) | refine J.if_eq_n C (by omega) dX6_copy_26 (tgt := 38) (by decide) (fun c26t => ?_) (fun c26f => ?_) | refine J.if_eq C dX6_copy_26 (tgt := 38) (by decide) (fun c26t => ?_) (fun c26f => ?_)
      · rw [tb_1 (show (g.2.2.2.1 ((some c).getD 0)).1 = 0 ∨ (g.2.2.2.1 ((some e).getD 0)).1 = 0 from Or.inl c26t)]
        refine J.aload_n C dX6_copy_38 rfl ?_
        refine J.bipush C dX6_copy_39 (v := (-2)) (by decide) ?_
        refine J.cVDi (q := (RX6, TX6, 25)) (ci := 6) C (ok_X6_found l V _ _ _) gX6_copy_X6_found rfl mfX6_found rfl (by decide) (by decide) (by first | decide | omega) rfl rfl rfl rfl (Nat.le_of_ble_eq_true rfl) dX6_copy_41 (Nat.le_refl _) (Nat.le_refl _) ?_
        exact J.iret C dX6_copy_44 (qM_s (qM_F h))
      · refine J.aload_n C dX6_copy_29 rfl ?_
        refine J.getR C flX6_copy_45 (by first | decide | omega) rfl (by exact rfl) dX6_copy_30 ?_
        refine J.iload_n C dX6_copy_33 rfl ?_
        refine J.ia C (by first | exact rfl | assumption) (by first | exact rfl | exact rfl) (by first | (have h_ln := ln_all; omega) | omega) (by first | ((repeat (first | refine up2_rd (by decide) ?_ | refine up2_rm (by decide) ?_ | refine up3_rd (by decide) ?_)) <;> (first | exact up2_s _ _ _ _ | assumption | exact rfl))) dX6_copy_34 ?_
        first | refine J.if_ne_b C dX6_copy_35 (tgt := 45) (by decide) (fun c35t => ?_) (fun c35f => ?_) | refine J.if_ne_n C (by omega) dX6_copy_35 (tgt := 45) (by decide) (fun c35t => ?_) (fun c35f => ?_) | refine J.if_ne C dX6_copy_35 (tgt := 45) (by decide) (fun c35t => ?_) (fun c35f => ?_)
        · rw [tb_0 (show ¬ ((g.2.2.2.1 ((some c).getD 0)).1 = 0 ∨ (g.2.2.2.1 ((some e).getD 0)).1 = 0) from fun q => by rcases q with q | q; exact c26f q; exact c35t q)]
          refine J.aload_n C dX6_copy_45 rfl ?_
          refine J.getR C flX6_copy_45 (by first | decide | omega) rfl (by exact rfl) dX6_copy_46 ?_
          refine J.iload_n C dX6_copy_49 rfl ?_
          refine J.ia C (by first | exact rfl | assumption) (by first | exact rfl | exact rfl) (by first | (have h_ln := ln_all; omega) | omega) (by first | ((repeat (first | refine up2_rd (by decide) ?_ | refine up2_rm (by decide) ?_ | refine up3_rd (by decide) ?_)) <;> (first | exact up2_s _ _ _ _ | assumption | exact rfl))) dX6_copy_50 ?_
          refine J.aload_n C dX6_copy_51 rfl ?_
          refine J.getR C flX6_copy_45 (by first | decide | omega) rfl (by exact rfl) dX6_copy_52 ?_
          refine J.iload_n C dX6_copy_55 rfl ?_
          refine J.ia C (by first | exact rfl | assumption) (by first | exact rfl | exact rfl) (by first | (have h_ln := ln_all; omega) | omega) (by first | ((repeat (first | refine up2_rd (by decide) ?_ | refine up2_rm (by decide) ?_ | refine up3_rd (by decide) ?_)) <;> (first | exact up2_s _ _ _ _ | assumption | exact rfl))) dX6_copy_56 ?_
          first | refine J.icmp_eq_n C (by omega) (by omega) dX6_copy_57 (tgt := 67) (by decide) (fun c57t => ?_) (fun c57f => ?_) | refine J.icmp_eq_xn C (by omega) dX6_copy_57 (tgt := 67) (by decide) (fun c57t => ?_) (fun c57f => ?_) | refine J.icmp_eq_nx C (by omega) dX6_copy_57 (tgt := 67) (by decide) (fun c57t => ?_) (fun c57f => ?_) | refine J.icmp_eq C dX6_copy_57 (tgt := 67) (by decide) (fun c57t => ?_) (fun c57f => ?_)
          · rw [tb_1 (show (g.2.2.2.1 ((some c).getD 0)).1 = (g.2.2.2.1 ((some e).getD 0)).1 from c57t)]
            refine J.iload_n C dX6_copy_67 rfl ?_
            refine J.if_lt_z C dX6_copy_68 (tgt := 116) (by decide) (fun c68t => ?_) (fun c68f => ?_)
            · refine J.aload_n C dX6_copy_116 rfl ?_
              refine J.iconst C dX6_copy_117 (v := (-1)) (by decide) ?_
              refine J.cVDi (q := (RX6, TX6, 25)) (ci := 6) C (ok_X6_found l V _ _ _) gX6_copy_X6_found rfl mfX6_found rfl (by decide) (by decide) (by first | decide | omega) rfl rfl rfl rfl (Nat.le_of_ble_eq_true rfl) dX6_copy_118 (Nat.le_refl _) (Nat.le_refl _) ?_
              exact J.iret C dX6_copy_121 (qM_s (by rw [tb_0 (fun q => by obtain ⟨⟨a, ea⟩, ⟨b, eb⟩, ⟨d, ed⟩, q1, q2⟩ := q; subst ea; subst eb; subst ed; obtain ⟨z1, z2⟩ := hx2; rw [z2, nI_ti z1] at c68t; omega)]; exact qM_F h))
            · refine J.iload C dX6_copy_71 rfl ?_
              refine J.if_lt_z C dX6_copy_73 (tgt := 116) (by decide) (fun c73t => ?_) (fun c73f => ?_)
              · refine J.aload_n C dX6_copy_116 rfl ?_
                refine J.iconst C dX6_copy_117 (v := (-1)) (by decide) ?_
                refine J.cVDi (q := (RX6, TX6, 25)) (ci := 6) C (ok_X6_found l V _ _ _) gX6_copy_X6_found rfl mfX6_found rfl (by decide) (by decide) (by first | decide | omega) rfl rfl rfl rfl (Nat.le_of_ble_eq_true rfl) dX6_copy_118 (Nat.le_refl _) (Nat.le_refl _) ?_
                exact J.iret C dX6_copy_121 (qM_s (by rw [tb_0 (fun q => by obtain ⟨⟨a, ea⟩, ⟨b, eb⟩, ⟨d, ed⟩, q1, q2⟩ := q; subst ea; subst eb; subst ed; obtain ⟨z1, z2⟩ := hx4; rw [z2, nI_ti z1] at c73t; omega)]; exact qM_F h))
              · refine J.iload C dX6_copy_76 rfl ?_
                refine J.if_lt_z C dX6_copy_78 (tgt := 116) (by decide) (fun c78t => ?_) (fun c78f => ?_)
                · refine J.aload_n C dX6_copy_116 rfl ?_
                  refine J.iconst C dX6_copy_117 (v := (-1)) (by decide) ?_
                  refine J.cVDi (q := (RX6, TX6, 25)) (ci := 6) C (ok_X6_found l V _ _ _) gX6_copy_X6_found rfl mfX6_found rfl (by decide) (by decide) (by first | decide | omega) rfl rfl rfl rfl (Nat.le_of_ble_eq_true rfl) dX6_copy_118 (Nat.le_refl _) (Nat.le_refl _) ?_
                  exact J.iret C dX6_copy_121 (qM_s (by rw [tb_0 (fun q => by obtain ⟨⟨a, ea⟩, ⟨b, eb⟩, ⟨d, ed⟩, q1, q2⟩ := q; subst ea; subst eb; subst ed; obtain ⟨z1, z2⟩ := hx5; rw [z2, nI_ti z1] at c78t; omega)]; exact qM_F h))
                · obtain ⟨a, rfl⟩ : ∃ a, o2 = some a := by cases o2 with | none => have q : x2.toInt < 0 := hx2; omega | some n => exact ⟨n, rfl⟩
                  obtain ⟨b, rfl⟩ : ∃ a, o4 = some a := by cases o4 with | none => have q : x4.toInt < 0 := hx4; omega | some n => exact ⟨n, rfl⟩
                  obtain ⟨n, rfl⟩ : ∃ a, o5 = some a := by cases o5 with | none => have q : x5.toInt < 0 := hx5; omega | some n => exact ⟨n, rfl⟩
                  obtain ⟨ha, rfl⟩ := hx2
                  obtain ⟨hb, rfl⟩ := hx4
                  obtain ⟨hn, rfl⟩ := hx5
                  refine J.iload_n C dX6_copy_81 rfl ?_
                  refine J.i2l C dX6_copy_82 ?_
                  refine J.iload C dX6_copy_83 rfl ?_
                  refine J.i2l C dX6_copy_85 ?_
                  refine J.ladd C dX6_copy_86 ?_
                  refine J.aload_n C dX6_copy_87 rfl ?_
                  refine J.getR C flX6_copy_48 (by first | decide | omega) rfl (by exact rfl) dX6_copy_88 ?_
                  refine J.iload_n C dX6_copy_91 rfl ?_
                  refine J.ia C (by first | exact rfl | assumption) (by first | exact rfl | exact rfl) (by first | (have h_ln := ln_all; omega) | omega) (by first | ((repeat (first | refine up2_rd (by decide) ?_ | refine up2_rm (by decide) ?_ | refine up3_rd (by decide) ?_)) <;> (first | exact up2_s _ _ _ _ | assumption | exact rfl))) dX6_copy_92 ?_
                  refine J.i2l C dX6_copy_93 ?_
                  refine J.lcmp C dX6_copy_94 ?_
                  refine J.if_gt_c C dX6_copy_95 (tgt := 116) (by decide) (fun c95t => ?_) (fun c95f => ?_)
                  · refine J.aload_n C dX6_copy_116 rfl ?_
                    refine J.iconst C dX6_copy_117 (v := (-1)) (by decide) ?_
                    refine J.cVDi (q := (RX6, TX6, 25)) (ci := 6) C (ok_X6_found l V _ _ _) gX6_copy_X6_found rfl mfX6_found rfl (by decide) (by decide) (by first | decide | omega) rfl rfl rfl rfl (Nat.le_of_ble_eq_true rfl) dX6_copy_118 (Nat.le_refl _) (Nat.le_refl _) ?_
                    exact J.iret C dX6_copy_121 (qM_s (by have w := (ll_gt ha hn (by omega)).mp c95t; rw [tb_0 (fun q => by have q1 : a + n ≤ (g.2.2.2.1 c).2.1 := q.2.2.2.1; omega)]; exact qM_F h))
                  · refine J.iload C dX6_copy_98 rfl ?_
                    refine J.i2l C dX6_copy_100 ?_
                    refine J.iload C dX6_copy_101 rfl ?_
                    refine J.i2l C dX6_copy_103 ?_
                    refine J.ladd C dX6_copy_104 ?_
                    refine J.aload_n C dX6_copy_105 rfl ?_
                    refine J.getR C flX6_copy_48 (by first | decide | omega) rfl (by exact rfl) dX6_copy_106 ?_
                    refine J.iload_n C dX6_copy_109 rfl ?_
                    refine J.ia C (by first | exact rfl | assumption) (by first | exact rfl | exact rfl) (by first | (have h_ln := ln_all; omega) | omega) (by first | ((repeat (first | refine up2_rd (by decide) ?_ | refine up2_rm (by decide) ?_ | refine up3_rd (by decide) ?_)) <;> (first | exact up2_s _ _ _ _ | assumption | exact rfl))) dX6_copy_110 ?_
                    refine J.i2l C dX6_copy_111 ?_
                    refine J.lcmp C dX6_copy_112 ?_
                    refine J.if_le_c C dX6_copy_113 (tgt := 122) (by decide) (fun c113t => ?_) (fun c113f => ?_)
                    · refine J.iconst C dX6_copy_122 (v := (nI 0)) (by decide) ?_
                      refine J.istore (ls' := [(0, _), (1, _), (2, _), (3, _), (4, _), (5, _), (6, _)]) C dX6_copy_123 (by decide) rfl ?_
                      have w1 := mt (ll_gt ha hn (by omega)).mpr c95f
                      have w2 := (ll_le hb hn (by omega)).mp c113t
                      rw [tb_1 (show (∃ z, some a = some z) ∧ (∃ z, some b = some z) ∧ (∃ z, some n = some z) ∧ (some a).getD 0 + (some n).getD 0 ≤ (g.2.2.2.1 ((some c).getD 0)).2.1 ∧ (some b).getD 0 + (some n).getD 0 ≤ (g.2.2.2.1 ((some e).getD 0)).2.1 from ⟨⟨a, rfl⟩, ⟨b, rfl⟩, ⟨n, rfl⟩, by show a + n ≤ (g.2.2.2.1 c).2.1; omega, w2⟩)]
                      refine lp_X6_copy_a C hc (by omega) ?_ n 0 (by omega)
                      refine J.iconst C dX6_copy_159 (v := (nI 0)) (by decide) ?_
                      refine J.istore (ls' := [(0, _), (1, _), (2, _), (3, _), (4, _), (5, _), (6, _)]) C dX6_copy_160 (by decide) rfl ?_
                      refine lp_X6_copy_b C he (by omega) ?_ n 0 (by omega)
                      exact qM_s ⟨rfl, AbM_crate (c := e) (x := ((g.2.2.2.1 e).1, (g.2.2.2.1 e).2.1, fun j => if b ≤ j ∧ j < b + n then (g.2.2.2.1 c).2.2 (a + (j - b)) else (g.2.2.2.1 e).2.2 j)) h (fun _ _ _ _ _ => rfl) he0 he1 (fun j hj => by
                        show _ = if b ≤ j ∧ j < b + n then (g.2.2.2.1 c).2.2 (a + (j - b)) else (g.2.2.2.1 e).2.2 j
                        rw [cyB_v]
                        by_cases q : b ≤ j ∧ j < b + n
                        · rw [if_pos (by omega), if_pos q, cyA_v, if_pos (by omega), show 12 * c + a + (12 * e + j - (12 * e + b)) = 12 * c + (a + (j - b)) by omega]
                          exact hc2 _ (by omega)
                        · rw [if_neg (by omega), if_neg q, cyA_v, if_neg (by omega)]
                          exact he2 j hj) (fun _ _ => rfl) (fun _ _ => rfl) (fun j hj => by rw [cyB_v, if_neg (by omega), cyA_v, if_neg (by omega)]), frm_rfl, fun k hk => by funext j; rw [cyB_v, if_neg (by omega), cyA_v, if_neg (by omega)]⟩
                    · refine J.aload_n C dX6_copy_116 rfl ?_
                      refine J.iconst C dX6_copy_117 (v := (-1)) (by decide) ?_
                      refine J.cVDi (q := (RX6, TX6, 25)) (ci := 6) C (ok_X6_found l V _ _ _) gX6_copy_X6_found rfl mfX6_found rfl (by decide) (by decide) (by first | decide | omega) rfl rfl rfl rfl (Nat.le_of_ble_eq_true rfl) dX6_copy_118 (Nat.le_refl _) (Nat.le_refl _) ?_
                      exact J.iret C dX6_copy_121 (qM_s (by have w := mt (ll_le hb hn (by omega)).mpr c113f; rw [tb_0 (fun q => by have q1 : b + n ≤ (g.2.2.2.1 e).2.1 := q.2.2.2.2; omega)]; exact qM_F h))
          · rw [tb_0 (show ¬ (g.2.2.2.1 ((some c).getD 0)).1 = (g.2.2.2.1 ((some e).getD 0)).1 from c57f)]
            refine J.aload_n C dX6_copy_60 rfl ?_
            refine J.bipush C dX6_copy_61 (v := (-4)) (by decide) ?_
            refine J.cVDi (q := (RX6, TX6, 25)) (ci := 6) C (ok_X6_found l V _ _ _) gX6_copy_X6_found rfl mfX6_found rfl (by decide) (by decide) (by first | decide | omega) rfl rfl rfl rfl (Nat.le_of_ble_eq_true rfl) dX6_copy_63 (Nat.le_refl _) (Nat.le_refl _) ?_
            exact J.iret C dX6_copy_66 (qM_s (qM_F h))
        · rw [tb_1 (show (g.2.2.2.1 ((some c).getD 0)).1 = 0 ∨ (g.2.2.2.1 ((some e).getD 0)).1 = 0 from Or.inr c35f)]
          refine J.aload_n C dX6_copy_38 rfl ?_
          refine J.bipush C dX6_copy_39 (v := (-2)) (by decide) ?_
          refine J.cVDi (q := (RX6, TX6, 25)) (ci := 6) C (ok_X6_found l V _ _ _) gX6_copy_X6_found rfl mfX6_found rfl (by decide) (by decide) (by first | decide | omega) rfl rfl rfl rfl (Nat.le_of_ble_eq_true rfl) dX6_copy_41 (Nat.le_refl _) (Nat.le_refl _) ?_
          exact J.iret C dX6_copy_44 (qM_s (qM_F h))
    · refine J.aload_n C dX6_copy_14 rfl ?_
      refine J.iconst C dX6_copy_15 (v := (-1)) (by decide) ?_
      refine J.cVDi (q := (RX6, TX6, 25)) (ci := 6) C (ok_X6_found l V _ _ _) gX6_copy_X6_found rfl mfX6_found rfl (by decide) (by decide) (by first | decide | omega) rfl rfl rfl rfl (Nat.le_of_ble_eq_true rfl) dX6_copy_16 (Nat.le_refl _) (Nat.le_refl _) ?_
      exact J.iret C dX6_copy_19 (qM_s (by unfold op_copy; rw [tb_0 (fun q => by first | exact tb_f.mp c4t q.1 | exact tb_f.mp c11f q.2)]; exact qM_F h))
