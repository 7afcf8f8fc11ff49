theorem nA_103 {J0 : Nat → Nat → Int32} {p q : Nat} {u v : Int32} {t : Nt} (h : nA (J0 85 0) (J0 85 1) (J0 86) (J0 87) (J0 88) (J0 89) 0 t) : nA (up2 (up2 J0 103 p u) 103 q v 85 0) (up2 (up2 J0 103 p u) 103 q v 85 1) (up2 (up2 J0 103 p u) 103 q v 86) (up2 (up2 J0 103 p u) 103 q v 87) (up2 (up2 J0 103 p u) 103 q v 88) (up2 (up2 J0 103 p u) 103 q v 89) 0 t := by
  rw [up2_n _ _ _ (by decide), up2_n _ _ _ (by decide), up2_n _ _ _ (by decide), up2_n _ _ _ (by decide), up2_n _ _ _ (by decide), up2_n _ _ _ (by decide), up2_n _ _ _ (by decide), up2_n _ _ _ (by decide), up2_n _ _ _ (by decide), up2_n _ _ _ (by decide)]
  exact h
theorem m4_103 {J0 : Nat → Nat → Int32} {n : Nat} {a b c d : Int32} : up2 (up2 (up2 (up2 J0 86 n a) 87 n b) 88 n c) 89 n d 103 = J0 103 := by rw [up2_n _ _ _ (by decide), up2_n _ _ _ (by decide), up2_n _ _ _ (by decide), up2_n _ _ _ (by decide)]
theorem m4_k {J0 : Nat → Nat → Int32} {n k : Nat} {a b c d : Int32} (h : k < 86 ∨ 90 ≤ k) : up2 (up2 (up2 (up2 J0 86 n a) 87 n b) 88 n c) 89 n d k = J0 k := by rw [up2_n _ _ _ (by omega), up2_n _ _ _ (by omega), up2_n _ _ _ (by omega), up2_n _ _ _ (by omega)]
set_option maxHeartbeats 4000000 in
set_option maxRecDepth 100000 in
theorem lp_X6_turn_c {l : Launch} {X : Cx} {V : Vx} {P : Option Value → (Nat → va_E) → Prop} {I : Nat → Nat → Int32} {L : Nat → Nat → Int64} (C : CX l X V RX6 cX6_turn 8 wsX6_turn 3 0 0 (some .int)) {t : Nt} (ok : okN t) (hs : ¬ ∃ i, i < t.2.1 ∧ actK (t.2.2 i) = 2) (hP : ∀ J0, nA (J0 85 0) (J0 85 1) (J0 86) (J0 87) (J0 88) (J0 89) 0 (t.1, (tuR t.2.2 t.2.1).1, (tuR t.2.2 t.2.1).2.1) → (∀ j, j ≠ 1 → J0 85 j = I 85 j) → (∀ k, (k < 85 ∨ (90 ≤ k ∧ k ≠ 103)) → J0 k = I k) → P (some (.int (nI (tuR t.2.2 t.2.1).1))) (mm V J0 L)) : ∀ (k i w : Nat) (J0 : Nat → Nat → Int32), i + k = t.2.1 → w = (tuR t.2.2 i).1 → TuI t i I J0 → E X V P 8 81 [(0, .ref (ad V 85)), (1, .int (nI w)), (2, .int (nI i))] [] J0 L := by
  intro k
  have h40 := ok.2.2.1
  have hl8 := ok.2.1
  induction k with
  | zero =>
    intro i w J0 hi hw hT
    obtain ⟨hn, hto, hf⟩ := hT
    have e : i = t.2.1 := by omega
    subst e
    have h1 : J0 85 1 = nI t.2.1 := hn.2.1
    have hle := tuR_le (f := t.2.2) t.2.1
    subst hw
    refine J.iload_n C dX6_turn_81 rfl ?_
    refine J.aload_n C dX6_turn_82 rfl ?_
    refine J.getI C flX6_turn_79 (by first | decide | omega) rfl (by exact rfl) (by first | ((repeat (first | refine up2_rd (by decide) ?_ | refine up2_rm (by decide) ?_ | refine up3_rd (by decide) ?_)) <;> (first | exact up2_s _ _ _ _ | assumption | exact rfl))) dX6_turn_83 ?_
    first | refine J.icmp_ge_n C (by omega) (by omega) dX6_turn_86 (tgt := 243) (by decide) (fun _ => ?_) (fun c86 => absurd c86 (by first | omega | decide | simp_all)) | refine J.icmp_ge_xn C (by omega) dX6_turn_86 (tgt := 243) (by decide) (fun _ => ?_) (fun c86 => absurd c86 (by first | omega | decide | simp_all)) | refine J.icmp_ge_nx C (by omega) dX6_turn_86 (tgt := 243) (by decide) (fun _ => ?_) (fun c86 => absurd c86 (by first | omega | decide | simp_all)) | refine J.icmp_ge C dX6_turn_86 (tgt := 243) (by decide) (fun _ => ?_) (fun c86 => absurd c86 (by first | omega | decide | simp_all))
    refine J.aload_n C dX6_turn_243 rfl ?_
    refine J.iload_n C dX6_turn_244 rfl ?_
    refine J.putI C fpX6_turn_79 (by first | decide | omega) rfl (Nat.le_of_ble_eq_true rfl) (by first | exact mp_6_1 rfl | exact mp_6_1 (by assumption)) dX6_turn_245 ?_
    refine J.aload_n C dX6_turn_248 rfl ?_
    refine J.getI C flX6_turn_79 (by first | decide | omega) rfl (by exact rfl) (by first | ((repeat (first | refine up2_rd (by decide) ?_ | refine up2_rm (by decide) ?_ | refine up3_rd (by decide) ?_)) <;> (first | exact up2_s _ _ _ _ | assumption | exact rfl))) dX6_turn_249 ?_
    refine J.iret C dX6_turn_252 ?_
    refine hP _ ⟨?_, up2_s _ _ _ _, fun j hj => ?_⟩ (fun j a => by rw [up2_m _ _ _ a, hf 85 (Or.inl (by decide))]) (fun q a => by rw [up2_n _ _ _ (by omega)]; exact hf q (by omega))
    · rw [up2_m _ _ _ (by decide)]; exact hn.1
    · rw [up2_n _ _ _ (by decide), up2_n _ _ _ (by decide), up2_n _ _ _ (by decide), up2_n _ _ _ (by decide)]
      exact hn.2.2 j (Nat.lt_of_lt_of_le hj hle)
  | succ k ih =>
    intro i w J0 hi hw hT
    obtain ⟨hn, hto, hf⟩ := hT
    have h1 : J0 85 1 = nI t.2.1 := hn.2.1
    have hle := tuR_le (f := t.2.2) i
    obtain ⟨hc1, hc2, hc3, hc4⟩ := ok.2.2.2 i (by omega)
    obtain ⟨hp1, hp2⟩ := tuR_p ok i (by omega)
    have hxa := hp1 (t.2.2 i).2.1 (by omega)
    have hxb := hp1 (t.2.2 i).2.2.1 hc3
    obtain ⟨r1, r2⟩ := actK_r hc1 (fun q => hs ⟨i, by omega, q⟩)
    have hi2 := hn.2.2 i (by show i < t.2.1; omega)
    rw [Nat.zero_add] at hi2
    rw [show (t.1, t.2.1, (tuR t.2.2 i).2.1).2.2 i = t.2.2 i from tuR_ge i hle] at hi2
    obtain ⟨g1, g2, g3, g4⟩ := hi2
    have hwi : w ≤ i := by omega
    by_cases hk3 : (t.2.2 i).1 = 3
    · refine J.iload_n C dX6_turn_81 rfl ?_
      refine J.aload_n C dX6_turn_82 rfl ?_
      refine J.getI C flX6_turn_79 (by first | decide | omega) rfl (by exact rfl) (by first | ((repeat (first | refine up2_rd (by decide) ?_ | refine up2_rm (by decide) ?_ | refine up3_rd (by decide) ?_)) <;> (first | exact up2_s _ _ _ _ | assumption | exact rfl))) dX6_turn_83 ?_
      first | refine J.icmp_ge_n C (by omega) (by omega) dX6_turn_86 (tgt := 243) (by decide) (fun c86 => absurd c86 (by first | omega | decide | simp_all)) (fun _ => ?_) | refine J.icmp_ge_xn C (by omega) dX6_turn_86 (tgt := 243) (by decide) (fun c86 => absurd c86 (by first | omega | decide | simp_all)) (fun _ => ?_) | refine J.icmp_ge_nx C (by omega) dX6_turn_86 (tgt := 243) (by decide) (fun c86 => absurd c86 (by first | omega | decide | simp_all)) (fun _ => ?_) | refine J.icmp_ge C dX6_turn_86 (tgt := 243) (by decide) (fun c86 => absurd c86 (by first | omega | decide | simp_all)) (fun _ => ?_)
      refine J.aload_n C dX6_turn_89 rfl ?_
      refine J.getR C flX6_turn_13 (by first | decide | omega) rfl (by exact rfl) dX6_turn_90 ?_
      refine J.iload_n C dX6_turn_93 rfl ?_
      refine J.ia C (by first | exact rfl | assumption) (by first | exact rfl | exact rfl) (by first | (have h_ln := ln_all; omega) | omega) (by first | exact g1 | ((repeat (first | refine up2_rd (by decide) ?_ | refine up2_rm (by decide) ?_ | refine up3_rd (by decide) ?_)) <;> (first | exact up2_s _ _ _ _ | assumption | exact rfl))) dX6_turn_94 ?_
      refine J.istore_n (ls' := [(0, _), (1, _), (2, _), (3, _)]) C dX6_turn_95 (by decide) rfl ?_
      refine J.aload_n C dX6_turn_96 rfl ?_
      refine J.getR C flX6_turn_17 (by first | decide | omega) rfl (by exact rfl) dX6_turn_97 ?_
      refine J.iload_n C dX6_turn_100 rfl ?_
      refine J.ia C (by first | exact rfl | assumption) (by first | exact rfl | exact rfl) (by first | (have h_ln := ln_all; omega) | omega) (by first | exact g2 | ((repeat (first | refine up2_rd (by decide) ?_ | refine up2_rm (by decide) ?_ | refine up3_rd (by decide) ?_)) <;> (first | exact up2_s _ _ _ _ | assumption | exact rfl))) dX6_turn_101 ?_
      refine J.istore (ls' := [(0, _), (1, _), (2, _), (3, _), (4, _)]) C dX6_turn_102 (by decide) rfl ?_
      refine J.aload_n C dX6_turn_104 rfl ?_
      refine J.getR C flX6_turn_20 (by first | decide | omega) rfl (by exact rfl) dX6_turn_105 ?_
      refine J.iload_n C dX6_turn_108 rfl ?_
      refine J.ia C (by first | exact rfl | assumption) (by first | exact rfl | exact rfl) (by first | (have h_ln := ln_all; omega) | omega) (by first | exact g3 | ((repeat (first | refine up2_rd (by decide) ?_ | refine up2_rm (by decide) ?_ | refine up3_rd (by decide) ?_)) <;> (first | exact up2_s _ _ _ _ | assumption | exact rfl))) dX6_turn_109 ?_
      refine J.istore (ls' := [(0, _), (1, _), (2, _), (3, _), (4, _), (5, _)]) C dX6_turn_110 (by decide) rfl ?_
      refine J.aload_n C dX6_turn_112 rfl ?_
      refine J.getR C flX6_turn_67 (by first | decide | omega) rfl (by exact rfl) dX6_turn_113 ?_
      refine J.iload C dX6_turn_116 rfl ?_
      refine J.ia C (by first | exact rfl | assumption) (by first | exact rfl | exact rfl) (by first | (have h_ln := ln_all; omega) | omega) (by first | exact hto _ (by omega) | ((repeat (first | refine up2_rd (by decide) ?_ | refine up2_rm (by decide) ?_ | refine up3_rd (by decide) ?_)) <;> (first | exact up2_s _ _ _ _ | assumption | exact rfl))) dX6_turn_118 ?_
      refine J.istore (ls' := [(0, _), (1, _), (2, _), (3, _), (4, _), (5, _), (6, _)]) C dX6_turn_119 (by decide) rfl ?_
      refine J.aload_n C dX6_turn_121 rfl ?_
      refine J.getR C flX6_turn_67 (by first | decide | omega) rfl (by exact rfl) dX6_turn_122 ?_
      refine J.iload C dX6_turn_125 rfl ?_
      refine J.ia C (by first | exact rfl | assumption) (by first | exact rfl | exact rfl) (by first | (have h_ln := ln_all; omega) | omega) (by first | exact hto _ (by omega) | ((repeat (first | refine up2_rd (by decide) ?_ | refine up2_rm (by decide) ?_ | refine up3_rd (by decide) ?_)) <;> (first | exact up2_s _ _ _ _ | assumption | exact rfl))) dX6_turn_127 ?_
      refine J.istore (ls' := [(0, _), (1, _), (2, _), (3, _), (4, _), (5, _), (6, _), (7, _)]) C dX6_turn_128 (by decide) rfl ?_
      refine J.iload_n C dX6_turn_130 rfl ?_
      refine J.iconst C dX6_turn_131 (v := (nI 3)) (by decide) ?_
      first | refine J.icmp_eq_n C (by omega) (by omega) dX6_turn_132 (tgt := 192) (by decide) (fun _ => ?_) (fun c132 => absurd c132 (by first | omega | decide | simp_all)) | refine J.icmp_eq_xn C (by omega) dX6_turn_132 (tgt := 192) (by decide) (fun _ => ?_) (fun c132 => absurd c132 (by first | omega | decide | simp_all)) | refine J.icmp_eq_nx C (by omega) dX6_turn_132 (tgt := 192) (by decide) (fun _ => ?_) (fun c132 => absurd c132 (by first | omega | decide | simp_all)) | refine J.icmp_eq C dX6_turn_132 (tgt := 192) (by decide) (fun _ => ?_) (fun c132 => absurd c132 (by first | omega | decide | simp_all))
      refine J.iload_n C dX6_turn_192 rfl ?_
      refine J.iconst C dX6_turn_193 (v := (nI 3)) (by decide) ?_
      first | refine J.icmp_eq_n C (by omega) (by omega) dX6_turn_194 (tgt := 219) (by decide) (fun _ => ?_) (fun c194 => absurd c194 (by first | omega | decide | simp_all)) | refine J.icmp_eq_xn C (by omega) dX6_turn_194 (tgt := 219) (by decide) (fun _ => ?_) (fun c194 => absurd c194 (by first | omega | decide | simp_all)) | refine J.icmp_eq_nx C (by omega) dX6_turn_194 (tgt := 219) (by decide) (fun _ => ?_) (fun c194 => absurd c194 (by first | omega | decide | simp_all)) | refine J.icmp_eq C dX6_turn_194 (tgt := 219) (by decide) (fun _ => ?_) (fun c194 => absurd c194 (by first | omega | decide | simp_all))
      refine J.aload_n C dX6_turn_219 rfl ?_
      refine J.getR C flX6_turn_67 (by first | decide | omega) rfl (by exact rfl) dX6_turn_220 ?_
      refine J.iload C dX6_turn_223 rfl ?_
      refine J.iload C dX6_turn_225 rfl ?_
      refine J.ias C (by first | exact rfl | assumption) (by first | exact rfl | exact rfl) (by first | (have h_ln := ln_all; omega) | omega) dX6_turn_227 ?_
      refine J.aload_n C dX6_turn_228 rfl ?_
      refine J.getR C flX6_turn_67 (by first | decide | omega) rfl (by exact rfl) dX6_turn_229 ?_
      refine J.iload C dX6_turn_232 rfl ?_
      refine J.iload C dX6_turn_234 rfl ?_
      refine J.ias C (by first | exact rfl | assumption) (by first | exact rfl | exact rfl) (by first | (have h_ln := ln_all; omega) | omega) dX6_turn_236 ?_
      refine J.iinc (ls' := [(0, _), (1, _), (2, _), (3, _), (4, _), (5, _), (6, _), (7, _)]) C dX6_turn_237 rfl (by first | exact nI_inc _ 1 | exact rfl) (by decide) rfl ?_
      refine J.goto C dX6_turn_240 (tgt := 81) (by decide) ?_
      refine J.lsx (ls' := [(0, _), (1, _), (2, _)]) (ex := [(3, _), (4, _), (5, _), (6, _), (7, _)]) rfl ?_
      exact ih (i + 1) _ _ (by omega) (by rw [(tu_e1 true (decide_eq_true (r1.mpr hk3))).1]; exact hw) ⟨by rw [(tu_e1 true (decide_eq_true (r1.mpr hk3))).2]; exact nA_103 hn, Tu_to hto true (by unfold swp; rw [if_pos (r1.mpr hk3)]), (fun q a => by rw [up2_n _ _ _ (by omega), up2_n _ _ _ (by omega)]; exact hf q a)⟩
    · have hq3 : ¬ actK (t.2.2 i) = 3 := fun q => hk3 (r1.mp q)
      by_cases hk1 : (t.2.2 i).1 = 1
      · by_cases hxy : (tuR t.2.2 i).2.2 (t.2.2 i).2.1 < (tuR t.2.2 i).2.2 (t.2.2 i).2.2.1
        · have hsw : swp (actK (t.2.2 i)) ((tuR t.2.2 i).2.2 (t.2.2 i).2.1) ((tuR t.2.2 i).2.2 (t.2.2 i).2.2.1) = true := by unfold swp; rw [if_neg hq3, if_pos (r2.mpr hk1)]; exact decide_eq_true hxy
          refine J.iload_n C dX6_turn_81 rfl ?_
          refine J.aload_n C dX6_turn_82 rfl ?_
          refine J.getI C flX6_turn_79 (by first | decide | omega) rfl (by exact rfl) (by first | ((repeat (first | refine up2_rd (by decide) ?_ | refine up2_rm (by decide) ?_ | refine up3_rd (by decide) ?_)) <;> (first | exact up2_s _ _ _ _ | assumption | exact rfl))) dX6_turn_83 ?_
          first | refine J.icmp_ge_n C (by omega) (by omega) dX6_turn_86 (tgt := 243) (by decide) (fun c86 => absurd c86 (by first | omega | decide | simp_all)) (fun _ => ?_) | refine J.icmp_ge_xn C (by omega) dX6_turn_86 (tgt := 243) (by decide) (fun c86 => absurd c86 (by first | omega | decide | simp_all)) (fun _ => ?_) | refine J.icmp_ge_nx C (by omega) dX6_turn_86 (tgt := 243) (by decide) (fun c86 => absurd c86 (by first | omega | decide | simp_all)) (fun _ => ?_) | refine J.icmp_ge C dX6_turn_86 (tgt := 243) (by decide) (fun c86 => absurd c86 (by first | omega | decide | simp_all)) (fun _ => ?_)
          refine J.aload_n C dX6_turn_89 rfl ?_
          refine J.getR C flX6_turn_13 (by first | decide | omega) rfl (by exact rfl) dX6_turn_90 ?_
          refine J.iload_n C dX6_turn_93 rfl ?_
          refine J.ia C (by first | exact rfl | assumption) (by first | exact rfl | exact rfl) (by first | (have h_ln := ln_all; omega) | omega) (by first | exact g1 | ((repeat (first | refine up2_rd (by decide) ?_ | refine up2_rm (by decide) ?_ | refine up3_rd (by decide) ?_)) <;> (first | exact up2_s _ _ _ _ | assumption | exact rfl))) dX6_turn_94 ?_
          refine J.istore_n (ls' := [(0, _), (1, _), (2, _), (3, _)]) C dX6_turn_95 (by decide) rfl ?_
          refine J.aload_n C dX6_turn_96 rfl ?_
          refine J.getR C flX6_turn_17 (by first | decide | omega) rfl (by exact rfl) dX6_turn_97 ?_
          refine J.iload_n C dX6_turn_100 rfl ?_
          refine J.ia C (by first | exact rfl | assumption) (by first | exact rfl | exact rfl) (by first | (have h_ln := ln_all; omega) | omega) (by first | exact g2 | ((repeat (first | refine up2_rd (by decide) ?_ | refine up2_rm (by decide) ?_ | refine up3_rd (by decide) ?_)) <;> (first | exact up2_s _ _ _ _ | assumption | exact rfl))) dX6_turn_101 ?_
          refine J.istore (ls' := [(0, _), (1, _), (2, _), (3, _), (4, _)]) C dX6_turn_102 (by decide) rfl ?_
          refine J.aload_n C dX6_turn_104 rfl ?_
          refine J.getR C flX6_turn_20 (by first | decide | omega) rfl (by exact rfl) dX6_turn_105 ?_
          refine J.iload_n C dX6_turn_108 rfl ?_
          refine J.ia C (by first | exact rfl | assumption) (by first | exact rfl | exact rfl) (by first | (have h_ln := ln_all; omega) | omega) (by first | exact g3 | ((repeat (first | refine up2_rd (by decide) ?_ | refine up2_rm (by decide) ?_ | refine up3_rd (by decide) ?_)) <;> (first | exact up2_s _ _ _ _ | assumption | exact rfl))) dX6_turn_109 ?_
          refine J.istore (ls' := [(0, _), (1, _), (2, _), (3, _), (4, _), (5, _)]) C dX6_turn_110 (by decide) rfl ?_
          refine J.aload_n C dX6_turn_112 rfl ?_
          refine J.getR C flX6_turn_67 (by first | decide | omega) rfl (by exact rfl) dX6_turn_113 ?_
          refine J.iload C dX6_turn_116 rfl ?_
          refine J.ia C (by first | exact rfl | assumption) (by first | exact rfl | exact rfl) (by first | (have h_ln := ln_all; omega) | omega) (by first | exact hto _ (by omega) | ((repeat (first | refine up2_rd (by decide) ?_ | refine up2_rm (by decide) ?_ | refine up3_rd (by decide) ?_)) <;> (first | exact up2_s _ _ _ _ | assumption | exact rfl))) dX6_turn_118 ?_
          refine J.istore (ls' := [(0, _), (1, _), (2, _), (3, _), (4, _), (5, _), (6, _)]) C dX6_turn_119 (by decide) rfl ?_
          refine J.aload_n C dX6_turn_121 rfl ?_
          refine J.getR C flX6_turn_67 (by first | decide | omega) rfl (by exact rfl) dX6_turn_122 ?_
          refine J.iload C dX6_turn_125 rfl ?_
          refine J.ia C (by first | exact rfl | assumption) (by first | exact rfl | exact rfl) (by first | (have h_ln := ln_all; omega) | omega) (by first | exact hto _ (by omega) | ((repeat (first | refine up2_rd (by decide) ?_ | refine up2_rm (by decide) ?_ | refine up3_rd (by decide) ?_)) <;> (first | exact up2_s _ _ _ _ | assumption | exact rfl))) dX6_turn_127 ?_
          refine J.istore (ls' := [(0, _), (1, _), (2, _), (3, _), (4, _), (5, _), (6, _), (7, _)]) C dX6_turn_128 (by decide) rfl ?_
          refine J.iload_n C dX6_turn_130 rfl ?_
          refine J.iconst C dX6_turn_131 (v := (nI 3)) (by decide) ?_
          first | refine J.icmp_eq_n C (by omega) (by omega) dX6_turn_132 (tgt := 192) (by decide) (fun c132 => absurd c132 (by first | omega | decide | simp_all)) (fun _ => ?_) | refine J.icmp_eq_xn C (by omega) dX6_turn_132 (tgt := 192) (by decide) (fun c132 => absurd c132 (by first | omega | decide | simp_all)) (fun _ => ?_) | refine J.icmp_eq_nx C (by omega) dX6_turn_132 (tgt := 192) (by decide) (fun c132 => absurd c132 (by first | omega | decide | simp_all)) (fun _ => ?_) | refine J.icmp_eq C dX6_turn_132 (tgt := 192) (by decide) (fun c132 => absurd c132 (by first | omega | decide | simp_all)) (fun _ => ?_)
          refine J.aload_n C dX6_turn_135 rfl ?_
          refine J.getR C flX6_turn_13 (by first | decide | omega) rfl (by exact rfl) dX6_turn_136 ?_
          refine J.iload_n C dX6_turn_139 rfl ?_
          refine J.iconst C dX6_turn_140 (v := (nI 0)) (by decide) ?_
          refine J.ias C (by first | exact rfl | assumption) (by first | exact rfl | exact rfl) (by first | (have h_ln := ln_all; omega) | omega) dX6_turn_141 ?_
          refine J.aload_n C dX6_turn_142 rfl ?_
          refine J.getR C flX6_turn_17 (by first | decide | omega) rfl (by exact rfl) dX6_turn_143 ?_
          refine J.iload_n C dX6_turn_146 rfl ?_
          refine J.iload C dX6_turn_147 rfl ?_
          refine J.iload C dX6_turn_149 rfl ?_
          first | refine J.icmp_ge_n C (by omega) (by omega) dX6_turn_151 (tgt := 159) (by decide) (fun c151 => absurd c151 (by first | omega | decide | simp_all)) (fun _ => ?_) | refine J.icmp_ge_xn C (by omega) dX6_turn_151 (tgt := 159) (by decide) (fun c151 => absurd c151 (by first | omega | decide | simp_all)) (fun _ => ?_) | refine J.icmp_ge_nx C (by omega) dX6_turn_151 (tgt := 159) (by decide) (fun c151 => absurd c151 (by first | omega | decide | simp_all)) (fun _ => ?_) | refine J.icmp_ge C dX6_turn_151 (tgt := 159) (by decide) (fun c151 => absurd c151 (by first | omega | decide | simp_all)) (fun _ => ?_)
          refine J.iload C dX6_turn_154 rfl ?_
          refine J.goto C dX6_turn_156 (tgt := 161) (by decide) ?_
          refine J.ias C (by first | exact rfl | assumption) (by first | exact rfl | exact rfl) (by first | (have h_ln := ln_all; omega) | omega) dX6_turn_161 ?_
          refine J.aload_n C dX6_turn_162 rfl ?_
          refine J.getR C flX6_turn_20 (by first | decide | omega) rfl (by exact rfl) dX6_turn_163 ?_
          refine J.iload_n C dX6_turn_166 rfl ?_
          refine J.iload C dX6_turn_167 rfl ?_
          refine J.iload C dX6_turn_169 rfl ?_
          first | refine J.icmp_ge_n C (by omega) (by omega) dX6_turn_171 (tgt := 179) (by decide) (fun c171 => absurd c171 (by first | omega | decide | simp_all)) (fun _ => ?_) | refine J.icmp_ge_xn C (by omega) dX6_turn_171 (tgt := 179) (by decide) (fun c171 => absurd c171 (by first | omega | decide | simp_all)) (fun _ => ?_) | refine J.icmp_ge_nx C (by omega) dX6_turn_171 (tgt := 179) (by decide) (fun c171 => absurd c171 (by first | omega | decide | simp_all)) (fun _ => ?_) | refine J.icmp_ge C dX6_turn_171 (tgt := 179) (by decide) (fun c171 => absurd c171 (by first | omega | decide | simp_all)) (fun _ => ?_)
          refine J.iload C dX6_turn_174 rfl ?_
          refine J.goto C dX6_turn_176 (tgt := 181) (by decide) ?_
          refine J.ias C (by first | exact rfl | assumption) (by first | exact rfl | exact rfl) (by first | (have h_ln := ln_all; omega) | omega) dX6_turn_181 ?_
          refine J.aload_n C dX6_turn_182 rfl ?_
          refine J.getR C flX6_turn_23 (by first | decide | omega) rfl (by exact rfl) dX6_turn_183 ?_
          refine J.iload_n C dX6_turn_186 rfl ?_
          refine J.iconst C dX6_turn_187 (v := (nI 1)) (by decide) ?_
          refine J.zas C (by first | exact bI_nar2 _ | exact rfl | decide | assumption) (by first | exact rfl | assumption) (by first | exact rfl | exact rfl) (by first | (have h_ln := ln_all; omega) | omega) dX6_turn_188 ?_
          refine J.iinc (ls' := [(0, _), (1, _), (2, _), (3, _), (4, _), (5, _), (6, _), (7, _)]) C dX6_turn_189 rfl (by first | exact nI_inc _ 1 | exact rfl) (by decide) rfl ?_
          refine J.iload_n C dX6_turn_192 rfl ?_
          refine J.iconst C dX6_turn_193 (v := (nI 3)) (by decide) ?_
          first | refine J.icmp_eq_n C (by omega) (by omega) dX6_turn_194 (tgt := 219) (by decide) (fun c194 => absurd c194 (by first | omega | decide | simp_all)) (fun _ => ?_) | refine J.icmp_eq_xn C (by omega) dX6_turn_194 (tgt := 219) (by decide) (fun c194 => absurd c194 (by first | omega | decide | simp_all)) (fun _ => ?_) | refine J.icmp_eq_nx C (by omega) dX6_turn_194 (tgt := 219) (by decide) (fun c194 => absurd c194 (by first | omega | decide | simp_all)) (fun _ => ?_) | refine J.icmp_eq C dX6_turn_194 (tgt := 219) (by decide) (fun c194 => absurd c194 (by first | omega | decide | simp_all)) (fun _ => ?_)
          refine J.iload_n C dX6_turn_197 rfl ?_
          refine J.iconst C dX6_turn_198 (v := (nI 1)) (by decide) ?_
          first | refine J.icmp_ne_n C (by omega) (by omega) dX6_turn_199 (tgt := 212) (by decide) (fun c199 => absurd c199 (by first | omega | decide | simp_all)) (fun _ => ?_) | refine J.icmp_ne_xn C (by omega) dX6_turn_199 (tgt := 212) (by decide) (fun c199 => absurd c199 (by first | omega | decide | simp_all)) (fun _ => ?_) | refine J.icmp_ne_nx C (by omega) dX6_turn_199 (tgt := 212) (by decide) (fun c199 => absurd c199 (by first | omega | decide | simp_all)) (fun _ => ?_) | refine J.icmp_ne C dX6_turn_199 (tgt := 212) (by decide) (fun c199 => absurd c199 (by first | omega | decide | simp_all)) (fun _ => ?_)
          refine J.iload C dX6_turn_202 rfl ?_
          refine J.iload C dX6_turn_204 rfl ?_
          first | refine J.icmp_le_n C (by omega) (by omega) dX6_turn_206 (tgt := 237) (by decide) (fun c206 => absurd c206 (by first | omega | decide | simp_all)) (fun _ => ?_) | refine J.icmp_le_xn C (by omega) dX6_turn_206 (tgt := 237) (by decide) (fun c206 => absurd c206 (by first | omega | decide | simp_all)) (fun _ => ?_) | refine J.icmp_le_nx C (by omega) dX6_turn_206 (tgt := 237) (by decide) (fun c206 => absurd c206 (by first | omega | decide | simp_all)) (fun _ => ?_) | refine J.icmp_le C dX6_turn_206 (tgt := 237) (by decide) (fun c206 => absurd c206 (by first | omega | decide | simp_all)) (fun _ => ?_)
          refine J.goto C dX6_turn_209 (tgt := 219) (by decide) ?_
          refine J.aload_n C dX6_turn_219 rfl ?_
          refine J.getR C flX6_turn_67 (by first | decide | omega) rfl (by exact rfl) dX6_turn_220 ?_
          refine J.iload C dX6_turn_223 rfl ?_
          refine J.iload C dX6_turn_225 rfl ?_
          refine J.ias C (by first | exact rfl | assumption) (by first | exact rfl | exact rfl) (by first | (have h_ln := ln_all; omega) | omega) dX6_turn_227 ?_
          refine J.aload_n C dX6_turn_228 rfl ?_
          refine J.getR C flX6_turn_67 (by first | decide | omega) rfl (by exact rfl) dX6_turn_229 ?_
          refine J.iload C dX6_turn_232 rfl ?_
          refine J.iload C dX6_turn_234 rfl ?_
          refine J.ias C (by first | exact rfl | assumption) (by first | exact rfl | exact rfl) (by first | (have h_ln := ln_all; omega) | omega) dX6_turn_236 ?_
          refine J.iinc (ls' := [(0, _), (1, _), (2, _), (3, _), (4, _), (5, _), (6, _), (7, _)]) C dX6_turn_237 rfl (by first | exact nI_inc _ 1 | exact rfl) (by decide) rfl ?_
          refine J.goto C dX6_turn_240 (tgt := 81) (by decide) ?_
          refine J.lsx (ls' := [(0, _), (1, _), (2, _)]) (ex := [(3, _), (4, _), (5, _), (6, _), (7, _)]) rfl ?_
          subst hw
          refine ih (i + 1) _ _ (by omega) (by rw [(tu_e1 false (decide_eq_false hq3)).1]; rfl) ⟨nA_103 (TuI_put (I := I) ok (by omega) hn (Nat.min_eq_left (by omega)).symm (Nat.max_eq_right (by omega)).symm hq3), ?_, (fun q a => by rw [up2_n _ _ _ (by omega), up2_n _ _ _ (by omega), m4_k (by omega)]; exact hf q a)⟩
          exact Tu_to (J0 := up2 (up2 (up2 (up2 J0 86 _ _) 87 _ _) 88 _ _) 89 _ _) (by rw [m4_103]; exact hto) true hsw
        · have hsw : swp (actK (t.2.2 i)) ((tuR t.2.2 i).2.2 (t.2.2 i).2.1) ((tuR t.2.2 i).2.2 (t.2.2 i).2.2.1) = false := by unfold swp; rw [if_neg hq3, if_pos (r2.mpr hk1)]; exact decide_eq_false hxy
          refine J.iload_n C dX6_turn_81 rfl ?_
          refine J.aload_n C dX6_turn_82 rfl ?_
          refine J.getI C flX6_turn_79 (by first | decide | omega) rfl (by exact rfl) (by first | ((repeat (first | refine up2_rd (by decide) ?_ | refine up2_rm (by decide) ?_ | refine up3_rd (by decide) ?_)) <;> (first | exact up2_s _ _ _ _ | assumption | exact rfl))) dX6_turn_83 ?_
          first | refine J.icmp_ge_n C (by omega) (by omega) dX6_turn_86 (tgt := 243) (by decide) (fun c86 => absurd c86 (by first | omega | decide | simp_all)) (fun _ => ?_) | refine J.icmp_ge_xn C (by omega) dX6_turn_86 (tgt := 243) (by decide) (fun c86 => absurd c86 (by first | omega | decide | simp_all)) (fun _ => ?_) | refine J.icmp_ge_nx C (by omega) dX6_turn_86 (tgt := 243) (by decide) (fun c86 => absurd c86 (by first | omega | decide | simp_all)) (fun _ => ?_) | refine J.icmp_ge C dX6_turn_86 (tgt := 243) (by decide) (fun c86 => absurd c86 (by first | omega | decide | simp_all)) (fun _ => ?_)
          refine J.aload_n C dX6_turn_89 rfl ?_
          refine J.getR C flX6_turn_13 (by first | decide | omega) rfl (by exact rfl) dX6_turn_90 ?_
          refine J.iload_n C dX6_turn_93 rfl ?_
          refine J.ia C (by first | exact rfl | assumption) (by first | exact rfl | exact rfl) (by first | (have h_ln := ln_all; omega) | omega) (by first | exact g1 | ((repeat (first | refine up2_rd (by decide) ?_ | refine up2_rm (by decide) ?_ | refine up3_rd (by decide) ?_)) <;> (first | exact up2_s _ _ _ _ | assumption | exact rfl))) dX6_turn_94 ?_
          refine J.istore_n (ls' := [(0, _), (1, _), (2, _), (3, _)]) C dX6_turn_95 (by decide) rfl ?_
          refine J.aload_n C dX6_turn_96 rfl ?_
          refine J.getR C flX6_turn_17 (by first | decide | omega) rfl (by exact rfl) dX6_turn_97 ?_
          refine J.iload_n C dX6_turn_100 rfl ?_
          refine J.ia C (by first | exact rfl | assumption) (by first | exact rfl | exact rfl) (by first | (have h_ln := ln_all; omega) | omega) (by first | exact g2 | ((repeat (first | refine up2_rd (by decide) ?_ | refine up2_rm (by decide) ?_ | refine up3_rd (by decide) ?_)) <;> (first | exact up2_s _ _ _ _ | assumption | exact rfl))) dX6_turn_101 ?_
          refine J.istore (ls' := [(0, _), (1, _), (2, _), (3, _), (4, _)]) C dX6_turn_102 (by decide) rfl ?_
          refine J.aload_n C dX6_turn_104 rfl ?_
          refine J.getR C flX6_turn_20 (by first | decide | omega) rfl (by exact rfl) dX6_turn_105 ?_
          refine J.iload_n C dX6_turn_108 rfl ?_
          refine J.ia C (by first | exact rfl | assumption) (by first | exact rfl | exact rfl) (by first | (have h_ln := ln_all; omega) | omega) (by first | exact g3 | ((repeat (first | refine up2_rd (by decide) ?_ | refine up2_rm (by decide) ?_ | refine up3_rd (by decide) ?_)) <;> (first | exact up2_s _ _ _ _ | assumption | exact rfl))) dX6_turn_109 ?_
          refine J.istore (ls' := [(0, _), (1, _), (2, _), (3, _), (4, _), (5, _)]) C dX6_turn_110 (by decide) rfl ?_
          refine J.aload_n C dX6_turn_112 rfl ?_
          refine J.getR C flX6_turn_67 (by first | decide | omega) rfl (by exact rfl) dX6_turn_113 ?_
          refine J.iload C dX6_turn_116 rfl ?_
          refine J.ia C (by first | exact rfl | assumption) (by first | exact rfl | exact rfl) (by first | (have h_ln := ln_all; omega) | omega) (by first | exact hto _ (by omega) | ((repeat (first | refine up2_rd (by decide) ?_ | refine up2_rm (by decide) ?_ | refine up3_rd (by decide) ?_)) <;> (first | exact up2_s _ _ _ _ | assumption | exact rfl))) dX6_turn_118 ?_
          refine J.istore (ls' := [(0, _), (1, _), (2, _), (3, _), (4, _), (5, _), (6, _)]) C dX6_turn_119 (by decide) rfl ?_
          refine J.aload_n C dX6_turn_121 rfl ?_
          refine J.getR C flX6_turn_67 (by first | decide | omega) rfl (by exact rfl) dX6_turn_122 ?_
          refine J.iload C dX6_turn_125 rfl ?_
          refine J.ia C (by first | exact rfl | assumption) (by first | exact rfl | exact rfl) (by first | (have h_ln := ln_all; omega) | omega) (by first | exact hto _ (by omega) | ((repeat (first | refine up2_rd (by decide) ?_ | refine up2_rm (by decide) ?_ | refine up3_rd (by decide) ?_)) <;> (first | exact up2_s _ _ _ _ | assumption | exact rfl))) dX6_turn_127 ?_
          refine J.istore (ls' := [(0, _), (1, _), (2, _), (3, _), (4, _), (5, _), (6, _), (7, _)]) C dX6_turn_128 (by decide) rfl ?_
          refine J.iload_n C dX6_turn_130 rfl ?_
          refine J.iconst C dX6_turn_131 (v := (nI 3)) (by decide) ?_
          first | refine J.icmp_eq_n C (by omega) (by omega) dX6_turn_132 (tgt := 192) (by decide) (fun c132 => absurd c132 (by first | omega | decide | simp_all)) (fun _ => ?_) | refine J.icmp_eq_xn C (by omega) dX6_turn_132 (tgt := 192) (by decide) (fun c132 => absurd c132 (by first | omega | decide | simp_all)) (fun _ => ?_) | refine J.icmp_eq_nx C (by omega) dX6_turn_132 (tgt := 192) (by decide) (fun c132 => absurd c132 (by first | omega | decide | simp_all)) (fun _ => ?_) | refine J.icmp_eq C dX6_turn_132 (tgt := 192) (by decide) (fun c132 => absurd c132 (by first | omega | decide | simp_all)) (fun _ => ?_)
          refine J.aload_n C dX6_turn_135 rfl ?_
          refine J.getR C flX6_turn_13 (by first | decide | omega) rfl (by exact rfl) dX6_turn_136 ?_
          refine J.iload_n C dX6_turn_139 rfl ?_
          refine J.iconst C dX6_turn_140 (v := (nI 0)) (by decide) ?_
          refine J.ias C (by first | exact rfl | assumption) (by first | exact rfl | exact rfl) (by first | (have h_ln := ln_all; omega) | omega) dX6_turn_141 ?_
          refine J.aload_n C dX6_turn_142 rfl ?_
          refine J.getR C flX6_turn_17 (by first | decide | omega) rfl (by exact rfl) dX6_turn_143 ?_
          refine J.iload_n C dX6_turn_146 rfl ?_
          refine J.iload C dX6_turn_147 rfl ?_
          refine J.iload C dX6_turn_149 rfl ?_
          first | refine J.icmp_ge_n C (by omega) (by omega) dX6_turn_151 (tgt := 159) (by decide) (fun _ => ?_) (fun c151 => absurd c151 (by first | omega | decide | simp_all)) | refine J.icmp_ge_xn C (by omega) dX6_turn_151 (tgt := 159) (by decide) (fun _ => ?_) (fun c151 => absurd c151 (by first | omega | decide | simp_all)) | refine J.icmp_ge_nx C (by omega) dX6_turn_151 (tgt := 159) (by decide) (fun _ => ?_) (fun c151 => absurd c151 (by first | omega | decide | simp_all)) | refine J.icmp_ge C dX6_turn_151 (tgt := 159) (by decide) (fun _ => ?_) (fun c151 => absurd c151 (by first | omega | decide | simp_all))
          refine J.iload C dX6_turn_159 rfl ?_
          refine J.ias C (by first | exact rfl | assumption) (by first | exact rfl | exact rfl) (by first | (have h_ln := ln_all; omega) | omega) dX6_turn_161 ?_
          refine J.aload_n C dX6_turn_162 rfl ?_
          refine J.getR C flX6_turn_20 (by first | decide | omega) rfl (by exact rfl) dX6_turn_163 ?_
          refine J.iload_n C dX6_turn_166 rfl ?_
          refine J.iload C dX6_turn_167 rfl ?_
          refine J.iload C dX6_turn_169 rfl ?_
          first | refine J.icmp_ge_n C (by omega) (by omega) dX6_turn_171 (tgt := 179) (by decide) (fun _ => ?_) (fun c171 => absurd c171 (by first | omega | decide | simp_all)) | refine J.icmp_ge_xn C (by omega) dX6_turn_171 (tgt := 179) (by decide) (fun _ => ?_) (fun c171 => absurd c171 (by first | omega | decide | simp_all)) | refine J.icmp_ge_nx C (by omega) dX6_turn_171 (tgt := 179) (by decide) (fun _ => ?_) (fun c171 => absurd c171 (by first | omega | decide | simp_all)) | refine J.icmp_ge C dX6_turn_171 (tgt := 179) (by decide) (fun _ => ?_) (fun c171 => absurd c171 (by first | omega | decide | simp_all))
          refine J.iload C dX6_turn_179 rfl ?_
          refine J.ias C (by first | exact rfl | assumption) (by first | exact rfl | exact rfl) (by first | (have h_ln := ln_all; omega) | omega) dX6_turn_181 ?_
          refine J.aload_n C dX6_turn_182 rfl ?_
          refine J.getR C flX6_turn_23 (by first | decide | omega) rfl (by exact rfl) dX6_turn_183 ?_
          refine J.iload_n C dX6_turn_186 rfl ?_
          refine J.iconst C dX6_turn_187 (v := (nI 1)) (by decide) ?_
          refine J.zas C (by first | exact bI_nar2 _ | exact rfl | decide | assumption) (by first | exact rfl | assumption) (by first | exact rfl | exact rfl) (by first | (have h_ln := ln_all; omega) | omega) dX6_turn_188 ?_
          refine J.iinc (ls' := [(0, _), (1, _), (2, _), (3, _), (4, _), (5, _), (6, _), (7, _)]) C dX6_turn_189 rfl (by first | exact nI_inc _ 1 | exact rfl) (by decide) rfl ?_
          refine J.iload_n C dX6_turn_192 rfl ?_
          refine J.iconst C dX6_turn_193 (v := (nI 3)) (by decide) ?_
          first | refine J.icmp_eq_n C (by omega) (by omega) dX6_turn_194 (tgt := 219) (by decide) (fun c194 => absurd c194 (by first | omega | decide | simp_all)) (fun _ => ?_) | refine J.icmp_eq_xn C (by omega) dX6_turn_194 (tgt := 219) (by decide) (fun c194 => absurd c194 (by first | omega | decide | simp_all)) (fun _ => ?_) | refine J.icmp_eq_nx C (by omega) dX6_turn_194 (tgt := 219) (by decide) (fun c194 => absurd c194 (by first | omega | decide | simp_all)) (fun _ => ?_) | refine J.icmp_eq C dX6_turn_194 (tgt := 219) (by decide) (fun c194 => absurd c194 (by first | omega | decide | simp_all)) (fun _ => ?_)
          refine J.iload_n C dX6_turn_197 rfl ?_
          refine J.iconst C dX6_turn_198 (v := (nI 1)) (by decide) ?_
          first | refine J.icmp_ne_n C (by omega) (by omega) dX6_turn_199 (tgt := 212) (by decide) (fun c199 => absurd c199 (by first | omega | decide | simp_all)) (fun _ => ?_) | refine J.icmp_ne_xn C (by omega) dX6_turn_199 (tgt := 212) (by decide) (fun c199 => absurd c199 (by first | omega | decide | simp_all)) (fun _ => ?_) | refine J.icmp_ne_nx C (by omega) dX6_turn_199 (tgt := 212) (by decide) (fun c199 => absurd c199 (by first | omega | decide | simp_all)) (fun _ => ?_) | refine J.icmp_ne C dX6_turn_199 (tgt := 212) (by decide) (fun c199 => absurd c199 (by first | omega | decide | simp_all)) (fun _ => ?_)
          refine J.iload C dX6_turn_202 rfl ?_
          refine J.iload C dX6_turn_204 rfl ?_
          first | refine J.icmp_le_n C (by omega) (by omega) dX6_turn_206 (tgt := 237) (by decide) (fun _ => ?_) (fun c206 => absurd c206 (by first | omega | decide | simp_all)) | refine J.icmp_le_xn C (by omega) dX6_turn_206 (tgt := 237) (by decide) (fun _ => ?_) (fun c206 => absurd c206 (by first | omega | decide | simp_all)) | refine J.icmp_le_nx C (by omega) dX6_turn_206 (tgt := 237) (by decide) (fun _ => ?_) (fun c206 => absurd c206 (by first | omega | decide | simp_all)) | refine J.icmp_le C dX6_turn_206 (tgt := 237) (by decide) (fun _ => ?_) (fun c206 => absurd c206 (by first | omega | decide | simp_all))
          refine J.iinc (ls' := [(0, _), (1, _), (2, _), (3, _), (4, _), (5, _), (6, _), (7, _)]) C dX6_turn_237 rfl (by first | exact nI_inc _ 1 | exact rfl) (by decide) rfl ?_
          refine J.goto C dX6_turn_240 (tgt := 81) (by decide) ?_
          refine J.lsx (ls' := [(0, _), (1, _), (2, _)]) (ex := [(3, _), (4, _), (5, _), (6, _), (7, _)]) rfl ?_
          subst hw
          refine ih (i + 1) _ _ (by omega) (by rw [(tu_e1 false (decide_eq_false hq3)).1]; rfl) ⟨TuI_put (I := I) ok (by omega) hn (Nat.min_eq_right (by omega)).symm (Nat.max_eq_left (by omega)).symm hq3, ?_, (fun q a => by rw [m4_k (by omega)]; exact hf q a)⟩
          rw [m4_103]
          exact Tu_to hto false hsw
      · have hq1 : ¬ actK (t.2.2 i) = 1 := fun q => hk1 (r2.mp q)
        by_cases hxy : (tuR t.2.2 i).2.2 (t.2.2 i).2.1 < (tuR t.2.2 i).2.2 (t.2.2 i).2.2.1
        · have hsw : swp (actK (t.2.2 i)) ((tuR t.2.2 i).2.2 (t.2.2 i).2.1) ((tuR t.2.2 i).2.2 (t.2.2 i).2.2.1) = false := by unfold swp; rw [if_neg hq3, if_neg hq1]; exact decide_eq_false (by omega)
          refine J.iload_n C dX6_turn_81 rfl ?_
          refine J.aload_n C dX6_turn_82 rfl ?_
          refine J.getI C flX6_turn_79 (by first | decide | omega) rfl (by exact rfl) (by first | ((repeat (first | refine up2_rd (by decide) ?_ | refine up2_rm (by decide) ?_ | refine up3_rd (by decide) ?_)) <;> (first | exact up2_s _ _ _ _ | assumption | exact rfl))) dX6_turn_83 ?_
          first | refine J.icmp_ge_n C (by omega) (by omega) dX6_turn_86 (tgt := 243) (by decide) (fun c86 => absurd c86 (by first | omega | decide | simp_all)) (fun _ => ?_) | refine J.icmp_ge_xn C (by omega) dX6_turn_86 (tgt := 243) (by decide) (fun c86 => absurd c86 (by first | omega | decide | simp_all)) (fun _ => ?_) | refine J.icmp_ge_nx C (by omega) dX6_turn_86 (tgt := 243) (by decide) (fun c86 => absurd c86 (by first | omega | decide | simp_all)) (fun _ => ?_) | refine J.icmp_ge C dX6_turn_86 (tgt := 243) (by decide) (fun c86 => absurd c86 (by first | omega | decide | simp_all)) (fun _ => ?_)
          refine J.aload_n C dX6_turn_89 rfl ?_
          refine J.getR C flX6_turn_13 (by first | decide | omega) rfl (by exact rfl) dX6_turn_90 ?_
          refine J.iload_n C dX6_turn_93 rfl ?_
          refine J.ia C (by first | exact rfl | assumption) (by first | exact rfl | exact rfl) (by first | (have h_ln := ln_all; omega) | omega) (by first | exact g1 | ((repeat (first | refine up2_rd (by decide) ?_ | refine up2_rm (by decide) ?_ | refine up3_rd (by decide) ?_)) <;> (first | exact up2_s _ _ _ _ | assumption | exact rfl))) dX6_turn_94 ?_
          refine J.istore_n (ls' := [(0, _), (1, _), (2, _), (3, _)]) C dX6_turn_95 (by decide) rfl ?_
          refine J.aload_n C dX6_turn_96 rfl ?_
          refine J.getR C flX6_turn_17 (by first | decide | omega) rfl (by exact rfl) dX6_turn_97 ?_
          refine J.iload_n C dX6_turn_100 rfl ?_
          refine J.ia C (by first | exact rfl | assumption) (by first | exact rfl | exact rfl) (by first | (have h_ln := ln_all; omega) | omega) (by first | exact g2 | ((repeat (first | refine up2_rd (by decide) ?_ | refine up2_rm (by decide) ?_ | refine up3_rd (by decide) ?_)) <;> (first | exact up2_s _ _ _ _ | assumption | exact rfl))) dX6_turn_101 ?_
          refine J.istore (ls' := [(0, _), (1, _), (2, _), (3, _), (4, _)]) C dX6_turn_102 (by decide) rfl ?_
          refine J.aload_n C dX6_turn_104 rfl ?_
          refine J.getR C flX6_turn_20 (by first | decide | omega) rfl (by exact rfl) dX6_turn_105 ?_
          refine J.iload_n C dX6_turn_108 rfl ?_
          refine J.ia C (by first | exact rfl | assumption) (by first | exact rfl | exact rfl) (by first | (have h_ln := ln_all; omega) | omega) (by first | exact g3 | ((repeat (first | refine up2_rd (by decide) ?_ | refine up2_rm (by decide) ?_ | refine up3_rd (by decide) ?_)) <;> (first | exact up2_s _ _ _ _ | assumption | exact rfl))) dX6_turn_109 ?_
          refine J.istore (ls' := [(0, _), (1, _), (2, _), (3, _), (4, _), (5, _)]) C dX6_turn_110 (by decide) rfl ?_
          refine J.aload_n C dX6_turn_112 rfl ?_
          refine J.getR C flX6_turn_67 (by first | decide | omega) rfl (by exact rfl) dX6_turn_113 ?_
          refine J.iload C dX6_turn_116 rfl ?_
          refine J.ia C (by first | exact rfl | assumption) (by first | exact rfl | exact rfl) (by first | (have h_ln := ln_all; omega) | omega) (by first | exact hto _ (by omega) | ((repeat (first | refine up2_rd (by decide) ?_ | refine up2_rm (by decide) ?_ | refine up3_rd (by decide) ?_)) <;> (first | exact up2_s _ _ _ _ | assumption | exact rfl))) dX6_turn_118 ?_
          refine J.istore (ls' := [(0, _), (1, _), (2, _), (3, _), (4, _), (5, _), (6, _)]) C dX6_turn_119 (by decide) rfl ?_
          refine J.aload_n C dX6_turn_121 rfl ?_
          refine J.getR C flX6_turn_67 (by first | decide | omega) rfl (by exact rfl) dX6_turn_122 ?_
          refine J.iload C dX6_turn_125 rfl ?_
          refine J.ia C (by first | exact rfl | assumption) (by first | exact rfl | exact rfl) (by first | (have h_ln := ln_all; omega) | omega) (by first | exact hto _ (by omega) | ((repeat (first | refine up2_rd (by decide) ?_ | refine up2_rm (by decide) ?_ | refine up3_rd (by decide) ?_)) <;> (first | exact up2_s _ _ _ _ | assumption | exact rfl))) dX6_turn_127 ?_
          refine J.istore (ls' := [(0, _), (1, _), (2, _), (3, _), (4, _), (5, _), (6, _), (7, _)]) C dX6_turn_128 (by decide) rfl ?_
          refine J.iload_n C dX6_turn_130 rfl ?_
          refine J.iconst C dX6_turn_131 (v := (nI 3)) (by decide) ?_
          first | refine J.icmp_eq_n C (by omega) (by omega) dX6_turn_132 (tgt := 192) (by decide) (fun c132 => absurd c132 (by first | omega | decide | simp_all)) (fun _ => ?_) | refine J.icmp_eq_xn C (by omega) dX6_turn_132 (tgt := 192) (by decide) (fun c132 => absurd c132 (by first | omega | decide | simp_all)) (fun _ => ?_) | refine J.icmp_eq_nx C (by omega) dX6_turn_132 (tgt := 192) (by decide) (fun c132 => absurd c132 (by first | omega | decide | simp_all)) (fun _ => ?_) | refine J.icmp_eq C dX6_turn_132 (tgt := 192) (by decide) (fun c132 => absurd c132 (by first | omega | decide | simp_all)) (fun _ => ?_)
          refine J.aload_n C dX6_turn_135 rfl ?_
          refine J.getR C flX6_turn_13 (by first | decide | omega) rfl (by exact rfl) dX6_turn_136 ?_
          refine J.iload_n C dX6_turn_139 rfl ?_
          refine J.iconst C dX6_turn_140 (v := (nI 0)) (by decide) ?_
          refine J.ias C (by first | exact rfl | assumption) (by first | exact rfl | exact rfl) (by first | (have h_ln := ln_all; omega) | omega) dX6_turn_141 ?_
          refine J.aload_n C dX6_turn_142 rfl ?_
          refine J.getR C flX6_turn_17 (by first | decide | omega) rfl (by exact rfl) dX6_turn_143 ?_
          refine J.iload_n C dX6_turn_146 rfl ?_
          refine J.iload C dX6_turn_147 rfl ?_
          refine J.iload C dX6_turn_149 rfl ?_
          first | refine J.icmp_ge_n C (by omega) (by omega) dX6_turn_151 (tgt := 159) (by decide) (fun c151 => absurd c151 (by first | omega | decide | simp_all)) (fun _ => ?_) | refine J.icmp_ge_xn C (by omega) dX6_turn_151 (tgt := 159) (by decide) (fun c151 => absurd c151 (by first | omega | decide | simp_all)) (fun _ => ?_) | refine J.icmp_ge_nx C (by omega) dX6_turn_151 (tgt := 159) (by decide) (fun c151 => absurd c151 (by first | omega | decide | simp_all)) (fun _ => ?_) | refine J.icmp_ge C dX6_turn_151 (tgt := 159) (by decide) (fun c151 => absurd c151 (by first | omega | decide | simp_all)) (fun _ => ?_)
          refine J.iload C dX6_turn_154 rfl ?_
          refine J.goto C dX6_turn_156 (tgt := 161) (by decide) ?_
          refine J.ias C (by first | exact rfl | assumption) (by first | exact rfl | exact rfl) (by first | (have h_ln := ln_all; omega) | omega) dX6_turn_161 ?_
          refine J.aload_n C dX6_turn_162 rfl ?_
          refine J.getR C flX6_turn_20 (by first | decide | omega) rfl (by exact rfl) dX6_turn_163 ?_
          refine J.iload_n C dX6_turn_166 rfl ?_
          refine J.iload C dX6_turn_167 rfl ?_
          refine J.iload C dX6_turn_169 rfl ?_
          first | refine J.icmp_ge_n C (by omega) (by omega) dX6_turn_171 (tgt := 179) (by decide) (fun c171 => absurd c171 (by first | omega | decide | simp_all)) (fun _ => ?_) | refine J.icmp_ge_xn C (by omega) dX6_turn_171 (tgt := 179) (by decide) (fun c171 => absurd c171 (by first | omega | decide | simp_all)) (fun _ => ?_) | refine J.icmp_ge_nx C (by omega) dX6_turn_171 (tgt := 179) (by decide) (fun c171 => absurd c171 (by first | omega | decide | simp_all)) (fun _ => ?_) | refine J.icmp_ge C dX6_turn_171 (tgt := 179) (by decide) (fun c171 => absurd c171 (by first | omega | decide | simp_all)) (fun _ => ?_)
          refine J.iload C dX6_turn_174 rfl ?_
          refine J.goto C dX6_turn_176 (tgt := 181) (by decide) ?_
          refine J.ias C (by first | exact rfl | assumption) (by first | exact rfl | exact rfl) (by first | (have h_ln := ln_all; omega) | omega) dX6_turn_181 ?_
          refine J.aload_n C dX6_turn_182 rfl ?_
          refine J.getR C flX6_turn_23 (by first | decide | omega) rfl (by exact rfl) dX6_turn_183 ?_
          refine J.iload_n C dX6_turn_186 rfl ?_
          refine J.iconst C dX6_turn_187 (v := (nI 1)) (by decide) ?_
          refine J.zas C (by first | exact bI_nar2 _ | exact rfl | decide | assumption) (by first | exact rfl | assumption) (by first | exact rfl | exact rfl) (by first | (have h_ln := ln_all; omega) | omega) dX6_turn_188 ?_
          refine J.iinc (ls' := [(0, _), (1, _), (2, _), (3, _), (4, _), (5, _), (6, _), (7, _)]) C dX6_turn_189 rfl (by first | exact nI_inc _ 1 | exact rfl) (by decide) rfl ?_
          refine J.iload_n C dX6_turn_192 rfl ?_
          refine J.iconst C dX6_turn_193 (v := (nI 3)) (by decide) ?_
          first | refine J.icmp_eq_n C (by omega) (by omega) dX6_turn_194 (tgt := 219) (by decide) (fun c194 => absurd c194 (by first | omega | decide | simp_all)) (fun _ => ?_) | refine J.icmp_eq_xn C (by omega) dX6_turn_194 (tgt := 219) (by decide) (fun c194 => absurd c194 (by first | omega | decide | simp_all)) (fun _ => ?_) | refine J.icmp_eq_nx C (by omega) dX6_turn_194 (tgt := 219) (by decide) (fun c194 => absurd c194 (by first | omega | decide | simp_all)) (fun _ => ?_) | refine J.icmp_eq C dX6_turn_194 (tgt := 219) (by decide) (fun c194 => absurd c194 (by first | omega | decide | simp_all)) (fun _ => ?_)
          refine J.iload_n C dX6_turn_197 rfl ?_
          refine J.iconst C dX6_turn_198 (v := (nI 1)) (by decide) ?_
          first | refine J.icmp_ne_n C (by omega) (by omega) dX6_turn_199 (tgt := 212) (by decide) (fun _ => ?_) (fun c199 => absurd c199 (by first | omega | decide | simp_all)) | refine J.icmp_ne_xn C (by omega) dX6_turn_199 (tgt := 212) (by decide) (fun _ => ?_) (fun c199 => absurd c199 (by first | omega | decide | simp_all)) | refine J.icmp_ne_nx C (by omega) dX6_turn_199 (tgt := 212) (by decide) (fun _ => ?_) (fun c199 => absurd c199 (by first | omega | decide | simp_all)) | refine J.icmp_ne C dX6_turn_199 (tgt := 212) (by decide) (fun _ => ?_) (fun c199 => absurd c199 (by first | omega | decide | simp_all))
          refine J.iload C dX6_turn_212 rfl ?_
          refine J.iload C dX6_turn_214 rfl ?_
          first | refine J.icmp_le_n C (by omega) (by omega) dX6_turn_216 (tgt := 237) (by decide) (fun _ => ?_) (fun c216 => absurd c216 (by first | omega | decide | simp_all)) | refine J.icmp_le_xn C (by omega) dX6_turn_216 (tgt := 237) (by decide) (fun _ => ?_) (fun c216 => absurd c216 (by first | omega | decide | simp_all)) | refine J.icmp_le_nx C (by omega) dX6_turn_216 (tgt := 237) (by decide) (fun _ => ?_) (fun c216 => absurd c216 (by first | omega | decide | simp_all)) | refine J.icmp_le C dX6_turn_216 (tgt := 237) (by decide) (fun _ => ?_) (fun c216 => absurd c216 (by first | omega | decide | simp_all))
          refine J.iinc (ls' := [(0, _), (1, _), (2, _), (3, _), (4, _), (5, _), (6, _), (7, _)]) C dX6_turn_237 rfl (by first | exact nI_inc _ 1 | exact rfl) (by decide) rfl ?_
          refine J.goto C dX6_turn_240 (tgt := 81) (by decide) ?_
          refine J.lsx (ls' := [(0, _), (1, _), (2, _)]) (ex := [(3, _), (4, _), (5, _), (6, _), (7, _)]) rfl ?_
          subst hw
          refine ih (i + 1) _ _ (by omega) (by rw [(tu_e1 false (decide_eq_false hq3)).1]; rfl) ⟨TuI_put (I := I) ok (by omega) hn (Nat.min_eq_left (by omega)).symm (Nat.max_eq_right (by omega)).symm hq3, ?_, (fun q a => by rw [m4_k (by omega)]; exact hf q a)⟩
          rw [m4_103]
          exact Tu_to hto false hsw
        · have hne : ¬ (tuR t.2.2 i).2.2 (t.2.2 i).2.1 = (tuR t.2.2 i).2.2 (t.2.2 i).2.2.1 := fun q => by have := hp2 _ _ (by omega) hc3 q; omega
          have hsw : swp (actK (t.2.2 i)) ((tuR t.2.2 i).2.2 (t.2.2 i).2.1) ((tuR t.2.2 i).2.2 (t.2.2 i).2.2.1) = true := by unfold swp; rw [if_neg hq3, if_neg hq1]; exact decide_eq_true (by omega)
          refine J.iload_n C dX6_turn_81 rfl ?_
          refine J.aload_n C dX6_turn_82 rfl ?_
          refine J.getI C flX6_turn_79 (by first | decide | omega) rfl (by exact rfl) (by first | ((repeat (first | refine up2_rd (by decide) ?_ | refine up2_rm (by decide) ?_ | refine up3_rd (by decide) ?_)) <;> (first | exact up2_s _ _ _ _ | assumption | exact rfl))) dX6_turn_83 ?_
          first | refine J.icmp_ge_n C (by omega) (by omega) dX6_turn_86 (tgt := 243) (by decide) (fun c86 => absurd c86 (by first | omega | decide | simp_all)) (fun _ => ?_) | refine J.icmp_ge_xn C (by omega) dX6_turn_86 (tgt := 243) (by decide) (fun c86 => absurd c86 (by first | omega | decide | simp_all)) (fun _ => ?_) | refine J.icmp_ge_nx C (by omega) dX6_turn_86 (tgt := 243) (by decide) (fun c86 => absurd c86 (by first | omega | decide | simp_all)) (fun _ => ?_) | refine J.icmp_ge C dX6_turn_86 (tgt := 243) (by decide) (fun c86 => absurd c86 (by first | omega | decide | simp_all)) (fun _ => ?_)
          refine J.aload_n C dX6_turn_89 rfl ?_
          refine J.getR C flX6_turn_13 (by first | decide | omega) rfl (by exact rfl) dX6_turn_90 ?_
          refine J.iload_n C dX6_turn_93 rfl ?_
          refine J.ia C (by first | exact rfl | assumption) (by first | exact rfl | exact rfl) (by first | (have h_ln := ln_all; omega) | omega) (by first | exact g1 | ((repeat (first | refine up2_rd (by decide) ?_ | refine up2_rm (by decide) ?_ | refine up3_rd (by decide) ?_)) <;> (first | exact up2_s _ _ _ _ | assumption | exact rfl))) dX6_turn_94 ?_
          refine J.istore_n (ls' := [(0, _), (1, _), (2, _), (3, _)]) C dX6_turn_95 (by decide) rfl ?_
          refine J.aload_n C dX6_turn_96 rfl ?_
          refine J.getR C flX6_turn_17 (by first | decide | omega) rfl (by exact rfl) dX6_turn_97 ?_
          refine J.iload_n C dX6_turn_100 rfl ?_
          refine J.ia C (by first | exact rfl | assumption) (by first | exact rfl | exact rfl) (by first | (have h_ln := ln_all; omega) | omega) (by first | exact g2 | ((repeat (first | refine up2_rd (by decide) ?_ | refine up2_rm (by decide) ?_ | refine up3_rd (by decide) ?_)) <;> (first | exact up2_s _ _ _ _ | assumption | exact rfl))) dX6_turn_101 ?_
          refine J.istore (ls' := [(0, _), (1, _), (2, _), (3, _), (4, _)]) C dX6_turn_102 (by decide) rfl ?_
          refine J.aload_n C dX6_turn_104 rfl ?_
          refine J.getR C flX6_turn_20 (by first | decide | omega) rfl (by exact rfl) dX6_turn_105 ?_
          refine J.iload_n C dX6_turn_108 rfl ?_
          refine J.ia C (by first | exact rfl | assumption) (by first | exact rfl | exact rfl) (by first | (have h_ln := ln_all; omega) | omega) (by first | exact g3 | ((repeat (first | refine up2_rd (by decide) ?_ | refine up2_rm (by decide) ?_ | refine up3_rd (by decide) ?_)) <;> (first | exact up2_s _ _ _ _ | assumption | exact rfl))) dX6_turn_109 ?_
          refine J.istore (ls' := [(0, _), (1, _), (2, _), (3, _), (4, _), (5, _)]) C dX6_turn_110 (by decide) rfl ?_
          refine J.aload_n C dX6_turn_112 rfl ?_
          refine J.getR C flX6_turn_67 (by first | decide | omega) rfl (by exact rfl) dX6_turn_113 ?_
          refine J.iload C dX6_turn_116 rfl ?_
          refine J.ia C (by first | exact rfl | assumption) (by first | exact rfl | exact rfl) (by first | (have h_ln := ln_all; omega) | omega) (by first | exact hto _ (by omega) | ((repeat (first | refine up2_rd (by decide) ?_ | refine up2_rm (by decide) ?_ | refine up3_rd (by decide) ?_)) <;> (first | exact up2_s _ _ _ _ | assumption | exact rfl))) dX6_turn_118 ?_
          refine J.istore (ls' := [(0, _), (1, _), (2, _), (3, _), (4, _), (5, _), (6, _)]) C dX6_turn_119 (by decide) rfl ?_
          refine J.aload_n C dX6_turn_121 rfl ?_
          refine J.getR C flX6_turn_67 (by first | decide | omega) rfl (by exact rfl) dX6_turn_122 ?_
          refine J.iload C dX6_turn_125 rfl ?_
          refine J.ia C (by first | exact rfl | assumption) (by first | exact rfl | exact rfl) (by first | (have h_ln := ln_all; omega) | omega) (by first | exact hto _ (by omega) | ((repeat (first | refine up2_rd (by decide) ?_ | refine up2_rm (by decide) ?_ | refine up3_rd (by decide) ?_)) <;> (first | exact up2_s _ _ _ _ | assumption | exact rfl))) dX6_turn_127 ?_
          refine J.istore (ls' := [(0, _), (1, _), (2, _), (3, _), (4, _), (5, _), (6, _), (7, _)]) C dX6_turn_128 (by decide) rfl ?_
          refine J.iload_n C dX6_turn_130 rfl ?_
          refine J.iconst C dX6_turn_131 (v := (nI 3)) (by decide) ?_
          first | refine J.icmp_eq_n C (by omega) (by omega) dX6_turn_132 (tgt := 192) (by decide) (fun c132 => absurd c132 (by first | omega | decide | simp_all)) (fun _ => ?_) | refine J.icmp_eq_xn C (by omega) dX6_turn_132 (tgt := 192) (by decide) (fun c132 => absurd c132 (by first | omega | decide | simp_all)) (fun _ => ?_) | refine J.icmp_eq_nx C (by omega) dX6_turn_132 (tgt := 192) (by decide) (fun c132 => absurd c132 (by first | omega | decide | simp_all)) (fun _ => ?_) | refine J.icmp_eq C dX6_turn_132 (tgt := 192) (by decide) (fun c132 => absurd c132 (by first | omega | decide | simp_all)) (fun _ => ?_)
          refine J.aload_n C dX6_turn_135 rfl ?_
          refine J.getR C flX6_turn_13 (by first | decide | omega) rfl (by exact rfl) dX6_turn_136 ?_
          refine J.iload_n C dX6_turn_139 rfl ?_
          refine J.iconst C dX6_turn_140 (v := (nI 0)) (by decide) ?_
          refine J.ias C (by first | exact rfl | assumption) (by first | exact rfl | exact rfl) (by first | (have h_ln := ln_all; omega) | omega) dX6_turn_141 ?_
          refine J.aload_n C dX6_turn_142 rfl ?_
          refine J.getR C flX6_turn_17 (by first | decide | omega) rfl (by exact rfl) dX6_turn_143 ?_
          refine J.iload_n C dX6_turn_146 rfl ?_
          refine J.iload C dX6_turn_147 rfl ?_
          refine J.iload C dX6_turn_149 rfl ?_
          first | refine J.icmp_ge_n C (by omega) (by omega) dX6_turn_151 (tgt := 159) (by decide) (fun _ => ?_) (fun c151 => absurd c151 (by first | omega | decide | simp_all)) | refine J.icmp_ge_xn C (by omega) dX6_turn_151 (tgt := 159) (by decide) (fun _ => ?_) (fun c151 => absurd c151 (by first | omega | decide | simp_all)) | refine J.icmp_ge_nx C (by omega) dX6_turn_151 (tgt := 159) (by decide) (fun _ => ?_) (fun c151 => absurd c151 (by first | omega | decide | simp_all)) | refine J.icmp_ge C dX6_turn_151 (tgt := 159) (by decide) (fun _ => ?_) (fun c151 => absurd c151 (by first | omega | decide | simp_all))
          refine J.iload C dX6_turn_159 rfl ?_
          refine J.ias C (by first | exact rfl | assumption) (by first | exact rfl | exact rfl) (by first | (have h_ln := ln_all; omega) | omega) dX6_turn_161 ?_
          refine J.aload_n C dX6_turn_162 rfl ?_
          refine J.getR C flX6_turn_20 (by first | decide | omega) rfl (by exact rfl) dX6_turn_163 ?_
          refine J.iload_n C dX6_turn_166 rfl ?_
          refine J.iload C dX6_turn_167 rfl ?_
          refine J.iload C dX6_turn_169 rfl ?_
          first | refine J.icmp_ge_n C (by omega) (by omega) dX6_turn_171 (tgt := 179) (by decide) (fun _ => ?_) (fun c171 => absurd c171 (by first | omega | decide | simp_all)) | refine J.icmp_ge_xn C (by omega) dX6_turn_171 (tgt := 179) (by decide) (fun _ => ?_) (fun c171 => absurd c171 (by first | omega | decide | simp_all)) | refine J.icmp_ge_nx C (by omega) dX6_turn_171 (tgt := 179) (by decide) (fun _ => ?_) (fun c171 => absurd c171 (by first | omega | decide | simp_all)) | refine J.icmp_ge C dX6_turn_171 (tgt := 179) (by decide) (fun _ => ?_) (fun c171 => absurd c171 (by first | omega | decide | simp_all))
          refine J.iload C dX6_turn_179 rfl ?_
          refine J.ias C (by first | exact rfl | assumption) (by first | exact rfl | exact rfl) (by first | (have h_ln := ln_all; omega) | omega) dX6_turn_181 ?_
          refine J.aload_n C dX6_turn_182 rfl ?_
          refine J.getR C flX6_turn_23 (by first | decide | omega) rfl (by exact rfl) dX6_turn_183 ?_
          refine J.iload_n C dX6_turn_186 rfl ?_
          refine J.iconst C dX6_turn_187 (v := (nI 1)) (by decide) ?_
          refine J.zas C (by first | exact bI_nar2 _ | exact rfl | decide | assumption) (by first | exact rfl | assumption) (by first | exact rfl | exact rfl) (by first | (have h_ln := ln_all; omega) | omega) dX6_turn_188 ?_
          refine J.iinc (ls' := [(0, _), (1, _), (2, _), (3, _), (4, _), (5, _), (6, _), (7, _)]) C dX6_turn_189 rfl (by first | exact nI_inc _ 1 | exact rfl) (by decide) rfl ?_
          refine J.iload_n C dX6_turn_192 rfl ?_
          refine J.iconst C dX6_turn_193 (v := (nI 3)) (by decide) ?_
          first | refine J.icmp_eq_n C (by omega) (by omega) dX6_turn_194 (tgt := 219) (by decide) (fun c194 => absurd c194 (by first | omega | decide | simp_all)) (fun _ => ?_) | refine J.icmp_eq_xn C (by omega) dX6_turn_194 (tgt := 219) (by decide) (fun c194 => absurd c194 (by first | omega | decide | simp_all)) (fun _ => ?_) | refine J.icmp_eq_nx C (by omega) dX6_turn_194 (tgt := 219) (by decide) (fun c194 => absurd c194 (by first | omega | decide | simp_all)) (fun _ => ?_) | refine J.icmp_eq C dX6_turn_194 (tgt := 219) (by decide) (fun c194 => absurd c194 (by first | omega | decide | simp_all)) (fun _ => ?_)
          refine J.iload_n C dX6_turn_197 rfl ?_
          refine J.iconst C dX6_turn_198 (v := (nI 1)) (by decide) ?_
          first | refine J.icmp_ne_n C (by omega) (by omega) dX6_turn_199 (tgt := 212) (by decide) (fun _ => ?_) (fun c199 => absurd c199 (by first | omega | decide | simp_all)) | refine J.icmp_ne_xn C (by omega) dX6_turn_199 (tgt := 212) (by decide) (fun _ => ?_) (fun c199 => absurd c199 (by first | omega | decide | simp_all)) | refine J.icmp_ne_nx C (by omega) dX6_turn_199 (tgt := 212) (by decide) (fun _ => ?_) (fun c199 => absurd c199 (by first | omega | decide | simp_all)) | refine J.icmp_ne C dX6_turn_199 (tgt := 212) (by decide) (fun _ => ?_) (fun c199 => absurd c199 (by first | omega | decide | simp_all))
          refine J.iload C dX6_turn_212 rfl ?_
          refine J.iload C dX6_turn_214 rfl ?_
          first | refine J.icmp_le_n C (by omega) (by omega) dX6_turn_216 (tgt := 237) (by decide) (fun c216 => absurd c216 (by first | omega | decide | simp_all)) (fun _ => ?_) | refine J.icmp_le_xn C (by omega) dX6_turn_216 (tgt := 237) (by decide) (fun c216 => absurd c216 (by first | omega | decide | simp_all)) (fun _ => ?_) | refine J.icmp_le_nx C (by omega) dX6_turn_216 (tgt := 237) (by decide) (fun c216 => absurd c216 (by first | omega | decide | simp_all)) (fun _ => ?_) | refine J.icmp_le C dX6_turn_216 (tgt := 237) (by decide) (fun c216 => absurd c216 (by first | omega | decide | simp_all)) (fun _ => ?_)
          refine J.aload_n C dX6_turn_219 rfl ?_
          refine J.getR C flX6_turn_67 (by first | decide | omega) rfl (by exact rfl) dX6_turn_220 ?_
          refine J.iload C dX6_turn_223 rfl ?_
          refine J.iload C dX6_turn_225 rfl ?_
          refine J.ias C (by first | exact rfl | assumption) (by first | exact rfl | exact rfl) (by first | (have h_ln := ln_all; omega) | omega) dX6_turn_227 ?_
          refine J.aload_n C dX6_turn_228 rfl ?_
          refine J.getR C flX6_turn_67 (by first | decide | omega) rfl (by exact rfl) dX6_turn_229 ?_
          refine J.iload C dX6_turn_232 rfl ?_
          refine J.iload C dX6_turn_234 rfl ?_
          refine J.ias C (by first | exact rfl | assumption) (by first | exact rfl | exact rfl) (by first | (have h_ln := ln_all; omega) | omega) dX6_turn_236 ?_
          refine J.iinc (ls' := [(0, _), (1, _), (2, _), (3, _), (4, _), (5, _), (6, _), (7, _)]) C dX6_turn_237 rfl (by first | exact nI_inc _ 1 | exact rfl) (by decide) rfl ?_
          refine J.goto C dX6_turn_240 (tgt := 81) (by decide) ?_
          refine J.lsx (ls' := [(0, _), (1, _), (2, _)]) (ex := [(3, _), (4, _), (5, _), (6, _), (7, _)]) rfl ?_
          subst hw
          refine ih (i + 1) _ _ (by omega) (by rw [(tu_e1 false (decide_eq_false hq3)).1]; rfl) ⟨nA_103 (TuI_put (I := I) ok (by omega) hn (Nat.min_eq_right (by omega)).symm (Nat.max_eq_left (by omega)).symm hq3), ?_, (fun q a => by rw [up2_n _ _ _ (by omega), up2_n _ _ _ (by omega), m4_k (by omega)]; exact hf q a)⟩
          exact Tu_to (J0 := up2 (up2 (up2 (up2 J0 86 _ _) 87 _ _) 88 _ _) 89 _ _) (by rw [m4_103]; exact hto) true hsw
set_option maxHeartbeats 4000000 in
set_option maxRecDepth 100000 in
theorem ok_X6_turn (l : Launch) (V : Vx) {g : Sg} (I : Nat → Nat → Int32) (L : Nat → Nat → Int64) (h : AbM I L g) (ok : okG g) : PM l V yX6_turn wsX6_turn 3 [.ref (ad V 85)] I L (op_turn g) := by
  have hN := h.nm
  have h0 := hN.1
  have hm := hN.2.1
  have hl2 := ok.1.1
  have hl8 := ok.1.2.1
  have h40 := ok.1.2.2.1
  have hq := h.2.1.1
  have hq25 := ok.2.2.1
  have hB := AbM_be h ok
  have hb0 : beM I g.2.1.length 85 0 = nI g.1.1 := hB.1.1
  have hb1 : beM I g.2.1.length 85 1 = nI g.1.2.1 := hB.1.2.1
  refine Ok.of (cc := cX6_turn) (maxL := 8) (ret := (some .int)) (by decide) rfl (Nat.le_of_ble_eq_true rfl) (fun X hnm C => ?_)
  have C : CX l X V RX6 cX6_turn 8 wsX6_turn 3 0 0 (some .int) := C
  refine J.cast (ls' := [(0, _)]) rfl rfl rfl rfl ?_
  refine J.iconst C dX6_turn_0 (v := (nI 0)) (by decide) ?_
  refine J.istore_n (ls' := [(0, _), (1, _)]) C dX6_turn_1 (by decide) rfl ?_
  refine lp_X6_turn_a C ok.1 hN (fun hs => ?_) (fun hs => ?_) g.1.2.1 0 (by omega) (fun j hj => absurd hj (Nat.not_lt_zero j))
  · unfold op_turn
    rw [tb_1 hs]
    exact qM_s (qM_F h)
  · unfold op_turn
    rw [tb_0 hs]
    refine J.aload_n C dX6_turn_52 rfl ?_
    refine J.cVDv (q := (RX6, TX6, 25)) (ci := 6) C (ok_X6_begins l V _ _ hq hq25) gX6_turn_X6_begins rfl mfX6_begins rfl (by decide) (by decide) (by first | decide | omega) rfl rfl rfl rfl (Nat.le_of_ble_eq_true rfl) dX6_turn_53 (Nat.le_refl _) (Nat.le_refl _) ?_
    refine J.iconst C dX6_turn_56 (v := (nI 0)) (by decide) ?_
    refine J.istore_n (ls' := [(0, _), (1, _)]) C dX6_turn_57 (by decide) rfl ?_
    refine lp_X6_turn_b C (I := beM I g.2.1.length) (fun J0 hf hb => ?_) 8 0 _ (by omega) (fun _ _ => rfl) (fun x hx => absurd hx (Nat.not_lt_zero x))
    refine J.iconst C dX6_turn_77 (v := (nI 0)) (by decide) ?_
    refine J.istore_n (ls' := [(0, _), (1, _)]) C dX6_turn_78 (by decide) rfl ?_
    refine J.iconst C dX6_turn_79 (v := (nI 0)) (by decide) ?_
    refine J.istore_n (ls' := [(0, _), (1, _), (2, _)]) C dX6_turn_80 (by decide) rfl ?_
    refine lp_X6_turn_c C ok.1 hs (I := J0) (fun J1 hn h5 hf1 => ?_) g.1.2.1 0 0 _ (by omega) rfl ⟨by rw [hf 85 (by decide), hf 86 (by decide), hf 87 (by decide), hf 88 (by decide), hf 89 (by decide)]; exact hB.1, fun x hx => hb x (by omega), fun _ _ => rfl⟩
    exact qM_s ⟨rfl, AbM_net hB hn (fun j a b => by rw [h5 j b, hf 85 (by decide)]) (fun q a b => by rw [hf1 q (Or.inr ⟨a, by omega⟩), hf q (by omega)]), fun k hk => by rw [hf1 k (Or.inl hk), hf k (by omega)]; exact beM_o hk, frmL_rfl⟩
