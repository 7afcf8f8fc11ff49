/-! THE CLASS: run and copy -/
theorem rnR_i {k : Nat} {t : Nt} {v : Nat → Int64} (ok : okN t) (h : k = 6 → ∀ j, j < 12 → i32 (v j)) : ∀ i, i ≤ t.2.1 → k = 6 → ∀ j, j < 12 → i32 ((rnR k t.2.2 v i).2 j)
  | 0, _ => h
  | i + 1, hi => fun q j hj => by
    have ih := rnR_i ok h i (by omega) q
    obtain ⟨c1, c2, c3, c4⟩ := ok.2.2.2 i (by omega)
    have h8 := ok.2.1
    unfold rnR
    cases chg (t.2.2 i) (ordI k ((rnR k t.2.2 v i).2 (t.2.2 i).2.1) ((rnR k t.2.2 v i).2 (t.2.2 i).2.2.1)).toInt with
    | false => exact ih j hj
    | true =>
      show i32 (va_up (va_up _ _ _) _ _ j)
      by_cases e : j = (t.2.2 i).2.2.1
      · rw [e, va_up_self]; exact ih _ (by omega)
      · rw [va_up_ne _ _ e]
        by_cases e2 : j = (t.2.2 i).2.1
        · rw [e2, va_up_self]; exact ih _ (by omega)
        · rw [va_up_ne _ _ e2]; exact ih _ hj
set_option maxHeartbeats 4000000 in
set_option maxRecDepth 100000 in
theorem lp_X5_run {l : Launch} {X : Cx} {V : Vx} {P : Option Value → (Nat → va_E) → Prop} {I : Nat → Nat → Int32} {L : Nat → Nat → Int64} (C : CX l X V RX5 cX5_run 6 wsX5_run 4 0 0 (some .int)) {t : Nt} {c kk : Nat} {v : Nat → Int64} (hN : netC I 1 t) (ok : okN t) (hc : c < 6) (hk : kk ≤ 7) (h0 : I (73 + 2 * c) 0 = nI kk) (h6 : kk = 6 → ∀ j, j < 12 → i32 (v j)) (hP : ∀ L0, (∀ j, j < 12 → L0 (73 + 2 * c + 1) j = (rnR kk t.2.2 v t.2.1).2 j) → (∀ k, k ≠ 73 + 2 * c + 1 → L0 k = L k) → P (some (.int (nI (rnR kk t.2.2 v t.2.1).1))) (mm V I L0)) : ∀ (k i w : Nat) (L0 : Nat → Nat → Int64), i + k = t.2.1 → w = (rnR kk t.2.2 v i).1 → (∀ j, j < 12 → L0 (73 + 2 * c + 1) j = (rnR kk t.2.2 v i).2 j) → (∀ k, k ≠ 73 + 2 * c + 1 → L0 k = L k) → E X V P 6 50 [(0, .ref (ad V 0)), (1, .int (nI c)), (2, .int (nI 0)), (3, .ref (ad V (73 + 2 * c))), (4, .int (nI w)), (5, .int (nI i))] [] I L0 := by
  have h40 := ok.2.2.1
  have hl8 := ok.2.1
  have hm := hN.2.1
  have hkd := (kd73 hc).1
  intro k
  induction k with
  | zero =>
    intro i w L0 hi hw hv hf
    obtain rfl : i = t.2.1 := by omega
    subst hw
    refine J.iload C dX5_run_50 rfl ?_
    refine J.aload_n C dX5_run_52 rfl ?_
    refine J.getR C flX5_run_10 (by first | decide | omega) rfl (by exact rfl) dX5_run_53 ?_
    refine J.getI C flX5_run_77 (by first | decide | omega) (by first | exact rfl | exact mk_3 (by assumption)) (by exact rfl) (by first | ((repeat (first | rewrite [up2_n _ _ _ (by first | decide | omega)] | rewrite [up2_m _ _ _ (by decide)] | rewrite [up3_n _ _ _ (by first | decide | omega)])) <;> (first | exact up2_s _ _ _ _ | exact up3_s _ _ _ _ | assumption | exact rfl))) dX5_run_56 ?_
    first | refine J.icmp_ge_n C (by omega) (by omega) dX5_run_59 (tgt := 127) (by decide) (fun _ => ?_) (fun c59 => absurd c59 (by first | omega | decide | simp_all)) | refine J.icmp_ge_xn C (by omega) dX5_run_59 (tgt := 127) (by decide) (fun _ => ?_) (fun c59 => absurd c59 (by first | omega | decide | simp_all)) | refine J.icmp_ge_nx C (by omega) dX5_run_59 (tgt := 127) (by decide) (fun _ => ?_) (fun c59 => absurd c59 (by first | omega | decide | simp_all)) | refine J.icmp_ge C dX5_run_59 (tgt := 127) (by decide) (fun _ => ?_) (fun c59 => absurd c59 (by first | omega | decide | simp_all))
    refine J.iload C dX5_run_127 rfl ?_
    exact J.iret C dX5_run_129 (hP L0 hv hf)
  | succ k ih =>
    intro i w L0 hi hw hv hf
    have hcc := ok.2.2.2 i (by omega)
    have hcB := okC_B hcc hl8
    have ha4 := actK_lt hcB
    obtain ⟨hc1, hc2, hc3, hc4⟩ := hcc
    have hi2 := hN.2.2 i (by omega)
    have hle := rnR_le (k := kk) (f := t.2.2) (v := v) i
    have hva := hv (t.2.2 i).2.1 (by omega)
    have hvb := hv (t.2.2 i).2.2.1 (by omega)
    have h66 := rnR_i ok h6 i (by omega)
    refine J.iload C dX5_run_50 rfl ?_
    refine J.aload_n C dX5_run_52 rfl ?_
    refine J.getR C flX5_run_10 (by first | decide | omega) rfl (by exact rfl) dX5_run_53 ?_
    refine J.getI C flX5_run_77 (by first | decide | omega) (by first | exact rfl | exact mk_3 (by assumption)) (by exact rfl) (by first | ((repeat (first | rewrite [up2_n _ _ _ (by first | decide | omega)] | rewrite [up2_m _ _ _ (by decide)] | rewrite [up3_n _ _ _ (by first | decide | omega)])) <;> (first | exact up2_s _ _ _ _ | exact up3_s _ _ _ _ | assumption | exact rfl))) dX5_run_56 ?_
    first | refine J.icmp_ge_n C (by omega) (by omega) dX5_run_59 (tgt := 127) (by decide) (fun c59 => absurd c59 (by first | omega | decide | simp_all)) (fun _ => ?_) | refine J.icmp_ge_xn C (by omega) dX5_run_59 (tgt := 127) (by decide) (fun c59 => absurd c59 (by first | omega | decide | simp_all)) (fun _ => ?_) | refine J.icmp_ge_nx C (by omega) dX5_run_59 (tgt := 127) (by decide) (fun c59 => absurd c59 (by first | omega | decide | simp_all)) (fun _ => ?_) | refine J.icmp_ge C dX5_run_59 (tgt := 127) (by decide) (fun c59 => absurd c59 (by first | omega | decide | simp_all)) (fun _ => ?_)
    refine J.aload_n C dX5_run_62 rfl ?_
    refine J.aload_n C dX5_run_63 rfl ?_
    refine J.getR C flX5_run_10 (by first | decide | omega) rfl (by exact rfl) dX5_run_64 ?_
    refine J.iload C dX5_run_67 rfl ?_
    refine J.cVDi (q := (RX3, TX3, 3)) (ci := 3) C (ok_X3_actingKind l V _ _ rfl (by omega) hcB hi2) gX5_run_X3_actingKind rfl mfX3_actingKind rfl (by decide) (by decide) (by first | decide | omega) (by first | exact rfl | exact mk_3 (by assumption)) rfl rfl rfl (Nat.le_of_ble_eq_true rfl) dX5_run_69 (Nat.le_refl _) (Nat.le_refl _) ?_
    refine J.aload_n C dX5_run_72 rfl ?_
    refine J.getR C flX5_run_10 (by first | decide | omega) rfl (by exact rfl) dX5_run_73 ?_
    refine J.iload C dX5_run_76 rfl ?_
    refine J.cVDi (q := (RX3, TX3, 3)) (ci := 3) C (ok_X3_low l V _ _ rfl (by omega) hcB hi2) gX5_run_X3_low rfl mfX3_low rfl (by decide) (by decide) (by first | decide | omega) (by first | exact rfl | exact mk_3 (by assumption)) rfl rfl rfl (Nat.le_of_ble_eq_true rfl) dX5_run_78 (Nat.le_refl _) (Nat.le_refl _) ?_
    refine J.aload_n C dX5_run_81 rfl ?_
    refine J.getR C flX5_run_10 (by first | decide | omega) rfl (by exact rfl) dX5_run_82 ?_
    refine J.iload C dX5_run_85 rfl ?_
    refine J.cVDi (q := (RX3, TX3, 3)) (ci := 3) C (ok_X3_high l V _ _ rfl (by omega) hcB hi2) gX5_run_X3_high rfl mfX3_high rfl (by decide) (by decide) (by first | decide | omega) (by first | exact rfl | exact mk_3 (by assumption)) rfl rfl rfl (Nat.le_of_ble_eq_true rfl) dX5_run_87 (Nat.le_refl _) (Nat.le_refl _) ?_
    refine J.cVDi (q := (RX1, TX1, 3)) (ci := 1) C (ok_X1_mustChange l V (k := 73 + 2 * c) _ _ hkd h0 hk (by omega) (by omega) hva hvb (fun q => ⟨h66 q _ (by omega), h66 q _ (by omega)⟩) ha4) gX5_run_X1_mustChange rfl mfX1_mustChange rfl (by decide) (by decide) (by first | decide | omega) (by first | exact rfl | exact mk_1 (by assumption)) rfl rfl rfl (Nat.le_of_ble_eq_true rfl) dX5_run_90 (Nat.le_refl _) (Nat.le_refl _) ?_
    first | refine J.if_eq_b C dX5_run_93 (tgt := 121) (by decide) (fun c93t => ?_) (fun c93f => ?_) | refine J.if_eq_n C (by omega) dX5_run_93 (tgt := 121) (by decide) (fun c93t => ?_) (fun c93f => ?_) | refine J.if_eq C dX5_run_93 (tgt := 121) (by decide) (fun c93t => ?_) (fun c93f => ?_)
    · have e1 : rnR kk t.2.2 v (i + 1) = rnR kk t.2.2 v i := by show cond (chg (t.2.2 i) (ordI kk ((rnR kk t.2.2 v i).2 (t.2.2 i).2.1) ((rnR kk t.2.2 v i).2 (t.2.2 i).2.2.1)).toInt) _ _ = _; rw [show chg (t.2.2 i) (ordI kk ((rnR kk t.2.2 v i).2 (t.2.2 i).2.1) ((rnR kk t.2.2 v i).2 (t.2.2 i).2.2.1)).toInt = false from c93t]; rfl
      refine J.iinc (ls' := [(0, _), (1, _), (2, _), (3, _), (4, _), (5, _)]) C dX5_run_121 rfl (by first | exact nI_inc _ 1 | exact rfl) (by decide) rfl ?_
      refine J.goto C dX5_run_124 (tgt := 50) (by decide) ?_
      exact ih (i + 1) _ _ (by omega) (by rw [e1]; exact hw) (by rw [e1]; exact hv) hf
    · have e1 : rnR kk t.2.2 v (i + 1) = ((rnR kk t.2.2 v i).1 + 1, va_up (va_up (rnR kk t.2.2 v i).2 (t.2.2 i).2.1 ((rnR kk t.2.2 v i).2 (t.2.2 i).2.2.1)) (t.2.2 i).2.2.1 ((rnR kk t.2.2 v i).2 (t.2.2 i).2.1)) := by show cond (chg (t.2.2 i) (ordI kk ((rnR kk t.2.2 v i).2 (t.2.2 i).2.1) ((rnR kk t.2.2 v i).2 (t.2.2 i).2.2.1)).toInt) _ _ = _; rw [show chg (t.2.2 i) (ordI kk ((rnR kk t.2.2 v i).2 (t.2.2 i).2.1) ((rnR kk t.2.2 v i).2 (t.2.2 i).2.2.1)).toInt = true from c93f]; rfl
      refine J.aload_n C dX5_run_96 rfl ?_
      refine J.aload_n C dX5_run_97 rfl ?_
      refine J.getR C flX5_run_10 (by first | decide | omega) rfl (by exact rfl) dX5_run_98 ?_
      refine J.iload C dX5_run_101 rfl ?_
      refine J.cVDi (q := (RX3, TX3, 3)) (ci := 3) C (ok_X3_low l V _ _ rfl (by omega) hcB hi2) gX5_run_X3_low rfl mfX3_low rfl (by decide) (by decide) (by first | decide | omega) (by first | exact rfl | exact mk_3 (by assumption)) rfl rfl rfl (Nat.le_of_ble_eq_true rfl) dX5_run_103 (Nat.le_refl _) (Nat.le_refl _) ?_
      refine J.aload_n C dX5_run_106 rfl ?_
      refine J.getR C flX5_run_10 (by first | decide | omega) rfl (by exact rfl) dX5_run_107 ?_
      refine J.iload C dX5_run_110 rfl ?_
      refine J.cVDi (q := (RX3, TX3, 3)) (ci := 3) C (ok_X3_high l V _ _ rfl (by omega) hcB hi2) gX5_run_X3_high rfl mfX3_high rfl (by decide) (by decide) (by first | decide | omega) (by first | exact rfl | exact mk_3 (by assumption)) rfl rfl rfl (Nat.le_of_ble_eq_true rfl) dX5_run_112 (Nat.le_refl _) (Nat.le_refl _) ?_
      refine J.cVDv (q := (RX1, TX1, 3)) (ci := 1) C (ok_X1_exchange l V (k := 73 + 2 * c) _ _ hkd (by omega) (by omega) hva hvb) gX5_run_X1_exchange rfl mfX1_exchange rfl (by decide) (by decide) (by first | decide | omega) (by first | exact rfl | exact mk_1 (by assumption)) rfl rfl rfl (Nat.le_of_ble_eq_true rfl) dX5_run_115 (Nat.le_refl _) (Nat.le_refl _) ?_
      refine J.iinc (ls' := [(0, _), (1, _), (2, _), (3, _), (4, _), (5, _)]) C dX5_run_118 rfl (by first | exact nI_inc _ 1 | exact rfl) (by decide) rfl ?_
      refine J.iinc (ls' := [(0, _), (1, _), (2, _), (3, _), (4, _), (5, _)]) C dX5_run_121 rfl (by first | exact nI_inc _ 1 | exact rfl) (by decide) rfl ?_
      refine J.goto C dX5_run_124 (tgt := 50) (by decide) ?_
      refine ih (i + 1) _ _ (by omega) (by rw [e1, hw]) (fun j hj => ?_) (fun q a => by rw [up3_n _ _ _ a, up3_n _ _ _ a]; exact hf q a)
      rw [e1]
      show _ = va_up (va_up _ (t.2.2 i).2.1 _) (t.2.2 i).2.2.1 _ j
      by_cases e : j = (t.2.2 i).2.2.1
      · rw [e, up3_s, va_up_self]
      · rw [up3_m _ _ _ e, va_up_ne _ _ e]
        by_cases e2 : j = (t.2.2 i).2.1
        · rw [e2, up3_s, va_up_self]
        · rw [up3_m _ _ _ e2, va_up_ne _ _ e2]; exact hv j hj
set_option maxHeartbeats 4000000 in
set_option maxRecDepth 100000 in
theorem ok_X5_run (l : Launch) (V : Vx) {g : Sg} {x1 : Int32} {o1 : Option Nat} (I : Nat → Nat → Int32) (L : Nat → Nat → Int64) (hx1 : AG x1 o1) (hz : V.2.2.2.2.2 = false) (h : AbC I L g) (ok : okG g) : PC l V yX5_run wsX5_run 4 [.ref (ad V 0), .int x1] I L (op_run g o1) := by
  by_cases hi : inO o1 6
  · obtain ⟨c, rfl, hc⟩ := id hi
    obtain ⟨-, rfl⟩ := hx1
    have hC := h.2.2.2.1 c hc
    have hok := ok.2.2.2.2.1 c hc
    obtain ⟨hc0, hc1, hc2⟩ := hC
    obtain ⟨ok0, ok1, ok2⟩ := hok
    have hkd := (kd73 hc).1
    by_cases hs : (g.2.2.2.1 c).1 = 0
    · have e : op_run g (some c) = (-2, gF g) := by
        unfold op_run
        rw [tb_1 hi, tb_1 (show (g.2.2.2.1 ((some c).getD 0)).1 = 0 from hs)]
        rfl
      rw [e]
      refine Ok.of (cc := cX5_run) (maxL := 6) (ret := (some .int)) (by decide) rfl (Nat.le_of_ble_eq_true rfl) (fun X hnm C => ?_)
      have C : CX l X V RX5 cX5_run 6 wsX5_run 4 0 0 (some .int) := C
      refine J.cast (ls' := [(0, _), (1, _)]) rfl rfl rfl rfl ?_
      refine J.aload_n C dX5_run_0 rfl ?_
      refine J.iload_n C dX5_run_1 rfl ?_
      refine J.cVDi (q := (RX5, TX5, 11)) (ci := 5) C (ok_X5_findingOfCrate_2 l V _ _ hc hs h ok) gX5_run_X5_findingOfCrate rfl mfX5_findingOfCrate rfl (by decide) (by decide) (by first | decide | omega) rfl rfl rfl rfl (Nat.le_of_ble_eq_true rfl) dX5_run_2 (Nat.le_refl _) (Nat.le_refl _) ?_
      refine J.istore_n (ls' := [(0, _), (1, _), (2, _)]) C dX5_run_5 (by decide) rfl ?_
      refine J.iload_n C dX5_run_6 rfl ?_
      refine J.if_ge_z C dX5_run_7 (tgt := 16) (by decide) (fun c7 => absurd c7 (by first | omega | decide | simp_all)) (fun _ => ?_)
      refine J.aload_n C dX5_run_10 rfl ?_
      refine J.iload_n C dX5_run_11 rfl ?_
      refine J.cVDi (q := (RX5, TX5, 11)) (ci := 5) C (ok_X5_finding l V _ _ _) gX5_run_X5_finding rfl mfX5_finding rfl (by decide) (by decide) (by first | decide | omega) rfl rfl rfl rfl (Nat.le_of_ble_eq_true rfl) dX5_run_12 (Nat.le_refl _) (Nat.le_refl _) ?_
      exact J.iret C dX5_run_15 (qC_s (qC_F h))
    · unfold op_run
      rw [tb_1 hi, tb_0 (show ¬ (g.2.2.2.1 ((some c).getD 0)).1 = 0 from hs)]
      have h0 := h.1.1
      have hl8 := ok.1.2.1
      refine Ok.of (cc := cX5_run) (maxL := 6) (ret := (some .int)) (by decide) rfl (Nat.le_of_ble_eq_true rfl) (fun X hnm C => ?_)
      have C : CX l X V RX5 cX5_run 6 wsX5_run 4 0 0 (some .int) := C
      refine J.cast (ls' := [(0, _), (1, _)]) rfl rfl rfl rfl ?_
      refine J.aload_n C dX5_run_0 rfl ?_
      refine J.iload_n C dX5_run_1 rfl ?_
      refine J.cVDi (q := (RX5, TX5, 11)) (ci := 5) C (ok_X5_findingOfCrate_0 l V _ _ hc hs h ok) gX5_run_X5_findingOfCrate rfl mfX5_findingOfCrate rfl (by decide) (by decide) (by first | decide | omega) rfl rfl rfl rfl (Nat.le_of_ble_eq_true rfl) dX5_run_2 (Nat.le_refl _) (Nat.le_refl _) ?_
      refine J.istore_n (ls' := [(0, _), (1, _), (2, _)]) C dX5_run_5 (by decide) rfl ?_
      refine J.iload_n C dX5_run_6 rfl ?_
      refine J.if_ge_z C dX5_run_7 (tgt := 16) (by decide) (fun _ => ?_) (fun c7 => absurd c7 (by first | omega | decide | simp_all))
      refine J.aload_n C dX5_run_16 rfl ?_
      refine J.getR C flX5_run_29 (by first | decide | omega) rfl (by exact rfl) dX5_run_17 ?_
      refine J.iload_n C dX5_run_20 rfl ?_
      refine J.aa C (by first | exact Or.inl rfl | exact Or.inr rfl) (by first | exact rfl | exact rfl) (by first | (have h_ln := ln_all; have h_l2 := ln_all2; omega) | omega) dX5_run_21 ?_
      rw [show rid 56 c = 73 + 2 * c from rfl]
      refine J.astore_n (ls' := [(0, _), (1, _), (2, _), (3, _)]) C dX5_run_22 (by decide) rfl ?_
      refine J.aload_n C dX5_run_23 rfl ?_
      refine J.getI C flX5_run_159 (by first | decide | omega) (by first | exact rfl | exact mk_1 (by assumption)) (by exact rfl) (by first | ((repeat (first | rewrite [up2_n _ _ _ (by first | decide | omega)] | rewrite [up2_m _ _ _ (by decide)] | rewrite [up3_n _ _ _ (by first | decide | omega)])) <;> (first | exact up2_s _ _ _ _ | exact up3_s _ _ _ _ | assumption | exact rfl))) dX5_run_24 ?_
      refine J.aload_n C dX5_run_27 rfl ?_
      refine J.getR C flX5_run_10 (by first | decide | omega) rfl (by exact rfl) dX5_run_28 ?_
      refine J.getI C flX5_run_160 (by first | decide | omega) (by first | exact rfl | exact mk_3 (by assumption)) (by exact rfl) (by first | ((repeat (first | rewrite [up2_n _ _ _ (by first | decide | omega)] | rewrite [up2_m _ _ _ (by decide)] | rewrite [up3_n _ _ _ (by first | decide | omega)])) <;> (first | exact up2_s _ _ _ _ | exact up3_s _ _ _ _ | assumption | exact rfl))) dX5_run_31 ?_
      first | refine J.icmp_ge_n C (by omega) (by omega) dX5_run_34 (tgt := 44) (by decide) (fun c34t => ?_) (fun c34f => ?_) | refine J.icmp_ge_xn C (by omega) dX5_run_34 (tgt := 44) (by decide) (fun c34t => ?_) (fun c34f => ?_) | refine J.icmp_ge_nx C (by omega) dX5_run_34 (tgt := 44) (by decide) (fun c34t => ?_) (fun c34f => ?_) | refine J.icmp_ge C dX5_run_34 (tgt := 44) (by decide) (fun c34t => ?_) (fun c34f => ?_)
      · rw [tb_1 (show g.1.1 ≤ (g.2.2.2.1 ((some c).getD 0)).2.1 from c34t)]
        refine J.iconst C dX5_run_44 (v := (nI 0)) (by decide) ?_
        refine J.istore (ls' := [(0, _), (1, _), (2, _), (3, _), (4, _)]) C dX5_run_45 (by decide) rfl ?_
        refine J.iconst C dX5_run_47 (v := (nI 0)) (by decide) ?_
        refine J.istore (ls' := [(0, _), (1, _), (2, _), (3, _), (4, _), (5, _)]) C dX5_run_48 (by decide) rfl ?_
        refine lp_X5_run C (v := (g.2.2.2.1 c).2.2) h.1 ok.1 hc ok0 hc0 ok2 (fun L0 hv hf => ?_) g.1.2.1 0 0 L (by omega) rfl (fun i q => by rw [show 73 + 2 * c + 1 = 74 + 2 * c by omega]; exact hc2 i q) (fun _ _ => rfl)
        exact qC_s ⟨rfl, AbC_crate (c := c) (x := ((g.2.2.2.1 c).1, (g.2.2.2.1 c).2.1, (rnR (g.2.2.2.1 c).1 g.1.2.2 (g.2.2.2.1 c).2.2 g.1.2.1).2)) h (fun _ _ _ => rfl) (fun q a b => hf q (by omega)) hc0 hc1 (fun j hj => by rw [show 74 + 2 * c = 73 + 2 * c + 1 by omega]; exact hv j hj), frC_rfl, fun q a => hf q (by omega)⟩
      · rw [tb_0 (show ¬ g.1.1 ≤ (g.2.2.2.1 ((some c).getD 0)).2.1 from fun q => absurd q (by show ¬ g.1.1 ≤ (g.2.2.2.1 c).2.1; omega))]
        refine J.aload_n C dX5_run_37 rfl ?_
        refine J.bipush C dX5_run_38 (v := (-3)) (by decide) ?_
        refine J.cVDi (q := (RX5, TX5, 11)) (ci := 5) C (ok_X5_finding l V _ _ _) gX5_run_X5_finding rfl mfX5_finding rfl (by decide) (by decide) (by first | decide | omega) rfl rfl rfl rfl (Nat.le_of_ble_eq_true rfl) dX5_run_40 (Nat.le_refl _) (Nat.le_refl _) ?_
        exact J.iret C dX5_run_43 (qC_s (qC_F h))
  · have e : op_run g o1 = (-1, gF g) := by
      unfold op_run
      rw [tb_0 hi]
      rfl
    rw [e]
    refine Ok.of (cc := cX5_run) (maxL := 6) (ret := (some .int)) (by decide) rfl (Nat.le_of_ble_eq_true rfl) (fun X hnm C => ?_)
    have C : CX l X V RX5 cX5_run 6 wsX5_run 4 0 0 (some .int) := C
    refine J.cast (ls' := [(0, _), (1, _)]) rfl rfl rfl rfl ?_
    refine J.aload_n C dX5_run_0 rfl ?_
    refine J.iload_n C dX5_run_1 rfl ?_
    refine J.cVDi (q := (RX5, TX5, 11)) (ci := 5) C (ok_X5_findingOfCrate_1 l V _ _ hx1 hi) gX5_run_X5_findingOfCrate rfl mfX5_findingOfCrate rfl (by decide) (by decide) (by first | decide | omega) rfl rfl rfl rfl (Nat.le_of_ble_eq_true rfl) dX5_run_2 (Nat.le_refl _) (Nat.le_refl _) ?_
    refine J.istore_n (ls' := [(0, _), (1, _), (2, _)]) C dX5_run_5 (by decide) rfl ?_
    refine J.iload_n C dX5_run_6 rfl ?_
    refine J.if_ge_z C dX5_run_7 (tgt := 16) (by decide) (fun c7 => absurd c7 (by first | omega | decide | simp_all)) (fun _ => ?_)
    refine J.aload_n C dX5_run_10 rfl ?_
    refine J.iload_n C dX5_run_11 rfl ?_
    refine J.cVDi (q := (RX5, TX5, 11)) (ci := 5) C (ok_X5_finding l V _ _ _) gX5_run_X5_finding rfl mfX5_finding rfl (by decide) (by decide) (by first | decide | omega) rfl rfl rfl rfl (Nat.le_of_ble_eq_true rfl) dX5_run_12 (Nat.le_refl _) (Nat.le_refl _) ?_
    exact J.iret C dX5_run_15 (qC_s (qC_F h))
set_option maxHeartbeats 4000000 in
set_option maxRecDepth 100000 in
theorem ok_X5_copy (l : Launch) (V : Vx) {g : Sg} {x1 : Int32} {o1 : Option Nat}{x2 : Int32} {o2 : Option Nat}{x3 : Int32} {o3 : Option Nat}{x4 : Int32} {o4 : Option Nat}{x5 : Int32} {o5 : Option Nat} (I : Nat → Nat → Int32) (L : Nat → Nat → Int64) (hx1 : AG x1 o1) (hx2 : AG x2 o2) (hx3 : AG x3 o3) (hx4 : AG x4 o4) (hx5 : AG x5 o5) (hz : V.2.2.2.2.2 = false) (h : AbC I L g) (ok : okG g) : PC l V yX5_copy wsX5_copy 2 [.ref (ad V 0), .int x1, .int x2, .int x3, .int x4, .int x5] I L (op_copy g o1 o2 o3 o4 o5) := by
  refine Ok.of (cc := cX5_copy) (maxL := 8) (ret := (some .int)) (by decide) rfl (Nat.le_of_ble_eq_true rfl) (fun X hnm C => ?_)
  have C : CX l X V RX5 cX5_copy 8 wsX5_copy 2 0 0 (some .int) := C
  refine J.cast (ls' := [(0, _), (1, _), (2, _), (3, _), (4, _), (5, _)]) rfl rfl rfl rfl ?_
  refine J.iload_n C dX5_copy_0 rfl ?_
  refine J.cSDi C (ok_X5_isCrate l V _ _ hx1) gX5_copy_X5_isCrate rfl mfX5_isCrate (by decide) (by decide) rfl rfl (Nat.le_of_ble_eq_true rfl) dX5_copy_1 (Nat.le_refl _) (Nat.le_refl _) ?_
  first | refine J.if_eq_b C dX5_copy_4 (tgt := 14) (by decide) (fun c4t => ?_) (fun c4f => ?_) | refine J.if_eq_n C (by omega) dX5_copy_4 (tgt := 14) (by decide) (fun c4t => ?_) (fun c4f => ?_) | refine J.if_eq C dX5_copy_4 (tgt := 14) (by decide) (fun c4t => ?_) (fun c4f => ?_)
  · refine J.aload_n C dX5_copy_14 rfl ?_
    refine J.iconst C dX5_copy_15 (v := (-1)) (by decide) ?_
    refine J.cVDi (q := (RX5, TX5, 11)) (ci := 5) C (ok_X5_finding l V _ _ _) gX5_copy_X5_finding rfl mfX5_finding rfl (by decide) (by decide) (by first | decide | omega) rfl rfl rfl rfl (Nat.le_of_ble_eq_true rfl) dX5_copy_16 (Nat.le_refl _) (Nat.le_refl _) ?_
    exact J.iret C dX5_copy_19 (qC_s (by unfold op_copy; rw [tb_0 (fun q => by first | exact tb_f.mp c4t q.1 | exact tb_f.mp c11f q.2)]; exact qC_F h))
  · refine J.iload_n C dX5_copy_7 rfl ?_
    refine J.cSDi C (ok_X5_isCrate l V _ _ hx3) gX5_copy_X5_isCrate rfl mfX5_isCrate (by decide) (by decide) rfl rfl (Nat.le_of_ble_eq_true rfl) dX5_copy_8 (Nat.le_refl _) (Nat.le_refl _) ?_
    first | refine J.if_ne_b C dX5_copy_11 (tgt := 20) (by decide) (fun c11t => ?_) (fun c11f => ?_) | refine J.if_ne_n C (by omega) dX5_copy_11 (tgt := 20) (by decide) (fun c11t => ?_) (fun c11f => ?_) | refine J.if_ne C dX5_copy_11 (tgt := 20) (by decide) (fun c11t => ?_) (fun c11f => ?_)
    · obtain ⟨c, rfl, hc⟩ := tb_t.mp c4f
      obtain ⟨e, rfl, he⟩ := tb_t.mp c11t
      obtain ⟨-, rfl⟩ := hx1
      obtain ⟨-, rfl⟩ := hx3
      unfold op_copy
      rw [tb_1 (show inO (some c) 6 ∧ inO (some e) 6 from ⟨inO_s.mpr hc, inO_s.mpr he⟩)]
      have hC := h.2.2.2.1 c hc
      have hok := ok.2.2.2.2.1 c hc
      obtain ⟨hc0, hc1, hc2⟩ := hC
      obtain ⟨ok0, ok1, ok2⟩ := hok
      have hkd := (kd73 hc).1
      have hokE := ok.2.2.2.2.1 e he
      obtain ⟨he0, he1, he2⟩ := h.2.2.2.1 e he
      obtain ⟨oke0, oke1, oke2⟩ := hokE
      have hkde := (kd73 he).1
      refine J.aload_n C dX5_copy_20 rfl ?_
      refine J.getR C flX5_copy_29 (by first | decide | omega) rfl (by exact rfl) dX5_copy_21 ?_
      refine J.iload_n C dX5_copy_24 rfl ?_
      refine J.aa C (by first | exact Or.inl rfl | exact Or.inr rfl) (by first | exact rfl | exact rfl) (by first | (have h_ln := ln_all; have h_l2 := ln_all2; omega) | omega) dX5_copy_25 ?_
      rw [show rid 56 c = 73 + 2 * c from rfl]
      refine J.astore (ls' := [(0, _), (1, _), (2, _), (3, _), (4, _), (5, _), (6, _)]) C dX5_copy_26 (by decide) rfl ?_
      refine J.aload_n C dX5_copy_28 rfl ?_
      refine J.getR C flX5_copy_29 (by first | decide | omega) rfl (by exact rfl) dX5_copy_29 ?_
      refine J.iload_n C dX5_copy_32 rfl ?_
      refine J.aa C (by first | exact Or.inl rfl | exact Or.inr rfl) (by first | exact rfl | exact rfl) (by first | (have h_ln := ln_all; have h_l2 := ln_all2; omega) | omega) dX5_copy_33 ?_
      rw [show rid 56 e = 73 + 2 * e from rfl]
      refine J.astore (ls' := [(0, _), (1, _), (2, _), (3, _), (4, _), (5, _), (6, _), (7, _)]) C dX5_copy_34 (by decide) rfl ?_
      refine J.aload C dX5_copy_36 rfl ?_
      refine J.cVDi (q := (RX1, TX1, 3)) (ci := 1) C (ok_X1_isMissing l V (k := 73 + 2 * c) _ _ hkd hc0 ok0) gX5_copy_X1_isMissing rfl mfX1_isMissing rfl (by decide) (by decide) (by first | decide | omega) (by first | exact rfl | exact mk_1 (by assumption)) rfl rfl rfl (Nat.le_of_ble_eq_true rfl) dX5_copy_38 (Nat.le_refl _) (Nat.le_refl _) ?_
      first | refine J.if_ne_b C dX5_copy_41 (tgt := 52) (by decide) (fun c41t => ?_) (fun c41f => ?_) | refine J.if_ne_n C (by omega) dX5_copy_41 (tgt := 52) (by decide) (fun c41t => ?_) (fun c41f => ?_) | refine J.if_ne C dX5_copy_41 (tgt := 52) (by decide) (fun c41t => ?_) (fun c41f => ?_)
      · rw [tb_1 (show (g.2.2.2.1 ((some c).getD 0)).1 = 0 ∨ (g.2.2.2.1 ((some e).getD 0)).1 = 0 from Or.inl (tb_t.mp c41t))]
        refine J.aload_n C dX5_copy_52 rfl ?_
        refine J.bipush C dX5_copy_53 (v := (-2)) (by decide) ?_
        refine J.cVDi (q := (RX5, TX5, 11)) (ci := 5) C (ok_X5_finding l V _ _ _) gX5_copy_X5_finding rfl mfX5_finding rfl (by decide) (by decide) (by first | decide | omega) rfl rfl rfl rfl (Nat.le_of_ble_eq_true rfl) dX5_copy_55 (Nat.le_refl _) (Nat.le_refl _) ?_
        exact J.iret C dX5_copy_58 (qC_s (qC_F h))
      · refine J.aload C dX5_copy_44 rfl ?_
        refine J.cVDi (q := (RX1, TX1, 3)) (ci := 1) C (ok_X1_isMissing l V (k := 73 + 2 * e) _ _ hkde he0 oke0) gX5_copy_X1_isMissing rfl mfX1_isMissing rfl (by decide) (by decide) (by first | decide | omega) (by first | exact rfl | exact mk_1 (by assumption)) rfl rfl rfl (Nat.le_of_ble_eq_true rfl) dX5_copy_46 (Nat.le_refl _) (Nat.le_refl _) ?_
        first | refine J.if_eq_b C dX5_copy_49 (tgt := 59) (by decide) (fun c49t => ?_) (fun c49f => ?_) | refine J.if_eq_n C (by omega) dX5_copy_49 (tgt := 59) (by decide) (fun c49t => ?_) (fun c49f => ?_) | refine J.if_eq C dX5_copy_49 (tgt := 59) (by decide) (fun c49t => ?_) (fun c49f => ?_)
        · rw [tb_0 (show ¬ ((g.2.2.2.1 ((some c).getD 0)).1 = 0 ∨ (g.2.2.2.1 ((some e).getD 0)).1 = 0) from fun q => by rcases q with q | q; exact tb_f.mp c41f q; exact tb_f.mp c49t q)]
          refine J.aload C dX5_copy_59 rfl ?_
          refine J.getI C flX5_copy_145 (by first | decide | omega) (by first | exact rfl | exact mk_1 (by assumption)) (by exact rfl) (by first | ((repeat (first | rewrite [up2_n _ _ _ (by first | decide | omega)] | rewrite [up2_m _ _ _ (by decide)] | rewrite [up3_n _ _ _ (by first | decide | omega)])) <;> (first | exact up2_s _ _ _ _ | exact up3_s _ _ _ _ | assumption | exact rfl))) dX5_copy_61 ?_
          refine J.aload C dX5_copy_64 rfl ?_
          refine J.getI C flX5_copy_145 (by first | decide | omega) (by first | exact rfl | exact mk_1 (by assumption)) (by exact rfl) (by first | ((repeat (first | rewrite [up2_n _ _ _ (by first | decide | omega)] | rewrite [up2_m _ _ _ (by decide)] | rewrite [up3_n _ _ _ (by first | decide | omega)])) <;> (first | exact up2_s _ _ _ _ | exact up3_s _ _ _ _ | assumption | exact rfl))) dX5_copy_66 ?_
          first | refine J.icmp_eq_n C (by omega) (by omega) dX5_copy_69 (tgt := 79) (by decide) (fun c69t => ?_) (fun c69f => ?_) | refine J.icmp_eq_xn C (by omega) dX5_copy_69 (tgt := 79) (by decide) (fun c69t => ?_) (fun c69f => ?_) | refine J.icmp_eq_nx C (by omega) dX5_copy_69 (tgt := 79) (by decide) (fun c69t => ?_) (fun c69f => ?_) | refine J.icmp_eq C dX5_copy_69 (tgt := 79) (by decide) (fun c69t => ?_) (fun c69f => ?_)
          · rw [tb_1 (show (g.2.2.2.1 ((some c).getD 0)).1 = (g.2.2.2.1 ((some e).getD 0)).1 from c69t)]
            refine J.aload C dX5_copy_79 rfl ?_
            refine J.iload_n C dX5_copy_81 rfl ?_
            refine J.iload C dX5_copy_82 rfl ?_
            refine J.cVDi (q := (RX1, TX1, 3)) (ci := 1) C (ok_X1_hasPart l V (k := 73 + 2 * c) _ _ hkd hx2 hx5 hc1 ok1) gX5_copy_X1_hasPart rfl mfX1_hasPart rfl (by decide) (by decide) (by first | decide | omega) (by first | exact rfl | exact mk_1 (by assumption)) rfl rfl rfl (Nat.le_of_ble_eq_true rfl) dX5_copy_84 (Nat.le_refl _) (Nat.le_refl _) ?_
            first | refine J.if_eq_b C dX5_copy_87 (tgt := 102) (by decide) (fun c87t => ?_) (fun c87f => ?_) | refine J.if_eq_n C (by omega) dX5_copy_87 (tgt := 102) (by decide) (fun c87t => ?_) (fun c87f => ?_) | refine J.if_eq C dX5_copy_87 (tgt := 102) (by decide) (fun c87t => ?_) (fun c87f => ?_)
            · refine J.aload_n C dX5_copy_102 rfl ?_
              refine J.iconst C dX5_copy_103 (v := (-1)) (by decide) ?_
              refine J.cVDi (q := (RX5, TX5, 11)) (ci := 5) C (ok_X5_finding l V _ _ _) gX5_copy_X5_finding rfl mfX5_finding rfl (by decide) (by decide) (by first | decide | omega) rfl rfl rfl rfl (Nat.le_of_ble_eq_true rfl) dX5_copy_104 (Nat.le_refl _) (Nat.le_refl _) ?_
              exact J.iret C dX5_copy_107 (qC_s (by rw [tb_0 (fun q => by obtain ⟨q1, q2, q3, q4, q5⟩ := q; first | exact tb_f.mp c87t ⟨q1, q3, q4⟩ | exact tb_f.mp c99f ⟨q2, q3, q5⟩)]; exact qC_F h))
            · refine J.aload C dX5_copy_90 rfl ?_
              refine J.iload C dX5_copy_92 rfl ?_
              refine J.iload C dX5_copy_94 rfl ?_
              refine J.cVDi (q := (RX1, TX1, 3)) (ci := 1) C (ok_X1_hasPart l V (k := 73 + 2 * e) _ _ hkde hx4 hx5 he1 oke1) gX5_copy_X1_hasPart rfl mfX1_hasPart rfl (by decide) (by decide) (by first | decide | omega) (by first | exact rfl | exact mk_1 (by assumption)) rfl rfl rfl (Nat.le_of_ble_eq_true rfl) dX5_copy_96 (Nat.le_refl _) (Nat.le_refl _) ?_
              first | refine J.if_ne_b C dX5_copy_99 (tgt := 108) (by decide) (fun c99t => ?_) (fun c99f => ?_) | refine J.if_ne_n C (by omega) dX5_copy_99 (tgt := 108) (by decide) (fun c99t => ?_) (fun c99f => ?_) | refine J.if_ne C dX5_copy_99 (tgt := 108) (by decide) (fun c99t => ?_) (fun c99f => ?_)
              · obtain ⟨⟨a, rfl⟩, ⟨n, rfl⟩, ha⟩ := tb_t.mp c87f
                obtain ⟨⟨b, rfl⟩, -, hb⟩ := tb_t.mp c99t
                obtain ⟨-, rfl⟩ := hx2
                obtain ⟨-, rfl⟩ := hx4
                obtain ⟨-, rfl⟩ := hx5
                have ha : a + n ≤ (g.2.2.2.1 c).2.1 := ha
                have hb : b + n ≤ (g.2.2.2.1 e).2.1 := hb
                rw [tb_1 (show (∃ z, some a = some z) ∧ (∃ z, some b = some z) ∧ (∃ z, some n = some z) ∧ (some a).getD 0 + (some n).getD 0 ≤ (g.2.2.2.1 ((some c).getD 0)).2.1 ∧ (some b).getD 0 + (some n).getD 0 ≤ (g.2.2.2.1 ((some e).getD 0)).2.1 from ⟨⟨a, rfl⟩, ⟨b, rfl⟩, ⟨n, rfl⟩, ha, hb⟩)]
                have l1 := (kd1 hkd).2
                have l2 := (kd1 hkde).2
                refine J.aload C dX5_copy_108 rfl ?_
                refine J.getR C flX5_copy_137 (by first | decide | omega) (by first | exact rfl | exact mk_1 (by assumption)) (by exact rfl) dX5_copy_110 ?_
                refine J.iload_n C dX5_copy_113 rfl ?_
                refine J.aload C dX5_copy_114 rfl ?_
                refine J.getR C flX5_copy_137 (by first | decide | omega) (by first | exact rfl | exact mk_1 (by assumption)) (by exact rfl) dX5_copy_116 ?_
                refine J.iload C dX5_copy_119 rfl ?_
                refine J.iload C dX5_copy_121 rfl ?_
                refine J.acpL C hz (k0 := 73 + 2 * c + 1) (k1 := 73 + 2 * e + 1) (a := a) (b := b) (c := n) (by decide +kernel) (by decide +kernel) (by decide +kernel) (by decide +kernel) (kd1 hkd).1 (kd1 hkde).1 rfl rfl rfl (by omega) (by omega) (by decide) (Nat.le_of_ble_eq_true rfl) dX5_copy_123 ?_
                refine J.iload C dX5_copy_126 rfl ?_
                exact J.iret C dX5_copy_128 (qC_s ⟨rfl, AbC_crate (c := e) (x := ((g.2.2.2.1 e).1, (g.2.2.2.1 e).2.1, fun j => if b ≤ j ∧ j < b + n then (g.2.2.2.1 c).2.2 (a + (j - b)) else (g.2.2.2.1 e).2.2 j)) h (fun _ _ _ => rfl) (fun q a b => va_up_ne _ _ (by omega)) he0 he1 (fun j hj => by
                          rw [show 74 + 2 * e = 73 + 2 * e + 1 by omega, va_up_self]
                          show _ = if b ≤ j ∧ j < b + n then (g.2.2.2.1 c).2.2 (a + (j - b)) else (g.2.2.2.1 e).2.2 j
                          by_cases q : b ≤ j ∧ j < b + n
                          · rw [if_pos q, pk_cpy_in q.1 q.2, show 73 + 2 * c + 1 = 74 + 2 * c by omega]; exact hc2 _ (by omega)
                          · rw [if_neg q, pk_cpy_out (by omega), show 73 + 2 * e + 1 = 74 + 2 * e by omega]; exact he2 j hj), frC_rfl, fun q a => va_up_ne _ _ (by omega)⟩)
              · refine J.aload_n C dX5_copy_102 rfl ?_
                refine J.iconst C dX5_copy_103 (v := (-1)) (by decide) ?_
                refine J.cVDi (q := (RX5, TX5, 11)) (ci := 5) C (ok_X5_finding l V _ _ _) gX5_copy_X5_finding rfl mfX5_finding rfl (by decide) (by decide) (by first | decide | omega) rfl rfl rfl rfl (Nat.le_of_ble_eq_true rfl) dX5_copy_104 (Nat.le_refl _) (Nat.le_refl _) ?_
                exact J.iret C dX5_copy_107 (qC_s (by rw [tb_0 (fun q => by obtain ⟨q1, q2, q3, q4, q5⟩ := q; first | exact tb_f.mp c87t ⟨q1, q3, q4⟩ | exact tb_f.mp c99f ⟨q2, q3, q5⟩)]; exact qC_F h))
          · rw [tb_0 (show ¬ (g.2.2.2.1 ((some c).getD 0)).1 = (g.2.2.2.1 ((some e).getD 0)).1 from c69f)]
            refine J.aload_n C dX5_copy_72 rfl ?_
            refine J.bipush C dX5_copy_73 (v := (-4)) (by decide) ?_
            refine J.cVDi (q := (RX5, TX5, 11)) (ci := 5) C (ok_X5_finding l V _ _ _) gX5_copy_X5_finding rfl mfX5_finding rfl (by decide) (by decide) (by first | decide | omega) rfl rfl rfl rfl (Nat.le_of_ble_eq_true rfl) dX5_copy_75 (Nat.le_refl _) (Nat.le_refl _) ?_
            exact J.iret C dX5_copy_78 (qC_s (qC_F h))
        · rw [tb_1 (show (g.2.2.2.1 ((some c).getD 0)).1 = 0 ∨ (g.2.2.2.1 ((some e).getD 0)).1 = 0 from Or.inr (tb_t.mp c49f))]
          refine J.aload_n C dX5_copy_52 rfl ?_
          refine J.bipush C dX5_copy_53 (v := (-2)) (by decide) ?_
          refine J.cVDi (q := (RX5, TX5, 11)) (ci := 5) C (ok_X5_finding l V _ _ _) gX5_copy_X5_finding rfl mfX5_finding rfl (by decide) (by decide) (by first | decide | omega) rfl rfl rfl rfl (Nat.le_of_ble_eq_true rfl) dX5_copy_55 (Nat.le_refl _) (Nat.le_refl _) ?_
          exact J.iret C dX5_copy_58 (qC_s (qC_F h))
    · refine J.aload_n C dX5_copy_14 rfl ?_
      refine J.iconst C dX5_copy_15 (v := (-1)) (by decide) ?_
      refine J.cVDi (q := (RX5, TX5, 11)) (ci := 5) C (ok_X5_finding l V _ _ _) gX5_copy_X5_finding rfl mfX5_finding rfl (by decide) (by decide) (by first | decide | omega) rfl rfl rfl rfl (Nat.le_of_ble_eq_true rfl) dX5_copy_16 (Nat.le_refl _) (Nat.le_refl _) ?_
      exact J.iret C dX5_copy_19 (qC_s (by unfold op_copy; rw [tb_0 (fun q => by first | exact tb_f.mp c4t q.1 | exact tb_f.mp c11f q.2)]; exact qC_F h))
