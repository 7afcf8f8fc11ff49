/-! THE CLASS: busy comparers -/
def Chg (t : Nt) (i r : Nat) : Prop := chg (t.2.2 i) (hw (gk t.2.2 (-1) r i) (t.2.2 i).2.1 (t.2.2 i).2.2.1) = true
def Bs (t : Nt) (i N : Nat) : Prop := ∃ r, r < N ∧ r < 2 ^ t.1 ∧ Chg t i r
theorem Bs_s {t : Nt} {i b : Nat} : Bs t i (64 * (b + 1)) ↔ Bs t i (64 * b) ∨ ∃ r, r < 64 ∧ 64 * b + r < 2 ^ t.1 ∧ Chg t i (64 * b + r) := by
  constructor
  · rintro ⟨r, h1, h2, h3⟩
    by_cases z : r < 64 * b
    · exact Or.inl ⟨r, z, h2, h3⟩
    · exact Or.inr ⟨r - 64 * b, by omega, by rw [show 64 * b + (r - 64 * b) = r by omega]; exact ⟨h2, h3⟩⟩
  · rintro (⟨r, h1, h2, h3⟩ | ⟨r, h1, h2, h3⟩)
    · exact ⟨r, by omega, h2, h3⟩
    · exact ⟨64 * b + r, by omega, h2, h3⟩
theorem Bs_I {t : Nt} {i N : Nat} (h : 2 ^ t.1 ≤ N) : Bs t i N ↔ ¬ Idl t i := by
  unfold Idl
  constructor
  · rintro ⟨r, h1, h2, h3⟩ q
    rw [show Chg t i r = (chg (t.2.2 i) (hw (gk t.2.2 (-1) r i) (t.2.2 i).2.1 (t.2.2 i).2.2.1) = true) from rfl, q r h2] at h3
    cases h3
  · intro q
    refine Classical.byContradiction (fun z => q (fun r hr => ?_))
    cases e : chg (t.2.2 i) (hw (gk t.2.2 (-1) r i) (t.2.2 i).2.1 (t.2.2 i).2.2.1) with
    | false => rfl
    | true => exact absurd ⟨r, by omega, hr, e⟩ z
theorem chV_c {q r : Nat} {x y z : Int64} {p a b : Bool} (hr : r < 64) (hx : bt x r = (p && a)) (hy : bt y r = (p && b)) (hz : bt z r = p) : bt (chV q x y z) r = (p && chgK q ((a.toNat : Int) - (b.toNat : Int))) := by
  unfold chV chgK
  by_cases q0 : q = 0
  · rw [if_pos q0, if_pos q0, bt_and, bt_not hr, hx, hy]
    cases p <;> cases a <;> cases b <;> rfl
  · rw [if_neg q0, if_neg q0]
    by_cases q1 : q = 1
    · rw [if_pos q1, if_pos q1, bt_and, bt_not hr, hx, hy]
      cases p <;> cases a <;> cases b <;> rfl
    · rw [if_neg q1, if_neg q1]
      by_cases q3 : q = 3
      · rw [if_pos q3, hz, decide_eq_true q3, Bool.and_true]
      · rw [if_neg q3, bt_0, decide_eq_false q3, Bool.and_false]
theorem sh1 {i j : Nat} (hi : i < 64) (hj : j < 64) : bt (1 <<< ((nI i).toInt64 &&& 63)) j = decide (i = j) := by
  have key : ∀ i, i < 64 → ∀ j, j < 64 → bt (1 <<< ((nI i).toInt64 &&& 63)) j = decide (i = j) := by decide +kernel
  exact key i hi j hj
theorem gk_m1 {f : Nat → Cmp} {v i : Nat} : gk f (-1) v (i + 1) = stp (f i) (gk f (-1) v i) := if_neg (by omega)
set_option maxHeartbeats 4000000 in
set_option maxRecDepth 100000 in
theorem ok_X5_isIn (l : Launch) (V : Vx) {x : Int64} {r : Nat} (I : Nat → Nat → Int32) (L : Nat → Nat → Int64) (hr : r < 64) : Di l V yX5_isIn wsX5_isIn 1 [.long x, .int (nI r)] I L (bI (bt x r)) I L := by
  have e1 : (x.toUInt64 >>> ((nI r).toInt64.toUInt64 &&& Int64.toUInt64 63)).toInt64 &&& 1 = bL (bt x r) := us_1 hr
  refine Ok.of (cc := cX5_isIn) (maxL := 3) (ret := (some .boolean)) (by decide) rfl (Nat.le_of_ble_eq_true rfl) (fun X hnm C => ?_)
  have C : CX l X V RX5 cX5_isIn 3 wsX5_isIn 1 0 0 (some .boolean) := C
  refine J.cast (ls' := [(0, _), (2, _)]) rfl rfl rfl rfl ?_
  refine J.lload_n C dX5_isIn_0 rfl ?_
  refine J.iload_n C dX5_isIn_1 rfl ?_
  refine J.lushr C dX5_isIn_2 ?_
  refine J.lconst C dX5_isIn_3 (v := 1) (by decide) ?_
  refine J.land C dX5_isIn_4 ?_
  rw [e1]
  refine J.lconst C dX5_isIn_5 (v := 0) (by decide) ?_
  refine J.lcmp C dX5_isIn_6 ?_
  refine J.if_eq_c C dX5_isIn_7 (tgt := 14) (by decide) (fun c7t => ?_) (fun c7f => ?_)
  · refine J.iconst C dX5_isIn_14 (v := (nI 0)) (by decide) ?_
    exact J.zret C dX5_isIn_15 (by first | exact bI_nar _ | rfl | decide | assumption) ⟨rb_f (by cases w : bt x r; rfl; rw [w] at c7t; exact absurd c7t (by decide)), rfl⟩
  · refine J.iconst C dX5_isIn_10 (v := (nI 1)) (by decide) ?_
    refine J.goto C dX5_isIn_11 (tgt := 15) (by decide) ?_
    exact J.zret C dX5_isIn_15 (by first | exact bI_nar _ | rfl | decide | assumption) ⟨rb_t (by cases w : bt x r; (rw [w] at c7f; exact absurd rfl c7f); rfl), rfl⟩
set_option maxHeartbeats 4000000 in
set_option maxRecDepth 100000 in
theorem lp_X5_busyComparers_i {l : Launch} {X : Cx} {V : Vx} {P : Option Value → (Nat → va_E) → Prop} {I : Nat → Nat → Int32} {L : Nat → Nat → Int64} (C : CX l X V RX5 cX5_busyComparers 6 wsX5_busyComparers 3 0 0 (some .long)) {t : Nt} {b : Nat} (ok : okN t) (hN : netC I 1 t) (hb : b < 2 ^ (t.1 - 6)) (hx : ∀ (x : Int64) (L0 : Nat → Nat → Int64), (∀ q, q ≠ 57 → q ≠ 58 → L0 q = L q) → (∀ j, j < t.2.1 → (bt x j = true ↔ Bs t j (64 * (b + 1)))) → E X V P 6 131 [(0, .ref (ad V 0)), (1, .long x), (3, .int (nI b)), (4, .int (nI t.2.1))] [] I L0) : ∀ (z i : Nat) (x : Int64) (L0 : Nat → Nat → Int64), i + z = t.2.1 → (∀ q, q ≠ 57 → q ≠ 58 → L0 q = L q) → L0 57 1 = alV t.1 → RwI t.1 b (L0 58) (fun r => gk t.2.2 (-1) r i) → (∀ j, j < t.2.1 → (bt x j = true ↔ Bs t j (if j < i then 64 * (b + 1) else 64 * b))) → E X V P 6 36 [(0, .ref (ad V 0)), (1, .long x), (3, .int (nI b)), (4, .int (nI i))] [] I L0 := by
  have h8 := ok.2.1
  have h40 := ok.2.2.1
  have hm := hN.2.1
  intro z
  induction z with
  | zero =>
    intro i x L0 hi hf hA hR hB
    obtain rfl : i = t.2.1 := by omega
    refine J.iload C dX5_busyComparers_36 rfl ?_
    refine J.aload_n C dX5_busyComparers_38 rfl ?_
    refine J.getR C flX5_busyComparers_10 (by first | decide | omega) rfl (by exact rfl) dX5_busyComparers_39 ?_
    refine J.getI C flX5_busyComparers_77 (by first | decide | omega) (by first | exact rfl | exact mk_3 (by assumption)) (by exact rfl) (by first | ((repeat (first | rewrite [up2_n _ _ _ (by first | decide | omega)] | rewrite [up2_m _ _ _ (by decide)] | rewrite [up3_n _ _ _ (by first | decide | omega)])) <;> (first | exact up2_s _ _ _ _ | exact up3_s _ _ _ _ | assumption | exact rfl))) dX5_busyComparers_42 ?_
    first | refine J.icmp_ge_n C (by omega) (by omega) dX5_busyComparers_45 (tgt := 131) (by decide) (fun _ => ?_) (fun c45 => absurd c45 (by first | omega | decide | simp_all)) | refine J.icmp_ge_xn C (by omega) dX5_busyComparers_45 (tgt := 131) (by decide) (fun _ => ?_) (fun c45 => absurd c45 (by first | omega | decide | simp_all)) | refine J.icmp_ge_nx C (by omega) dX5_busyComparers_45 (tgt := 131) (by decide) (fun _ => ?_) (fun c45 => absurd c45 (by first | omega | decide | simp_all)) | refine J.icmp_ge C dX5_busyComparers_45 (tgt := 131) (by decide) (fun _ => ?_) (fun c45 => absurd c45 (by first | omega | decide | simp_all))
    exact hx x L0 hf (fun j q => by have w := hB j q; rw [if_pos q] at w; exact w)
  | succ z ih =>
    intro i x L0 hi hf hA hR hB
    have hcc := ok.2.2.2 i (by omega)
    have hcB := okC_B hcc h8
    have ha4 := actK_lt hcB
    have hi2 := hN.2.2 i (by omega)
    have hab : (t.2.2 i).2.1 ≠ (t.2.2 i).2.2.1 := by have := hcc.2.1; omega
    obtain ⟨hb1, hb2, hb3⟩ := id hcB
    have hAA : RwA t.1 (L0 57 1) := by rw [hA]; exact alV_b h8
    have hch : ∀ r, r < 64 → (bt (chV (actK (t.2.2 i)) (L0 58 (t.2.2 i).2.1) (L0 58 (t.2.2 i).2.2.1) (L0 57 1)) r = true ↔ 64 * b + r < 2 ^ t.1 ∧ Chg t i (64 * b + r)) := fun r hr => by
      rw [chV_c hr (hR _ (by have := hcc.2.1; have := hcc.2.2.1; omega) r hr) (hR _ hcc.2.2.1 r hr) (hAA r hr), Bool.and_eq_true, decide_eq_true_eq, (rb64 h8 hb hr).1]
      exact Iff.rfl
    have w := RwI_step (C' := up3 (up3 L0 58 (t.2.2 i).2.1 (L0 58 (t.2.2 i).2.1 ^^^ (chV (actK (t.2.2 i)) (L0 58 (t.2.2 i).2.1) (L0 58 (t.2.2 i).2.2.1) (L0 57 1) &&& (L0 58 (t.2.2 i).2.1 ^^^ L0 58 (t.2.2 i).2.2.1)))) 58 (t.2.2 i).2.2.1 (L0 58 (t.2.2 i).2.2.1 ^^^ (chV (actK (t.2.2 i)) (L0 58 (t.2.2 i).2.1) (L0 58 (t.2.2 i).2.2.1) (L0 57 1) &&& (L0 58 (t.2.2 i).2.1 ^^^ L0 58 (t.2.2 i).2.2.1))) 58) hR hAA hcc (by rw [up3_m _ _ _ hab, up3_s]) (up3_s _ _ _ _) (fun a e1 e2 => by rw [up3_m _ _ _ e2, up3_m _ _ _ e1])
    have fin : ∀ x' : Int64, (∀ j, j < t.2.1 → j ≠ i → bt x' j = bt x j) → (bt x' i = true ↔ bt x i = true ∨ ¬ chV (actK (t.2.2 i)) (L0 58 (t.2.2 i).2.1) (L0 58 (t.2.2 i).2.2.1) (L0 57 1) = 0) → E X V P 6 36 [(0, .ref (ad V 0)), (1, .long x'), (3, .int (nI b)), (4, .int (nI (i + 1)))] [] I (up3 (up3 L0 58 (t.2.2 i).2.1 (L0 58 (t.2.2 i).2.1 ^^^ (chV (actK (t.2.2 i)) (L0 58 (t.2.2 i).2.1) (L0 58 (t.2.2 i).2.2.1) (L0 57 1) &&& (L0 58 (t.2.2 i).2.1 ^^^ L0 58 (t.2.2 i).2.2.1)))) 58 (t.2.2 i).2.2.1 (L0 58 (t.2.2 i).2.2.1 ^^^ (chV (actK (t.2.2 i)) (L0 58 (t.2.2 i).2.1) (L0 58 (t.2.2 i).2.2.1) (L0 57 1) &&& (L0 58 (t.2.2 i).2.1 ^^^ L0 58 (t.2.2 i).2.2.1)))) := fun x' hx1 hx2 => by
      refine ih (i + 1) x' _ (by omega) (fun q a b => by rw [up3_n _ _ _ b, up3_n _ _ _ b]; exact hf q a b) (by rw [up3_n _ _ _ (by decide), up3_n _ _ _ (by decide)]; exact hA) (fun a ha r hr => by rw [w a ha r hr]; show (_ && (stp (t.2.2 i) (gk t.2.2 (-1) (64 * b + r) i)).testBit a) = (_ && (gk t.2.2 (-1) (64 * b + r) (i + 1)).testBit a); rw [gk_m1]) (fun j hj => ?_)
      by_cases e : j = i
      · subst e
        rw [if_pos (by omega), hx2, Bs_s, hB j hj, if_neg (by omega)]
        refine or_congr Iff.rfl ⟨fun q => ?_, fun ⟨r, q1, q2⟩ q => ?_⟩
        · obtain ⟨r, q1, q2, -⟩ := low_x q
          exact ⟨r, q1, (hch r q1).mp q2⟩
        · have y := (hch r q1).mpr q2
          rw [q, bt_0] at y
          cases y
      · rw [hx1 j hj e, hB j hj]
        by_cases l : j < i
        · rw [if_pos l, if_pos (by omega)]
        · rw [if_neg l, if_neg (by omega)]
    refine J.iload C dX5_busyComparers_36 rfl ?_
    refine J.aload_n C dX5_busyComparers_38 rfl ?_
    refine J.getR C flX5_busyComparers_10 (by first | decide | omega) rfl (by exact rfl) dX5_busyComparers_39 ?_
    refine J.getI C flX5_busyComparers_77 (by first | decide | omega) (by first | exact rfl | exact mk_3 (by assumption)) (by exact rfl) (by first | ((repeat (first | rewrite [up2_n _ _ _ (by first | decide | omega)] | rewrite [up2_m _ _ _ (by decide)] | rewrite [up3_n _ _ _ (by first | decide | omega)])) <;> (first | exact up2_s _ _ _ _ | exact up3_s _ _ _ _ | assumption | exact rfl))) dX5_busyComparers_42 ?_
    first | refine J.icmp_ge_n C (by omega) (by omega) dX5_busyComparers_45 (tgt := 131) (by decide) (fun c45 => absurd c45 (by first | omega | decide | simp_all)) (fun _ => ?_) | refine J.icmp_ge_xn C (by omega) dX5_busyComparers_45 (tgt := 131) (by decide) (fun c45 => absurd c45 (by first | omega | decide | simp_all)) (fun _ => ?_) | refine J.icmp_ge_nx C (by omega) dX5_busyComparers_45 (tgt := 131) (by decide) (fun c45 => absurd c45 (by first | omega | decide | simp_all)) (fun _ => ?_) | refine J.icmp_ge C dX5_busyComparers_45 (tgt := 131) (by decide) (fun c45 => absurd c45 (by first | omega | decide | simp_all)) (fun _ => ?_)
    refine J.aload_n C dX5_busyComparers_48 rfl ?_
    refine J.getR C flX5_busyComparers_10 (by first | decide | omega) rfl (by exact rfl) dX5_busyComparers_49 ?_
    refine J.iload C dX5_busyComparers_52 rfl ?_
    refine J.cVDi (q := (RX3, TX3, 3)) (ci := 3) C (ok_X3_actingKind l V _ _ rfl (by omega) hcB hi2) gX5_busyComparers_X3_actingKind rfl mfX3_actingKind rfl (by decide) (by decide) (by first | decide | omega) (by first | exact rfl | exact mk_3 (by assumption)) rfl rfl rfl (Nat.le_of_ble_eq_true rfl) dX5_busyComparers_54 (Nat.le_refl _) (Nat.le_refl _) ?_
    refine J.istore (ls' := [(0, _), (1, _), (3, _), (4, _), (5, _)]) C dX5_busyComparers_57 (by decide) rfl ?_
    refine J.aload_n C dX5_busyComparers_59 rfl ?_
    refine J.getR C flX5_busyComparers_36 (by first | decide | omega) rfl (by exact rfl) dX5_busyComparers_60 ?_
    refine J.iload C dX5_busyComparers_63 rfl ?_
    refine J.aload_n C dX5_busyComparers_65 rfl ?_
    refine J.getR C flX5_busyComparers_10 (by first | decide | omega) rfl (by exact rfl) dX5_busyComparers_66 ?_
    refine J.iload C dX5_busyComparers_69 rfl ?_
    refine J.cVDi (q := (RX3, TX3, 3)) (ci := 3) C (ok_X3_low l V _ _ rfl (by omega) hcB hi2) gX5_busyComparers_X3_low rfl mfX3_low rfl (by decide) (by decide) (by first | decide | omega) (by first | exact rfl | exact mk_3 (by assumption)) rfl rfl rfl (Nat.le_of_ble_eq_true rfl) dX5_busyComparers_71 (Nat.le_refl _) (Nat.le_refl _) ?_
    refine J.aload_n C dX5_busyComparers_74 rfl ?_
    refine J.getR C flX5_busyComparers_10 (by first | decide | omega) rfl (by exact rfl) dX5_busyComparers_75 ?_
    refine J.iload C dX5_busyComparers_78 rfl ?_
    refine J.cVDi (q := (RX3, TX3, 3)) (ci := 3) C (ok_X3_high l V _ _ rfl (by omega) hcB hi2) gX5_busyComparers_X3_high rfl mfX3_high rfl (by decide) (by decide) (by first | decide | omega) (by first | exact rfl | exact mk_3 (by assumption)) rfl rfl rfl (Nat.le_of_ble_eq_true rfl) dX5_busyComparers_80 (Nat.le_refl _) (Nat.le_refl _) ?_
    refine J.cVDl (q := (RX4, TX4, 2)) (ci := 4) C (ok_X4_changing l V (k := 57) _ _ rfl ha4 hb2 hb3 rfl rfl rfl) gX5_busyComparers_X4_changing rfl mfX4_changing rfl (by decide) (by decide) (by first | decide | omega) (by first | exact rfl | exact mk_4 (by assumption)) rfl rfl rfl (Nat.le_of_ble_eq_true rfl) dX5_busyComparers_83 (Nat.le_refl _) (Nat.le_refl _) ?_
    refine J.lconst C dX5_busyComparers_86 (v := 0) (by decide) ?_
    refine J.lcmp C dX5_busyComparers_87 ?_
    refine J.if_eq_c C dX5_busyComparers_88 (tgt := 98) (by decide) (fun c88t => ?_) (fun c88f => ?_)
    · refine J.aload_n C dX5_busyComparers_98 rfl ?_
      refine J.getR C flX5_busyComparers_36 (by first | decide | omega) rfl (by exact rfl) dX5_busyComparers_99 ?_
      refine J.iload C dX5_busyComparers_102 rfl ?_
      refine J.aload_n C dX5_busyComparers_104 rfl ?_
      refine J.getR C flX5_busyComparers_10 (by first | decide | omega) rfl (by exact rfl) dX5_busyComparers_105 ?_
      refine J.iload C dX5_busyComparers_108 rfl ?_
      refine J.cVDi (q := (RX3, TX3, 3)) (ci := 3) C (ok_X3_low l V _ _ rfl (by omega) hcB hi2) gX5_busyComparers_X3_low rfl mfX3_low rfl (by decide) (by decide) (by first | decide | omega) (by first | exact rfl | exact mk_3 (by assumption)) rfl rfl rfl (Nat.le_of_ble_eq_true rfl) dX5_busyComparers_110 (Nat.le_refl _) (Nat.le_refl _) ?_
      refine J.aload_n C dX5_busyComparers_113 rfl ?_
      refine J.getR C flX5_busyComparers_10 (by first | decide | omega) rfl (by exact rfl) dX5_busyComparers_114 ?_
      refine J.iload C dX5_busyComparers_117 rfl ?_
      refine J.cVDi (q := (RX3, TX3, 3)) (ci := 3) C (ok_X3_high l V _ _ rfl (by omega) hcB hi2) gX5_busyComparers_X3_high rfl mfX3_high rfl (by decide) (by decide) (by first | decide | omega) (by first | exact rfl | exact mk_3 (by assumption)) rfl rfl rfl (Nat.le_of_ble_eq_true rfl) dX5_busyComparers_119 (Nat.le_refl _) (Nat.le_refl _) ?_
      refine J.cVDv (q := (RX4, TX4, 2)) (ci := 4) C (ok_X4_step l V (k := 57) _ _ rfl ha4 hb2 hb3 hab rfl rfl rfl) gX5_busyComparers_X4_step rfl mfX4_step rfl (by decide) (by decide) (by first | decide | omega) (by first | exact rfl | exact mk_4 (by assumption)) rfl rfl rfl (Nat.le_of_ble_eq_true rfl) dX5_busyComparers_122 (Nat.le_refl _) (Nat.le_refl _) ?_
      refine J.iinc (ls' := [(0, _), (1, _), (3, _), (4, _), (5, _)]) C dX5_busyComparers_125 rfl (by first | exact nI_inc _ 1 | exact rfl) (by decide) rfl ?_
      refine J.goto C dX5_busyComparers_128 (tgt := 36) (by decide) ?_
      refine J.lsx (ls' := [(0, _), (1, _), (3, _), (4, _)]) (ex := [(5, _)]) rfl ?_
      exact fin x (fun _ _ _ => rfl) ⟨fun q => Or.inl q, fun q => by rcases q with q | q; exact q; exact absurd c88t q⟩
    · refine J.lload_n C dX5_busyComparers_91 rfl ?_
      refine J.lconst C dX5_busyComparers_92 (v := 1) (by decide) ?_
      refine J.iload C dX5_busyComparers_93 rfl ?_
      refine J.lshl C dX5_busyComparers_95 ?_
      refine J.lor C dX5_busyComparers_96 ?_
      refine J.lstore_n (ls' := [(0, _), (1, _), (3, _), (4, _), (5, _)]) C dX5_busyComparers_97 (by decide) rfl ?_
      refine J.aload_n C dX5_busyComparers_98 rfl ?_
      refine J.getR C flX5_busyComparers_36 (by first | decide | omega) rfl (by exact rfl) dX5_busyComparers_99 ?_
      refine J.iload C dX5_busyComparers_102 rfl ?_
      refine J.aload_n C dX5_busyComparers_104 rfl ?_
      refine J.getR C flX5_busyComparers_10 (by first | decide | omega) rfl (by exact rfl) dX5_busyComparers_105 ?_
      refine J.iload C dX5_busyComparers_108 rfl ?_
      refine J.cVDi (q := (RX3, TX3, 3)) (ci := 3) C (ok_X3_low l V _ _ rfl (by omega) hcB hi2) gX5_busyComparers_X3_low rfl mfX3_low rfl (by decide) (by decide) (by first | decide | omega) (by first | exact rfl | exact mk_3 (by assumption)) rfl rfl rfl (Nat.le_of_ble_eq_true rfl) dX5_busyComparers_110 (Nat.le_refl _) (Nat.le_refl _) ?_
      refine J.aload_n C dX5_busyComparers_113 rfl ?_
      refine J.getR C flX5_busyComparers_10 (by first | decide | omega) rfl (by exact rfl) dX5_busyComparers_114 ?_
      refine J.iload C dX5_busyComparers_117 rfl ?_
      refine J.cVDi (q := (RX3, TX3, 3)) (ci := 3) C (ok_X3_high l V _ _ rfl (by omega) hcB hi2) gX5_busyComparers_X3_high rfl mfX3_high rfl (by decide) (by decide) (by first | decide | omega) (by first | exact rfl | exact mk_3 (by assumption)) rfl rfl rfl (Nat.le_of_ble_eq_true rfl) dX5_busyComparers_119 (Nat.le_refl _) (Nat.le_refl _) ?_
      refine J.cVDv (q := (RX4, TX4, 2)) (ci := 4) C (ok_X4_step l V (k := 57) _ _ rfl ha4 hb2 hb3 hab rfl rfl rfl) gX5_busyComparers_X4_step rfl mfX4_step rfl (by decide) (by decide) (by first | decide | omega) (by first | exact rfl | exact mk_4 (by assumption)) rfl rfl rfl (Nat.le_of_ble_eq_true rfl) dX5_busyComparers_122 (Nat.le_refl _) (Nat.le_refl _) ?_
      refine J.iinc (ls' := [(0, _), (1, _), (3, _), (4, _), (5, _)]) C dX5_busyComparers_125 rfl (by first | exact nI_inc _ 1 | exact rfl) (by decide) rfl ?_
      refine J.goto C dX5_busyComparers_128 (tgt := 36) (by decide) ?_
      refine J.lsx (ls' := [(0, _), (1, _), (3, _), (4, _)]) (ex := [(5, _)]) rfl ?_
      refine fin _ (fun j a b => ?_) ?_
      · rw [bt_or, sh1 (by omega) (by omega), decide_eq_false (fun e => b e.symm), Bool.or_false]
      · rw [bt_or, sh1 (by omega) (by omega), decide_eq_true rfl, Bool.or_true]
        exact ⟨fun _ => Or.inr c88f, fun _ => rfl⟩
set_option maxHeartbeats 4000000 in
set_option maxRecDepth 100000 in
theorem lp_X5_busyComparers_o {l : Launch} {X : Cx} {V : Vx} {P : Option Value → (Nat → va_E) → Prop} {I : Nat → Nat → Int32} {L : Nat → Nat → Int64} (C : CX l X V RX5 cX5_busyComparers 6 wsX5_busyComparers 3 0 0 (some .long)) {t : Nt} (ok : okN t) (hN : netC I 1 t) (hP : ∀ (x : Int64) (L0 : Nat → Nat → Int64), (∀ q, q ≠ 57 → q ≠ 58 → L0 q = L q) → (∀ j, j < t.2.1 → (bt x j = true ↔ ¬ Idl t j)) → P (some (.long x)) (mm V I L0)) : ∀ (z b : Nat) (x : Int64) (L0 : Nat → Nat → Int64), b + z = 2 ^ (t.1 - 6) → (∀ q, q ≠ 57 → q ≠ 58 → L0 q = L q) → (∀ j, j < t.2.1 → (bt x j = true ↔ Bs t j (64 * b))) → E X V P 6 4 [(0, .ref (ad V 0)), (1, .long x), (3, .int (nI b))] [] I L0 := by
  have h8 := ok.2.1
  have h0 := hN.1
  obtain ⟨hbk, hb4⟩ := blk_n h8
  intro z
  induction z with
  | zero =>
    intro b x L0 hb hf hB
    refine J.iload_n C dX5_busyComparers_4 rfl ?_
    refine J.aload_n C dX5_busyComparers_5 rfl ?_
    refine J.getR C flX5_busyComparers_10 (by first | decide | omega) rfl (by exact rfl) dX5_busyComparers_6 ?_
    refine J.getI C flX5_busyComparers_160 (by first | decide | omega) (by first | exact rfl | exact mk_3 (by assumption)) (by exact rfl) (by first | ((repeat (first | rewrite [up2_n _ _ _ (by first | decide | omega)] | rewrite [up2_m _ _ _ (by decide)] | rewrite [up3_n _ _ _ (by first | decide | omega)])) <;> (first | exact up2_s _ _ _ _ | exact up3_s _ _ _ _ | assumption | exact rfl))) dX5_busyComparers_9 ?_
    refine J.cSDi C (ok_X4_blocks l V _ _ h8) gX5_busyComparers_X4_blocks rfl mfX4_blocks (by decide) (by decide) rfl rfl (Nat.le_of_ble_eq_true rfl) dX5_busyComparers_12 (Nat.le_refl _) (Nat.le_refl _) ?_
    first | refine J.icmp_ge_n C (by omega) (by omega) dX5_busyComparers_15 (tgt := 137) (by decide) (fun _ => ?_) (fun c15 => absurd c15 (by first | omega | decide | simp_all)) | refine J.icmp_ge_xn C (by omega) dX5_busyComparers_15 (tgt := 137) (by decide) (fun _ => ?_) (fun c15 => absurd c15 (by first | omega | decide | simp_all)) | refine J.icmp_ge_nx C (by omega) dX5_busyComparers_15 (tgt := 137) (by decide) (fun _ => ?_) (fun c15 => absurd c15 (by first | omega | decide | simp_all)) | refine J.icmp_ge C dX5_busyComparers_15 (tgt := 137) (by decide) (fun _ => ?_) (fun c15 => absurd c15 (by first | omega | decide | simp_all))
    refine J.lload_n C dX5_busyComparers_137 rfl ?_
    exact J.lret C dX5_busyComparers_138 (hP x L0 hf (fun j q => by rw [hB j q, Bs_I (by omega)]))
  | succ z ih =>
    intro b x L0 hb hf hB
    refine J.iload_n C dX5_busyComparers_4 rfl ?_
    refine J.aload_n C dX5_busyComparers_5 rfl ?_
    refine J.getR C flX5_busyComparers_10 (by first | decide | omega) rfl (by exact rfl) dX5_busyComparers_6 ?_
    refine J.getI C flX5_busyComparers_160 (by first | decide | omega) (by first | exact rfl | exact mk_3 (by assumption)) (by exact rfl) (by first | ((repeat (first | rewrite [up2_n _ _ _ (by first | decide | omega)] | rewrite [up2_m _ _ _ (by decide)] | rewrite [up3_n _ _ _ (by first | decide | omega)])) <;> (first | exact up2_s _ _ _ _ | exact up3_s _ _ _ _ | assumption | exact rfl))) dX5_busyComparers_9 ?_
    refine J.cSDi C (ok_X4_blocks l V _ _ h8) gX5_busyComparers_X4_blocks rfl mfX4_blocks (by decide) (by decide) rfl rfl (Nat.le_of_ble_eq_true rfl) dX5_busyComparers_12 (Nat.le_refl _) (Nat.le_refl _) ?_
    first | refine J.icmp_ge_n C (by omega) (by omega) dX5_busyComparers_15 (tgt := 137) (by decide) (fun c15 => absurd c15 (by first | omega | decide | simp_all)) (fun _ => ?_) | refine J.icmp_ge_xn C (by omega) dX5_busyComparers_15 (tgt := 137) (by decide) (fun c15 => absurd c15 (by first | omega | decide | simp_all)) (fun _ => ?_) | refine J.icmp_ge_nx C (by omega) dX5_busyComparers_15 (tgt := 137) (by decide) (fun c15 => absurd c15 (by first | omega | decide | simp_all)) (fun _ => ?_) | refine J.icmp_ge C dX5_busyComparers_15 (tgt := 137) (by decide) (fun c15 => absurd c15 (by first | omega | decide | simp_all)) (fun _ => ?_)
    refine J.aload_n C dX5_busyComparers_18 rfl ?_
    refine J.getR C flX5_busyComparers_36 (by first | decide | omega) rfl (by exact rfl) dX5_busyComparers_19 ?_
    refine J.aload_n C dX5_busyComparers_22 rfl ?_
    refine J.getR C flX5_busyComparers_10 (by first | decide | omega) rfl (by exact rfl) dX5_busyComparers_23 ?_
    refine J.getI C flX5_busyComparers_160 (by first | decide | omega) (by first | exact rfl | exact mk_3 (by assumption)) (by exact rfl) (by first | ((repeat (first | rewrite [up2_n _ _ _ (by first | decide | omega)] | rewrite [up2_m _ _ _ (by decide)] | rewrite [up3_n _ _ _ (by first | decide | omega)])) <;> (first | exact up2_s _ _ _ _ | exact up3_s _ _ _ _ | assumption | exact rfl))) dX5_busyComparers_26 ?_
    refine J.iload_n C dX5_busyComparers_29 rfl ?_
    refine J.cVGv (q := (RX4, TX4, 2)) (ci := 4) C (ok_X4_start l V (k := 57) (b := b) _ _ rfl h8 (by omega)) gX5_busyComparers_X4_start rfl mfX4_start rfl (by decide) (by decide) (by first | decide | omega) (by first | exact rfl | exact mk_4 (by assumption)) rfl rfl rfl (Nat.le_of_ble_eq_true rfl) dX5_busyComparers_30 (Nat.le_refl _) (Nat.le_refl _) (fun I30 L30 h30 => ?_)
    obtain ⟨rfl, ha, hc, hf2⟩ := h30
    have hR := RwI_0 h8 (show b < 4 by omega) hc
    refine J.iconst C dX5_busyComparers_33 (v := (nI 0)) (by decide) ?_
    refine J.istore (ls' := [(0, _), (1, _), (3, _), (4, _)]) C dX5_busyComparers_34 (by decide) rfl ?_
    refine lp_X5_busyComparers_i C (b := b) (L := L) ok hN (by omega) (fun x1 L1 hf1 hB1 => ?_) t.2.1 0 x L30 (by omega) (fun q a b => by rw [hf2 q a b]; exact hf q a b) ha hR (fun j q => by rw [if_neg (Nat.not_lt_zero _)]; exact hB j q)
    refine J.iinc (ls' := [(0, _), (1, _), (3, _), (4, _)]) C dX5_busyComparers_131 rfl (by first | exact nI_inc _ 1 | exact rfl) (by decide) rfl ?_
    refine J.goto C dX5_busyComparers_134 (tgt := 4) (by decide) ?_
    refine J.lsx (ls' := [(0, _), (1, _), (3, _)]) (ex := [(4, _)]) rfl ?_
    exact ih (b + 1) x1 L1 (by omega) hf1 hB1
set_option maxHeartbeats 4000000 in
set_option maxRecDepth 100000 in
theorem ok_X5_busyComparers (l : Launch) (V : Vx) {t : Nt} (I : Nat → Nat → Int32) (L : Nat → Nat → Int64) (ok : okN t) (hN : netC I 1 t) : Gl l V yX5_busyComparers wsX5_busyComparers 3 [.ref (ad V 0)] I L (fun x I' L' => I' = I ∧ (∀ q, q ≠ 57 → q ≠ 58 → L' q = L q) ∧ ∀ j, j < t.2.1 → (bt x j = true ↔ ¬ Idl t j)) := by
  refine Ok.of (cc := cX5_busyComparers) (maxL := 6) (ret := (some .long)) (by decide) rfl (Nat.le_of_ble_eq_true rfl) (fun X hnm C => ?_)
  have C : CX l X V RX5 cX5_busyComparers 6 wsX5_busyComparers 3 0 0 (some .long) := C
  refine J.cast (ls' := [(0, _)]) rfl rfl rfl rfl ?_
  refine J.lconst C dX5_busyComparers_0 (v := 0) (by decide) ?_
  refine J.lstore_n (ls' := [(0, _), (1, _)]) C dX5_busyComparers_1 (by decide) rfl ?_
  refine J.iconst C dX5_busyComparers_2 (v := (nI 0)) (by decide) ?_
  refine J.istore_n (ls' := [(0, _), (1, _), (3, _)]) C dX5_busyComparers_3 (by decide) rfl ?_
  refine lp_X5_busyComparers_o C ok hN (fun x L0 hf hB => ?_) (2 ^ (t.1 - 6)) 0 0 L (by omega) (fun _ _ _ => rfl) (fun j q => ⟨(fun z => (by rw [bt_0] at z; cases z)), (fun ⟨r, z, _⟩ => (by omega))⟩)
  exact ⟨x, I, L0, rfl, rfl, rfl, hf, hB⟩
