/-! THE REFERENCE: unlike, would -/
theorem stp0_f {a b v : Nat} {o : Bool} (h : cond (v.testBit a) 1 0 ≤ cond (v.testBit b) 1 0) : v = stp (0, a, b, o) v := by
  unfold stp chg actK chgK hw
  revert h
  cases v.testBit a <;> cases v.testBit b <;> simp
theorem stp0_t {a b v : Nat} {o : Bool} (h : ¬ cond (v.testBit a) 1 0 ≤ cond (v.testBit b) 1 0) : v ^^^ 2 ^ a ^^^ 2 ^ b = stp (0, a, b, o) v := by
  unfold stp chg actK chgK hw
  revert h
  cases v.testBit a <;> cases v.testBit b <;> simp
theorem cb_lt (b : Bool) : cond b 1 0 < 2 ^ 31 := by cases b <;> decide
theorem gk_m {f : Nat → Cmp} {v i : Nat} : gk f (-1) v (i + 1) = stp (f i) (gk f (-1) v i) := gk_n (by omega)
theorem gk_lt2 {n : Nat} {f : Nat → Cmp} {c r : Nat} (h : ∀ i, i < c → okC n (f i)) (hr : r < 2 ^ n) : ∀ i, i ≤ c → gk f (-1) r i < 2 ^ n
  | 0, _ => hr
  | i + 1, hi => by rw [gk_m]; exact stp_lt (gk_lt2 h hr i (by omega)) (h i (by omega))
noncomputable def op_unlike (g : Sg) (o : Option Nat) : Int32 × Sg := cond (tb (inO o 4)) (match g.2.2.1 (o.getD 0) with
  | some t => cond (tb (t.1 = g.1.1)) (match lst (2 ^ g.1.1) (fun r => gk g.1.2.2 (-1) r g.1.2.1 ≠ gk t.2.2 (-1) r t.2.1) with
    | some r => (nI r, g)
    | none => (-8, gF g)) (-3, gF g)
  | none => (-6, gF g)) (-1, gF g)
def isLj (j N : Nat) (P : Nat → Prop) (o : Option Nat) : Prop := match o with
  | none => ∀ r, j ≤ r → r < N → ¬ P r
  | some k => j ≤ k ∧ k < N ∧ P k ∧ ∀ r, j ≤ r → r < k → ¬ P r
theorem isLj_0 {N : Nat} {P : Nat → Prop} {o : Option Nat} (h : isLj 0 N P o) : isL N P o := by
  cases o with
  | none => exact fun r hr => h r (Nat.zero_le r) hr
  | some k => exact ⟨h.2.1, h.2.2.1, fun r hr => h.2.2.2 r (Nat.zero_le r) hr⟩
theorem isLj_t {j N : Nat} {P : Nat → Prop} {o : Option Nat} (h : isLj (j + 1) N P o) (hj : j < N) (hp : P j) : isLj j N P (some j) := ⟨Nat.le_refl _, hj, hp, fun r h1 h2 => by omega⟩
theorem isLj_f {j N : Nat} {P : Nat → Prop} {o : Option Nat} (h : isLj (j + 1) N P o) (hp : ¬ P j) : isLj j N P o := by
  cases o with
  | none => exact fun r h1 h2 => by rcases Nat.eq_or_lt_of_le h1 with e | e; rw [← e]; exact hp; exact h r e h2
  | some k => exact ⟨by have := h.1; omega, h.2.1, h.2.2.1, fun r h1 h2 => by rcases Nat.eq_or_lt_of_le h1 with e | e; rw [← e]; exact hp; exact h.2.2.2 r e h2⟩
theorem m1_s (x : Int32) : x + Int32.ofInt (-1) = x - nI 1 := by rw [Int32.sub_eq_add_neg]; congr 1
set_option maxHeartbeats 4000000 in
set_option maxRecDepth 100000 in
theorem lp_X6_unlike_a {l : Launch} {X : Cx} {V : Vx} {P : Option Value → (Nat → va_E) → Prop} {I : Nat → Nat → Int32} {L : Nat → Nat → Int64} (C : CX l X V RX6 cX6_unlike 5 wsX6_unlike 3 0 0 (some .int)) {t : Nt} {x : Int32} {a : Nat} (hN : NM I t) (ok : okN t) (hx : ∀ J0, (∀ k, k ≠ 105 → J0 k = I k) → (∀ q, q < 2 ^ t.1 → J0 105 q = nI (gk t.2.2 (-1) q t.2.1)) → E X V P 5 86 [(0, .ref (ad V 85)), (1, .int x), (2, .int (nI a)), (3, .int (nI (2 ^ t.1)))] [] J0 L) : ∀ (k r : Nat) (J0 : Nat → Nat → Int32), r + k = 2 ^ t.1 → (∀ k, k ≠ 105 → J0 k = I k) → (∀ q, q < r → J0 105 q = nI (gk t.2.2 (-1) q t.2.1)) → E X V P 5 56 [(0, .ref (ad V 85)), (1, .int x), (2, .int (nI a)), (3, .int (nI r))] [] J0 L := by
  intro k
  have h8 := p2_le ok.2.1
  have hN0 := hN
  induction k with
  | zero =>
    intro r J0 hr hf hb
    have hN : NM J0 t := by unfold NM; rw [hf 85 (by decide), hf 86 (by decide), hf 87 (by decide), hf 88 (by decide), hf 89 (by decide)]; exact hN0
    have e : r = 2 ^ t.1 := by omega
    subst e
    refine J.iload_n C dX6_unlike_56 rfl ?_
    refine J.aload_n C dX6_unlike_57 rfl ?_
    refine J.cVDi (q := (RX6, TX6, 25)) (ci := 6) C (ok_X6_rows l V _ _ hN.1 ok.2.1) gX6_unlike_X6_rows rfl mfX6_rows rfl (by decide) (by decide) (by first | decide | omega) rfl rfl rfl rfl (Nat.le_of_ble_eq_true rfl) dX6_unlike_58 (Nat.le_refl _) (Nat.le_refl _) ?_
    first | refine J.icmp_ge_n C (by omega) (by omega) dX6_unlike_61 (tgt := 86) (by decide) (fun _ => ?_) (fun c61 => absurd c61 (by first | omega | decide | simp_all)) | refine J.icmp_ge_xn C (by omega) dX6_unlike_61 (tgt := 86) (by decide) (fun _ => ?_) (fun c61 => absurd c61 (by first | omega | decide | simp_all)) | refine J.icmp_ge_nx C (by omega) dX6_unlike_61 (tgt := 86) (by decide) (fun _ => ?_) (fun c61 => absurd c61 (by first | omega | decide | simp_all)) | refine J.icmp_ge C dX6_unlike_61 (tgt := 86) (by decide) (fun _ => ?_) (fun c61 => absurd c61 (by first | omega | decide | simp_all))
    exact hx J0 hf hb
  | succ k ih =>
    intro r J0 hr hf hb
    have hN : NM J0 t := by unfold NM; rw [hf 85 (by decide), hf 86 (by decide), hf 87 (by decide), hf 88 (by decide), hf 89 (by decide)]; exact hN0
    have hm := hN.2.1
    refine J.iload_n C dX6_unlike_56 rfl ?_
    refine J.aload_n C dX6_unlike_57 rfl ?_
    refine J.cVDi (q := (RX6, TX6, 25)) (ci := 6) C (ok_X6_rows l V _ _ hN.1 ok.2.1) gX6_unlike_X6_rows rfl mfX6_rows rfl (by decide) (by decide) (by first | decide | omega) rfl rfl rfl rfl (Nat.le_of_ble_eq_true rfl) dX6_unlike_58 (Nat.le_refl _) (Nat.le_refl _) ?_
    first | refine J.icmp_ge_n C (by omega) (by omega) dX6_unlike_61 (tgt := 86) (by decide) (fun c61 => absurd c61 (by first | omega | decide | simp_all)) (fun _ => ?_) | refine J.icmp_ge_xn C (by omega) dX6_unlike_61 (tgt := 86) (by decide) (fun c61 => absurd c61 (by first | omega | decide | simp_all)) (fun _ => ?_) | refine J.icmp_ge_nx C (by omega) dX6_unlike_61 (tgt := 86) (by decide) (fun c61 => absurd c61 (by first | omega | decide | simp_all)) (fun _ => ?_) | refine J.icmp_ge C dX6_unlike_61 (tgt := 86) (by decide) (fun c61 => absurd c61 (by first | omega | decide | simp_all)) (fun _ => ?_)
    refine J.aload_n C dX6_unlike_64 rfl ?_
    refine J.getR C flX6_unlike_73 (by first | decide | omega) rfl (by exact rfl) dX6_unlike_65 ?_
    refine J.iload_n C dX6_unlike_68 rfl ?_
    refine J.aload_n C dX6_unlike_69 rfl ?_
    refine J.iload_n C dX6_unlike_70 rfl ?_
    refine J.aload_n C dX6_unlike_71 rfl ?_
    refine J.getI C flX6_unlike_79 (by first | decide | omega) rfl (by exact rfl) (by first | ((repeat (first | refine up2_rd (by decide) ?_ | refine up2_rm (by decide) ?_ | refine up3_rd (by decide) ?_)) <;> (first | exact up2_s _ _ _ _ | assumption | exact rfl))) dX6_unlike_72 ?_
    refine J.iconst C dX6_unlike_75 (v := (-1)) (by decide) ?_
    refine J.cVDi (q := (RX6, TX6, 25)) (ci := 6) C (ok_X6_goes_z l V _ _ toInt_m1 hN ok (by omega) (by omega)) gX6_unlike_X6_goes rfl mfX6_goes rfl (by decide) (by decide) (by first | decide | omega) rfl rfl rfl rfl (Nat.le_of_ble_eq_true rfl) dX6_unlike_76 (Nat.le_refl _) (Nat.le_refl _) ?_
    refine J.ias C (by first | exact rfl | assumption) (by first | exact rfl | exact rfl) (by first | (have h_ln := ln_all; omega) | omega) dX6_unlike_79 ?_
    refine J.iinc (ls' := [(0, _), (1, _), (2, _), (3, _)]) C dX6_unlike_80 rfl (by first | exact nI_inc _ 1 | exact rfl) (by decide) rfl ?_
    refine J.goto C dX6_unlike_83 (tgt := 56) (by decide) ?_
    refine ih (r + 1) _ (by omega) (fun q a => by rw [up2_n _ _ _ a]; exact hf q a) (fun q hq => ?_)
    by_cases e : q = r
    · rw [e, up2_s]
    · rw [up2_m _ _ _ e]; exact hb q (by omega)
set_option maxHeartbeats 4000000 in
set_option maxRecDepth 100000 in
theorem lp_X6_unlike_b {l : Launch} {X : Cx} {V : Vx} {P : Option Value → (Nat → va_E) → Prop} {I : Nat → Nat → Int32} {L : Nat → Nat → Int64} (C : CX l X V RX6 cX6_unlike 5 wsX6_unlike 3 0 0 (some .int)) {t : Nt} {x : Int32} {a : Nat} {D0 : Nat → Nat} (hN : NM I t) (ok : okN t) (hD : ∀ q, q < 2 ^ t.1 → D0 q < 256 ∧ I 105 q = nI (D0 q)) (hx : ∀ o, isL (2 ^ t.1) (fun r => D0 r ≠ gk t.2.2 (-1) r t.2.1) o → E X V P 5 142 [(0, .ref (ad V 85)), (1, .int x), (2, .int (nI a)), (3, .int (oI o (-1))), (4, .int (nI 0 - nI 1))] [] I L) : ∀ (j : Nat) (o : Option Nat), j ≤ 2 ^ t.1 → isLj j (2 ^ t.1) (fun r => D0 r ≠ gk t.2.2 (-1) r t.2.1) o → E X V P 5 107 [(0, .ref (ad V 85)), (1, .int x), (2, .int (nI a)), (3, .int (oI o (-1))), (4, .int (nI j - nI 1))] [] I L := by
  intro j
  have h8 := p2_le ok.2.1
  have hm := hN.2.1
  induction j with
  | zero =>
    intro o hj hb
    refine J.iload C dX6_unlike_107 rfl ?_
    refine J.if_lt_z C dX6_unlike_109 (tgt := 142) (by decide) (fun _ => ?_) (fun c109 => absurd c109 (by first | omega | decide | simp_all))
    exact hx o (isLj_0 hb)
  | succ j ih =>
    intro o hj hb
    obtain ⟨hd1, hd2⟩ := hD j (by omega)
    have hg := gk_lt ok (s := -1) (r := j) (by omega) t.2.1 (Nat.le_refl _)
    rw [show nI (j + 1) - nI 1 = nI j from by rw [pk_sub (by omega)]; rfl]
    refine J.iload C dX6_unlike_107 rfl ?_
    refine J.if_lt_n C (by omega) dX6_unlike_109 (tgt := 142) (by decide) ?_
    refine J.aload_n C dX6_unlike_112 rfl ?_
    refine J.iload C dX6_unlike_113 rfl ?_
    refine J.aload_n C dX6_unlike_115 rfl ?_
    refine J.getI C flX6_unlike_79 (by first | decide | omega) rfl (by exact rfl) (by first | ((repeat (first | refine up2_rd (by decide) ?_ | refine up2_rm (by decide) ?_ | refine up3_rd (by decide) ?_)) <;> (first | exact up2_s _ _ _ _ | assumption | exact rfl))) dX6_unlike_116 ?_
    refine J.iconst C dX6_unlike_119 (v := (-1)) (by decide) ?_
    refine J.cVDi (q := (RX6, TX6, 25)) (ci := 6) C (ok_X6_goes_z l V _ _ toInt_m1 hN ok (by omega) (by omega)) gX6_unlike_X6_goes rfl mfX6_goes rfl (by decide) (by decide) (by first | decide | omega) rfl rfl rfl rfl (Nat.le_of_ble_eq_true rfl) dX6_unlike_120 (Nat.le_refl _) (Nat.le_refl _) ?_
    refine J.aload_n C dX6_unlike_123 rfl ?_
    refine J.getR C flX6_unlike_73 (by first | decide | omega) rfl (by exact rfl) dX6_unlike_124 ?_
    refine J.iload C dX6_unlike_127 rfl ?_
    refine J.ia C (by first | exact rfl | assumption) (by first | exact rfl | exact rfl) (by first | (have h_ln := ln_all; omega) | omega) (by first | ((repeat (first | refine up2_rd (by decide) ?_ | refine up2_rm (by decide) ?_ | refine up3_rd (by decide) ?_)) <;> (first | exact up2_s _ _ _ _ | assumption | exact rfl))) dX6_unlike_129 ?_
    first | refine J.icmp_eq_n C (by omega) (by omega) dX6_unlike_130 (tgt := 136) (by decide) (fun c130t => ?_) (fun c130f => ?_) | refine J.icmp_eq_xn C (by omega) dX6_unlike_130 (tgt := 136) (by decide) (fun c130t => ?_) (fun c130f => ?_) | refine J.icmp_eq_nx C (by omega) dX6_unlike_130 (tgt := 136) (by decide) (fun c130t => ?_) (fun c130f => ?_) | refine J.icmp_eq C dX6_unlike_130 (tgt := 136) (by decide) (fun c130t => ?_) (fun c130f => ?_)
    · refine J.iinc (ls' := [(0, _), (1, _), (2, _), (3, _), (4, _)]) C dX6_unlike_136 rfl (m1_s _) (by decide) rfl ?_
      refine J.goto C dX6_unlike_139 (tgt := 107) (by decide) ?_
      exact ih o (by omega) (isLj_f hb (fun q => q c130t.symm))
    · refine J.iload C dX6_unlike_133 rfl ?_
      refine J.istore_n (ls' := [(0, _), (1, _), (2, _), (3, _), (4, _)]) C dX6_unlike_135 (by decide) rfl ?_
      refine J.iinc (ls' := [(0, _), (1, _), (2, _), (3, _), (4, _)]) C dX6_unlike_136 rfl (m1_s _) (by decide) rfl ?_
      refine J.goto C dX6_unlike_139 (tgt := 107) (by decide) ?_
      exact ih (some j) (by omega) (isLj_t hb (by omega) (fun q => c130f q.symm))
set_option maxHeartbeats 4000000 in
set_option maxRecDepth 100000 in
theorem ok_X6_unlike (l : Launch) (V : Vx) {g : Sg} {x1 : Int32} {o1 : Option Nat} (I : Nat → Nat → Int32) (L : Nat → Nat → Int64) (hx1 : AG x1 o1) (h : AbM I L g) (ok : okG g) : PM l V yX6_unlike wsX6_unlike 3 [.ref (ad V 85), .int x1] I L (op_unlike g o1) := by
  have hN := h.nm
  have h0 := hN.1
  have hm := hN.2.1
  have hl2 := ok.1.1
  have hl8 := ok.1.2.1
  have h40 := ok.1.2.2.1
  have hq := h.2.1.1
  have hq25 := ok.2.2.1
  have hB := AbM_be h ok
  have hb0 : beM I g.2.1.length 85 0 = nI g.1.1 := hB.1.1
  have hb1 : beM I g.2.1.length 85 1 = nI g.1.2.1 := hB.1.2.1
  unfold op_unlike
  by_cases hi : inO o1 4
  · obtain ⟨k, rfl, hk⟩ := id hi
    have hk31 := hx1.1
    obtain ⟨-, rfl⟩ := hx1
    have hx1 : AG (nI k) (some k) := ⟨hk31, rfl⟩
    rw [tb_1 hi]
    have hS := h.2.2.1 k hk
    show PM l V _ _ _ _ I L (match g.2.2.1 k with | some t => _ | none => _)
    cases hs : g.2.2.1 k with
    | none =>
      rw [hs] at hS
      refine Ok.of (cc := cX6_unlike) (maxL := 5) (ret := (some .int)) (by decide) rfl (Nat.le_of_ble_eq_true rfl) (fun X hnm C => ?_)
      have C : CX l X V RX6 cX6_unlike 5 wsX6_unlike 3 0 0 (some .int) := C
      refine J.cast (ls' := [(0, _), (1, _)]) rfl rfl rfl rfl ?_
      refine J.iload_n C dX6_unlike_0 rfl ?_
      refine J.cSDi C (ok_X6_isSlot l V _ _ hx1) gX6_unlike_X6_isSlot rfl mfX6_isSlot (by decide) (by decide) rfl rfl (Nat.le_of_ble_eq_true rfl) dX6_unlike_1 (Nat.le_refl _) (Nat.le_refl _) ?_
      rw [tb_1 hi]
      first | refine J.if_ne_b C dX6_unlike_4 (tgt := 13) (by decide) (fun _ => ?_) (fun c4 => absurd c4 (by first | omega | decide | simp_all)) | refine J.if_ne_n C (by omega) dX6_unlike_4 (tgt := 13) (by decide) (fun _ => ?_) (fun c4 => absurd c4 (by first | omega | decide | simp_all)) | refine J.if_ne C dX6_unlike_4 (tgt := 13) (by decide) (fun _ => ?_) (fun c4 => absurd c4 (by first | omega | decide | simp_all))
      refine J.bipush C dX6_unlike_13 (v := (nI 25)) (by decide) ?_
      refine J.iload_n C dX6_unlike_15 rfl ?_
      first | refine J.iadd_n C dX6_unlike_16 ?_ | refine J.iadd C dX6_unlike_16 ?_
      refine J.istore_n (ls' := [(0, _), (1, _), (2, _)]) C dX6_unlike_17 (by decide) rfl ?_
      refine J.aload_n C dX6_unlike_18 rfl ?_
      refine J.getR C flX6_unlike_27 (by first | decide | omega) rfl (by exact rfl) dX6_unlike_19 ?_
      refine J.iload_n C dX6_unlike_22 rfl ?_
      refine J.ia C (by first | exact rfl | assumption) (by first | exact rfl | exact rfl) (by first | (have h_ln := ln_all; omega) | omega) (by first | ((repeat (first | refine up2_rd (by decide) ?_ | refine up2_rm (by decide) ?_ | refine up3_rd (by decide) ?_)) <;> (first | exact up2_s _ _ _ _ | assumption | exact rfl))) dX6_unlike_23 ?_
      first | refine J.if_ne_b C dX6_unlike_24 (tgt := 34) (by decide) (fun c24 => absurd c24 (by first | omega | decide | simp_all)) (fun _ => ?_) | refine J.if_ne_n C (by omega) dX6_unlike_24 (tgt := 34) (by decide) (fun c24 => absurd c24 (by first | omega | decide | simp_all)) (fun _ => ?_) | refine J.if_ne C dX6_unlike_24 (tgt := 34) (by decide) (fun c24 => absurd c24 (by first | omega | decide | simp_all)) (fun _ => ?_)
      refine J.aload_n C dX6_unlike_27 rfl ?_
      refine J.bipush C dX6_unlike_28 (v := (-6)) (by decide) ?_
      refine J.cVDi (q := (RX6, TX6, 25)) (ci := 6) C (ok_X6_found l V _ _ _) gX6_unlike_X6_found rfl mfX6_found rfl (by decide) (by decide) (by first | decide | omega) rfl rfl rfl rfl (Nat.le_of_ble_eq_true rfl) dX6_unlike_30 (Nat.le_refl _) (Nat.le_refl _) ?_
      exact J.iret C dX6_unlike_33 (qM_s (qM_F h))
    | some t =>
      have ht := ok.2.2.2.1 k t hk hs
      rw [hs] at hS
      have hS0 := hS.1
      have ht2 := ht.1
      have ht8 := ht.2.1
      have h256 := p2_le hl8
      simp only []
      refine Ok.of (cc := cX6_unlike) (maxL := 5) (ret := (some .int)) (by decide) rfl (Nat.le_of_ble_eq_true rfl) (fun X hnm C => ?_)
      have C : CX l X V RX6 cX6_unlike 5 wsX6_unlike 3 0 0 (some .int) := C
      refine J.cast (ls' := [(0, _), (1, _)]) rfl rfl rfl rfl ?_
      refine J.iload_n C dX6_unlike_0 rfl ?_
      refine J.cSDi C (ok_X6_isSlot l V _ _ hx1) gX6_unlike_X6_isSlot rfl mfX6_isSlot (by decide) (by decide) rfl rfl (Nat.le_of_ble_eq_true rfl) dX6_unlike_1 (Nat.le_refl _) (Nat.le_refl _) ?_
      rw [tb_1 hi]
      first | refine J.if_ne_b C dX6_unlike_4 (tgt := 13) (by decide) (fun _ => ?_) (fun c4 => absurd c4 (by first | omega | decide | simp_all)) | refine J.if_ne_n C (by omega) dX6_unlike_4 (tgt := 13) (by decide) (fun _ => ?_) (fun c4 => absurd c4 (by first | omega | decide | simp_all)) | refine J.if_ne C dX6_unlike_4 (tgt := 13) (by decide) (fun _ => ?_) (fun c4 => absurd c4 (by first | omega | decide | simp_all))
      refine J.bipush C dX6_unlike_13 (v := (nI 25)) (by decide) ?_
      refine J.iload_n C dX6_unlike_15 rfl ?_
      first | refine J.iadd_n C dX6_unlike_16 ?_ | refine J.iadd C dX6_unlike_16 ?_
      refine J.istore_n (ls' := [(0, _), (1, _), (2, _)]) C dX6_unlike_17 (by decide) rfl ?_
      refine J.aload_n C dX6_unlike_18 rfl ?_
      refine J.getR C flX6_unlike_27 (by first | decide | omega) rfl (by exact rfl) dX6_unlike_19 ?_
      refine J.iload_n C dX6_unlike_22 rfl ?_
      refine J.ia C (by first | exact rfl | assumption) (by first | exact rfl | exact rfl) (by first | (have h_ln := ln_all; omega) | omega) (by first | ((repeat (first | refine up2_rd (by decide) ?_ | refine up2_rm (by decide) ?_ | refine up3_rd (by decide) ?_)) <;> (first | exact up2_s _ _ _ _ | assumption | exact rfl))) dX6_unlike_23 ?_
      first | refine J.if_ne_b C dX6_unlike_24 (tgt := 34) (by decide) (fun _ => ?_) (fun c24 => absurd c24 (by first | omega | decide | simp_all)) | refine J.if_ne_n C (by omega) dX6_unlike_24 (tgt := 34) (by decide) (fun _ => ?_) (fun c24 => absurd c24 (by first | omega | decide | simp_all)) | refine J.if_ne C dX6_unlike_24 (tgt := 34) (by decide) (fun _ => ?_) (fun c24 => absurd c24 (by first | omega | decide | simp_all))
      refine J.aload_n C dX6_unlike_34 rfl ?_
      refine J.getR C flX6_unlike_27 (by first | decide | omega) rfl (by exact rfl) dX6_unlike_35 ?_
      refine J.iload_n C dX6_unlike_38 rfl ?_
      refine J.ia C (by first | exact rfl | assumption) (by first | exact rfl | exact rfl) (by first | (have h_ln := ln_all; omega) | omega) (by first | ((repeat (first | refine up2_rd (by decide) ?_ | refine up2_rm (by decide) ?_ | refine up3_rd (by decide) ?_)) <;> (first | exact up2_s _ _ _ _ | assumption | exact rfl))) dX6_unlike_39 ?_
      refine J.aload_n C dX6_unlike_40 rfl ?_
      refine J.getI C flX6_unlike_7 (by first | decide | omega) rfl (by exact rfl) (by first | ((repeat (first | refine up2_rd (by decide) ?_ | refine up2_rm (by decide) ?_ | refine up3_rd (by decide) ?_)) <;> (first | exact up2_s _ _ _ _ | assumption | exact rfl))) dX6_unlike_41 ?_
      first | refine J.icmp_eq_n C (by omega) (by omega) dX6_unlike_44 (tgt := 54) (by decide) (fun c44t => ?_) (fun c44f => ?_) | refine J.icmp_eq_xn C (by omega) dX6_unlike_44 (tgt := 54) (by decide) (fun c44t => ?_) (fun c44f => ?_) | refine J.icmp_eq_nx C (by omega) dX6_unlike_44 (tgt := 54) (by decide) (fun c44t => ?_) (fun c44f => ?_) | refine J.icmp_eq C dX6_unlike_44 (tgt := 54) (by decide) (fun c44t => ?_) (fun c44f => ?_)
      · rw [tb_1 c44t]
        refine J.iconst C dX6_unlike_54 (v := (nI 0)) (by decide) ?_
        refine J.istore_n (ls' := [(0, _), (1, _), (2, _), (3, _)]) C dX6_unlike_55 (by decide) rfl ?_
        refine lp_X6_unlike_a C hN ok.1 (fun J0 hf hb => ?_) (2 ^ g.1.1) 0 I (by omega) (fun _ _ => rfl) (fun q hq => absurd hq (Nat.not_lt_zero q))
        have hn0 : nA (J0 85 0) (J0 85 1) (J0 86) (J0 87) (J0 88) (J0 89) 0 g.1 := by rw [hf 85 (by decide), hf 86 (by decide), hf 87 (by decide), hf 88 (by decide), hf 89 (by decide)]; exact h.1
        have hS2 : nA (J0 90 (25 + k)) (J0 91 (25 + k)) (J0 92) (J0 93) (J0 94) (J0 95) (40 * (25 + k)) t := by rw [hf 90 (by decide), hf 91 (by decide), hf 92 (by decide), hf 93 (by decide), hf 94 (by decide), hf 95 (by decide)]; exact hS
        have k29 := stM_in (a := 29) hn0 h40
        have kS := stM_out (a := 29) (b := 25 + k) (by omega) hS2 ht.2.2.1
        have k1 := rsM_in kS ht.2.2.1
        have hNt : NM (rsM (stM J0 29) (25 + k)) t := NM_nA.mpr k1
        have h105 : rsM (stM J0 29) (25 + k) 105 = J0 105 := by rw [rsM_o (by decide) (by decide) (by decide) (by decide) (by decide), stM_o (by decide) (by decide) (by decide) (by decide) (by decide) (by decide)]
        have hD : ∀ q, q < 2 ^ t.1 → gk g.1.2.2 (-1) q g.1.2.1 < 256 ∧ rsM (stM J0 29) (25 + k) 105 q = nI (gk g.1.2.2 (-1) q g.1.2.1) := fun q hq => by rw [c44t] at hq; exact ⟨by have := gk_lt ok.1 (s := -1) (r := q) hq g.1.2.1 (Nat.le_refl _); omega, by rw [h105]; exact hb q hq⟩
        refine J.aload_n C dX6_unlike_86 rfl ?_
        refine J.bipush C dX6_unlike_87 (v := (nI 29)) (by decide) ?_
        refine J.cVDv (q := (RX6, TX6, 25)) (ci := 6) C (ok_X6_store l V _ _ (by omega)) gX6_unlike_X6_store rfl mfX6_store rfl (by decide) (by decide) (by first | decide | omega) rfl rfl rfl rfl (Nat.le_of_ble_eq_true rfl) dX6_unlike_89 (Nat.le_refl _) (Nat.le_refl _) ?_
        refine J.aload_n C dX6_unlike_92 rfl ?_
        refine J.iload_n C dX6_unlike_93 rfl ?_
        refine J.cVDv (q := (RX6, TX6, 25)) (ci := 6) C (ok_X6_restore l V _ _ (by omega)) gX6_unlike_X6_restore rfl mfX6_restore rfl (by decide) (by decide) (by first | decide | omega) rfl rfl rfl rfl (Nat.le_of_ble_eq_true rfl) dX6_unlike_94 (Nat.le_refl _) (Nat.le_refl _) ?_
        refine J.iconst C dX6_unlike_97 (v := (-1)) (by decide) ?_
        refine J.istore_n (ls' := [(0, _), (1, _), (2, _), (3, _)]) C dX6_unlike_98 (by decide) rfl ?_
        refine J.aload_n C dX6_unlike_99 rfl ?_
        refine J.cVDi (q := (RX6, TX6, 25)) (ci := 6) C (ok_X6_rows l V _ _ hNt.1 ht.2.1) gX6_unlike_X6_rows rfl mfX6_rows rfl (by decide) (by decide) (by first | decide | omega) rfl rfl rfl rfl (Nat.le_of_ble_eq_true rfl) dX6_unlike_100 (Nat.le_refl _) (Nat.le_refl _) ?_
        refine J.iconst C dX6_unlike_103 (v := (nI 1)) (by decide) ?_
        refine J.isub C dX6_unlike_104 ?_
        refine J.istore (ls' := [(0, _), (1, _), (2, _), (3, _), (4, _)]) C dX6_unlike_105 (by decide) rfl ?_
        refine lp_X6_unlike_b C hNt ht hD (fun o ho => ?_) (2 ^ t.1) none (Nat.le_refl _) (fun r h1 h2 => by omega)
        have k2 := rsM_in (I := rsM (stM J0 29) (25 + k)) (a := 29) (t := g.1) (by rw [rsM_o (by decide) (by decide) (by decide) (by decide) (by decide), rsM_o (by decide) (by decide) (by decide) (by decide) (by decide), rsM_o (by decide) (by decide) (by decide) (by decide) (by decide), rsM_o (by decide) (by decide) (by decide) (by decide) (by decide), rsM_o (by decide) (by decide) (by decide) (by decide) (by decide), rsM_o (by decide) (by decide) (by decide) (by decide) (by decide)]; exact k29) h40
        have hfin : AbM (rsM (rsM (stM J0 29) (25 + k)) 29) L g := by
          obtain ⟨h1, ⟨h2a, h2b, h2c⟩, h3, h4, h5, h6⟩ := h
          have e5 : ∀ j, j ≠ 0 → j ≠ 1 → rsM (rsM (stM J0 29) (25 + k)) 29 85 j = I 85 j := fun j a b => by rw [rsM_85 a b, rsM_85 a b, stM_85, hf 85 (by decide)]
          have eo : ∀ q, 90 ≤ q → rsM (rsM (stM J0 29) (25 + k)) 29 q = stM J0 29 q := fun q hq => by rw [rsM_o (by omega) (by omega) (by omega) (by omega) (by omega), rsM_o (by omega) (by omega) (by omega) (by omega) (by omega)]
          have ep : ∀ q, 96 ≤ q → q ≠ 105 → rsM (rsM (stM J0 29) (25 + k)) 29 q = I q := fun q hq hq2 => by rw [eo q (by omega), stM_o (by omega) (by omega) (by omega) (by omega) (by omega) (by omega), hf q hq2]
          refine ⟨k2, ⟨by rw [e5 12 (by decide) (by decide)]; exact h2a, h2b, fun j t' hj => ?_⟩, fun q hq => ?_, ?_, ?_, ?_⟩
          · have hl : j < g.2.1.length := (List.getElem?_eq_some_iff.mp hj).1
            rw [eo 90 (by decide), eo 91 (by decide), eo 92 (by decide), eo 93 (by decide), eo 94 (by decide), eo 95 (by decide)]
            exact stM_out (by omega) (by rw [hf 90 (by decide), hf 91 (by decide), hf 92 (by decide), hf 93 (by decide), hf 94 (by decide), hf 95 (by decide)]; exact h2c j t' hj) (ok.2.1 t' (List.mem_of_getElem? hj)).2.2.1
          · have w := h3 q hq
            rw [eo 90 (by decide), eo 91 (by decide), eo 92 (by decide), eo 93 (by decide), eo 94 (by decide), eo 95 (by decide)]
            cases hs2 : g.2.2.1 q with
            | none =>
              rw [hs2] at w
              show stM J0 29 90 (25 + q) = nI 0
              rw [(stM_v J0 29).1, if_neg (by omega), hf 90 (by decide)]
              exact w
            | some t' =>
              rw [hs2] at w
              exact stM_out (by omega) (by rw [hf 90 (by decide), hf 91 (by decide), hf 92 (by decide), hf 93 (by decide), hf 94 (by decide), hf 95 (by decide)]; exact w) (ok.2.2.2.1 q t' hq hs2).2.2.1
          · rw [ep 96 (by decide) (by decide), ep 97 (by decide) (by decide)]; exact h4
          · rw [e5 17 (by decide) (by decide), ep 99 (by decide) (by decide)]; exact h5
          · rw [e5 18 (by decide) (by decide)]; exact h6
        have hfr : frm I (rsM (rsM (stM J0 29) (25 + k)) 29) := frm_rs (frm_rs (frm_st (fun q hq => hf q (by omega))))
        rw [c44t] at ho
        rw [lst_eq ho]
        cases o with
        | none =>
          refine J.aload_n C dX6_unlike_142 rfl ?_
          refine J.bipush C dX6_unlike_143 (v := (nI 29)) (by decide) ?_
          refine J.cVDv (q := (RX6, TX6, 25)) (ci := 6) C (ok_X6_restore l V _ _ (by omega)) gX6_unlike_X6_restore rfl mfX6_restore rfl (by decide) (by decide) (by first | decide | omega) rfl rfl rfl rfl (Nat.le_of_ble_eq_true rfl) dX6_unlike_145 (Nat.le_refl _) (Nat.le_refl _) ?_
          refine J.iload_n C dX6_unlike_148 rfl ?_
          refine J.if_ge_z C dX6_unlike_149 (tgt := 161) (by decide) (fun c149 => absurd c149 (by first | omega | decide | simp_all)) (fun _ => ?_)
          refine J.aload_n C dX6_unlike_152 rfl ?_
          refine J.bipush C dX6_unlike_153 (v := (-8)) (by decide) ?_
          refine J.cVDi (q := (RX6, TX6, 25)) (ci := 6) C (ok_X6_found l V _ _ _) gX6_unlike_X6_found rfl mfX6_found rfl (by decide) (by decide) (by first | decide | omega) rfl rfl rfl rfl (Nat.le_of_ble_eq_true rfl) dX6_unlike_155 (Nat.le_refl _) (Nat.le_refl _) ?_
          refine J.goto C dX6_unlike_158 (tgt := 162) (by decide) ?_
          exact J.iret C dX6_unlike_162 (qM_s ⟨rfl, AbM_F hfin, frm_F hfr, frmL_rfl⟩)
        | some r =>
          have hr1 := ho.1
          refine J.aload_n C dX6_unlike_142 rfl ?_
          refine J.bipush C dX6_unlike_143 (v := (nI 29)) (by decide) ?_
          refine J.cVDv (q := (RX6, TX6, 25)) (ci := 6) C (ok_X6_restore l V _ _ (by omega)) gX6_unlike_X6_restore rfl mfX6_restore rfl (by decide) (by decide) (by first | decide | omega) rfl rfl rfl rfl (Nat.le_of_ble_eq_true rfl) dX6_unlike_145 (Nat.le_refl _) (Nat.le_refl _) ?_
          refine J.iload_n C dX6_unlike_148 rfl ?_
          refine J.if_ge_n C (by omega) dX6_unlike_149 (tgt := 161) (by decide) ?_
          refine J.iload_n C dX6_unlike_161 rfl ?_
          exact J.iret C dX6_unlike_162 (qM_s ⟨rfl, hfin, hfr, frmL_rfl⟩)
      · rw [tb_0 c44f]
        refine J.aload_n C dX6_unlike_47 rfl ?_
        refine J.bipush C dX6_unlike_48 (v := (-3)) (by decide) ?_
        refine J.cVDi (q := (RX6, TX6, 25)) (ci := 6) C (ok_X6_found l V _ _ _) gX6_unlike_X6_found rfl mfX6_found rfl (by decide) (by decide) (by first | decide | omega) rfl rfl rfl rfl (Nat.le_of_ble_eq_true rfl) dX6_unlike_50 (Nat.le_refl _) (Nat.le_refl _) ?_
        exact J.iret C dX6_unlike_53 (qM_s (qM_F h))
  · rw [tb_0 hi]
    refine Ok.of (cc := cX6_unlike) (maxL := 5) (ret := (some .int)) (by decide) rfl (Nat.le_of_ble_eq_true rfl) (fun X hnm C => ?_)
    have C : CX l X V RX6 cX6_unlike 5 wsX6_unlike 3 0 0 (some .int) := C
    refine J.cast (ls' := [(0, _), (1, _)]) rfl rfl rfl rfl ?_
    refine J.iload_n C dX6_unlike_0 rfl ?_
    refine J.cSDi C (ok_X6_isSlot l V _ _ hx1) gX6_unlike_X6_isSlot rfl mfX6_isSlot (by decide) (by decide) rfl rfl (Nat.le_of_ble_eq_true rfl) dX6_unlike_1 (Nat.le_refl _) (Nat.le_refl _) ?_
    rw [tb_0 hi]
    first | refine J.if_ne_b C dX6_unlike_4 (tgt := 13) (by decide) (fun c4 => absurd c4 (by first | omega | decide | simp_all)) (fun _ => ?_) | refine J.if_ne_n C (by omega) dX6_unlike_4 (tgt := 13) (by decide) (fun c4 => absurd c4 (by first | omega | decide | simp_all)) (fun _ => ?_) | refine J.if_ne C dX6_unlike_4 (tgt := 13) (by decide) (fun c4 => absurd c4 (by first | omega | decide | simp_all)) (fun _ => ?_)
    refine J.aload_n C dX6_unlike_7 rfl ?_
    refine J.iconst C dX6_unlike_8 (v := (-1)) (by decide) ?_
    refine J.cVDi (q := (RX6, TX6, 25)) (ci := 6) C (ok_X6_found l V _ _ _) gX6_unlike_X6_found rfl mfX6_found rfl (by decide) (by decide) (by first | decide | omega) rfl rfl rfl rfl (Nat.le_of_ble_eq_true rfl) dX6_unlike_9 (Nat.le_refl _) (Nat.le_refl _) ?_
    exact J.iret C dX6_unlike_12 (qM_s (qM_F h))
