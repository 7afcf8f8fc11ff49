/-! THE CLASS: kinds under kinds, rounds -/
set_option maxHeartbeats 4000000 in
set_option maxRecDepth 100000 in
theorem lp_X5_isUnder_m {l : Launch} {X : Cx} {V : Vx} {P : Option Value → (Nat → va_E) → Prop} {I : Nat → Nat → Int32} {L : Nat → Nat → Int64} (C : CX l X V RX5 cX5_isUnder 4 wsX5_isUnder 2 0 0 (some .boolean)) {x : Int32} {m c : Nat} (hc : c < 5) (hP : P (some (.int (bI false))) (mm V I L)) : E X V P 4 4 [(0, .int x), (1, .int (nI m)), (2, .int (-1)), (3, .int (nI c))] [] I L := by
  refine J.iload_n C dX5_isUnder_4 rfl ?_
  refine J.iconst C dX5_isUnder_5 (v := (nI 5)) (by decide) ?_
  first | refine J.icmp_ge_n C (by omega) (by omega) dX5_isUnder_6 (tgt := 35) (by decide) (fun c6 => absurd c6 (by first | omega | decide | simp_all)) (fun _ => ?_) | refine J.icmp_ge_xn C (by omega) dX5_isUnder_6 (tgt := 35) (by decide) (fun c6 => absurd c6 (by first | omega | decide | simp_all)) (fun _ => ?_) | refine J.icmp_ge_nx C (by omega) dX5_isUnder_6 (tgt := 35) (by decide) (fun c6 => absurd c6 (by first | omega | decide | simp_all)) (fun _ => ?_) | refine J.icmp_ge C dX5_isUnder_6 (tgt := 35) (by decide) (fun c6 => absurd c6 (by first | omega | decide | simp_all)) (fun _ => ?_)
  refine J.iload_n C dX5_isUnder_9 rfl ?_
  refine J.cSDi C (ok_X5_isKind (o := none) l V _ _ (show ((-1 : Int32)).toInt < 0 by decide)) gX5_isUnder_X5_isKind rfl mfX5_isKind (by decide) (by decide) rfl rfl (Nat.le_of_ble_eq_true rfl) dX5_isUnder_10 (Nat.le_refl _) (Nat.le_refl _) ?_
  first | refine J.if_eq_b C dX5_isUnder_13 (tgt := 35) (by decide) (fun _ => ?_) (fun c13 => absurd c13 (by rw [tb_0 inO_n]; decide)) | refine J.if_eq_n C (by omega) dX5_isUnder_13 (tgt := 35) (by decide) (fun _ => ?_) (fun c13 => absurd c13 (by rw [tb_0 inO_n]; decide)) | refine J.if_eq C dX5_isUnder_13 (tgt := 35) (by decide) (fun _ => ?_) (fun c13 => absurd c13 (by rw [tb_0 inO_n]; decide))
  refine J.iconst C dX5_isUnder_35 (v := (nI 0)) (by decide) ?_
  exact J.zret C dX5_isUnder_36 (by first | exact bI_nar _ | rfl | decide | assumption) hP
set_option maxHeartbeats 4000000 in
set_option maxRecDepth 100000 in
theorem lp_X5_isUnder_0 {l : Launch} {X : Cx} {V : Vx} {P : Option Value → (Nat → va_E) → Prop} {I : Nat → Nat → Int32} {L : Nat → Nat → Int64} (C : CX l X V RX5 cX5_isUnder 4 wsX5_isUnder 2 0 0 (some .boolean)) {x : Int32} {m c : Nat} (hm : m < 5) (hc : c < 4) (ht : m = 0 → P (some (.int (bI true))) (mm V I L)) (hf : ¬ m = 0 → P (some (.int (bI false))) (mm V I L)) : E X V P 4 4 [(0, .int x), (1, .int (nI m)), (2, .int (nI 0)), (3, .int (nI c))] [] I L := by
  refine J.iload_n C dX5_isUnder_4 rfl ?_
  refine J.iconst C dX5_isUnder_5 (v := (nI 5)) (by decide) ?_
  first | refine J.icmp_ge_n C (by omega) (by omega) dX5_isUnder_6 (tgt := 35) (by decide) (fun c6 => absurd c6 (by first | omega | decide | simp_all)) (fun _ => ?_) | refine J.icmp_ge_xn C (by omega) dX5_isUnder_6 (tgt := 35) (by decide) (fun c6 => absurd c6 (by first | omega | decide | simp_all)) (fun _ => ?_) | refine J.icmp_ge_nx C (by omega) dX5_isUnder_6 (tgt := 35) (by decide) (fun c6 => absurd c6 (by first | omega | decide | simp_all)) (fun _ => ?_) | refine J.icmp_ge C dX5_isUnder_6 (tgt := 35) (by decide) (fun c6 => absurd c6 (by first | omega | decide | simp_all)) (fun _ => ?_)
  refine J.iload_n C dX5_isUnder_9 rfl ?_
  refine J.cSDi C (ok_X5_isKind (o := some 0) l V _ _ ⟨by omega, rfl⟩) gX5_isUnder_X5_isKind rfl mfX5_isKind (by decide) (by decide) rfl rfl (Nat.le_of_ble_eq_true rfl) dX5_isUnder_10 (Nat.le_refl _) (Nat.le_refl _) ?_
  first | refine J.if_eq_b C dX5_isUnder_13 (tgt := 35) (by decide) (fun c13 => absurd c13 (by rw [tb_1 (inO_s.mpr (by decide))]; decide)) (fun _ => ?_) | refine J.if_eq_n C (by omega) dX5_isUnder_13 (tgt := 35) (by decide) (fun c13 => absurd c13 (by rw [tb_1 (inO_s.mpr (by decide))]; decide)) (fun _ => ?_) | refine J.if_eq C dX5_isUnder_13 (tgt := 35) (by decide) (fun c13 => absurd c13 (by rw [tb_1 (inO_s.mpr (by decide))]; decide)) (fun _ => ?_)
  refine J.iload_n C dX5_isUnder_16 rfl ?_
  refine J.iload_n C dX5_isUnder_17 rfl ?_
  first | refine J.icmp_ne_n C (by omega) (by omega) dX5_isUnder_18 (tgt := 23) (by decide) (fun c18t => ?_) (fun c18f => ?_) | refine J.icmp_ne_xn C (by omega) dX5_isUnder_18 (tgt := 23) (by decide) (fun c18t => ?_) (fun c18f => ?_) | refine J.icmp_ne_nx C (by omega) dX5_isUnder_18 (tgt := 23) (by decide) (fun c18t => ?_) (fun c18f => ?_) | refine J.icmp_ne C dX5_isUnder_18 (tgt := 23) (by decide) (fun c18t => ?_) (fun c18f => ?_)
  · refine J.ka C (by decide +kernel) dX5_isUnder_23 ?_
    refine J.iload_n C dX5_isUnder_26 rfl ?_
    refine J.kal C rfl (by decide) rfl dX5_isUnder_27 ?_
    refine J.istore_n (ls' := [(0, _), (1, _), (2, _), (3, _)]) C dX5_isUnder_28 (by decide) rfl ?_
    refine J.iinc (ls' := [(0, _), (1, _), (2, _), (3, _)]) C dX5_isUnder_29 rfl (by first | exact nI_inc _ 1 | exact rfl) (by decide) rfl ?_
    refine J.goto C dX5_isUnder_32 (tgt := 4) (by decide) ?_
    exact lp_X5_isUnder_m C (by omega) (hf (by omega))
  · refine J.iconst C dX5_isUnder_21 (v := (nI 1)) (by decide) ?_
    exact J.zret C dX5_isUnder_22 (by first | exact bI_nar _ | rfl | decide | assumption) (ht (by omega))
set_option maxHeartbeats 4000000 in
set_option maxRecDepth 100000 in
theorem lp_X5_isUnder_1 {l : Launch} {X : Cx} {V : Vx} {P : Option Value → (Nat → va_E) → Prop} {I : Nat → Nat → Int32} {L : Nat → Nat → Int64} (C : CX l X V RX5 cX5_isUnder 4 wsX5_isUnder 2 0 0 (some .boolean)) {x : Int32} {m c k : Nat} (hm : m < 5) (hc : c < 3) (h1 : 1 ≤ k) (h2 : k ≤ 2) (ht : (m = k ∨ m = 0) → P (some (.int (bI true))) (mm V I L)) (hf : ¬ (m = k ∨ m = 0) → P (some (.int (bI false))) (mm V I L)) : E X V P 4 4 [(0, .int x), (1, .int (nI m)), (2, .int (nI k)), (3, .int (nI c))] [] I L := by
  have e : kaF k = .int (nI 0) := by rcases (show k = 1 ∨ k = 2 by omega) with q | q <;> subst q <;> rfl
  refine J.iload_n C dX5_isUnder_4 rfl ?_
  refine J.iconst C dX5_isUnder_5 (v := (nI 5)) (by decide) ?_
  first | refine J.icmp_ge_n C (by omega) (by omega) dX5_isUnder_6 (tgt := 35) (by decide) (fun c6 => absurd c6 (by first | omega | decide | simp_all)) (fun _ => ?_) | refine J.icmp_ge_xn C (by omega) dX5_isUnder_6 (tgt := 35) (by decide) (fun c6 => absurd c6 (by first | omega | decide | simp_all)) (fun _ => ?_) | refine J.icmp_ge_nx C (by omega) dX5_isUnder_6 (tgt := 35) (by decide) (fun c6 => absurd c6 (by first | omega | decide | simp_all)) (fun _ => ?_) | refine J.icmp_ge C dX5_isUnder_6 (tgt := 35) (by decide) (fun c6 => absurd c6 (by first | omega | decide | simp_all)) (fun _ => ?_)
  refine J.iload_n C dX5_isUnder_9 rfl ?_
  refine J.cSDi C (ok_X5_isKind (o := some k) l V _ _ ⟨by omega, rfl⟩) gX5_isUnder_X5_isKind rfl mfX5_isKind (by decide) (by decide) rfl rfl (Nat.le_of_ble_eq_true rfl) dX5_isUnder_10 (Nat.le_refl _) (Nat.le_refl _) ?_
  first | refine J.if_eq_b C dX5_isUnder_13 (tgt := 35) (by decide) (fun c13 => absurd c13 (by rw [tb_1 (inO_s.mpr (by omega))]; decide)) (fun _ => ?_) | refine J.if_eq_n C (by omega) dX5_isUnder_13 (tgt := 35) (by decide) (fun c13 => absurd c13 (by rw [tb_1 (inO_s.mpr (by omega))]; decide)) (fun _ => ?_) | refine J.if_eq C dX5_isUnder_13 (tgt := 35) (by decide) (fun c13 => absurd c13 (by rw [tb_1 (inO_s.mpr (by omega))]; decide)) (fun _ => ?_)
  refine J.iload_n C dX5_isUnder_16 rfl ?_
  refine J.iload_n C dX5_isUnder_17 rfl ?_
  first | refine J.icmp_ne_n C (by omega) (by omega) dX5_isUnder_18 (tgt := 23) (by decide) (fun c18t => ?_) (fun c18f => ?_) | refine J.icmp_ne_xn C (by omega) dX5_isUnder_18 (tgt := 23) (by decide) (fun c18t => ?_) (fun c18f => ?_) | refine J.icmp_ne_nx C (by omega) dX5_isUnder_18 (tgt := 23) (by decide) (fun c18t => ?_) (fun c18f => ?_) | refine J.icmp_ne C dX5_isUnder_18 (tgt := 23) (by decide) (fun c18t => ?_) (fun c18f => ?_)
  · refine J.ka C (by decide +kernel) dX5_isUnder_23 ?_
    refine J.iload_n C dX5_isUnder_26 rfl ?_
    refine J.kal C rfl (by omega) e dX5_isUnder_27 ?_
    refine J.istore_n (ls' := [(0, _), (1, _), (2, _), (3, _)]) C dX5_isUnder_28 (by decide) rfl ?_
    refine J.iinc (ls' := [(0, _), (1, _), (2, _), (3, _)]) C dX5_isUnder_29 rfl (by first | exact nI_inc _ 1 | exact rfl) (by decide) rfl ?_
    refine J.goto C dX5_isUnder_32 (tgt := 4) (by decide) ?_
    exact lp_X5_isUnder_0 C hm (by omega) (fun q => ht (Or.inr q)) (fun q => hf (fun z => by omega))
  · refine J.iconst C dX5_isUnder_21 (v := (nI 1)) (by decide) ?_
    exact J.zret C dX5_isUnder_22 (by first | exact bI_nar _ | rfl | decide | assumption) (ht (by omega))
set_option maxHeartbeats 4000000 in
set_option maxRecDepth 100000 in
theorem lp_X5_isUnder_3 {l : Launch} {X : Cx} {V : Vx} {P : Option Value → (Nat → va_E) → Prop} {I : Nat → Nat → Int32} {L : Nat → Nat → Int64} (C : CX l X V RX5 cX5_isUnder 4 wsX5_isUnder 2 0 0 (some .boolean)) {x : Int32} {m c k : Nat} (hm : m < 5) (hc : c < 2) (h1 : 3 ≤ k) (h2 : k ≤ 4) (ht : (m = k ∨ m = k - 2 ∨ m = 0) → P (some (.int (bI true))) (mm V I L)) (hf : ¬ (m = k ∨ m = k - 2 ∨ m = 0) → P (some (.int (bI false))) (mm V I L)) : E X V P 4 4 [(0, .int x), (1, .int (nI m)), (2, .int (nI k)), (3, .int (nI c))] [] I L := by
  have e : kaF k = .int (nI (k - 2)) := by rcases (show k = 3 ∨ k = 4 by omega) with q | q <;> subst q <;> rfl
  refine J.iload_n C dX5_isUnder_4 rfl ?_
  refine J.iconst C dX5_isUnder_5 (v := (nI 5)) (by decide) ?_
  first | refine J.icmp_ge_n C (by omega) (by omega) dX5_isUnder_6 (tgt := 35) (by decide) (fun c6 => absurd c6 (by first | omega | decide | simp_all)) (fun _ => ?_) | refine J.icmp_ge_xn C (by omega) dX5_isUnder_6 (tgt := 35) (by decide) (fun c6 => absurd c6 (by first | omega | decide | simp_all)) (fun _ => ?_) | refine J.icmp_ge_nx C (by omega) dX5_isUnder_6 (tgt := 35) (by decide) (fun c6 => absurd c6 (by first | omega | decide | simp_all)) (fun _ => ?_) | refine J.icmp_ge C dX5_isUnder_6 (tgt := 35) (by decide) (fun c6 => absurd c6 (by first | omega | decide | simp_all)) (fun _ => ?_)
  refine J.iload_n C dX5_isUnder_9 rfl ?_
  refine J.cSDi C (ok_X5_isKind (o := some k) l V _ _ ⟨by omega, rfl⟩) gX5_isUnder_X5_isKind rfl mfX5_isKind (by decide) (by decide) rfl rfl (Nat.le_of_ble_eq_true rfl) dX5_isUnder_10 (Nat.le_refl _) (Nat.le_refl _) ?_
  first | refine J.if_eq_b C dX5_isUnder_13 (tgt := 35) (by decide) (fun c13 => absurd c13 (by rw [tb_1 (inO_s.mpr (by omega))]; decide)) (fun _ => ?_) | refine J.if_eq_n C (by omega) dX5_isUnder_13 (tgt := 35) (by decide) (fun c13 => absurd c13 (by rw [tb_1 (inO_s.mpr (by omega))]; decide)) (fun _ => ?_) | refine J.if_eq C dX5_isUnder_13 (tgt := 35) (by decide) (fun c13 => absurd c13 (by rw [tb_1 (inO_s.mpr (by omega))]; decide)) (fun _ => ?_)
  refine J.iload_n C dX5_isUnder_16 rfl ?_
  refine J.iload_n C dX5_isUnder_17 rfl ?_
  first | refine J.icmp_ne_n C (by omega) (by omega) dX5_isUnder_18 (tgt := 23) (by decide) (fun c18t => ?_) (fun c18f => ?_) | refine J.icmp_ne_xn C (by omega) dX5_isUnder_18 (tgt := 23) (by decide) (fun c18t => ?_) (fun c18f => ?_) | refine J.icmp_ne_nx C (by omega) dX5_isUnder_18 (tgt := 23) (by decide) (fun c18t => ?_) (fun c18f => ?_) | refine J.icmp_ne C dX5_isUnder_18 (tgt := 23) (by decide) (fun c18t => ?_) (fun c18f => ?_)
  · refine J.ka C (by decide +kernel) dX5_isUnder_23 ?_
    refine J.iload_n C dX5_isUnder_26 rfl ?_
    refine J.kal C rfl (by omega) e dX5_isUnder_27 ?_
    refine J.istore_n (ls' := [(0, _), (1, _), (2, _), (3, _)]) C dX5_isUnder_28 (by decide) rfl ?_
    refine J.iinc (ls' := [(0, _), (1, _), (2, _), (3, _)]) C dX5_isUnder_29 rfl (by first | exact nI_inc _ 1 | exact rfl) (by decide) rfl ?_
    refine J.goto C dX5_isUnder_32 (tgt := 4) (by decide) ?_
    exact lp_X5_isUnder_1 C hm (by omega) (by omega) (by omega) (fun q => ht (by omega)) (fun q => hf (by omega))
  · refine J.iconst C dX5_isUnder_21 (v := (nI 1)) (by decide) ?_
    exact J.zret C dX5_isUnder_22 (by first | exact bI_nar _ | rfl | decide | assumption) (ht (by omega))
set_option maxHeartbeats 4000000 in
set_option maxRecDepth 100000 in
theorem ok_X5_isUnder (l : Launch) (V : Vx) {k m : Nat} (I : Nat → Nat → Int32) (L : Nat → Nat → Int64) (hk : k ≤ 4) (hm : m < 5) : Di l V yX5_isUnder wsX5_isUnder 2 [.int (nI k), .int (nI m)] I L (bI (und k m)) I L := by
  have ut := und_t (m := m) hk
  refine Ok.of (cc := cX5_isUnder) (maxL := 4) (ret := (some .boolean)) (by decide) rfl (Nat.le_of_ble_eq_true rfl) (fun X hnm C => ?_)
  have C : CX l X V RX5 cX5_isUnder 4 wsX5_isUnder 2 0 0 (some .boolean) := C
  refine J.cast (ls' := [(0, _), (1, _)]) rfl rfl rfl rfl ?_
  refine J.iload_n C dX5_isUnder_0 rfl ?_
  refine J.istore_n (ls' := [(0, _), (1, _), (2, _)]) C dX5_isUnder_1 (by decide) rfl ?_
  refine J.iconst C dX5_isUnder_2 (v := (nI 0)) (by decide) ?_
  refine J.istore_n (ls' := [(0, _), (1, _), (2, _), (3, _)]) C dX5_isUnder_3 (by decide) rfl ?_
  rcases (show k = 0 ∨ (1 ≤ k ∧ k ≤ 2) ∨ 3 ≤ k by omega) with e | e | e
  · subst e
    refine lp_X5_isUnder_0 C hm (by decide) (fun q => ?_) (fun q => ?_)
    · rw [ut.mpr (by omega)]; exact ⟨rfl, rfl⟩
    · rw [show und _ m = false from Bool.eq_false_iff.mpr (fun z => by have := ut.mp z; omega)]; exact ⟨rfl, rfl⟩
  · refine lp_X5_isUnder_1 C hm (by decide) e.1 e.2 (fun q => ?_) (fun q => ?_)
    · rw [ut.mpr (by omega)]; exact ⟨rfl, rfl⟩
    · rw [show und _ m = false from Bool.eq_false_iff.mpr (fun z => by have := ut.mp z; omega)]; exact ⟨rfl, rfl⟩
  · refine lp_X5_isUnder_3 C hm (by decide) e hk (fun q => ?_) (fun q => ?_)
    · rw [ut.mpr (by omega)]; exact ⟨rfl, rfl⟩
    · rw [show und _ m = false from Bool.eq_false_iff.mpr (fun z => by have := ut.mp z; omega)]; exact ⟨rfl, rfl⟩
set_option maxHeartbeats 4000000 in
set_option maxRecDepth 100000 in
theorem ok_X5_as (l : Launch) (V : Vx) {g : Sg} {x1 : Int32} {o1 : Option Nat}{x2 : Int32} {o2 : Option Nat} (I : Nat → Nat → Int32) (L : Nat → Nat → Int64) (hx1 : AG x1 o1) (hx2 : AG x2 o2) (hz : V.2.2.2.2.2 = false) (h : AbC I L g) (ok : okG g) : PC l V yX5_as wsX5_as 3 [.ref (ad V 0), .int x1, .int x2] I L (op_as g o1 o2) := by
  have hN := h.1
  have h0 := hN.1
  have hm := hN.2.1
  have hl2 := ok.1.1
  have hl8 := ok.1.2.1
  have h40 := ok.1.2.2.1
  refine Ok.of (cc := cX5_as) (maxL := 3) (ret := (some .int)) (by decide) rfl (Nat.le_of_ble_eq_true rfl) (fun X hnm C => ?_)
  have C : CX l X V RX5 cX5_as 3 wsX5_as 3 0 0 (some .int) := C
  refine J.cast (ls' := [(0, _), (1, _), (2, _)]) rfl rfl rfl rfl ?_
  refine J.aload_n C dX5_as_0 rfl ?_
  refine J.getR C flX5_as_10 (by first | decide | omega) rfl (by exact rfl) dX5_as_1 ?_
  refine J.iload_n C dX5_as_4 rfl ?_
  refine J.cVDi (q := (RX3, TX3, 3)) (ci := 3) C (ok_X3_has l V _ _ rfl hx1 hm h40) gX5_as_X3_has rfl mfX3_has rfl (by decide) (by decide) (by first | decide | omega) (by first | exact rfl | exact mk_3 (by assumption)) rfl rfl rfl (Nat.le_of_ble_eq_true rfl) dX5_as_5 (Nat.le_refl _) (Nat.le_refl _) ?_
  first | refine J.if_eq_b C dX5_as_8 (tgt := 18) (by decide) (fun c8t => ?_) (fun c8f => ?_) | refine J.if_eq_n C (by omega) dX5_as_8 (tgt := 18) (by decide) (fun c8t => ?_) (fun c8f => ?_) | refine J.if_eq C dX5_as_8 (tgt := 18) (by decide) (fun c8t => ?_) (fun c8f => ?_)
  · refine J.aload_n C dX5_as_18 rfl ?_
    refine J.iconst C dX5_as_19 (v := (-1)) (by decide) ?_
    refine J.cVDi (q := (RX5, TX5, 11)) (ci := 5) C (ok_X5_finding l V _ _ _) gX5_as_X5_finding rfl mfX5_finding rfl (by decide) (by decide) (by first | decide | omega) rfl rfl rfl rfl (Nat.le_of_ble_eq_true rfl) dX5_as_20 (Nat.le_refl _) (Nat.le_refl _) ?_
    exact J.iret C dX5_as_23 (qC_s (by unfold op_as; rw [tb_0 (fun q => by first | exact tb_f.mp c8t q.1 | exact tb_f.mp c15f q.2)]; exact qC_F h))
  · refine J.iload_n C dX5_as_11 rfl ?_
    refine J.cSDi C (ok_X5_isKind l V _ _ hx2) gX5_as_X5_isKind rfl mfX5_isKind (by decide) (by decide) rfl rfl (Nat.le_of_ble_eq_true rfl) dX5_as_12 (Nat.le_refl _) (Nat.le_refl _) ?_
    first | refine J.if_ne_b C dX5_as_15 (tgt := 24) (by decide) (fun c15t => ?_) (fun c15f => ?_) | refine J.if_ne_n C (by omega) dX5_as_15 (tgt := 24) (by decide) (fun c15t => ?_) (fun c15f => ?_) | refine J.if_ne C dX5_as_15 (tgt := 24) (by decide) (fun c15t => ?_) (fun c15f => ?_)
    · obtain ⟨i, rfl, hi⟩ := tb_t.mp c8f
      obtain ⟨k, rfl, hk⟩ := tb_t.mp c15t
      obtain ⟨-, rfl⟩ := hx1
      obtain ⟨-, rfl⟩ := hx2
      have e : op_as g (some i) (some k) = cond (und (g.1.2.2 i).1 k) (nI i, g) (-4, gF g) := by
        unfold op_as
        rw [tb_1 (show inO (some i) g.1.2.1 ∧ inO (some k) 5 from ⟨tb_t.mp c8f, tb_t.mp c15t⟩)]
        rfl
      rw [e]
      have hcB := okC_B (ok.1.2.2.2 i hi) hl8
      refine J.aload_n C dX5_as_24 rfl ?_
      refine J.getR C flX5_as_10 (by first | decide | omega) rfl (by exact rfl) dX5_as_25 ?_
      refine J.iload_n C dX5_as_28 rfl ?_
      refine J.cVDi (q := (RX3, TX3, 3)) (ci := 3) C (ok_X3_kind l V _ _ rfl (by omega) hcB (hN.2.2 i hi)) gX5_as_X3_kind rfl mfX3_kind rfl (by decide) (by decide) (by first | decide | omega) (by first | exact rfl | exact mk_3 (by assumption)) rfl rfl rfl (Nat.le_of_ble_eq_true rfl) dX5_as_29 (Nat.le_refl _) (Nat.le_refl _) ?_
      refine J.iload_n C dX5_as_32 rfl ?_
      refine J.cSDi C (ok_X5_isUnder l V _ _ hcB.1 hk) gX5_as_X5_isUnder rfl mfX5_isUnder (by decide) (by decide) rfl rfl (Nat.le_of_ble_eq_true rfl) dX5_as_33 (Nat.le_refl _) (Nat.le_refl _) ?_
      first | refine J.if_ne_b C dX5_as_36 (tgt := 46) (by decide) (fun c36t => ?_) (fun c36f => ?_) | refine J.if_ne_n C (by omega) dX5_as_36 (tgt := 46) (by decide) (fun c36t => ?_) (fun c36f => ?_) | refine J.if_ne C dX5_as_36 (tgt := 46) (by decide) (fun c36t => ?_) (fun c36f => ?_)
      · rw [c36t]
        refine J.iload_n C dX5_as_46 rfl ?_
        exact J.iret C dX5_as_47 (qC_s ⟨rfl, h, frC_rfl, frCL_rfl⟩)
      · rw [c36f]
        refine J.aload_n C dX5_as_39 rfl ?_
        refine J.bipush C dX5_as_40 (v := (-4)) (by decide) ?_
        refine J.cVDi (q := (RX5, TX5, 11)) (ci := 5) C (ok_X5_finding l V _ _ _) gX5_as_X5_finding rfl mfX5_finding rfl (by decide) (by decide) (by first | decide | omega) rfl rfl rfl rfl (Nat.le_of_ble_eq_true rfl) dX5_as_42 (Nat.le_refl _) (Nat.le_refl _) ?_
        exact J.iret C dX5_as_45 (qC_s (qC_F h))
    · refine J.aload_n C dX5_as_18 rfl ?_
      refine J.iconst C dX5_as_19 (v := (-1)) (by decide) ?_
      refine J.cVDi (q := (RX5, TX5, 11)) (ci := 5) C (ok_X5_finding l V _ _ _) gX5_as_X5_finding rfl mfX5_finding rfl (by decide) (by decide) (by first | decide | omega) rfl rfl rfl rfl (Nat.le_of_ble_eq_true rfl) dX5_as_20 (Nat.le_refl _) (Nat.le_refl _) ?_
      exact J.iret C dX5_as_23 (qC_s (by unfold op_as; rw [tb_0 (fun q => by first | exact tb_f.mp c8t q.1 | exact tb_f.mp c15f q.2)]; exact qC_F h))
/-- the number of each lane behind so many comparers: the round of the last one that touches it -/
def lnR (f : Nat → Cmp) : Nat → Nat → Nat
  | 0 => fun _ => 0
  | k + 1 => va_up (va_up (lnR f k) (f k).2.1 (max (lnR f k (f k).2.1) (lnR f k (f k).2.2.1) + 1)) (f k).2.2.1 (max (lnR f k (f k).2.1) (lnR f k (f k).2.2.1) + 1)
def onL (x : Nat) (c : Cmp) : Prop := c.2.1 = x ∨ c.2.2.1 = x
theorem lnR_on {f : Nat → Cmp} {k x : Nat} (h : onL x (f k)) : lnR f (k + 1) x = max (lnR f k (f k).2.1) (lnR f k (f k).2.2.1) + 1 := by
  show va_up (va_up _ _ _) _ _ x = _
  by_cases e : x = (f k).2.2.1
  · subst e; rw [va_up_self]
  · rw [va_up_ne _ _ e]
    rcases h with q | q
    · subst q; rw [va_up_self]
    · exact absurd q.symm e
theorem lnR_off {f : Nat → Cmp} {k x : Nat} (h : ¬ onL x (f k)) : lnR f (k + 1) x = lnR f k x := by
  show va_up (va_up _ _ _) _ _ x = _
  rw [va_up_ne _ _ (fun e => h (Or.inr e.symm)), va_up_ne _ _ (fun e => h (Or.inl e.symm))]
theorem rdA_eq {f : Nat → Cmp} : ∀ k j, j < k → rdA f k j = rdF f j
  | k + 1, j, h => by
    unfold rdA
    by_cases e : j = k
    · subst e; rw [va_up_self]; rfl
    · rw [va_up_ne _ _ e]; exact rdA_eq k j (by omega)
theorem mxR_a {f : Nat → Cmp} {r : Nat → Nat} {k : Nat} : ∀ m j, j < m → shr (f j) (f k) → r j ≤ mxR f r k m
  | m + 1, j, h, hs => by
    unfold mxR
    by_cases e : j = m
    · subst e
      by_cases q : mxR f r k j < r j
      · rw [tb_1 ⟨hs, q⟩]; exact Nat.le_refl _
      · rw [tb_0 (fun z => q z.2)]; show r j ≤ mxR f r k j; omega
    · have ih := mxR_a (r := r) m j (by omega) hs
      cases hb : tb (shr (f m) (f k) ∧ mxR f r k m < r m) with
      | false => exact ih
      | true => have := (tb_t.mp hb).2; show r j ≤ r m; omega
theorem mxR_b {f : Nat → Cmp} {r : Nat → Nat} {k : Nat} : ∀ m, mxR f r k m = 0 ∨ ∃ j, j < m ∧ shr (f j) (f k) ∧ r j = mxR f r k m
  | 0 => Or.inl rfl
  | m + 1 => by
    unfold mxR
    cases hb : tb (shr (f m) (f k) ∧ mxR f r k m < r m) with
    | true => exact Or.inr ⟨m, by omega, (tb_t.mp hb).1, rfl⟩
    | false =>
      rcases mxR_b m with q | ⟨j, h1, h2, h3⟩
      · exact Or.inl q
      · exact Or.inr ⟨j, by omega, h2, h3⟩
theorem lnR_p {f : Nat → Cmp} : ∀ k, (∀ x j, j < k → onL x (f j) → rdF f j ≤ lnR f k x) ∧ (∀ x, lnR f k x = 0 ∨ ∃ j, j < k ∧ onL x (f j) ∧ rdF f j = lnR f k x) ∧ max (lnR f k (f k).2.1) (lnR f k (f k).2.2.1) + 1 = rdF f k
  | 0 => ⟨fun x j h => absurd h (Nat.not_lt_zero _), fun x => Or.inl rfl, rfl⟩
  | k + 1 => by
    obtain ⟨ha, hb, hc⟩ := lnR_p (f := f) k
    have a' : ∀ x j, j < k + 1 → onL x (f j) → rdF f j ≤ lnR f (k + 1) x := fun x j hj ho => by
      by_cases o : onL x (f k)
      · rw [lnR_on o]
        by_cases e : j = k
        · subst e; omega
        · have w := ha x j (by omega) ho
          have : lnR f k x ≤ max (lnR f k (f k).2.1) (lnR f k (f k).2.2.1) := by
            rcases o with q | q
            · rw [q]; omega
            · rw [q]; omega
          omega
      · rw [lnR_off o]
        exact ha x j (by rcases Nat.lt_or_ge j k with q | q; exact q; exact absurd (by rw [show k = j by omega]; exact ho) o) ho
    have b' : ∀ x, lnR f (k + 1) x = 0 ∨ ∃ j, j < k + 1 ∧ onL x (f j) ∧ rdF f j = lnR f (k + 1) x := fun x => by
      by_cases o : onL x (f k)
      · exact Or.inr ⟨k, by omega, o, by rw [lnR_on o, hc]⟩
      · rw [lnR_off o]
        rcases hb x with q | ⟨j, h1, h2, h3⟩
        · exact Or.inl q
        · exact Or.inr ⟨j, by omega, h2, h3⟩
    refine ⟨a', b', ?_⟩
    show _ = mxR f (rdA f (k + 1)) (k + 1) (k + 1) + 1
    congr 1
    have s1 : ∀ c d : Cmp, shr c d ↔ onL d.2.1 c ∨ onL d.2.2.1 c := fun c d => by unfold shr onL; omega
    apply Nat.le_antisymm
    · rcases (show max (lnR f (k + 1) (f (k + 1)).2.1) (lnR f (k + 1) (f (k + 1)).2.2.1) = lnR f (k + 1) (f (k + 1)).2.1 ∨ max (lnR f (k + 1) (f (k + 1)).2.1) (lnR f (k + 1) (f (k + 1)).2.2.1) = lnR f (k + 1) (f (k + 1)).2.2.1 by omega) with e | e
      · rw [e]
        rcases b' (f (k + 1)).2.1 with q | ⟨j, h1, h2, h3⟩
        · omega
        · rw [← h3, ← rdA_eq (k + 1) j h1]
          exact mxR_a _ j h1 ((s1 _ _).mpr (Or.inl h2))
      · rw [e]
        rcases b' (f (k + 1)).2.2.1 with q | ⟨j, h1, h2, h3⟩
        · omega
        · rw [← h3, ← rdA_eq (k + 1) j h1]
          exact mxR_a _ j h1 ((s1 _ _).mpr (Or.inr h2))
    · rcases mxR_b (f := f) (r := rdA f (k + 1)) (k := k + 1) (k + 1) with q | ⟨j, h1, h2, h3⟩
      · omega
      · rw [← h3, rdA_eq (k + 1) j h1]
        rcases (s1 _ _).mp h2 with o | o
        · have := a' _ j h1 o; omega
        · have := a' _ j h1 o; omega
theorem rdF_le {f : Nat → Cmp} (k : Nat) : rdF f k ≤ k + 2 := by have := lsR_le (f := f) (k + 1); unfold rdF; omega
theorem lnR_le {f : Nat → Cmp} {k x : Nat} : lnR f k x ≤ k + 1 := by
  rcases (lnR_p (f := f) k).2.1 x with q | ⟨j, h1, h2, h3⟩
  · omega
  · have := rdF_le (f := f) j; omega
theorem mx_n {a b : Nat} (ha : a < 2 ^ 30) (hb : b < 2 ^ 30) : (if nI a < nI b then nI b else nI a) = nI (max a b) := by
  by_cases e : a < b
  · rw [if_pos ((nI_ltI (by omega) (by omega)).mpr e), Nat.max_eq_right (by omega)]
  · rw [if_neg (fun q => e ((nI_ltI (by omega) (by omega)).mp q)), Nat.max_eq_left (by omega)]
theorem mn_n {a b : Nat} (ha : a < 2 ^ 30) (hb : b < 2 ^ 30) : (if nI b < nI a then nI b else nI a) = nI (min a b) := by
  by_cases e : b < a
  · rw [if_pos ((nI_ltI (by omega) (by omega)).mpr e), Nat.min_eq_right (by omega)]
  · rw [if_neg (fun q => e ((nI_ltI (by omega) (by omega)).mp q)), Nat.min_eq_left (by omega)]
/-- cells that only serve a reckoning -/
theorem AbC_fr {I I' : Nat → Nat → Int32} {L L' : Nat → Nat → Int64} {g : Sg} (h : AbC I L g) (ek : ∀ k, k < 85 → k ≠ 63 → (k < 57 ∨ 61 ≤ k) → I' k = I k) (el : ∀ k, k < 85 → 61 ≤ k → L' k = L k) : AbC I' L' g := by
  obtain ⟨h1, ⟨f, h2a, h2b, h2c, h2d, h2e⟩, h3, h4, h5, h6, h7⟩ := h
  refine ⟨netC_of h1 (ek 1 (by decide) (by decide) (by decide)) (ek 2 (by decide) (by decide) (by decide)), ⟨f, h2a, by rw [ek 4 (by decide) (by decide) (by decide)]; exact h2b, by rw [ek 4 (by decide) (by decide) (by decide)]; exact h2c, h2d, fun j t' hj => netC_of (h2e j t' hj) (ek _ (by omega) (by omega) (by omega)) (ek _ (by omega) (by omega) (by omega))⟩, fun k hk => ?_, fun k hk => ?_, ?_, ?_, ?_⟩
  · have w := h3 k hk
    cases hs : g.2.2.1 k with
    | none => rw [hs] at w; show I' _ 0 = _; rw [ek _ (by omega) (by omega) (by omega)]; exact w
    | some t' => rw [hs] at w; exact netC_of w (ek _ (by omega) (by omega) (by omega)) (ek _ (by omega) (by omega) (by omega))
  · have w := h4 k hk
    rw [ek _ (by omega) (by omega) (by omega), el _ (by omega) (by omega)]
    exact w
  · rw [ek 0 (by decide) (by decide) (by decide), ek 64 (by decide) (by decide) (by decide)]; exact h5
  · rw [ek 0 (by decide) (by decide) (by decide)]; exact h6
  · rw [ek 61 (by decide) (by decide) (by decide), ek 62 (by decide) (by decide) (by decide), el 61 (by decide) (by decide)]; exact h7
set_option maxHeartbeats 4000000 in
set_option maxRecDepth 100000 in
theorem lp_X5_lastRound_a {l : Launch} {X : Cx} {V : Vx} {P : Option Value → (Nat → va_E) → Prop} {I : Nat → Nat → Int32} {L : Nat → Nat → Int64} (C : CX l X V RX5 cX5_lastRound 7 wsX5_lastRound 2 0 0 (some .int)) {c : Nat} (hx : ∀ J0, (∀ k, k ≠ 63 → J0 k = I k) → (∀ x, x < 8 → J0 63 x = nI 0) → E X V P 7 21 [(0, .ref (ad V 0)), (1, .int (nI c)), (2, .int (nI 8))] [] J0 L) : ∀ (k i : Nat) (J0 : Nat → Nat → Int32), i + k = 8 → (∀ k, k ≠ 63 → J0 k = I k) → (∀ x, x < i → J0 63 x = nI 0) → E X V P 7 2 [(0, .ref (ad V 0)), (1, .int (nI c)), (2, .int (nI i))] [] J0 L := by
  have h63 : ln 63 = 8 := by decide +kernel
  intro k
  induction k with
  | zero =>
    intro i J0 hi hf hx0
    obtain rfl : i = 8 := by omega
    refine J.iload_n C dX5_lastRound_2 rfl ?_
    refine J.bipush C dX5_lastRound_3 (v := (nI 8)) (by decide) ?_
    first | refine J.icmp_ge_n C (by omega) (by omega) dX5_lastRound_5 (tgt := 21) (by decide) (fun _ => ?_) (fun c5 => absurd c5 (by first | omega | decide | simp_all)) | refine J.icmp_ge_xn C (by omega) dX5_lastRound_5 (tgt := 21) (by decide) (fun _ => ?_) (fun c5 => absurd c5 (by first | omega | decide | simp_all)) | refine J.icmp_ge_nx C (by omega) dX5_lastRound_5 (tgt := 21) (by decide) (fun _ => ?_) (fun c5 => absurd c5 (by first | omega | decide | simp_all)) | refine J.icmp_ge C dX5_lastRound_5 (tgt := 21) (by decide) (fun _ => ?_) (fun c5 => absurd c5 (by first | omega | decide | simp_all))
    exact hx J0 hf hx0
  | succ k ih =>
    intro i J0 hi hf hx0
    refine J.iload_n C dX5_lastRound_2 rfl ?_
    refine J.bipush C dX5_lastRound_3 (v := (nI 8)) (by decide) ?_
    first | refine J.icmp_ge_n C (by omega) (by omega) dX5_lastRound_5 (tgt := 21) (by decide) (fun c5 => absurd c5 (by first | omega | decide | simp_all)) (fun _ => ?_) | refine J.icmp_ge_xn C (by omega) dX5_lastRound_5 (tgt := 21) (by decide) (fun c5 => absurd c5 (by first | omega | decide | simp_all)) (fun _ => ?_) | refine J.icmp_ge_nx C (by omega) dX5_lastRound_5 (tgt := 21) (by decide) (fun c5 => absurd c5 (by first | omega | decide | simp_all)) (fun _ => ?_) | refine J.icmp_ge C dX5_lastRound_5 (tgt := 21) (by decide) (fun c5 => absurd c5 (by first | omega | decide | simp_all)) (fun _ => ?_)
    refine J.aload_n C dX5_lastRound_8 rfl ?_
    refine J.getR C flX5_lastRound_50 (by first | decide | omega) rfl (by exact rfl) dX5_lastRound_9 ?_
    refine J.iload_n C dX5_lastRound_12 rfl ?_
    refine J.iconst C dX5_lastRound_13 (v := (nI 0)) (by decide) ?_
    refine J.ias C (by first | exact rfl | assumption) (by first | exact rfl | exact rfl) (by first | omega | omega) dX5_lastRound_14 ?_
    refine J.iinc (ls' := [(0, _), (1, _), (2, _)]) C dX5_lastRound_15 rfl (by first | exact nI_inc _ 1 | exact rfl) (by decide) rfl ?_
    refine J.goto C dX5_lastRound_18 (tgt := 2) (by decide) ?_
    refine ih (i + 1) _ (by omega) (fun q a => by rw [up2_n _ _ _ a]; exact hf q a) (fun x q => ?_)
    by_cases e : x = i
    · subst e; exact up2_s _ _ _ _
    · rw [up2_m _ _ _ e]; exact hx0 x (by omega)
set_option maxHeartbeats 4000000 in
set_option maxRecDepth 100000 in
theorem lp_X5_lastRound_b {l : Launch} {X : Cx} {V : Vx} {P : Option Value → (Nat → va_E) → Prop} {I : Nat → Nat → Int32} {L : Nat → Nat → Int64} (C : CX l X V RX5 cX5_lastRound 7 wsX5_lastRound 2 0 0 (some .int)) {t : Nt} {c : Nat} (ok : okN t) (hN : netC I 1 t) (hc : c ≤ t.2.1) (hP : ∀ J0, (∀ k, k ≠ 63 → J0 k = I k) → (∀ x, x < 8 → J0 63 x = nI (lnR t.2.2 c x)) → P (some (.int (nI (rmx t.2.2 c)))) (mm V J0 L)) : ∀ (k i : Nat) (J0 : Nat → Nat → Int32), i + k = c → (∀ k, k ≠ 63 → J0 k = I k) → (∀ x, x < 8 → J0 63 x = nI (lnR t.2.2 i x)) → E X V P 7 25 [(0, .ref (ad V 0)), (1, .int (nI c)), (2, .int (nI (rmx t.2.2 i))), (3, .int (nI i))] [] J0 L := by
  have h63 : ln 63 = 8 := by decide +kernel
  have h40 := ok.2.2.1
  have hl8 := ok.2.1
  intro k
  induction k with
  | zero =>
    intro i J0 hi hf hx0
    obtain rfl : i = c := by omega
    refine J.iload_n C dX5_lastRound_25 rfl ?_
    refine J.iload_n C dX5_lastRound_26 rfl ?_
    first | refine J.icmp_ge_n C (by omega) (by omega) dX5_lastRound_27 (tgt := 113) (by decide) (fun _ => ?_) (fun c27 => absurd c27 (by first | omega | decide | simp_all)) | refine J.icmp_ge_xn C (by omega) dX5_lastRound_27 (tgt := 113) (by decide) (fun _ => ?_) (fun c27 => absurd c27 (by first | omega | decide | simp_all)) | refine J.icmp_ge_nx C (by omega) dX5_lastRound_27 (tgt := 113) (by decide) (fun _ => ?_) (fun c27 => absurd c27 (by first | omega | decide | simp_all)) | refine J.icmp_ge C dX5_lastRound_27 (tgt := 113) (by decide) (fun _ => ?_) (fun c27 => absurd c27 (by first | omega | decide | simp_all))
    refine J.iload_n C dX5_lastRound_113 rfl ?_
    exact J.iret C dX5_lastRound_114 (hP J0 hf hx0)
  | succ k ih =>
    intro i J0 hi hf hx0
    have h1 : J0 1 1 = nI t.2.1 := by rw [hf 1 (by decide)]; exact hN.2.1
    have hcc := ok.2.2.2 i (by omega)
    have hcB := okC_B hcc hl8
    obtain ⟨hc1, hc2, hc3, hc4⟩ := hcc
    have hi2 : J0 2 i = nI (pk (t.2.2 i)) := by rw [hf 2 (by decide)]; exact hN.2.2 i (by omega)
    have ha := hx0 (t.2.2 i).2.1 (by omega)
    have hb := hx0 (t.2.2 i).2.2.1 (by omega)
    have la := lnR_le (f := t.2.2) (k := i) (x := (t.2.2 i).2.1)
    have lb := lnR_le (f := t.2.2) (k := i) (x := (t.2.2 i).2.2.1)
    have lr := rmx_le (f := t.2.2) i
    have lp := (lnR_p (f := t.2.2) i).2.2
    have lf := rdF_le (f := t.2.2) i
    have e2 : max (rmx t.2.2 i) (rdF t.2.2 i) = rmx t.2.2 (i + 1) := by
      show _ = cond (tb (rmx t.2.2 i < rdF t.2.2 i)) (rdF t.2.2 i) (rmx t.2.2 i)
      by_cases q : rmx t.2.2 i < rdF t.2.2 i
      · rw [tb_1 q]; exact Nat.max_eq_right (by omega)
      · rw [tb_0 q]; exact Nat.max_eq_left (by omega)
    refine J.iload_n C dX5_lastRound_25 rfl ?_
    refine J.iload_n C dX5_lastRound_26 rfl ?_
    first | refine J.icmp_ge_n C (by omega) (by omega) dX5_lastRound_27 (tgt := 113) (by decide) (fun c27 => absurd c27 (by first | omega | decide | simp_all)) (fun _ => ?_) | refine J.icmp_ge_xn C (by omega) dX5_lastRound_27 (tgt := 113) (by decide) (fun c27 => absurd c27 (by first | omega | decide | simp_all)) (fun _ => ?_) | refine J.icmp_ge_nx C (by omega) dX5_lastRound_27 (tgt := 113) (by decide) (fun c27 => absurd c27 (by first | omega | decide | simp_all)) (fun _ => ?_) | refine J.icmp_ge C dX5_lastRound_27 (tgt := 113) (by decide) (fun c27 => absurd c27 (by first | omega | decide | simp_all)) (fun _ => ?_)
    refine J.iload_n C dX5_lastRound_30 rfl ?_
    refine J.aload_n C dX5_lastRound_31 rfl ?_
    refine J.getR C flX5_lastRound_10 (by first | decide | omega) rfl (by exact rfl) dX5_lastRound_32 ?_
    refine J.getI C flX5_lastRound_77 (by first | decide | omega) (by first | exact rfl | exact mk_3 (by assumption)) (by exact rfl) (by first | ((repeat (first | rewrite [up2_n _ _ _ (by first | decide | omega)] | rewrite [up2_m _ _ _ (by decide)] | rewrite [up3_n _ _ _ (by first | decide | omega)])) <;> (first | exact up2_s _ _ _ _ | exact up3_s _ _ _ _ | assumption | exact rfl))) dX5_lastRound_35 ?_
    first | refine J.icmp_ge_n C (by omega) (by omega) dX5_lastRound_38 (tgt := 113) (by decide) (fun c38 => absurd c38 (by first | omega | decide | simp_all)) (fun _ => ?_) | refine J.icmp_ge_xn C (by omega) dX5_lastRound_38 (tgt := 113) (by decide) (fun c38 => absurd c38 (by first | omega | decide | simp_all)) (fun _ => ?_) | refine J.icmp_ge_nx C (by omega) dX5_lastRound_38 (tgt := 113) (by decide) (fun c38 => absurd c38 (by first | omega | decide | simp_all)) (fun _ => ?_) | refine J.icmp_ge C dX5_lastRound_38 (tgt := 113) (by decide) (fun c38 => absurd c38 (by first | omega | decide | simp_all)) (fun _ => ?_)
    refine J.aload_n C dX5_lastRound_41 rfl ?_
    refine J.getR C flX5_lastRound_10 (by first | decide | omega) rfl (by exact rfl) dX5_lastRound_42 ?_
    refine J.iload_n C dX5_lastRound_45 rfl ?_
    refine J.cVDi (q := (RX3, TX3, 3)) (ci := 3) C (ok_X3_low l V _ _ rfl (by omega) hcB hi2) gX5_lastRound_X3_low rfl mfX3_low rfl (by decide) (by decide) (by first | decide | omega) (by first | exact rfl | exact mk_3 (by assumption)) rfl rfl rfl (Nat.le_of_ble_eq_true rfl) dX5_lastRound_46 (Nat.le_refl _) (Nat.le_refl _) ?_
    refine J.istore (ls' := [(0, _), (1, _), (2, _), (3, _), (4, _)]) C dX5_lastRound_49 (by decide) rfl ?_
    refine J.aload_n C dX5_lastRound_51 rfl ?_
    refine J.getR C flX5_lastRound_10 (by first | decide | omega) rfl (by exact rfl) dX5_lastRound_52 ?_
    refine J.iload_n C dX5_lastRound_55 rfl ?_
    refine J.cVDi (q := (RX3, TX3, 3)) (ci := 3) C (ok_X3_high l V _ _ rfl (by omega) hcB hi2) gX5_lastRound_X3_high rfl mfX3_high rfl (by decide) (by decide) (by first | decide | omega) (by first | exact rfl | exact mk_3 (by assumption)) rfl rfl rfl (Nat.le_of_ble_eq_true rfl) dX5_lastRound_56 (Nat.le_refl _) (Nat.le_refl _) ?_
    refine J.istore (ls' := [(0, _), (1, _), (2, _), (3, _), (4, _), (5, _)]) C dX5_lastRound_59 (by decide) rfl ?_
    refine J.aload_n C dX5_lastRound_61 rfl ?_
    refine J.getR C flX5_lastRound_50 (by first | decide | omega) rfl (by exact rfl) dX5_lastRound_62 ?_
    refine J.iload C dX5_lastRound_65 rfl ?_
    refine J.ia C (by first | exact rfl | assumption) (by first | exact rfl | exact rfl) (by first | omega | omega) (by first | ((repeat (first | rewrite [up2_n _ _ _ (by first | decide | omega)] | rewrite [up2_m _ _ _ (by decide)] | rewrite [up3_n _ _ _ (by first | decide | omega)])) <;> (first | exact up2_s _ _ _ _ | exact up3_s _ _ _ _ | assumption | exact rfl))) dX5_lastRound_67 ?_
    refine J.aload_n C dX5_lastRound_68 rfl ?_
    refine J.getR C flX5_lastRound_50 (by first | decide | omega) rfl (by exact rfl) dX5_lastRound_69 ?_
    refine J.iload C dX5_lastRound_72 rfl ?_
    refine J.ia C (by first | exact rfl | assumption) (by first | exact rfl | exact rfl) (by first | omega | omega) (by first | ((repeat (first | rewrite [up2_n _ _ _ (by first | decide | omega)] | rewrite [up2_m _ _ _ (by decide)] | rewrite [up3_n _ _ _ (by first | decide | omega)])) <;> (first | exact up2_s _ _ _ _ | exact up3_s _ _ _ _ | assumption | exact rfl))) dX5_lastRound_74 ?_
    refine J.mmax C (by decide +kernel) (by decide +kernel) (by decide +kernel) (by decide +kernel) (by decide) (Nat.le_of_ble_eq_true rfl) (Nat.le_refl _) (Nat.le_refl _) dX5_lastRound_75 ?_
    rw [mx_n (by omega) (by omega)]
    refine J.iconst C dX5_lastRound_78 (v := (nI 1)) (by decide) ?_
    first | refine J.iadd_n C dX5_lastRound_79 ?_ | refine J.iadd C dX5_lastRound_79 ?_
    rw [lp]
    refine J.istore (ls' := [(0, _), (1, _), (2, _), (3, _), (4, _), (5, _), (6, _)]) C dX5_lastRound_80 (by decide) rfl ?_
    refine J.aload_n C dX5_lastRound_82 rfl ?_
    refine J.getR C flX5_lastRound_50 (by first | decide | omega) rfl (by exact rfl) dX5_lastRound_83 ?_
    refine J.iload C dX5_lastRound_86 rfl ?_
    refine J.iload C dX5_lastRound_88 rfl ?_
    refine J.ias C (by first | exact rfl | assumption) (by first | exact rfl | exact rfl) (by first | omega | omega) dX5_lastRound_90 ?_
    refine J.aload_n C dX5_lastRound_91 rfl ?_
    refine J.getR C flX5_lastRound_50 (by first | decide | omega) rfl (by exact rfl) dX5_lastRound_92 ?_
    refine J.iload C dX5_lastRound_95 rfl ?_
    refine J.iload C dX5_lastRound_97 rfl ?_
    refine J.ias C (by first | exact rfl | assumption) (by first | exact rfl | exact rfl) (by first | omega | omega) dX5_lastRound_99 ?_
    refine J.iload_n C dX5_lastRound_100 rfl ?_
    refine J.iload C dX5_lastRound_101 rfl ?_
    refine J.mmax C (by decide +kernel) (by decide +kernel) (by decide +kernel) (by decide +kernel) (by decide) (Nat.le_of_ble_eq_true rfl) (Nat.le_refl _) (Nat.le_refl _) dX5_lastRound_103 ?_
    rw [mx_n (by omega) (by omega), e2]
    refine J.istore_n (ls' := [(0, _), (1, _), (2, _), (3, _), (4, _), (5, _), (6, _)]) C dX5_lastRound_106 (by decide) rfl ?_
    refine J.iinc (ls' := [(0, _), (1, _), (2, _), (3, _), (4, _), (5, _), (6, _)]) C dX5_lastRound_107 rfl (by first | exact nI_inc _ 1 | exact rfl) (by decide) rfl ?_
    refine J.goto C dX5_lastRound_110 (tgt := 25) (by decide) ?_
    refine J.lsx (ls' := [(0, _), (1, _), (2, _), (3, _)]) (ex := [(4, _), (5, _), (6, _)]) rfl ?_
    refine ih (i + 1) _ (by omega) (fun q a => by rw [up2_n _ _ _ a, up2_n _ _ _ a]; exact hf q a) (fun x q => ?_)
    by_cases o : onL x (t.2.2 i)
    · rw [lnR_on o, lp]
      by_cases e : x = (t.2.2 i).2.2.1
      · rw [e, up2_s]
      · rw [up2_m _ _ _ e]
        rcases o with z | z
        · rw [← z, up2_s]
        · exact absurd z.symm e
    · rw [lnR_off o, up2_m _ _ _ (fun e => o (Or.inr e.symm)), up2_m _ _ _ (fun e => o (Or.inl e.symm))]
      exact hx0 x q
set_option maxHeartbeats 4000000 in
set_option maxRecDepth 100000 in
theorem ok_X5_lastRound (l : Launch) (V : Vx) {t : Nt} {c : Nat} (I : Nat → Nat → Int32) (L : Nat → Nat → Int64) (ok : okN t) (hN : netC I 1 t) (hc : c ≤ t.2.1) : Gi l V yX5_lastRound wsX5_lastRound 2 [.ref (ad V 0), .int (nI c)] I L (fun r I' L' => r = nI (rmx t.2.2 c) ∧ (∀ k, k ≠ 63 → I' k = I k) ∧ (∀ x, x < 8 → I' 63 x = nI (lnR t.2.2 c x)) ∧ L' = L) := by
  refine Ok.of (cc := cX5_lastRound) (maxL := 7) (ret := (some .int)) (by decide) rfl (Nat.le_of_ble_eq_true rfl) (fun X hnm C => ?_)
  have C : CX l X V RX5 cX5_lastRound 7 wsX5_lastRound 2 0 0 (some .int) := C
  refine J.cast (ls' := [(0, _), (1, _)]) rfl rfl rfl rfl ?_
  refine J.iconst C dX5_lastRound_0 (v := (nI 0)) (by decide) ?_
  refine J.istore_n (ls' := [(0, _), (1, _), (2, _)]) C dX5_lastRound_1 (by decide) rfl ?_
  refine lp_X5_lastRound_a C (fun J0 hf hx0 => ?_) 8 0 I (by omega) (fun _ _ => rfl) (fun x q => absurd q (Nat.not_lt_zero _))
  refine J.iconst C dX5_lastRound_21 (v := (nI 0)) (by decide) ?_
  refine J.istore_n (ls' := [(0, _), (1, _), (2, _)]) C dX5_lastRound_22 (by decide) rfl ?_
  refine J.iconst C dX5_lastRound_23 (v := (nI 0)) (by decide) ?_
  refine J.istore_n (ls' := [(0, _), (1, _), (2, _), (3, _)]) C dX5_lastRound_24 (by decide) rfl ?_
  refine lp_X5_lastRound_b C ok hN hc (fun J1 hf1 hx1 => ?_) c 0 J0 (by omega) hf hx0
  exact ⟨_, J1, L, rfl, rfl, rfl, hf1, hx1, rfl⟩
set_option maxHeartbeats 4000000 in
set_option maxRecDepth 100000 in
theorem ok_X5_rounds (l : Launch) (V : Vx) {g : Sg}  (I : Nat → Nat → Int32) (L : Nat → Nat → Int64)  (hz : V.2.2.2.2.2 = false) (h : AbC I L g) (ok : okG g) : PC l V yX5_rounds wsX5_rounds 3 [.ref (ad V 0)] I L (op_rounds g) := by
  have hN := h.1
  have h0 := hN.1
  have hm := hN.2.1
  have hl2 := ok.1.1
  have hl8 := ok.1.2.1
  have h40 := ok.1.2.2.1
  refine Ok.of (cc := cX5_rounds) (maxL := 1) (ret := (some .int)) (by decide) rfl (Nat.le_of_ble_eq_true rfl) (fun X hnm C => ?_)
  have C : CX l X V RX5 cX5_rounds 1 wsX5_rounds 3 0 0 (some .int) := C
  refine J.cast (ls' := [(0, _)]) rfl rfl rfl rfl ?_
  refine J.aload_n C dX5_rounds_0 rfl ?_
  refine J.aload_n C dX5_rounds_1 rfl ?_
  refine J.getR C flX5_rounds_10 (by first | decide | omega) rfl (by exact rfl) dX5_rounds_2 ?_
  refine J.getI C flX5_rounds_77 (by first | decide | omega) (by first | exact rfl | exact mk_3 (by assumption)) (by exact rfl) (by first | ((repeat (first | rewrite [up2_n _ _ _ (by first | decide | omega)] | rewrite [up2_m _ _ _ (by decide)] | rewrite [up3_n _ _ _ (by first | decide | omega)])) <;> (first | exact up2_s _ _ _ _ | exact up3_s _ _ _ _ | assumption | exact rfl))) dX5_rounds_5 ?_
  refine J.cVGi (q := (RX5, TX5, 11)) (ci := 5) C (ok_X5_lastRound l V _ _ ok.1 hN (Nat.le_refl _)) gX5_rounds_X5_lastRound rfl mfX5_lastRound rfl (by decide) (by decide) (by first | decide | omega) rfl rfl rfl rfl (Nat.le_of_ble_eq_true rfl) dX5_rounds_8 (Nat.le_refl _) (Nat.le_refl _) (fun r8 I8 L8 h8 => ?_)
  obtain ⟨rfl, hf8, -, rfl⟩ := h8
  exact J.iret C dX5_rounds_11 (qC_s ⟨rfl, AbC_fr h (fun k a b c => hf8 k b) (fun _ _ _ => rfl), fun k hk => hf8 k (by omega), frCL_rfl⟩)
theorem AG_5 {x : Int32} {o : Option Nat} (h : AG x o) : (x = nI 0 ∧ o = some 0) ∨ (x = nI 1 ∧ o = some 1) ∨ (x = nI 2 ∧ o = some 2) ∨ (x = nI 3 ∧ o = some 3) ∨ (x = nI 4 ∧ o = some 4) ∨ ((x.toInt < 0 ∨ 4 < x.toInt) ∧ ¬ inO o 5) := by
  by_cases q : inO o 5
  · obtain ⟨k, rfl, hk⟩ := q
    obtain ⟨-, rfl⟩ := h
    rcases (show k = 0 ∨ k = 1 ∨ k = 2 ∨ k = 3 ∨ k = 4 by omega) with e | e | e | e | e <;> subst e <;> simp
  · refine Or.inr (Or.inr (Or.inr (Or.inr (Or.inr ⟨?_, q⟩))))
    have w := fun z => q ((AG_in (m := 5) h).mp z)
    by_cases n : x.toInt < 0
    · exact Or.inl n
    · refine Or.inr ?_
      by_cases y : 4 < x.toInt
      · exact y
      · exact absurd ⟨by omega, by omega⟩ w
set_option maxHeartbeats 4000000 in
set_option maxRecDepth 100000 in
theorem ok_X5_of (l : Launch) (V : Vx) {g : Sg} {x1 : Int32} {o1 : Option Nat}{x2 : Int32} {o2 : Option Nat} (I : Nat → Nat → Int32) (L : Nat → Nat → Int64) (hx1 : AG x1 o1) (hx2 : AG x2 o2) (hz : V.2.2.2.2.2 = false) (h : AbC I L g) (ok : okG g) : PC l V yX5_of wsX5_of 3 [.ref (ad V 0), .int x1, .int x2] I L (op_of g o1 o2) := by
  have hN := h.1
  have h0 := hN.1
  have hm := hN.2.1
  have hl2 := ok.1.1
  have hl8 := ok.1.2.1
  have h40 := ok.1.2.2.1
  refine Ok.of (cc := cX5_of) (maxL := 3) (ret := (some .int)) (by decide) rfl (Nat.le_of_ble_eq_true rfl) (fun X hnm C => ?_)
  have C : CX l X V RX5 cX5_of 3 wsX5_of 3 0 0 (some .int) := C
  refine J.cast (ls' := [(0, _), (1, _), (2, _)]) rfl rfl rfl rfl ?_
  refine J.aload_n C dX5_of_0 rfl ?_
  refine J.getR C flX5_of_10 (by first | decide | omega) rfl (by exact rfl) dX5_of_1 ?_
  refine J.iload_n C dX5_of_4 rfl ?_
  refine J.cVDi (q := (RX3, TX3, 3)) (ci := 3) C (ok_X3_has l V _ _ rfl hx1 hm h40) gX5_of_X3_has rfl mfX3_has rfl (by decide) (by decide) (by first | decide | omega) (by first | exact rfl | exact mk_3 (by assumption)) rfl rfl rfl (Nat.le_of_ble_eq_true rfl) dX5_of_5 (Nat.le_refl _) (Nat.le_refl _) ?_
  first | refine J.if_ne_b C dX5_of_8 (tgt := 17) (by decide) (fun c8t => ?_) (fun c8f => ?_) | refine J.if_ne_n C (by omega) dX5_of_8 (tgt := 17) (by decide) (fun c8t => ?_) (fun c8f => ?_) | refine J.if_ne C dX5_of_8 (tgt := 17) (by decide) (fun c8t => ?_) (fun c8f => ?_)
  · obtain ⟨i, rfl, hi⟩ := tb_t.mp c8t
    obtain ⟨-, rfl⟩ := hx1
    have hcB := okC_B (ok.1.2.2.2 i hi) hl8
    have hbi := hN.2.2 i hi
    refine J.iload_n C dX5_of_17 rfl ?_
    rcases AG_5 hx2 with ⟨rfl, rfl⟩ | ⟨rfl, rfl⟩ | ⟨rfl, rfl⟩ | ⟨rfl, rfl⟩ | ⟨rfl, rfl⟩ | ⟨hq, hq2⟩
    · refine J.tabIn C dX5_of_18 (x := nI 0) (by decide) (by decide) rfl (tgt := 52) (by decide) ?_
      have e : op_of g (some i) (some 0) = (nI (g.1.2.2 i).1, g) := by
        unfold op_of
        rw [tb_1 (show inO (some i) g.1.2.1 ∧ inO (some 0) 5 from ⟨tb_t.mp c8t, inO_s.mpr (by decide)⟩)]
        rfl
      rw [e]
      refine J.aload_n C dX5_of_52 rfl ?_
      refine J.getR C flX5_of_10 (by first | decide | omega) rfl (by exact rfl) dX5_of_53 ?_
      refine J.iload_n C dX5_of_56 rfl ?_
      refine J.cVDi (q := (RX3, TX3, 3)) (ci := 3) C (ok_X3_kind l V _ _ rfl (by omega) hcB hbi) gX5_of_X3_kind rfl mfX3_kind rfl (by decide) (by decide) (by first | decide | omega) (by first | exact rfl | exact mk_3 (by assumption)) rfl rfl rfl (Nat.le_of_ble_eq_true rfl) dX5_of_57 (Nat.le_refl _) (Nat.le_refl _) ?_
      exact J.iret C dX5_of_60 (qC_s ⟨rfl, h, frC_rfl, frCL_rfl⟩)
    · refine J.tabIn C dX5_of_18 (x := nI 1) (by decide) (by decide) rfl (tgt := 61) (by decide) ?_
      have e : op_of g (some i) (some 1) = (nI (g.1.2.2 i).2.1, g) := by
        unfold op_of
        rw [tb_1 (show inO (some i) g.1.2.1 ∧ inO (some 1) 5 from ⟨tb_t.mp c8t, inO_s.mpr (by decide)⟩)]
        rfl
      rw [e]
      refine J.aload_n C dX5_of_61 rfl ?_
      refine J.getR C flX5_of_10 (by first | decide | omega) rfl (by exact rfl) dX5_of_62 ?_
      refine J.iload_n C dX5_of_65 rfl ?_
      refine J.cVDi (q := (RX3, TX3, 3)) (ci := 3) C (ok_X3_low l V _ _ rfl (by omega) hcB hbi) gX5_of_X3_low rfl mfX3_low rfl (by decide) (by decide) (by first | decide | omega) (by first | exact rfl | exact mk_3 (by assumption)) rfl rfl rfl (Nat.le_of_ble_eq_true rfl) dX5_of_66 (Nat.le_refl _) (Nat.le_refl _) ?_
      exact J.iret C dX5_of_69 (qC_s ⟨rfl, h, frC_rfl, frCL_rfl⟩)
    · refine J.tabIn C dX5_of_18 (x := nI 2) (by decide) (by decide) rfl (tgt := 70) (by decide) ?_
      have e : op_of g (some i) (some 2) = (nI (g.1.2.2 i).2.2.1, g) := by
        unfold op_of
        rw [tb_1 (show inO (some i) g.1.2.1 ∧ inO (some 2) 5 from ⟨tb_t.mp c8t, inO_s.mpr (by decide)⟩)]
        rfl
      rw [e]
      refine J.aload_n C dX5_of_70 rfl ?_
      refine J.getR C flX5_of_10 (by first | decide | omega) rfl (by exact rfl) dX5_of_71 ?_
      refine J.iload_n C dX5_of_74 rfl ?_
      refine J.cVDi (q := (RX3, TX3, 3)) (ci := 3) C (ok_X3_high l V _ _ rfl (by omega) hcB hbi) gX5_of_X3_high rfl mfX3_high rfl (by decide) (by decide) (by first | decide | omega) (by first | exact rfl | exact mk_3 (by assumption)) rfl rfl rfl (Nat.le_of_ble_eq_true rfl) dX5_of_75 (Nat.le_refl _) (Nat.le_refl _) ?_
      exact J.iret C dX5_of_78 (qC_s ⟨rfl, h, frC_rfl, frCL_rfl⟩)
    · refine J.tabIn C dX5_of_18 (x := nI 3) (by decide) (by decide) rfl (tgt := 79) (by decide) ?_
      have e : op_of g (some i) (some 3) = (nI (rdF g.1.2.2 i), g) := by
        unfold op_of
        rw [tb_1 (show inO (some i) g.1.2.1 ∧ inO (some 3) 5 from ⟨tb_t.mp c8t, inO_s.mpr (by decide)⟩)]
        rfl
      rw [e]
      refine J.aload_n C dX5_of_79 rfl ?_
      refine J.iload_n C dX5_of_80 rfl ?_
      refine J.iconst C dX5_of_81 (v := (nI 1)) (by decide) ?_
      first | refine J.iadd_n C dX5_of_82 ?_ | refine J.iadd C dX5_of_82 ?_
      refine J.cVGi (q := (RX5, TX5, 11)) (ci := 5) C (ok_X5_lastRound (c := i + 1) l V _ _ ok.1 hN (by omega)) gX5_of_X5_lastRound rfl mfX5_lastRound rfl (by decide) (by decide) (by first | decide | omega) rfl rfl rfl rfl (Nat.le_of_ble_eq_true rfl) dX5_of_83 (Nat.le_refl _) (Nat.le_refl _) (fun r83 I83 L83 h83 => ?_)
      obtain ⟨-, hf83, hl83, rfl⟩ := h83
      have hbJ : I83 2 i = nI (pk (g.1.2.2 i)) := by rw [hf83 2 (by decide)]; exact hbi
      have hlJ : I83 63 (g.1.2.2 i).2.1 = nI (rdF g.1.2.2 i) := by rw [hl83 _ hcB.2.1, lnR_on (Or.inl rfl), (lnR_p i).2.2]
      have h63 : ln 63 = 8 := by decide +kernel
      have hcl := hcB.2.1
      refine J.pop C dX5_of_86 rfl ?_
      refine J.aload_n C dX5_of_87 rfl ?_
      refine J.getR C flX5_of_50 (by first | decide | omega) rfl (by exact rfl) dX5_of_88 ?_
      refine J.aload_n C dX5_of_91 rfl ?_
      refine J.getR C flX5_of_10 (by first | decide | omega) rfl (by exact rfl) dX5_of_92 ?_
      refine J.iload_n C dX5_of_95 rfl ?_
      refine J.cVDi (q := (RX3, TX3, 3)) (ci := 3) C (ok_X3_low l V _ _ rfl (by omega) hcB hbJ) gX5_of_X3_low rfl mfX3_low rfl (by decide) (by decide) (by first | decide | omega) (by first | exact rfl | exact mk_3 (by assumption)) rfl rfl rfl (Nat.le_of_ble_eq_true rfl) dX5_of_96 (Nat.le_refl _) (Nat.le_refl _) ?_
      refine J.ia C (by first | exact rfl | assumption) (by first | exact rfl | exact rfl) (by first | omega | omega) (by first | ((repeat (first | rewrite [up2_n _ _ _ (by first | decide | omega)] | rewrite [up2_m _ _ _ (by decide)] | rewrite [up3_n _ _ _ (by first | decide | omega)])) <;> (first | exact up2_s _ _ _ _ | exact up3_s _ _ _ _ | assumption | exact rfl))) dX5_of_99 ?_
      exact J.iret C dX5_of_100 (qC_s ⟨rfl, AbC_fr h (fun k a b c => hf83 k b) (fun _ _ _ => rfl), fun k hk => hf83 k (by omega), frCL_rfl⟩)
    · refine J.tabIn C dX5_of_18 (x := nI 4) (by decide) (by decide) rfl (tgt := 101) (by decide) ?_
      have e : op_of g (some i) (some 4) = (bI (g.1.2.2 i).2.2.2, g) := by
        unfold op_of
        rw [tb_1 (show inO (some i) g.1.2.1 ∧ inO (some 4) 5 from ⟨tb_t.mp c8t, inO_s.mpr (by decide)⟩)]
        rfl
      rw [e]
      refine J.aload_n C dX5_of_101 rfl ?_
      refine J.getR C flX5_of_10 (by first | decide | omega) rfl (by exact rfl) dX5_of_102 ?_
      refine J.iload_n C dX5_of_105 rfl ?_
      refine J.cVDi (q := (RX3, TX3, 3)) (ci := 3) C (ok_X3_switchOf l V _ _ rfl (by omega) hcB hbi) gX5_of_X3_switchOf rfl mfX3_switchOf rfl (by decide) (by decide) (by first | decide | omega) (by first | exact rfl | exact mk_3 (by assumption)) rfl rfl rfl (Nat.le_of_ble_eq_true rfl) dX5_of_106 (Nat.le_refl _) (Nat.le_refl _) ?_
      exact J.iret C dX5_of_109 (qC_s ⟨rfl, h, frC_rfl, frCL_rfl⟩)
    · refine J.tabOut C dX5_of_18 (x := x2) hq (tgt := 110) (by decide) ?_
      have e : op_of g (some i) o2 = (-1, gF g) := by
        unfold op_of
        rw [tb_0 (fun q => hq2 q.2)]
        rfl
      rw [e]
      refine J.aload_n C dX5_of_110 rfl ?_
      refine J.iconst C dX5_of_111 (v := (-1)) (by decide) ?_
      refine J.cVDi (q := (RX5, TX5, 11)) (ci := 5) C (ok_X5_finding l V _ _ _) gX5_of_X5_finding rfl mfX5_finding rfl (by decide) (by decide) (by first | decide | omega) rfl rfl rfl rfl (Nat.le_of_ble_eq_true rfl) dX5_of_112 (Nat.le_refl _) (Nat.le_refl _) ?_
      exact J.iret C dX5_of_115 (qC_s (qC_F h))
  · refine J.aload_n C dX5_of_11 rfl ?_
    refine J.iconst C dX5_of_12 (v := (-1)) (by decide) ?_
    refine J.cVDi (q := (RX5, TX5, 11)) (ci := 5) C (ok_X5_finding l V _ _ _) gX5_of_X5_finding rfl mfX5_finding rfl (by decide) (by decide) (by first | decide | omega) rfl rfl rfl rfl (Nat.le_of_ble_eq_true rfl) dX5_of_13 (Nat.le_refl _) (Nat.le_refl _) ?_
    exact J.iret C dX5_of_16 (qC_s (by unfold op_of; rw [tb_0 (fun q => tb_f.mp c8f q.1)]; exact qC_F h))
