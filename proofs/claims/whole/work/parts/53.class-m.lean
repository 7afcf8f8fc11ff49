/-! THE CLASS: sorts, fails, bears, weak -/
set_option maxHeartbeats 4000000 in
set_option maxRecDepth 100000 in
theorem ok_X5_toldOrFinding_n (l : Launch) (V : Vx) {w : Int32} (I : Nat → Nat → Int32) (L : Nat → Nat → Int64) (hw : w.toInt < 0) : Di l V yX5_toldOrFinding wsX5_toldOrFinding 2 [.ref (ad V 0), .int w] I L w (fC I) L := by
  refine Ok.of (cc := cX5_toldOrFinding) (maxL := 2) (ret := (some .int)) (by decide) rfl (Nat.le_of_ble_eq_true rfl) (fun X hnm C => ?_)
  have C : CX l X V RX5 cX5_toldOrFinding 2 wsX5_toldOrFinding 2 0 0 (some .int) := C
  refine J.cast (ls' := [(0, _), (1, _)]) rfl rfl rfl rfl ?_
  refine J.iload_n C dX5_toldOrFinding_0 rfl ?_
  refine J.if_ge_z C dX5_toldOrFinding_1 (tgt := 12) (by decide) (fun c1 => absurd c1 (by first | omega | decide | simp_all)) (fun _ => ?_)
  refine J.aload_n C dX5_toldOrFinding_4 rfl ?_
  refine J.iload_n C dX5_toldOrFinding_5 rfl ?_
  refine J.cVDi (q := (RX5, TX5, 11)) (ci := 5) C (ok_X5_finding l V _ _ _) gX5_toldOrFinding_X5_finding rfl mfX5_finding rfl (by decide) (by decide) (by first | decide | omega) rfl rfl rfl rfl (Nat.le_of_ble_eq_true rfl) dX5_toldOrFinding_6 (Nat.le_refl _) (Nat.le_refl _) ?_
  refine J.goto C dX5_toldOrFinding_9 (tgt := 13) (by decide) ?_
  exact J.iret C dX5_toldOrFinding_13 ⟨rfl, rfl⟩
set_option maxHeartbeats 4000000 in
set_option maxRecDepth 100000 in
theorem ok_X5_toldOrFinding_p (l : Launch) (V : Vx) {w : Nat} (I : Nat → Nat → Int32) (L : Nat → Nat → Int64) (hw : w < 2 ^ 31) : Di l V yX5_toldOrFinding wsX5_toldOrFinding 2 [.ref (ad V 0), .int (nI w)] I L (nI w) I L := by
  refine Ok.of (cc := cX5_toldOrFinding) (maxL := 2) (ret := (some .int)) (by decide) rfl (Nat.le_of_ble_eq_true rfl) (fun X hnm C => ?_)
  have C : CX l X V RX5 cX5_toldOrFinding 2 wsX5_toldOrFinding 2 0 0 (some .int) := C
  refine J.cast (ls' := [(0, _), (1, _)]) rfl rfl rfl rfl ?_
  refine J.iload_n C dX5_toldOrFinding_0 rfl ?_
  refine J.if_ge_z C dX5_toldOrFinding_1 (tgt := 12) (by decide) (fun _ => ?_) (fun c1 => absurd c1 (by rw [nI_ti hw]; omega))
  refine J.iload_n C dX5_toldOrFinding_12 rfl ?_
  exact J.iret C dX5_toldOrFinding_13 ⟨rfl, rfl⟩
theorem AbC_rw {I : Nat → Nat → Int32} {L L' : Nat → Nat → Int64} {g : Sg} (h : AbC I L g) (hf : ∀ q, q ≠ 57 → q ≠ 58 → L' q = L q) : AbC I L' g := AbC_fr h (fun _ _ _ _ => rfl) (fun k a b => hf k (by omega) (by omega))
theorem qC_rw {I : Nat → Nat → Int32} {L L' : Nat → Nat → Int64} {g : Sg} {z : Int32} (h : AbC I L g) (hf : ∀ q, q ≠ 57 → q ≠ 58 → L' q = L q) : qC I L (z, g) z I L' := ⟨rfl, AbC_rw h hf, frC_rfl, fun q a => hf q (by omega) (by omega)⟩
theorem qC_rF {I : Nat → Nat → Int32} {L L' : Nat → Nat → Int64} {g : Sg} {z : Int32} (h : AbC I L g) (hf : ∀ q, q ≠ 57 → q ≠ 58 → L' q = L q) : qC I L (z, gF g) z (fC I) L' := ⟨rfl, AbC_F (AbC_rw h hf), frC_up (by decide) frC_rfl, fun q a => hf q (by omega) (by omega)⟩
set_option maxHeartbeats 4000000 in
set_option maxRecDepth 100000 in
theorem ok_X5_sorts (l : Launch) (V : Vx) {g : Sg}  (I : Nat → Nat → Int32) (L : Nat → Nat → Int64)  (hz : V.2.2.2.2.2 = false) (h : AbC I L g) (ok : okG g) : PC l V yX5_sorts wsX5_sorts 6 [.ref (ad V 0)] I L ((sp_sorts g.1, g)) := by
  have hN := h.1
  have h0 := hN.1
  have hm := hN.2.1
  have hl2 := ok.1.1
  have hl8 := ok.1.2.1
  have h40 := ok.1.2.2.1
  have h8 := p2_le hl8
  unfold sp_sorts
  cases hl : lst (2 ^ g.1.1) (bad g.1 (-1)) with
  | none =>
    have w := lst_is (2 ^ g.1.1) (bad g.1 (-1))
    rw [hl] at w
    rw [tb_1 (show ∀ r, r < 2 ^ g.1.1 → ¬ bad g.1 (-1) r from w)]
    refine Ok.of (cc := cX5_sorts) (maxL := 1) (ret := (some .int)) (by decide) rfl (Nat.le_of_ble_eq_true rfl) (fun X hnm C => ?_)
    have C : CX l X V RX5 cX5_sorts 1 wsX5_sorts 6 0 0 (some .int) := C
    refine J.cast (ls' := [(0, _)]) rfl rfl rfl rfl ?_
    refine J.aload_n C dX5_sorts_0 rfl ?_
    refine J.iconst C dX5_sorts_1 (v := (-1)) (by decide) ?_
    refine J.cVGi (q := (RX5, TX5, 11)) (ci := 5) C (ok_X5_leastFailing l V _ _ ok.1 hN) gX5_sorts_X5_leastFailing rfl mfX5_leastFailing rfl (by decide) (by decide) (by first | decide | omega) rfl rfl rfl rfl (Nat.le_of_ble_eq_true rfl) dX5_sorts_2 (Nat.le_refl _) (Nat.le_refl _) (fun r2 I2 L2 h2 => ?_)
    obtain ⟨rfl, rfl, hf⟩ := h2
    rw [toInt_m1, hl]
    show E _ _ _ _ _ _ (.int (-6) :: _) _ _
    refine J.bipush C dX5_sorts_5 (v := (-6)) (by decide) ?_
    refine J.icmp_ne C dX5_sorts_7 (tgt := 14) (by decide) (fun c7 => absurd c7 (by first | omega | decide | simp_all)) (fun _ => ?_)
    refine J.iconst C dX5_sorts_10 (v := (nI 1)) (by decide) ?_
    refine J.goto C dX5_sorts_11 (tgt := 15) (by decide) ?_
    exact J.iret C dX5_sorts_15 (qC_s (qC_rw h hf))
  | some k =>
    have w := lst_is (2 ^ g.1.1) (bad g.1 (-1))
    rw [hl] at w
    have w : k < 2 ^ g.1.1 ∧ bad g.1 (-1) k ∧ _ := w
    rw [tb_0 (fun q => q k w.1 w.2.1)]
    refine Ok.of (cc := cX5_sorts) (maxL := 1) (ret := (some .int)) (by decide) rfl (Nat.le_of_ble_eq_true rfl) (fun X hnm C => ?_)
    have C : CX l X V RX5 cX5_sorts 1 wsX5_sorts 6 0 0 (some .int) := C
    refine J.cast (ls' := [(0, _)]) rfl rfl rfl rfl ?_
    refine J.aload_n C dX5_sorts_0 rfl ?_
    refine J.iconst C dX5_sorts_1 (v := (-1)) (by decide) ?_
    refine J.cVGi (q := (RX5, TX5, 11)) (ci := 5) C (ok_X5_leastFailing l V _ _ ok.1 hN) gX5_sorts_X5_leastFailing rfl mfX5_leastFailing rfl (by decide) (by decide) (by first | decide | omega) rfl rfl rfl rfl (Nat.le_of_ble_eq_true rfl) dX5_sorts_2 (Nat.le_refl _) (Nat.le_refl _) (fun r2 I2 L2 h2 => ?_)
    obtain ⟨rfl, rfl, hf⟩ := h2
    rw [toInt_m1, hl]
    show E _ _ _ _ _ _ (.int (nI k) :: _) _ _
    refine J.bipush C dX5_sorts_5 (v := (-6)) (by decide) ?_
    refine J.icmp_ne C dX5_sorts_7 (tgt := 14) (by decide) (fun _ => ?_) (fun c7 => absurd c7 (fun q => by have z := congrArg Int32.toInt q; rw [nI_ti (by omega), show (-6 : Int32).toInt = -6 from by decide] at z; omega))
    refine J.iconst C dX5_sorts_14 (v := (nI 0)) (by decide) ?_
    exact J.iret C dX5_sorts_15 (qC_s (qC_rw h hf))
set_option maxHeartbeats 4000000 in
set_option maxRecDepth 100000 in
theorem ok_X5_weak (l : Launch) (V : Vx) {g : Sg} {x1 : Int32} {o1 : Option Nat} (I : Nat → Nat → Int32) (L : Nat → Nat → Int64) (hx1 : AG x1 o1) (hz : V.2.2.2.2.2 = false) (h : AbC I L g) (ok : okG g) : PC l V yX5_weak wsX5_weak 6 [.ref (ad V 0), .int x1] I L (((sp_weak g.1 o1).1, gX (sp_weak g.1 o1).2 g g)) := by
  have hN := h.1
  have h0 := hN.1
  have hm := hN.2.1
  have hl2 := ok.1.1
  have hl8 := ok.1.2.1
  have h40 := ok.1.2.2.1
  have h8 := p2_le hl8
  refine Ok.of (cc := cX5_weak) (maxL := 2) (ret := (some .int)) (by decide) rfl (Nat.le_of_ble_eq_true rfl) (fun X hnm C => ?_)
  have C : CX l X V RX5 cX5_weak 2 wsX5_weak 6 0 0 (some .int) := C
  refine J.cast (ls' := [(0, _), (1, _)]) rfl rfl rfl rfl ?_
  refine J.aload_n C dX5_weak_0 rfl ?_
  refine J.getR C flX5_weak_10 (by first | decide | omega) rfl (by exact rfl) dX5_weak_1 ?_
  refine J.iload_n C dX5_weak_4 rfl ?_
  refine J.cVDi (q := (RX3, TX3, 3)) (ci := 3) C (ok_X3_has l V _ _ rfl hx1 hm h40) gX5_weak_X3_has rfl mfX3_has rfl (by decide) (by decide) (by first | decide | omega) (by first | exact rfl | exact mk_3 (by assumption)) rfl rfl rfl (Nat.le_of_ble_eq_true rfl) dX5_weak_5 (Nat.le_refl _) (Nat.le_refl _) ?_
  first | refine J.if_ne_b C dX5_weak_8 (tgt := 17) (by decide) (fun c8t => ?_) (fun c8f => ?_) | refine J.if_ne_n C (by omega) dX5_weak_8 (tgt := 17) (by decide) (fun c8t => ?_) (fun c8f => ?_) | refine J.if_ne C dX5_weak_8 (tgt := 17) (by decide) (fun c8t => ?_) (fun c8f => ?_)
  · obtain ⟨i, rfl, hi⟩ := tb_t.mp c8t
    obtain ⟨-, rfl⟩ := hx1
    have e : sp_weak g.1 (some i) = sp_first g.1 i := if_pos hi
    rw [e]
    unfold sp_first
    cases hl : lst (2 ^ g.1.1) (bad g.1 i) with
    | none =>
      refine J.aload_n C dX5_weak_17 rfl ?_
      refine J.aload_n C dX5_weak_18 rfl ?_
      refine J.iload_n C dX5_weak_19 rfl ?_
      refine J.cVGi (q := (RX5, TX5, 11)) (ci := 5) C (ok_X5_leastFailing l V _ _ ok.1 hN) gX5_weak_X5_leastFailing rfl mfX5_leastFailing rfl (by decide) (by decide) (by first | decide | omega) rfl rfl rfl rfl (Nat.le_of_ble_eq_true rfl) dX5_weak_20 (Nat.le_refl _) (Nat.le_refl _) (fun r20 I20 L20 h20 => ?_)
      obtain ⟨rfl, rfl, hf⟩ := h20
      rw [nI_ti (by omega), hl]
      show E _ _ _ _ _ _ (.int (-6) :: _) _ _
      refine J.cVDi (q := (RX5, TX5, 11)) (ci := 5) C (ok_X5_toldOrFinding_n l V _ _ (by decide)) gX5_weak_X5_toldOrFinding rfl mfX5_toldOrFinding rfl (by decide) (by decide) (by first | decide | omega) rfl rfl rfl rfl (Nat.le_of_ble_eq_true rfl) dX5_weak_23 (Nat.le_refl _) (Nat.le_refl _) ?_
      exact J.iret C dX5_weak_26 (qC_s (qC_rF h hf))
    | some k =>
      have w := lst_is (2 ^ g.1.1) (bad g.1 i)
      rw [hl] at w
      have w : k < 2 ^ g.1.1 ∧ bad g.1 i k ∧ _ := w
      refine J.aload_n C dX5_weak_17 rfl ?_
      refine J.aload_n C dX5_weak_18 rfl ?_
      refine J.iload_n C dX5_weak_19 rfl ?_
      refine J.cVGi (q := (RX5, TX5, 11)) (ci := 5) C (ok_X5_leastFailing l V _ _ ok.1 hN) gX5_weak_X5_leastFailing rfl mfX5_leastFailing rfl (by decide) (by decide) (by first | decide | omega) rfl rfl rfl rfl (Nat.le_of_ble_eq_true rfl) dX5_weak_20 (Nat.le_refl _) (Nat.le_refl _) (fun r20 I20 L20 h20 => ?_)
      obtain ⟨rfl, rfl, hf⟩ := h20
      rw [nI_ti (by omega), hl]
      show E _ _ _ _ _ _ (.int (nI k) :: _) _ _
      refine J.cVDi (q := (RX5, TX5, 11)) (ci := 5) C (ok_X5_toldOrFinding_p l V _ _ (by omega)) gX5_weak_X5_toldOrFinding rfl mfX5_toldOrFinding rfl (by decide) (by decide) (by first | decide | omega) rfl rfl rfl rfl (Nat.le_of_ble_eq_true rfl) dX5_weak_23 (Nat.le_refl _) (Nat.le_refl _) ?_
      exact J.iret C dX5_weak_26 (qC_s (qC_rw h hf))
  · have e : sp_weak g.1 o1 = (-1, true) := by
      cases o1 with
      | none => rfl
      | some i => exact if_neg (fun q => tb_f.mp c8f (inO_s.mpr q))
    rw [e]
    refine J.aload_n C dX5_weak_11 rfl ?_
    refine J.iconst C dX5_weak_12 (v := (-1)) (by decide) ?_
    refine J.cVDi (q := (RX5, TX5, 11)) (ci := 5) C (ok_X5_finding l V _ _ _) gX5_weak_X5_finding rfl mfX5_finding rfl (by decide) (by decide) (by first | decide | omega) rfl rfl rfl rfl (Nat.le_of_ble_eq_true rfl) dX5_weak_13 (Nat.le_refl _) (Nat.le_refl _) ?_
    exact J.iret C dX5_weak_16 (qC_s (qC_F h))
