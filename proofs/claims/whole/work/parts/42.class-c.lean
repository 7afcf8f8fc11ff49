/-! THE CLASS: acts on the net -/
def fC (I : Nat → Nat → Int32) : Nat → Nat → Int32 := up2 I 0 10 (I 0 10 + nI 1)
theorem frC_rfl {I : Nat → Nat → Int32} : frC I I := fun _ _ => rfl
theorem frCL_rfl {L : Nat → Nat → Int64} : frCL L L := fun _ _ => rfl
theorem frC_up {I I' : Nat → Nat → Int32} {k j : Nat} {x : Int32} (h : k < 85) (f : frC I I') : frC I (up2 I' k j x) := fun q hq => by rw [up2_n _ _ _ (by omega)]; exact f q hq
theorem frCL_up {L L' : Nat → Nat → Int64} {k j : Nat} {x : Int64} (h : k < 85) (f : frCL L L') : frCL L (up3 L' k j x) := fun q hq => by rw [up3_n _ _ _ (by omega)]; exact f q hq
theorem frC_tr {I I' I'' : Nat → Nat → Int32} (f : frC I I') (g : frC I' I'') : frC I I'' := fun k hk => (g k hk).trans (f k hk)
theorem frC_be {I I' : Nat → Nat → Int32} {k o c : Nat} (h : k < 84) (f : frC I I') : frC I (beC I' k o c) := fun q hq => by rw [beC_o (by omega) (by omega)]; exact f q hq
def qC (I : Nat → Nat → Int32) (L : Nat → Nat → Int64) (p : Int32 × Sg) : Int32 → (Nat → Nat → Int32) → (Nat → Nat → Int64) → Prop := fun r I' L' => r = p.1 ∧ AbC I' L' p.2 ∧ frC I I' ∧ frCL L L'
def PC (l : Launch) (V : Vx) (y : MethodName) (ws : List Cond) (d : Nat) (av : List Value) (I : Nat → Nat → Int32) (L : Nat → Nat → Int64) (p : Int32 × Sg) : Prop := Gi l V y ws d av I L (qC I L p)
theorem AbC_0 {I I' : Nat → Nat → Int32} {L : Nat → Nat → Int64} {g : Sg} {w : Nat × (Nat → Int32)} {z : Int32} (h : AbC I L g) (ek : ∀ k, k ≠ 0 → k ≠ 64 → k < 85 → I' k = I k) (hw : wA (I' 0 9) (I' 64) w) (hz : I' 0 10 = z) : AbC I' L (g.1, g.2.1, g.2.2.1, g.2.2.2.1, w, z) := by
  obtain ⟨h1, ⟨f, h2a, h2b, h2c, h2d, h2e⟩, h3, h4, h5, h6, h7⟩ := h
  refine ⟨netC_of h1 (ek 1 (by decide) (by decide) (by decide)) (ek 2 (by decide) (by decide) (by decide)), ⟨f, h2a, by rw [ek 4 (by decide) (by decide) (by decide)]; exact h2b, by rw [ek 4 (by decide) (by decide) (by decide)]; exact h2c, h2d, fun j t' hj => netC_of (h2e j t' hj) (ek _ (by omega) (by omega) (by omega)) (ek _ (by omega) (by omega) (by omega))⟩, fun k hk => ?_, fun k hk => ?_, hw, hz, ?_⟩
  · have w := h3 k hk
    show match g.2.2.1 k with | some t => _ | none => _
    cases hs : g.2.2.1 k with
    | none => rw [hs] at w; show I' _ 0 = _; rw [ek _ (by omega) (by omega) (by omega)]; exact w
    | some t' => rw [hs] at w; exact netC_of w (ek _ (by omega) (by omega) (by omega)) (ek _ (by omega) (by omega) (by omega))
  · have w := h4 k hk
    rw [ek _ (by omega) (by omega) (by omega)]
    exact w
  · rw [ek 61 (by decide) (by decide) (by decide), ek 62 (by decide) (by decide) (by decide)]; exact h7
theorem AbC_F {I : Nat → Nat → Int32} {L : Nat → Nat → Int64} {g : Sg} (h : AbC I L g) : AbC (fC I) L (gF g) := AbC_0 h (fun k a b c => up2_n _ _ _ a) (by have w := h.2.2.2.2.1; unfold fC; rw [up2_m _ _ _ (by decide), up2_n _ _ _ (by decide)]; exact w) (by unfold fC; rw [up2_s, h.2.2.2.2.2.1])
theorem qC_F {I : Nat → Nat → Int32} {L : Nat → Nat → Int64} {g : Sg} {z : Int32} (h : AbC I L g) : qC I L (z, gF g) z (fC I) L := ⟨rfl, AbC_F h, frC_up (by decide) frC_rfl, frCL_rfl⟩
theorem qC_s {V : Vx} {I I' : Nat → Nat → Int32} {L L' : Nat → Nat → Int64} {p : Int32 × Sg} {r : Int32} (h : qC I L p r I' L') : ∃ r' I'' L'', (some (Value.int r) : Option Value) = some (.int r') ∧ mm V I' L' = mm V I'' L'' ∧ qC I L p r' I'' L'' := ⟨r, I', L', rfl, rfl, h⟩
theorem netC_set {I I' : Nat → Nat → Int32} {k i n : Nat} {t : Nt} {x : Cmp} (h : netC I k t) (e0 : I' k 0 = I k 0) (e1 : I' k 1 = nI n) (hn : ∀ j, j < n → j = i ∨ j < t.2.1) (eo : ∀ j, j ≠ i → I' (k + 1) j = I (k + 1) j) (ei : I' (k + 1) i = nI (pk x)) : netC I' k (t.1, n, va_up t.2.2 i x) := by
  refine ⟨by rw [e0]; exact h.1, e1, fun j hj => ?_⟩
  show I' (k + 1) j = nI (pk (va_up t.2.2 i x j))
  by_cases e : j = i
  · subst e
    rw [va_up_self]
    exact ei
  · rw [va_up_ne _ _ e, eo j e]
    exact h.2.2 j (by rcases hn j hj with q | q; exact absurd q e; exact q)
set_option maxHeartbeats 4000000 in
set_option maxRecDepth 100000 in
theorem ok_X5_finding (l : Launch) (V : Vx) (w : Int32) (I : Nat → Nat → Int32) (L : Nat → Nat → Int64) : Di l V yX5_finding wsX5_finding 1 [.ref (ad V 0), .int w] I L w (fC I) L := by
  refine Ok.of (cc := cX5_finding) (maxL := 2) (ret := (some .int)) (by decide) rfl (Nat.le_of_ble_eq_true rfl) (fun X hnm C => ?_)
  have C : CX l X V RX5 cX5_finding 2 wsX5_finding 1 0 0 (some .int) := C
  refine J.cast (ls' := [(0, _), (1, _)]) rfl rfl rfl rfl ?_
  refine J.aload_n C dX5_finding_0 rfl ?_
  refine J.dup C dX5_finding_1 rfl ?_
  refine J.getI C flX5_finding_61 (by first | decide | omega) rfl (by exact rfl) (by first | ((repeat (first | rewrite [up2_n _ _ _ (by first | decide | omega)] | rewrite [up2_m _ _ _ (by decide)] | rewrite [up3_n _ _ _ (by first | decide | omega)])) <;> (first | exact up2_s _ _ _ _ | exact up3_s _ _ _ _ | assumption | exact rfl))) dX5_finding_2 ?_
  refine J.iconst C dX5_finding_5 (v := (nI 1)) (by decide) ?_
  first | refine J.iadd_n C dX5_finding_6 ?_ | refine J.iadd C dX5_finding_6 ?_
  refine J.putI C fpX5_finding_61 (by first | decide | omega) rfl (Nat.le_of_ble_eq_true rfl) (by first | exact mp_5_10 rfl | exact mp_5_10 (by assumption)) dX5_finding_7 ?_
  refine J.iload_n C dX5_finding_10 rfl ?_
  exact J.iret C dX5_finding_11 ⟨rfl, rfl⟩
set_option maxHeartbeats 4000000 in
set_option maxRecDepth 100000 in
theorem ok_X5_isKind (l : Launch) (V : Vx) {x : Int32} {o : Option Nat} (I : Nat → Nat → Int32) (L : Nat → Nat → Int64) (hx : AG x o) : Di l V yX5_isKind wsX5_isKind 1 [.int x] I L (bI (tb (inO o 5))) I L := by
  rw [← tb_congr (AG_in (m := 5) hx)]
  refine Ok.of (cc := cX5_isKind) (maxL := 1) (ret := (some .boolean)) (by decide) rfl (Nat.le_of_ble_eq_true rfl) (fun X hnm C => ?_)
  have C : CX l X V RX5 cX5_isKind 1 wsX5_isKind 1 0 0 (some .boolean) := C
  refine J.cast (ls' := [(0, _)]) rfl rfl rfl rfl ?_
  refine J.iload_n C dX5_isKind_0 rfl ?_
  refine J.if_lt_z C dX5_isKind_1 (tgt := 13) (by decide) (fun c1t => ?_) (fun c1f => ?_)
  · refine J.iconst C dX5_isKind_13 (v := (nI 0)) (by decide) ?_
    exact J.zret C dX5_isKind_14 (by first | exact bI_nar _ | rfl | decide | assumption) ⟨rb_f (tb_0 (by omega)), rfl⟩
  · refine J.iload_n C dX5_isKind_4 rfl ?_
    refine J.iconst C dX5_isKind_5 (v := (nI 5)) (by decide) ?_
    first | refine J.icmp_ge_n C (by omega) (by omega) dX5_isKind_6 (tgt := 13) (by decide) (fun c6t => ?_) (fun c6f => ?_) | refine J.icmp_ge_xn C (by omega) dX5_isKind_6 (tgt := 13) (by decide) (fun c6t => ?_) (fun c6f => ?_) | refine J.icmp_ge_nx C (by omega) dX5_isKind_6 (tgt := 13) (by decide) (fun c6t => ?_) (fun c6f => ?_) | refine J.icmp_ge C dX5_isKind_6 (tgt := 13) (by decide) (fun c6t => ?_) (fun c6f => ?_)
    · refine J.iconst C dX5_isKind_13 (v := (nI 0)) (by decide) ?_
      exact J.zret C dX5_isKind_14 (by first | exact bI_nar _ | rfl | decide | assumption) ⟨rb_f (tb_0 (by omega)), rfl⟩
    · refine J.iconst C dX5_isKind_9 (v := (nI 1)) (by decide) ?_
      refine J.goto C dX5_isKind_10 (tgt := 14) (by decide) ?_
      exact J.zret C dX5_isKind_14 (by first | exact bI_nar _ | rfl | decide | assumption) ⟨rb_t (tb_1 (by omega)), rfl⟩
set_option maxHeartbeats 4000000 in
set_option maxRecDepth 100000 in
theorem ok_X5_isSlot (l : Launch) (V : Vx) {x : Int32} {o : Option Nat} (I : Nat → Nat → Int32) (L : Nat → Nat → Int64) (hx : AG x o) : Di l V yX5_isSlot wsX5_isSlot 1 [.int x] I L (bI (tb (inO o 4))) I L := by
  rw [← tb_congr (AG_in (m := 4) hx)]
  refine Ok.of (cc := cX5_isSlot) (maxL := 1) (ret := (some .boolean)) (by decide) rfl (Nat.le_of_ble_eq_true rfl) (fun X hnm C => ?_)
  have C : CX l X V RX5 cX5_isSlot 1 wsX5_isSlot 1 0 0 (some .boolean) := C
  refine J.cast (ls' := [(0, _)]) rfl rfl rfl rfl ?_
  refine J.iload_n C dX5_isSlot_0 rfl ?_
  refine J.if_lt_z C dX5_isSlot_1 (tgt := 13) (by decide) (fun c1t => ?_) (fun c1f => ?_)
  · refine J.iconst C dX5_isSlot_13 (v := (nI 0)) (by decide) ?_
    exact J.zret C dX5_isSlot_14 (by first | exact bI_nar _ | rfl | decide | assumption) ⟨rb_f (tb_0 (by omega)), rfl⟩
  · refine J.iload_n C dX5_isSlot_4 rfl ?_
    refine J.iconst C dX5_isSlot_5 (v := (nI 4)) (by decide) ?_
    first | refine J.icmp_ge_n C (by omega) (by omega) dX5_isSlot_6 (tgt := 13) (by decide) (fun c6t => ?_) (fun c6f => ?_) | refine J.icmp_ge_xn C (by omega) dX5_isSlot_6 (tgt := 13) (by decide) (fun c6t => ?_) (fun c6f => ?_) | refine J.icmp_ge_nx C (by omega) dX5_isSlot_6 (tgt := 13) (by decide) (fun c6t => ?_) (fun c6f => ?_) | refine J.icmp_ge C dX5_isSlot_6 (tgt := 13) (by decide) (fun c6t => ?_) (fun c6f => ?_)
    · refine J.iconst C dX5_isSlot_13 (v := (nI 0)) (by decide) ?_
      exact J.zret C dX5_isSlot_14 (by first | exact bI_nar _ | rfl | decide | assumption) ⟨rb_f (tb_0 (by omega)), rfl⟩
    · refine J.iconst C dX5_isSlot_9 (v := (nI 1)) (by decide) ?_
      refine J.goto C dX5_isSlot_10 (tgt := 14) (by decide) ?_
      exact J.zret C dX5_isSlot_14 (by first | exact bI_nar _ | rfl | decide | assumption) ⟨rb_t (tb_1 (by omega)), rfl⟩
set_option maxHeartbeats 4000000 in
set_option maxRecDepth 100000 in
theorem ok_X5_isCrate (l : Launch) (V : Vx) {x : Int32} {o : Option Nat} (I : Nat → Nat → Int32) (L : Nat → Nat → Int64) (hx : AG x o) : Di l V yX5_isCrate wsX5_isCrate 1 [.int x] I L (bI (tb (inO o 6))) I L := by
  rw [← tb_congr (AG_in (m := 6) hx)]
  refine Ok.of (cc := cX5_isCrate) (maxL := 1) (ret := (some .boolean)) (by decide) rfl (Nat.le_of_ble_eq_true rfl) (fun X hnm C => ?_)
  have C : CX l X V RX5 cX5_isCrate 1 wsX5_isCrate 1 0 0 (some .boolean) := C
  refine J.cast (ls' := [(0, _)]) rfl rfl rfl rfl ?_
  refine J.iload_n C dX5_isCrate_0 rfl ?_
  refine J.if_lt_z C dX5_isCrate_1 (tgt := 14) (by decide) (fun c1t => ?_) (fun c1f => ?_)
  · refine J.iconst C dX5_isCrate_14 (v := (nI 0)) (by decide) ?_
    exact J.zret C dX5_isCrate_15 (by first | exact bI_nar _ | rfl | decide | assumption) ⟨rb_f (tb_0 (by omega)), rfl⟩
  · refine J.iload_n C dX5_isCrate_4 rfl ?_
    refine J.bipush C dX5_isCrate_5 (v := (nI 6)) (by decide) ?_
    first | refine J.icmp_ge_n C (by omega) (by omega) dX5_isCrate_7 (tgt := 14) (by decide) (fun c7t => ?_) (fun c7f => ?_) | refine J.icmp_ge_xn C (by omega) dX5_isCrate_7 (tgt := 14) (by decide) (fun c7t => ?_) (fun c7f => ?_) | refine J.icmp_ge_nx C (by omega) dX5_isCrate_7 (tgt := 14) (by decide) (fun c7t => ?_) (fun c7f => ?_) | refine J.icmp_ge C dX5_isCrate_7 (tgt := 14) (by decide) (fun c7t => ?_) (fun c7f => ?_)
    · refine J.iconst C dX5_isCrate_14 (v := (nI 0)) (by decide) ?_
      exact J.zret C dX5_isCrate_15 (by first | exact bI_nar _ | rfl | decide | assumption) ⟨rb_f (tb_0 (by omega)), rfl⟩
    · refine J.iconst C dX5_isCrate_10 (v := (nI 1)) (by decide) ?_
      refine J.goto C dX5_isCrate_11 (tgt := 15) (by decide) ?_
      exact J.zret C dX5_isCrate_15 (by first | exact bI_nar _ | rfl | decide | assumption) ⟨rb_t (tb_1 (by omega)), rfl⟩
set_option maxHeartbeats 4000000 in
set_option maxRecDepth 100000 in
theorem ok_X5_lanes (l : Launch) (V : Vx) {g : Sg} {x : Int32} {o : Option Nat} (I : Nat → Nat → Int32) (L : Nat → Nat → Int64) (hx : AG x o) (hz : V.2.2.2.2.2 = false) (h : AbC I L g) (ok : okG g) : PC l V yX5_lanes wsX5_lanes 3 [.ref (ad V 0), .int x] I L (op_lanes g o) := by
  have hN := h.1
  have h0 := hN.1
  have hm := hN.2.1
  have hl2 := ok.1.1
  have hl8 := ok.1.2.1
  have h40 := ok.1.2.2.1
  cases o with
  | none =>
    have hx : x.toInt < 0 := hx
    refine Ok.of (cc := cX5_lanes) (maxL := 3) (ret := (some .int)) (by decide) rfl (Nat.le_of_ble_eq_true rfl) (fun X hnm C => ?_)
    have C : CX l X V RX5 cX5_lanes 3 wsX5_lanes 3 0 0 (some .int) := C
    refine J.cast (ls' := [(0, _), (1, _)]) rfl rfl rfl rfl ?_
    refine J.iload_n C dX5_lanes_0 rfl ?_
    refine J.iconst C dX5_lanes_1 (v := (nI 2)) (by decide) ?_
    first | refine J.icmp_lt_n C (by omega) (by omega) dX5_lanes_2 (tgt := 11) (by decide) (fun _ => ?_) (fun c2 => absurd c2 (by first | omega | decide | simp_all)) | refine J.icmp_lt_xn C (by omega) dX5_lanes_2 (tgt := 11) (by decide) (fun _ => ?_) (fun c2 => absurd c2 (by first | omega | decide | simp_all)) | refine J.icmp_lt_nx C (by omega) dX5_lanes_2 (tgt := 11) (by decide) (fun _ => ?_) (fun c2 => absurd c2 (by first | omega | decide | simp_all)) | refine J.icmp_lt C dX5_lanes_2 (tgt := 11) (by decide) (fun _ => ?_) (fun c2 => absurd c2 (by first | omega | decide | simp_all))
    refine J.aload_n C dX5_lanes_11 rfl ?_
    refine J.iconst C dX5_lanes_12 (v := (-1)) (by decide) ?_
    refine J.cVDi (q := (RX5, TX5, 11)) (ci := 5) C (ok_X5_finding l V _ _ _) gX5_lanes_X5_finding rfl mfX5_finding rfl (by decide) (by decide) (by first | decide | omega) rfl rfl rfl rfl (Nat.le_of_ble_eq_true rfl) dX5_lanes_13 (Nat.le_refl _) (Nat.le_refl _) ?_
    exact J.iret C dX5_lanes_16 (qC_s (qC_F h))
  | some k =>
    obtain ⟨hk, rfl⟩ := hx
    simp only [op_lanes]
    refine Ok.of (cc := cX5_lanes) (maxL := 3) (ret := (some .int)) (by decide) rfl (Nat.le_of_ble_eq_true rfl) (fun X hnm C => ?_)
    have C : CX l X V RX5 cX5_lanes 3 wsX5_lanes 3 0 0 (some .int) := C
    refine J.cast (ls' := [(0, _), (1, _)]) rfl rfl rfl rfl ?_
    refine J.iload_n C dX5_lanes_0 rfl ?_
    refine J.iconst C dX5_lanes_1 (v := (nI 2)) (by decide) ?_
    first | refine J.icmp_lt_n C (by omega) (by omega) dX5_lanes_2 (tgt := 11) (by decide) (fun c2t => ?_) (fun c2f => ?_) | refine J.icmp_lt_xn C (by omega) dX5_lanes_2 (tgt := 11) (by decide) (fun c2t => ?_) (fun c2f => ?_) | refine J.icmp_lt_nx C (by omega) dX5_lanes_2 (tgt := 11) (by decide) (fun c2t => ?_) (fun c2f => ?_) | refine J.icmp_lt C dX5_lanes_2 (tgt := 11) (by decide) (fun c2t => ?_) (fun c2f => ?_)
    · rw [tb_0 (show ¬ (2 ≤ k ∧ k ≤ 8) by omega)]
      refine J.aload_n C dX5_lanes_11 rfl ?_
      refine J.iconst C dX5_lanes_12 (v := (-1)) (by decide) ?_
      refine J.cVDi (q := (RX5, TX5, 11)) (ci := 5) C (ok_X5_finding l V _ _ _) gX5_lanes_X5_finding rfl mfX5_finding rfl (by decide) (by decide) (by first | decide | omega) rfl rfl rfl rfl (Nat.le_of_ble_eq_true rfl) dX5_lanes_13 (Nat.le_refl _) (Nat.le_refl _) ?_
      exact J.iret C dX5_lanes_16 (qC_s (qC_F h))
    · refine J.iload_n C dX5_lanes_5 rfl ?_
      refine J.bipush C dX5_lanes_6 (v := (nI 8)) (by decide) ?_
      first | refine J.icmp_le_n C (by omega) (by omega) dX5_lanes_8 (tgt := 17) (by decide) (fun c8t => ?_) (fun c8f => ?_) | refine J.icmp_le_xn C (by omega) dX5_lanes_8 (tgt := 17) (by decide) (fun c8t => ?_) (fun c8f => ?_) | refine J.icmp_le_nx C (by omega) dX5_lanes_8 (tgt := 17) (by decide) (fun c8t => ?_) (fun c8f => ?_) | refine J.icmp_le C dX5_lanes_8 (tgt := 17) (by decide) (fun c8t => ?_) (fun c8f => ?_)
      · rw [tb_1 (show 2 ≤ k ∧ k ≤ 8 by omega)]
        refine J.aload_n C dX5_lanes_17 rfl ?_
        refine J.getR C flX5_lanes_23 (by first | decide | omega) rfl (by exact rfl) dX5_lanes_18 ?_
        refine J.aload_n C dX5_lanes_21 rfl ?_
        refine J.getR C flX5_lanes_10 (by first | decide | omega) rfl (by exact rfl) dX5_lanes_22 ?_
        refine J.cVGv (q := (RX2, TX2, 3)) (ci := 2) C (ok_X2_remember l V _ _ hz h ok) gX5_lanes_X2_remember rfl mfX2_remember rfl (by decide) (by decide) (by first | decide | omega) rfl rfl rfl rfl (Nat.le_of_ble_eq_true rfl) dX5_lanes_25 (Nat.le_refl _) (Nat.le_refl _) (fun I25 L25 h25 => ?_)
        obtain ⟨hB, hfr, hLL⟩ := h25
        subst hLL
        have hb0 : I25 1 0 = nI g.1.1 := hB.1.1
        have hb1 : I25 1 1 = nI g.1.2.1 := hB.1.2.1
        refine J.aload_n C dX5_lanes_28 rfl ?_
        refine J.getR C flX5_lanes_10 (by first | decide | omega) rfl (by exact rfl) dX5_lanes_29 ?_
        refine J.getI C flX5_lanes_77 (by first | decide | omega) (by first | exact rfl | exact mk_3 (by assumption)) (by exact rfl) (by first | ((repeat (first | rewrite [up2_n _ _ _ (by first | decide | omega)] | rewrite [up2_m _ _ _ (by decide)] | rewrite [up3_n _ _ _ (by first | decide | omega)])) <;> (first | exact up2_s _ _ _ _ | exact up3_s _ _ _ _ | assumption | exact rfl))) dX5_lanes_32 ?_
        refine J.istore_n (ls' := [(0, _), (1, _), (2, _)]) C dX5_lanes_35 (by decide) rfl ?_
        refine J.aload_n C dX5_lanes_36 rfl ?_
        refine J.getR C flX5_lanes_10 (by first | decide | omega) rfl (by exact rfl) dX5_lanes_37 ?_
        refine J.iload_n C dX5_lanes_40 rfl ?_
        refine J.cVDv (q := (RX3, TX3, 3)) (ci := 3) C (ok_X3_clear l V _ _ rfl) gX5_lanes_X3_clear rfl mfX3_clear rfl (by decide) (by decide) (by first | decide | omega) (by first | exact rfl | exact mk_3 (by assumption)) rfl rfl rfl (Nat.le_of_ble_eq_true rfl) dX5_lanes_41 (Nat.le_refl _) (Nat.le_refl _) ?_
        refine J.iload_n C dX5_lanes_44 rfl ?_
        exact J.iret C dX5_lanes_45 (qC_s ⟨rfl, AbC_net hB ⟨by rw [up2_m _ _ _ (by decide), up2_s], by rw [up2_s], fun i hi => absurd hi (Nat.not_lt_zero _)⟩ (fun k a b c => by rw [up2_n _ _ _ a, up2_n _ _ _ a]), (by repeat (first | exact hfr | exact frC_rfl | refine frC_up (by decide) ?_)), frCL_rfl⟩)
      · rw [tb_0 (show ¬ (2 ≤ k ∧ k ≤ 8) by omega)]
        refine J.aload_n C dX5_lanes_11 rfl ?_
        refine J.iconst C dX5_lanes_12 (v := (-1)) (by decide) ?_
        refine J.cVDi (q := (RX5, TX5, 11)) (ci := 5) C (ok_X5_finding l V _ _ _) gX5_lanes_X5_finding rfl mfX5_finding rfl (by decide) (by decide) (by first | decide | omega) rfl rfl rfl rfl (Nat.le_of_ble_eq_true rfl) dX5_lanes_13 (Nat.le_refl _) (Nat.le_refl _) ?_
        exact J.iret C dX5_lanes_16 (qC_s (qC_F h))
set_option maxHeartbeats 4000000 in
set_option maxRecDepth 100000 in
theorem ok_X5_comparer (l : Launch) (V : Vx) {g : Sg} {x1 : Int32} {o1 : Option Nat}{x2 : Int32} {o2 : Option Nat}{x3 : Int32} {o3 : Option Nat} (I : Nat → Nat → Int32) (L : Nat → Nat → Int64) (hx1 : AG x1 o1) (hx2 : AG x2 o2) (hx3 : AG x3 o3) (hz : V.2.2.2.2.2 = false) (h : AbC I L g) (ok : okG g) : PC l V yX5_comparer wsX5_comparer 3 [.ref (ad V 0), .int x1, .int x2, .int x3] I L (op_comparer g o1 o2 o3) := by
  have hN := h.1
  have h0 := hN.1
  have hm := hN.2.1
  have hl2 := ok.1.1
  have hl8 := ok.1.2.1
  have h40 := ok.1.2.2.1
  refine Ok.of (cc := cX5_comparer) (maxL := 4) (ret := (some .int)) (by decide) rfl (Nat.le_of_ble_eq_true rfl) (fun X hnm C => ?_)
  have C : CX l X V RX5 cX5_comparer 4 wsX5_comparer 3 0 0 (some .int) := C
  refine J.cast (ls' := [(0, _), (1, _), (2, _), (3, _)]) rfl rfl rfl rfl ?_
  refine J.iload_n C dX5_comparer_0 rfl ?_
  refine J.cSDi C (ok_X5_isKind l V _ _ hx1) gX5_comparer_X5_isKind rfl mfX5_isKind (by decide) (by decide) rfl rfl (Nat.le_of_ble_eq_true rfl) dX5_comparer_1 (Nat.le_refl _) (Nat.le_refl _) ?_
  first | refine J.if_eq_b C dX5_comparer_4 (tgt := 29) (by decide) (fun c4t => ?_) (fun c4f => ?_) | refine J.if_eq_n C (by omega) dX5_comparer_4 (tgt := 29) (by decide) (fun c4t => ?_) (fun c4f => ?_) | refine J.if_eq C dX5_comparer_4 (tgt := 29) (by decide) (fun c4t => ?_) (fun c4f => ?_)
  · refine J.aload_n C dX5_comparer_29 rfl ?_
    refine J.iconst C dX5_comparer_30 (v := (-1)) (by decide) ?_
    refine J.cVDi (q := (RX5, TX5, 11)) (ci := 5) C (ok_X5_finding l V _ _ _) gX5_comparer_X5_finding rfl mfX5_finding rfl (by decide) (by decide) (by first | decide | omega) rfl rfl rfl rfl (Nat.le_of_ble_eq_true rfl) dX5_comparer_31 (Nat.le_refl _) (Nat.le_refl _) ?_
    exact J.iret C dX5_comparer_34 (qC_s (by unfold op_comparer; rw [tb_0 (fun q => by first | exact tb_f.mp c4t q.1 | exact tb_f.mp c15t q.2.1 | exact tb_f.mp c26f q.2.2)]; exact qC_F h))
  · refine J.aload_n C dX5_comparer_7 rfl ?_
    refine J.getR C flX5_comparer_10 (by first | decide | omega) rfl (by exact rfl) dX5_comparer_8 ?_
    refine J.iload_n C dX5_comparer_11 rfl ?_
    refine J.cVDi (q := (RX3, TX3, 3)) (ci := 3) C (ok_X3_hasLane l V _ _ rfl hx2 h0 (by omega)) gX5_comparer_X3_hasLane rfl mfX3_hasLane rfl (by decide) (by decide) (by first | decide | omega) (by first | exact rfl | exact mk_3 (by assumption)) rfl rfl rfl (Nat.le_of_ble_eq_true rfl) dX5_comparer_12 (Nat.le_refl _) (Nat.le_refl _) ?_
    first | refine J.if_eq_b C dX5_comparer_15 (tgt := 29) (by decide) (fun c15t => ?_) (fun c15f => ?_) | refine J.if_eq_n C (by omega) dX5_comparer_15 (tgt := 29) (by decide) (fun c15t => ?_) (fun c15f => ?_) | refine J.if_eq C dX5_comparer_15 (tgt := 29) (by decide) (fun c15t => ?_) (fun c15f => ?_)
    · refine J.aload_n C dX5_comparer_29 rfl ?_
      refine J.iconst C dX5_comparer_30 (v := (-1)) (by decide) ?_
      refine J.cVDi (q := (RX5, TX5, 11)) (ci := 5) C (ok_X5_finding l V _ _ _) gX5_comparer_X5_finding rfl mfX5_finding rfl (by decide) (by decide) (by first | decide | omega) rfl rfl rfl rfl (Nat.le_of_ble_eq_true rfl) dX5_comparer_31 (Nat.le_refl _) (Nat.le_refl _) ?_
      exact J.iret C dX5_comparer_34 (qC_s (by unfold op_comparer; rw [tb_0 (fun q => by first | exact tb_f.mp c4t q.1 | exact tb_f.mp c15t q.2.1 | exact tb_f.mp c26f q.2.2)]; exact qC_F h))
    · refine J.aload_n C dX5_comparer_18 rfl ?_
      refine J.getR C flX5_comparer_10 (by first | decide | omega) rfl (by exact rfl) dX5_comparer_19 ?_
      refine J.iload_n C dX5_comparer_22 rfl ?_
      refine J.cVDi (q := (RX3, TX3, 3)) (ci := 3) C (ok_X3_hasLane l V _ _ rfl hx3 h0 (by omega)) gX5_comparer_X3_hasLane rfl mfX3_hasLane rfl (by decide) (by decide) (by first | decide | omega) (by first | exact rfl | exact mk_3 (by assumption)) rfl rfl rfl (Nat.le_of_ble_eq_true rfl) dX5_comparer_23 (Nat.le_refl _) (Nat.le_refl _) ?_
      first | refine J.if_ne_b C dX5_comparer_26 (tgt := 35) (by decide) (fun c26t => ?_) (fun c26f => ?_) | refine J.if_ne_n C (by omega) dX5_comparer_26 (tgt := 35) (by decide) (fun c26t => ?_) (fun c26f => ?_) | refine J.if_ne C dX5_comparer_26 (tgt := 35) (by decide) (fun c26t => ?_) (fun c26f => ?_)
      · obtain ⟨k, rfl, hk⟩ := tb_t.mp c4f
        obtain ⟨a, rfl, ha⟩ := tb_t.mp c15f
        obtain ⟨b, rfl, hb⟩ := tb_t.mp c26t
        obtain ⟨-, rfl⟩ := hx1
        obtain ⟨-, rfl⟩ := hx2
        obtain ⟨-, rfl⟩ := hx3
        have e1 : tb (inO (some k) 5 ∧ inO (some a) g.1.1 ∧ inO (some b) g.1.1) = true := tb_1 ⟨tb_t.mp c4f, tb_t.mp c15f, tb_t.mp c26t⟩
        unfold op_comparer
        rw [e1]
        refine J.iload_n C dX5_comparer_35 rfl ?_
        refine J.iload_n C dX5_comparer_36 rfl ?_
        first | refine J.icmp_lt_n C (by omega) (by omega) dX5_comparer_37 (tgt := 47) (by decide) (fun c37t => ?_) (fun c37f => ?_) | refine J.icmp_lt_xn C (by omega) dX5_comparer_37 (tgt := 47) (by decide) (fun c37t => ?_) (fun c37f => ?_) | refine J.icmp_lt_nx C (by omega) dX5_comparer_37 (tgt := 47) (by decide) (fun c37t => ?_) (fun c37f => ?_) | refine J.icmp_lt C dX5_comparer_37 (tgt := 47) (by decide) (fun c37t => ?_) (fun c37f => ?_)
        · rw [tb_1 (show (some a).getD 0 < (some b).getD 0 from c37t)]
          refine J.aload_n C dX5_comparer_47 rfl ?_
          refine J.getR C flX5_comparer_10 (by first | decide | omega) rfl (by exact rfl) dX5_comparer_48 ?_
          refine J.getI C flX5_comparer_77 (by first | decide | omega) (by first | exact rfl | exact mk_3 (by assumption)) (by exact rfl) (by first | ((repeat (first | rewrite [up2_n _ _ _ (by first | decide | omega)] | rewrite [up2_m _ _ _ (by decide)] | rewrite [up3_n _ _ _ (by first | decide | omega)])) <;> (first | exact up2_s _ _ _ _ | exact up3_s _ _ _ _ | assumption | exact rfl))) dX5_comparer_51 ?_
          refine J.bipush C dX5_comparer_54 (v := (nI 40)) (by decide) ?_
          first | refine J.icmp_lt_n C (by omega) (by omega) dX5_comparer_56 (tgt := 66) (by decide) (fun c56t => ?_) (fun c56f => ?_) | refine J.icmp_lt_xn C (by omega) dX5_comparer_56 (tgt := 66) (by decide) (fun c56t => ?_) (fun c56f => ?_) | refine J.icmp_lt_nx C (by omega) dX5_comparer_56 (tgt := 66) (by decide) (fun c56t => ?_) (fun c56f => ?_) | refine J.icmp_lt C dX5_comparer_56 (tgt := 66) (by decide) (fun c56t => ?_) (fun c56f => ?_)
          · rw [tb_0 (show ¬ g.1.2.1 = 40 by omega)]
            refine J.aload_n C dX5_comparer_66 rfl ?_
            refine J.getR C flX5_comparer_23 (by first | decide | omega) rfl (by exact rfl) dX5_comparer_67 ?_
            refine J.aload_n C dX5_comparer_70 rfl ?_
            refine J.getR C flX5_comparer_10 (by first | decide | omega) rfl (by exact rfl) dX5_comparer_71 ?_
            refine J.cVGv (q := (RX2, TX2, 3)) (ci := 2) C (ok_X2_remember l V _ _ hz h ok) gX5_comparer_X2_remember rfl mfX2_remember rfl (by decide) (by decide) (by first | decide | omega) rfl rfl rfl rfl (Nat.le_of_ble_eq_true rfl) dX5_comparer_74 (Nat.le_refl _) (Nat.le_refl _) (fun I74 L74 h74 => ?_)
            obtain ⟨hB, hfr, hLL⟩ := h74
            subst hLL
            have hb0 : I74 1 0 = nI g.1.1 := hB.1.1
            have hb1 : I74 1 1 = nI g.1.2.1 := hB.1.2.1
            refine J.aload_n C dX5_comparer_77 rfl ?_
            refine J.getR C flX5_comparer_10 (by first | decide | omega) rfl (by exact rfl) dX5_comparer_78 ?_
            refine J.iload_n C dX5_comparer_81 rfl ?_
            refine J.iload_n C dX5_comparer_82 rfl ?_
            refine J.iload_n C dX5_comparer_83 rfl ?_
            refine J.cVDv (q := (RX3, TX3, 3)) (ci := 3) C (ok_X3_add l V _ _ rfl hb1 (by omega) hk (by omega) (by omega)) gX5_comparer_X3_add rfl mfX3_add rfl (by decide) (by decide) (by first | decide | omega) (by first | exact rfl | exact mk_3 (by assumption)) rfl rfl rfl (Nat.le_of_ble_eq_true rfl) dX5_comparer_84 (Nat.le_refl _) (Nat.le_refl _) ?_
            refine J.aload_n C dX5_comparer_87 rfl ?_
            refine J.getR C flX5_comparer_10 (by first | decide | omega) rfl (by exact rfl) dX5_comparer_88 ?_
            refine J.getI C flX5_comparer_77 (by first | decide | omega) (by first | exact rfl | exact mk_3 (by assumption)) (by exact rfl) (by first | ((repeat (first | rewrite [up2_n _ _ _ (by first | decide | omega)] | rewrite [up2_m _ _ _ (by decide)] | rewrite [up3_n _ _ _ (by first | decide | omega)])) <;> (first | exact up2_s _ _ _ _ | exact up3_s _ _ _ _ | assumption | exact rfl))) dX5_comparer_91 ?_
            exact J.iret C dX5_comparer_94 (qC_s ⟨rfl, AbC_net hB (netC_set (i := g.1.2.1) (x := (k, a, b, tb (k = 4))) hB.1 (by rw [up2_m _ _ _ (by decide), up2_n _ _ _ (by decide)]) (up2_s _ _ _ _) (fun j q => by show j = g.1.2.1 ∨ j < g.1.2.1; omega) (fun j q => by rw [up2_n _ _ _ (by decide), up2_m _ _ _ q]) (by rw [up2_n _ _ _ (by decide), up2_s])) (fun k a b c => by rw [up2_n _ _ _ a, up2_n _ _ _ b]), (by repeat (first | exact hfr | exact frC_rfl | refine frC_up (by decide) ?_)), frCL_rfl⟩)
          · rw [tb_1 (show g.1.2.1 = 40 by omega)]
            refine J.aload_n C dX5_comparer_59 rfl ?_
            refine J.bipush C dX5_comparer_60 (v := (-5)) (by decide) ?_
            refine J.cVDi (q := (RX5, TX5, 11)) (ci := 5) C (ok_X5_finding l V _ _ _) gX5_comparer_X5_finding rfl mfX5_finding rfl (by decide) (by decide) (by first | decide | omega) rfl rfl rfl rfl (Nat.le_of_ble_eq_true rfl) dX5_comparer_62 (Nat.le_refl _) (Nat.le_refl _) ?_
            exact J.iret C dX5_comparer_65 (qC_s (qC_F h))
        · rw [tb_0 (show ¬ (some a).getD 0 < (some b).getD 0 from c37f)]
          refine J.aload_n C dX5_comparer_40 rfl ?_
          refine J.bipush C dX5_comparer_41 (v := (-3)) (by decide) ?_
          refine J.cVDi (q := (RX5, TX5, 11)) (ci := 5) C (ok_X5_finding l V _ _ _) gX5_comparer_X5_finding rfl mfX5_finding rfl (by decide) (by decide) (by first | decide | omega) rfl rfl rfl rfl (Nat.le_of_ble_eq_true rfl) dX5_comparer_43 (Nat.le_refl _) (Nat.le_refl _) ?_
          exact J.iret C dX5_comparer_46 (qC_s (qC_F h))
      · refine J.aload_n C dX5_comparer_29 rfl ?_
        refine J.iconst C dX5_comparer_30 (v := (-1)) (by decide) ?_
        refine J.cVDi (q := (RX5, TX5, 11)) (ci := 5) C (ok_X5_finding l V _ _ _) gX5_comparer_X5_finding rfl mfX5_finding rfl (by decide) (by decide) (by first | decide | omega) rfl rfl rfl rfl (Nat.le_of_ble_eq_true rfl) dX5_comparer_31 (Nat.le_refl _) (Nat.le_refl _) ?_
        exact J.iret C dX5_comparer_34 (qC_s (by unfold op_comparer; rw [tb_0 (fun q => by first | exact tb_f.mp c4t q.1 | exact tb_f.mp c15t q.2.1 | exact tb_f.mp c26f q.2.2)]; exact qC_F h))
set_option maxHeartbeats 4000000 in
set_option maxRecDepth 100000 in
theorem ok_X5_cut (l : Launch) (V : Vx) {g : Sg} {x : Int32} {o : Option Nat} (I : Nat → Nat → Int32) (L : Nat → Nat → Int64) (hx : AG x o) (hz : V.2.2.2.2.2 = false) (h : AbC I L g) (ok : okG g) : PC l V yX5_cut wsX5_cut 3 [.ref (ad V 0), .int x] I L (op_cut g o) := by
  have hN := h.1
  have h0 := hN.1
  have hm := hN.2.1
  have hl2 := ok.1.1
  have hl8 := ok.1.2.1
  have h40 := ok.1.2.2.1
  cases o with
  | none =>
    have hx : x.toInt < 0 := hx
    refine Ok.of (cc := cX5_cut) (maxL := 3) (ret := (some .int)) (by decide) rfl (Nat.le_of_ble_eq_true rfl) (fun X hnm C => ?_)
    have C : CX l X V RX5 cX5_cut 3 wsX5_cut 3 0 0 (some .int) := C
    refine J.cast (ls' := [(0, _), (1, _)]) rfl rfl rfl rfl ?_
    refine J.iload_n C dX5_cut_0 rfl ?_
    refine J.if_lt_z C dX5_cut_1 (tgt := 15) (by decide) (fun _ => ?_) (fun c1 => absurd c1 (by first | omega | decide | simp_all))
    refine J.aload_n C dX5_cut_15 rfl ?_
    refine J.iconst C dX5_cut_16 (v := (-1)) (by decide) ?_
    refine J.cVDi (q := (RX5, TX5, 11)) (ci := 5) C (ok_X5_finding l V _ _ _) gX5_cut_X5_finding rfl mfX5_finding rfl (by decide) (by decide) (by first | decide | omega) rfl rfl rfl rfl (Nat.le_of_ble_eq_true rfl) dX5_cut_17 (Nat.le_refl _) (Nat.le_refl _) ?_
    exact J.iret C dX5_cut_20 (qC_s (qC_F h))
  | some k =>
    obtain ⟨hk, rfl⟩ := hx
    simp only [op_cut]
    refine Ok.of (cc := cX5_cut) (maxL := 3) (ret := (some .int)) (by decide) rfl (Nat.le_of_ble_eq_true rfl) (fun X hnm C => ?_)
    have C : CX l X V RX5 cX5_cut 3 wsX5_cut 3 0 0 (some .int) := C
    refine J.cast (ls' := [(0, _), (1, _)]) rfl rfl rfl rfl ?_
    refine J.iload_n C dX5_cut_0 rfl ?_
    refine J.if_lt_n C (by omega) dX5_cut_1 (tgt := 15) (by decide) ?_
    refine J.iload_n C dX5_cut_4 rfl ?_
    refine J.aload_n C dX5_cut_5 rfl ?_
    refine J.getR C flX5_cut_10 (by first | decide | omega) rfl (by exact rfl) dX5_cut_6 ?_
    refine J.getI C flX5_cut_77 (by first | decide | omega) (by first | exact rfl | exact mk_3 (by assumption)) (by exact rfl) (by first | ((repeat (first | rewrite [up2_n _ _ _ (by first | decide | omega)] | rewrite [up2_m _ _ _ (by decide)] | rewrite [up3_n _ _ _ (by first | decide | omega)])) <;> (first | exact up2_s _ _ _ _ | exact up3_s _ _ _ _ | assumption | exact rfl))) dX5_cut_9 ?_
    first | refine J.icmp_le_n C (by omega) (by omega) dX5_cut_12 (tgt := 21) (by decide) (fun c12t => ?_) (fun c12f => ?_) | refine J.icmp_le_xn C (by omega) dX5_cut_12 (tgt := 21) (by decide) (fun c12t => ?_) (fun c12f => ?_) | refine J.icmp_le_nx C (by omega) dX5_cut_12 (tgt := 21) (by decide) (fun c12t => ?_) (fun c12f => ?_) | refine J.icmp_le C dX5_cut_12 (tgt := 21) (by decide) (fun c12t => ?_) (fun c12f => ?_)
    · rw [tb_1 c12t]
      refine J.aload_n C dX5_cut_21 rfl ?_
      refine J.getR C flX5_cut_23 (by first | decide | omega) rfl (by exact rfl) dX5_cut_22 ?_
      refine J.aload_n C dX5_cut_25 rfl ?_
      refine J.getR C flX5_cut_10 (by first | decide | omega) rfl (by exact rfl) dX5_cut_26 ?_
      refine J.cVGv (q := (RX2, TX2, 3)) (ci := 2) C (ok_X2_remember l V _ _ hz h ok) gX5_cut_X2_remember rfl mfX2_remember rfl (by decide) (by decide) (by first | decide | omega) rfl rfl rfl rfl (Nat.le_of_ble_eq_true rfl) dX5_cut_29 (Nat.le_refl _) (Nat.le_refl _) (fun I29 L29 h29 => ?_)
      obtain ⟨hB, hfr, hLL⟩ := h29
      subst hLL
      have hb0 : I29 1 0 = nI g.1.1 := hB.1.1
      have hb1 : I29 1 1 = nI g.1.2.1 := hB.1.2.1
      refine J.aload_n C dX5_cut_32 rfl ?_
      refine J.getR C flX5_cut_10 (by first | decide | omega) rfl (by exact rfl) dX5_cut_33 ?_
      refine J.getI C flX5_cut_77 (by first | decide | omega) (by first | exact rfl | exact mk_3 (by assumption)) (by exact rfl) (by first | ((repeat (first | rewrite [up2_n _ _ _ (by first | decide | omega)] | rewrite [up2_m _ _ _ (by decide)] | rewrite [up3_n _ _ _ (by first | decide | omega)])) <;> (first | exact up2_s _ _ _ _ | exact up3_s _ _ _ _ | assumption | exact rfl))) dX5_cut_36 ?_
      refine J.iload_n C dX5_cut_39 rfl ?_
      first | refine J.isub_n C (by omega) dX5_cut_40 ?_ | refine J.isub C dX5_cut_40 ?_
      refine J.istore_n (ls' := [(0, _), (1, _), (2, _)]) C dX5_cut_41 (by decide) rfl ?_
      refine J.aload_n C dX5_cut_42 rfl ?_
      refine J.getR C flX5_cut_10 (by first | decide | omega) rfl (by exact rfl) dX5_cut_43 ?_
      refine J.iload_n C dX5_cut_46 rfl ?_
      refine J.putI C fpX5_cut_77 (by first | decide | omega) (by first | exact rfl | exact mk_3 (by assumption)) (Nat.le_of_ble_eq_true rfl) (by first | exact mp_3_1 rfl | exact mp_3_1 (by assumption)) dX5_cut_47 ?_
      refine J.iload_n C dX5_cut_50 rfl ?_
      exact J.iret C dX5_cut_51 (qC_s ⟨rfl, AbC_net hB ⟨by rw [up2_m _ _ _ (by decide)]; exact hb0, by rw [up2_s], fun i hi => by rw [up2_n _ _ _ (by decide)]; exact hB.1.2.2 i (Nat.lt_of_lt_of_le hi c12t)⟩ (fun k a b c => by rw [up2_n _ _ _ a]), (by repeat (first | exact hfr | exact frC_rfl | refine frC_up (by decide) ?_)), frCL_rfl⟩)
    · rw [tb_0 c12f]
      refine J.aload_n C dX5_cut_15 rfl ?_
      refine J.iconst C dX5_cut_16 (v := (-1)) (by decide) ?_
      refine J.cVDi (q := (RX5, TX5, 11)) (ci := 5) C (ok_X5_finding l V _ _ _) gX5_cut_X5_finding rfl mfX5_finding rfl (by decide) (by decide) (by first | decide | omega) rfl rfl rfl rfl (Nat.le_of_ble_eq_true rfl) dX5_cut_17 (Nat.le_refl _) (Nat.le_refl _) ?_
      exact J.iret C dX5_cut_20 (qC_s (qC_F h))
set_option maxHeartbeats 4000000 in
set_option maxRecDepth 100000 in
theorem ok_X5_change (l : Launch) (V : Vx) {g : Sg} {x1 : Int32} {o1 : Option Nat}{x2 : Int32} {o2 : Option Nat} (I : Nat → Nat → Int32) (L : Nat → Nat → Int64) (hx1 : AG x1 o1) (hx2 : AG x2 o2) (hz : V.2.2.2.2.2 = false) (h : AbC I L g) (ok : okG g) : PC l V yX5_change wsX5_change 3 [.ref (ad V 0), .int x1, .int x2] I L (op_change g o1 o2) := by
  have hN := h.1
  have h0 := hN.1
  have hm := hN.2.1
  have hl2 := ok.1.1
  have hl8 := ok.1.2.1
  have h40 := ok.1.2.2.1
  refine Ok.of (cc := cX5_change) (maxL := 4) (ret := (some .int)) (by decide) rfl (Nat.le_of_ble_eq_true rfl) (fun X hnm C => ?_)
  have C : CX l X V RX5 cX5_change 4 wsX5_change 3 0 0 (some .int) := C
  refine J.cast (ls' := [(0, _), (1, _), (2, _)]) rfl rfl rfl rfl ?_
  refine J.aload_n C dX5_change_0 rfl ?_
  refine J.getR C flX5_change_10 (by first | decide | omega) rfl (by exact rfl) dX5_change_1 ?_
  refine J.iload_n C dX5_change_4 rfl ?_
  refine J.cVDi (q := (RX3, TX3, 3)) (ci := 3) C (ok_X3_has l V _ _ rfl hx1 hm h40) gX5_change_X3_has rfl mfX3_has rfl (by decide) (by decide) (by first | decide | omega) (by first | exact rfl | exact mk_3 (by assumption)) rfl rfl rfl (Nat.le_of_ble_eq_true rfl) dX5_change_5 (Nat.le_refl _) (Nat.le_refl _) ?_
  first | refine J.if_eq_b C dX5_change_8 (tgt := 18) (by decide) (fun c8t => ?_) (fun c8f => ?_) | refine J.if_eq_n C (by omega) dX5_change_8 (tgt := 18) (by decide) (fun c8t => ?_) (fun c8f => ?_) | refine J.if_eq C dX5_change_8 (tgt := 18) (by decide) (fun c8t => ?_) (fun c8f => ?_)
  · refine J.aload_n C dX5_change_18 rfl ?_
    refine J.iconst C dX5_change_19 (v := (-1)) (by decide) ?_
    refine J.cVDi (q := (RX5, TX5, 11)) (ci := 5) C (ok_X5_finding l V _ _ _) gX5_change_X5_finding rfl mfX5_finding rfl (by decide) (by decide) (by first | decide | omega) rfl rfl rfl rfl (Nat.le_of_ble_eq_true rfl) dX5_change_20 (Nat.le_refl _) (Nat.le_refl _) ?_
    exact J.iret C dX5_change_23 (qC_s (by unfold op_change; rw [tb_0 (fun q => by first | exact tb_f.mp c8t q.1 | exact tb_f.mp c15f q.2)]; exact qC_F h))
  · refine J.iload_n C dX5_change_11 rfl ?_
    refine J.cSDi C (ok_X5_isKind l V _ _ hx2) gX5_change_X5_isKind rfl mfX5_isKind (by decide) (by decide) rfl rfl (Nat.le_of_ble_eq_true rfl) dX5_change_12 (Nat.le_refl _) (Nat.le_refl _) ?_
    first | refine J.if_ne_b C dX5_change_15 (tgt := 24) (by decide) (fun c15t => ?_) (fun c15f => ?_) | refine J.if_ne_n C (by omega) dX5_change_15 (tgt := 24) (by decide) (fun c15t => ?_) (fun c15f => ?_) | refine J.if_ne C dX5_change_15 (tgt := 24) (by decide) (fun c15t => ?_) (fun c15f => ?_)
    · obtain ⟨i, rfl, hi⟩ := tb_t.mp c8f
      obtain ⟨k, rfl, hk⟩ := tb_t.mp c15t
      obtain ⟨-, rfl⟩ := hx1
      obtain ⟨-, rfl⟩ := hx2
      unfold op_change
      rw [tb_1 (show inO (some i) g.1.2.1 ∧ inO (some k) 5 from ⟨tb_t.mp c8f, tb_t.mp c15t⟩)]
      have hcB := okC_B (ok.1.2.2.2 i hi) hl8
      refine J.aload_n C dX5_change_24 rfl ?_
      refine J.getR C flX5_change_23 (by first | decide | omega) rfl (by exact rfl) dX5_change_25 ?_
      refine J.aload_n C dX5_change_28 rfl ?_
      refine J.getR C flX5_change_10 (by first | decide | omega) rfl (by exact rfl) dX5_change_29 ?_
      refine J.cVGv (q := (RX2, TX2, 3)) (ci := 2) C (ok_X2_remember l V _ _ hz h ok) gX5_change_X2_remember rfl mfX2_remember rfl (by decide) (by decide) (by first | decide | omega) rfl rfl rfl rfl (Nat.le_of_ble_eq_true rfl) dX5_change_32 (Nat.le_refl _) (Nat.le_refl _) (fun I32 L32 h32 => ?_)
      obtain ⟨hB, hfr, hLL⟩ := h32
      subst hLL
      have hb0 : I32 1 0 = nI g.1.1 := hB.1.1
      have hb1 : I32 1 1 = nI g.1.2.1 := hB.1.2.1
      have hbi := hB.1.2.2 i hi
      refine J.aload_n C dX5_change_35 rfl ?_
      refine J.getR C flX5_change_10 (by first | decide | omega) rfl (by exact rfl) dX5_change_36 ?_
      refine J.iload_n C dX5_change_39 rfl ?_
      refine J.cVDi (q := (RX3, TX3, 3)) (ci := 3) C (ok_X3_kind l V _ _ rfl (by omega) hcB hbi) gX5_change_X3_kind rfl mfX3_kind rfl (by decide) (by decide) (by first | decide | omega) (by first | exact rfl | exact mk_3 (by assumption)) rfl rfl rfl (Nat.le_of_ble_eq_true rfl) dX5_change_40 (Nat.le_refl _) (Nat.le_refl _) ?_
      refine J.istore_n (ls' := [(0, _), (1, _), (2, _), (3, _)]) C dX5_change_43 (by decide) rfl ?_
      refine J.aload_n C dX5_change_44 rfl ?_
      refine J.getR C flX5_change_10 (by first | decide | omega) rfl (by exact rfl) dX5_change_45 ?_
      refine J.iload_n C dX5_change_48 rfl ?_
      refine J.iload_n C dX5_change_49 rfl ?_
      refine J.aload_n C dX5_change_50 rfl ?_
      refine J.getR C flX5_change_10 (by first | decide | omega) rfl (by exact rfl) dX5_change_51 ?_
      refine J.iload_n C dX5_change_54 rfl ?_
      refine J.cVDi (q := (RX3, TX3, 3)) (ci := 3) C (ok_X3_low l V _ _ rfl (by omega) hcB hbi) gX5_change_X3_low rfl mfX3_low rfl (by decide) (by decide) (by first | decide | omega) (by first | exact rfl | exact mk_3 (by assumption)) rfl rfl rfl (Nat.le_of_ble_eq_true rfl) dX5_change_55 (Nat.le_refl _) (Nat.le_refl _) ?_
      refine J.aload_n C dX5_change_58 rfl ?_
      refine J.getR C flX5_change_10 (by first | decide | omega) rfl (by exact rfl) dX5_change_59 ?_
      refine J.iload_n C dX5_change_62 rfl ?_
      refine J.cVDi (q := (RX3, TX3, 3)) (ci := 3) C (ok_X3_high l V _ _ rfl (by omega) hcB hbi) gX5_change_X3_high rfl mfX3_high rfl (by decide) (by decide) (by first | decide | omega) (by first | exact rfl | exact mk_3 (by assumption)) rfl rfl rfl (Nat.le_of_ble_eq_true rfl) dX5_change_63 (Nat.le_refl _) (Nat.le_refl _) ?_
      refine J.cVDv (q := (RX3, TX3, 3)) (ci := 3) C (ok_X3_write l V _ _ rfl (by omega) hk (by have := hcB.2.1; omega) (by have := hcB.2.2; omega)) gX5_change_X3_write rfl mfX3_write rfl (by decide) (by decide) (by first | decide | omega) (by first | exact rfl | exact mk_3 (by assumption)) rfl rfl rfl (Nat.le_of_ble_eq_true rfl) dX5_change_66 (Nat.le_refl _) (Nat.le_refl _) ?_
      refine J.iload_n C dX5_change_69 rfl ?_
      exact J.iret C dX5_change_70 (qC_s ⟨rfl, AbC_net hB (netC_set (n := g.1.2.1) (i := i) (x := (k, (g.1.2.2 i).2.1, (g.1.2.2 i).2.2.1, tb (k = 4))) hB.1 (by rw [up2_n _ _ _ (by decide)]) (by rw [up2_n _ _ _ (by decide)]; exact hb1) (fun j q => Or.inr q) (fun j q => up2_m _ _ _ q) (up2_s _ _ _ _)) (fun k a b c => up2_n _ _ _ b), (by repeat (first | exact hfr | exact frC_rfl | refine frC_up (by decide) ?_)), frCL_rfl⟩)
    · refine J.aload_n C dX5_change_18 rfl ?_
      refine J.iconst C dX5_change_19 (v := (-1)) (by decide) ?_
      refine J.cVDi (q := (RX5, TX5, 11)) (ci := 5) C (ok_X5_finding l V _ _ _) gX5_change_X5_finding rfl mfX5_finding rfl (by decide) (by decide) (by first | decide | omega) rfl rfl rfl rfl (Nat.le_of_ble_eq_true rfl) dX5_change_20 (Nat.le_refl _) (Nat.le_refl _) ?_
      exact J.iret C dX5_change_23 (qC_s (by unfold op_change; rw [tb_0 (fun q => by first | exact tb_f.mp c8t q.1 | exact tb_f.mp c15f q.2)]; exact qC_F h))
set_option maxHeartbeats 4000000 in
set_option maxRecDepth 100000 in
theorem ok_X5_turnSwitch (l : Launch) (V : Vx) {g : Sg} {x1 : Int32} {o1 : Option Nat} (b : Bool) (I : Nat → Nat → Int32) (L : Nat → Nat → Int64) (hx1 : AG x1 o1) (hz : V.2.2.2.2.2 = false) (h : AbC I L g) (ok : okG g) : PC l V yX5_turnSwitch wsX5_turnSwitch 3 [.ref (ad V 0), .int x1, .int (bI b)] I L (op_turnSwitch g o1 b) := by
  have hN := h.1
  have h0 := hN.1
  have hm := hN.2.1
  have hl2 := ok.1.1
  have hl8 := ok.1.2.1
  have h40 := ok.1.2.2.1
  refine Ok.of (cc := cX5_turnSwitch) (maxL := 4) (ret := (some .int)) (by decide) rfl (Nat.le_of_ble_eq_true rfl) (fun X hnm C => ?_)
  have C : CX l X V RX5 cX5_turnSwitch 4 wsX5_turnSwitch 3 0 0 (some .int) := C
  refine J.cast (ls' := [(0, _), (1, _), (2, _)]) rfl rfl rfl rfl ?_
  refine J.aload_n C dX5_turnSwitch_0 rfl ?_
  refine J.getR C flX5_turnSwitch_10 (by first | decide | omega) rfl (by exact rfl) dX5_turnSwitch_1 ?_
  refine J.iload_n C dX5_turnSwitch_4 rfl ?_
  refine J.cVDi (q := (RX3, TX3, 3)) (ci := 3) C (ok_X3_has l V _ _ rfl hx1 hm h40) gX5_turnSwitch_X3_has rfl mfX3_has rfl (by decide) (by decide) (by first | decide | omega) (by first | exact rfl | exact mk_3 (by assumption)) rfl rfl rfl (Nat.le_of_ble_eq_true rfl) dX5_turnSwitch_5 (Nat.le_refl _) (Nat.le_refl _) ?_
  first | refine J.if_ne_b C dX5_turnSwitch_8 (tgt := 17) (by decide) (fun c8t => ?_) (fun c8f => ?_) | refine J.if_ne_n C (by omega) dX5_turnSwitch_8 (tgt := 17) (by decide) (fun c8t => ?_) (fun c8f => ?_) | refine J.if_ne C dX5_turnSwitch_8 (tgt := 17) (by decide) (fun c8t => ?_) (fun c8f => ?_)
  · obtain ⟨i, rfl, hi⟩ := tb_t.mp c8t
    obtain ⟨-, rfl⟩ := hx1
    unfold op_turnSwitch
    rw [c8t]
    have hcB := okC_B (ok.1.2.2.2 i hi) hl8
    have hk4 := hcB.1
    refine J.aload_n C dX5_turnSwitch_17 rfl ?_
    refine J.getR C flX5_turnSwitch_10 (by first | decide | omega) rfl (by exact rfl) dX5_turnSwitch_18 ?_
    refine J.iload_n C dX5_turnSwitch_21 rfl ?_
    refine J.cVDi (q := (RX3, TX3, 3)) (ci := 3) C (ok_X3_kind l V _ _ rfl (by omega) hcB (hN.2.2 i hi)) gX5_turnSwitch_X3_kind rfl mfX3_kind rfl (by decide) (by decide) (by first | decide | omega) (by first | exact rfl | exact mk_3 (by assumption)) rfl rfl rfl (Nat.le_of_ble_eq_true rfl) dX5_turnSwitch_22 (Nat.le_refl _) (Nat.le_refl _) ?_
    refine J.iconst C dX5_turnSwitch_25 (v := (nI 4)) (by decide) ?_
    first | refine J.icmp_eq_n C (by omega) (by omega) dX5_turnSwitch_26 (tgt := 36) (by decide) (fun c26t => ?_) (fun c26f => ?_) | refine J.icmp_eq_xn C (by omega) dX5_turnSwitch_26 (tgt := 36) (by decide) (fun c26t => ?_) (fun c26f => ?_) | refine J.icmp_eq_nx C (by omega) dX5_turnSwitch_26 (tgt := 36) (by decide) (fun c26t => ?_) (fun c26f => ?_) | refine J.icmp_eq C dX5_turnSwitch_26 (tgt := 36) (by decide) (fun c26t => ?_) (fun c26f => ?_)
    · rw [tb_1 (show (g.1.2.2 ((some i).getD 0)).1 = 4 from c26t)]
      refine J.aload_n C dX5_turnSwitch_36 rfl ?_
      refine J.getR C flX5_turnSwitch_23 (by first | decide | omega) rfl (by exact rfl) dX5_turnSwitch_37 ?_
      refine J.aload_n C dX5_turnSwitch_40 rfl ?_
      refine J.getR C flX5_turnSwitch_10 (by first | decide | omega) rfl (by exact rfl) dX5_turnSwitch_41 ?_
      refine J.cVGv (q := (RX2, TX2, 3)) (ci := 2) C (ok_X2_remember l V _ _ hz h ok) gX5_turnSwitch_X2_remember rfl mfX2_remember rfl (by decide) (by decide) (by first | decide | omega) rfl rfl rfl rfl (Nat.le_of_ble_eq_true rfl) dX5_turnSwitch_44 (Nat.le_refl _) (Nat.le_refl _) (fun I44 L44 h44 => ?_)
      obtain ⟨hB, hfr, hLL⟩ := h44
      subst hLL
      have hb0 : I44 1 0 = nI g.1.1 := hB.1.1
      have hb1 : I44 1 1 = nI g.1.2.1 := hB.1.2.1
      have hbi := hB.1.2.2 i hi
      refine J.aload_n C dX5_turnSwitch_47 rfl ?_
      refine J.getR C flX5_turnSwitch_10 (by first | decide | omega) rfl (by exact rfl) dX5_turnSwitch_48 ?_
      refine J.iload_n C dX5_turnSwitch_51 rfl ?_
      refine J.cVDi (q := (RX3, TX3, 3)) (ci := 3) C (ok_X3_switchOf l V _ _ rfl (by omega) hcB hbi) gX5_turnSwitch_X3_switchOf rfl mfX3_switchOf rfl (by decide) (by decide) (by first | decide | omega) (by first | exact rfl | exact mk_3 (by assumption)) rfl rfl rfl (Nat.le_of_ble_eq_true rfl) dX5_turnSwitch_52 (Nat.le_refl _) (Nat.le_refl _) ?_
      refine J.istore_n (ls' := [(0, _), (1, _), (2, _), (3, _)]) C dX5_turnSwitch_55 (by decide) rfl ?_
      refine J.aload_n C dX5_turnSwitch_56 rfl ?_
      refine J.getR C flX5_turnSwitch_10 (by first | decide | omega) rfl (by exact rfl) dX5_turnSwitch_57 ?_
      refine J.iload_n C dX5_turnSwitch_60 rfl ?_
      refine J.iload_n C dX5_turnSwitch_61 rfl ?_
      refine J.cVDv (q := (RX3, TX3, 3)) (ci := 3) C (ok_X3_setSwitch l V _ _ rfl (by omega) hcB hbi) gX5_turnSwitch_X3_setSwitch rfl mfX3_setSwitch rfl (by decide) (by decide) (by first | decide | omega) (by first | exact rfl | exact mk_3 (by assumption)) rfl rfl rfl (Nat.le_of_ble_eq_true rfl) dX5_turnSwitch_62 (Nat.le_refl _) (Nat.le_refl _) ?_
      refine J.iload_n C dX5_turnSwitch_65 rfl ?_
      exact J.iret C dX5_turnSwitch_66 (qC_s ⟨rfl, AbC_net hB (netC_set (n := g.1.2.1) (i := i) (x := (4, (g.1.2.2 i).2.1, (g.1.2.2 i).2.2.1, b)) hB.1 (by rw [up2_n _ _ _ (by decide)]) (by rw [up2_n _ _ _ (by decide)]; exact hb1) (fun j q => Or.inr q) (fun j q => up2_m _ _ _ q) (by rw [up2_s, show (g.1.2.2 i).1 = 4 from c26t])) (fun k a b c => up2_n _ _ _ b), (by repeat (first | exact hfr | exact frC_rfl | refine frC_up (by decide) ?_)), frCL_rfl⟩)
    · rw [tb_0 (show ¬ (g.1.2.2 ((some i).getD 0)).1 = 4 from c26f)]
      refine J.aload_n C dX5_turnSwitch_29 rfl ?_
      refine J.bipush C dX5_turnSwitch_30 (v := (-4)) (by decide) ?_
      refine J.cVDi (q := (RX5, TX5, 11)) (ci := 5) C (ok_X5_finding l V _ _ _) gX5_turnSwitch_X5_finding rfl mfX5_finding rfl (by decide) (by decide) (by first | decide | omega) rfl rfl rfl rfl (Nat.le_of_ble_eq_true rfl) dX5_turnSwitch_32 (Nat.le_refl _) (Nat.le_refl _) ?_
      exact J.iret C dX5_turnSwitch_35 (qC_s (qC_F h))
  · refine J.aload_n C dX5_turnSwitch_11 rfl ?_
    refine J.iconst C dX5_turnSwitch_12 (v := (-1)) (by decide) ?_
    refine J.cVDi (q := (RX5, TX5, 11)) (ci := 5) C (ok_X5_finding l V _ _ _) gX5_turnSwitch_X5_finding rfl mfX5_finding rfl (by decide) (by decide) (by first | decide | omega) rfl rfl rfl rfl (Nat.le_of_ble_eq_true rfl) dX5_turnSwitch_13 (Nat.le_refl _) (Nat.le_refl _) ?_
    exact J.iret C dX5_turnSwitch_16 (qC_s (by unfold op_turnSwitch; rw [c8f]; exact qC_F h))
