/-! THE CLASS: missing, next -/
def FC (g : Sg) (I' : Nat → Nat → Int32) : Prop := ∃ n s, isL 10 (misP g.1) (some n) ∧ n ≤ 5 ∧ isL (nPr g.1.1 ^ n) (SrtN g.1 n) (some s) ∧ I' 61 1 = nI n ∧ ∀ k, k < n → I' 62 k = nI (pv g.1.1 (dg (nPr g.1.1) n s k))
theorem FC_of {g : Sg} {x : Int64} {I' : Nat → Nat → Int32} (ok : okN g.1) (h4 : g.1.1 ≤ 4) (hx : ∀ r, r < 2 ^ g.1.1 → rowX x r = gk g.1.2.2 (-1) r g.1.2.1) (h : FndC g.1.1 x (I' 61) (I' 62)) : FC g I' := by
  obtain ⟨n, s, h1, h2, h3, h5⟩ := h
  have e : ∀ m z, SrtX g.1.1 x m z ↔ SrtN g.1 m z := fun m z => by
    constructor
    · intro w r hr
      have y := w r hr
      rw [hx r hr] at y
      exact y
    · intro w r hr
      rw [hx r hr]
      exact w r hr
  have em : ∀ m, misX g.1.1 x m ↔ misP g.1 m := fun m => ⟨fun ⟨z, z1, z2⟩ => ⟨z, z1, (e m z).mp z2⟩, fun ⟨z, z1, z2⟩ => ⟨z, z1, (e m z).mpr z2⟩⟩
  refine ⟨n, s, ⟨h1.1, (em n).mp h1.2.1, fun r hr q => h1.2.2 r hr ((em r).mpr q)⟩, ?_, ⟨h2.1, (e n s).mp h2.2.1, fun r hr q => h2.2.2 r hr ((e n r).mpr q)⟩, h3, h5⟩
  obtain ⟨m, m1, z, z1, z2⟩ := m16_5 ok.1 h4 x
  have h16 : 2 ^ g.1.1 ≤ 2 ^ 4 := Nat.pow_le_pow_right (by decide) h4
  rcases Nat.lt_or_ge m n with q | q
  · exact absurd ⟨z, z1, fun r hr => z2 r (by omega)⟩ (h1.2.2 m q)
  · omega
theorem AbC_kn {I I' : Nat → Nat → Int32} {L L' : Nat → Nat → Int64} {g : Sg} {n : Nat} {x : Int64} (h : AbC I L g) (h2 : 2 ≤ n) (h4 : n ≤ 4) (hq : QN n x I L I' L') : AbC I' L' g := by
  obtain ⟨q1, q2, q3, q4, q5⟩ := hq
  obtain ⟨h1, ⟨f, h2a, h2b, h2c, h2d, h2e⟩, h3, h4', h5, h6, h7⟩ := h
  refine ⟨netC_of h1 (q1 1 (by decide) (by decide)) (q1 2 (by decide) (by decide)), ⟨f, h2a, by rw [q1 4 (by decide) (by decide)]; exact h2b, by rw [q1 4 (by decide) (by decide)]; exact h2c, h2d, fun j t' hj => netC_of (h2e j t' hj) (q1 _ (by omega) (by omega)) (q1 _ (by omega) (by omega))⟩, fun k hk => ?_, fun k hk => ?_, ?_, ?_, ?_⟩
  · have w := h3 k hk
    cases hs : g.2.2.1 k with
    | none => rw [hs] at w; show I' _ 0 = _; rw [q1 _ (by omega) (by omega)]; exact w
    | some t' => rw [hs] at w; exact netC_of w (q1 _ (by omega) (by omega)) (q1 _ (by omega) (by omega))
  · have w := h4' k hk
    rw [q1 _ (by omega) (by omega), q2 _ (by omega)]
    exact w
  · rw [q1 0 (by decide) (by decide), q1 64 (by decide) (by decide)]; exact h5
  · rw [q1 0 (by decide) (by decide)]; exact h6
  · exact ⟨n, q3, Or.inr ⟨h2, h4, by rw [q4]; exact q5⟩⟩
set_option maxHeartbeats 4000000 in
set_option maxRecDepth 100000 in
theorem ok_X5_findCompletion (l : Launch) (V : Vx) {g : Sg} (I : Nat → Nat → Int32) (L : Nat → Nat → Int64) (hz : V.2.2.2.2.2 = false) (h : AbC I L g) (ok : okG g) (hle : g.1.1 ≤ 4) : Gv l V yX5_findCompletion wsX5_findCompletion 11 [.ref (ad V 0)] I L (fun I' L' => AbC I' L' g ∧ frC I I' ∧ frCL L L' ∧ FC g I') := by
  have hN := h.1
  have h0 := hN.1
  have hm := hN.2.1
  have hl2 := ok.1.1
  have hl8 := ok.1.2.1
  have h40 := ok.1.2.2.1
  refine Ok.of (cc := cX5_findCompletion) (maxL := 1) (ret := none) (by decide) rfl (Nat.le_of_ble_eq_true rfl) (fun X hnm C => ?_)
  have C : CX l X V RX5 cX5_findCompletion 1 wsX5_findCompletion 11 0 0 none := C
  refine J.cast (ls' := [(0, _)]) rfl rfl rfl rfl ?_
  refine J.aload_n C dX5_findCompletion_0 rfl ?_
  refine J.getR C flX5_findCompletion_36 (by first | decide | omega) rfl (by exact rfl) dX5_findCompletion_1 ?_
  refine J.aload_n C dX5_findCompletion_4 rfl ?_
  refine J.getR C flX5_findCompletion_10 (by first | decide | omega) rfl (by exact rfl) dX5_findCompletion_5 ?_
  refine J.getI C flX5_findCompletion_160 (by first | decide | omega) (by first | exact rfl | exact mk_3 (by assumption)) (by exact rfl) (by first | ((repeat (first | rewrite [up2_n _ _ _ (by first | decide | omega)] | rewrite [up2_m _ _ _ (by decide)] | rewrite [up3_n _ _ _ (by first | decide | omega)])) <;> (first | exact up2_s _ _ _ _ | exact up3_s _ _ _ _ | assumption | exact rfl))) dX5_findCompletion_8 ?_
  refine J.iconst C dX5_findCompletion_11 (v := (nI 0)) (by decide) ?_
  refine J.cVGv (q := (RX4, TX4, 2)) (ci := 4) C (ok_X4_start l V (k := 57) (b := 0) _ _ rfl hl8 (by decide)) gX5_findCompletion_X4_start rfl mfX4_start rfl (by decide) (by decide) (by first | decide | omega) (by first | exact rfl | exact mk_4 (by assumption)) rfl rfl rfl (Nat.le_of_ble_eq_true rfl) dX5_findCompletion_12 (Nat.le_refl _) (Nat.le_refl _) (fun I12 L12 h12 => ?_)
  obtain ⟨rfl, ha, hc, hf⟩ := h12
  have hR := RwI_0 hl8 (show 0 < 4 by decide) hc
  have hA : RwA g.1.1 (L12 57 1) := by rw [ha]; exact alV_b hl8
  refine J.aload_n C dX5_findCompletion_15 rfl ?_
  refine J.getR C flX5_findCompletion_36 (by first | decide | omega) rfl (by exact rfl) dX5_findCompletion_16 ?_
  refine J.aload_n C dX5_findCompletion_19 rfl ?_
  refine J.getR C flX5_findCompletion_10 (by first | decide | omega) rfl (by exact rfl) dX5_findCompletion_20 ?_
  refine J.iconst C dX5_findCompletion_23 (v := (-1)) (by decide) ?_
  refine J.cVGv (q := (RX4, TX4, 2)) (ci := 4) C (ok_X4_pass l V (k := 57) (q := 1) (b := 0) _ _ rfl rfl ok.1 hN hA hR) gX5_findCompletion_X4_pass rfl mfX4_pass rfl (by decide) (by decide) (by first | decide | omega) (by first | exact rfl | exact mk_4 (by assumption)) rfl rfl rfl (Nat.le_of_ble_eq_true rfl) dX5_findCompletion_24 (Nat.le_refl _) (Nat.le_refl _) (fun I24 L24 h24 => ?_)
  obtain ⟨rfl, hp1, hp2, hp3⟩ := h24
  rw [toInt_m1] at hp3
  refine J.aload_n C dX5_findCompletion_27 rfl ?_
  refine J.getR C flX5_findCompletion_46 (by first | decide | omega) rfl (by exact rfl) dX5_findCompletion_28 ?_
  refine J.aload_n C dX5_findCompletion_31 rfl ?_
  refine J.getR C flX5_findCompletion_10 (by first | decide | omega) rfl (by exact rfl) dX5_findCompletion_32 ?_
  refine J.getI C flX5_findCompletion_160 (by first | decide | omega) (by first | exact rfl | exact mk_3 (by assumption)) (by exact rfl) (by first | ((repeat (first | rewrite [up2_n _ _ _ (by first | decide | omega)] | rewrite [up2_m _ _ _ (by decide)] | rewrite [up3_n _ _ _ (by first | decide | omega)])) <;> (first | exact up2_s _ _ _ _ | exact up3_s _ _ _ _ | assumption | exact rfl))) dX5_findCompletion_35 ?_
  refine J.aload_n C dX5_findCompletion_38 rfl ?_
  refine J.getR C flX5_findCompletion_36 (by first | decide | omega) rfl (by exact rfl) dX5_findCompletion_39 ?_
  refine J.aload_n C dX5_findCompletion_42 rfl ?_
  refine J.getR C flX5_findCompletion_10 (by first | decide | omega) rfl (by exact rfl) dX5_findCompletion_43 ?_
  refine J.getI C flX5_findCompletion_160 (by first | decide | omega) (by first | exact rfl | exact mk_3 (by assumption)) (by exact rfl) (by first | ((repeat (first | rewrite [up2_n _ _ _ (by first | decide | omega)] | rewrite [up2_m _ _ _ (by decide)] | rewrite [up3_n _ _ _ (by first | decide | omega)])) <;> (first | exact up2_s _ _ _ _ | exact up3_s _ _ _ _ | assumption | exact rfl))) dX5_findCompletion_46 ?_
  refine J.cVGl (q := (RX4, TX4, 2)) (ci := 4) C (ok_X4_packed l V (k := 57) _ _ rfl hle (pck_z hle hp3)) gX5_findCompletion_X4_packed rfl mfX4_packed rfl (by decide) (by decide) (by first | decide | omega) (by first | exact rfl | exact mk_4 (by assumption)) rfl rfl rfl (Nat.le_of_ble_eq_true rfl) dX5_findCompletion_49 (Nat.le_refl _) (Nat.le_refl _) (fun r49 I49 L49 h49 => ?_)
  obtain ⟨rfl, rfl, hx⟩ := h49
  have hv := pck_v hle hp3 (fun r hr => gk_lt ok.1 hr g.1.2.1 (Nat.le_refl _)) hx
  have hz0 : ∀ r, 2 ^ g.1.1 ≤ r → r < 16 → rowX r49 r = 0 := fun r h1 h2 => rowX_v hle (Nat.two_pow_pos _) (fun a ha4 => by
    rw [hx a ha4 r h2, Nat.zero_testBit, Bool.and_false]
    by_cases e : a < g.1.1
    · rw [hp3 a e r (by omega), decide_eq_false (show ¬ r < 2 ^ g.1.1 by omega), Bool.false_and, Bool.and_false]
    · rw [decide_eq_false e, Bool.false_and])
  have hR2 := AbC_rw h (L' := L49) (fun q a b => by rw [hp2 q b, hf q a b])
  refine J.cVGv (q := (RX0, TX0, 4)) (ci := 0) C (ok_X0_find l V _ _ hl2 hle hz0 hR2.2.2.2.2.2.2) gX5_findCompletion_X0_find rfl mfX0_find rfl (by decide) (by decide) (by first | decide | omega) rfl rfl rfl rfl (Nat.le_of_ble_eq_true rfl) dX5_findCompletion_52 (Nat.le_refl _) (Nat.le_refl _) (fun I52 L52 h52 => ?_)
  have hQ := h52
  exact J.vret C dX5_findCompletion_55 ⟨_, _, rfl, rfl, AbC_kn hR2 hl2 hle hQ, fun q a => hQ.1 q (by omega) (by omega), fun q a => by rw [hQ.2.1 q (by omega), hp2 q (by omega), hf q (by omega) (by omega)], FC_of ok.1 hle hv hQ.2.2.2.2⟩
set_option maxHeartbeats 4000000 in
set_option maxRecDepth 100000 in
theorem ok_X5_missing (l : Launch) (V : Vx) {g : Sg}  (I : Nat → Nat → Int32) (L : Nat → Nat → Int64)  (hz : V.2.2.2.2.2 = false) (h : AbC I L g) (ok : okG g) : PC l V yX5_missing wsX5_missing 12 [.ref (ad V 0)] I L (op_missing g) := by
  have hN := h.1
  have h0 := hN.1
  have hm := hN.2.1
  have hl2 := ok.1.1
  have hl8 := ok.1.2.1
  have h40 := ok.1.2.2.1
  unfold op_missing
  by_cases hle : g.1.1 ≤ 4
  · rw [tb_1 hle]
    refine Ok.of (cc := cX5_missing) (maxL := 1) (ret := (some .int)) (by decide) rfl (Nat.le_of_ble_eq_true rfl) (fun X hnm C => ?_)
    have C : CX l X V RX5 cX5_missing 1 wsX5_missing 12 0 0 (some .int) := C
    refine J.cast (ls' := [(0, _)]) rfl rfl rfl rfl ?_
    refine J.aload_n C dX5_missing_0 rfl ?_
    refine J.getR C flX5_missing_10 (by first | decide | omega) rfl (by exact rfl) dX5_missing_1 ?_
    refine J.getI C flX5_missing_160 (by first | decide | omega) (by first | exact rfl | exact mk_3 (by assumption)) (by exact rfl) (by first | ((repeat (first | rewrite [up2_n _ _ _ (by first | decide | omega)] | rewrite [up2_m _ _ _ (by decide)] | rewrite [up3_n _ _ _ (by first | decide | omega)])) <;> (first | exact up2_s _ _ _ _ | exact up3_s _ _ _ _ | assumption | exact rfl))) dX5_missing_4 ?_
    refine J.iconst C dX5_missing_7 (v := (nI 4)) (by decide) ?_
    first | refine J.icmp_le_n C (by omega) (by omega) dX5_missing_8 (tgt := 18) (by decide) (fun _ => ?_) (fun c8 => absurd c8 (by first | omega | decide | simp_all)) | refine J.icmp_le_xn C (by omega) dX5_missing_8 (tgt := 18) (by decide) (fun _ => ?_) (fun c8 => absurd c8 (by first | omega | decide | simp_all)) | refine J.icmp_le_nx C (by omega) dX5_missing_8 (tgt := 18) (by decide) (fun _ => ?_) (fun c8 => absurd c8 (by first | omega | decide | simp_all)) | refine J.icmp_le C dX5_missing_8 (tgt := 18) (by decide) (fun _ => ?_) (fun c8 => absurd c8 (by first | omega | decide | simp_all))
    refine J.aload_n C dX5_missing_18 rfl ?_
    refine J.cVGv (q := (RX5, TX5, 11)) (ci := 5) C (ok_X5_findCompletion l V _ _ hz h ok hle) gX5_missing_X5_findCompletion rfl mfX5_findCompletion rfl (by decide) (by decide) (by first | decide | omega) rfl rfl rfl rfl (Nat.le_of_ble_eq_true rfl) dX5_missing_19 (Nat.le_refl _) (Nat.le_refl _) (fun I19 L19 h19 => ?_)
    obtain ⟨hA, hfr, hfl, n, s, ho, hn5, hs, hi1, hi2⟩ := h19
    refine J.aload_n C dX5_missing_22 rfl ?_
    refine J.getR C flX5_missing_46 (by first | decide | omega) rfl (by exact rfl) dX5_missing_23 ?_
    refine J.getI C flX5_missing_238 (by first | decide | omega) rfl (by exact rfl) (by first | ((repeat (first | rewrite [up2_n _ _ _ (by first | decide | omega)] | rewrite [up2_m _ _ _ (by decide)] | rewrite [up3_n _ _ _ (by first | decide | omega)])) <;> (first | exact up2_s _ _ _ _ | exact up3_s _ _ _ _ | assumption | exact rfl))) dX5_missing_26 ?_
    exact J.iret C dX5_missing_29 (qC_s ⟨by show _ = oI (lst 10 (misP g.1)) (-1); rw [lst_eq ho]; rfl, hA, hfr, hfl⟩)
  · rw [tb_0 hle]
    refine Ok.of (cc := cX5_missing) (maxL := 1) (ret := (some .int)) (by decide) rfl (Nat.le_of_ble_eq_true rfl) (fun X hnm C => ?_)
    have C : CX l X V RX5 cX5_missing 1 wsX5_missing 12 0 0 (some .int) := C
    refine J.cast (ls' := [(0, _)]) rfl rfl rfl rfl ?_
    refine J.aload_n C dX5_missing_0 rfl ?_
    refine J.getR C flX5_missing_10 (by first | decide | omega) rfl (by exact rfl) dX5_missing_1 ?_
    refine J.getI C flX5_missing_160 (by first | decide | omega) (by first | exact rfl | exact mk_3 (by assumption)) (by exact rfl) (by first | ((repeat (first | rewrite [up2_n _ _ _ (by first | decide | omega)] | rewrite [up2_m _ _ _ (by decide)] | rewrite [up3_n _ _ _ (by first | decide | omega)])) <;> (first | exact up2_s _ _ _ _ | exact up3_s _ _ _ _ | assumption | exact rfl))) dX5_missing_4 ?_
    refine J.iconst C dX5_missing_7 (v := (nI 4)) (by decide) ?_
    first | refine J.icmp_le_n C (by omega) (by omega) dX5_missing_8 (tgt := 18) (by decide) (fun c8 => absurd c8 (by first | omega | decide | simp_all)) (fun _ => ?_) | refine J.icmp_le_xn C (by omega) dX5_missing_8 (tgt := 18) (by decide) (fun c8 => absurd c8 (by first | omega | decide | simp_all)) (fun _ => ?_) | refine J.icmp_le_nx C (by omega) dX5_missing_8 (tgt := 18) (by decide) (fun c8 => absurd c8 (by first | omega | decide | simp_all)) (fun _ => ?_) | refine J.icmp_le C dX5_missing_8 (tgt := 18) (by decide) (fun c8 => absurd c8 (by first | omega | decide | simp_all)) (fun _ => ?_)
    refine J.aload_n C dX5_missing_11 rfl ?_
    refine J.bipush C dX5_missing_12 (v := (-8)) (by decide) ?_
    refine J.cVDi (q := (RX5, TX5, 11)) (ci := 5) C (ok_X5_finding l V _ _ _) gX5_missing_X5_finding rfl mfX5_finding rfl (by decide) (by decide) (by first | decide | omega) rfl rfl rfl rfl (Nat.le_of_ble_eq_true rfl) dX5_missing_14 (Nat.le_refl _) (Nat.le_refl _) ?_
    exact J.iret C dX5_missing_17 (qC_s (qC_F h))
set_option maxHeartbeats 4000000 in
set_option maxRecDepth 100000 in
theorem ok_X5_next (l : Launch) (V : Vx) {g : Sg} {x1 : Int32} {o1 : Option Nat} (I : Nat → Nat → Int32) (L : Nat → Nat → Int64) (hx1 : AG x1 o1) (hz : V.2.2.2.2.2 = false) (h : AbC I L g) (ok : okG g) : PC l V yX5_next wsX5_next 12 [.ref (ad V 0), .int x1] I L (op_next g o1) := by
  have hN := h.1
  have h0 := hN.1
  have hm := hN.2.1
  have hl2 := ok.1.1
  have hl8 := ok.1.2.1
  have h40 := ok.1.2.2.1
  unfold op_next
  by_cases hle : g.1.1 ≤ 4
  · rw [tb_1 hle]
    refine Ok.of (cc := cX5_next) (maxL := 2) (ret := (some .int)) (by decide) rfl (Nat.le_of_ble_eq_true rfl) (fun X hnm C => ?_)
    have C : CX l X V RX5 cX5_next 2 wsX5_next 12 0 0 (some .int) := C
    refine J.cast (ls' := [(0, _), (1, _)]) rfl rfl rfl rfl ?_
    refine J.aload_n C dX5_next_0 rfl ?_
    refine J.getR C flX5_next_10 (by first | decide | omega) rfl (by exact rfl) dX5_next_1 ?_
    refine J.getI C flX5_next_160 (by first | decide | omega) (by first | exact rfl | exact mk_3 (by assumption)) (by exact rfl) (by first | ((repeat (first | rewrite [up2_n _ _ _ (by first | decide | omega)] | rewrite [up2_m _ _ _ (by decide)] | rewrite [up3_n _ _ _ (by first | decide | omega)])) <;> (first | exact up2_s _ _ _ _ | exact up3_s _ _ _ _ | assumption | exact rfl))) dX5_next_4 ?_
    refine J.iconst C dX5_next_7 (v := (nI 4)) (by decide) ?_
    first | refine J.icmp_le_n C (by omega) (by omega) dX5_next_8 (tgt := 18) (by decide) (fun _ => ?_) (fun c8 => absurd c8 (by first | omega | decide | simp_all)) | refine J.icmp_le_xn C (by omega) dX5_next_8 (tgt := 18) (by decide) (fun _ => ?_) (fun c8 => absurd c8 (by first | omega | decide | simp_all)) | refine J.icmp_le_nx C (by omega) dX5_next_8 (tgt := 18) (by decide) (fun _ => ?_) (fun c8 => absurd c8 (by first | omega | decide | simp_all)) | refine J.icmp_le C dX5_next_8 (tgt := 18) (by decide) (fun _ => ?_) (fun c8 => absurd c8 (by first | omega | decide | simp_all))
    refine J.aload_n C dX5_next_18 rfl ?_
    refine J.cVGv (q := (RX5, TX5, 11)) (ci := 5) C (ok_X5_findCompletion l V _ _ hz h ok hle) gX5_next_X5_findCompletion rfl mfX5_findCompletion rfl (by decide) (by decide) (by first | decide | omega) rfl rfl rfl rfl (Nat.le_of_ble_eq_true rfl) dX5_next_19 (Nat.le_refl _) (Nat.le_refl _) (fun I19 L19 h19 => ?_)
    obtain ⟨hA, hfr, hfl, n, s, ho, hn5, hs, hi1, hi2⟩ := h19
    rw [lst_eq ho]
    have qF : ∀ z, qC I L (z, gF g) z (fC I19) L19 := fun z => ⟨rfl, AbC_F hA, frC_up (by decide) hfr, hfl⟩
    cases o1 with
    | none =>
      have hx1 : x1.toInt < 0 := hx1
      simp only []
      rw [tb_0 (show ¬ inO none n from fun ⟨k, e, _⟩ => by cases e)]
      refine J.iload_n C dX5_next_22 rfl ?_
      refine J.if_lt_z C dX5_next_23 (tgt := 42) (by decide) (fun _ => ?_) (fun c23 => absurd c23 (by first | omega | decide | simp_all))
      refine J.aload_n C dX5_next_42 rfl ?_
      refine J.bipush C dX5_next_43 (v := (-6)) (by decide) ?_
      refine J.cVDi (q := (RX5, TX5, 11)) (ci := 5) C (ok_X5_finding l V _ _ _) gX5_next_X5_finding rfl mfX5_finding rfl (by decide) (by decide) (by first | decide | omega) rfl rfl rfl rfl (Nat.le_of_ble_eq_true rfl) dX5_next_45 (Nat.le_refl _) (Nat.le_refl _) ?_
      exact J.iret C dX5_next_48 (qC_s (qF _))
    | some k =>
      obtain ⟨hk31, rfl⟩ := hx1
      simp only []
      refine J.iload_n C dX5_next_22 rfl ?_
      refine J.if_lt_z C dX5_next_23 (tgt := 42) (by decide) (fun c23 => absurd c23 (by rw [nI_ti hk31]; omega)) (fun _ => ?_)
      refine J.iload_n C dX5_next_26 rfl ?_
      refine J.aload_n C dX5_next_27 rfl ?_
      refine J.getR C flX5_next_46 (by first | decide | omega) rfl (by exact rfl) dX5_next_28 ?_
      refine J.getI C flX5_next_238 (by first | decide | omega) rfl (by exact rfl) (by first | ((repeat (first | rewrite [up2_n _ _ _ (by first | decide | omega)] | rewrite [up2_m _ _ _ (by decide)] | rewrite [up3_n _ _ _ (by first | decide | omega)])) <;> (first | exact up2_s _ _ _ _ | exact up3_s _ _ _ _ | assumption | exact rfl))) dX5_next_31 ?_
      first | refine J.icmp_ge_n C (by omega) (by omega) dX5_next_34 (tgt := 42) (by decide) (fun c34t => ?_) (fun c34f => ?_) | refine J.icmp_ge_xn C (by omega) dX5_next_34 (tgt := 42) (by decide) (fun c34t => ?_) (fun c34f => ?_) | refine J.icmp_ge_nx C (by omega) dX5_next_34 (tgt := 42) (by decide) (fun c34t => ?_) (fun c34f => ?_) | refine J.icmp_ge C dX5_next_34 (tgt := 42) (by decide) (fun c34t => ?_) (fun c34f => ?_)
      · rw [tb_0 (show ¬ inO (some k) n from fun w => by have := inO_s.mp w; omega)]
        refine J.aload_n C dX5_next_42 rfl ?_
        refine J.bipush C dX5_next_43 (v := (-6)) (by decide) ?_
        refine J.cVDi (q := (RX5, TX5, 11)) (ci := 5) C (ok_X5_finding l V _ _ _) gX5_next_X5_finding rfl mfX5_finding rfl (by decide) (by decide) (by first | decide | omega) rfl rfl rfl rfl (Nat.le_of_ble_eq_true rfl) dX5_next_45 (Nat.le_refl _) (Nat.le_refl _) ?_
        exact J.iret C dX5_next_48 (qC_s (qF _))
      · rw [tb_1 (show inO (some k) n from inO_s.mpr (by omega))]
        refine J.iload_n C dX5_next_37 rfl ?_
        refine J.iconst C dX5_next_38 (v := (nI 5)) (by decide) ?_
        first | refine J.icmp_lt_n C (by omega) (by omega) dX5_next_39 (tgt := 49) (by decide) (fun _ => ?_) (fun c39 => absurd c39 (by first | omega | decide | simp_all)) | refine J.icmp_lt_xn C (by omega) dX5_next_39 (tgt := 49) (by decide) (fun _ => ?_) (fun c39 => absurd c39 (by first | omega | decide | simp_all)) | refine J.icmp_lt_nx C (by omega) dX5_next_39 (tgt := 49) (by decide) (fun _ => ?_) (fun c39 => absurd c39 (by first | omega | decide | simp_all)) | refine J.icmp_lt C dX5_next_39 (tgt := 49) (by decide) (fun _ => ?_) (fun c39 => absurd c39 (by first | omega | decide | simp_all))
        refine J.aload_n C dX5_next_49 rfl ?_
        refine J.getR C flX5_next_46 (by first | decide | omega) rfl (by exact rfl) dX5_next_50 ?_
        refine J.getR C flX5_next_241 (by first | decide | omega) rfl (by exact rfl) dX5_next_53 ?_
        refine J.iload_n C dX5_next_56 rfl ?_
        refine J.ia C (by first | exact rfl | assumption) (by first | exact rfl | exact rfl) (by first | (have h_ln := ln_all; have h_l2 := ln_all2; omega) | omega) (by first | exact hi2 _ (by omega) | ((repeat (first | rewrite [up2_n _ _ _ (by first | decide | omega)] | rewrite [up2_m _ _ _ (by decide)] | rewrite [up3_n _ _ _ (by first | decide | omega)])) <;> (first | exact up2_s _ _ _ _ | exact up3_s _ _ _ _ | assumption | exact rfl))) dX5_next_57 ?_
        exact J.iret C dX5_next_58 (qC_s ⟨by show _ = nxt g.1 n k; unfold nxt; rw [lst_eq hs]; rfl, hA, hfr, hfl⟩)
  · rw [tb_0 hle]
    refine Ok.of (cc := cX5_next) (maxL := 2) (ret := (some .int)) (by decide) rfl (Nat.le_of_ble_eq_true rfl) (fun X hnm C => ?_)
    have C : CX l X V RX5 cX5_next 2 wsX5_next 12 0 0 (some .int) := C
    refine J.cast (ls' := [(0, _), (1, _)]) rfl rfl rfl rfl ?_
    refine J.aload_n C dX5_next_0 rfl ?_
    refine J.getR C flX5_next_10 (by first | decide | omega) rfl (by exact rfl) dX5_next_1 ?_
    refine J.getI C flX5_next_160 (by first | decide | omega) (by first | exact rfl | exact mk_3 (by assumption)) (by exact rfl) (by first | ((repeat (first | rewrite [up2_n _ _ _ (by first | decide | omega)] | rewrite [up2_m _ _ _ (by decide)] | rewrite [up3_n _ _ _ (by first | decide | omega)])) <;> (first | exact up2_s _ _ _ _ | exact up3_s _ _ _ _ | assumption | exact rfl))) dX5_next_4 ?_
    refine J.iconst C dX5_next_7 (v := (nI 4)) (by decide) ?_
    first | refine J.icmp_le_n C (by omega) (by omega) dX5_next_8 (tgt := 18) (by decide) (fun c8 => absurd c8 (by first | omega | decide | simp_all)) (fun _ => ?_) | refine J.icmp_le_xn C (by omega) dX5_next_8 (tgt := 18) (by decide) (fun c8 => absurd c8 (by first | omega | decide | simp_all)) (fun _ => ?_) | refine J.icmp_le_nx C (by omega) dX5_next_8 (tgt := 18) (by decide) (fun c8 => absurd c8 (by first | omega | decide | simp_all)) (fun _ => ?_) | refine J.icmp_le C dX5_next_8 (tgt := 18) (by decide) (fun c8 => absurd c8 (by first | omega | decide | simp_all)) (fun _ => ?_)
    refine J.aload_n C dX5_next_11 rfl ?_
    refine J.bipush C dX5_next_12 (v := (-8)) (by decide) ?_
    refine J.cVDi (q := (RX5, TX5, 11)) (ci := 5) C (ok_X5_finding l V _ _ _) gX5_next_X5_finding rfl mfX5_finding rfl (by decide) (by decide) (by first | decide | omega) rfl rfl rfl rfl (Nat.le_of_ble_eq_true rfl) dX5_next_14 (Nat.le_refl _) (Nat.le_refl _) ?_
    exact J.iret C dX5_next_17 (qC_s (qC_F h))
