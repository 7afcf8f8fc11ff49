/-! THE CLASS: acts on crates -/
theorem AbC_crate {I I' : Nat → Nat → Int32} {L L' : Nat → Nat → Int64} {g : Sg} {c : Nat} {x : Nat × Nat × (Nat → Int64)} (h : AbC I L g) (ek : ∀ k, k < 85 → k ≠ 73 + 2 * c → I' k = I k) (el : ∀ k, k < 85 → k ≠ 74 + 2 * c → L' k = L k) (e0 : I' (73 + 2 * c) 0 = nI x.1) (e1 : I' (73 + 2 * c) 1 = nI x.2.1) (e2 : ∀ i, i < 12 → L' (74 + 2 * c) i = x.2.2 i) : AbC I' L' (gC g c x) := by
  obtain ⟨h1, ⟨f, h2a, h2b, h2c, h2d, h2e⟩, h3, h4, h5, h6, h7⟩ := h
  refine ⟨netC_of h1 (ek 1 (by omega) (by omega)) (ek 2 (by omega) (by omega)), ⟨f, h2a, by rw [ek 4 (by omega) (by omega)]; exact h2b, by rw [ek 4 (by omega) (by omega)]; exact h2c, h2d, fun j t' hj => netC_of (h2e j t' hj) (ek _ (by omega) (by omega)) (ek _ (by omega) (by omega))⟩, fun k hk => ?_, fun k hk => ?_, ?_, ?_, ?_⟩
  · have w := h3 k hk
    show match g.2.2.1 k with | some t => _ | none => _
    cases hs : g.2.2.1 k with
    | none => rw [hs] at w; show I' _ 0 = _; rw [ek _ (by omega) (by omega)]; exact w
    | some t' => rw [hs] at w; exact netC_of w (ek _ (by omega) (by omega)) (ek _ (by omega) (by omega))
  · show I' (73 + 2 * k) 0 = nI (va_up g.2.2.2.1 c x k).1 ∧ I' (73 + 2 * k) 1 = nI (va_up g.2.2.2.1 c x k).2.1 ∧ ∀ i, i < 12 → L' (74 + 2 * k) i = (va_up g.2.2.2.1 c x k).2.2 i
    by_cases e : k = c
    · subst e
      rw [va_up_self]
      exact ⟨e0, e1, e2⟩
    · rw [va_up_ne _ _ e, ek _ (by omega) (by omega), el _ (by omega) (by omega)]
      exact h4 k hk
  · rw [ek 0 (by omega) (by omega), ek 64 (by omega) (by omega)]; exact h5
  · rw [ek 0 (by omega) (by omega)]; exact h6
  · rw [ek 61 (by omega) (by omega), ek 62 (by omega) (by omega), el 61 (by omega) (by omega)]; exact h7
set_option maxHeartbeats 4000000 in
set_option maxRecDepth 100000 in
theorem ok_X5_findingOfCrate_1 (l : Launch) (V : Vx) {x1 : Int32} {o1 : Option Nat} (I : Nat → Nat → Int32) (L : Nat → Nat → Int64) (hx1 : AG x1 o1) (ho : ¬ inO o1 6) : Di l V yX5_findingOfCrate wsX5_findingOfCrate 2 [.ref (ad V 0), .int x1] I L (-1) I L := by
  refine Ok.of (cc := cX5_findingOfCrate) (maxL := 2) (ret := (some .int)) (by decide) rfl (Nat.le_of_ble_eq_true rfl) (fun X hnm C => ?_)
  have C : CX l X V RX5 cX5_findingOfCrate 2 wsX5_findingOfCrate 2 0 0 (some .int) := C
  refine J.cast (ls' := [(0, _), (1, _)]) rfl rfl rfl rfl ?_
  refine J.iload_n C dX5_findingOfCrate_0 rfl ?_
  refine J.cSDi C (ok_X5_isCrate l V _ _ hx1) gX5_findingOfCrate_X5_isCrate rfl mfX5_isCrate (by decide) (by decide) rfl rfl (Nat.le_of_ble_eq_true rfl) dX5_findingOfCrate_1 (Nat.le_refl _) (Nat.le_refl _) ?_
  first | refine J.if_ne_b C dX5_findingOfCrate_4 (tgt := 9) (by decide) (fun c4 => absurd c4 (by rw [tb_0 ho]; decide)) (fun _ => ?_) | refine J.if_ne_n C (by omega) dX5_findingOfCrate_4 (tgt := 9) (by decide) (fun c4 => absurd c4 (by rw [tb_0 ho]; decide)) (fun _ => ?_) | refine J.if_ne C dX5_findingOfCrate_4 (tgt := 9) (by decide) (fun c4 => absurd c4 (by rw [tb_0 ho]; decide)) (fun _ => ?_)
  refine J.iconst C dX5_findingOfCrate_7 (v := (-1)) (by decide) ?_
  exact J.iret C dX5_findingOfCrate_8 ⟨rfl, rfl⟩
set_option maxHeartbeats 4000000 in
set_option maxRecDepth 100000 in
theorem ok_X5_findingOfCrate_2 (l : Launch) (V : Vx) {g : Sg} {c : Nat} (I : Nat → Nat → Int32) (L : Nat → Nat → Int64) (hc : c < 6) (hs : (g.2.2.2.1 c).1 = 0) (h : AbC I L g) (ok : okG g) : Di l V yX5_findingOfCrate wsX5_findingOfCrate 2 [.ref (ad V 0), .int (nI c)] I L (-2) I L := by
  have hC := h.2.2.2.1 c hc
  have hok := ok.2.2.2.2.1 c hc
  obtain ⟨hc0, hc1, hc2⟩ := hC
  obtain ⟨ok0, ok1, ok2⟩ := hok
  have hkd := (kd73 hc).1
  refine Ok.of (cc := cX5_findingOfCrate) (maxL := 2) (ret := (some .int)) (by decide) rfl (Nat.le_of_ble_eq_true rfl) (fun X hnm C => ?_)
  have C : CX l X V RX5 cX5_findingOfCrate 2 wsX5_findingOfCrate 2 0 0 (some .int) := C
  refine J.cast (ls' := [(0, _), (1, _)]) rfl rfl rfl rfl ?_
  refine J.iload_n C dX5_findingOfCrate_0 rfl ?_
  refine J.cSDi C (ok_X5_isCrate l V (o := some c) _ _ ⟨by omega, rfl⟩) gX5_findingOfCrate_X5_isCrate rfl mfX5_isCrate (by decide) (by decide) rfl rfl (Nat.le_of_ble_eq_true rfl) dX5_findingOfCrate_1 (Nat.le_refl _) (Nat.le_refl _) ?_
  first | refine J.if_ne_b C dX5_findingOfCrate_4 (tgt := 9) (by decide) (fun _ => ?_) (fun c4 => absurd c4 (by rw [tb_1 (inO_s.mpr hc)]; decide)) | refine J.if_ne_n C (by omega) dX5_findingOfCrate_4 (tgt := 9) (by decide) (fun _ => ?_) (fun c4 => absurd c4 (by rw [tb_1 (inO_s.mpr hc)]; decide)) | refine J.if_ne C dX5_findingOfCrate_4 (tgt := 9) (by decide) (fun _ => ?_) (fun c4 => absurd c4 (by rw [tb_1 (inO_s.mpr hc)]; decide))
  refine J.aload_n C dX5_findingOfCrate_9 rfl ?_
  refine J.getR C flX5_findingOfCrate_29 (by first | decide | omega) rfl (by exact rfl) dX5_findingOfCrate_10 ?_
  refine J.iload_n C dX5_findingOfCrate_13 rfl ?_
  refine J.aa C (by first | exact Or.inl rfl | exact Or.inr rfl) (by first | exact rfl | exact rfl) (by first | (have h_ln := ln_all; have h_l2 := ln_all2; omega) | omega) dX5_findingOfCrate_14 ?_
  refine J.cVDi (q := (RX1, TX1, 3)) (ci := 1) C (ok_X1_isMissing l V (k := 73 + 2 * c) _ _ hkd hc0 ok0) gX5_findingOfCrate_X1_isMissing rfl mfX1_isMissing rfl (by decide) (by decide) (by first | decide | omega) (by first | exact rfl | exact mk_1 (by assumption)) rfl rfl rfl (Nat.le_of_ble_eq_true rfl) dX5_findingOfCrate_15 (Nat.le_refl _) (Nat.le_refl _) ?_
  first | refine J.if_eq_b C dX5_findingOfCrate_18 (tgt := 26) (by decide) (fun c18 => absurd c18 (by rw [tb_1 hs]; decide)) (fun _ => ?_) | refine J.if_eq_n C (by omega) dX5_findingOfCrate_18 (tgt := 26) (by decide) (fun c18 => absurd c18 (by rw [tb_1 hs]; decide)) (fun _ => ?_) | refine J.if_eq C dX5_findingOfCrate_18 (tgt := 26) (by decide) (fun c18 => absurd c18 (by rw [tb_1 hs]; decide)) (fun _ => ?_)
  refine J.bipush C dX5_findingOfCrate_21 (v := (-2)) (by decide) ?_
  refine J.goto C dX5_findingOfCrate_23 (tgt := 27) (by decide) ?_
  exact J.iret C dX5_findingOfCrate_27 ⟨rfl, rfl⟩
set_option maxHeartbeats 4000000 in
set_option maxRecDepth 100000 in
theorem ok_X5_findingOfCrate_0 (l : Launch) (V : Vx) {g : Sg} {c : Nat} (I : Nat → Nat → Int32) (L : Nat → Nat → Int64) (hc : c < 6) (hs : ¬ (g.2.2.2.1 c).1 = 0) (h : AbC I L g) (ok : okG g) : Di l V yX5_findingOfCrate wsX5_findingOfCrate 2 [.ref (ad V 0), .int (nI c)] I L (nI 0) I L := by
  have hC := h.2.2.2.1 c hc
  have hok := ok.2.2.2.2.1 c hc
  obtain ⟨hc0, hc1, hc2⟩ := hC
  obtain ⟨ok0, ok1, ok2⟩ := hok
  have hkd := (kd73 hc).1
  refine Ok.of (cc := cX5_findingOfCrate) (maxL := 2) (ret := (some .int)) (by decide) rfl (Nat.le_of_ble_eq_true rfl) (fun X hnm C => ?_)
  have C : CX l X V RX5 cX5_findingOfCrate 2 wsX5_findingOfCrate 2 0 0 (some .int) := C
  refine J.cast (ls' := [(0, _), (1, _)]) rfl rfl rfl rfl ?_
  refine J.iload_n C dX5_findingOfCrate_0 rfl ?_
  refine J.cSDi C (ok_X5_isCrate l V (o := some c) _ _ ⟨by omega, rfl⟩) gX5_findingOfCrate_X5_isCrate rfl mfX5_isCrate (by decide) (by decide) rfl rfl (Nat.le_of_ble_eq_true rfl) dX5_findingOfCrate_1 (Nat.le_refl _) (Nat.le_refl _) ?_
  first | refine J.if_ne_b C dX5_findingOfCrate_4 (tgt := 9) (by decide) (fun _ => ?_) (fun c4 => absurd c4 (by rw [tb_1 (inO_s.mpr hc)]; decide)) | refine J.if_ne_n C (by omega) dX5_findingOfCrate_4 (tgt := 9) (by decide) (fun _ => ?_) (fun c4 => absurd c4 (by rw [tb_1 (inO_s.mpr hc)]; decide)) | refine J.if_ne C dX5_findingOfCrate_4 (tgt := 9) (by decide) (fun _ => ?_) (fun c4 => absurd c4 (by rw [tb_1 (inO_s.mpr hc)]; decide))
  refine J.aload_n C dX5_findingOfCrate_9 rfl ?_
  refine J.getR C flX5_findingOfCrate_29 (by first | decide | omega) rfl (by exact rfl) dX5_findingOfCrate_10 ?_
  refine J.iload_n C dX5_findingOfCrate_13 rfl ?_
  refine J.aa C (by first | exact Or.inl rfl | exact Or.inr rfl) (by first | exact rfl | exact rfl) (by first | (have h_ln := ln_all; have h_l2 := ln_all2; omega) | omega) dX5_findingOfCrate_14 ?_
  refine J.cVDi (q := (RX1, TX1, 3)) (ci := 1) C (ok_X1_isMissing l V (k := 73 + 2 * c) _ _ hkd hc0 ok0) gX5_findingOfCrate_X1_isMissing rfl mfX1_isMissing rfl (by decide) (by decide) (by first | decide | omega) (by first | exact rfl | exact mk_1 (by assumption)) rfl rfl rfl (Nat.le_of_ble_eq_true rfl) dX5_findingOfCrate_15 (Nat.le_refl _) (Nat.le_refl _) ?_
  first | refine J.if_eq_b C dX5_findingOfCrate_18 (tgt := 26) (by decide) (fun _ => ?_) (fun c18 => absurd c18 (by rw [tb_0 hs]; decide)) | refine J.if_eq_n C (by omega) dX5_findingOfCrate_18 (tgt := 26) (by decide) (fun _ => ?_) (fun c18 => absurd c18 (by rw [tb_0 hs]; decide)) | refine J.if_eq C dX5_findingOfCrate_18 (tgt := 26) (by decide) (fun _ => ?_) (fun c18 => absurd c18 (by rw [tb_0 hs]; decide))
  refine J.iconst C dX5_findingOfCrate_26 (v := (nI 0)) (by decide) ?_
  exact J.iret C dX5_findingOfCrate_27 ⟨rfl, rfl⟩
set_option maxHeartbeats 4000000 in
set_option maxRecDepth 100000 in
theorem ok_X5_findingOfLoad (l : Launch) (V : Vx) {g : Sg} {x1 : Int32} {o1 : Option Nat} {x2 : Int32} {o2 : Option Nat} (I : Nat → Nat → Int32) (L : Nat → Nat → Int64) (hx1 : AG x1 o1) (hx2 : AG x2 o2) (h : AbC I L g) (ok : okG g) : Di l V yX5_findingOfLoad wsX5_findingOfLoad 3 [.ref (ad V 0), .int x1, .int x2] I L (lkO g o1 o2) I L := by
  unfold lkO
  by_cases hi : inO o1 6
  · obtain ⟨c, rfl, hc⟩ := id hi
    obtain ⟨-, rfl⟩ := hx1
    rw [tb_1 hi]
    have hC := h.2.2.2.1 c hc
    have hok := ok.2.2.2.2.1 c hc
    obtain ⟨hc0, hc1, hc2⟩ := hC
    obtain ⟨ok0, ok1, ok2⟩ := hok
    have hkd := (kd73 hc).1
    by_cases hs : (g.2.2.2.1 c).1 = 0
    · rw [tb_1 (show (g.2.2.2.1 ((some c).getD 0)).1 = 0 from hs)]
      refine Ok.of (cc := cX5_findingOfLoad) (maxL := 4) (ret := (some .int)) (by decide) rfl (Nat.le_of_ble_eq_true rfl) (fun X hnm C => ?_)
      have C : CX l X V RX5 cX5_findingOfLoad 4 wsX5_findingOfLoad 3 0 0 (some .int) := C
      refine J.cast (ls' := [(0, _), (1, _), (2, _)]) rfl rfl rfl rfl ?_
      refine J.aload_n C dX5_findingOfLoad_0 rfl ?_
      refine J.iload_n C dX5_findingOfLoad_1 rfl ?_
      refine J.cVDi (q := (RX5, TX5, 11)) (ci := 5) C (ok_X5_findingOfCrate_2 l V _ _ hc hs h ok) gX5_findingOfLoad_X5_findingOfCrate rfl mfX5_findingOfCrate rfl (by decide) (by decide) (by first | decide | omega) rfl rfl rfl rfl (Nat.le_of_ble_eq_true rfl) dX5_findingOfLoad_2 (Nat.le_refl _) (Nat.le_refl _) ?_
      refine J.istore_n (ls' := [(0, _), (1, _), (2, _), (3, _)]) C dX5_findingOfLoad_5 (by decide) rfl ?_
      refine J.iload_n C dX5_findingOfLoad_6 rfl ?_
      refine J.if_ge_z C dX5_findingOfLoad_7 (tgt := 12) (by decide) (fun c7 => absurd c7 (by first | omega | decide | simp_all)) (fun _ => ?_)
      refine J.iload_n C dX5_findingOfLoad_10 rfl ?_
      exact J.iret C dX5_findingOfLoad_11 ⟨rfl, rfl⟩
    · rw [tb_0 (show ¬ (g.2.2.2.1 ((some c).getD 0)).1 = 0 from hs)]
      show Di l V _ _ _ _ I L (cond (tb (inO o2 (g.2.2.2.1 c).2.1)) (nI 0) (-1)) I L
      rw [← tb_congr (AG_in (m := (g.2.2.2.1 c).2.1) hx2)]
      refine Ok.of (cc := cX5_findingOfLoad) (maxL := 4) (ret := (some .int)) (by decide) rfl (Nat.le_of_ble_eq_true rfl) (fun X hnm C => ?_)
      have C : CX l X V RX5 cX5_findingOfLoad 4 wsX5_findingOfLoad 3 0 0 (some .int) := C
      refine J.cast (ls' := [(0, _), (1, _), (2, _)]) rfl rfl rfl rfl ?_
      refine J.aload_n C dX5_findingOfLoad_0 rfl ?_
      refine J.iload_n C dX5_findingOfLoad_1 rfl ?_
      refine J.cVDi (q := (RX5, TX5, 11)) (ci := 5) C (ok_X5_findingOfCrate_0 l V _ _ hc hs h ok) gX5_findingOfLoad_X5_findingOfCrate rfl mfX5_findingOfCrate rfl (by decide) (by decide) (by first | decide | omega) rfl rfl rfl rfl (Nat.le_of_ble_eq_true rfl) dX5_findingOfLoad_2 (Nat.le_refl _) (Nat.le_refl _) ?_
      refine J.istore_n (ls' := [(0, _), (1, _), (2, _), (3, _)]) C dX5_findingOfLoad_5 (by decide) rfl ?_
      refine J.iload_n C dX5_findingOfLoad_6 rfl ?_
      refine J.if_ge_z C dX5_findingOfLoad_7 (tgt := 12) (by decide) (fun _ => ?_) (fun c7 => absurd c7 (by first | omega | decide | simp_all))
      refine J.iload_n C dX5_findingOfLoad_12 rfl ?_
      refine J.if_lt_z C dX5_findingOfLoad_13 (tgt := 29) (by decide) (fun c13t => ?_) (fun c13f => ?_)
      · refine J.iconst C dX5_findingOfLoad_29 (v := (-1)) (by decide) ?_
        refine J.goto C dX5_findingOfLoad_30 (tgt := 34) (by decide) ?_
        exact J.iret C dX5_findingOfLoad_34 ⟨by rw [tb_0 (by omega)]; rfl, rfl⟩
      · refine J.iload_n C dX5_findingOfLoad_16 rfl ?_
        refine J.aload_n C dX5_findingOfLoad_17 rfl ?_
        refine J.getR C flX5_findingOfLoad_29 (by first | decide | omega) rfl (by exact rfl) dX5_findingOfLoad_18 ?_
        refine J.iload_n C dX5_findingOfLoad_21 rfl ?_
        refine J.aa C (by first | exact Or.inl rfl | exact Or.inr rfl) (by first | exact rfl | exact rfl) (by first | (have h_ln := ln_all; have h_l2 := ln_all2; omega) | omega) dX5_findingOfLoad_22 ?_
        rw [show rid 56 c = 73 + 2 * c from rfl]
        refine J.getI C flX5_findingOfLoad_159 (by first | decide | omega) (by first | exact rfl | exact mk_1 (by assumption)) (by exact rfl) (by first | ((repeat (first | rewrite [up2_n _ _ _ (by first | decide | omega)] | rewrite [up2_m _ _ _ (by decide)] | rewrite [up3_n _ _ _ (by first | decide | omega)])) <;> (first | exact up2_s _ _ _ _ | exact up3_s _ _ _ _ | assumption | exact rfl))) dX5_findingOfLoad_23 ?_
        first | refine J.icmp_lt_n C (by omega) (by omega) dX5_findingOfLoad_26 (tgt := 33) (by decide) (fun c26t => ?_) (fun c26f => ?_) | refine J.icmp_lt_xn C (by omega) dX5_findingOfLoad_26 (tgt := 33) (by decide) (fun c26t => ?_) (fun c26f => ?_) | refine J.icmp_lt_nx C (by omega) dX5_findingOfLoad_26 (tgt := 33) (by decide) (fun c26t => ?_) (fun c26f => ?_) | refine J.icmp_lt C dX5_findingOfLoad_26 (tgt := 33) (by decide) (fun c26t => ?_) (fun c26f => ?_)
        · refine J.iconst C dX5_findingOfLoad_33 (v := (nI 0)) (by decide) ?_
          exact J.iret C dX5_findingOfLoad_34 ⟨by rw [tb_1 (by omega)]; rfl, rfl⟩
        · refine J.iconst C dX5_findingOfLoad_29 (v := (-1)) (by decide) ?_
          refine J.goto C dX5_findingOfLoad_30 (tgt := 34) (by decide) ?_
          exact J.iret C dX5_findingOfLoad_34 ⟨by rw [tb_0 (by omega)]; rfl, rfl⟩
  · rw [tb_0 hi]
    refine Ok.of (cc := cX5_findingOfLoad) (maxL := 4) (ret := (some .int)) (by decide) rfl (Nat.le_of_ble_eq_true rfl) (fun X hnm C => ?_)
    have C : CX l X V RX5 cX5_findingOfLoad 4 wsX5_findingOfLoad 3 0 0 (some .int) := C
    refine J.cast (ls' := [(0, _), (1, _), (2, _)]) rfl rfl rfl rfl ?_
    refine J.aload_n C dX5_findingOfLoad_0 rfl ?_
    refine J.iload_n C dX5_findingOfLoad_1 rfl ?_
    refine J.cVDi (q := (RX5, TX5, 11)) (ci := 5) C (ok_X5_findingOfCrate_1 l V _ _ hx1 hi) gX5_findingOfLoad_X5_findingOfCrate rfl mfX5_findingOfCrate rfl (by decide) (by decide) (by first | decide | omega) rfl rfl rfl rfl (Nat.le_of_ble_eq_true rfl) dX5_findingOfLoad_2 (Nat.le_refl _) (Nat.le_refl _) ?_
    refine J.istore_n (ls' := [(0, _), (1, _), (2, _), (3, _)]) C dX5_findingOfLoad_5 (by decide) rfl ?_
    refine J.iload_n C dX5_findingOfLoad_6 rfl ?_
    refine J.if_ge_z C dX5_findingOfLoad_7 (tgt := 12) (by decide) (fun c7 => absurd c7 (by first | omega | decide | simp_all)) (fun _ => ?_)
    refine J.iload_n C dX5_findingOfLoad_10 rfl ?_
    exact J.iret C dX5_findingOfLoad_11 ⟨rfl, rfl⟩
set_option maxHeartbeats 4000000 in
set_option maxRecDepth 100000 in
theorem ok_X5_crate (l : Launch) (V : Vx) {g : Sg} {x1 : Int32} {o1 : Option Nat}{x2 : Int32} {o2 : Option Nat}{x3 : Int32} {o3 : Option Nat} (I : Nat → Nat → Int32) (L : Nat → Nat → Int64) (hx1 : AG x1 o1) (hx2 : AG x2 o2) (hx3 : AG x3 o3) (hz : V.2.2.2.2.2 = false) (h : AbC I L g) (ok : okG g) : PC l V yX5_crate wsX5_crate 2 [.ref (ad V 0), .int x1, .int x2, .int x3] I L (op_crate g o1 o2 o3) := by
  have a2 := AG_in (m := 8) hx2
  refine Ok.of (cc := cX5_crate) (maxL := 5) (ret := (some .int)) (by decide) rfl (Nat.le_of_ble_eq_true rfl) (fun X hnm C => ?_)
  have C : CX l X V RX5 cX5_crate 5 wsX5_crate 2 0 0 (some .int) := C
  refine J.cast (ls' := [(0, _), (1, _), (2, _), (3, _)]) rfl rfl rfl rfl ?_
  refine J.iload_n C dX5_crate_0 rfl ?_
  refine J.cSDi C (ok_X5_isCrate l V _ _ hx1) gX5_crate_X5_isCrate rfl mfX5_isCrate (by decide) (by decide) rfl rfl (Nat.le_of_ble_eq_true rfl) dX5_crate_1 (Nat.le_refl _) (Nat.le_refl _) ?_
  first | refine J.if_eq_b C dX5_crate_4 (tgt := 17) (by decide) (fun c4t => ?_) (fun c4f => ?_) | refine J.if_eq_n C (by omega) dX5_crate_4 (tgt := 17) (by decide) (fun c4t => ?_) (fun c4f => ?_) | refine J.if_eq C dX5_crate_4 (tgt := 17) (by decide) (fun c4t => ?_) (fun c4f => ?_)
  · refine J.aload_n C dX5_crate_17 rfl ?_
    refine J.iconst C dX5_crate_18 (v := (-1)) (by decide) ?_
    refine J.cVDi (q := (RX5, TX5, 11)) (ci := 5) C (ok_X5_finding l V _ _ _) gX5_crate_X5_finding rfl mfX5_finding rfl (by decide) (by decide) (by first | decide | omega) rfl rfl rfl rfl (Nat.le_of_ble_eq_true rfl) dX5_crate_19 (Nat.le_refl _) (Nat.le_refl _) ?_
    exact J.iret C dX5_crate_22 (qC_s (by unfold op_crate; rw [tb_0 (fun q => by first | exact tb_f.mp c4t q.1 | (have := a2.mpr q.2; omega))]; exact qC_F h))
  · refine J.iload_n C dX5_crate_7 rfl ?_
    refine J.if_lt_z C dX5_crate_8 (tgt := 17) (by decide) (fun c8t => ?_) (fun c8f => ?_)
    · refine J.aload_n C dX5_crate_17 rfl ?_
      refine J.iconst C dX5_crate_18 (v := (-1)) (by decide) ?_
      refine J.cVDi (q := (RX5, TX5, 11)) (ci := 5) C (ok_X5_finding l V _ _ _) gX5_crate_X5_finding rfl mfX5_finding rfl (by decide) (by decide) (by first | decide | omega) rfl rfl rfl rfl (Nat.le_of_ble_eq_true rfl) dX5_crate_19 (Nat.le_refl _) (Nat.le_refl _) ?_
      exact J.iret C dX5_crate_22 (qC_s (by unfold op_crate; rw [tb_0 (fun q => by first | exact tb_f.mp c4t q.1 | (have := a2.mpr q.2; omega))]; exact qC_F h))
    · refine J.iload_n C dX5_crate_11 rfl ?_
      refine J.bipush C dX5_crate_12 (v := (nI 7)) (by decide) ?_
      first | refine J.icmp_le_n C (by omega) (by omega) dX5_crate_14 (tgt := 23) (by decide) (fun c14t => ?_) (fun c14f => ?_) | refine J.icmp_le_xn C (by omega) dX5_crate_14 (tgt := 23) (by decide) (fun c14t => ?_) (fun c14f => ?_) | refine J.icmp_le_nx C (by omega) dX5_crate_14 (tgt := 23) (by decide) (fun c14t => ?_) (fun c14f => ?_) | refine J.icmp_le C dX5_crate_14 (tgt := 23) (by decide) (fun c14t => ?_) (fun c14f => ?_)
      · obtain ⟨c, rfl, hc⟩ := tb_t.mp c4f
        obtain ⟨-, rfl⟩ := hx1
        obtain ⟨k, rfl, hk⟩ := a2.mp ⟨by omega, by omega⟩
        obtain ⟨-, rfl⟩ := hx2
        have hC := h.2.2.2.1 c hc
        have hok := ok.2.2.2.2.1 c hc
        obtain ⟨hc0, hc1, hc2⟩ := hC
        obtain ⟨ok0, ok1, ok2⟩ := hok
        have hkd := (kd73 hc).1
        unfold op_crate
        rw [tb_1 (show inO (some c) 6 ∧ inO (some k) 8 from ⟨inO_s.mpr hc, inO_s.mpr hk⟩)]
        cases o3 with
        | none =>
          have hx3 : x3.toInt < 0 := hx3
          refine J.iload_n C dX5_crate_23 rfl ?_
          refine J.if_ge_z C dX5_crate_24 (tgt := 34) (by decide) (fun c24 => absurd c24 (by first | omega | decide | simp_all)) (fun _ => ?_)
          refine J.aload_n C dX5_crate_27 rfl ?_
          refine J.bipush C dX5_crate_28 (v := (-3)) (by decide) ?_
          refine J.cVDi (q := (RX5, TX5, 11)) (ci := 5) C (ok_X5_finding l V _ _ _) gX5_crate_X5_finding rfl mfX5_finding rfl (by decide) (by decide) (by first | decide | omega) rfl rfl rfl rfl (Nat.le_of_ble_eq_true rfl) dX5_crate_30 (Nat.le_refl _) (Nat.le_refl _) ?_
          exact J.iret C dX5_crate_33 (qC_s (qC_F h))
        | some n =>
          obtain ⟨hn, rfl⟩ := hx3
          have fin : ∀ (z : Nat) (I' : Nat → Nat → Int32) (L' : Nat → Nat → Int64), z = (if k = 0 then 0 else n) → n ≤ 12 → I' = up2 (up2 I (73 + 2 * c) 0 (nI k)) (73 + 2 * c) 1 (nI z) → (∀ j, j < 12 → L' (73 + 2 * c + 1) j = 0) → (∀ q, q ≠ 73 + 2 * c + 1 → L' q = L q) → qC I L (nI (if k = 0 then 0 else n), gC g c (k, if k = 0 then 0 else n, fun _ => 0)) (nI z) I' L' := fun z I' L' hz hn12 e1 e2 e3 => by
            subst hz
            subst e1
            refine ⟨rfl, AbC_crate h (fun q a b => by rw [up2_n _ _ _ b, up2_n _ _ _ b]) (fun q a b => e3 q (by omega)) (by rw [up2_m _ _ _ (by decide), up2_s]) (up2_s _ _ _ _) (fun i hi => ?_), frC_up (by omega) (frC_up (by omega) frC_rfl), fun q a => e3 q (by omega)⟩
            rw [show 74 + 2 * c = 73 + 2 * c + 1 by omega]
            exact e2 i hi
          refine J.iload_n C dX5_crate_23 rfl ?_
          refine J.if_ge_n C (by omega) dX5_crate_24 (tgt := 34) (by decide) ?_
          refine J.iload_n C dX5_crate_34 rfl ?_
          refine J.bipush C dX5_crate_35 (v := (nI 12)) (by decide) ?_
          first | refine J.icmp_le_n C (by omega) (by omega) dX5_crate_37 (tgt := 46) (by decide) (fun c37t => ?_) (fun c37f => ?_) | refine J.icmp_le_xn C (by omega) dX5_crate_37 (tgt := 46) (by decide) (fun c37t => ?_) (fun c37f => ?_) | refine J.icmp_le_nx C (by omega) dX5_crate_37 (tgt := 46) (by decide) (fun c37t => ?_) (fun c37f => ?_) | refine J.icmp_le C dX5_crate_37 (tgt := 46) (by decide) (fun c37t => ?_) (fun c37f => ?_)
          · rw [show cond true (cond (tb (n ≤ 12)) (nI (if (some k).getD 0 = 0 then 0 else n), gC g ((some c).getD 0) ((some k).getD 0, if (some k).getD 0 = 0 then 0 else n, fun _ => 0)) (-1, gF g)) (-1, gF g) = (nI (if k = 0 then 0 else n), gC g c (k, if k = 0 then 0 else n, fun _ => 0)) from by rw [tb_1 (by omega)]; rfl]
            refine J.iload_n C dX5_crate_46 rfl ?_
            first | refine J.if_ne_b C dX5_crate_47 (tgt := 54) (by decide) (fun c47t => ?_) (fun c47f => ?_) | refine J.if_ne_n C (by omega) dX5_crate_47 (tgt := 54) (by decide) (fun c47t => ?_) (fun c47f => ?_) | refine J.if_ne C dX5_crate_47 (tgt := 54) (by decide) (fun c47t => ?_) (fun c47f => ?_)
            · refine J.iload_n C dX5_crate_54 rfl ?_
              refine J.istore (ls' := [(0, _), (1, _), (2, _), (3, _), (4, _)]) C dX5_crate_55 (by decide) rfl ?_
              refine J.aload_n C dX5_crate_57 rfl ?_
              refine J.getR C flX5_crate_29 (by first | decide | omega) rfl (by exact rfl) dX5_crate_58 ?_
              refine J.iload_n C dX5_crate_61 rfl ?_
              refine J.aa C (by first | exact Or.inl rfl | exact Or.inr rfl) (by first | exact rfl | exact rfl) (by first | (have h_ln := ln_all; have h_l2 := ln_all2; omega) | omega) dX5_crate_62 ?_
              refine J.iload_n C dX5_crate_63 rfl ?_
              refine J.iload C dX5_crate_64 rfl ?_
              refine J.cVGv (q := (RX1, TX1, 3)) (ci := 1) C (ok_X1_renew l V (k := 73 + 2 * c) _ _ hkd) gX5_crate_X1_renew rfl mfX1_renew rfl (by decide) (by decide) (by first | decide | omega) (by first | exact rfl | exact mk_1 (by assumption)) rfl rfl rfl (Nat.le_of_ble_eq_true rfl) dX5_crate_66 (Nat.le_refl _) (Nat.le_refl _) (fun I66 L66 h66 => ?_)
              obtain ⟨e1, e2, e3⟩ := h66
              refine J.iload C dX5_crate_69 rfl ?_
              exact J.iret C dX5_crate_71 (qC_s (fin n _ _ (by rw [if_neg c47t]) (by omega) e1 e2 e3))
            · refine J.iconst C dX5_crate_50 (v := (nI 0)) (by decide) ?_
              refine J.goto C dX5_crate_51 (tgt := 55) (by decide) ?_
              refine J.istore (ls' := [(0, _), (1, _), (2, _), (3, _), (4, _)]) C dX5_crate_55 (by decide) rfl ?_
              refine J.aload_n C dX5_crate_57 rfl ?_
              refine J.getR C flX5_crate_29 (by first | decide | omega) rfl (by exact rfl) dX5_crate_58 ?_
              refine J.iload_n C dX5_crate_61 rfl ?_
              refine J.aa C (by first | exact Or.inl rfl | exact Or.inr rfl) (by first | exact rfl | exact rfl) (by first | (have h_ln := ln_all; have h_l2 := ln_all2; omega) | omega) dX5_crate_62 ?_
              refine J.iload_n C dX5_crate_63 rfl ?_
              refine J.iload C dX5_crate_64 rfl ?_
              refine J.cVGv (q := (RX1, TX1, 3)) (ci := 1) C (ok_X1_renew l V (k := 73 + 2 * c) _ _ hkd) gX5_crate_X1_renew rfl mfX1_renew rfl (by decide) (by decide) (by first | decide | omega) (by first | exact rfl | exact mk_1 (by assumption)) rfl rfl rfl (Nat.le_of_ble_eq_true rfl) dX5_crate_66 (Nat.le_refl _) (Nat.le_refl _) (fun I66 L66 h66 => ?_)
              obtain ⟨e1, e2, e3⟩ := h66
              refine J.iload C dX5_crate_69 rfl ?_
              exact J.iret C dX5_crate_71 (qC_s (fin 0 _ _ (by rw [if_pos c47f]) (by omega) e1 e2 e3))
          · rw [show cond true (cond (tb (n ≤ 12)) (nI (if (some k).getD 0 = 0 then 0 else n), gC g ((some c).getD 0) ((some k).getD 0, if (some k).getD 0 = 0 then 0 else n, fun _ => 0)) (-1, gF g)) (-1, gF g) = (-1, gF g) from by rw [tb_0 (by omega)]; rfl]
            refine J.aload_n C dX5_crate_40 rfl ?_
            refine J.iconst C dX5_crate_41 (v := (-1)) (by decide) ?_
            refine J.cVDi (q := (RX5, TX5, 11)) (ci := 5) C (ok_X5_finding l V _ _ _) gX5_crate_X5_finding rfl mfX5_finding rfl (by decide) (by decide) (by first | decide | omega) rfl rfl rfl rfl (Nat.le_of_ble_eq_true rfl) dX5_crate_42 (Nat.le_refl _) (Nat.le_refl _) ?_
            exact J.iret C dX5_crate_45 (qC_s (qC_F h))
      · refine J.aload_n C dX5_crate_17 rfl ?_
        refine J.iconst C dX5_crate_18 (v := (-1)) (by decide) ?_
        refine J.cVDi (q := (RX5, TX5, 11)) (ci := 5) C (ok_X5_finding l V _ _ _) gX5_crate_X5_finding rfl mfX5_finding rfl (by decide) (by decide) (by first | decide | omega) rfl rfl rfl rfl (Nat.le_of_ble_eq_true rfl) dX5_crate_19 (Nat.le_refl _) (Nat.le_refl _) ?_
        exact J.iret C dX5_crate_22 (qC_s (by unfold op_crate; rw [tb_0 (fun q => by first | exact tb_f.mp c4t q.1 | (have := a2.mpr q.2; omega))]; exact qC_F h))
set_option maxHeartbeats 4000000 in
set_option maxRecDepth 100000 in
theorem ok_X5_put (l : Launch) (V : Vx) {g : Sg} {x1 : Int32} {o1 : Option Nat}{x2 : Int32} {o2 : Option Nat} (v : Int64) (I : Nat → Nat → Int32) (L : Nat → Nat → Int64) (hx1 : AG x1 o1) (hx2 : AG x2 o2) (hz : V.2.2.2.2.2 = false) (h : AbC I L g) (ok : okG g) : PC l V yX5_put wsX5_put 4 [.ref (ad V 0), .int x1, .int x2, .long v] I L (op_put g o1 o2 v) := by
  rcases lkO_c g o1 o2 with ⟨hl, c, i, rfl, rfl, hc, hk0, hi⟩ | hl
  · obtain ⟨-, rfl⟩ := id hx1
    obtain ⟨-, rfl⟩ := id hx2
    have hC := h.2.2.2.1 c hc
    have hok := ok.2.2.2.2.1 c hc
    obtain ⟨hc0, hc1, hc2⟩ := hC
    obtain ⟨ok0, ok1, ok2⟩ := hok
    have hkd := (kd73 hc).1
    unfold op_put
    rw [tb_1 hl]
    refine Ok.of (cc := cX5_put) (maxL := 6) (ret := (some .int)) (by decide) rfl (Nat.le_of_ble_eq_true rfl) (fun X hnm C => ?_)
    have C : CX l X V RX5 cX5_put 6 wsX5_put 4 0 0 (some .int) := C
    refine J.cast (ls' := [(0, _), (1, _), (2, _), (3, _)]) rfl rfl rfl rfl ?_
    refine J.aload_n C dX5_put_0 rfl ?_
    refine J.iload_n C dX5_put_1 rfl ?_
    refine J.iload_n C dX5_put_2 rfl ?_
    refine J.cVDi (q := (RX5, TX5, 11)) (ci := 5) C (ok_X5_findingOfLoad l V _ _ hx1 hx2 h ok) gX5_put_X5_findingOfLoad rfl mfX5_findingOfLoad rfl (by decide) (by decide) (by first | decide | omega) rfl rfl rfl rfl (Nat.le_of_ble_eq_true rfl) dX5_put_3 (Nat.le_refl _) (Nat.le_refl _) ?_
    rw [hl]
    refine J.istore (ls' := [(0, _), (1, _), (2, _), (3, _), (5, _)]) C dX5_put_6 (by decide) rfl ?_
    refine J.iload C dX5_put_8 rfl ?_
    refine J.if_ge_n C (by omega) dX5_put_10 (tgt := 20) (by decide) ?_
    refine J.aload_n C dX5_put_20 rfl ?_
    refine J.getR C flX5_put_29 (by first | decide | omega) rfl (by exact rfl) dX5_put_21 ?_
    refine J.iload_n C dX5_put_24 rfl ?_
    refine J.aa C (by first | exact Or.inl rfl | exact Or.inr rfl) (by first | exact rfl | exact rfl) (by first | (have h_ln := ln_all; have h_l2 := ln_all2; omega) | omega) dX5_put_25 ?_
    refine J.iload_n C dX5_put_26 rfl ?_
    refine J.lload_n C dX5_put_27 rfl ?_
    refine J.cVDv (q := (RX1, TX1, 3)) (ci := 1) C (ok_X1_write l V (k := 73 + 2 * c) _ _ hkd hc0 (by omega) ok0 (by omega)) gX5_put_X1_write rfl mfX1_write rfl (by decide) (by decide) (by first | decide | omega) (by first | exact rfl | exact mk_1 (by assumption)) rfl rfl rfl (Nat.le_of_ble_eq_true rfl) dX5_put_28 (Nat.le_refl _) (Nat.le_refl _) ?_
    refine J.iconst C dX5_put_31 (v := (nI 0)) (by decide) ?_
    exact J.iret C dX5_put_32 (qC_s ⟨rfl, AbC_crate (c := c) (x := ((g.2.2.2.1 c).1, (g.2.2.2.1 c).2.1, va_up (g.2.2.2.1 c).2.2 i (narM (g.2.2.2.1 c).1 v))) h (fun _ _ _ => rfl) (fun q a b => up3_n _ _ _ (by omega)) hc0 hc1 (fun j hj => by
          rw [show 74 + 2 * c = 73 + 2 * c + 1 by omega]
          show _ = va_up (g.2.2.2.1 c).2.2 i (narM (g.2.2.2.1 c).1 v) j
          by_cases e : j = i
          · rw [e, up3_s, va_up_self]
          · rw [up3_m _ _ _ e, va_up_ne _ _ e, show 73 + 2 * c + 1 = 74 + 2 * c by omega]; exact hc2 j hj), frC_rfl, frCL_up (by omega) frCL_rfl⟩)
  · obtain ⟨h1, h2⟩ := lkO_m hl
    unfold op_put
    rw [tb_0 h2]
    refine Ok.of (cc := cX5_put) (maxL := 6) (ret := (some .int)) (by decide) rfl (Nat.le_of_ble_eq_true rfl) (fun X hnm C => ?_)
    have C : CX l X V RX5 cX5_put 6 wsX5_put 4 0 0 (some .int) := C
    refine J.cast (ls' := [(0, _), (1, _), (2, _), (3, _)]) rfl rfl rfl rfl ?_
    refine J.aload_n C dX5_put_0 rfl ?_
    refine J.iload_n C dX5_put_1 rfl ?_
    refine J.iload_n C dX5_put_2 rfl ?_
    refine J.cVDi (q := (RX5, TX5, 11)) (ci := 5) C (ok_X5_findingOfLoad l V _ _ hx1 hx2 h ok) gX5_put_X5_findingOfLoad rfl mfX5_findingOfLoad rfl (by decide) (by decide) (by first | decide | omega) rfl rfl rfl rfl (Nat.le_of_ble_eq_true rfl) dX5_put_3 (Nat.le_refl _) (Nat.le_refl _) ?_
    refine J.istore (ls' := [(0, _), (1, _), (2, _), (3, _), (5, _)]) C dX5_put_6 (by decide) rfl ?_
    refine J.iload C dX5_put_8 rfl ?_
    refine J.if_ge_z C dX5_put_10 (tgt := 20) (by decide) (fun c10 => absurd c10 (by first | omega | decide | simp_all)) (fun _ => ?_)
    refine J.aload_n C dX5_put_13 rfl ?_
    refine J.iload C dX5_put_14 rfl ?_
    refine J.cVDi (q := (RX5, TX5, 11)) (ci := 5) C (ok_X5_finding l V _ _ _) gX5_put_X5_finding rfl mfX5_finding rfl (by decide) (by decide) (by first | decide | omega) rfl rfl rfl rfl (Nat.le_of_ble_eq_true rfl) dX5_put_16 (Nat.le_refl _) (Nat.le_refl _) ?_
    exact J.iret C dX5_put_19 (qC_s (qC_F h))
def qCL (I : Nat → Nat → Int32) (L : Nat → Nat → Int64) (p : Int64 × Sg) : Int64 → (Nat → Nat → Int32) → (Nat → Nat → Int64) → Prop := fun r I' L' => r = p.1 ∧ AbC I' L' p.2 ∧ frC I I' ∧ frCL L L'
theorem qCL_s {V : Vx} {I I' : Nat → Nat → Int32} {L L' : Nat → Nat → Int64} {p : Int64 × Sg} {r : Int64} (h : qCL I L p r I' L') : ∃ r' I'' L'', (some (Value.long r) : Option Value) = some (.long r') ∧ mm V I' L' = mm V I'' L'' ∧ qCL I L p r' I'' L'' := ⟨r, I', L', rfl, rfl, h⟩
def PCL (l : Launch) (V : Vx) (y : MethodName) (ws : List Cond) (d : Nat) (av : List Value) (I : Nat → Nat → Int32) (L : Nat → Nat → Int64) (p : Int64 × Sg) : Prop := Gl l V y ws d av I L (qCL I L p)
set_option maxHeartbeats 4000000 in
set_option maxRecDepth 100000 in
theorem ok_X5_load (l : Launch) (V : Vx) {g : Sg} {x1 : Int32} {o1 : Option Nat} {x2 : Int32} {o2 : Option Nat} (I : Nat → Nat → Int32) (L : Nat → Nat → Int64) (hx1 : AG x1 o1) (hx2 : AG x2 o2) (hz : V.2.2.2.2.2 = false) (h : AbC I L g) (ok : okG g) : PCL l V yX5_load wsX5_load 4 [.ref (ad V 0), .int x1, .int x2] I L (op_load g o1 o2) := by
  rcases lkO_c g o1 o2 with ⟨hl, c, i, rfl, rfl, hc, hk0, hi⟩ | hl
  · obtain ⟨-, rfl⟩ := id hx1
    obtain ⟨-, rfl⟩ := id hx2
    have hC := h.2.2.2.1 c hc
    have hok := ok.2.2.2.2.1 c hc
    obtain ⟨hc0, hc1, hc2⟩ := hC
    obtain ⟨ok0, ok1, ok2⟩ := hok
    have hkd := (kd73 hc).1
    unfold op_load
    rw [tb_1 hl]
    have hv : L (73 + 2 * c + 1) i = (g.2.2.2.1 c).2.2 i := by rw [show 73 + 2 * c + 1 = 74 + 2 * c by omega]; exact hc2 i (by omega)
    have hk8 := (kd1 hkd).1
    have hl12 := (kd1 hkd).2
    refine Ok.of (cc := cX5_load) (maxL := 4) (ret := (some .long)) (by decide) rfl (Nat.le_of_ble_eq_true rfl) (fun X hnm C => ?_)
    have C : CX l X V RX5 cX5_load 4 wsX5_load 4 0 0 (some .long) := C
    refine J.cast (ls' := [(0, _), (1, _), (2, _)]) rfl rfl rfl rfl ?_
    refine J.aload_n C dX5_load_0 rfl ?_
    refine J.iload_n C dX5_load_1 rfl ?_
    refine J.iload_n C dX5_load_2 rfl ?_
    refine J.cVDi (q := (RX5, TX5, 11)) (ci := 5) C (ok_X5_findingOfLoad l V _ _ hx1 hx2 h ok) gX5_load_X5_findingOfLoad rfl mfX5_findingOfLoad rfl (by decide) (by decide) (by first | decide | omega) rfl rfl rfl rfl (Nat.le_of_ble_eq_true rfl) dX5_load_3 (Nat.le_refl _) (Nat.le_refl _) ?_
    rw [hl]
    refine J.istore_n (ls' := [(0, _), (1, _), (2, _), (3, _)]) C dX5_load_6 (by decide) rfl ?_
    refine J.iload_n C dX5_load_7 rfl ?_
    refine J.if_ge_n C (by omega) dX5_load_8 (tgt := 21) (by decide) ?_
    refine J.aload_n C dX5_load_21 rfl ?_
    refine J.getR C flX5_load_29 (by first | decide | omega) rfl (by exact rfl) dX5_load_22 ?_
    refine J.iload_n C dX5_load_25 rfl ?_
    refine J.aa C (by first | exact Or.inl rfl | exact Or.inr rfl) (by first | exact rfl | exact rfl) (by first | (have h_ln := ln_all; have h_l2 := ln_all2; omega) | omega) dX5_load_26 ?_
    rw [show rid 56 c = 73 + 2 * c from rfl]
    refine J.getR C flX5_load_137 (by first | decide | omega) (by first | exact rfl | exact mk_1 (by assumption)) (by exact rfl) dX5_load_27 ?_
    refine J.iload_n C dX5_load_30 rfl ?_
    refine J.la C (by first | exact rfl | assumption) (by first | exact rfl | exact rfl) (by first | omega | omega) (by first | ((repeat (first | rewrite [up2_n _ _ _ (by first | decide | omega)] | rewrite [up2_m _ _ _ (by decide)] | rewrite [up3_n _ _ _ (by first | decide | omega)])) <;> (first | exact up2_s _ _ _ _ | exact up3_s _ _ _ _ | assumption | exact rfl))) dX5_load_31 ?_
    exact J.lret C dX5_load_32 (qCL_s ⟨rfl, h, frC_rfl, frCL_rfl⟩)
  · obtain ⟨h1, h2⟩ := lkO_m hl
    unfold op_load
    rw [tb_0 h2]
    refine Ok.of (cc := cX5_load) (maxL := 4) (ret := (some .long)) (by decide) rfl (Nat.le_of_ble_eq_true rfl) (fun X hnm C => ?_)
    have C : CX l X V RX5 cX5_load 4 wsX5_load 4 0 0 (some .long) := C
    refine J.cast (ls' := [(0, _), (1, _), (2, _)]) rfl rfl rfl rfl ?_
    refine J.aload_n C dX5_load_0 rfl ?_
    refine J.iload_n C dX5_load_1 rfl ?_
    refine J.iload_n C dX5_load_2 rfl ?_
    refine J.cVDi (q := (RX5, TX5, 11)) (ci := 5) C (ok_X5_findingOfLoad l V _ _ hx1 hx2 h ok) gX5_load_X5_findingOfLoad rfl mfX5_findingOfLoad rfl (by decide) (by decide) (by first | decide | omega) rfl rfl rfl rfl (Nat.le_of_ble_eq_true rfl) dX5_load_3 (Nat.le_refl _) (Nat.le_refl _) ?_
    refine J.istore_n (ls' := [(0, _), (1, _), (2, _), (3, _)]) C dX5_load_6 (by decide) rfl ?_
    refine J.iload_n C dX5_load_7 rfl ?_
    refine J.if_ge_z C dX5_load_8 (tgt := 21) (by decide) (fun c8 => absurd c8 (by first | omega | decide | simp_all)) (fun _ => ?_)
    refine J.aload_n C dX5_load_11 rfl ?_
    refine J.iload_n C dX5_load_12 rfl ?_
    refine J.cVDi (q := (RX5, TX5, 11)) (ci := 5) C (ok_X5_finding l V _ _ _) gX5_load_X5_finding rfl mfX5_finding rfl (by decide) (by decide) (by first | decide | omega) rfl rfl rfl rfl (Nat.le_of_ble_eq_true rfl) dX5_load_13 (Nat.le_refl _) (Nat.le_refl _) ?_
    refine J.pop C dX5_load_16 rfl ?_
    refine J.ldc2 C (v := -9223372036854775808) (by decide +kernel) dX5_load_17 ?_
    exact J.lret C dX5_load_20 (qCL_s ⟨rfl, AbC_F h, frC_up (by decide) frC_rfl, frCL_rfl⟩)
set_option maxHeartbeats 4000000 in
set_option maxRecDepth 100000 in
theorem lp_X5_rises {l : Launch} {X : Cx} {V : Vx} {P : Option Value → (Nat → va_E) → Prop} {I : Nat → Nat → Int32} {L : Nat → Nat → Int64} (C : CX l X V RX5 cX5_rises 5 wsX5_rises 3 0 0 (some .int)) {c : Nat} {x : Nat × Nat × (Nat → Int64)} (hc : c < 6) (h0 : I (73 + 2 * c) 0 = nI x.1) (h1 : I (73 + 2 * c) 1 = nI x.2.1) (hk : x.1 ≤ 7) (hs : x.2.1 ≤ 12) (hv : ∀ i, i < 12 → L (73 + 2 * c + 1) i = x.2.2 i) (h6 : x.1 = 6 → ∀ i, i < 12 → i32 (x.2.2 i)) (hP : P (some (.int (bI (tb (Rise x))))) (mm V I L)) : ∀ (k i : Nat), x.2.1 ≤ i + k → i ≤ 12 → (∀ j, j < i → j + 1 < x.2.1 → (ordI x.1 (x.2.2 j) (x.2.2 (j + 1))).toInt ≤ 0) → E X V P 5 26 [(0, .ref (ad V 0)), (1, .int (nI c)), (2, .int (nI 0)), (3, .ref (ad V (73 + 2 * c))), (4, .int (nI i))] [] I L := by
  have hkd := (kd73 hc).1
  intro k
  induction k with
  | zero =>
    intro i hi h13 hb
    refine J.iload C dX5_rises_26 rfl ?_
    refine J.iconst C dX5_rises_28 (v := (nI 1)) (by decide) ?_
    first | refine J.iadd_n C dX5_rises_29 ?_ | refine J.iadd C dX5_rises_29 ?_
    refine J.aload_n C dX5_rises_30 rfl ?_
    refine J.getI C flX5_rises_159 (by first | decide | omega) (by first | exact rfl | exact mk_1 (by assumption)) (by exact rfl) (by first | ((repeat (first | rewrite [up2_n _ _ _ (by first | decide | omega)] | rewrite [up2_m _ _ _ (by decide)] | rewrite [up3_n _ _ _ (by first | decide | omega)])) <;> (first | exact up2_s _ _ _ _ | exact up3_s _ _ _ _ | assumption | exact rfl))) dX5_rises_31 ?_
    first | refine J.icmp_ge_n C (by omega) (by omega) dX5_rises_34 (tgt := 58) (by decide) (fun _ => ?_) (fun c34 => absurd c34 (by first | omega | decide | simp_all)) | refine J.icmp_ge_xn C (by omega) dX5_rises_34 (tgt := 58) (by decide) (fun _ => ?_) (fun c34 => absurd c34 (by first | omega | decide | simp_all)) | refine J.icmp_ge_nx C (by omega) dX5_rises_34 (tgt := 58) (by decide) (fun _ => ?_) (fun c34 => absurd c34 (by first | omega | decide | simp_all)) | refine J.icmp_ge C dX5_rises_34 (tgt := 58) (by decide) (fun _ => ?_) (fun c34 => absurd c34 (by first | omega | decide | simp_all))
    refine J.iconst C dX5_rises_58 (v := (nI 1)) (by decide) ?_
    exact J.iret C dX5_rises_59 (by rw [tb_1 (P := Rise x) (fun j hj => hb j (by omega) hj)] at hP; exact hP)
  | succ k ih =>
    intro i hi h13 hb
    refine J.iload C dX5_rises_26 rfl ?_
    refine J.iconst C dX5_rises_28 (v := (nI 1)) (by decide) ?_
    first | refine J.iadd_n C dX5_rises_29 ?_ | refine J.iadd C dX5_rises_29 ?_
    refine J.aload_n C dX5_rises_30 rfl ?_
    refine J.getI C flX5_rises_159 (by first | decide | omega) (by first | exact rfl | exact mk_1 (by assumption)) (by exact rfl) (by first | ((repeat (first | rewrite [up2_n _ _ _ (by first | decide | omega)] | rewrite [up2_m _ _ _ (by decide)] | rewrite [up3_n _ _ _ (by first | decide | omega)])) <;> (first | exact up2_s _ _ _ _ | exact up3_s _ _ _ _ | assumption | exact rfl))) dX5_rises_31 ?_
    first | refine J.icmp_ge_n C (by omega) (by omega) dX5_rises_34 (tgt := 58) (by decide) (fun c34t => ?_) (fun c34f => ?_) | refine J.icmp_ge_xn C (by omega) dX5_rises_34 (tgt := 58) (by decide) (fun c34t => ?_) (fun c34f => ?_) | refine J.icmp_ge_nx C (by omega) dX5_rises_34 (tgt := 58) (by decide) (fun c34t => ?_) (fun c34f => ?_) | refine J.icmp_ge C dX5_rises_34 (tgt := 58) (by decide) (fun c34t => ?_) (fun c34f => ?_)
    · refine J.iconst C dX5_rises_58 (v := (nI 1)) (by decide) ?_
      exact J.iret C dX5_rises_59 (by rw [tb_1 (P := Rise x) (fun j hj => hb j (by omega) hj)] at hP; exact hP)
    · refine J.aload_n C dX5_rises_37 rfl ?_
      refine J.iload C dX5_rises_38 rfl ?_
      refine J.iload C dX5_rises_40 rfl ?_
      refine J.iconst C dX5_rises_42 (v := (nI 1)) (by decide) ?_
      first | refine J.iadd_n C dX5_rises_43 ?_ | refine J.iadd C dX5_rises_43 ?_
      refine J.cVDi (q := (RX1, TX1, 3)) (ci := 1) C (ok_X1_compare l V (k := 73 + 2 * c) _ _ hkd h0 hk (by omega) (by omega) (hv _ (by omega)) (hv _ (by omega)) (fun q => ⟨h6 q _ (by omega), h6 q _ (by omega)⟩)) gX5_rises_X1_compare rfl mfX1_compare rfl (by decide) (by decide) (by first | decide | omega) (by first | exact rfl | exact mk_1 (by assumption)) rfl rfl rfl (Nat.le_of_ble_eq_true rfl) dX5_rises_44 (Nat.le_refl _) (Nat.le_refl _) ?_
      refine J.if_le_z C dX5_rises_47 (tgt := 52) (by decide) (fun c47t => ?_) (fun c47f => ?_)
      · refine J.iinc (ls' := [(0, _), (1, _), (2, _), (3, _), (4, _)]) C dX5_rises_52 rfl (by first | exact nI_inc _ 1 | exact rfl) (by decide) rfl ?_
        refine J.goto C dX5_rises_55 (tgt := 26) (by decide) ?_
        refine ih (i + 1) (by omega) (by omega) (fun j hj hj2 => ?_)
        by_cases e : j = i
        · subst e
          exact c47t
        · exact hb j (by omega) hj2
      · refine J.iconst C dX5_rises_50 (v := (nI 0)) (by decide) ?_
        exact J.iret C dX5_rises_51 (by rw [tb_0 (P := Rise x) (fun q => by have := q i (by omega); omega)] at hP; exact hP)
set_option maxHeartbeats 4000000 in
set_option maxRecDepth 100000 in
theorem ok_X5_rises (l : Launch) (V : Vx) {g : Sg} {x1 : Int32} {o1 : Option Nat} (I : Nat → Nat → Int32) (L : Nat → Nat → Int64) (hx1 : AG x1 o1) (hz : V.2.2.2.2.2 = false) (h : AbC I L g) (ok : okG g) : PC l V yX5_rises wsX5_rises 3 [.ref (ad V 0), .int x1] I L (op_rises g o1) := by
  by_cases hi : inO o1 6
  · obtain ⟨c, rfl, hc⟩ := id hi
    obtain ⟨-, rfl⟩ := hx1
    have hC := h.2.2.2.1 c hc
    have hok := ok.2.2.2.2.1 c hc
    obtain ⟨hc0, hc1, hc2⟩ := hC
    obtain ⟨ok0, ok1, ok2⟩ := hok
    have hkd := (kd73 hc).1
    by_cases hs : (g.2.2.2.1 c).1 = 0
    · have e : op_rises g (some c) = (-2, gF g) := by
        unfold op_rises
        rw [tb_1 hi, tb_1 (show (g.2.2.2.1 ((some c).getD 0)).1 = 0 from hs)]
        rfl
      rw [e]
      refine Ok.of (cc := cX5_rises) (maxL := 5) (ret := (some .int)) (by decide) rfl (Nat.le_of_ble_eq_true rfl) (fun X hnm C => ?_)
      have C : CX l X V RX5 cX5_rises 5 wsX5_rises 3 0 0 (some .int) := C
      refine J.cast (ls' := [(0, _), (1, _)]) rfl rfl rfl rfl ?_
      refine J.aload_n C dX5_rises_0 rfl ?_
      refine J.iload_n C dX5_rises_1 rfl ?_
      refine J.cVDi (q := (RX5, TX5, 11)) (ci := 5) C (ok_X5_findingOfCrate_2 l V _ _ hc hs h ok) gX5_rises_X5_findingOfCrate rfl mfX5_findingOfCrate rfl (by decide) (by decide) (by first | decide | omega) rfl rfl rfl rfl (Nat.le_of_ble_eq_true rfl) dX5_rises_2 (Nat.le_refl _) (Nat.le_refl _) ?_
      refine J.istore_n (ls' := [(0, _), (1, _), (2, _)]) C dX5_rises_5 (by decide) rfl ?_
      refine J.iload_n C dX5_rises_6 rfl ?_
      refine J.if_ge_z C dX5_rises_7 (tgt := 16) (by decide) (fun c7 => absurd c7 (by first | omega | decide | simp_all)) (fun _ => ?_)
      refine J.aload_n C dX5_rises_10 rfl ?_
      refine J.iload_n C dX5_rises_11 rfl ?_
      refine J.cVDi (q := (RX5, TX5, 11)) (ci := 5) C (ok_X5_finding l V _ _ _) gX5_rises_X5_finding rfl mfX5_finding rfl (by decide) (by decide) (by first | decide | omega) rfl rfl rfl rfl (Nat.le_of_ble_eq_true rfl) dX5_rises_12 (Nat.le_refl _) (Nat.le_refl _) ?_
      exact J.iret C dX5_rises_15 (qC_s (qC_F h))
    · unfold op_rises
      rw [tb_1 hi, tb_0 (show ¬ (g.2.2.2.1 ((some c).getD 0)).1 = 0 from hs)]
      refine Ok.of (cc := cX5_rises) (maxL := 5) (ret := (some .int)) (by decide) rfl (Nat.le_of_ble_eq_true rfl) (fun X hnm C => ?_)
      have C : CX l X V RX5 cX5_rises 5 wsX5_rises 3 0 0 (some .int) := C
      refine J.cast (ls' := [(0, _), (1, _)]) rfl rfl rfl rfl ?_
      refine J.aload_n C dX5_rises_0 rfl ?_
      refine J.iload_n C dX5_rises_1 rfl ?_
      refine J.cVDi (q := (RX5, TX5, 11)) (ci := 5) C (ok_X5_findingOfCrate_0 l V _ _ hc hs h ok) gX5_rises_X5_findingOfCrate rfl mfX5_findingOfCrate rfl (by decide) (by decide) (by first | decide | omega) rfl rfl rfl rfl (Nat.le_of_ble_eq_true rfl) dX5_rises_2 (Nat.le_refl _) (Nat.le_refl _) ?_
      refine J.istore_n (ls' := [(0, _), (1, _), (2, _)]) C dX5_rises_5 (by decide) rfl ?_
      refine J.iload_n C dX5_rises_6 rfl ?_
      refine J.if_ge_z C dX5_rises_7 (tgt := 16) (by decide) (fun _ => ?_) (fun c7 => absurd c7 (by first | omega | decide | simp_all))
      refine J.aload_n C dX5_rises_16 rfl ?_
      refine J.getR C flX5_rises_29 (by first | decide | omega) rfl (by exact rfl) dX5_rises_17 ?_
      refine J.iload_n C dX5_rises_20 rfl ?_
      refine J.aa C (by first | exact Or.inl rfl | exact Or.inr rfl) (by first | exact rfl | exact rfl) (by first | (have h_ln := ln_all; have h_l2 := ln_all2; omega) | omega) dX5_rises_21 ?_
      rw [show rid 56 c = 73 + 2 * c from rfl]
      refine J.astore_n (ls' := [(0, _), (1, _), (2, _), (3, _)]) C dX5_rises_22 (by decide) rfl ?_
      refine J.iconst C dX5_rises_23 (v := (nI 0)) (by decide) ?_
      refine J.istore (ls' := [(0, _), (1, _), (2, _), (3, _), (4, _)]) C dX5_rises_24 (by decide) rfl ?_
      refine lp_X5_rises C (x := g.2.2.2.1 c) hc hc0 hc1 ok0 ok1 (fun i q => by rw [show 73 + 2 * c + 1 = 74 + 2 * c by omega]; exact hc2 i q) ok2 ?_ 12 0 (by omega) (by omega) (fun j hj => by omega)
      exact qC_s ⟨rfl, h, frC_rfl, frCL_rfl⟩
  · have e : op_rises g o1 = (-1, gF g) := by
      unfold op_rises
      rw [tb_0 hi]
      rfl
    rw [e]
    refine Ok.of (cc := cX5_rises) (maxL := 5) (ret := (some .int)) (by decide) rfl (Nat.le_of_ble_eq_true rfl) (fun X hnm C => ?_)
    have C : CX l X V RX5 cX5_rises 5 wsX5_rises 3 0 0 (some .int) := C
    refine J.cast (ls' := [(0, _), (1, _)]) rfl rfl rfl rfl ?_
    refine J.aload_n C dX5_rises_0 rfl ?_
    refine J.iload_n C dX5_rises_1 rfl ?_
    refine J.cVDi (q := (RX5, TX5, 11)) (ci := 5) C (ok_X5_findingOfCrate_1 l V _ _ hx1 hi) gX5_rises_X5_findingOfCrate rfl mfX5_findingOfCrate rfl (by decide) (by decide) (by first | decide | omega) rfl rfl rfl rfl (Nat.le_of_ble_eq_true rfl) dX5_rises_2 (Nat.le_refl _) (Nat.le_refl _) ?_
    refine J.istore_n (ls' := [(0, _), (1, _), (2, _)]) C dX5_rises_5 (by decide) rfl ?_
    refine J.iload_n C dX5_rises_6 rfl ?_
    refine J.if_ge_z C dX5_rises_7 (tgt := 16) (by decide) (fun c7 => absurd c7 (by first | omega | decide | simp_all)) (fun _ => ?_)
    refine J.aload_n C dX5_rises_10 rfl ?_
    refine J.iload_n C dX5_rises_11 rfl ?_
    refine J.cVDi (q := (RX5, TX5, 11)) (ci := 5) C (ok_X5_finding l V _ _ _) gX5_rises_X5_finding rfl mfX5_finding rfl (by decide) (by decide) (by first | decide | omega) rfl rfl rfl rfl (Nat.le_of_ble_eq_true rfl) dX5_rises_12 (Nat.le_refl _) (Nat.le_refl _) ?_
    exact J.iret C dX5_rises_15 (qC_s (qC_F h))
set_option maxHeartbeats 4000000 in
set_option maxRecDepth 100000 in
theorem ok_X5_order (l : Launch) (V : Vx) {g : Sg} {x1 : Int32} {o1 : Option Nat}{x2 : Int32} {o2 : Option Nat}{x3 : Int32} {o3 : Option Nat} (I : Nat → Nat → Int32) (L : Nat → Nat → Int64) (hx1 : AG x1 o1) (hx2 : AG x2 o2) (hx3 : AG x3 o3) (hz : V.2.2.2.2.2 = false) (h : AbC I L g) (ok : okG g) : PC l V yX5_order wsX5_order 4 [.ref (ad V 0), .int x1, .int x2, .int x3] I L (op_order g o1 o2 o3) := by
  rcases lkO_c g o1 o2 with ⟨hl, c, i, rfl, rfl, hc, hk0, hi⟩ | hl
  · unfold op_order
    rw [tb_1 hl]
    rcases lkO_c g (some c) o3 with ⟨hl2, c', j, hcc, rfl, -, -, hj⟩ | hl2
    · obtain ⟨-, rfl⟩ := id hx1
      obtain ⟨-, rfl⟩ := id hx2
      obtain ⟨-, rfl⟩ := id hx3
      cases hcc
      have hC := h.2.2.2.1 c hc
      have hok := ok.2.2.2.2.1 c hc
      obtain ⟨hc0, hc1, hc2⟩ := hC
      obtain ⟨ok0, ok1, ok2⟩ := hok
      have hkd := (kd73 hc).1
      rw [tb_1 hl2]
      have hv : ∀ i, i < 12 → L (73 + 2 * c + 1) i = (g.2.2.2.1 c).2.2 i := fun i q => by rw [show 73 + 2 * c + 1 = 74 + 2 * c by omega]; exact hc2 i q
      have oc := ordI_c (g.2.2.2.1 c).1 ((g.2.2.2.1 c).2.2 i) ((g.2.2.2.1 c).2.2 j)
      refine Ok.of (cc := cX5_order) (maxL := 6) (ret := (some .int)) (by decide) rfl (Nat.le_of_ble_eq_true rfl) (fun X hnm C => ?_)
      have C : CX l X V RX5 cX5_order 6 wsX5_order 4 0 0 (some .int) := C
      refine J.cast (ls' := [(0, _), (1, _), (2, _), (3, _)]) rfl rfl rfl rfl ?_
      refine J.aload_n C dX5_order_0 rfl ?_
      refine J.iload_n C dX5_order_1 rfl ?_
      refine J.iload_n C dX5_order_2 rfl ?_
      refine J.cVDi (q := (RX5, TX5, 11)) (ci := 5) C (ok_X5_findingOfLoad l V _ _ hx1 hx2 h ok) gX5_order_X5_findingOfLoad rfl mfX5_findingOfLoad rfl (by decide) (by decide) (by first | decide | omega) rfl rfl rfl rfl (Nat.le_of_ble_eq_true rfl) dX5_order_3 (Nat.le_refl _) (Nat.le_refl _) ?_
      rw [hl]
      refine J.istore (ls' := [(0, _), (1, _), (2, _), (3, _), (4, _)]) C dX5_order_6 (by decide) rfl ?_
      refine J.iload C dX5_order_8 rfl ?_
      first | refine J.if_ne_b C dX5_order_10 (tgt := 21) (by decide) (fun c10 => absurd c10 (by first | omega | decide | simp_all)) (fun _ => ?_) | refine J.if_ne_n C (by omega) dX5_order_10 (tgt := 21) (by decide) (fun c10 => absurd c10 (by first | omega | decide | simp_all)) (fun _ => ?_) | refine J.if_ne C dX5_order_10 (tgt := 21) (by decide) (fun c10 => absurd c10 (by first | omega | decide | simp_all)) (fun _ => ?_)
      refine J.aload_n C dX5_order_13 rfl ?_
      refine J.iload_n C dX5_order_14 rfl ?_
      refine J.iload_n C dX5_order_15 rfl ?_
      refine J.cVDi (q := (RX5, TX5, 11)) (ci := 5) C (ok_X5_findingOfLoad l V _ _ hx1 hx3 h ok) gX5_order_X5_findingOfLoad rfl mfX5_findingOfLoad rfl (by decide) (by decide) (by first | decide | omega) rfl rfl rfl rfl (Nat.le_of_ble_eq_true rfl) dX5_order_16 (Nat.le_refl _) (Nat.le_refl _) ?_
      rw [hl2]
      refine J.istore (ls' := [(0, _), (1, _), (2, _), (3, _), (4, _)]) C dX5_order_19 (by decide) rfl ?_
      refine J.iload C dX5_order_21 rfl ?_
      refine J.if_ge_n C (by omega) dX5_order_23 (tgt := 33) (by decide) ?_
      refine J.aload_n C dX5_order_33 rfl ?_
      refine J.getR C flX5_order_29 (by first | decide | omega) rfl (by exact rfl) dX5_order_34 ?_
      refine J.iload_n C dX5_order_37 rfl ?_
      refine J.aa C (by first | exact Or.inl rfl | exact Or.inr rfl) (by first | exact rfl | exact rfl) (by first | (have h_ln := ln_all; have h_l2 := ln_all2; omega) | omega) dX5_order_38 ?_
      refine J.iload_n C dX5_order_39 rfl ?_
      refine J.iload_n C dX5_order_40 rfl ?_
      refine J.cVDi (q := (RX1, TX1, 3)) (ci := 1) C (ok_X1_compare l V (k := 73 + 2 * c) _ _ hkd hc0 ok0 (by omega) (by omega) (hv _ (by omega)) (hv _ (by omega)) (fun q => ⟨ok2 q _ (by omega), ok2 q _ (by omega)⟩)) gX5_order_X1_compare rfl mfX1_compare rfl (by decide) (by decide) (by first | decide | omega) (by first | exact rfl | exact mk_1 (by assumption)) rfl rfl rfl (Nat.le_of_ble_eq_true rfl) dX5_order_41 (Nat.le_refl _) (Nat.le_refl _) ?_
      refine J.istore (ls' := [(0, _), (1, _), (2, _), (3, _), (4, _), (5, _)]) C dX5_order_44 (by decide) rfl ?_
      refine J.iload C dX5_order_46 rfl ?_
      refine J.if_ne C dX5_order_48 (tgt := 54) (by decide) (fun c48t => ?_) (fun c48f => ?_)
      · refine J.iload C dX5_order_54 rfl ?_
        refine J.if_ge_z C dX5_order_56 (tgt := 64) (by decide) (fun c56t => ?_) (fun c56f => ?_)
        · refine J.bipush C dX5_order_64 (v := (nI 11)) (by decide) ?_
          exact J.iret C dX5_order_66 (qC_s ⟨by show nI 11 = nI 10 + ordI (g.2.2.2.1 c).1 ((g.2.2.2.1 c).2.2 i) ((g.2.2.2.1 c).2.2 j); rcases oc with q | q | q; (rw [q] at c56t; exact absurd c56t (by decide)); exact absurd q c48t; (rw [q]; decide), h, frC_rfl, frCL_rfl⟩)
        · refine J.bipush C dX5_order_59 (v := (nI 9)) (by decide) ?_
          refine J.goto C dX5_order_61 (tgt := 66) (by decide) ?_
          exact J.iret C dX5_order_66 (qC_s ⟨by show nI 9 = nI 10 + ordI (g.2.2.2.1 c).1 ((g.2.2.2.1 c).2.2 i) ((g.2.2.2.1 c).2.2 j); rcases oc with q | q | q; (rw [q]; decide); exact absurd q c48t; (rw [q] at c56f; exact absurd c56f (by decide)), h, frC_rfl, frCL_rfl⟩)
      · refine J.bipush C dX5_order_51 (v := (nI 10)) (by decide) ?_
        exact J.iret C dX5_order_53 (qC_s ⟨by show nI 10 = nI 10 + ordI (g.2.2.2.1 c).1 ((g.2.2.2.1 c).2.2 i) ((g.2.2.2.1 c).2.2 j); rw [c48f]; decide, h, frC_rfl, frCL_rfl⟩)
    · obtain ⟨h1, h2⟩ := lkO_m hl2
      rw [tb_0 h2]
      refine Ok.of (cc := cX5_order) (maxL := 6) (ret := (some .int)) (by decide) rfl (Nat.le_of_ble_eq_true rfl) (fun X hnm C => ?_)
      have C : CX l X V RX5 cX5_order 6 wsX5_order 4 0 0 (some .int) := C
      refine J.cast (ls' := [(0, _), (1, _), (2, _), (3, _)]) rfl rfl rfl rfl ?_
      refine J.aload_n C dX5_order_0 rfl ?_
      refine J.iload_n C dX5_order_1 rfl ?_
      refine J.iload_n C dX5_order_2 rfl ?_
      refine J.cVDi (q := (RX5, TX5, 11)) (ci := 5) C (ok_X5_findingOfLoad l V _ _ hx1 hx2 h ok) gX5_order_X5_findingOfLoad rfl mfX5_findingOfLoad rfl (by decide) (by decide) (by first | decide | omega) rfl rfl rfl rfl (Nat.le_of_ble_eq_true rfl) dX5_order_3 (Nat.le_refl _) (Nat.le_refl _) ?_
      rw [hl]
      refine J.istore (ls' := [(0, _), (1, _), (2, _), (3, _), (4, _)]) C dX5_order_6 (by decide) rfl ?_
      refine J.iload C dX5_order_8 rfl ?_
      first | refine J.if_ne_b C dX5_order_10 (tgt := 21) (by decide) (fun c10 => absurd c10 (by first | omega | decide | simp_all)) (fun _ => ?_) | refine J.if_ne_n C (by omega) dX5_order_10 (tgt := 21) (by decide) (fun c10 => absurd c10 (by first | omega | decide | simp_all)) (fun _ => ?_) | refine J.if_ne C dX5_order_10 (tgt := 21) (by decide) (fun c10 => absurd c10 (by first | omega | decide | simp_all)) (fun _ => ?_)
      refine J.aload_n C dX5_order_13 rfl ?_
      refine J.iload_n C dX5_order_14 rfl ?_
      refine J.iload_n C dX5_order_15 rfl ?_
      refine J.cVDi (q := (RX5, TX5, 11)) (ci := 5) C (ok_X5_findingOfLoad l V _ _ hx1 hx3 h ok) gX5_order_X5_findingOfLoad rfl mfX5_findingOfLoad rfl (by decide) (by decide) (by first | decide | omega) rfl rfl rfl rfl (Nat.le_of_ble_eq_true rfl) dX5_order_16 (Nat.le_refl _) (Nat.le_refl _) ?_
      refine J.istore (ls' := [(0, _), (1, _), (2, _), (3, _), (4, _)]) C dX5_order_19 (by decide) rfl ?_
      refine J.iload C dX5_order_21 rfl ?_
      refine J.if_ge_z C dX5_order_23 (tgt := 33) (by decide) (fun c23 => absurd c23 (by first | omega | decide | simp_all)) (fun _ => ?_)
      refine J.aload_n C dX5_order_26 rfl ?_
      refine J.iload C dX5_order_27 rfl ?_
      refine J.cVDi (q := (RX5, TX5, 11)) (ci := 5) C (ok_X5_finding l V _ _ _) gX5_order_X5_finding rfl mfX5_finding rfl (by decide) (by decide) (by first | decide | omega) rfl rfl rfl rfl (Nat.le_of_ble_eq_true rfl) dX5_order_29 (Nat.le_refl _) (Nat.le_refl _) ?_
      exact J.iret C dX5_order_32 (qC_s (qC_F h))
  · obtain ⟨h1, h2⟩ := lkO_m hl
    unfold op_order
    rw [tb_0 h2]
    refine Ok.of (cc := cX5_order) (maxL := 6) (ret := (some .int)) (by decide) rfl (Nat.le_of_ble_eq_true rfl) (fun X hnm C => ?_)
    have C : CX l X V RX5 cX5_order 6 wsX5_order 4 0 0 (some .int) := C
    refine J.cast (ls' := [(0, _), (1, _), (2, _), (3, _)]) rfl rfl rfl rfl ?_
    refine J.aload_n C dX5_order_0 rfl ?_
    refine J.iload_n C dX5_order_1 rfl ?_
    refine J.iload_n C dX5_order_2 rfl ?_
    refine J.cVDi (q := (RX5, TX5, 11)) (ci := 5) C (ok_X5_findingOfLoad l V _ _ hx1 hx2 h ok) gX5_order_X5_findingOfLoad rfl mfX5_findingOfLoad rfl (by decide) (by decide) (by first | decide | omega) rfl rfl rfl rfl (Nat.le_of_ble_eq_true rfl) dX5_order_3 (Nat.le_refl _) (Nat.le_refl _) ?_
    refine J.istore (ls' := [(0, _), (1, _), (2, _), (3, _), (4, _)]) C dX5_order_6 (by decide) rfl ?_
    refine J.iload C dX5_order_8 rfl ?_
    refine J.if_ne C dX5_order_10 (tgt := 21) (by decide) (fun _ => ?_) (fun c10 => absurd c10 h2)
    refine J.iload C dX5_order_21 rfl ?_
    refine J.if_ge_z C dX5_order_23 (tgt := 33) (by decide) (fun c23 => absurd c23 (by first | omega | decide | simp_all)) (fun _ => ?_)
    refine J.aload_n C dX5_order_26 rfl ?_
    refine J.iload C dX5_order_27 rfl ?_
    refine J.cVDi (q := (RX5, TX5, 11)) (ci := 5) C (ok_X5_finding l V _ _ _) gX5_order_X5_finding rfl mfX5_finding rfl (by decide) (by decide) (by first | decide | omega) rfl rfl rfl rfl (Nat.le_of_ble_eq_true rfl) dX5_order_29 (Nat.le_refl _) (Nat.le_refl _) ?_
    exact J.iret C dX5_order_32 (qC_s (qC_F h))
