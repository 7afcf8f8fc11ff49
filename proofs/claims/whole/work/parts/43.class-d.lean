/-! THE CLASS: slots, the values told, undo, mirror -/
theorem AbC_slot {I I' : Nat → Nat → Int32} {L : Nat → Nat → Int64} {g : Sg} {k : Nat} {t : Nt} (h : AbC I L g) (hk : k < 4) (hn : netC I' (65 + 2 * k) t) (ek : ∀ q, q ≠ 65 + 2 * k → q ≠ 66 + 2 * k → q < 85 → I' q = I q) : AbC I' L (g.1, g.2.1, va_up g.2.2.1 k (some t), g.2.2.2) := by
  obtain ⟨h1, ⟨f, h2a, h2b, h2c, h2d, h2e⟩, h3, h4, h5, h6, h7⟩ := h
  refine ⟨netC_of h1 (ek 1 (by omega) (by omega) (by omega)) (ek 2 (by omega) (by omega) (by omega)), ⟨f, h2a, by rw [ek 4 (by omega) (by omega) (by omega)]; exact h2b, by rw [ek 4 (by omega) (by omega) (by omega)]; exact h2c, h2d, fun j t' hj => netC_of (h2e j t' hj) (ek _ (by omega) (by omega) (by omega)) (ek _ (by omega) (by omega) (by omega))⟩, fun j hj => ?_, fun j hj => ?_, ?_, ?_, ?_⟩
  · show match va_up g.2.2.1 k (some t) j with | some t => _ | none => _
    by_cases e : j = k
    · subst e
      rw [va_up_self]
      exact hn
    · rw [va_up_ne _ _ e]
      have w := h3 j hj
      cases hs : g.2.2.1 j with
      | none => rw [hs] at w; show I' _ 0 = _; rw [ek _ (by omega) (by omega) (by omega)]; exact w
      | some t' => rw [hs] at w; exact netC_of w (ek _ (by omega) (by omega) (by omega)) (ek _ (by omega) (by omega) (by omega))
  · have w := h4 j hj
    rw [ek _ (by omega) (by omega) (by omega)]
    exact w
  · rw [ek 0 (by omega) (by omega) (by omega), ek 64 (by omega) (by omega) (by omega)]; exact h5
  · rw [ek 0 (by omega) (by omega) (by omega)]; exact h6
  · rw [ek 61 (by omega) (by omega) (by omega), ek 62 (by omega) (by omega) (by omega)]; exact h7
theorem sC_some {I : Nat → Nat → Int32} {L : Nat → Nat → Int64} {g : Sg} {k : Nat} {t : Nt} (h : AbC I L g) (hk : k < 4) (hs : g.2.2.1 k = some t) : netC I (65 + 2 * k) t := by
  have w := h.2.2.1 k hk
  rw [hs] at w
  exact w
theorem sC_none {I : Nat → Nat → Int32} {L : Nat → Nat → Int64} {g : Sg} {k : Nat} (h : AbC I L g) (hk : k < 4) (hs : g.2.2.1 k = none) : I (65 + 2 * k) 0 = nI 0 := by
  have w := h.2.2.1 k hk
  rw [hs] at w
  exact w
theorem tb4 {x : Int32} (a : ¬ x = nI 0) (b : ¬ x = nI 1) (c : ¬ x = nI 2) (d : ¬ x = nI 3) : x.toInt < 0 ∨ 3 < x.toInt := by
  have q : ∀ n : Nat, n < 4 → ¬ x = nI n → x.toInt ≠ (n : Int) := fun n hn e z => e (Int32.toInt_inj.mp (by rw [z]; exact (nI_ti (by omega)).symm))
  have := q 0 (by decide) a
  have := q 1 (by decide) b
  have := q 2 (by decide) c
  have := q 3 (by decide) d
  omega
theorem tb5 (x : Int32) : x = nI 0 ∨ (¬ x = nI 0 ∧ x = nI 1) ∨ (¬ x = nI 0 ∧ ¬ x = nI 1 ∧ x = nI 2) ∨ (¬ x = nI 0 ∧ ¬ x = nI 1 ∧ ¬ x = nI 2 ∧ x = nI 3) ∨ (¬ x = nI 0 ∧ ¬ x = nI 1 ∧ ¬ x = nI 2 ∧ ¬ x = nI 3) := by
  by_cases a : x = nI 0
  · exact Or.inl a
  · by_cases b : x = nI 1
    · exact Or.inr (Or.inl ⟨a, b⟩)
    · by_cases c : x = nI 2
      · exact Or.inr (Or.inr (Or.inl ⟨a, b, c⟩))
      · by_cases d : x = nI 3
        · exact Or.inr (Or.inr (Or.inr (Or.inl ⟨a, b, c, d⟩)))
        · exact Or.inr (Or.inr (Or.inr (Or.inr ⟨a, b, c, d⟩)))
set_option maxHeartbeats 4000000 in
set_option maxRecDepth 100000 in
theorem ok_X5_findingOfSlot_1 (l : Launch) (V : Vx) {x1 : Int32} {o1 : Option Nat} (I : Nat → Nat → Int32) (L : Nat → Nat → Int64) (hx1 : AG x1 o1) (ho : ¬ inO o1 4) : Di l V yX5_findingOfSlot wsX5_findingOfSlot 2 [.ref (ad V 0), .int x1] I L (-1) I L := by
  refine Ok.of (cc := cX5_findingOfSlot) (maxL := 2) (ret := (some .int)) (by decide) rfl (Nat.le_of_ble_eq_true rfl) (fun X hnm C => ?_)
  have C : CX l X V RX5 cX5_findingOfSlot 2 wsX5_findingOfSlot 2 0 0 (some .int) := C
  refine J.cast (ls' := [(0, _), (1, _)]) rfl rfl rfl rfl ?_
  refine J.iload_n C dX5_findingOfSlot_0 rfl ?_
  refine J.cSDi C (ok_X5_isSlot l V _ _ hx1) gX5_findingOfSlot_X5_isSlot rfl mfX5_isSlot (by decide) (by decide) rfl rfl (Nat.le_of_ble_eq_true rfl) dX5_findingOfSlot_1 (Nat.le_refl _) (Nat.le_refl _) ?_
  first | refine J.if_ne_b C dX5_findingOfSlot_4 (tgt := 9) (by decide) (fun c4 => absurd c4 (by rw [tb_0 ho]; decide)) (fun _ => ?_) | refine J.if_ne_n C (by omega) dX5_findingOfSlot_4 (tgt := 9) (by decide) (fun c4 => absurd c4 (by rw [tb_0 ho]; decide)) (fun _ => ?_) | refine J.if_ne C dX5_findingOfSlot_4 (tgt := 9) (by decide) (fun c4 => absurd c4 (by rw [tb_0 ho]; decide)) (fun _ => ?_)
  refine J.iconst C dX5_findingOfSlot_7 (v := (-1)) (by decide) ?_
  exact J.iret C dX5_findingOfSlot_8 ⟨rfl, rfl⟩
set_option maxHeartbeats 4000000 in
set_option maxRecDepth 100000 in
theorem ok_X5_findingOfSlot_6 (l : Launch) (V : Vx) {g : Sg} {k : Nat} {t : Nt} (I : Nat → Nat → Int32) (L : Nat → Nat → Int64) (hk : k < 4) (hs : g.2.2.1 k = none) (h : AbC I L g) (ok : okG g) : Di l V yX5_findingOfSlot wsX5_findingOfSlot 2 [.ref (ad V 0), .int (nI k)] I L (-6) I L := by
  have hkd := kd65 hk
  refine Ok.of (cc := cX5_findingOfSlot) (maxL := 2) (ret := (some .int)) (by decide) rfl (Nat.le_of_ble_eq_true rfl) (fun X hnm C => ?_)
  have C : CX l X V RX5 cX5_findingOfSlot 2 wsX5_findingOfSlot 2 0 0 (some .int) := C
  refine J.cast (ls' := [(0, _), (1, _)]) rfl rfl rfl rfl ?_
  refine J.iload_n C dX5_findingOfSlot_0 rfl ?_
  refine J.cSDi C (ok_X5_isSlot l V _ _ (o := some k) ⟨by omega, rfl⟩) gX5_findingOfSlot_X5_isSlot rfl mfX5_isSlot (by decide) (by decide) rfl rfl (Nat.le_of_ble_eq_true rfl) dX5_findingOfSlot_1 (Nat.le_refl _) (Nat.le_refl _) ?_
  first | refine J.if_ne_b C dX5_findingOfSlot_4 (tgt := 9) (by decide) (fun _ => ?_) (fun c4 => absurd c4 (by rw [tb_1 (inO_s.mpr hk)]; decide)) | refine J.if_ne_n C (by omega) dX5_findingOfSlot_4 (tgt := 9) (by decide) (fun _ => ?_) (fun c4 => absurd c4 (by rw [tb_1 (inO_s.mpr hk)]; decide)) | refine J.if_ne C dX5_findingOfSlot_4 (tgt := 9) (by decide) (fun _ => ?_) (fun c4 => absurd c4 (by rw [tb_1 (inO_s.mpr hk)]; decide))
  refine J.aload_n C dX5_findingOfSlot_9 rfl ?_
  refine J.getR C flX5_findingOfSlot_16 (by first | decide | omega) rfl (by exact rfl) dX5_findingOfSlot_10 ?_
  refine J.iload_n C dX5_findingOfSlot_13 rfl ?_
  refine J.aa C (by first | exact Or.inl rfl | exact Or.inr rfl) (by first | exact rfl | exact rfl) (by first | (have h_ln := ln_all; have h_l2 := ln_all2; omega) | omega) dX5_findingOfSlot_14 ?_
  refine J.cVDi (q := (RX3, TX3, 3)) (ci := 3) C (ok_X3_isNone l V (k := 65 + 2 * k) (n := 0) _ _ (kd65 hk) (sC_none h hk hs) (by decide)) gX5_findingOfSlot_X3_isNone rfl mfX3_isNone rfl (by decide) (by decide) (by first | decide | omega) (by first | exact rfl | exact mk_3 (by assumption)) rfl rfl rfl (Nat.le_of_ble_eq_true rfl) dX5_findingOfSlot_15 (Nat.le_refl _) (Nat.le_refl _) ?_
  first | refine J.if_eq_b C dX5_findingOfSlot_18 (tgt := 26) (by decide) (fun c18 => absurd c18 (by rw [tb_1 rfl]; decide)) (fun _ => ?_) | refine J.if_eq_n C (by omega) dX5_findingOfSlot_18 (tgt := 26) (by decide) (fun c18 => absurd c18 (by rw [tb_1 rfl]; decide)) (fun _ => ?_) | refine J.if_eq C dX5_findingOfSlot_18 (tgt := 26) (by decide) (fun c18 => absurd c18 (by rw [tb_1 rfl]; decide)) (fun _ => ?_)
  refine J.bipush C dX5_findingOfSlot_21 (v := (-6)) (by decide) ?_
  refine J.goto C dX5_findingOfSlot_23 (tgt := 27) (by decide) ?_
  exact J.iret C dX5_findingOfSlot_27 ⟨rfl, rfl⟩
set_option maxHeartbeats 4000000 in
set_option maxRecDepth 100000 in
theorem ok_X5_findingOfSlot_0 (l : Launch) (V : Vx) {g : Sg} {k : Nat} {t : Nt} (I : Nat → Nat → Int32) (L : Nat → Nat → Int64) (hk : k < 4) (hs : g.2.2.1 k = some t) (h : AbC I L g) (ok : okG g) : Di l V yX5_findingOfSlot wsX5_findingOfSlot 2 [.ref (ad V 0), .int (nI k)] I L (nI 0) I L := by
  have hkd := kd65 hk
  refine Ok.of (cc := cX5_findingOfSlot) (maxL := 2) (ret := (some .int)) (by decide) rfl (Nat.le_of_ble_eq_true rfl) (fun X hnm C => ?_)
  have C : CX l X V RX5 cX5_findingOfSlot 2 wsX5_findingOfSlot 2 0 0 (some .int) := C
  refine J.cast (ls' := [(0, _), (1, _)]) rfl rfl rfl rfl ?_
  refine J.iload_n C dX5_findingOfSlot_0 rfl ?_
  refine J.cSDi C (ok_X5_isSlot l V _ _ (o := some k) ⟨by omega, rfl⟩) gX5_findingOfSlot_X5_isSlot rfl mfX5_isSlot (by decide) (by decide) rfl rfl (Nat.le_of_ble_eq_true rfl) dX5_findingOfSlot_1 (Nat.le_refl _) (Nat.le_refl _) ?_
  first | refine J.if_ne_b C dX5_findingOfSlot_4 (tgt := 9) (by decide) (fun _ => ?_) (fun c4 => absurd c4 (by rw [tb_1 (inO_s.mpr hk)]; decide)) | refine J.if_ne_n C (by omega) dX5_findingOfSlot_4 (tgt := 9) (by decide) (fun _ => ?_) (fun c4 => absurd c4 (by rw [tb_1 (inO_s.mpr hk)]; decide)) | refine J.if_ne C dX5_findingOfSlot_4 (tgt := 9) (by decide) (fun _ => ?_) (fun c4 => absurd c4 (by rw [tb_1 (inO_s.mpr hk)]; decide))
  refine J.aload_n C dX5_findingOfSlot_9 rfl ?_
  refine J.getR C flX5_findingOfSlot_16 (by first | decide | omega) rfl (by exact rfl) dX5_findingOfSlot_10 ?_
  refine J.iload_n C dX5_findingOfSlot_13 rfl ?_
  refine J.aa C (by first | exact Or.inl rfl | exact Or.inr rfl) (by first | exact rfl | exact rfl) (by first | (have h_ln := ln_all; have h_l2 := ln_all2; omega) | omega) dX5_findingOfSlot_14 ?_
  refine J.cVDi (q := (RX3, TX3, 3)) (ci := 3) C (ok_X3_isNone l V (k := 65 + 2 * k) (n := t.1) _ _ (kd65 hk) (sC_some h hk hs).1 (by have := (ok.2.2.2.1 k t hk hs).2.1; omega)) gX5_findingOfSlot_X3_isNone rfl mfX3_isNone rfl (by decide) (by decide) (by first | decide | omega) (by first | exact rfl | exact mk_3 (by assumption)) rfl rfl rfl (Nat.le_of_ble_eq_true rfl) dX5_findingOfSlot_15 (Nat.le_refl _) (Nat.le_refl _) ?_
  first | refine J.if_eq_b C dX5_findingOfSlot_18 (tgt := 26) (by decide) (fun _ => ?_) (fun c18 => absurd c18 (by rw [tb_0 (by have := (ok.2.2.2.1 k t hk hs).1; omega)]; decide)) | refine J.if_eq_n C (by omega) dX5_findingOfSlot_18 (tgt := 26) (by decide) (fun _ => ?_) (fun c18 => absurd c18 (by rw [tb_0 (by have := (ok.2.2.2.1 k t hk hs).1; omega)]; decide)) | refine J.if_eq C dX5_findingOfSlot_18 (tgt := 26) (by decide) (fun _ => ?_) (fun c18 => absurd c18 (by rw [tb_0 (by have := (ok.2.2.2.1 k t hk hs).1; omega)]; decide))
  refine J.iconst C dX5_findingOfSlot_26 (v := (nI 0)) (by decide) ?_
  exact J.iret C dX5_findingOfSlot_27 ⟨rfl, rfl⟩
set_option maxHeartbeats 4000000 in
set_option maxRecDepth 100000 in
theorem ok_X5_findingOfFit_1 (l : Launch) (V : Vx) {x1 : Int32} {o1 : Option Nat} (I : Nat → Nat → Int32) (L : Nat → Nat → Int64) (hx1 : AG x1 o1) (ho : ¬ inO o1 4) : Di l V yX5_findingOfFit wsX5_findingOfFit 3 [.ref (ad V 0), .int x1] I L (-1) I L := by
  refine Ok.of (cc := cX5_findingOfFit) (maxL := 3) (ret := (some .int)) (by decide) rfl (Nat.le_of_ble_eq_true rfl) (fun X hnm C => ?_)
  have C : CX l X V RX5 cX5_findingOfFit 3 wsX5_findingOfFit 3 0 0 (some .int) := C
  refine J.cast (ls' := [(0, _), (1, _)]) rfl rfl rfl rfl ?_
  refine J.aload_n C dX5_findingOfFit_0 rfl ?_
  refine J.iload_n C dX5_findingOfFit_1 rfl ?_
  refine J.cVDi (q := (RX5, TX5, 11)) (ci := 5) C (ok_X5_findingOfSlot_1 l V _ _ hx1 ho) gX5_findingOfFit_X5_findingOfSlot rfl mfX5_findingOfSlot rfl (by decide) (by decide) (by first | decide | omega) rfl rfl rfl rfl (Nat.le_of_ble_eq_true rfl) dX5_findingOfFit_2 (Nat.le_refl _) (Nat.le_refl _) ?_
  refine J.istore_n (ls' := [(0, _), (1, _), (2, _)]) C dX5_findingOfFit_5 (by decide) rfl ?_
  refine J.iload_n C dX5_findingOfFit_6 rfl ?_
  refine J.if_ge_z C dX5_findingOfFit_7 (tgt := 12) (by decide) (fun c7 => absurd c7 (by first | omega | decide | simp_all)) (fun _ => ?_)
  refine J.iload_n C dX5_findingOfFit_10 rfl ?_
  exact J.iret C dX5_findingOfFit_11 ⟨rfl, rfl⟩
set_option maxHeartbeats 4000000 in
set_option maxRecDepth 100000 in
theorem ok_X5_findingOfFit_6 (l : Launch) (V : Vx) {g : Sg} {k : Nat} (I : Nat → Nat → Int32) (L : Nat → Nat → Int64) (hk : k < 4) (hs : g.2.2.1 k = none) (h : AbC I L g) (ok : okG g) : Di l V yX5_findingOfFit wsX5_findingOfFit 3 [.ref (ad V 0), .int (nI k)] I L (-6) I L := by
  refine Ok.of (cc := cX5_findingOfFit) (maxL := 3) (ret := (some .int)) (by decide) rfl (Nat.le_of_ble_eq_true rfl) (fun X hnm C => ?_)
  have C : CX l X V RX5 cX5_findingOfFit 3 wsX5_findingOfFit 3 0 0 (some .int) := C
  refine J.cast (ls' := [(0, _), (1, _)]) rfl rfl rfl rfl ?_
  refine J.aload_n C dX5_findingOfFit_0 rfl ?_
  refine J.iload_n C dX5_findingOfFit_1 rfl ?_
  refine J.cVDi (q := (RX5, TX5, 11)) (ci := 5) C (ok_X5_findingOfSlot_6 (t := g.1) l V _ _ hk hs h ok) gX5_findingOfFit_X5_findingOfSlot rfl mfX5_findingOfSlot rfl (by decide) (by decide) (by first | decide | omega) rfl rfl rfl rfl (Nat.le_of_ble_eq_true rfl) dX5_findingOfFit_2 (Nat.le_refl _) (Nat.le_refl _) ?_
  refine J.istore_n (ls' := [(0, _), (1, _), (2, _)]) C dX5_findingOfFit_5 (by decide) rfl ?_
  refine J.iload_n C dX5_findingOfFit_6 rfl ?_
  refine J.if_ge_z C dX5_findingOfFit_7 (tgt := 12) (by decide) (fun c7 => absurd c7 (by first | omega | decide | simp_all)) (fun _ => ?_)
  refine J.iload_n C dX5_findingOfFit_10 rfl ?_
  exact J.iret C dX5_findingOfFit_11 ⟨rfl, rfl⟩
set_option maxHeartbeats 4000000 in
set_option maxRecDepth 100000 in
theorem ok_X5_findingOfFit_3 (l : Launch) (V : Vx) {g : Sg} {k : Nat} {t : Nt} (I : Nat → Nat → Int32) (L : Nat → Nat → Int64) (hk : k < 4) (hs : g.2.2.1 k = some t) (ht : ¬ t.1 = g.1.1) (h : AbC I L g) (ok : okG g) : Di l V yX5_findingOfFit wsX5_findingOfFit 3 [.ref (ad V 0), .int (nI k)] I L (-3) I L := by
  have hT := (sC_some h hk hs).1
  have h0 := h.1.1
  have h8 := ok.1.2.1
  have ht8 := (ok.2.2.2.1 k t hk hs).2.1
  have hkd := kd65 hk
  refine Ok.of (cc := cX5_findingOfFit) (maxL := 3) (ret := (some .int)) (by decide) rfl (Nat.le_of_ble_eq_true rfl) (fun X hnm C => ?_)
  have C : CX l X V RX5 cX5_findingOfFit 3 wsX5_findingOfFit 3 0 0 (some .int) := C
  refine J.cast (ls' := [(0, _), (1, _)]) rfl rfl rfl rfl ?_
  refine J.aload_n C dX5_findingOfFit_0 rfl ?_
  refine J.iload_n C dX5_findingOfFit_1 rfl ?_
  refine J.cVDi (q := (RX5, TX5, 11)) (ci := 5) C (ok_X5_findingOfSlot_0 l V _ _ hk hs h ok) gX5_findingOfFit_X5_findingOfSlot rfl mfX5_findingOfSlot rfl (by decide) (by decide) (by first | decide | omega) rfl rfl rfl rfl (Nat.le_of_ble_eq_true rfl) dX5_findingOfFit_2 (Nat.le_refl _) (Nat.le_refl _) ?_
  refine J.istore_n (ls' := [(0, _), (1, _), (2, _)]) C dX5_findingOfFit_5 (by decide) rfl ?_
  refine J.iload_n C dX5_findingOfFit_6 rfl ?_
  refine J.if_ge_z C dX5_findingOfFit_7 (tgt := 12) (by decide) (fun _ => ?_) (fun c7 => absurd c7 (by first | omega | decide | simp_all))
  refine J.aload_n C dX5_findingOfFit_12 rfl ?_
  refine J.getR C flX5_findingOfFit_16 (by first | decide | omega) rfl (by exact rfl) dX5_findingOfFit_13 ?_
  refine J.iload_n C dX5_findingOfFit_16 rfl ?_
  refine J.aa C (by first | exact Or.inl rfl | exact Or.inr rfl) (by first | exact rfl | exact rfl) (by first | (have h_ln := ln_all; have h_l2 := ln_all2; omega) | omega) dX5_findingOfFit_17 ?_
  rw [show rid 3 k = 65 + 2 * k from rfl]
  refine J.getI C flX5_findingOfFit_160 (by first | decide | omega) (by first | exact rfl | exact mk_3 (by assumption)) (by exact rfl) (by first | ((repeat (first | rewrite [up2_n _ _ _ (by first | decide | omega)] | rewrite [up2_m _ _ _ (by decide)] | rewrite [up3_n _ _ _ (by first | decide | omega)])) <;> (first | exact up2_s _ _ _ _ | exact up3_s _ _ _ _ | assumption | exact rfl))) dX5_findingOfFit_18 ?_
  refine J.aload_n C dX5_findingOfFit_21 rfl ?_
  refine J.getR C flX5_findingOfFit_10 (by first | decide | omega) rfl (by exact rfl) dX5_findingOfFit_22 ?_
  refine J.getI C flX5_findingOfFit_160 (by first | decide | omega) (by first | exact rfl | exact mk_3 (by assumption)) (by exact rfl) (by first | ((repeat (first | rewrite [up2_n _ _ _ (by first | decide | omega)] | rewrite [up2_m _ _ _ (by decide)] | rewrite [up3_n _ _ _ (by first | decide | omega)])) <;> (first | exact up2_s _ _ _ _ | exact up3_s _ _ _ _ | assumption | exact rfl))) dX5_findingOfFit_25 ?_
  first | refine J.icmp_eq_n C (by omega) (by omega) dX5_findingOfFit_28 (tgt := 36) (by decide) (fun c28 => absurd c28 (by first | omega | decide | simp_all)) (fun _ => ?_) | refine J.icmp_eq_xn C (by omega) dX5_findingOfFit_28 (tgt := 36) (by decide) (fun c28 => absurd c28 (by first | omega | decide | simp_all)) (fun _ => ?_) | refine J.icmp_eq_nx C (by omega) dX5_findingOfFit_28 (tgt := 36) (by decide) (fun c28 => absurd c28 (by first | omega | decide | simp_all)) (fun _ => ?_) | refine J.icmp_eq C dX5_findingOfFit_28 (tgt := 36) (by decide) (fun c28 => absurd c28 (by first | omega | decide | simp_all)) (fun _ => ?_)
  refine J.bipush C dX5_findingOfFit_31 (v := (-3)) (by decide) ?_
  refine J.goto C dX5_findingOfFit_33 (tgt := 37) (by decide) ?_
  exact J.iret C dX5_findingOfFit_37 ⟨rfl, rfl⟩
set_option maxHeartbeats 4000000 in
set_option maxRecDepth 100000 in
theorem ok_X5_findingOfFit_0 (l : Launch) (V : Vx) {g : Sg} {k : Nat} {t : Nt} (I : Nat → Nat → Int32) (L : Nat → Nat → Int64) (hk : k < 4) (hs : g.2.2.1 k = some t) (ht : t.1 = g.1.1) (h : AbC I L g) (ok : okG g) : Di l V yX5_findingOfFit wsX5_findingOfFit 3 [.ref (ad V 0), .int (nI k)] I L (nI 0) I L := by
  have hT := (sC_some h hk hs).1
  have h0 := h.1.1
  have h8 := ok.1.2.1
  have ht8 := (ok.2.2.2.1 k t hk hs).2.1
  have hkd := kd65 hk
  refine Ok.of (cc := cX5_findingOfFit) (maxL := 3) (ret := (some .int)) (by decide) rfl (Nat.le_of_ble_eq_true rfl) (fun X hnm C => ?_)
  have C : CX l X V RX5 cX5_findingOfFit 3 wsX5_findingOfFit 3 0 0 (some .int) := C
  refine J.cast (ls' := [(0, _), (1, _)]) rfl rfl rfl rfl ?_
  refine J.aload_n C dX5_findingOfFit_0 rfl ?_
  refine J.iload_n C dX5_findingOfFit_1 rfl ?_
  refine J.cVDi (q := (RX5, TX5, 11)) (ci := 5) C (ok_X5_findingOfSlot_0 l V _ _ hk hs h ok) gX5_findingOfFit_X5_findingOfSlot rfl mfX5_findingOfSlot rfl (by decide) (by decide) (by first | decide | omega) rfl rfl rfl rfl (Nat.le_of_ble_eq_true rfl) dX5_findingOfFit_2 (Nat.le_refl _) (Nat.le_refl _) ?_
  refine J.istore_n (ls' := [(0, _), (1, _), (2, _)]) C dX5_findingOfFit_5 (by decide) rfl ?_
  refine J.iload_n C dX5_findingOfFit_6 rfl ?_
  refine J.if_ge_z C dX5_findingOfFit_7 (tgt := 12) (by decide) (fun _ => ?_) (fun c7 => absurd c7 (by first | omega | decide | simp_all))
  refine J.aload_n C dX5_findingOfFit_12 rfl ?_
  refine J.getR C flX5_findingOfFit_16 (by first | decide | omega) rfl (by exact rfl) dX5_findingOfFit_13 ?_
  refine J.iload_n C dX5_findingOfFit_16 rfl ?_
  refine J.aa C (by first | exact Or.inl rfl | exact Or.inr rfl) (by first | exact rfl | exact rfl) (by first | (have h_ln := ln_all; have h_l2 := ln_all2; omega) | omega) dX5_findingOfFit_17 ?_
  rw [show rid 3 k = 65 + 2 * k from rfl]
  refine J.getI C flX5_findingOfFit_160 (by first | decide | omega) (by first | exact rfl | exact mk_3 (by assumption)) (by exact rfl) (by first | ((repeat (first | rewrite [up2_n _ _ _ (by first | decide | omega)] | rewrite [up2_m _ _ _ (by decide)] | rewrite [up3_n _ _ _ (by first | decide | omega)])) <;> (first | exact up2_s _ _ _ _ | exact up3_s _ _ _ _ | assumption | exact rfl))) dX5_findingOfFit_18 ?_
  refine J.aload_n C dX5_findingOfFit_21 rfl ?_
  refine J.getR C flX5_findingOfFit_10 (by first | decide | omega) rfl (by exact rfl) dX5_findingOfFit_22 ?_
  refine J.getI C flX5_findingOfFit_160 (by first | decide | omega) (by first | exact rfl | exact mk_3 (by assumption)) (by exact rfl) (by first | ((repeat (first | rewrite [up2_n _ _ _ (by first | decide | omega)] | rewrite [up2_m _ _ _ (by decide)] | rewrite [up3_n _ _ _ (by first | decide | omega)])) <;> (first | exact up2_s _ _ _ _ | exact up3_s _ _ _ _ | assumption | exact rfl))) dX5_findingOfFit_25 ?_
  first | refine J.icmp_eq_n C (by omega) (by omega) dX5_findingOfFit_28 (tgt := 36) (by decide) (fun _ => ?_) (fun c28 => absurd c28 (by first | omega | decide | simp_all)) | refine J.icmp_eq_xn C (by omega) dX5_findingOfFit_28 (tgt := 36) (by decide) (fun _ => ?_) (fun c28 => absurd c28 (by first | omega | decide | simp_all)) | refine J.icmp_eq_nx C (by omega) dX5_findingOfFit_28 (tgt := 36) (by decide) (fun _ => ?_) (fun c28 => absurd c28 (by first | omega | decide | simp_all)) | refine J.icmp_eq C dX5_findingOfFit_28 (tgt := 36) (by decide) (fun _ => ?_) (fun c28 => absurd c28 (by first | omega | decide | simp_all))
  refine J.iconst C dX5_findingOfFit_36 (v := (nI 0)) (by decide) ?_
  exact J.iret C dX5_findingOfFit_37 ⟨rfl, rfl⟩
set_option maxHeartbeats 4000000 in
set_option maxRecDepth 100000 in
theorem ok_X5_keep (l : Launch) (V : Vx) {g : Sg} {x1 : Int32} {o1 : Option Nat} (I : Nat → Nat → Int32) (L : Nat → Nat → Int64) (hx1 : AG x1 o1) (hz : V.2.2.2.2.2 = false) (h : AbC I L g) (ok : okG g) : PC l V yX5_keep wsX5_keep 2 [.ref (ad V 0), .int x1] I L (op_keep g o1) := by
  have hN := h.1
  have h0 := hN.1
  have hm := hN.2.1
  have hl2 := ok.1.1
  have hl8 := ok.1.2.1
  have h40 := ok.1.2.2.1
  refine Ok.of (cc := cX5_keep) (maxL := 2) (ret := (some .int)) (by decide) rfl (Nat.le_of_ble_eq_true rfl) (fun X hnm C => ?_)
  have C : CX l X V RX5 cX5_keep 2 wsX5_keep 2 0 0 (some .int) := C
  refine J.cast (ls' := [(0, _), (1, _)]) rfl rfl rfl rfl ?_
  refine J.iload_n C dX5_keep_0 rfl ?_
  refine J.cSDi C (ok_X5_isSlot l V _ _ hx1) gX5_keep_X5_isSlot rfl mfX5_isSlot (by decide) (by decide) rfl rfl (Nat.le_of_ble_eq_true rfl) dX5_keep_1 (Nat.le_refl _) (Nat.le_refl _) ?_
  first | refine J.if_ne_b C dX5_keep_4 (tgt := 13) (by decide) (fun c4t => ?_) (fun c4f => ?_) | refine J.if_ne_n C (by omega) dX5_keep_4 (tgt := 13) (by decide) (fun c4t => ?_) (fun c4f => ?_) | refine J.if_ne C dX5_keep_4 (tgt := 13) (by decide) (fun c4t => ?_) (fun c4f => ?_)
  · obtain ⟨k, rfl, hk⟩ := tb_t.mp c4t
    obtain ⟨-, rfl⟩ := hx1
    unfold op_keep
    rw [c4t]
    have hkd := kd65 hk
    have hmb : beC I (65 + 2 * k) 1 g.1.2.1 1 1 = nI g.1.2.1 := by rw [beC_o (by omega) (by omega)]; exact hm
    refine J.aload_n C dX5_keep_13 rfl ?_
    refine J.getR C flX5_keep_16 (by first | decide | omega) rfl (by exact rfl) dX5_keep_14 ?_
    refine J.iload_n C dX5_keep_17 rfl ?_
    refine J.aa C (by first | exact Or.inl rfl | exact Or.inr rfl) (by first | exact rfl | exact rfl) (by first | (have h_ln := ln_all; have h_l2 := ln_all2; omega) | omega) dX5_keep_18 ?_
    refine J.aload_n C dX5_keep_19 rfl ?_
    refine J.getR C flX5_keep_10 (by first | decide | omega) rfl (by exact rfl) dX5_keep_20 ?_
    refine J.cVDv (q := (RX3, TX3, 3)) (ci := 3) C (ok_X3_become l V (k := 65 + 2 * k) _ _ hz (kd65 hk) rfl (by omega) hm h40) gX5_keep_X3_become rfl mfX3_become rfl (by decide) (by decide) (by first | decide | omega) (by first | exact rfl | exact mk_3 (by assumption)) rfl rfl rfl (Nat.le_of_ble_eq_true rfl) dX5_keep_23 (Nat.le_refl _) (Nat.le_refl _) ?_
    refine J.aload_n C dX5_keep_26 rfl ?_
    refine J.getR C flX5_keep_10 (by first | decide | omega) rfl (by exact rfl) dX5_keep_27 ?_
    refine J.getI C flX5_keep_77 (by first | decide | omega) (by first | exact rfl | exact mk_3 (by assumption)) (by exact rfl) (by first | ((repeat (first | rewrite [up2_n _ _ _ (by first | decide | omega)] | rewrite [up2_m _ _ _ (by decide)] | rewrite [up3_n _ _ _ (by first | decide | omega)])) <;> (first | exact up2_s _ _ _ _ | exact up3_s _ _ _ _ | assumption | exact rfl))) dX5_keep_30 ?_
    exact J.iret C dX5_keep_33 (qC_s ⟨rfl, AbC_slot (k := k) (t := g.1) h hk (beC_net hN) (fun q a b c => beC_o a (by omega)), frC_be (by omega) frC_rfl, frCL_rfl⟩)
  · refine J.aload_n C dX5_keep_7 rfl ?_
    refine J.iconst C dX5_keep_8 (v := (-1)) (by decide) ?_
    refine J.cVDi (q := (RX5, TX5, 11)) (ci := 5) C (ok_X5_finding l V _ _ _) gX5_keep_X5_finding rfl mfX5_finding rfl (by decide) (by decide) (by first | decide | omega) rfl rfl rfl rfl (Nat.le_of_ble_eq_true rfl) dX5_keep_9 (Nat.le_refl _) (Nat.le_refl _) ?_
    exact J.iret C dX5_keep_12 (qC_s (by unfold op_keep; rw [c4f]; exact qC_F h))
set_option maxHeartbeats 4000000 in
set_option maxRecDepth 100000 in
theorem ok_X5_bring (l : Launch) (V : Vx) {g : Sg} {x1 : Int32} {o1 : Option Nat} (I : Nat → Nat → Int32) (L : Nat → Nat → Int64) (hx1 : AG x1 o1) (hz : V.2.2.2.2.2 = false) (h : AbC I L g) (ok : okG g) : PC l V yX5_bring wsX5_bring 3 [.ref (ad V 0), .int x1] I L (op_bring g o1) := by
  have hN := h.1
  have h0 := hN.1
  have hm := hN.2.1
  have hl2 := ok.1.1
  have hl8 := ok.1.2.1
  have h40 := ok.1.2.2.1
  by_cases hi : inO o1 4
  · obtain ⟨k, rfl, hk⟩ := id hi
    obtain ⟨-, rfl⟩ := hx1
    have hkd := kd65 hk
    cases hs : g.2.2.1 k with
    | none =>
      have e : op_bring g (some k) = (-6, gF g) := by
        unfold op_bring
        rw [tb_1 hi]
        show (match g.2.2.1 k with | some t => _ | none => _) = _
        rw [hs]
      rw [e]
      refine Ok.of (cc := cX5_bring) (maxL := 3) (ret := (some .int)) (by decide) rfl (Nat.le_of_ble_eq_true rfl) (fun X hnm C => ?_)
      have C : CX l X V RX5 cX5_bring 3 wsX5_bring 3 0 0 (some .int) := C
      refine J.cast (ls' := [(0, _), (1, _)]) rfl rfl rfl rfl ?_
      refine J.aload_n C dX5_bring_0 rfl ?_
      refine J.iload_n C dX5_bring_1 rfl ?_
      refine J.cVDi (q := (RX5, TX5, 11)) (ci := 5) C (ok_X5_findingOfSlot_6 (t := g.1) l V _ _ hk hs h ok) gX5_bring_X5_findingOfSlot rfl mfX5_findingOfSlot rfl (by decide) (by decide) (by first | decide | omega) rfl rfl rfl rfl (Nat.le_of_ble_eq_true rfl) dX5_bring_2 (Nat.le_refl _) (Nat.le_refl _) ?_
      refine J.istore_n (ls' := [(0, _), (1, _), (2, _)]) C dX5_bring_5 (by decide) rfl ?_
      refine J.iload_n C dX5_bring_6 rfl ?_
      refine J.if_ge_z C dX5_bring_7 (tgt := 16) (by decide) (fun c7 => absurd c7 (by first | omega | decide | simp_all)) (fun _ => ?_)
      refine J.aload_n C dX5_bring_10 rfl ?_
      refine J.iload_n C dX5_bring_11 rfl ?_
      refine J.cVDi (q := (RX5, TX5, 11)) (ci := 5) C (ok_X5_finding l V _ _ _) gX5_bring_X5_finding rfl mfX5_finding rfl (by decide) (by decide) (by first | decide | omega) rfl rfl rfl rfl (Nat.le_of_ble_eq_true rfl) dX5_bring_12 (Nat.le_refl _) (Nat.le_refl _) ?_
      exact J.iret C dX5_bring_15 (qC_s (qC_F h))
    | some t =>
      have hT := sC_some h hk hs
      have hokT := ok.2.2.2.1 k t hk hs
      have ht40 := hokT.2.2.1
      have e : op_bring g (some k) = (nI t.2.1, gN (gB g) t) := by
        unfold op_bring
        rw [tb_1 hi]
        show (match g.2.2.1 k with | some t => _ | none => _) = _
        rw [hs]
      rw [e]
      refine Ok.of (cc := cX5_bring) (maxL := 3) (ret := (some .int)) (by decide) rfl (Nat.le_of_ble_eq_true rfl) (fun X hnm C => ?_)
      have C : CX l X V RX5 cX5_bring 3 wsX5_bring 3 0 0 (some .int) := C
      refine J.cast (ls' := [(0, _), (1, _)]) rfl rfl rfl rfl ?_
      refine J.aload_n C dX5_bring_0 rfl ?_
      refine J.iload_n C dX5_bring_1 rfl ?_
      refine J.cVDi (q := (RX5, TX5, 11)) (ci := 5) C (ok_X5_findingOfSlot_0 l V _ _ hk hs h ok) gX5_bring_X5_findingOfSlot rfl mfX5_findingOfSlot rfl (by decide) (by decide) (by first | decide | omega) rfl rfl rfl rfl (Nat.le_of_ble_eq_true rfl) dX5_bring_2 (Nat.le_refl _) (Nat.le_refl _) ?_
      refine J.istore_n (ls' := [(0, _), (1, _), (2, _)]) C dX5_bring_5 (by decide) rfl ?_
      refine J.iload_n C dX5_bring_6 rfl ?_
      refine J.if_ge_z C dX5_bring_7 (tgt := 16) (by decide) (fun _ => ?_) (fun c7 => absurd c7 (by first | omega | decide | simp_all))
      refine J.aload_n C dX5_bring_16 rfl ?_
      refine J.getR C flX5_bring_23 (by first | decide | omega) rfl (by exact rfl) dX5_bring_17 ?_
      refine J.aload_n C dX5_bring_20 rfl ?_
      refine J.getR C flX5_bring_10 (by first | decide | omega) rfl (by exact rfl) dX5_bring_21 ?_
      refine J.cVGv (q := (RX2, TX2, 3)) (ci := 2) C (ok_X2_remember l V _ _ hz h ok) gX5_bring_X2_remember rfl mfX2_remember rfl (by decide) (by decide) (by first | decide | omega) rfl rfl rfl rfl (Nat.le_of_ble_eq_true rfl) dX5_bring_24 (Nat.le_refl _) (Nat.le_refl _) (fun I24 L24 h24 => ?_)
      obtain ⟨hB, hfr, hLL⟩ := h24
      subst hLL
      have hb0 : I24 1 0 = nI g.1.1 := hB.1.1
      have hb1 : I24 1 1 = nI g.1.2.1 := hB.1.2.1
      have hTB := sC_some (g := gB g) hB hk hs
      have hc1 : beC I24 1 (65 + 2 * k) t.2.1 1 1 = nI t.2.1 := (beC_net (k := 1) hTB).2.1
      refine J.aload_n C dX5_bring_27 rfl ?_
      refine J.getR C flX5_bring_10 (by first | decide | omega) rfl (by exact rfl) dX5_bring_28 ?_
      refine J.aload_n C dX5_bring_31 rfl ?_
      refine J.getR C flX5_bring_16 (by first | decide | omega) rfl (by exact rfl) dX5_bring_32 ?_
      refine J.iload_n C dX5_bring_35 rfl ?_
      refine J.aa C (by first | exact Or.inl rfl | exact Or.inr rfl) (by first | exact rfl | exact rfl) (by first | (have h_ln := ln_all; have h_l2 := ln_all2; omega) | omega) dX5_bring_36 ?_
      refine J.cVDv (q := (RX3, TX3, 3)) (ci := 3) C (ok_X3_become l V (k := 1) (o := 65 + 2 * k) _ _ hz rfl (kd65 hk) (by omega) hTB.2.1 ht40) gX5_bring_X3_become rfl mfX3_become rfl (by decide) (by decide) (by first | decide | omega) (by first | exact rfl | exact mk_3 (by assumption)) rfl rfl rfl (Nat.le_of_ble_eq_true rfl) dX5_bring_37 (Nat.le_refl _) (Nat.le_refl _) ?_
      refine J.aload_n C dX5_bring_40 rfl ?_
      refine J.getR C flX5_bring_10 (by first | decide | omega) rfl (by exact rfl) dX5_bring_41 ?_
      refine J.getI C flX5_bring_77 (by first | decide | omega) (by first | exact rfl | exact mk_3 (by assumption)) (by exact rfl) (by first | ((repeat (first | rewrite [up2_n _ _ _ (by first | decide | omega)] | rewrite [up2_m _ _ _ (by decide)] | rewrite [up3_n _ _ _ (by first | decide | omega)])) <;> (first | exact up2_s _ _ _ _ | exact up3_s _ _ _ _ | assumption | exact rfl))) dX5_bring_44 ?_
      exact J.iret C dX5_bring_47 (qC_s ⟨rfl, AbC_net hB (beC_net hTB) (fun q a b c => beC_o a b), frC_be (by omega) hfr, frCL_rfl⟩)
  · have e : op_bring g o1 = (-1, gF g) := by
      unfold op_bring
      rw [tb_0 hi]
      rfl
    rw [e]
    refine Ok.of (cc := cX5_bring) (maxL := 3) (ret := (some .int)) (by decide) rfl (Nat.le_of_ble_eq_true rfl) (fun X hnm C => ?_)
    have C : CX l X V RX5 cX5_bring 3 wsX5_bring 3 0 0 (some .int) := C
    refine J.cast (ls' := [(0, _), (1, _)]) rfl rfl rfl rfl ?_
    refine J.aload_n C dX5_bring_0 rfl ?_
    refine J.iload_n C dX5_bring_1 rfl ?_
    refine J.cVDi (q := (RX5, TX5, 11)) (ci := 5) C (ok_X5_findingOfSlot_1 l V _ _ hx1 hi) gX5_bring_X5_findingOfSlot rfl mfX5_findingOfSlot rfl (by decide) (by decide) (by first | decide | omega) rfl rfl rfl rfl (Nat.le_of_ble_eq_true rfl) dX5_bring_2 (Nat.le_refl _) (Nat.le_refl _) ?_
    refine J.istore_n (ls' := [(0, _), (1, _), (2, _)]) C dX5_bring_5 (by decide) rfl ?_
    refine J.iload_n C dX5_bring_6 rfl ?_
    refine J.if_ge_z C dX5_bring_7 (tgt := 16) (by decide) (fun c7 => absurd c7 (by first | omega | decide | simp_all)) (fun _ => ?_)
    refine J.aload_n C dX5_bring_10 rfl ?_
    refine J.iload_n C dX5_bring_11 rfl ?_
    refine J.cVDi (q := (RX5, TX5, 11)) (ci := 5) C (ok_X5_finding l V _ _ _) gX5_bring_X5_finding rfl mfX5_finding rfl (by decide) (by decide) (by first | decide | omega) rfl rfl rfl rfl (Nat.le_of_ble_eq_true rfl) dX5_bring_12 (Nat.le_refl _) (Nat.le_refl _) ?_
    exact J.iret C dX5_bring_15 (qC_s (qC_F h))
set_option maxHeartbeats 4000000 in
set_option maxRecDepth 100000 in
theorem ok_X5_follow (l : Launch) (V : Vx) {g : Sg} {x1 : Int32} {o1 : Option Nat} (I : Nat → Nat → Int32) (L : Nat → Nat → Int64) (hx1 : AG x1 o1) (hz : V.2.2.2.2.2 = false) (h : AbC I L g) (ok : okG g) : PC l V yX5_follow wsX5_follow 4 [.ref (ad V 0), .int x1] I L (op_follow g o1) := by
  have hN := h.1
  have h0 := hN.1
  have hm := hN.2.1
  have hl2 := ok.1.1
  have hl8 := ok.1.2.1
  have h40 := ok.1.2.2.1
  by_cases hi : inO o1 4
  · obtain ⟨k, rfl, hk⟩ := id hi
    obtain ⟨-, rfl⟩ := hx1
    have hkd := kd65 hk
    cases hs : g.2.2.1 k with
    | none =>
      have e : op_follow g (some k) = (-6, gF g) := by
        unfold op_follow
        rw [tb_1 hi]
        show (match g.2.2.1 k with | some t => _ | none => _) = _
        rw [hs]
      rw [e]
      refine Ok.of (cc := cX5_follow) (maxL := 4) (ret := (some .int)) (by decide) rfl (Nat.le_of_ble_eq_true rfl) (fun X hnm C => ?_)
      have C : CX l X V RX5 cX5_follow 4 wsX5_follow 4 0 0 (some .int) := C
      refine J.cast (ls' := [(0, _), (1, _)]) rfl rfl rfl rfl ?_
      refine J.aload_n C dX5_follow_0 rfl ?_
      refine J.iload_n C dX5_follow_1 rfl ?_
      refine J.cVDi (q := (RX5, TX5, 11)) (ci := 5) C (ok_X5_findingOfFit_6 l V _ _ hk hs h ok) gX5_follow_X5_findingOfFit rfl mfX5_findingOfFit rfl (by decide) (by decide) (by first | decide | omega) rfl rfl rfl rfl (Nat.le_of_ble_eq_true rfl) dX5_follow_2 (Nat.le_refl _) (Nat.le_refl _) ?_
      refine J.istore_n (ls' := [(0, _), (1, _), (2, _)]) C dX5_follow_5 (by decide) rfl ?_
      refine J.iload_n C dX5_follow_6 rfl ?_
      refine J.if_ge_z C dX5_follow_7 (tgt := 16) (by decide) (fun c7 => absurd c7 (by first | omega | decide | simp_all)) (fun _ => ?_)
      refine J.aload_n C dX5_follow_10 rfl ?_
      refine J.iload_n C dX5_follow_11 rfl ?_
      refine J.cVDi (q := (RX5, TX5, 11)) (ci := 5) C (ok_X5_finding l V _ _ _) gX5_follow_X5_finding rfl mfX5_finding rfl (by decide) (by decide) (by first | decide | omega) rfl rfl rfl rfl (Nat.le_of_ble_eq_true rfl) dX5_follow_12 (Nat.le_refl _) (Nat.le_refl _) ?_
      exact J.iret C dX5_follow_15 (qC_s (qC_F h))
    | some t =>
      have hT := sC_some h hk hs
      have hokT := ok.2.2.2.1 k t hk hs
      have ht40 := hokT.2.2.1
      have e : op_follow g (some k) = cond (tb (t.1 = g.1.1)) (cond (tb (g.1.2.1 + t.2.1 ≤ 40)) (nI (g.1.2.1 + t.2.1), gN (gB g) (g.1.1, g.1.2.1 + t.2.1, fun i => if i < g.1.2.1 then g.1.2.2 i else t.2.2 (i - g.1.2.1))) (-5, gF g)) (-3, gF g) := by
        unfold op_follow
        rw [tb_1 hi]
        show (match g.2.2.1 k with | some t => _ | none => _) = _
        rw [hs]
      rw [e]
      have hTc := hT.2.1
      by_cases ht : t.1 = g.1.1
      · rw [tb_1 ht]
        refine Ok.of (cc := cX5_follow) (maxL := 4) (ret := (some .int)) (by decide) rfl (Nat.le_of_ble_eq_true rfl) (fun X hnm C => ?_)
        have C : CX l X V RX5 cX5_follow 4 wsX5_follow 4 0 0 (some .int) := C
        refine J.cast (ls' := [(0, _), (1, _)]) rfl rfl rfl rfl ?_
        refine J.aload_n C dX5_follow_0 rfl ?_
        refine J.iload_n C dX5_follow_1 rfl ?_
        refine J.cVDi (q := (RX5, TX5, 11)) (ci := 5) C (ok_X5_findingOfFit_0 l V _ _ hk hs ht h ok) gX5_follow_X5_findingOfFit rfl mfX5_findingOfFit rfl (by decide) (by decide) (by first | decide | omega) rfl rfl rfl rfl (Nat.le_of_ble_eq_true rfl) dX5_follow_2 (Nat.le_refl _) (Nat.le_refl _) ?_
        refine J.istore_n (ls' := [(0, _), (1, _), (2, _)]) C dX5_follow_5 (by decide) rfl ?_
        refine J.iload_n C dX5_follow_6 rfl ?_
        refine J.if_ge_z C dX5_follow_7 (tgt := 16) (by decide) (fun _ => ?_) (fun c7 => absurd c7 (by first | omega | decide | simp_all))
        refine J.aload_n C dX5_follow_16 rfl ?_
        refine J.getR C flX5_follow_16 (by first | decide | omega) rfl (by exact rfl) dX5_follow_17 ?_
        refine J.iload_n C dX5_follow_20 rfl ?_
        refine J.aa C (by first | exact Or.inl rfl | exact Or.inr rfl) (by first | exact rfl | exact rfl) (by first | (have h_ln := ln_all; have h_l2 := ln_all2; omega) | omega) dX5_follow_21 ?_
        rw [show rid 3 k = 65 + 2 * k from rfl]
        refine J.astore_n (ls' := [(0, _), (1, _), (2, _), (3, _)]) C dX5_follow_22 (by decide) rfl ?_
        refine J.aload_n C dX5_follow_23 rfl ?_
        refine J.getR C flX5_follow_10 (by first | decide | omega) rfl (by exact rfl) dX5_follow_24 ?_
        refine J.getI C flX5_follow_77 (by first | decide | omega) (by first | exact rfl | exact mk_3 (by assumption)) (by exact rfl) (by first | ((repeat (first | rewrite [up2_n _ _ _ (by first | decide | omega)] | rewrite [up2_m _ _ _ (by decide)] | rewrite [up3_n _ _ _ (by first | decide | omega)])) <;> (first | exact up2_s _ _ _ _ | exact up3_s _ _ _ _ | assumption | exact rfl))) dX5_follow_27 ?_
        refine J.aload_n C dX5_follow_30 rfl ?_
        refine J.getI C flX5_follow_77 (by first | decide | omega) (by first | exact rfl | exact mk_3 (by assumption)) (by exact rfl) (by first | ((repeat (first | rewrite [up2_n _ _ _ (by first | decide | omega)] | rewrite [up2_m _ _ _ (by decide)] | rewrite [up3_n _ _ _ (by first | decide | omega)])) <;> (first | exact up2_s _ _ _ _ | exact up3_s _ _ _ _ | assumption | exact rfl))) dX5_follow_31 ?_
        first | refine J.iadd_n C dX5_follow_34 ?_ | refine J.iadd C dX5_follow_34 ?_
        refine J.bipush C dX5_follow_35 (v := (nI 40)) (by decide) ?_
        first | refine J.icmp_le_n C (by omega) (by omega) dX5_follow_37 (tgt := 47) (by decide) (fun c37t => ?_) (fun c37f => ?_) | refine J.icmp_le_xn C (by omega) dX5_follow_37 (tgt := 47) (by decide) (fun c37t => ?_) (fun c37f => ?_) | refine J.icmp_le_nx C (by omega) dX5_follow_37 (tgt := 47) (by decide) (fun c37t => ?_) (fun c37f => ?_) | refine J.icmp_le C dX5_follow_37 (tgt := 47) (by decide) (fun c37t => ?_) (fun c37f => ?_)
        · rw [tb_1 (show g.1.2.1 + t.2.1 ≤ 40 by omega)]
          refine J.aload_n C dX5_follow_47 rfl ?_
          refine J.getR C flX5_follow_23 (by first | decide | omega) rfl (by exact rfl) dX5_follow_48 ?_
          refine J.aload_n C dX5_follow_51 rfl ?_
          refine J.getR C flX5_follow_10 (by first | decide | omega) rfl (by exact rfl) dX5_follow_52 ?_
          refine J.cVGv (q := (RX2, TX2, 3)) (ci := 2) C (ok_X2_remember l V _ _ hz h ok) gX5_follow_X2_remember rfl mfX2_remember rfl (by decide) (by decide) (by first | decide | omega) rfl rfl rfl rfl (Nat.le_of_ble_eq_true rfl) dX5_follow_55 (Nat.le_refl _) (Nat.le_refl _) (fun I55 L55 h55 => ?_)
          obtain ⟨hB, hfr, hLL⟩ := h55
          subst hLL
          have hb0 : I55 1 0 = nI g.1.1 := hB.1.1
          have hb1 : I55 1 1 = nI g.1.2.1 := hB.1.2.1
          have hTB := sC_some (g := gB g) hB hk hs
          have hTBc := hTB.2.1
          have hu1 : va_up I55 2 (va_cpy (I55 (65 + 2 * k + 1)) (I55 2) 0 g.1.2.1 t.2.1) 1 1 = nI g.1.2.1 := by rw [va_up_ne _ _ (by decide)]; exact hb1
          have hu2 : va_up I55 2 (va_cpy (I55 (65 + 2 * k + 1)) (I55 2) 0 g.1.2.1 t.2.1) (65 + 2 * k) 1 = nI t.2.1 := by rw [va_up_ne _ _ (by omega)]; exact hTBc
          refine J.aload_n C dX5_follow_58 rfl ?_
          refine J.getR C flX5_follow_218 (by first | decide | omega) (by first | exact rfl | exact mk_3 (by assumption)) (by exact rfl) dX5_follow_59 ?_
          refine J.iconst C dX5_follow_62 (v := (nI 0)) (by decide) ?_
          refine J.aload_n C dX5_follow_63 rfl ?_
          refine J.getR C flX5_follow_10 (by first | decide | omega) rfl (by exact rfl) dX5_follow_64 ?_
          refine J.getR C flX5_follow_218 (by first | decide | omega) (by first | exact rfl | exact mk_3 (by assumption)) (by exact rfl) dX5_follow_67 ?_
          refine J.aload_n C dX5_follow_70 rfl ?_
          refine J.getR C flX5_follow_10 (by first | decide | omega) rfl (by exact rfl) dX5_follow_71 ?_
          refine J.getI C flX5_follow_77 (by first | decide | omega) (by first | exact rfl | exact mk_3 (by assumption)) (by exact rfl) (by first | ((repeat (first | rewrite [up2_n _ _ _ (by first | decide | omega)] | rewrite [up2_m _ _ _ (by decide)] | rewrite [up3_n _ _ _ (by first | decide | omega)])) <;> (first | exact up2_s _ _ _ _ | exact up3_s _ _ _ _ | assumption | exact rfl))) dX5_follow_74 ?_
          refine J.aload_n C dX5_follow_77 rfl ?_
          refine J.getI C flX5_follow_77 (by first | decide | omega) (by first | exact rfl | exact mk_3 (by assumption)) (by exact rfl) (by first | ((repeat (first | rewrite [up2_n _ _ _ (by first | decide | omega)] | rewrite [up2_m _ _ _ (by decide)] | rewrite [up3_n _ _ _ (by first | decide | omega)])) <;> (first | exact up2_s _ _ _ _ | exact up3_s _ _ _ _ | assumption | exact rfl))) dX5_follow_78 ?_
          refine J.acpI C hz (k0 := 65 + 2 * k + 1) (k1 := 2) (a := 0) (b := g.1.2.1) (c := t.2.1) (by decide +kernel) (by decide +kernel) (by decide +kernel) (by decide +kernel) (kd3 hkd).1 rfl rfl rfl rfl (by have := (kd3 hkd).2; omega) (by show _ ≤ ln (1 + 1); have := ln_all2; omega) (by decide) (Nat.le_of_ble_eq_true rfl) dX5_follow_81 ?_
          refine J.aload_n C dX5_follow_84 rfl ?_
          refine J.getR C flX5_follow_10 (by first | decide | omega) rfl (by exact rfl) dX5_follow_85 ?_
          refine J.dup C dX5_follow_88 rfl ?_
          refine J.getI C flX5_follow_77 (by first | decide | omega) (by first | exact rfl | exact mk_3 (by assumption)) (by exact rfl) (by first | ((repeat (first | rewrite [up2_n _ _ _ (by first | decide | omega)] | rewrite [up2_m _ _ _ (by decide)] | rewrite [up3_n _ _ _ (by first | decide | omega)])) <;> (first | exact up2_s _ _ _ _ | exact up3_s _ _ _ _ | assumption | exact rfl))) dX5_follow_89 ?_
          refine J.aload_n C dX5_follow_92 rfl ?_
          refine J.getI C flX5_follow_77 (by first | decide | omega) (by first | exact rfl | exact mk_3 (by assumption)) (by exact rfl) (by first | ((repeat (first | rewrite [up2_n _ _ _ (by first | decide | omega)] | rewrite [up2_m _ _ _ (by decide)] | rewrite [up3_n _ _ _ (by first | decide | omega)])) <;> (first | exact up2_s _ _ _ _ | exact up3_s _ _ _ _ | assumption | exact rfl))) dX5_follow_93 ?_
          first | refine J.iadd_n C dX5_follow_96 ?_ | refine J.iadd C dX5_follow_96 ?_
          refine J.putI C fpX5_follow_77 (by first | decide | omega) (by first | exact rfl | exact mk_3 (by assumption)) (Nat.le_of_ble_eq_true rfl) (by first | exact mp_3_1 rfl | exact mp_3_1 (by assumption)) dX5_follow_97 ?_
          refine J.aload_n C dX5_follow_100 rfl ?_
          refine J.getR C flX5_follow_10 (by first | decide | omega) rfl (by exact rfl) dX5_follow_101 ?_
          refine J.getI C flX5_follow_77 (by first | decide | omega) (by first | exact rfl | exact mk_3 (by assumption)) (by exact rfl) (by first | ((repeat (first | rewrite [up2_n _ _ _ (by first | decide | omega)] | rewrite [up2_m _ _ _ (by decide)] | rewrite [up3_n _ _ _ (by first | decide | omega)])) <;> (first | exact up2_s _ _ _ _ | exact up3_s _ _ _ _ | assumption | exact rfl))) dX5_follow_104 ?_
          exact J.iret C dX5_follow_107 (qC_s ⟨rfl, AbC_net hB (t := (g.1.1, g.1.2.1 + t.2.1, fun i => if i < g.1.2.1 then g.1.2.2 i else t.2.2 (i - g.1.2.1))) ⟨by rw [up2_m _ _ _ (by decide), va_up_ne _ _ (by decide)]; exact hb0, by rw [up2_s], fun i q => by
                rw [up2_n _ _ _ (by decide), va_up_self]
                show _ = nI (pk (if i < g.1.2.1 then g.1.2.2 i else t.2.2 (i - g.1.2.1)))
                have q : i < g.1.2.1 + t.2.1 := q
                by_cases z : i < g.1.2.1
                · rw [if_pos z, pk_cpy_out (Or.inl z)]; exact hB.1.2.2 i z
                · rw [if_neg z, pk_cpy_in (by omega) (by omega), Nat.zero_add]; exact hTB.2.2 _ (by omega)⟩ (fun q a b c => by rw [up2_n _ _ _ a, va_up_ne _ _ b]), fun q a => by rw [up2_n _ _ _ (by omega), va_up_ne _ _ (by omega)]; exact hfr q a, frCL_rfl⟩)
        · rw [tb_0 (show ¬ g.1.2.1 + t.2.1 ≤ 40 by omega)]
          refine J.aload_n C dX5_follow_40 rfl ?_
          refine J.bipush C dX5_follow_41 (v := (-5)) (by decide) ?_
          refine J.cVDi (q := (RX5, TX5, 11)) (ci := 5) C (ok_X5_finding l V _ _ _) gX5_follow_X5_finding rfl mfX5_finding rfl (by decide) (by decide) (by first | decide | omega) rfl rfl rfl rfl (Nat.le_of_ble_eq_true rfl) dX5_follow_43 (Nat.le_refl _) (Nat.le_refl _) ?_
          exact J.iret C dX5_follow_46 (qC_s (qC_F h))
      · rw [tb_0 ht]
        refine Ok.of (cc := cX5_follow) (maxL := 4) (ret := (some .int)) (by decide) rfl (Nat.le_of_ble_eq_true rfl) (fun X hnm C => ?_)
        have C : CX l X V RX5 cX5_follow 4 wsX5_follow 4 0 0 (some .int) := C
        refine J.cast (ls' := [(0, _), (1, _)]) rfl rfl rfl rfl ?_
        refine J.aload_n C dX5_follow_0 rfl ?_
        refine J.iload_n C dX5_follow_1 rfl ?_
        refine J.cVDi (q := (RX5, TX5, 11)) (ci := 5) C (ok_X5_findingOfFit_3 l V _ _ hk hs ht h ok) gX5_follow_X5_findingOfFit rfl mfX5_findingOfFit rfl (by decide) (by decide) (by first | decide | omega) rfl rfl rfl rfl (Nat.le_of_ble_eq_true rfl) dX5_follow_2 (Nat.le_refl _) (Nat.le_refl _) ?_
        refine J.istore_n (ls' := [(0, _), (1, _), (2, _)]) C dX5_follow_5 (by decide) rfl ?_
        refine J.iload_n C dX5_follow_6 rfl ?_
        refine J.if_ge_z C dX5_follow_7 (tgt := 16) (by decide) (fun c7 => absurd c7 (by first | omega | decide | simp_all)) (fun _ => ?_)
        refine J.aload_n C dX5_follow_10 rfl ?_
        refine J.iload_n C dX5_follow_11 rfl ?_
        refine J.cVDi (q := (RX5, TX5, 11)) (ci := 5) C (ok_X5_finding l V _ _ _) gX5_follow_X5_finding rfl mfX5_finding rfl (by decide) (by decide) (by first | decide | omega) rfl rfl rfl rfl (Nat.le_of_ble_eq_true rfl) dX5_follow_12 (Nat.le_refl _) (Nat.le_refl _) ?_
        exact J.iret C dX5_follow_15 (qC_s (qC_F h))
  · have e : op_follow g o1 = (-1, gF g) := by
      unfold op_follow
      rw [tb_0 hi]
      rfl
    rw [e]
    refine Ok.of (cc := cX5_follow) (maxL := 4) (ret := (some .int)) (by decide) rfl (Nat.le_of_ble_eq_true rfl) (fun X hnm C => ?_)
    have C : CX l X V RX5 cX5_follow 4 wsX5_follow 4 0 0 (some .int) := C
    refine J.cast (ls' := [(0, _), (1, _)]) rfl rfl rfl rfl ?_
    refine J.aload_n C dX5_follow_0 rfl ?_
    refine J.iload_n C dX5_follow_1 rfl ?_
    refine J.cVDi (q := (RX5, TX5, 11)) (ci := 5) C (ok_X5_findingOfFit_1 l V _ _ hx1 hi) gX5_follow_X5_findingOfFit rfl mfX5_findingOfFit rfl (by decide) (by decide) (by first | decide | omega) rfl rfl rfl rfl (Nat.le_of_ble_eq_true rfl) dX5_follow_2 (Nat.le_refl _) (Nat.le_refl _) ?_
    refine J.istore_n (ls' := [(0, _), (1, _), (2, _)]) C dX5_follow_5 (by decide) rfl ?_
    refine J.iload_n C dX5_follow_6 rfl ?_
    refine J.if_ge_z C dX5_follow_7 (tgt := 16) (by decide) (fun c7 => absurd c7 (by first | omega | decide | simp_all)) (fun _ => ?_)
    refine J.aload_n C dX5_follow_10 rfl ?_
    refine J.iload_n C dX5_follow_11 rfl ?_
    refine J.cVDi (q := (RX5, TX5, 11)) (ci := 5) C (ok_X5_finding l V _ _ _) gX5_follow_X5_finding rfl mfX5_finding rfl (by decide) (by decide) (by first | decide | omega) rfl rfl rfl rfl (Nat.le_of_ble_eq_true rfl) dX5_follow_12 (Nat.le_refl _) (Nat.le_refl _) ?_
    exact J.iret C dX5_follow_15 (qC_s (qC_F h))
set_option maxHeartbeats 4000000 in
set_option maxRecDepth 100000 in
theorem ok_X5_undo (l : Launch) (V : Vx) {g : Sg}  (I : Nat → Nat → Int32) (L : Nat → Nat → Int64)  (hz : V.2.2.2.2.2 = false) (h : AbC I L g) (ok : okG g) : PC l V yX5_undo wsX5_undo 3 [.ref (ad V 0)] I L (op_undo g) := by
  have hN := h.1
  have h0 := hN.1
  have hm := hN.2.1
  have hl2 := ok.1.1
  have hl8 := ok.1.2.1
  have h40 := ok.1.2.2.1
  obtain ⟨f, hf, hh1, hh2, hh3, hh4⟩ := id h.2.1
  unfold op_undo
  cases hh : g.2.1 with
  | nil =>
    rw [hh] at hh2
    have hh2 : I 4 2 = nI 0 := hh2
    refine Ok.of (cc := cX5_undo) (maxL := 1) (ret := (some .int)) (by decide) rfl (Nat.le_of_ble_eq_true rfl) (fun X hnm C => ?_)
    have C : CX l X V RX5 cX5_undo 1 wsX5_undo 3 0 0 (some .int) := C
    refine J.cast (ls' := [(0, _)]) rfl rfl rfl rfl ?_
    refine J.aload_n C dX5_undo_0 rfl ?_
    refine J.getR C flX5_undo_23 (by first | decide | omega) rfl (by exact rfl) dX5_undo_1 ?_
    refine J.getI C flX5_undo_274 (by first | decide | omega) rfl (by exact rfl) (by first | ((repeat (first | rewrite [up2_n _ _ _ (by first | decide | omega)] | rewrite [up2_m _ _ _ (by decide)] | rewrite [up3_n _ _ _ (by first | decide | omega)])) <;> (first | exact up2_s _ _ _ _ | exact up3_s _ _ _ _ | assumption | exact rfl))) dX5_undo_4 ?_
    first | refine J.if_ne_b C dX5_undo_7 (tgt := 17) (by decide) (fun c7 => absurd c7 (by first | omega | decide | simp_all)) (fun _ => ?_) | refine J.if_ne_n C (by omega) dX5_undo_7 (tgt := 17) (by decide) (fun c7 => absurd c7 (by first | omega | decide | simp_all)) (fun _ => ?_) | refine J.if_ne C dX5_undo_7 (tgt := 17) (by decide) (fun c7 => absurd c7 (by first | omega | decide | simp_all)) (fun _ => ?_)
    refine J.aload_n C dX5_undo_10 rfl ?_
    refine J.bipush C dX5_undo_11 (v := (-6)) (by decide) ?_
    refine J.cVDi (q := (RX5, TX5, 11)) (ci := 5) C (ok_X5_finding l V _ _ _) gX5_undo_X5_finding rfl mfX5_finding rfl (by decide) (by decide) (by first | decide | omega) rfl rfl rfl rfl (Nat.le_of_ble_eq_true rfl) dX5_undo_13 (Nat.le_refl _) (Nat.le_refl _) ?_
    exact J.iret C dX5_undo_16 (qC_s (qC_F h))
  | cons t r =>
    rw [hh] at hh2 hh3
    have hh2 : I 4 2 = nI (r.length + 1) := hh2
    have hh3 : r.length + 1 ≤ 25 := hh3
    refine Ok.of (cc := cX5_undo) (maxL := 1) (ret := (some .int)) (by decide) rfl (Nat.le_of_ble_eq_true rfl) (fun X hnm C => ?_)
    have C : CX l X V RX5 cX5_undo 1 wsX5_undo 3 0 0 (some .int) := C
    refine J.cast (ls' := [(0, _)]) rfl rfl rfl rfl ?_
    refine J.aload_n C dX5_undo_0 rfl ?_
    refine J.getR C flX5_undo_23 (by first | decide | omega) rfl (by exact rfl) dX5_undo_1 ?_
    refine J.getI C flX5_undo_274 (by first | decide | omega) rfl (by exact rfl) (by first | ((repeat (first | rewrite [up2_n _ _ _ (by first | decide | omega)] | rewrite [up2_m _ _ _ (by decide)] | rewrite [up3_n _ _ _ (by first | decide | omega)])) <;> (first | exact up2_s _ _ _ _ | exact up3_s _ _ _ _ | assumption | exact rfl))) dX5_undo_4 ?_
    first | refine J.if_ne_b C dX5_undo_7 (tgt := 17) (by decide) (fun _ => ?_) (fun c7 => absurd c7 (by first | omega | decide | simp_all)) | refine J.if_ne_n C (by omega) dX5_undo_7 (tgt := 17) (by decide) (fun _ => ?_) (fun c7 => absurd c7 (by first | omega | decide | simp_all)) | refine J.if_ne C dX5_undo_7 (tgt := 17) (by decide) (fun _ => ?_) (fun c7 => absurd c7 (by first | omega | decide | simp_all))
    refine J.aload_n C dX5_undo_17 rfl ?_
    refine J.getR C flX5_undo_23 (by first | decide | omega) rfl (by exact rfl) dX5_undo_18 ?_
    refine J.aload_n C dX5_undo_21 rfl ?_
    refine J.getR C flX5_undo_10 (by first | decide | omega) rfl (by exact rfl) dX5_undo_22 ?_
    refine J.cVGv (q := (RX2, TX2, 3)) (ci := 2) C (ok_X2_giveBack l V _ _ hz h ok hh) gX5_undo_X2_giveBack rfl mfX2_giveBack rfl (by decide) (by decide) (by first | decide | omega) rfl rfl rfl rfl (Nat.le_of_ble_eq_true rfl) dX5_undo_25 (Nat.le_refl _) (Nat.le_refl _) (fun I25 L25 h25 => ?_)
    obtain ⟨hB, hfr, hLL⟩ := h25
    subst hLL
    obtain ⟨f', -, -, hb2, -, -⟩ := id hB.2.1
    have hb2 : I25 4 2 = nI r.length := hb2
    refine J.aload_n C dX5_undo_28 rfl ?_
    refine J.getR C flX5_undo_23 (by first | decide | omega) rfl (by exact rfl) dX5_undo_29 ?_
    refine J.getI C flX5_undo_274 (by first | decide | omega) rfl (by exact rfl) (by first | ((repeat (first | rewrite [up2_n _ _ _ (by first | decide | omega)] | rewrite [up2_m _ _ _ (by decide)] | rewrite [up3_n _ _ _ (by first | decide | omega)])) <;> (first | exact up2_s _ _ _ _ | exact up3_s _ _ _ _ | assumption | exact rfl))) dX5_undo_32 ?_
    exact J.iret C dX5_undo_35 (qC_s ⟨rfl, hB, hfr, frCL_rfl⟩)
set_option maxHeartbeats 4000000 in
set_option maxRecDepth 100000 in
theorem ok_X5_tell (l : Launch) (V : Vx) {g : Sg} {v : Int32} (I : Nat → Nat → Int32) (L : Nat → Nat → Int64)  (hz : V.2.2.2.2.2 = false) (h : AbC I L g) (ok : okG g) : PC l V yX5_tell wsX5_tell 2 [.ref (ad V 0), .int v] I L (op_tell g v) := by
  have hN := h.1
  have h0 := hN.1
  have hm := hN.2.1
  have hl2 := ok.1.1
  have hl8 := ok.1.2.1
  have h40 := ok.1.2.2.1
  have hw := h.2.2.2.2.1
  have hq := hw.1
  have hq80 := hw.2.1
  unfold op_tell
  refine Ok.of (cc := cX5_tell) (maxL := 2) (ret := (some .int)) (by decide) rfl (Nat.le_of_ble_eq_true rfl) (fun X hnm C => ?_)
  have C : CX l X V RX5 cX5_tell 2 wsX5_tell 2 0 0 (some .int) := C
  refine J.cast (ls' := [(0, _), (1, _)]) rfl rfl rfl rfl ?_
  refine J.aload_n C dX5_tell_0 rfl ?_
  refine J.getI C flX5_tell_57 (by first | decide | omega) rfl (by exact rfl) (by first | ((repeat (first | rewrite [up2_n _ _ _ (by first | decide | omega)] | rewrite [up2_m _ _ _ (by decide)] | rewrite [up3_n _ _ _ (by first | decide | omega)])) <;> (first | exact up2_s _ _ _ _ | exact up3_s _ _ _ _ | assumption | exact rfl))) dX5_tell_1 ?_
  refine J.bipush C dX5_tell_4 (v := (nI 80)) (by decide) ?_
  first | refine J.icmp_lt_n C (by omega) (by omega) dX5_tell_6 (tgt := 16) (by decide) (fun c6t => ?_) (fun c6f => ?_) | refine J.icmp_lt_xn C (by omega) dX5_tell_6 (tgt := 16) (by decide) (fun c6t => ?_) (fun c6f => ?_) | refine J.icmp_lt_nx C (by omega) dX5_tell_6 (tgt := 16) (by decide) (fun c6t => ?_) (fun c6f => ?_) | refine J.icmp_lt C dX5_tell_6 (tgt := 16) (by decide) (fun c6t => ?_) (fun c6f => ?_)
  · rw [tb_0 (show ¬ g.2.2.2.2.1.1 = 80 by omega)]
    refine J.aload_n C dX5_tell_16 rfl ?_
    refine J.getR C flX5_tell_54 (by first | decide | omega) rfl (by exact rfl) dX5_tell_17 ?_
    refine J.aload_n C dX5_tell_20 rfl ?_
    refine J.getI C flX5_tell_57 (by first | decide | omega) rfl (by exact rfl) (by first | ((repeat (first | rewrite [up2_n _ _ _ (by first | decide | omega)] | rewrite [up2_m _ _ _ (by decide)] | rewrite [up3_n _ _ _ (by first | decide | omega)])) <;> (first | exact up2_s _ _ _ _ | exact up3_s _ _ _ _ | assumption | exact rfl))) dX5_tell_21 ?_
    refine J.iload_n C dX5_tell_24 rfl ?_
    refine J.ias C (by first | exact rfl | assumption) (by first | exact rfl | exact rfl) (by first | (have h_ln := ln_all; have h_l2 := ln_all2; omega) | omega) dX5_tell_25 ?_
    refine J.aload_n C dX5_tell_26 rfl ?_
    refine J.dup C dX5_tell_27 rfl ?_
    refine J.getI C flX5_tell_57 (by first | decide | omega) rfl (by exact rfl) (by first | ((repeat (first | rewrite [up2_n _ _ _ (by first | decide | omega)] | rewrite [up2_m _ _ _ (by decide)] | rewrite [up3_n _ _ _ (by first | decide | omega)])) <;> (first | exact up2_s _ _ _ _ | exact up3_s _ _ _ _ | assumption | exact rfl))) dX5_tell_28 ?_
    refine J.iconst C dX5_tell_31 (v := (nI 1)) (by decide) ?_
    first | refine J.iadd_n C dX5_tell_32 ?_ | refine J.iadd C dX5_tell_32 ?_
    refine J.putI C fpX5_tell_57 (by first | decide | omega) rfl (Nat.le_of_ble_eq_true rfl) (by first | exact mp_5_9 rfl | exact mp_5_9 (by assumption)) dX5_tell_33 ?_
    refine J.aload_n C dX5_tell_36 rfl ?_
    refine J.getI C flX5_tell_57 (by first | decide | omega) rfl (by exact rfl) (by first | ((repeat (first | rewrite [up2_n _ _ _ (by first | decide | omega)] | rewrite [up2_m _ _ _ (by decide)] | rewrite [up3_n _ _ _ (by first | decide | omega)])) <;> (first | exact up2_s _ _ _ _ | exact up3_s _ _ _ _ | assumption | exact rfl))) dX5_tell_37 ?_
    exact J.iret C dX5_tell_40 (qC_s ⟨rfl, AbC_0 (w := (g.2.2.2.2.1.1 + 1, va_up g.2.2.2.2.1.2 g.2.2.2.2.1.1 v)) (z := g.2.2.2.2.2) h (fun k a b c => by rw [up2_n _ _ _ a, up2_n _ _ _ b]) ⟨up2_s _ _ _ _, by show g.2.2.2.2.1.1 + 1 ≤ 80; omega, fun i hi => by rw [up2_n _ _ _ (by decide)]; show up2 I 64 _ v 64 i = va_up g.2.2.2.2.1.2 g.2.2.2.2.1.1 v i; by_cases e : i = g.2.2.2.2.1.1; rw [e, up2_s, va_up_self]; rw [up2_m _ _ _ e, va_up_ne _ _ e]; exact hw.2.2 i (by have hi : i < g.2.2.2.2.1.1 + 1 := hi; omega)⟩ (by rw [up2_m _ _ _ (by decide), up2_n _ _ _ (by decide)]; exact h.2.2.2.2.2.1), (by repeat (first | exact hfr | exact frC_rfl | refine frC_up (by decide) ?_)), frCL_rfl⟩)
  · rw [tb_1 (show g.2.2.2.2.1.1 = 80 by omega)]
    refine J.aload_n C dX5_tell_9 rfl ?_
    refine J.bipush C dX5_tell_10 (v := (-5)) (by decide) ?_
    refine J.cVDi (q := (RX5, TX5, 11)) (ci := 5) C (ok_X5_finding l V _ _ _) gX5_tell_X5_finding rfl mfX5_finding rfl (by decide) (by decide) (by first | decide | omega) rfl rfl rfl rfl (Nat.le_of_ble_eq_true rfl) dX5_tell_12 (Nat.le_refl _) (Nat.le_refl _) ?_
    exact J.iret C dX5_tell_15 (qC_s (qC_F h))
set_option maxHeartbeats 4000000 in
set_option maxRecDepth 100000 in
theorem ok_X5_told (l : Launch) (V : Vx) {g : Sg} {x1 : Int32} {o1 : Option Nat} (I : Nat → Nat → Int32) (L : Nat → Nat → Int64) (hx1 : AG x1 o1) (hz : V.2.2.2.2.2 = false) (h : AbC I L g) (ok : okG g) : PC l V yX5_told wsX5_told 2 [.ref (ad V 0), .int x1] I L (op_told g o1) := by
  have hN := h.1
  have h0 := hN.1
  have hm := hN.2.1
  have hl2 := ok.1.1
  have hl8 := ok.1.2.1
  have h40 := ok.1.2.2.1
  have h9 := h.2.2.2.2.1.1
  have h10 := h.2.2.2.2.2.1
  have q0 : x1 = 0 ↔ o1 = some 0 := AG_eq hx1 (k := 0) (by decide)
  have q1 := AG_eq hx1 (k := 1) (by decide)
  have q2 := AG_eq hx1 (k := 2) (by decide)
  have q3 := AG_eq hx1 (k := 3) (by decide)
  unfold op_told
  refine Ok.of (cc := cX5_told) (maxL := 2) (ret := (some .int)) (by decide) rfl (Nat.le_of_ble_eq_true rfl) (fun X hnm C => ?_)
  have C : CX l X V RX5 cX5_told 2 wsX5_told 2 0 0 (some .int) := C
  refine J.cast (ls' := [(0, _), (1, _)]) rfl rfl rfl rfl ?_
  refine J.iload_n C dX5_told_0 rfl ?_
  rcases tb5 x1 with e0 | ⟨e0, e1⟩ | ⟨e0, e1, e2⟩ | ⟨e0, e1, e2, e3⟩ | ⟨e0, e1, e2, e3⟩
  · refine J.tabIn C dX5_told_1 (x := x1) (by rw [e0]; decide) (by rw [e0]; decide) (by rw [e0]; rfl) (tgt := 32) (by decide) ?_
    rw [if_pos (q0.mp e0)]
    refine J.aload_n C dX5_told_32 rfl ?_
    refine J.getR C flX5_told_10 (by first | decide | omega) rfl (by exact rfl) dX5_told_33 ?_
    refine J.getI C flX5_told_160 (by first | decide | omega) (by first | exact rfl | exact mk_3 (by assumption)) (by exact rfl) (by first | ((repeat (first | rewrite [up2_n _ _ _ (by first | decide | omega)] | rewrite [up2_m _ _ _ (by decide)] | rewrite [up3_n _ _ _ (by first | decide | omega)])) <;> (first | exact up2_s _ _ _ _ | exact up3_s _ _ _ _ | assumption | exact rfl))) dX5_told_36 ?_
    exact J.iret C dX5_told_39 (qC_s ⟨rfl, h, frC_rfl, frCL_rfl⟩)
  · refine J.tabIn C dX5_told_1 (x := x1) (by rw [e1]; decide) (by rw [e1]; decide) (by rw [e1]; rfl) (tgt := 40) (by decide) ?_
    rw [if_neg (fun q => e0 (q0.mpr q)), if_pos (q1.mp e1)]
    refine J.aload_n C dX5_told_40 rfl ?_
    refine J.getR C flX5_told_10 (by first | decide | omega) rfl (by exact rfl) dX5_told_41 ?_
    refine J.getI C flX5_told_77 (by first | decide | omega) (by first | exact rfl | exact mk_3 (by assumption)) (by exact rfl) (by first | ((repeat (first | rewrite [up2_n _ _ _ (by first | decide | omega)] | rewrite [up2_m _ _ _ (by decide)] | rewrite [up3_n _ _ _ (by first | decide | omega)])) <;> (first | exact up2_s _ _ _ _ | exact up3_s _ _ _ _ | assumption | exact rfl))) dX5_told_44 ?_
    exact J.iret C dX5_told_47 (qC_s ⟨rfl, h, frC_rfl, frCL_rfl⟩)
  · refine J.tabIn C dX5_told_1 (x := x1) (by rw [e2]; decide) (by rw [e2]; decide) (by rw [e2]; rfl) (tgt := 48) (by decide) ?_
    rw [if_neg (fun q => e0 (q0.mpr q)), if_neg (fun q => e1 (q1.mpr q)), if_pos (q2.mp e2)]
    refine J.aload_n C dX5_told_48 rfl ?_
    refine J.getI C flX5_told_57 (by first | decide | omega) rfl (by exact rfl) (by first | ((repeat (first | rewrite [up2_n _ _ _ (by first | decide | omega)] | rewrite [up2_m _ _ _ (by decide)] | rewrite [up3_n _ _ _ (by first | decide | omega)])) <;> (first | exact up2_s _ _ _ _ | exact up3_s _ _ _ _ | assumption | exact rfl))) dX5_told_49 ?_
    exact J.iret C dX5_told_52 (qC_s ⟨rfl, h, frC_rfl, frCL_rfl⟩)
  · refine J.tabIn C dX5_told_1 (x := x1) (by rw [e3]; decide) (by rw [e3]; decide) (by rw [e3]; rfl) (tgt := 53) (by decide) ?_
    rw [if_neg (fun q => e0 (q0.mpr q)), if_neg (fun q => e1 (q1.mpr q)), if_neg (fun q => e2 (q2.mpr q)), if_pos (q3.mp e3)]
    refine J.aload_n C dX5_told_53 rfl ?_
    refine J.getI C flX5_told_61 (by first | decide | omega) rfl (by exact rfl) (by first | ((repeat (first | rewrite [up2_n _ _ _ (by first | decide | omega)] | rewrite [up2_m _ _ _ (by decide)] | rewrite [up3_n _ _ _ (by first | decide | omega)])) <;> (first | exact up2_s _ _ _ _ | exact up3_s _ _ _ _ | assumption | exact rfl))) dX5_told_54 ?_
    exact J.iret C dX5_told_57 (qC_s ⟨rfl, h, frC_rfl, frCL_rfl⟩)
  · refine J.tabOut C dX5_told_1 (x := x1) (tb4 e0 e1 e2 e3) (tgt := 58) (by decide) ?_
    rw [if_neg (fun q => e0 (q0.mpr q)), if_neg (fun q => e1 (q1.mpr q)), if_neg (fun q => e2 (q2.mpr q)), if_neg (fun q => e3 (q3.mpr q))]
    refine J.aload_n C dX5_told_58 rfl ?_
    refine J.iconst C dX5_told_59 (v := (-1)) (by decide) ?_
    refine J.cVDi (q := (RX5, TX5, 11)) (ci := 5) C (ok_X5_finding l V _ _ _) gX5_told_X5_finding rfl mfX5_finding rfl (by decide) (by decide) (by first | decide | omega) rfl rfl rfl rfl (Nat.le_of_ble_eq_true rfl) dX5_told_60 (Nat.le_refl _) (Nat.le_refl _) ?_
    exact J.iret C dX5_told_63 (qC_s (qC_F h))
set_option maxHeartbeats 4000000 in
set_option maxRecDepth 100000 in
theorem lp_X5_mirror {l : Launch} {X : Cx} {V : Vx} {P : Option Value → (Nat → va_E) → Prop} {I : Nat → Nat → Int32} {L : Nat → Nat → Int64} (C : CX l X V RX5 cX5_mirror 3 wsX5_mirror 3 0 0 (some .int)) {t : Nt} (ok : okN t) (hP : ∀ J0, netC J0 1 (t.1, t.2.1, mirR t.1 t.2.2 t.2.1) → (∀ k, k ≠ 2 → J0 k = I k) → P (some (.int (nI t.2.1))) (mm V J0 L)) : ∀ (k i : Nat) (J0 : Nat → Nat → Int32), i + k = t.2.1 → netC J0 1 (t.1, t.2.1, mirR t.1 t.2.2 i) → (∀ k, k ≠ 2 → J0 k = I k) → E X V P 3 23 [(0, .ref (ad V 0)), (1, .int (nI (t.1 - 1))), (2, .int (nI i))] [] J0 L := by
  intro k
  have h40 := ok.2.2.1
  have hl8 := ok.2.1
  induction k with
  | zero =>
    intro i J0 hi hn hf
    have e : i = t.2.1 := by omega
    subst e
    have h1 : J0 1 1 = nI t.2.1 := hn.2.1
    refine J.iload_n C dX5_mirror_23 rfl ?_
    refine J.aload_n C dX5_mirror_24 rfl ?_
    refine J.getR C flX5_mirror_10 (by first | decide | omega) rfl (by exact rfl) dX5_mirror_25 ?_
    refine J.getI C flX5_mirror_77 (by first | decide | omega) (by first | exact rfl | exact mk_3 (by assumption)) (by exact rfl) (by first | ((repeat (first | rewrite [up2_n _ _ _ (by first | decide | omega)] | rewrite [up2_m _ _ _ (by decide)] | rewrite [up3_n _ _ _ (by first | decide | omega)])) <;> (first | exact up2_s _ _ _ _ | exact up3_s _ _ _ _ | assumption | exact rfl))) dX5_mirror_28 ?_
    first | refine J.icmp_ge_n C (by omega) (by omega) dX5_mirror_31 (tgt := 68) (by decide) (fun _ => ?_) (fun c31 => absurd c31 (by first | omega | decide | simp_all)) | refine J.icmp_ge_xn C (by omega) dX5_mirror_31 (tgt := 68) (by decide) (fun _ => ?_) (fun c31 => absurd c31 (by first | omega | decide | simp_all)) | refine J.icmp_ge_nx C (by omega) dX5_mirror_31 (tgt := 68) (by decide) (fun _ => ?_) (fun c31 => absurd c31 (by first | omega | decide | simp_all)) | refine J.icmp_ge C dX5_mirror_31 (tgt := 68) (by decide) (fun _ => ?_) (fun c31 => absurd c31 (by first | omega | decide | simp_all))
    refine J.aload_n C dX5_mirror_68 rfl ?_
    refine J.getR C flX5_mirror_10 (by first | decide | omega) rfl (by exact rfl) dX5_mirror_69 ?_
    refine J.getI C flX5_mirror_77 (by first | decide | omega) (by first | exact rfl | exact mk_3 (by assumption)) (by exact rfl) (by first | ((repeat (first | rewrite [up2_n _ _ _ (by first | decide | omega)] | rewrite [up2_m _ _ _ (by decide)] | rewrite [up3_n _ _ _ (by first | decide | omega)])) <;> (first | exact up2_s _ _ _ _ | exact up3_s _ _ _ _ | assumption | exact rfl))) dX5_mirror_72 ?_
    exact J.iret C dX5_mirror_75 (hP J0 hn hf)
  | succ k ih =>
    intro i J0 hi hn hf
    have h1 : J0 1 1 = nI t.2.1 := hn.2.1
    have hc := ok.2.2.2 i (by omega)
    have hcB := okC_B hc hl8
    obtain ⟨hc1, hc2, hc3, hc4⟩ := hc
    have hi2 := hn.2.2 i (by show i < t.2.1; omega)
    rw [show (t.1, t.2.1, mirR t.1 t.2.2 i).2.2 i = t.2.2 i from mirR_ge i (Nat.le_refl i)] at hi2
    refine J.iload_n C dX5_mirror_23 rfl ?_
    refine J.aload_n C dX5_mirror_24 rfl ?_
    refine J.getR C flX5_mirror_10 (by first | decide | omega) rfl (by exact rfl) dX5_mirror_25 ?_
    refine J.getI C flX5_mirror_77 (by first | decide | omega) (by first | exact rfl | exact mk_3 (by assumption)) (by exact rfl) (by first | ((repeat (first | rewrite [up2_n _ _ _ (by first | decide | omega)] | rewrite [up2_m _ _ _ (by decide)] | rewrite [up3_n _ _ _ (by first | decide | omega)])) <;> (first | exact up2_s _ _ _ _ | exact up3_s _ _ _ _ | assumption | exact rfl))) dX5_mirror_28 ?_
    first | refine J.icmp_ge_n C (by omega) (by omega) dX5_mirror_31 (tgt := 68) (by decide) (fun c31 => absurd c31 (by first | omega | decide | simp_all)) (fun _ => ?_) | refine J.icmp_ge_xn C (by omega) dX5_mirror_31 (tgt := 68) (by decide) (fun c31 => absurd c31 (by first | omega | decide | simp_all)) (fun _ => ?_) | refine J.icmp_ge_nx C (by omega) dX5_mirror_31 (tgt := 68) (by decide) (fun c31 => absurd c31 (by first | omega | decide | simp_all)) (fun _ => ?_) | refine J.icmp_ge C dX5_mirror_31 (tgt := 68) (by decide) (fun c31 => absurd c31 (by first | omega | decide | simp_all)) (fun _ => ?_)
    refine J.aload_n C dX5_mirror_34 rfl ?_
    refine J.getR C flX5_mirror_10 (by first | decide | omega) rfl (by exact rfl) dX5_mirror_35 ?_
    refine J.iload_n C dX5_mirror_38 rfl ?_
    refine J.iload_n C dX5_mirror_39 rfl ?_
    refine J.aload_n C dX5_mirror_40 rfl ?_
    refine J.getR C flX5_mirror_10 (by first | decide | omega) rfl (by exact rfl) dX5_mirror_41 ?_
    refine J.iload_n C dX5_mirror_44 rfl ?_
    refine J.cVDi (q := (RX3, TX3, 3)) (ci := 3) C (ok_X3_high l V _ _ rfl (by omega) hcB hi2) gX5_mirror_X3_high rfl mfX3_high rfl (by decide) (by decide) (by first | decide | omega) (by first | exact rfl | exact mk_3 (by assumption)) rfl rfl rfl (Nat.le_of_ble_eq_true rfl) dX5_mirror_45 (Nat.le_refl _) (Nat.le_refl _) ?_
    first | refine J.isub_n C (by omega) dX5_mirror_48 ?_ | refine J.isub C dX5_mirror_48 ?_
    refine J.iload_n C dX5_mirror_49 rfl ?_
    refine J.aload_n C dX5_mirror_50 rfl ?_
    refine J.getR C flX5_mirror_10 (by first | decide | omega) rfl (by exact rfl) dX5_mirror_51 ?_
    refine J.iload_n C dX5_mirror_54 rfl ?_
    refine J.cVDi (q := (RX3, TX3, 3)) (ci := 3) C (ok_X3_low l V _ _ rfl (by omega) hcB hi2) gX5_mirror_X3_low rfl mfX3_low rfl (by decide) (by decide) (by first | decide | omega) (by first | exact rfl | exact mk_3 (by assumption)) rfl rfl rfl (Nat.le_of_ble_eq_true rfl) dX5_mirror_55 (Nat.le_refl _) (Nat.le_refl _) ?_
    first | refine J.isub_n C (by omega) dX5_mirror_58 ?_ | refine J.isub C dX5_mirror_58 ?_
    refine J.cVDv (q := (RX3, TX3, 3)) (ci := 3) C (ok_X3_move l V _ _ rfl (by omega) hcB hi2 (by omega) (by omega)) gX5_mirror_X3_move rfl mfX3_move rfl (by decide) (by decide) (by first | decide | omega) (by first | exact rfl | exact mk_3 (by assumption)) rfl rfl rfl (Nat.le_of_ble_eq_true rfl) dX5_mirror_59 (Nat.le_refl _) (Nat.le_refl _) ?_
    refine J.iinc (ls' := [(0, _), (1, _), (2, _)]) C dX5_mirror_62 rfl (by first | exact nI_inc _ 1 | exact rfl) (by decide) rfl ?_
    refine J.goto C dX5_mirror_65 (tgt := 23) (by decide) ?_
    refine ih (i + 1) _ (by omega) ?_ (fun q a => by rw [up2_n _ _ _ a]; exact hf q a)
    exact netC_set (t := (t.1, t.2.1, mirR t.1 t.2.2 i)) (n := t.2.1) (i := i) (x := mir t.1 (t.2.2 i)) hn (by rw [up2_n _ _ _ (by decide)]) (by rw [up2_n _ _ _ (by decide)]; exact h1) (fun j q => Or.inr q) (fun j q => up2_m _ _ _ q) (up2_s _ _ _ _)
set_option maxHeartbeats 4000000 in
set_option maxRecDepth 100000 in
theorem ok_X5_mirror (l : Launch) (V : Vx) {g : Sg}  (I : Nat → Nat → Int32) (L : Nat → Nat → Int64)  (hz : V.2.2.2.2.2 = false) (h : AbC I L g) (ok : okG g) : PC l V yX5_mirror wsX5_mirror 3 [.ref (ad V 0)] I L (op_mirror g) := by
  have hN := h.1
  have h0 := hN.1
  have hm := hN.2.1
  have hl2 := ok.1.1
  have hl8 := ok.1.2.1
  have h40 := ok.1.2.2.1
  refine Ok.of (cc := cX5_mirror) (maxL := 3) (ret := (some .int)) (by decide) rfl (Nat.le_of_ble_eq_true rfl) (fun X hnm C => ?_)
  have C : CX l X V RX5 cX5_mirror 3 wsX5_mirror 3 0 0 (some .int) := C
  refine J.cast (ls' := [(0, _)]) rfl rfl rfl rfl ?_
  refine J.aload_n C dX5_mirror_0 rfl ?_
  refine J.getR C flX5_mirror_23 (by first | decide | omega) rfl (by exact rfl) dX5_mirror_1 ?_
  refine J.aload_n C dX5_mirror_4 rfl ?_
  refine J.getR C flX5_mirror_10 (by first | decide | omega) rfl (by exact rfl) dX5_mirror_5 ?_
  refine J.cVGv (q := (RX2, TX2, 3)) (ci := 2) C (ok_X2_remember l V _ _ hz h ok) gX5_mirror_X2_remember rfl mfX2_remember rfl (by decide) (by decide) (by first | decide | omega) rfl rfl rfl rfl (Nat.le_of_ble_eq_true rfl) dX5_mirror_8 (Nat.le_refl _) (Nat.le_refl _) (fun I8 L8 h8 => ?_)
  obtain ⟨hB, hfr, hLL⟩ := h8
  subst hLL
  have hb0 : I8 1 0 = nI g.1.1 := hB.1.1
  have hb1 : I8 1 1 = nI g.1.2.1 := hB.1.2.1
  refine J.aload_n C dX5_mirror_11 rfl ?_
  refine J.getR C flX5_mirror_10 (by first | decide | omega) rfl (by exact rfl) dX5_mirror_12 ?_
  refine J.getI C flX5_mirror_160 (by first | decide | omega) (by first | exact rfl | exact mk_3 (by assumption)) (by exact rfl) (by first | ((repeat (first | rewrite [up2_n _ _ _ (by first | decide | omega)] | rewrite [up2_m _ _ _ (by decide)] | rewrite [up3_n _ _ _ (by first | decide | omega)])) <;> (first | exact up2_s _ _ _ _ | exact up3_s _ _ _ _ | assumption | exact rfl))) dX5_mirror_15 ?_
  refine J.iconst C dX5_mirror_18 (v := (nI 1)) (by decide) ?_
  first | refine J.isub_n C (by omega) dX5_mirror_19 ?_ | refine J.isub C dX5_mirror_19 ?_
  refine J.istore_n (ls' := [(0, _), (1, _)]) C dX5_mirror_20 (by decide) rfl ?_
  refine J.iconst C dX5_mirror_21 (v := (nI 0)) (by decide) ?_
  refine J.istore_n (ls' := [(0, _), (1, _), (2, _)]) C dX5_mirror_22 (by decide) rfl ?_
  refine lp_X5_mirror C ok.1 (I := I8) (fun J0 hn hf => ?_) g.1.2.1 0 _ (by omega) hB.1 (fun _ _ => rfl)
  exact qC_s ⟨rfl, AbC_net hB hn (fun q a b c => hf q b), fun k hk => by rw [hf k (by omega)]; exact hfr k hk, frCL_rfl⟩
