/-! THE REFERENCE: mirror, drop, turn -/
def mir (n : Nat) (c : Cmp) : Cmp := (c.1, n - 1 - c.2.2.1, n - 1 - c.2.1, c.2.2.2)
def mirR (n : Nat) (f : Nat → Cmp) : Nat → Nat → Cmp
  | 0 => f
  | i + 1 => va_up (mirR n f i) i (mir n (f i))
theorem mirR_ge {n : Nat} {f : Nat → Cmp} {j : Nat} : ∀ i, i ≤ j → mirR n f i j = f j
  | 0, _ => rfl
  | i + 1, h => by unfold mirR; rw [va_up_ne _ _ (by omega)]; exact mirR_ge i (by omega)
theorem mirR_lt {n : Nat} {f : Nat → Cmp} {j : Nat} : ∀ i, j < i → mirR n f i j = mir n (f j)
  | i + 1, h => by
    unfold mirR
    by_cases e : j = i
    · subst e; rw [va_up_self]
    · rw [va_up_ne _ _ e]; exact mirR_lt i (by omega)
def op_mirror (g : Sg) : Int32 × Sg := (nI g.1.2.1, gN (gB g) (g.1.1, g.1.2.1, mirR g.1.1 g.1.2.2 g.1.2.1))
noncomputable def drR (t : Nt) : Nat → Nat × (Nat → Cmp)
  | 0 => (0, t.2.2)
  | i + 1 => cond (tb (Idl t i)) (drR t i) ((drR t i).1 + 1, va_up (drR t i).2 (drR t i).1 (t.2.2 i))
theorem drR_le {t : Nt} : ∀ i, (drR t i).1 ≤ i
  | 0 => Nat.le_refl _
  | i + 1 => by
    have := drR_le (t := t) i
    unfold drR
    cases tb (Idl t i) <;> simp <;> omega
theorem drR_ge {t : Nt} {j : Nat} : ∀ i, (drR t i).1 ≤ j → (drR t i).2 j = t.2.2 j
  | 0, _ => rfl
  | i + 1, h => by
    unfold drR at h ⊢
    cases hb : tb (Idl t i) with
    | true => rw [hb] at h; exact drR_ge i h
    | false =>
      rw [hb] at h
      have h : (drR t i).1 + 1 ≤ j := h
      show va_up (drR t i).2 (drR t i).1 (t.2.2 i) j = _
      rw [va_up_ne _ _ (by omega)]
      exact drR_ge i (by omega)
noncomputable def op_drop (g : Sg) : Int32 × Sg := (nI (g.1.2.1 - (drR g.1 g.1.2.1).1), gN (gB g) (g.1.1, (drR g.1 g.1.2.1).1, (drR g.1 g.1.2.1).2))
/-- the places change behind a comparer that acts so -/
def swp (k x y : Nat) : Bool := if k = 3 then true else if k = 1 then decide (x < y) else decide (y < x)
def tuR (f : Nat → Cmp) : Nat → Nat × (Nat → Cmp) × (Nat → Nat)
  | 0 => (0, f, fun x => x)
  | i + 1 =>
    (cond (decide (actK (f i) = 3)) (tuR f i).1 ((tuR f i).1 + 1),
     cond (decide (actK (f i) = 3)) (tuR f i).2.1 (va_up (tuR f i).2.1 (tuR f i).1 (0, min ((tuR f i).2.2 (f i).2.1) ((tuR f i).2.2 (f i).2.2.1), max ((tuR f i).2.2 (f i).2.1) ((tuR f i).2.2 (f i).2.2.1), false)),
     cond (swp (actK (f i)) ((tuR f i).2.2 (f i).2.1) ((tuR f i).2.2 (f i).2.2.1)) (va_up (va_up (tuR f i).2.2 (f i).2.1 ((tuR f i).2.2 (f i).2.2.1)) (f i).2.2.1 ((tuR f i).2.2 (f i).2.1)) (tuR f i).2.2)
theorem tuR_le {f : Nat → Cmp} : ∀ i, (tuR f i).1 ≤ i
  | 0 => Nat.le_refl _
  | i + 1 => by
    have := tuR_le (f := f) i
    unfold tuR
    cases decide (actK (f i) = 3) <;> simp <;> omega
theorem tuR_ge {f : Nat → Cmp} {j : Nat} : ∀ i, (tuR f i).1 ≤ j → (tuR f i).2.1 j = f j
  | 0, _ => rfl
  | i + 1, h => by
    unfold tuR at h ⊢
    cases hb : decide (actK (f i) = 3) with
    | true => rw [hb] at h; exact tuR_ge i h
    | false =>
      rw [hb] at h
      have h : (tuR f i).1 + 1 ≤ j := h
      show va_up (tuR f i).2.1 (tuR f i).1 _ j = _
      rw [va_up_ne _ _ (by omega)]
      exact tuR_ge i (by omega)
theorem tuR_p {t : Nt} (ok : okN t) : ∀ i, i ≤ t.2.1 → (∀ x, x < t.1 → (tuR t.2.2 i).2.2 x < t.1) ∧ ∀ x y, x < t.1 → y < t.1 → (tuR t.2.2 i).2.2 x = (tuR t.2.2 i).2.2 y → x = y
  | 0, _ => ⟨fun x h => h, fun x y _ _ h => h⟩
  | i + 1, hi => by
    obtain ⟨h1, h2⟩ := tuR_p ok i (by omega)
    obtain ⟨c1, c2, c3, c4⟩ := ok.2.2.2 i (by omega)
    have e : (tuR t.2.2 (i + 1)).2.2 = cond (swp (actK (t.2.2 i)) ((tuR t.2.2 i).2.2 (t.2.2 i).2.1) ((tuR t.2.2 i).2.2 (t.2.2 i).2.2.1)) (va_up (va_up (tuR t.2.2 i).2.2 (t.2.2 i).2.1 ((tuR t.2.2 i).2.2 (t.2.2 i).2.2.1)) (t.2.2 i).2.2.1 ((tuR t.2.2 i).2.2 (t.2.2 i).2.1)) (tuR t.2.2 i).2.2 := rfl
    rw [e]
    cases swp (actK (t.2.2 i)) ((tuR t.2.2 i).2.2 (t.2.2 i).2.1) ((tuR t.2.2 i).2.2 (t.2.2 i).2.2.1) with
    | false => exact ⟨h1, h2⟩
    | true =>
      generalize (tuR t.2.2 i).2.2 = w at h1 h2
      generalize (t.2.2 i).2.1 = a at *
      generalize (t.2.2 i).2.2.1 = b at *
      have ha : a < t.1 := by omega
      have v : ∀ x, va_up (va_up w a (w b)) b (w a) x = if x = b then w a else if x = a then w b else w x := fun x => rfl
      refine ⟨fun x hx => ?_, fun x y hx hy hxy => ?_⟩
      · show va_up (va_up w a (w b)) b (w a) x < t.1
        rw [v]
        split
        · exact h1 a ha
        · split
          · exact h1 b c3
          · exact h1 x hx
      · have hxy : va_up (va_up w a (w b)) b (w a) x = va_up (va_up w a (w b)) b (w a) y := hxy
        rw [v, v] at hxy
        have q1 := h2 a b ha c3
        have q2 := h2 x y hx hy
        have q3 := h2 a x ha hx
        have q4 := h2 b x c3 hx
        have q5 := h2 a y ha hy
        have q6 := h2 b y c3 hy
        (try split at hxy) <;> (try split at hxy) <;> (try split at hxy) <;> (try split at hxy) <;> subst_vars <;> omega
noncomputable def op_turn (g : Sg) : Int32 × Sg := cond (tb (∃ i, i < g.1.2.1 ∧ actK (g.1.2.2 i) = 2)) (-7, gF g) (nI (tuR g.1.2.2 g.1.2.1).1, gN (gB g) (g.1.1, (tuR g.1.2.2 g.1.2.1).1, (tuR g.1.2.2 g.1.2.1).2.1))
set_option maxHeartbeats 4000000 in
set_option maxRecDepth 100000 in
theorem lp_X6_mirror {l : Launch} {X : Cx} {V : Vx} {P : Option Value → (Nat → va_E) → Prop} {I : Nat → Nat → Int32} {L : Nat → Nat → Int64} (C : CX l X V RX6 cX6_mirror 3 wsX6_mirror 3 0 0 (some .int)) {t : Nt} (ok : okN t) (hP : ∀ J0, nA (J0 85 0) (J0 85 1) (J0 86) (J0 87) (J0 88) (J0 89) 0 (t.1, t.2.1, mirR t.1 t.2.2 t.2.1) → (∀ k, k ≠ 87 → k ≠ 88 → J0 k = I k) → P (some (.int (nI t.2.1))) (mm V J0 L)) : ∀ (k i : Nat) (J0 : Nat → Nat → Int32), i + k = t.2.1 → nA (J0 85 0) (J0 85 1) (J0 86) (J0 87) (J0 88) (J0 89) 0 (t.1, t.2.1, mirR t.1 t.2.2 i) → (∀ k, k ≠ 87 → k ≠ 88 → J0 k = I k) → E X V P 3 6 [(0, .ref (ad V 85)), (1, .int (nI i))] [] J0 L := by
  intro k
  have h40 := ok.2.2.1
  have hl8 := ok.2.1
  induction k with
  | zero =>
    intro i J0 hi hn hf
    have e : i = t.2.1 := by omega
    subst e
    have h1 : J0 85 1 = nI t.2.1 := hn.2.1
    refine J.iload_n C dX6_mirror_6 rfl ?_
    refine J.aload_n C dX6_mirror_7 rfl ?_
    refine J.getI C flX6_mirror_79 (by first | decide | omega) rfl (by exact rfl) (by first | ((repeat (first | refine up2_rd (by decide) ?_ | refine up2_rm (by decide) ?_ | refine up3_rd (by decide) ?_)) <;> (first | exact up2_s _ _ _ _ | assumption | exact rfl))) dX6_mirror_8 ?_
    first | refine J.icmp_ge_n C (by omega) (by omega) dX6_mirror_11 (tgt := 60) (by decide) (fun _ => ?_) (fun c11 => absurd c11 (by first | omega | decide | simp_all)) | refine J.icmp_ge_xn C (by omega) dX6_mirror_11 (tgt := 60) (by decide) (fun _ => ?_) (fun c11 => absurd c11 (by first | omega | decide | simp_all)) | refine J.icmp_ge_nx C (by omega) dX6_mirror_11 (tgt := 60) (by decide) (fun _ => ?_) (fun c11 => absurd c11 (by first | omega | decide | simp_all)) | refine J.icmp_ge C dX6_mirror_11 (tgt := 60) (by decide) (fun _ => ?_) (fun c11 => absurd c11 (by first | omega | decide | simp_all))
    refine J.aload_n C dX6_mirror_60 rfl ?_
    refine J.getI C flX6_mirror_79 (by first | decide | omega) rfl (by exact rfl) (by first | ((repeat (first | refine up2_rd (by decide) ?_ | refine up2_rm (by decide) ?_ | refine up3_rd (by decide) ?_)) <;> (first | exact up2_s _ _ _ _ | assumption | exact rfl))) dX6_mirror_61 ?_
    exact J.iret C dX6_mirror_64 (hP J0 hn hf)
  | succ k ih =>
    intro i J0 hi hn hf
    have h1 : J0 85 1 = nI t.2.1 := hn.2.1
    have h0 : J0 85 0 = nI t.1 := hn.1
    have hc := ok.2.2.2 i (by omega)
    obtain ⟨hc1, hc2, hc3, hc4⟩ := hc
    have hi2 := hn.2.2 i (by show i < t.2.1; omega)
    rw [Nat.zero_add] at hi2
    rw [show (t.1, t.2.1, mirR t.1 t.2.2 i).2.2 i = t.2.2 i from mirR_ge i (Nat.le_refl i)] at hi2
    obtain ⟨g1, g2, g3, g4⟩ := hi2
    refine J.iload_n C dX6_mirror_6 rfl ?_
    refine J.aload_n C dX6_mirror_7 rfl ?_
    refine J.getI C flX6_mirror_79 (by first | decide | omega) rfl (by exact rfl) (by first | ((repeat (first | refine up2_rd (by decide) ?_ | refine up2_rm (by decide) ?_ | refine up3_rd (by decide) ?_)) <;> (first | exact up2_s _ _ _ _ | assumption | exact rfl))) dX6_mirror_8 ?_
    first | refine J.icmp_ge_n C (by omega) (by omega) dX6_mirror_11 (tgt := 60) (by decide) (fun c11 => absurd c11 (by first | omega | decide | simp_all)) (fun _ => ?_) | refine J.icmp_ge_xn C (by omega) dX6_mirror_11 (tgt := 60) (by decide) (fun c11 => absurd c11 (by first | omega | decide | simp_all)) (fun _ => ?_) | refine J.icmp_ge_nx C (by omega) dX6_mirror_11 (tgt := 60) (by decide) (fun c11 => absurd c11 (by first | omega | decide | simp_all)) (fun _ => ?_) | refine J.icmp_ge C dX6_mirror_11 (tgt := 60) (by decide) (fun c11 => absurd c11 (by first | omega | decide | simp_all)) (fun _ => ?_)
    refine J.aload_n C dX6_mirror_14 rfl ?_
    refine J.getR C flX6_mirror_17 (by first | decide | omega) rfl (by exact rfl) dX6_mirror_15 ?_
    refine J.iload_n C dX6_mirror_18 rfl ?_
    refine J.ia C (by first | exact rfl | assumption) (by first | exact rfl | exact rfl) (by first | (have h_ln := ln_all; omega) | omega) (by first | ((repeat (first | refine up2_rd (by decide) ?_ | refine up2_rm (by decide) ?_ | refine up3_rd (by decide) ?_)) <;> (first | exact up2_s _ _ _ _ | assumption | exact rfl))) dX6_mirror_19 ?_
    refine J.istore_n (ls' := [(0, _), (1, _), (2, _)]) C dX6_mirror_20 (by decide) rfl ?_
    refine J.aload_n C dX6_mirror_21 rfl ?_
    refine J.getR C flX6_mirror_17 (by first | decide | omega) rfl (by exact rfl) dX6_mirror_22 ?_
    refine J.iload_n C dX6_mirror_25 rfl ?_
    refine J.aload_n C dX6_mirror_26 rfl ?_
    refine J.getI C flX6_mirror_7 (by first | decide | omega) rfl (by exact rfl) (by first | ((repeat (first | refine up2_rd (by decide) ?_ | refine up2_rm (by decide) ?_ | refine up3_rd (by decide) ?_)) <;> (first | exact up2_s _ _ _ _ | assumption | exact rfl))) dX6_mirror_27 ?_
    refine J.iconst C dX6_mirror_30 (v := (nI 1)) (by decide) ?_
    first | refine J.isub_n C (by omega) dX6_mirror_31 ?_ | refine J.isub C dX6_mirror_31 ?_
    refine J.aload_n C dX6_mirror_32 rfl ?_
    refine J.getR C flX6_mirror_20 (by first | decide | omega) rfl (by exact rfl) dX6_mirror_33 ?_
    refine J.iload_n C dX6_mirror_36 rfl ?_
    refine J.ia C (by first | exact rfl | assumption) (by first | exact rfl | exact rfl) (by first | (have h_ln := ln_all; omega) | omega) (by first | ((repeat (first | refine up2_rd (by decide) ?_ | refine up2_rm (by decide) ?_ | refine up3_rd (by decide) ?_)) <;> (first | exact up2_s _ _ _ _ | assumption | exact rfl))) dX6_mirror_37 ?_
    first | refine J.isub_n C (by omega) dX6_mirror_38 ?_ | refine J.isub C dX6_mirror_38 ?_
    refine J.ias C (by first | exact rfl | assumption) (by first | exact rfl | exact rfl) (by first | (have h_ln := ln_all; omega) | omega) dX6_mirror_39 ?_
    refine J.aload_n C dX6_mirror_40 rfl ?_
    refine J.getR C flX6_mirror_20 (by first | decide | omega) rfl (by exact rfl) dX6_mirror_41 ?_
    refine J.iload_n C dX6_mirror_44 rfl ?_
    refine J.aload_n C dX6_mirror_45 rfl ?_
    refine J.getI C flX6_mirror_7 (by first | decide | omega) rfl (by exact rfl) (by first | ((repeat (first | refine up2_rd (by decide) ?_ | refine up2_rm (by decide) ?_ | refine up3_rd (by decide) ?_)) <;> (first | exact up2_s _ _ _ _ | assumption | exact rfl))) dX6_mirror_46 ?_
    refine J.iconst C dX6_mirror_49 (v := (nI 1)) (by decide) ?_
    first | refine J.isub_n C (by omega) dX6_mirror_50 ?_ | refine J.isub C dX6_mirror_50 ?_
    refine J.iload_n C dX6_mirror_51 rfl ?_
    first | refine J.isub_n C (by omega) dX6_mirror_52 ?_ | refine J.isub C dX6_mirror_52 ?_
    refine J.ias C (by first | exact rfl | assumption) (by first | exact rfl | exact rfl) (by first | (have h_ln := ln_all; omega) | omega) dX6_mirror_53 ?_
    refine J.iinc (ls' := [(0, _), (1, _), (2, _)]) C dX6_mirror_54 rfl (by first | exact nI_inc _ 1 | exact rfl) (by decide) rfl ?_
    refine J.goto C dX6_mirror_57 (tgt := 6) (by decide) ?_
    refine J.lsx (ls' := [(0, _), (1, _)]) (ex := [(2, _)]) rfl ?_
    refine ih (i + 1) _ (by omega) ?_ (fun q a b => by rw [up2_n _ _ _ b, up2_n _ _ _ a]; exact hf q a b)
    exact nA_set (t := (t.1, t.2.1, mirR t.1 t.2.2 i)) (n := t.2.1) (i := i) (x := mir t.1 (t.2.2 i)) hn (by rw [up2_n _ _ _ (by decide), up2_n _ _ _ (by decide)]) (by rw [up2_n _ _ _ (by decide), up2_n _ _ _ (by decide)]; exact h1) (fun j q => Or.inr q) (fun j q => by rw [up2_n _ _ _ (by decide), up2_n _ _ _ (by decide)]) (fun j q => by rw [up2_n _ _ _ (by decide), up2_m _ _ _ q]) (fun j q => by rw [up2_m _ _ _ q, up2_n _ _ _ (by decide)]) (fun j q => by rw [up2_n _ _ _ (by decide), up2_n _ _ _ (by decide)]) (by rw [up2_n _ _ _ (by decide), up2_n _ _ _ (by decide)]; exact g1) (by rw [up2_n _ _ _ (by decide), up2_s]; rfl) (by rw [up2_s]; rfl) (fun q => by rw [up2_n _ _ _ (by decide), up2_n _ _ _ (by decide)]; exact g4 q)
set_option maxHeartbeats 4000000 in
set_option maxRecDepth 100000 in
theorem ok_X6_mirror (l : Launch) (V : Vx) {g : Sg} (I : Nat → Nat → Int32) (L : Nat → Nat → Int64) (h : AbM I L g) (ok : okG g) : PM l V yX6_mirror wsX6_mirror 3 [.ref (ad V 85)] I L (op_mirror g) := by
  have hN := h.nm
  have h0 := hN.1
  have hm := hN.2.1
  have hl2 := ok.1.1
  have hl8 := ok.1.2.1
  have h40 := ok.1.2.2.1
  have hq := h.2.1.1
  have hq25 := ok.2.2.1
  have hB := AbM_be h ok
  have hb0 : beM I g.2.1.length 85 0 = nI g.1.1 := hB.1.1
  have hb1 : beM I g.2.1.length 85 1 = nI g.1.2.1 := hB.1.2.1
  refine Ok.of (cc := cX6_mirror) (maxL := 3) (ret := (some .int)) (by decide) rfl (Nat.le_of_ble_eq_true rfl) (fun X hnm C => ?_)
  have C : CX l X V RX6 cX6_mirror 3 wsX6_mirror 3 0 0 (some .int) := C
  refine J.cast (ls' := [(0, _)]) rfl rfl rfl rfl ?_
  refine J.aload_n C dX6_mirror_0 rfl ?_
  refine J.cVDv (q := (RX6, TX6, 25)) (ci := 6) C (ok_X6_begins l V _ _ hq hq25) gX6_mirror_X6_begins rfl mfX6_begins rfl (by decide) (by decide) (by first | decide | omega) rfl rfl rfl rfl (Nat.le_of_ble_eq_true rfl) dX6_mirror_1 (Nat.le_refl _) (Nat.le_refl _) ?_
  refine J.iconst C dX6_mirror_4 (v := (nI 0)) (by decide) ?_
  refine J.istore_n (ls' := [(0, _), (1, _)]) C dX6_mirror_5 (by decide) rfl ?_
  refine lp_X6_mirror C ok.1 (I := beM I g.2.1.length) (fun J0 hn hf => ?_) g.1.2.1 0 _ (by omega) hB.1 (fun _ _ _ => rfl)
  exact qM_s ⟨rfl, AbM_net hB hn (fun j a b => by rw [hf 85 (by decide) (by decide)]) (fun q a b => hf q (by omega) (by omega)), fun k hk => by rw [hf k (by omega) (by omega)]; exact beM_o hk, frmL_rfl⟩
set_option maxHeartbeats 4000000 in
set_option maxRecDepth 100000 in
theorem lp_X6_drop_a {l : Launch} {X : Cx} {V : Vx} {P : Option Value → (Nat → va_E) → Prop} {I : Nat → Nat → Int32} {L : Nat → Nat → Int64} (C : CX l X V RX6 cX6_drop 3 wsX6_drop 4 0 0 (some .int)) {t : Nt} (ok : okN t) (hx : ∀ J0, (∀ k, k ≠ 102 → J0 k = I k) → (∀ j, j < t.2.1 → J0 102 j = bI (tb (Idl t j))) → E X V P 3 31 [(0, .ref (ad V 85)), (1, .int (nI t.2.1))] [] J0 L) (hN : NM I t) : ∀ (k i : Nat) (J0 : Nat → Nat → Int32), i + k = t.2.1 → (∀ k, k ≠ 102 → J0 k = I k) → (∀ j, j < i → J0 102 j = bI (tb (Idl t j))) → E X V P 3 6 [(0, .ref (ad V 85)), (1, .int (nI i))] [] J0 L := by
  intro k
  have h40 := ok.2.2.1
  induction k with
  | zero =>
    intro i J0 hi hf hb
    have e : i = t.2.1 := by omega
    subst e
    have h1 : J0 85 1 = nI t.2.1 := by rw [hf 85 (by decide)]; exact hN.2.1
    refine J.iload_n C dX6_drop_6 rfl ?_
    refine J.aload_n C dX6_drop_7 rfl ?_
    refine J.getI C flX6_drop_79 (by first | decide | omega) rfl (by exact rfl) (by first | ((repeat (first | refine up2_rd (by decide) ?_ | refine up2_rm (by decide) ?_ | refine up3_rd (by decide) ?_)) <;> (first | exact up2_s _ _ _ _ | assumption | exact rfl))) dX6_drop_8 ?_
    first | refine J.icmp_ge_n C (by omega) (by omega) dX6_drop_11 (tgt := 31) (by decide) (fun _ => ?_) (fun c11 => absurd c11 (by first | omega | decide | simp_all)) | refine J.icmp_ge_xn C (by omega) dX6_drop_11 (tgt := 31) (by decide) (fun _ => ?_) (fun c11 => absurd c11 (by first | omega | decide | simp_all)) | refine J.icmp_ge_nx C (by omega) dX6_drop_11 (tgt := 31) (by decide) (fun _ => ?_) (fun c11 => absurd c11 (by first | omega | decide | simp_all)) | refine J.icmp_ge C dX6_drop_11 (tgt := 31) (by decide) (fun _ => ?_) (fun c11 => absurd c11 (by first | omega | decide | simp_all))
    exact hx J0 hf hb
  | succ k ih =>
    intro i J0 hi hf hb
    have hNJ : NM J0 t := by unfold NM; rw [hf 85 (by decide), hf 86 (by decide), hf 87 (by decide), hf 88 (by decide), hf 89 (by decide)]; exact hN
    have h1 : J0 85 1 = nI t.2.1 := hNJ.2.1
    refine J.iload_n C dX6_drop_6 rfl ?_
    refine J.aload_n C dX6_drop_7 rfl ?_
    refine J.getI C flX6_drop_79 (by first | decide | omega) rfl (by exact rfl) (by first | ((repeat (first | refine up2_rd (by decide) ?_ | refine up2_rm (by decide) ?_ | refine up3_rd (by decide) ?_)) <;> (first | exact up2_s _ _ _ _ | assumption | exact rfl))) dX6_drop_8 ?_
    first | refine J.icmp_ge_n C (by omega) (by omega) dX6_drop_11 (tgt := 31) (by decide) (fun c11 => absurd c11 (by first | omega | decide | simp_all)) (fun _ => ?_) | refine J.icmp_ge_xn C (by omega) dX6_drop_11 (tgt := 31) (by decide) (fun c11 => absurd c11 (by first | omega | decide | simp_all)) (fun _ => ?_) | refine J.icmp_ge_nx C (by omega) dX6_drop_11 (tgt := 31) (by decide) (fun c11 => absurd c11 (by first | omega | decide | simp_all)) (fun _ => ?_) | refine J.icmp_ge C dX6_drop_11 (tgt := 31) (by decide) (fun c11 => absurd c11 (by first | omega | decide | simp_all)) (fun _ => ?_)
    refine J.aload_n C dX6_drop_14 rfl ?_
    refine J.getR C flX6_drop_64 (by first | decide | omega) rfl (by exact rfl) dX6_drop_15 ?_
    refine J.iload_n C dX6_drop_18 rfl ?_
    refine J.aload_n C dX6_drop_19 rfl ?_
    refine J.iload_n C dX6_drop_20 rfl ?_
    refine J.cVDi (q := (RX6, TX6, 25)) (ci := 6) C (ok_X6_isIdle l V _ _ hNJ ok (by omega)) gX6_drop_X6_isIdle rfl mfX6_isIdle rfl (by decide) (by decide) (by first | decide | omega) rfl rfl rfl rfl (Nat.le_of_ble_eq_true rfl) dX6_drop_21 (Nat.le_refl _) (Nat.le_refl _) ?_
    refine J.zas C (by first | exact bI_nar2 _ | exact rfl | decide | assumption) (by first | exact rfl | assumption) (by first | exact rfl | exact rfl) (by first | (have h_ln := ln_all; omega) | omega) dX6_drop_24 ?_
    refine J.iinc (ls' := [(0, _), (1, _)]) C dX6_drop_25 rfl (by first | exact nI_inc _ 1 | exact rfl) (by decide) rfl ?_
    refine J.goto C dX6_drop_28 (tgt := 6) (by decide) ?_
    refine ih (i + 1) _ (by omega) (fun q a => by rw [up2_n _ _ _ a]; exact hf q a) (fun j hj => ?_)
    by_cases e : j = i
    · subst e; rw [up2_s]
    · rw [up2_m _ _ _ e]; exact hb j (by omega)
set_option maxHeartbeats 4000000 in
set_option maxRecDepth 100000 in
theorem lp_X6_drop_b {l : Launch} {X : Cx} {V : Vx} {P : Option Value → (Nat → va_E) → Prop} {I : Nat → Nat → Int32} {L : Nat → Nat → Int64} (C : CX l X V RX6 cX6_drop 3 wsX6_drop 4 0 0 (some .int)) {t : Nt} (ok : okN t) (hP : ∀ J0, nA (J0 85 0) (J0 85 1) (J0 86) (J0 87) (J0 88) (J0 89) 0 (t.1, (drR t t.2.1).1, (drR t t.2.1).2) → (∀ j, j ≠ 1 → J0 85 j = I 85 j) → (∀ k, (k < 85 ∨ 90 ≤ k) → J0 k = I k) → P (some (.int (nI (t.2.1 - (drR t t.2.1).1)))) (mm V J0 L)) (hb : ∀ j, j < t.2.1 → I 102 j = bI (tb (Idl t j))) : ∀ (k i w : Nat) (J0 : Nat → Nat → Int32), i + k = t.2.1 → w = (drR t i).1 → nA (J0 85 0) (J0 85 1) (J0 86) (J0 87) (J0 88) (J0 89) 0 (t.1, t.2.1, (drR t i).2) → (∀ k, (k < 86 ∨ 90 ≤ k) → J0 k = I k) → E X V P 3 35 [(0, .ref (ad V 85)), (1, .int (nI w)), (2, .int (nI i))] [] J0 L := by
  intro k
  have h40 := ok.2.2.1
  induction k with
  | zero =>
    intro i w J0 hi hw hn hf
    have e : i = t.2.1 := by omega
    subst e
    have h1 : J0 85 1 = nI t.2.1 := hn.2.1
    have hle := drR_le (t := t) t.2.1
    refine J.iload_n C dX6_drop_35 rfl ?_
    refine J.aload_n C dX6_drop_36 rfl ?_
    refine J.getI C flX6_drop_79 (by first | decide | omega) rfl (by exact rfl) (by first | ((repeat (first | refine up2_rd (by decide) ?_ | refine up2_rm (by decide) ?_ | refine up3_rd (by decide) ?_)) <;> (first | exact up2_s _ _ _ _ | assumption | exact rfl))) dX6_drop_37 ?_
    first | refine J.icmp_ge_n C (by omega) (by omega) dX6_drop_40 (tgt := 112) (by decide) (fun _ => ?_) (fun c40 => absurd c40 (by first | omega | decide | simp_all)) | refine J.icmp_ge_xn C (by omega) dX6_drop_40 (tgt := 112) (by decide) (fun _ => ?_) (fun c40 => absurd c40 (by first | omega | decide | simp_all)) | refine J.icmp_ge_nx C (by omega) dX6_drop_40 (tgt := 112) (by decide) (fun _ => ?_) (fun c40 => absurd c40 (by first | omega | decide | simp_all)) | refine J.icmp_ge C dX6_drop_40 (tgt := 112) (by decide) (fun _ => ?_) (fun c40 => absurd c40 (by first | omega | decide | simp_all))
    refine J.aload_n C dX6_drop_112 rfl ?_
    refine J.getI C flX6_drop_79 (by first | decide | omega) rfl (by exact rfl) (by first | ((repeat (first | refine up2_rd (by decide) ?_ | refine up2_rm (by decide) ?_ | refine up3_rd (by decide) ?_)) <;> (first | exact up2_s _ _ _ _ | assumption | exact rfl))) dX6_drop_113 ?_
    refine J.iload_n C dX6_drop_116 rfl ?_
    first | refine J.isub_n C (by omega) dX6_drop_117 ?_ | refine J.isub C dX6_drop_117 ?_
    refine J.istore_n (ls' := [(0, _), (1, _), (2, _)]) C dX6_drop_118 (by decide) rfl ?_
    refine J.aload_n C dX6_drop_119 rfl ?_
    refine J.iload_n C dX6_drop_120 rfl ?_
    refine J.putI C fpX6_drop_79 (by first | decide | omega) rfl (Nat.le_of_ble_eq_true rfl) (by first | exact mp_6_1 rfl | exact mp_6_1 (by assumption)) dX6_drop_121 ?_
    refine J.iload_n C dX6_drop_124 rfl ?_
    refine J.iret C dX6_drop_125 ?_
    subst hw
    refine hP _ ⟨?_, up2_s _ _ _ _, fun j hj => ?_⟩ (fun j a => by rw [up2_m _ _ _ a, hf 85 (Or.inl (by decide))]) (fun q a => by rw [up2_n _ _ _ (by omega)]; exact hf q (by omega))
    · rw [up2_m _ _ _ (by decide)]; exact hn.1
    · rw [up2_n _ _ _ (by decide), up2_n _ _ _ (by decide), up2_n _ _ _ (by decide), up2_n _ _ _ (by decide)]
      exact hn.2.2 j (Nat.lt_of_lt_of_le hj hle)
  | succ k ih =>
    intro i w J0 hi hw hn hf
    have h1 : J0 85 1 = nI t.2.1 := hn.2.1
    have hle := drR_le (t := t) i
    have h102 : J0 102 i = bI (tb (Idl t i)) := by rw [hf 102 (Or.inr (by decide))]; exact hb i (by omega)
    have hi2 := hn.2.2 i (by show i < t.2.1; omega)
    rw [Nat.zero_add] at hi2
    rw [show (t.1, t.2.1, (drR t i).2).2.2 i = t.2.2 i from drR_ge i hle] at hi2
    obtain ⟨g1, g2, g3, g4⟩ := hi2
    refine J.iload_n C dX6_drop_35 rfl ?_
    refine J.aload_n C dX6_drop_36 rfl ?_
    refine J.getI C flX6_drop_79 (by first | decide | omega) rfl (by exact rfl) (by first | ((repeat (first | refine up2_rd (by decide) ?_ | refine up2_rm (by decide) ?_ | refine up3_rd (by decide) ?_)) <;> (first | exact up2_s _ _ _ _ | assumption | exact rfl))) dX6_drop_37 ?_
    first | refine J.icmp_ge_n C (by omega) (by omega) dX6_drop_40 (tgt := 112) (by decide) (fun c40 => absurd c40 (by first | omega | decide | simp_all)) (fun _ => ?_) | refine J.icmp_ge_xn C (by omega) dX6_drop_40 (tgt := 112) (by decide) (fun c40 => absurd c40 (by first | omega | decide | simp_all)) (fun _ => ?_) | refine J.icmp_ge_nx C (by omega) dX6_drop_40 (tgt := 112) (by decide) (fun c40 => absurd c40 (by first | omega | decide | simp_all)) (fun _ => ?_) | refine J.icmp_ge C dX6_drop_40 (tgt := 112) (by decide) (fun c40 => absurd c40 (by first | omega | decide | simp_all)) (fun _ => ?_)
    refine J.aload_n C dX6_drop_43 rfl ?_
    refine J.getR C flX6_drop_64 (by first | decide | omega) rfl (by exact rfl) dX6_drop_44 ?_
    refine J.iload_n C dX6_drop_47 rfl ?_
    refine J.za C (by first | exact rfl | assumption) (by first | exact rfl | exact rfl) (by first | (have h_ln := ln_all; omega) | omega) (by first | ((repeat (first | refine up2_rd (by decide) ?_ | refine up2_rm (by decide) ?_ | refine up3_rd (by decide) ?_)) <;> (first | exact up2_s _ _ _ _ | assumption | exact rfl))) dX6_drop_48 ?_
    first | refine J.if_eq_b C dX6_drop_49 (tgt := 55) (by decide) (fun c49t => ?_) (fun c49f => ?_) | refine J.if_eq_n C (by omega) dX6_drop_49 (tgt := 55) (by decide) (fun c49t => ?_) (fun c49f => ?_) | refine J.if_eq C dX6_drop_49 (tgt := 55) (by decide) (fun c49t => ?_) (fun c49f => ?_)
    · have e1 : drR t (i + 1) = ((drR t i).1 + 1, va_up (drR t i).2 (drR t i).1 (t.2.2 i)) := by show cond (tb (Idl t i)) _ _ = _; rw [c49t]; rfl
      refine J.aload_n C dX6_drop_55 rfl ?_
      refine J.getR C flX6_drop_13 (by first | decide | omega) rfl (by exact rfl) dX6_drop_56 ?_
      refine J.iload_n C dX6_drop_59 rfl ?_
      refine J.aload_n C dX6_drop_60 rfl ?_
      refine J.getR C flX6_drop_13 (by first | decide | omega) rfl (by exact rfl) dX6_drop_61 ?_
      refine J.iload_n C dX6_drop_64 rfl ?_
      refine J.ia C (by first | exact rfl | assumption) (by first | exact rfl | exact rfl) (by first | (have h_ln := ln_all; omega) | omega) (by first | exact g1 | ((repeat (first | refine up2_rd (by decide) ?_ | refine up2_rm (by decide) ?_ | refine up3_rd (by decide) ?_)) <;> (first | exact up2_s _ _ _ _ | assumption | exact rfl))) dX6_drop_65 ?_
      refine J.ias C (by first | exact rfl | assumption) (by first | exact rfl | exact rfl) (by first | (have h_ln := ln_all; omega) | omega) dX6_drop_66 ?_
      refine J.aload_n C dX6_drop_67 rfl ?_
      refine J.getR C flX6_drop_17 (by first | decide | omega) rfl (by exact rfl) dX6_drop_68 ?_
      refine J.iload_n C dX6_drop_71 rfl ?_
      refine J.aload_n C dX6_drop_72 rfl ?_
      refine J.getR C flX6_drop_17 (by first | decide | omega) rfl (by exact rfl) dX6_drop_73 ?_
      refine J.iload_n C dX6_drop_76 rfl ?_
      refine J.ia C (by first | exact rfl | assumption) (by first | exact rfl | exact rfl) (by first | (have h_ln := ln_all; omega) | omega) (by first | exact up2_rd (by decide) g2 | ((repeat (first | refine up2_rd (by decide) ?_ | refine up2_rm (by decide) ?_ | refine up3_rd (by decide) ?_)) <;> (first | exact up2_s _ _ _ _ | assumption | exact rfl))) dX6_drop_77 ?_
      refine J.ias C (by first | exact rfl | assumption) (by first | exact rfl | exact rfl) (by first | (have h_ln := ln_all; omega) | omega) dX6_drop_78 ?_
      refine J.aload_n C dX6_drop_79 rfl ?_
      refine J.getR C flX6_drop_20 (by first | decide | omega) rfl (by exact rfl) dX6_drop_80 ?_
      refine J.iload_n C dX6_drop_83 rfl ?_
      refine J.aload_n C dX6_drop_84 rfl ?_
      refine J.getR C flX6_drop_20 (by first | decide | omega) rfl (by exact rfl) dX6_drop_85 ?_
      refine J.iload_n C dX6_drop_88 rfl ?_
      refine J.ia C (by first | exact rfl | assumption) (by first | exact rfl | exact rfl) (by first | (have h_ln := ln_all; omega) | omega) (by first | exact up2_rd (by decide) (up2_rd (by decide) g3) | ((repeat (first | refine up2_rd (by decide) ?_ | refine up2_rm (by decide) ?_ | refine up3_rd (by decide) ?_)) <;> (first | exact up2_s _ _ _ _ | assumption | exact rfl))) dX6_drop_89 ?_
      refine J.ias C (by first | exact rfl | assumption) (by first | exact rfl | exact rfl) (by first | (have h_ln := ln_all; omega) | omega) dX6_drop_90 ?_
      refine J.aload_n C dX6_drop_91 rfl ?_
      refine J.getR C flX6_drop_23 (by first | decide | omega) rfl (by exact rfl) dX6_drop_92 ?_
      refine J.iload_n C dX6_drop_95 rfl ?_
      refine J.aload_n C dX6_drop_96 rfl ?_
      refine J.getR C flX6_drop_23 (by first | decide | omega) rfl (by exact rfl) dX6_drop_97 ?_
      refine J.iload_n C dX6_drop_100 rfl ?_
      refine J.za C (by first | exact rfl | assumption) (by first | exact rfl | exact rfl) (by first | (have h_ln := ln_all; omega) | omega) (by first | exact up2_rd (by decide) (up2_rd (by decide) (up2_rd (by decide) rfl)) | ((repeat (first | refine up2_rd (by decide) ?_ | refine up2_rm (by decide) ?_ | refine up3_rd (by decide) ?_)) <;> (first | exact up2_s _ _ _ _ | assumption | exact rfl))) dX6_drop_101 ?_
      refine J.zan C (by first | exact rfl | assumption) (by first | exact rfl | exact rfl) (by first | (have h_ln := ln_all; omega) | omega) dX6_drop_102 ?_
      refine J.iinc (ls' := [(0, _), (1, _), (2, _)]) C dX6_drop_103 rfl (by first | exact nI_inc _ 1 | exact rfl) (by decide) rfl ?_
      refine J.iinc (ls' := [(0, _), (1, _), (2, _)]) C dX6_drop_106 rfl (by first | exact nI_inc _ 1 | exact rfl) (by decide) rfl ?_
      refine J.goto C dX6_drop_109 (tgt := 35) (by decide) ?_
      refine ih (i + 1) _ _ (by omega) (by rw [e1, hw]) ?_ (fun q a => by rw [up2_n _ _ _ (by omega), up2_n _ _ _ (by omega), up2_n _ _ _ (by omega), up2_n _ _ _ (by omega)]; exact hf q a)
      rw [e1]
      subst hw
      exact nA_set (t := (t.1, t.2.1, (drR t i).2)) (n := t.2.1) (i := (drR t i).1) (x := t.2.2 i) hn (by rw [up2_n _ _ _ (by decide), up2_n _ _ _ (by decide), up2_n _ _ _ (by decide), up2_n _ _ _ (by decide)]) (by rw [up2_n _ _ _ (by decide), up2_n _ _ _ (by decide), up2_n _ _ _ (by decide), up2_n _ _ _ (by decide)]; exact h1) (fun j q => Or.inr q) (fun j q => by rw [up2_n _ _ _ (by decide), up2_n _ _ _ (by decide), up2_n _ _ _ (by decide), up2_m _ _ _ q]) (fun j q => by rw [up2_n _ _ _ (by decide), up2_n _ _ _ (by decide), up2_m _ _ _ q, up2_n _ _ _ (by decide)]) (fun j q => by rw [up2_n _ _ _ (by decide), up2_m _ _ _ q, up2_n _ _ _ (by decide), up2_n _ _ _ (by decide)]) (fun j q => by rw [up2_m _ _ _ q, up2_n _ _ _ (by decide), up2_n _ _ _ (by decide), up2_n _ _ _ (by decide)]) (by rw [up2_n _ _ _ (by decide), up2_n _ _ _ (by decide), up2_n _ _ _ (by decide), up2_s]) (by rw [up2_n _ _ _ (by decide), up2_n _ _ _ (by decide), up2_s]) (by rw [up2_n _ _ _ (by decide), up2_s]) (fun q => by rw [up2_s, g4 q, zn_b])
    · have e1 : drR t (i + 1) = drR t i := by show cond (tb (Idl t i)) _ _ = _; rw [c49f]; rfl
      refine J.goto C dX6_drop_52 (tgt := 106) (by decide) ?_
      refine J.iinc (ls' := [(0, _), (1, _), (2, _)]) C dX6_drop_106 rfl (by first | exact nI_inc _ 1 | exact rfl) (by decide) rfl ?_
      refine J.goto C dX6_drop_109 (tgt := 35) (by decide) ?_
      exact ih (i + 1) _ _ (by omega) (by rw [e1]; exact hw) (by rw [e1]; exact hn) hf
