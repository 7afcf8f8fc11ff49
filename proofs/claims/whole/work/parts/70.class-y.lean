/-! THE CLASS: find -/
theorem Fnd_of {n len s : Nat} {x : Int64} {a p : Nat → Int32} (h2 : 2 ≤ n) (h4 : n ≤ 4) (hl : len < 10) (hz : ∀ r, 2 ^ n ≤ r → r < 16 → rowX x r = 0) (hm : ∀ m, m < len → ¬ m16 n x m) (hs : isL (nPr n ^ len) (PS n len x) (some s)) (ha : a 1 = nI len) (hd : ∀ k, k < len → p k = nI (pv n (dg (nPr n) len s k))) : FndC n x a p := by
  have e : ∀ m z, S16 n x m z ↔ SrtX n x m z := fun m z => S16_iff hz h4
  have em : ∀ m, m16 n x m ↔ misX n x m := fun m => ⟨fun ⟨z, z1, z2⟩ => ⟨z, z1, (e m z).mp z2⟩, fun ⟨z, z1, z2⟩ => ⟨z, z1, (e m z).mpr z2⟩⟩
  have hS := PS_S h2 h4 len x s hs.1 hs.2.1
  exact ⟨len, s, ⟨hl, ⟨s, hs.1, (e _ _).mp hS⟩, fun r hr q => hm r hr ((em r).mpr q)⟩, ⟨hs.1, (e _ _).mp hS, fun r hr q => hs.2.2 r hr (S_PS h2 h4 len x r (Nat.lt_trans hr hs.1) hm ((e _ _).mpr q))⟩, ha, hd⟩
def QN (n : Nat) (x : Int64) (I : Nat → Nat → Int32) (L : Nat → Nat → Int64) (I' : Nat → Nat → Int32) (L' : Nat → Nat → Int64) : Prop := (∀ k, k ≠ 61 → k ≠ 62 → I' k = I k) ∧ (∀ k, k ≠ 61 → L' k = L k) ∧ I' 61 2 = nI n ∧ L' 61 3 = x ∧ FndC n x (I' 61) (I' 62)
set_option maxHeartbeats 4000000 in
set_option maxRecDepth 100000 in
theorem lp_X0_find {l : Launch} {X : Cx} {V : Vx} {P : Option Value → (Nat → va_E) → Prop} {I : Nat → Nat → Int32} {L : Nat → Nat → Int64} (C : CX l X V RX0 cX0_find 6 wsX0_find 10 0 0 none) {n : Nat} {x : Int64} (hn2 : 2 ≤ n) (hn4 : n ≤ 4) (hz : ∀ r, 2 ^ n ≤ r → r < 16 → rowX x r = 0) (hP : ∀ J0, (∀ k, k ≠ 61 → k ≠ 62 → J0 k = I k) → (∀ j, j ≠ 1 → J0 61 j = I 61 j) → FndC n x (J0 61) (J0 62) → P none (mm V J0 L)) : ∀ (z i : Nat) (J0 : Nat → Nat → Int32), i + z = 6 → (∀ k, k ≠ 61 → k ≠ 62 → J0 k = I k) → (∀ j, j ≠ 1 → J0 61 j = I 61 j) → (∀ q, q < i → ¬ m16 n x q) → E X V P 6 34 [(0, .ref (ad V 61)), (1, .int (nI n)), (2, .long x), (4, .int (nI 0)), (5, .int (nI i))] [] J0 L := by
  intro z
  induction z with
  | zero =>
    intro i J0 hi hf hf1 hq
    obtain ⟨w, w1, w2⟩ := m16_5 hn2 hn4 x
    exact absurd w2 (hq w (by omega))
  | succ z ih =>
    intro i J0 hi hf hf1 hq
    have hc := ok_X0_completes l V L hn2 hn4 i 0 x J0 (by omega)
    rw [Nat.zero_add] at hc
    refine J.iload C dX0_find_34 rfl ?_
    refine J.iconst C dX0_find_36 (v := (nI 5)) (by decide) ?_
    first | refine J.icmp_gt_n C (by omega) (by omega) dX0_find_37 (tgt := 71) (by decide) (fun c37 => absurd c37 (by first | omega | decide | simp_all)) (fun _ => ?_) | refine J.icmp_gt_xn C (by omega) dX0_find_37 (tgt := 71) (by decide) (fun c37 => absurd c37 (by first | omega | decide | simp_all)) (fun _ => ?_) | refine J.icmp_gt_nx C (by omega) dX0_find_37 (tgt := 71) (by decide) (fun c37 => absurd c37 (by first | omega | decide | simp_all)) (fun _ => ?_) | refine J.icmp_gt C dX0_find_37 (tgt := 71) (by decide) (fun c37 => absurd c37 (by first | omega | decide | simp_all)) (fun _ => ?_)
    refine J.iload C dX0_find_40 rfl ?_
    first | refine J.if_ne_b C dX0_find_42 (tgt := 71) (by decide) (fun c42 => absurd c42 (by first | omega | decide | simp_all)) (fun _ => ?_) | refine J.if_ne_n C (by omega) dX0_find_42 (tgt := 71) (by decide) (fun c42 => absurd c42 (by first | omega | decide | simp_all)) (fun _ => ?_) | refine J.if_ne C dX0_find_42 (tgt := 71) (by decide) (fun c42 => absurd c42 (by first | omega | decide | simp_all)) (fun _ => ?_)
    refine J.lload_n C dX0_find_45 rfl ?_
    refine J.iload_n C dX0_find_46 rfl ?_
    refine J.iconst C dX0_find_47 (v := (nI 0)) (by decide) ?_
    refine J.iload C dX0_find_48 rfl ?_
    refine J.aload_n C dX0_find_50 rfl ?_
    refine J.getR C flX0_find_9 (by first | decide | omega) rfl (by exact rfl) dX0_find_51 ?_
    refine J.cSGi C hc gX0_find_X0_completes rfl mfX0_completes (by omega) (by decide) rfl rfl (Nat.le_of_ble_eq_true rfl) dX0_find_54 (Nat.le_refl _) (Nat.le_refl _) (fun r54 I54 L54 h54 => ?_)
    obtain ⟨rfl, hf2, o, ho, rfl, hd⟩ := h54
    refine J.istore (ls' := [(0, _), (1, _), (2, _), (4, _), (5, _)]) C dX0_find_57 (by decide) rfl ?_
    refine J.aload_n C dX0_find_59 rfl ?_
    refine J.iload C dX0_find_60 rfl ?_
    refine J.putI C fpX0_find_15 (by first | decide | omega) rfl (Nat.le_of_ble_eq_true rfl) (by first | exact mp_0_1 rfl | exact mp_0_1 (by assumption)) dX0_find_62 ?_
    refine J.iinc (ls' := [(0, _), (1, _), (2, _), (4, _), (5, _)]) C dX0_find_65 rfl (by first | exact nI_inc _ 1 | exact rfl) (by decide) rfl ?_
    refine J.goto C dX0_find_68 (tgt := 34) (by decide) ?_
    have g1 : ∀ k, k ≠ 61 → k ≠ 62 → up2 I54 61 1 (nI i) k = I k := fun k a b => by rw [up2_n _ _ _ a, hf2.1 k b]; exact hf k a b
    have g2 : ∀ j, j ≠ 1 → up2 I54 61 1 (nI i) 61 j = I 61 j := fun j a => by rw [up2_m _ _ _ a, hf2.1 61 (by decide)]; exact hf1 j a
    cases o with
    | none =>
      refine ih (i + 1) _ (by omega) g1 g2 (fun q hlt w => ?_)
      obtain ⟨s, s1, s2⟩ := w
      rcases Nat.lt_or_ge q i with e | e
      · exact hq q e ⟨s, s1, s2⟩
      · obtain rfl : q = i := by omega
        exact ho s s1 (S_PS hn2 hn4 q x s s1 hq s2)
    | some s =>
      have hF : FndC n x (up2 I54 61 1 (nI i) 61) (up2 I54 61 1 (nI i) 62) := Fnd_of hn2 hn4 (by omega) hz hq ho (up2_s _ _ _ _) (fun k hk => by rw [up2_n _ _ _ (by decide)]; have w := hd s rfl k hk; rw [Nat.zero_add] at w; exact w)
      refine J.iload C dX0_find_34 rfl ?_
      refine J.iconst C dX0_find_36 (v := (nI 5)) (by decide) ?_
      first | refine J.icmp_gt_n C (by omega) (by omega) dX0_find_37 (tgt := 71) (by decide) (fun c37t => ?_) (fun c37f => ?_) | refine J.icmp_gt_xn C (by omega) dX0_find_37 (tgt := 71) (by decide) (fun c37t => ?_) (fun c37f => ?_) | refine J.icmp_gt_nx C (by omega) dX0_find_37 (tgt := 71) (by decide) (fun c37t => ?_) (fun c37f => ?_) | refine J.icmp_gt C dX0_find_37 (tgt := 71) (by decide) (fun c37t => ?_) (fun c37f => ?_)
      · exact J.vret C dX0_find_71 (hP _ g1 g2 hF)
      · refine J.iload C dX0_find_40 rfl ?_
        refine J.if_ne_b C dX0_find_42 (tgt := 71) (by decide) (fun _ => ?_) (fun c42 => absurd c42 (fun q => by cases q))
        exact J.vret C dX0_find_71 (hP _ g1 g2 hF)
set_option maxHeartbeats 4000000 in
set_option maxRecDepth 100000 in
theorem ok_X0_find (l : Launch) (V : Vx) {n : Nat} {x : Int64} (I : Nat → Nat → Int32) (L : Nat → Nat → Int64) (hn2 : 2 ≤ n) (hn4 : n ≤ 4) (hz : ∀ r, 2 ^ n ≤ r → r < 16 → rowX x r = 0) (hk : kC (I 61) (I 62) (L 61 3)) : Gv l V yX0_find wsX0_find 10 [.ref (ad V 61), .int (nI n), .long x] I L (fun I' L' => QN n x I L I' L') := by
  obtain ⟨L0, hL0, hc⟩ := hk
  have hL4 : L0 ≤ 4 := by rcases hc with e | e <;> omega
  refine Ok.of (cc := cX0_find) (maxL := 6) (ret := none) (by decide) rfl (Nat.le_of_ble_eq_true rfl) (fun X hnm C => ?_)
  have C : CX l X V RX0 cX0_find 6 wsX0_find 10 0 0 none := C
  refine J.cast (ls' := [(0, _), (1, _), (2, _)]) rfl rfl rfl rfl ?_
  refine J.iload_n C dX0_find_0 rfl ?_
  refine J.aload_n C dX0_find_1 rfl ?_
  refine J.getI C flX0_find_19 (by first | decide | omega) rfl (by exact rfl) (by first | ((repeat (first | rewrite [up2_n _ _ _ (by first | decide | omega)] | rewrite [up2_m _ _ _ (by decide)] | rewrite [up3_n _ _ _ (by first | decide | omega)])) <;> (first | exact up2_s _ _ _ _ | exact up3_s _ _ _ _ | assumption | exact rfl))) dX0_find_2 ?_
  first | refine J.icmp_ne_n C (by omega) (by omega) dX0_find_5 (tgt := 18) (by decide) (fun c5t => ?_) (fun c5f => ?_) | refine J.icmp_ne_xn C (by omega) dX0_find_5 (tgt := 18) (by decide) (fun c5t => ?_) (fun c5f => ?_) | refine J.icmp_ne_nx C (by omega) dX0_find_5 (tgt := 18) (by decide) (fun c5t => ?_) (fun c5f => ?_) | refine J.icmp_ne C dX0_find_5 (tgt := 18) (by decide) (fun c5t => ?_) (fun c5f => ?_)
  · refine J.aload_n C dX0_find_18 rfl ?_
    refine J.iload_n C dX0_find_19 rfl ?_
    refine J.putI C fpX0_find_19 (by first | decide | omega) rfl (Nat.le_of_ble_eq_true rfl) (by first | exact mp_0_2 rfl | exact mp_0_2 (by assumption)) dX0_find_20 ?_
    refine J.aload_n C dX0_find_23 rfl ?_
    refine J.lload_n C dX0_find_24 rfl ?_
    refine J.putL C fpX0_find_22 (by first | decide | omega) rfl (Nat.le_of_ble_eq_true rfl) (by first | exact mp_0_3 rfl | exact mp_0_3 (by assumption)) dX0_find_25 ?_
    refine J.iconst C dX0_find_28 (v := (nI 0)) (by decide) ?_
    refine J.istore (ls' := [(0, _), (1, _), (2, _), (4, _)]) C dX0_find_29 (by decide) rfl ?_
    refine J.iconst C dX0_find_31 (v := (nI 0)) (by decide) ?_
    refine J.istore (ls' := [(0, _), (1, _), (2, _), (4, _), (5, _)]) C dX0_find_32 (by decide) rfl ?_
    refine lp_X0_find C hn2 hn4 hz (I := up2 I 61 2 (nI n)) (fun J0 g1 g2 hF => ?_) 6 0 _ (by omega) (fun _ _ _ => rfl) (fun _ _ => rfl) (fun q hq => absurd hq (Nat.not_lt_zero q))
    exact ⟨J0, _, rfl, rfl, fun k a b => by rw [g1 k a b, up2_n _ _ _ a], fun k a => up3_n _ _ _ a, by rw [g2 2 (by decide)]; exact up2_s _ _ _ _, up3_s _ _ _ _, hF⟩
  · refine J.lload_n C dX0_find_8 rfl ?_
    refine J.aload_n C dX0_find_9 rfl ?_
    refine J.getL C flX0_find_22 (by first | decide | omega) rfl (by exact rfl) (by first | ((repeat (first | rewrite [up2_n _ _ _ (by first | decide | omega)] | rewrite [up2_m _ _ _ (by decide)] | rewrite [up3_n _ _ _ (by first | decide | omega)])) <;> (first | exact up2_s _ _ _ _ | exact up3_s _ _ _ _ | assumption | exact rfl))) dX0_find_10 ?_
    refine J.lcmp C dX0_find_13 ?_
    refine J.if_ne_c C dX0_find_14 (tgt := 18) (by decide) (fun c14t => ?_) (fun c14f => ?_)
    · refine J.aload_n C dX0_find_18 rfl ?_
      refine J.iload_n C dX0_find_19 rfl ?_
      refine J.putI C fpX0_find_19 (by first | decide | omega) rfl (Nat.le_of_ble_eq_true rfl) (by first | exact mp_0_2 rfl | exact mp_0_2 (by assumption)) dX0_find_20 ?_
      refine J.aload_n C dX0_find_23 rfl ?_
      refine J.lload_n C dX0_find_24 rfl ?_
      refine J.putL C fpX0_find_22 (by first | decide | omega) rfl (Nat.le_of_ble_eq_true rfl) (by first | exact mp_0_3 rfl | exact mp_0_3 (by assumption)) dX0_find_25 ?_
      refine J.iconst C dX0_find_28 (v := (nI 0)) (by decide) ?_
      refine J.istore (ls' := [(0, _), (1, _), (2, _), (4, _)]) C dX0_find_29 (by decide) rfl ?_
      refine J.iconst C dX0_find_31 (v := (nI 0)) (by decide) ?_
      refine J.istore (ls' := [(0, _), (1, _), (2, _), (4, _), (5, _)]) C dX0_find_32 (by decide) rfl ?_
      refine lp_X0_find C hn2 hn4 hz (I := up2 I 61 2 (nI n)) (fun J0 g1 g2 hF => ?_) 6 0 _ (by omega) (fun _ _ _ => rfl) (fun _ _ => rfl) (fun q hq => absurd hq (Nat.not_lt_zero q))
      exact ⟨J0, _, rfl, rfl, fun k a b => by rw [g1 k a b, up2_n _ _ _ a], fun k a => up3_n _ _ _ a, by rw [g2 2 (by decide)]; exact up2_s _ _ _ _, up3_s _ _ _ _, hF⟩
    · exact J.vret C dX0_find_17 ⟨I, L, rfl, rfl, fun _ _ _ => rfl, fun _ _ => rfl, by rw [hL0, c5f], c14f.symm, by
            rcases hc with e | e
            · omega
            · rw [c5f, c14f]; exact e.2.2⟩
