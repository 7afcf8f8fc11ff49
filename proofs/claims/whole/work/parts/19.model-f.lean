/-! THE REFERENCE: nets that are kept -/
theorem AbM_keep {I : Nat → Nat → Int32} {L : Nat → Nat → Int64} {g : Sg} {k : Nat} (h : AbM I L g) (ok : okG g) (hk : k < 4) : AbM (stM I (25 + k)) L (g.1, g.2.1, va_up g.2.2.1 k (some g.1), g.2.2.2) := by
  obtain ⟨h1, ⟨h2a, h2b, h2c⟩, h3, h4, h5, h6⟩ := h
  have eo : ∀ q, q ≠ 90 → q ≠ 91 → q ≠ 92 → q ≠ 93 → q ≠ 94 → q ≠ 95 → stM I (25 + k) q = I q := fun q a1 a2 a3 a4 a5 a6 => stM_o a1 a2 a3 a4 a5 a6
  refine ⟨?_, ⟨?_, h2b, fun j t hj => ?_⟩, fun q hq => ?_, ?_, ?_, ?_⟩
  · rw [stM_85, eo 86 (by decide) (by decide) (by decide) (by decide) (by decide) (by decide), eo 87 (by decide) (by decide) (by decide) (by decide) (by decide) (by decide), eo 88 (by decide) (by decide) (by decide) (by decide) (by decide) (by decide), eo 89 (by decide) (by decide) (by decide) (by decide) (by decide) (by decide)]; exact h1
  · rw [stM_85]; exact h2a
  · have hl : j < g.2.1.length := (List.getElem?_eq_some_iff.mp hj).1
    exact stM_out (by show g.2.1.length - 1 - j ≠ 25 + k; omega) (h2c j t hj) (ok.2.1 t (List.mem_of_getElem? hj)).2.2.1
  · show match va_up g.2.2.1 k (some g.1) q with | some t => _ | none => _
    by_cases e : q = k
    · subst e
      rw [va_up_self]
      exact stM_in h1 ok.1.2.2.1
    · rw [va_up_ne _ _ e]
      have w := h3 q hq
      cases hs : g.2.2.1 q with
      | none =>
        rw [hs] at w
        show stM I (25 + k) 90 (25 + q) = nI 0
        rw [(stM_v I (25 + k)).1, if_neg (by omega)]
        exact w
      | some t =>
        rw [hs] at w
        exact stM_out (by omega) w (ok.2.2.2.1 q t hq hs).2.2.1
  · rw [eo 96 (by decide) (by decide) (by decide) (by decide) (by decide) (by decide), eo 97 (by decide) (by decide) (by decide) (by decide) (by decide) (by decide)]; exact h4
  · rw [stM_85, eo 99 (by decide) (by decide) (by decide) (by decide) (by decide) (by decide)]; exact h5
  · rw [stM_85]; exact h6
set_option maxHeartbeats 4000000 in
set_option maxRecDepth 100000 in
theorem ok_X6_keep (l : Launch) (V : Vx) {g : Sg} {x1 : Int32} {o1 : Option Nat} (I : Nat → Nat → Int32) (L : Nat → Nat → Int64) (hx1 : AG x1 o1) (h : AbM I L g) (ok : okG g) : PM l V yX6_keep wsX6_keep 3 [.ref (ad V 85), .int x1] I L (op_keep g o1) := by
  have hN := h.nm
  have h0 := hN.1
  have hm := hN.2.1
  have hl2 := ok.1.1
  have hl8 := ok.1.2.1
  have h40 := ok.1.2.2.1
  have hq := h.2.1.1
  have hq25 := ok.2.2.1
  have hB := AbM_be h ok
  have hb0 : beM I g.2.1.length 85 0 = nI g.1.1 := hB.1.1
  have hb1 : beM I g.2.1.length 85 1 = nI g.1.2.1 := hB.1.2.1
  refine Ok.of (cc := cX6_keep) (maxL := 2) (ret := (some .int)) (by decide) rfl (Nat.le_of_ble_eq_true rfl) (fun X hnm C => ?_)
  have C : CX l X V RX6 cX6_keep 2 wsX6_keep 3 0 0 (some .int) := C
  refine J.cast (ls' := [(0, _), (1, _)]) rfl rfl rfl rfl ?_
  refine J.iload_n C dX6_keep_0 rfl ?_
  refine J.cSDi C (ok_X6_isSlot l V _ _ hx1) gX6_keep_X6_isSlot rfl mfX6_isSlot (by decide) (by decide) rfl rfl (Nat.le_of_ble_eq_true rfl) dX6_keep_1 (Nat.le_refl _) (Nat.le_refl _) ?_
  first | refine J.if_ne_b C dX6_keep_4 (tgt := 13) (by decide) (fun c4t => ?_) (fun c4f => ?_) | refine J.if_ne_n C (by omega) dX6_keep_4 (tgt := 13) (by decide) (fun c4t => ?_) (fun c4f => ?_) | refine J.if_ne C dX6_keep_4 (tgt := 13) (by decide) (fun c4t => ?_) (fun c4f => ?_)
  · obtain ⟨k, rfl, hk⟩ := tb_t.mp c4t
    obtain ⟨-, rfl⟩ := hx1
    unfold op_keep
    rw [c4t]
    have hs1 : stM I (25 + k) 85 1 = nI g.1.2.1 := by rw [stM_85]; exact hm
    refine J.aload_n C dX6_keep_13 rfl ?_
    refine J.bipush C dX6_keep_14 (v := (nI 25)) (by decide) ?_
    refine J.iload_n C dX6_keep_16 rfl ?_
    first | refine J.iadd_n C dX6_keep_17 ?_ | refine J.iadd C dX6_keep_17 ?_
    refine J.cVDv (q := (RX6, TX6, 25)) (ci := 6) C (ok_X6_store l V _ _ (by omega)) gX6_keep_X6_store rfl mfX6_store rfl (by decide) (by decide) (by first | decide | omega) rfl rfl rfl rfl (Nat.le_of_ble_eq_true rfl) dX6_keep_18 (Nat.le_refl _) (Nat.le_refl _) ?_
    refine J.aload_n C dX6_keep_21 rfl ?_
    refine J.getI C flX6_keep_79 (by first | decide | omega) rfl (by exact rfl) (by first | ((repeat (first | refine up2_rd (by decide) ?_ | refine up2_rm (by decide) ?_ | refine up3_rd (by decide) ?_)) <;> (first | exact up2_s _ _ _ _ | assumption | exact rfl))) dX6_keep_22 ?_
    exact J.iret C dX6_keep_25 (qM_s ⟨rfl, AbM_keep h ok hk, (by repeat (first | exact frm_rfl | refine frm_up (by decide) ?_ | refine frm_be ?_ | refine frm_rs ?_ | refine frm_st ?_ | refine frm_F ?_)), frmL_rfl⟩)
  · refine J.aload_n C dX6_keep_7 rfl ?_
    refine J.iconst C dX6_keep_8 (v := (-1)) (by decide) ?_
    refine J.cVDi (q := (RX6, TX6, 25)) (ci := 6) C (ok_X6_found l V _ _ _) gX6_keep_X6_found rfl mfX6_found rfl (by decide) (by decide) (by first | decide | omega) rfl rfl rfl rfl (Nat.le_of_ble_eq_true rfl) dX6_keep_9 (Nat.le_refl _) (Nat.le_refl _) ?_
    exact J.iret C dX6_keep_12 (qM_s (by unfold op_keep; rw [c4f]; exact qM_F h))
set_option maxHeartbeats 4000000 in
set_option maxRecDepth 100000 in
theorem ok_X6_bring (l : Launch) (V : Vx) {g : Sg} {x1 : Int32} {o1 : Option Nat} (I : Nat → Nat → Int32) (L : Nat → Nat → Int64) (hx1 : AG x1 o1) (h : AbM I L g) (ok : okG g) : PM l V yX6_bring wsX6_bring 3 [.ref (ad V 85), .int x1] I L (op_bring g o1) := by
  have hN := h.nm
  have h0 := hN.1
  have hm := hN.2.1
  have hl2 := ok.1.1
  have hl8 := ok.1.2.1
  have h40 := ok.1.2.2.1
  have hq := h.2.1.1
  have hq25 := ok.2.2.1
  have hB := AbM_be h ok
  have hb0 : beM I g.2.1.length 85 0 = nI g.1.1 := hB.1.1
  have hb1 : beM I g.2.1.length 85 1 = nI g.1.2.1 := hB.1.2.1
  unfold op_bring
  by_cases hi : inO o1 4
  · obtain ⟨k, rfl, hk⟩ := id hi
    have hk31 := hx1.1
    obtain ⟨-, rfl⟩ := hx1
    have hx1 : AG (nI k) (some k) := ⟨hk31, rfl⟩
    rw [tb_1 hi]
    have hS := h.2.2.1 k hk
    have hSB := hB.2.2.1 k hk
    show PM l V _ _ _ _ I L (match g.2.2.1 k with | some t => _ | none => _)
    cases hs : g.2.2.1 k with
    | none =>
      rw [hs] at hS
      refine Ok.of (cc := cX6_bring) (maxL := 2) (ret := (some .int)) (by decide) rfl (Nat.le_of_ble_eq_true rfl) (fun X hnm C => ?_)
      have C : CX l X V RX6 cX6_bring 2 wsX6_bring 3 0 0 (some .int) := C
      refine J.cast (ls' := [(0, _), (1, _)]) rfl rfl rfl rfl ?_
      refine J.iload_n C dX6_bring_0 rfl ?_
      refine J.cSDi C (ok_X6_isSlot l V _ _ hx1) gX6_bring_X6_isSlot rfl mfX6_isSlot (by decide) (by decide) rfl rfl (Nat.le_of_ble_eq_true rfl) dX6_bring_1 (Nat.le_refl _) (Nat.le_refl _) ?_
      rw [tb_1 hi]
      first | refine J.if_ne_b C dX6_bring_4 (tgt := 13) (by decide) (fun _ => ?_) (fun c4 => absurd c4 (by first | omega | decide | simp_all)) | refine J.if_ne_n C (by omega) dX6_bring_4 (tgt := 13) (by decide) (fun _ => ?_) (fun c4 => absurd c4 (by first | omega | decide | simp_all)) | refine J.if_ne C dX6_bring_4 (tgt := 13) (by decide) (fun _ => ?_) (fun c4 => absurd c4 (by first | omega | decide | simp_all))
      refine J.aload_n C dX6_bring_13 rfl ?_
      refine J.getR C flX6_bring_27 (by first | decide | omega) rfl (by exact rfl) dX6_bring_14 ?_
      refine J.bipush C dX6_bring_17 (v := (nI 25)) (by decide) ?_
      refine J.iload_n C dX6_bring_19 rfl ?_
      first | refine J.iadd_n C dX6_bring_20 ?_ | refine J.iadd C dX6_bring_20 ?_
      refine J.ia C (by first | exact rfl | assumption) (by first | exact rfl | exact rfl) (by first | (have h_ln := ln_all; omega) | omega) (by first | ((repeat (first | refine up2_rd (by decide) ?_ | refine up2_rm (by decide) ?_ | refine up3_rd (by decide) ?_)) <;> (first | exact up2_s _ _ _ _ | assumption | exact rfl))) dX6_bring_21 ?_
      first | refine J.if_ne_b C dX6_bring_22 (tgt := 32) (by decide) (fun c22 => absurd c22 (by first | omega | decide | simp_all)) (fun _ => ?_) | refine J.if_ne_n C (by omega) dX6_bring_22 (tgt := 32) (by decide) (fun c22 => absurd c22 (by first | omega | decide | simp_all)) (fun _ => ?_) | refine J.if_ne C dX6_bring_22 (tgt := 32) (by decide) (fun c22 => absurd c22 (by first | omega | decide | simp_all)) (fun _ => ?_)
      refine J.aload_n C dX6_bring_25 rfl ?_
      refine J.bipush C dX6_bring_26 (v := (-6)) (by decide) ?_
      refine J.cVDi (q := (RX6, TX6, 25)) (ci := 6) C (ok_X6_found l V _ _ _) gX6_bring_X6_found rfl mfX6_found rfl (by decide) (by decide) (by first | decide | omega) rfl rfl rfl rfl (Nat.le_of_ble_eq_true rfl) dX6_bring_28 (Nat.le_refl _) (Nat.le_refl _) ?_
      exact J.iret C dX6_bring_31 (qM_s (qM_F h))
    | some t =>
      have ht := ok.2.2.2.1 k t hk hs
      have hSB : match g.2.2.1 k with | some t => nA (beM I g.2.1.length 90 (25 + k)) (beM I g.2.1.length 91 (25 + k)) (beM I g.2.1.length 92) (beM I g.2.1.length 93) (beM I g.2.1.length 94) (beM I g.2.1.length 95) (40 * (25 + k)) t | none => _ := hSB
      rw [hs] at hS hSB
      have hS0 := hS.1
      have ht2 := ht.1
      have ht8 := ht.2.1
      have k1 := rsM_in hSB ht.2.2.1
      have hr1 := k1.2.1
      refine Ok.of (cc := cX6_bring) (maxL := 2) (ret := (some .int)) (by decide) rfl (Nat.le_of_ble_eq_true rfl) (fun X hnm C => ?_)
      have C : CX l X V RX6 cX6_bring 2 wsX6_bring 3 0 0 (some .int) := C
      refine J.cast (ls' := [(0, _), (1, _)]) rfl rfl rfl rfl ?_
      refine J.iload_n C dX6_bring_0 rfl ?_
      refine J.cSDi C (ok_X6_isSlot l V _ _ hx1) gX6_bring_X6_isSlot rfl mfX6_isSlot (by decide) (by decide) rfl rfl (Nat.le_of_ble_eq_true rfl) dX6_bring_1 (Nat.le_refl _) (Nat.le_refl _) ?_
      rw [tb_1 hi]
      first | refine J.if_ne_b C dX6_bring_4 (tgt := 13) (by decide) (fun _ => ?_) (fun c4 => absurd c4 (by first | omega | decide | simp_all)) | refine J.if_ne_n C (by omega) dX6_bring_4 (tgt := 13) (by decide) (fun _ => ?_) (fun c4 => absurd c4 (by first | omega | decide | simp_all)) | refine J.if_ne C dX6_bring_4 (tgt := 13) (by decide) (fun _ => ?_) (fun c4 => absurd c4 (by first | omega | decide | simp_all))
      refine J.aload_n C dX6_bring_13 rfl ?_
      refine J.getR C flX6_bring_27 (by first | decide | omega) rfl (by exact rfl) dX6_bring_14 ?_
      refine J.bipush C dX6_bring_17 (v := (nI 25)) (by decide) ?_
      refine J.iload_n C dX6_bring_19 rfl ?_
      first | refine J.iadd_n C dX6_bring_20 ?_ | refine J.iadd C dX6_bring_20 ?_
      refine J.ia C (by first | exact rfl | assumption) (by first | exact rfl | exact rfl) (by first | (have h_ln := ln_all; omega) | omega) (by first | ((repeat (first | refine up2_rd (by decide) ?_ | refine up2_rm (by decide) ?_ | refine up3_rd (by decide) ?_)) <;> (first | exact up2_s _ _ _ _ | assumption | exact rfl))) dX6_bring_21 ?_
      first | refine J.if_ne_b C dX6_bring_22 (tgt := 32) (by decide) (fun _ => ?_) (fun c22 => absurd c22 (by first | omega | decide | simp_all)) | refine J.if_ne_n C (by omega) dX6_bring_22 (tgt := 32) (by decide) (fun _ => ?_) (fun c22 => absurd c22 (by first | omega | decide | simp_all)) | refine J.if_ne C dX6_bring_22 (tgt := 32) (by decide) (fun _ => ?_) (fun c22 => absurd c22 (by first | omega | decide | simp_all))
      refine J.aload_n C dX6_bring_32 rfl ?_
      refine J.cVDv (q := (RX6, TX6, 25)) (ci := 6) C (ok_X6_begins l V _ _ hq hq25) gX6_bring_X6_begins rfl mfX6_begins rfl (by decide) (by decide) (by first | decide | omega) rfl rfl rfl rfl (Nat.le_of_ble_eq_true rfl) dX6_bring_33 (Nat.le_refl _) (Nat.le_refl _) ?_
      refine J.aload_n C dX6_bring_36 rfl ?_
      refine J.bipush C dX6_bring_37 (v := (nI 25)) (by decide) ?_
      refine J.iload_n C dX6_bring_39 rfl ?_
      first | refine J.iadd_n C dX6_bring_40 ?_ | refine J.iadd C dX6_bring_40 ?_
      refine J.cVDv (q := (RX6, TX6, 25)) (ci := 6) C (ok_X6_restore l V _ _ (by omega)) gX6_bring_X6_restore rfl mfX6_restore rfl (by decide) (by decide) (by first | decide | omega) rfl rfl rfl rfl (Nat.le_of_ble_eq_true rfl) dX6_bring_41 (Nat.le_refl _) (Nat.le_refl _) ?_
      refine J.aload_n C dX6_bring_44 rfl ?_
      refine J.getI C flX6_bring_79 (by first | decide | omega) rfl (by exact rfl) (by first | ((repeat (first | refine up2_rd (by decide) ?_ | refine up2_rm (by decide) ?_ | refine up3_rd (by decide) ?_)) <;> (first | exact up2_s _ _ _ _ | assumption | exact rfl))) dX6_bring_45 ?_
      exact J.iret C dX6_bring_48 (qM_s ⟨rfl, AbM_net hB k1 (fun j a b => rsM_85 a b) (fun q a b => rsM_o (by omega) (by omega) (by omega) (by omega) (by omega)), (by repeat (first | exact frm_rfl | refine frm_up (by decide) ?_ | refine frm_be ?_ | refine frm_rs ?_ | refine frm_st ?_ | refine frm_F ?_)), frmL_rfl⟩)
  · rw [tb_0 hi]
    refine Ok.of (cc := cX6_bring) (maxL := 2) (ret := (some .int)) (by decide) rfl (Nat.le_of_ble_eq_true rfl) (fun X hnm C => ?_)
    have C : CX l X V RX6 cX6_bring 2 wsX6_bring 3 0 0 (some .int) := C
    refine J.cast (ls' := [(0, _), (1, _)]) rfl rfl rfl rfl ?_
    refine J.iload_n C dX6_bring_0 rfl ?_
    refine J.cSDi C (ok_X6_isSlot l V _ _ hx1) gX6_bring_X6_isSlot rfl mfX6_isSlot (by decide) (by decide) rfl rfl (Nat.le_of_ble_eq_true rfl) dX6_bring_1 (Nat.le_refl _) (Nat.le_refl _) ?_
    rw [tb_0 hi]
    first | refine J.if_ne_b C dX6_bring_4 (tgt := 13) (by decide) (fun c4 => absurd c4 (by first | omega | decide | simp_all)) (fun _ => ?_) | refine J.if_ne_n C (by omega) dX6_bring_4 (tgt := 13) (by decide) (fun c4 => absurd c4 (by first | omega | decide | simp_all)) (fun _ => ?_) | refine J.if_ne C dX6_bring_4 (tgt := 13) (by decide) (fun c4 => absurd c4 (by first | omega | decide | simp_all)) (fun _ => ?_)
    refine J.aload_n C dX6_bring_7 rfl ?_
    refine J.iconst C dX6_bring_8 (v := (-1)) (by decide) ?_
    refine J.cVDi (q := (RX6, TX6, 25)) (ci := 6) C (ok_X6_found l V _ _ _) gX6_bring_X6_found rfl mfX6_found rfl (by decide) (by decide) (by first | decide | omega) rfl rfl rfl rfl (Nat.le_of_ble_eq_true rfl) dX6_bring_9 (Nat.le_refl _) (Nat.le_refl _) ?_
    exact J.iret C dX6_bring_12 (qM_s (qM_F h))
def foR (a m : Nat) (I : Nat → Nat → Int32) : Nat → Nat → Nat → Int32
  | 0 => I
  | i + 1 => up2 (up2 (up2 (up2 (up2 (foR a m I i) 86 (m + i) (foR a m I i 92 (40 * a + i))) 87 (m + i) (foR a m I i 93 (40 * a + i))) 88 (m + i) (foR a m I i 94 (40 * a + i))) 89 (m + i) (zn (foR a m I i 95 (40 * a + i)))) 85 1 (nI (m + i + 1))
theorem foR_o {a m : Nat} {I : Nat → Nat → Int32} {k : Nat} (h0 : k ≠ 85) (h : k ≠ 86) (h2 : k ≠ 87) (h3 : k ≠ 88) (h4 : k ≠ 89) : ∀ i, foR a m I i k = I k
  | 0 => rfl
  | i + 1 => by unfold foR; rw [up2_n _ _ _ h0, up2_n _ _ _ h4, up2_n _ _ _ h3, up2_n _ _ _ h2, up2_n _ _ _ h]; exact foR_o h0 h h2 h3 h4 i
theorem foR_5 {a m j : Nat} {I : Nat → Nat → Int32} (hj : j ≠ 1) : ∀ i, foR a m I i 85 j = I 85 j
  | 0 => rfl
  | i + 1 => by unfold foR; rw [up2_m _ _ _ hj, up2_n _ _ _ (by decide), up2_n _ _ _ (by decide), up2_n _ _ _ (by decide), up2_n _ _ _ (by decide)]; exact foR_5 hj i
theorem foR_1 {a m : Nat} {I : Nat → Nat → Int32} (hm : I 85 1 = nI m) : ∀ i, foR a m I i 85 1 = nI (m + i)
  | 0 => hm
  | i + 1 => by unfold foR; rw [up2_s]; rfl
theorem foR_k {a m : Nat} {I : Nat → Nat → Int32} (i : Nat) : (∀ j, foR a m I i 86 j = if m ≤ j ∧ j < m + i then I 92 (40 * a + (j - m)) else I 86 j) ∧ (∀ j, foR a m I i 87 j = if m ≤ j ∧ j < m + i then I 93 (40 * a + (j - m)) else I 87 j) ∧ (∀ j, foR a m I i 88 j = if m ≤ j ∧ j < m + i then I 94 (40 * a + (j - m)) else I 88 j) ∧ (∀ j, foR a m I i 89 j = if m ≤ j ∧ j < m + i then zn (I 95 (40 * a + (j - m))) else I 89 j) := by
  induction i with
  | zero => refine ⟨fun j => ?_, fun j => ?_, fun j => ?_, fun j => ?_⟩ <;> rw [if_neg (by omega)] <;> rfl
  | succ i ih =>
    obtain ⟨h1, h2, h3, h4⟩ := ih
    have o : ∀ k, k ≠ 85 → k ≠ 86 → k ≠ 87 → k ≠ 88 → k ≠ 89 → foR a m I i k = I k := fun k a0 a1 a2 a3 a4 => foR_o a0 a1 a2 a3 a4 i
    have key : ∀ (f : Nat → Int32) (x : Int32) (j : Nat) (g z : Nat → Int32), (∀ j, f j = if m ≤ j ∧ j < m + i then g (j - m) else z j) → x = g i → (if j = m + i then x else f j) = if m ≤ j ∧ j < m + (i + 1) then g (j - m) else z j := by
      intro f x j g z hf hx
      by_cases hj : j = m + i
      · rw [if_pos hj, if_pos (by omega), hx]
        congr 1
        omega
      · rw [if_neg hj, hf]
        by_cases h : m ≤ j ∧ j < m + i
        · rw [if_pos h, if_pos (by omega)]
        · rw [if_neg h, if_neg (by omega)]
    refine ⟨fun j => ?_, fun j => ?_, fun j => ?_, fun j => ?_⟩
    · unfold foR
      rw [up2_n _ _ _ (by decide), up2_n _ _ _ (by decide), up2_n _ _ _ (by decide), up2_n _ _ _ (by decide), up2_v]
      simp only [true_and]
      exact key _ _ j (fun q => I 92 (40 * a + q)) _ h1 (by rw [o 92 (by decide) (by decide) (by decide) (by decide) (by decide)])
    · unfold foR
      rw [up2_n _ _ _ (by decide), up2_n _ _ _ (by decide), up2_n _ _ _ (by decide), up2_v]
      simp only [true_and]
      rw [up2_n _ _ _ (by decide)]
      exact key _ _ j (fun q => I 93 (40 * a + q)) _ h2 (by rw [o 93 (by decide) (by decide) (by decide) (by decide) (by decide)])
    · unfold foR
      rw [up2_n _ _ _ (by decide), up2_n _ _ _ (by decide), up2_v]
      simp only [true_and]
      rw [up2_n _ _ _ (by decide), up2_n _ _ _ (by decide)]
      exact key _ _ j (fun q => I 94 (40 * a + q)) _ h3 (by rw [o 94 (by decide) (by decide) (by decide) (by decide) (by decide)])
    · unfold foR
      rw [up2_n _ _ _ (by decide), up2_v]
      simp only [true_and]
      rw [up2_n _ _ _ (by decide), up2_n _ _ _ (by decide), up2_n _ _ _ (by decide)]
      exact key _ _ j (fun q => zn (I 95 (40 * a + q))) _ h4 (by rw [o 95 (by decide) (by decide) (by decide) (by decide) (by decide)])
theorem foR_in {I : Nat → Nat → Int32} {a : Nat} {t u : Nt} (h : nA (I 85 0) (I 85 1) (I 86) (I 87) (I 88) (I 89) 0 t) (hu : nA (I 90 a) (I 91 a) (I 92) (I 93) (I 94) (I 95) (40 * a) u) : nA (foR a t.2.1 I u.2.1 85 0) (foR a t.2.1 I u.2.1 85 1) (foR a t.2.1 I u.2.1 86) (foR a t.2.1 I u.2.1 87) (foR a t.2.1 I u.2.1 88) (foR a t.2.1 I u.2.1 89) 0 (t.1, t.2.1 + u.2.1, fun i => if i < t.2.1 then t.2.2 i else u.2.2 (i - t.2.1)) := by
  obtain ⟨v2, v3, v4, v5⟩ := foR_k (a := a) (m := t.2.1) (I := I) u.2.1
  refine ⟨by rw [foR_5 (by decide)]; exact h.1, foR_1 h.2.1 _, fun i hi => ?_⟩
  have hi : i < t.2.1 + u.2.1 := hi
  rw [Nat.zero_add, v2, v3, v4, v5]
  show _ = nI (if i < t.2.1 then t.2.2 i else u.2.2 (i - t.2.1)).1 ∧ _ = nI (if i < t.2.1 then t.2.2 i else u.2.2 (i - t.2.1)).2.1 ∧ _ = nI (if i < t.2.1 then t.2.2 i else u.2.2 (i - t.2.1)).2.2.1 ∧ ((if i < t.2.1 then t.2.2 i else u.2.2 (i - t.2.1)).1 = 4 → _ = bI (if i < t.2.1 then t.2.2 i else u.2.2 (i - t.2.1)).2.2.2)
  by_cases q : i < t.2.1
  · have w := h.2.2 i q
    rw [Nat.zero_add] at w
    have hn : ¬ (t.2.1 ≤ i ∧ i < t.2.1 + u.2.1) := by omega
    rw [if_neg hn, if_neg hn, if_neg hn, if_neg hn, if_pos q]
    exact w
  · have w := hu.2.2 (i - t.2.1) (by omega)
    have hn : t.2.1 ≤ i ∧ i < t.2.1 + u.2.1 := by omega
    rw [if_pos hn, if_pos hn, if_pos hn, if_pos hn, if_neg q]
    exact ⟨w.1, w.2.1, w.2.2.1, fun z => by rw [w.2.2.2 z, zn_b]⟩
theorem frm_fo {I I' : Nat → Nat → Int32} {a m i : Nat} (f : frm I I') : frm I (foR a m I' i) := fun k hk => by rw [foR_o (by omega) (by omega) (by omega) (by omega) (by omega)]; exact f k hk
set_option maxHeartbeats 4000000 in
set_option maxRecDepth 100000 in
theorem lp_X6_follow {l : Launch} {X : Cx} {V : Vx} {P : Option Value → (Nat → va_E) → Prop} {I : Nat → Nat → Int32} {L : Nat → Nat → Int64} (C : CX l X V RX6 cX6_follow 4 wsX6_follow 3 0 0 (some .int)) {x : Int32} {a m u : Nat} (ha : a < 30) (hm : I 85 1 = nI m) (hu : I 91 a = nI u) (h40 : m + u ≤ 40) (hP : P (some (.int (nI (m + u)))) (mm V (foR a m I u) L)) : ∀ (k i : Nat), i + k = u → E X V P 4 83 [(0, .ref (ad V 85)), (1, .int x), (2, .int (nI a)), (3, .int (nI i))] [] (foR a m I i) L := by
  intro k
  induction k with
  | zero =>
    intro i hi
    obtain rfl : i = u := by omega
    have h1 := foR_1 (a := a) hm i
    have h2 : foR a m I i 91 a = nI i := by rw [foR_o (by decide) (by decide) (by decide) (by decide) (by decide)]; exact hu
    refine J.iload_n C dX6_follow_83 rfl ?_
    refine J.aload_n C dX6_follow_84 rfl ?_
    refine J.getR C flX6_follow_30 (by first | decide | omega) rfl (by exact rfl) dX6_follow_85 ?_
    refine J.iload_n C dX6_follow_88 rfl ?_
    refine J.ia C (by first | exact rfl | assumption) (by first | exact rfl | exact rfl) (by first | (have h_ln := ln_all; omega) | omega) (by first | ((repeat (first | refine up2_rd (by decide) ?_ | refine up2_rm (by decide) ?_ | refine up3_rd (by decide) ?_)) <;> (first | exact up2_s _ _ _ _ | assumption | exact rfl))) dX6_follow_89 ?_
    first | refine J.icmp_ge_n C (by omega) (by omega) dX6_follow_90 (tgt := 189) (by decide) (fun _ => ?_) (fun c90 => absurd c90 (by first | omega | decide | simp_all)) | refine J.icmp_ge_xn C (by omega) dX6_follow_90 (tgt := 189) (by decide) (fun _ => ?_) (fun c90 => absurd c90 (by first | omega | decide | simp_all)) | refine J.icmp_ge_nx C (by omega) dX6_follow_90 (tgt := 189) (by decide) (fun _ => ?_) (fun c90 => absurd c90 (by first | omega | decide | simp_all)) | refine J.icmp_ge C dX6_follow_90 (tgt := 189) (by decide) (fun _ => ?_) (fun c90 => absurd c90 (by first | omega | decide | simp_all))
    refine J.aload_n C dX6_follow_189 rfl ?_
    refine J.getI C flX6_follow_79 (by first | decide | omega) rfl (by exact rfl) (by first | ((repeat (first | refine up2_rd (by decide) ?_ | refine up2_rm (by decide) ?_ | refine up3_rd (by decide) ?_)) <;> (first | exact up2_s _ _ _ _ | assumption | exact rfl))) dX6_follow_190 ?_
    exact J.iret C dX6_follow_193 hP
  | succ k ih =>
    intro i hi
    have h1 := foR_1 (a := a) hm i
    have h2 : foR a m I i 91 a = nI u := by rw [foR_o (by decide) (by decide) (by decide) (by decide) (by decide)]; exact hu
    refine J.iload_n C dX6_follow_83 rfl ?_
    refine J.aload_n C dX6_follow_84 rfl ?_
    refine J.getR C flX6_follow_30 (by first | decide | omega) rfl (by exact rfl) dX6_follow_85 ?_
    refine J.iload_n C dX6_follow_88 rfl ?_
    refine J.ia C (by first | exact rfl | assumption) (by first | exact rfl | exact rfl) (by first | (have h_ln := ln_all; omega) | omega) (by first | ((repeat (first | refine up2_rd (by decide) ?_ | refine up2_rm (by decide) ?_ | refine up3_rd (by decide) ?_)) <;> (first | exact up2_s _ _ _ _ | assumption | exact rfl))) dX6_follow_89 ?_
    first | refine J.icmp_ge_n C (by omega) (by omega) dX6_follow_90 (tgt := 189) (by decide) (fun c90 => absurd c90 (by first | omega | decide | simp_all)) (fun _ => ?_) | refine J.icmp_ge_xn C (by omega) dX6_follow_90 (tgt := 189) (by decide) (fun c90 => absurd c90 (by first | omega | decide | simp_all)) (fun _ => ?_) | refine J.icmp_ge_nx C (by omega) dX6_follow_90 (tgt := 189) (by decide) (fun c90 => absurd c90 (by first | omega | decide | simp_all)) (fun _ => ?_) | refine J.icmp_ge C dX6_follow_90 (tgt := 189) (by decide) (fun c90 => absurd c90 (by first | omega | decide | simp_all)) (fun _ => ?_)
    refine J.aload_n C dX6_follow_93 rfl ?_
    refine J.getR C flX6_follow_13 (by first | decide | omega) rfl (by exact rfl) dX6_follow_94 ?_
    refine J.aload_n C dX6_follow_97 rfl ?_
    refine J.getI C flX6_follow_79 (by first | decide | omega) rfl (by exact rfl) (by first | ((repeat (first | refine up2_rd (by decide) ?_ | refine up2_rm (by decide) ?_ | refine up3_rd (by decide) ?_)) <;> (first | exact up2_s _ _ _ _ | assumption | exact rfl))) dX6_follow_98 ?_
    refine J.aload_n C dX6_follow_101 rfl ?_
    refine J.getR C flX6_follow_33 (by first | decide | omega) rfl (by exact rfl) dX6_follow_102 ?_
    refine J.bipush C dX6_follow_105 (v := (nI 40)) (by decide) ?_
    refine J.iload_n C dX6_follow_107 rfl ?_
    first | refine J.imul_n C dX6_follow_108 ?_ | refine J.imul C dX6_follow_108 ?_
    refine J.iload_n C dX6_follow_109 rfl ?_
    first | refine J.iadd_n C dX6_follow_110 ?_ | refine J.iadd C dX6_follow_110 ?_
    refine J.ia C (by first | exact rfl | assumption) (by first | exact rfl | exact rfl) (by first | (have h_ln := ln_all; omega) | omega) (by first | ((repeat (first | refine up2_rd (by decide) ?_ | refine up2_rm (by decide) ?_ | refine up3_rd (by decide) ?_)) <;> (first | exact up2_s _ _ _ _ | assumption | exact rfl))) dX6_follow_111 ?_
    refine J.ias C (by first | exact rfl | assumption) (by first | exact rfl | exact rfl) (by first | (have h_ln := ln_all; omega) | omega) dX6_follow_112 ?_
    refine J.aload_n C dX6_follow_113 rfl ?_
    refine J.getR C flX6_follow_17 (by first | decide | omega) rfl (by exact rfl) dX6_follow_114 ?_
    refine J.aload_n C dX6_follow_117 rfl ?_
    refine J.getI C flX6_follow_79 (by first | decide | omega) rfl (by exact rfl) (by first | ((repeat (first | refine up2_rd (by decide) ?_ | refine up2_rm (by decide) ?_ | refine up3_rd (by decide) ?_)) <;> (first | exact up2_s _ _ _ _ | assumption | exact rfl))) dX6_follow_118 ?_
    refine J.aload_n C dX6_follow_121 rfl ?_
    refine J.getR C flX6_follow_36 (by first | decide | omega) rfl (by exact rfl) dX6_follow_122 ?_
    refine J.bipush C dX6_follow_125 (v := (nI 40)) (by decide) ?_
    refine J.iload_n C dX6_follow_127 rfl ?_
    first | refine J.imul_n C dX6_follow_128 ?_ | refine J.imul C dX6_follow_128 ?_
    refine J.iload_n C dX6_follow_129 rfl ?_
    first | refine J.iadd_n C dX6_follow_130 ?_ | refine J.iadd C dX6_follow_130 ?_
    refine J.ia C (by first | exact rfl | assumption) (by first | exact rfl | exact rfl) (by first | (have h_ln := ln_all; omega) | omega) (by first | ((repeat (first | refine up2_rd (by decide) ?_ | refine up2_rm (by decide) ?_ | refine up3_rd (by decide) ?_)) <;> (first | exact up2_s _ _ _ _ | assumption | exact rfl))) dX6_follow_131 ?_
    refine J.ias C (by first | exact rfl | assumption) (by first | exact rfl | exact rfl) (by first | (have h_ln := ln_all; omega) | omega) dX6_follow_132 ?_
    refine J.aload_n C dX6_follow_133 rfl ?_
    refine J.getR C flX6_follow_20 (by first | decide | omega) rfl (by exact rfl) dX6_follow_134 ?_
    refine J.aload_n C dX6_follow_137 rfl ?_
    refine J.getI C flX6_follow_79 (by first | decide | omega) rfl (by exact rfl) (by first | ((repeat (first | refine up2_rd (by decide) ?_ | refine up2_rm (by decide) ?_ | refine up3_rd (by decide) ?_)) <;> (first | exact up2_s _ _ _ _ | assumption | exact rfl))) dX6_follow_138 ?_
    refine J.aload_n C dX6_follow_141 rfl ?_
    refine J.getR C flX6_follow_39 (by first | decide | omega) rfl (by exact rfl) dX6_follow_142 ?_
    refine J.bipush C dX6_follow_145 (v := (nI 40)) (by decide) ?_
    refine J.iload_n C dX6_follow_147 rfl ?_
    first | refine J.imul_n C dX6_follow_148 ?_ | refine J.imul C dX6_follow_148 ?_
    refine J.iload_n C dX6_follow_149 rfl ?_
    first | refine J.iadd_n C dX6_follow_150 ?_ | refine J.iadd C dX6_follow_150 ?_
    refine J.ia C (by first | exact rfl | assumption) (by first | exact rfl | exact rfl) (by first | (have h_ln := ln_all; omega) | omega) (by first | ((repeat (first | refine up2_rd (by decide) ?_ | refine up2_rm (by decide) ?_ | refine up3_rd (by decide) ?_)) <;> (first | exact up2_s _ _ _ _ | assumption | exact rfl))) dX6_follow_151 ?_
    refine J.ias C (by first | exact rfl | assumption) (by first | exact rfl | exact rfl) (by first | (have h_ln := ln_all; omega) | omega) dX6_follow_152 ?_
    refine J.aload_n C dX6_follow_153 rfl ?_
    refine J.getR C flX6_follow_23 (by first | decide | omega) rfl (by exact rfl) dX6_follow_154 ?_
    refine J.aload_n C dX6_follow_157 rfl ?_
    refine J.getI C flX6_follow_79 (by first | decide | omega) rfl (by exact rfl) (by first | ((repeat (first | refine up2_rd (by decide) ?_ | refine up2_rm (by decide) ?_ | refine up3_rd (by decide) ?_)) <;> (first | exact up2_s _ _ _ _ | assumption | exact rfl))) dX6_follow_158 ?_
    refine J.aload_n C dX6_follow_161 rfl ?_
    refine J.getR C flX6_follow_42 (by first | decide | omega) rfl (by exact rfl) dX6_follow_162 ?_
    refine J.bipush C dX6_follow_165 (v := (nI 40)) (by decide) ?_
    refine J.iload_n C dX6_follow_167 rfl ?_
    first | refine J.imul_n C dX6_follow_168 ?_ | refine J.imul C dX6_follow_168 ?_
    refine J.iload_n C dX6_follow_169 rfl ?_
    first | refine J.iadd_n C dX6_follow_170 ?_ | refine J.iadd C dX6_follow_170 ?_
    refine J.za C (by first | exact rfl | assumption) (by first | exact rfl | exact rfl) (by first | (have h_ln := ln_all; omega) | omega) (by first | ((repeat (first | refine up2_rd (by decide) ?_ | refine up2_rm (by decide) ?_ | refine up3_rd (by decide) ?_)) <;> (first | exact up2_s _ _ _ _ | assumption | exact rfl))) dX6_follow_171 ?_
    refine J.zan C (by first | exact rfl | assumption) (by first | exact rfl | exact rfl) (by first | (have h_ln := ln_all; omega) | omega) dX6_follow_172 ?_
    refine J.aload_n C dX6_follow_173 rfl ?_
    refine J.dup C dX6_follow_174 rfl ?_
    refine J.getI C flX6_follow_79 (by first | decide | omega) rfl (by exact rfl) (by first | ((repeat (first | refine up2_rd (by decide) ?_ | refine up2_rm (by decide) ?_ | refine up3_rd (by decide) ?_)) <;> (first | exact up2_s _ _ _ _ | assumption | exact rfl))) dX6_follow_175 ?_
    refine J.iconst C dX6_follow_178 (v := (nI 1)) (by decide) ?_
    first | refine J.iadd_n C dX6_follow_179 ?_ | refine J.iadd C dX6_follow_179 ?_
    refine J.putI C fpX6_follow_79 (by first | decide | omega) rfl (Nat.le_of_ble_eq_true rfl) (by first | exact mp_6_1 rfl | exact mp_6_1 (by assumption)) dX6_follow_180 ?_
    refine J.iinc (ls' := [(0, _), (1, _), (2, _), (3, _)]) C dX6_follow_183 rfl (by first | exact nI_inc _ 1 | exact rfl) (by decide) rfl ?_
    refine J.goto C dX6_follow_186 (tgt := 83) (by decide) ?_
    exact ih (i + 1) (by omega)
set_option maxHeartbeats 4000000 in
set_option maxRecDepth 100000 in
theorem ok_X6_follow (l : Launch) (V : Vx) {g : Sg} {x1 : Int32} {o1 : Option Nat} (I : Nat → Nat → Int32) (L : Nat → Nat → Int64) (hx1 : AG x1 o1) (h : AbM I L g) (ok : okG g) : PM l V yX6_follow wsX6_follow 3 [.ref (ad V 85), .int x1] I L (op_follow g o1) := by
  have hN := h.nm
  have h0 := hN.1
  have hm := hN.2.1
  have hl2 := ok.1.1
  have hl8 := ok.1.2.1
  have h40 := ok.1.2.2.1
  have hq := h.2.1.1
  have hq25 := ok.2.2.1
  have hB := AbM_be h ok
  have hb0 : beM I g.2.1.length 85 0 = nI g.1.1 := hB.1.1
  have hb1 : beM I g.2.1.length 85 1 = nI g.1.2.1 := hB.1.2.1
  unfold op_follow
  by_cases hi : inO o1 4
  · obtain ⟨k, rfl, hk⟩ := id hi
    have hk31 := hx1.1
    obtain ⟨-, rfl⟩ := hx1
    have hx1 : AG (nI k) (some k) := ⟨hk31, rfl⟩
    rw [tb_1 hi]
    have hS := h.2.2.1 k hk
    have hSB := hB.2.2.1 k hk
    show PM l V _ _ _ _ I L (match g.2.2.1 k with | some t => _ | none => _)
    cases hs : g.2.2.1 k with
    | none =>
      rw [hs] at hS
      refine Ok.of (cc := cX6_follow) (maxL := 4) (ret := (some .int)) (by decide) rfl (Nat.le_of_ble_eq_true rfl) (fun X hnm C => ?_)
      have C : CX l X V RX6 cX6_follow 4 wsX6_follow 3 0 0 (some .int) := C
      refine J.cast (ls' := [(0, _), (1, _)]) rfl rfl rfl rfl ?_
      refine J.iload_n C dX6_follow_0 rfl ?_
      refine J.cSDi C (ok_X6_isSlot l V _ _ hx1) gX6_follow_X6_isSlot rfl mfX6_isSlot (by decide) (by decide) rfl rfl (Nat.le_of_ble_eq_true rfl) dX6_follow_1 (Nat.le_refl _) (Nat.le_refl _) ?_
      rw [tb_1 hi]
      first | refine J.if_ne_b C dX6_follow_4 (tgt := 13) (by decide) (fun _ => ?_) (fun c4 => absurd c4 (by first | omega | decide | simp_all)) | refine J.if_ne_n C (by omega) dX6_follow_4 (tgt := 13) (by decide) (fun _ => ?_) (fun c4 => absurd c4 (by first | omega | decide | simp_all)) | refine J.if_ne C dX6_follow_4 (tgt := 13) (by decide) (fun _ => ?_) (fun c4 => absurd c4 (by first | omega | decide | simp_all))
      refine J.bipush C dX6_follow_13 (v := (nI 25)) (by decide) ?_
      refine J.iload_n C dX6_follow_15 rfl ?_
      first | refine J.iadd_n C dX6_follow_16 ?_ | refine J.iadd C dX6_follow_16 ?_
      refine J.istore_n (ls' := [(0, _), (1, _), (2, _)]) C dX6_follow_17 (by decide) rfl ?_
      refine J.aload_n C dX6_follow_18 rfl ?_
      refine J.getR C flX6_follow_27 (by first | decide | omega) rfl (by exact rfl) dX6_follow_19 ?_
      refine J.iload_n C dX6_follow_22 rfl ?_
      refine J.ia C (by first | exact rfl | assumption) (by first | exact rfl | exact rfl) (by first | (have h_ln := ln_all; omega) | omega) (by first | ((repeat (first | refine up2_rd (by decide) ?_ | refine up2_rm (by decide) ?_ | refine up3_rd (by decide) ?_)) <;> (first | exact up2_s _ _ _ _ | assumption | exact rfl))) dX6_follow_23 ?_
      first | refine J.if_ne_b C dX6_follow_24 (tgt := 34) (by decide) (fun c24 => absurd c24 (by first | omega | decide | simp_all)) (fun _ => ?_) | refine J.if_ne_n C (by omega) dX6_follow_24 (tgt := 34) (by decide) (fun c24 => absurd c24 (by first | omega | decide | simp_all)) (fun _ => ?_) | refine J.if_ne C dX6_follow_24 (tgt := 34) (by decide) (fun c24 => absurd c24 (by first | omega | decide | simp_all)) (fun _ => ?_)
      refine J.aload_n C dX6_follow_27 rfl ?_
      refine J.bipush C dX6_follow_28 (v := (-6)) (by decide) ?_
      refine J.cVDi (q := (RX6, TX6, 25)) (ci := 6) C (ok_X6_found l V _ _ _) gX6_follow_X6_found rfl mfX6_found rfl (by decide) (by decide) (by first | decide | omega) rfl rfl rfl rfl (Nat.le_of_ble_eq_true rfl) dX6_follow_30 (Nat.le_refl _) (Nat.le_refl _) ?_
      exact J.iret C dX6_follow_33 (qM_s (qM_F h))
    | some t =>
      have ht := ok.2.2.2.1 k t hk hs
      have hSB : match g.2.2.1 k with | some t => nA (beM I g.2.1.length 90 (25 + k)) (beM I g.2.1.length 91 (25 + k)) (beM I g.2.1.length 92) (beM I g.2.1.length 93) (beM I g.2.1.length 94) (beM I g.2.1.length 95) (40 * (25 + k)) t | none => _ := hSB
      rw [hs] at hS hSB
      have hS0 := hS.1
      have hS1 := hS.2.1
      have ht2 := ht.1
      have ht8 := ht.2.1
      have ht40 := ht.2.2.1
      have k1 := foR_in (t := g.1) hB.1 hSB
      simp only []
      refine Ok.of (cc := cX6_follow) (maxL := 4) (ret := (some .int)) (by decide) rfl (Nat.le_of_ble_eq_true rfl) (fun X hnm C => ?_)
      have C : CX l X V RX6 cX6_follow 4 wsX6_follow 3 0 0 (some .int) := C
      refine J.cast (ls' := [(0, _), (1, _)]) rfl rfl rfl rfl ?_
      refine J.iload_n C dX6_follow_0 rfl ?_
      refine J.cSDi C (ok_X6_isSlot l V _ _ hx1) gX6_follow_X6_isSlot rfl mfX6_isSlot (by decide) (by decide) rfl rfl (Nat.le_of_ble_eq_true rfl) dX6_follow_1 (Nat.le_refl _) (Nat.le_refl _) ?_
      rw [tb_1 hi]
      first | refine J.if_ne_b C dX6_follow_4 (tgt := 13) (by decide) (fun _ => ?_) (fun c4 => absurd c4 (by first | omega | decide | simp_all)) | refine J.if_ne_n C (by omega) dX6_follow_4 (tgt := 13) (by decide) (fun _ => ?_) (fun c4 => absurd c4 (by first | omega | decide | simp_all)) | refine J.if_ne C dX6_follow_4 (tgt := 13) (by decide) (fun _ => ?_) (fun c4 => absurd c4 (by first | omega | decide | simp_all))
      refine J.bipush C dX6_follow_13 (v := (nI 25)) (by decide) ?_
      refine J.iload_n C dX6_follow_15 rfl ?_
      first | refine J.iadd_n C dX6_follow_16 ?_ | refine J.iadd C dX6_follow_16 ?_
      refine J.istore_n (ls' := [(0, _), (1, _), (2, _)]) C dX6_follow_17 (by decide) rfl ?_
      refine J.aload_n C dX6_follow_18 rfl ?_
      refine J.getR C flX6_follow_27 (by first | decide | omega) rfl (by exact rfl) dX6_follow_19 ?_
      refine J.iload_n C dX6_follow_22 rfl ?_
      refine J.ia C (by first | exact rfl | assumption) (by first | exact rfl | exact rfl) (by first | (have h_ln := ln_all; omega) | omega) (by first | ((repeat (first | refine up2_rd (by decide) ?_ | refine up2_rm (by decide) ?_ | refine up3_rd (by decide) ?_)) <;> (first | exact up2_s _ _ _ _ | assumption | exact rfl))) dX6_follow_23 ?_
      first | refine J.if_ne_b C dX6_follow_24 (tgt := 34) (by decide) (fun _ => ?_) (fun c24 => absurd c24 (by first | omega | decide | simp_all)) | refine J.if_ne_n C (by omega) dX6_follow_24 (tgt := 34) (by decide) (fun _ => ?_) (fun c24 => absurd c24 (by first | omega | decide | simp_all)) | refine J.if_ne C dX6_follow_24 (tgt := 34) (by decide) (fun _ => ?_) (fun c24 => absurd c24 (by first | omega | decide | simp_all))
      refine J.aload_n C dX6_follow_34 rfl ?_
      refine J.getR C flX6_follow_27 (by first | decide | omega) rfl (by exact rfl) dX6_follow_35 ?_
      refine J.iload_n C dX6_follow_38 rfl ?_
      refine J.ia C (by first | exact rfl | assumption) (by first | exact rfl | exact rfl) (by first | (have h_ln := ln_all; omega) | omega) (by first | ((repeat (first | refine up2_rd (by decide) ?_ | refine up2_rm (by decide) ?_ | refine up3_rd (by decide) ?_)) <;> (first | exact up2_s _ _ _ _ | assumption | exact rfl))) dX6_follow_39 ?_
      refine J.aload_n C dX6_follow_40 rfl ?_
      refine J.getI C flX6_follow_7 (by first | decide | omega) rfl (by exact rfl) (by first | ((repeat (first | refine up2_rd (by decide) ?_ | refine up2_rm (by decide) ?_ | refine up3_rd (by decide) ?_)) <;> (first | exact up2_s _ _ _ _ | assumption | exact rfl))) dX6_follow_41 ?_
      first | refine J.icmp_eq_n C (by omega) (by omega) dX6_follow_44 (tgt := 54) (by decide) (fun c44t => ?_) (fun c44f => ?_) | refine J.icmp_eq_xn C (by omega) dX6_follow_44 (tgt := 54) (by decide) (fun c44t => ?_) (fun c44f => ?_) | refine J.icmp_eq_nx C (by omega) dX6_follow_44 (tgt := 54) (by decide) (fun c44t => ?_) (fun c44f => ?_) | refine J.icmp_eq C dX6_follow_44 (tgt := 54) (by decide) (fun c44t => ?_) (fun c44f => ?_)
      · rw [tb_1 c44t]
        refine J.aload_n C dX6_follow_54 rfl ?_
        refine J.getI C flX6_follow_79 (by first | decide | omega) rfl (by exact rfl) (by first | ((repeat (first | refine up2_rd (by decide) ?_ | refine up2_rm (by decide) ?_ | refine up3_rd (by decide) ?_)) <;> (first | exact up2_s _ _ _ _ | assumption | exact rfl))) dX6_follow_55 ?_
        refine J.aload_n C dX6_follow_58 rfl ?_
        refine J.getR C flX6_follow_30 (by first | decide | omega) rfl (by exact rfl) dX6_follow_59 ?_
        refine J.iload_n C dX6_follow_62 rfl ?_
        refine J.ia C (by first | exact rfl | assumption) (by first | exact rfl | exact rfl) (by first | (have h_ln := ln_all; omega) | omega) (by first | ((repeat (first | refine up2_rd (by decide) ?_ | refine up2_rm (by decide) ?_ | refine up3_rd (by decide) ?_)) <;> (first | exact up2_s _ _ _ _ | assumption | exact rfl))) dX6_follow_63 ?_
        first | refine J.iadd_n C dX6_follow_64 ?_ | refine J.iadd C dX6_follow_64 ?_
        refine J.bipush C dX6_follow_65 (v := (nI 40)) (by decide) ?_
        first | refine J.icmp_le_n C (by omega) (by omega) dX6_follow_67 (tgt := 77) (by decide) (fun c67t => ?_) (fun c67f => ?_) | refine J.icmp_le_xn C (by omega) dX6_follow_67 (tgt := 77) (by decide) (fun c67t => ?_) (fun c67f => ?_) | refine J.icmp_le_nx C (by omega) dX6_follow_67 (tgt := 77) (by decide) (fun c67t => ?_) (fun c67f => ?_) | refine J.icmp_le C dX6_follow_67 (tgt := 77) (by decide) (fun c67t => ?_) (fun c67f => ?_)
        · rw [tb_1 c67t]
          refine J.aload_n C dX6_follow_77 rfl ?_
          refine J.cVDv (q := (RX6, TX6, 25)) (ci := 6) C (ok_X6_begins l V _ _ hq hq25) gX6_follow_X6_begins rfl mfX6_begins rfl (by decide) (by decide) (by first | decide | omega) rfl rfl rfl rfl (Nat.le_of_ble_eq_true rfl) dX6_follow_78 (Nat.le_refl _) (Nat.le_refl _) ?_
          refine J.iconst C dX6_follow_81 (v := (nI 0)) (by decide) ?_
          refine J.istore_n (ls' := [(0, _), (1, _), (2, _), (3, _)]) C dX6_follow_82 (by decide) rfl ?_
          refine lp_X6_follow C (a := 25 + k) (by omega) hb1 hSB.2.1 (by omega) ?_ t.2.1 0 (by omega)
          exact qM_s ⟨rfl, AbM_net hB k1 (fun j a b => foR_5 b _) (fun q a b => foR_o (by omega) (by omega) (by omega) (by omega) (by omega) _), frm_fo (frm_be frm_rfl), frmL_rfl⟩
        · rw [tb_0 c67f]
          refine J.aload_n C dX6_follow_70 rfl ?_
          refine J.bipush C dX6_follow_71 (v := (-5)) (by decide) ?_
          refine J.cVDi (q := (RX6, TX6, 25)) (ci := 6) C (ok_X6_found l V _ _ _) gX6_follow_X6_found rfl mfX6_found rfl (by decide) (by decide) (by first | decide | omega) rfl rfl rfl rfl (Nat.le_of_ble_eq_true rfl) dX6_follow_73 (Nat.le_refl _) (Nat.le_refl _) ?_
          exact J.iret C dX6_follow_76 (qM_s (qM_F h))
      · rw [tb_0 c44f]
        refine J.aload_n C dX6_follow_47 rfl ?_
        refine J.bipush C dX6_follow_48 (v := (-3)) (by decide) ?_
        refine J.cVDi (q := (RX6, TX6, 25)) (ci := 6) C (ok_X6_found l V _ _ _) gX6_follow_X6_found rfl mfX6_found rfl (by decide) (by decide) (by first | decide | omega) rfl rfl rfl rfl (Nat.le_of_ble_eq_true rfl) dX6_follow_50 (Nat.le_refl _) (Nat.le_refl _) ?_
        exact J.iret C dX6_follow_53 (qM_s (qM_F h))
  · rw [tb_0 hi]
    refine Ok.of (cc := cX6_follow) (maxL := 4) (ret := (some .int)) (by decide) rfl (Nat.le_of_ble_eq_true rfl) (fun X hnm C => ?_)
    have C : CX l X V RX6 cX6_follow 4 wsX6_follow 3 0 0 (some .int) := C
    refine J.cast (ls' := [(0, _), (1, _)]) rfl rfl rfl rfl ?_
    refine J.iload_n C dX6_follow_0 rfl ?_
    refine J.cSDi C (ok_X6_isSlot l V _ _ hx1) gX6_follow_X6_isSlot rfl mfX6_isSlot (by decide) (by decide) rfl rfl (Nat.le_of_ble_eq_true rfl) dX6_follow_1 (Nat.le_refl _) (Nat.le_refl _) ?_
    rw [tb_0 hi]
    first | refine J.if_ne_b C dX6_follow_4 (tgt := 13) (by decide) (fun c4 => absurd c4 (by first | omega | decide | simp_all)) (fun _ => ?_) | refine J.if_ne_n C (by omega) dX6_follow_4 (tgt := 13) (by decide) (fun c4 => absurd c4 (by first | omega | decide | simp_all)) (fun _ => ?_) | refine J.if_ne C dX6_follow_4 (tgt := 13) (by decide) (fun c4 => absurd c4 (by first | omega | decide | simp_all)) (fun _ => ?_)
    refine J.aload_n C dX6_follow_7 rfl ?_
    refine J.iconst C dX6_follow_8 (v := (-1)) (by decide) ?_
    refine J.cVDi (q := (RX6, TX6, 25)) (ci := 6) C (ok_X6_found l V _ _ _) gX6_follow_X6_found rfl mfX6_found rfl (by decide) (by decide) (by first | decide | omega) rfl rfl rfl rfl (Nat.le_of_ble_eq_true rfl) dX6_follow_9 (Nat.le_refl _) (Nat.le_refl _) ?_
    exact J.iret C dX6_follow_12 (qM_s (qM_F h))
