set_option maxHeartbeats 4000000 in
set_option maxRecDepth 100000 in
theorem ok_X6_narrow (l : Launch) (V : Vx) {k : Nat} (v : Int64) (I : Nat → Nat → Int32) (L : Nat → Nat → Int64) (h1 : 1 ≤ k) (h7 : k ≤ 7) : Dl l V yX6_narrow wsX6_narrow 1 [.int (nI k), .long v] I L (narM k v) I L := by
  refine Ok.of (cc := cX6_narrow) (maxL := 3) (ret := (some .long)) (by decide) rfl (Nat.le_of_ble_eq_true rfl) (fun X hnm C => ?_)
  have C : CX l X V RX6 cX6_narrow 3 wsX6_narrow 1 0 0 (some .long) := C
  refine J.cast (ls' := [(0, _), (1, _)]) rfl rfl rfl rfl ?_
  refine J.iload_n C dX6_narrow_0 rfl ?_
  rcases (show k = 1 ∨ k = 2 ∨ k = 3 ∨ k = 4 ∨ k = 5 ∨ k = 6 ∨ k = 7 by omega) with e | e | e | e | e | e | e <;> subst e
  · refine J.tabIn C dX6_narrow_1 (by decide) (by decide) (off := 39) (by decide) (tgt := 40) (by decide) ?_
    refine J.lload_n C dX6_narrow_40 rfl ?_
    refine J.l2i C dX6_narrow_41 ?_
    refine J.i2b C dX6_narrow_42 ?_
    refine J.i2l C dX6_narrow_43 ?_
    exact J.lret C dX6_narrow_44 ⟨rfl, rfl⟩
  · refine J.tabIn C dX6_narrow_1 (by decide) (by decide) (off := 44) (by decide) (tgt := 45) (by decide) ?_
    refine J.lload_n C dX6_narrow_45 rfl ?_
    refine J.ldc2 C (v := 65535) (by decide +kernel) dX6_narrow_46 ?_
    refine J.land C dX6_narrow_49 ?_
    exact J.lret C dX6_narrow_50 ⟨rfl, rfl⟩
  · refine J.tabIn C dX6_narrow_1 (by decide) (by decide) (off := 50) (by decide) (tgt := 51) (by decide) ?_
    refine J.lload_n C dX6_narrow_51 rfl ?_
    refine J.l2i C dX6_narrow_52 ?_
    refine J.i2s C dX6_narrow_53 ?_
    refine J.i2l C dX6_narrow_54 ?_
    exact J.lret C dX6_narrow_55 ⟨rfl, rfl⟩
  · refine J.tabIn C dX6_narrow_1 (by decide) (by decide) (off := 55) (by decide) (tgt := 56) (by decide) ?_
    refine J.lload_n C dX6_narrow_56 rfl ?_
    refine J.l2i C dX6_narrow_57 ?_
    refine J.i2l C dX6_narrow_58 ?_
    exact J.lret C dX6_narrow_59 ⟨rfl, rfl⟩
  · refine J.tabIn C dX6_narrow_1 (by decide) (by decide) (off := 59) (by decide) (tgt := 60) (by decide) ?_
    refine J.lload_n C dX6_narrow_60 rfl ?_
    exact J.lret C dX6_narrow_61 ⟨rfl, rfl⟩
  · refine J.tabIn C dX6_narrow_1 (by decide) (by decide) (off := 61) (by decide) (tgt := 62) (by decide) ?_
    refine J.lload_n C dX6_narrow_62 rfl ?_
    refine J.l2i C dX6_narrow_63 ?_
    refine J.ldc C (v := 2147483647) (by decide +kernel) dX6_narrow_64 ?_
    refine J.iand C dX6_narrow_66 ?_
    refine J.ldc C (v := 2139095040) (by decide +kernel) dX6_narrow_67 ?_
    refine J.icmp_le C dX6_narrow_69 (tgt := 78) (by decide) (fun c69t => ?_) (fun c69f => ?_)
    · refine J.lload_n C dX6_narrow_78 rfl ?_
      refine J.l2i C dX6_narrow_79 ?_
      refine J.i2l C dX6_narrow_80 ?_
      exact J.lret C dX6_narrow_81 ⟨by rw [show narM 6 v = v.toInt32.toInt64 from if_pos c69t], rfl⟩
    · refine J.ldc2 C (v := 2143289344) (by decide +kernel) dX6_narrow_72 ?_
      refine J.goto C dX6_narrow_75 (tgt := 81) (by decide) ?_
      exact J.lret C dX6_narrow_81 ⟨by rw [show narM 6 v = 2143289344 from if_neg c69f], rfl⟩
  · refine J.tabOut C dX6_narrow_1 (Or.inr (by decide)) (tgt := 82) (by decide) ?_
    refine J.lload_n C dX6_narrow_82 rfl ?_
    refine J.ldc2 C (v := 9223372036854775807) (by decide +kernel) dX6_narrow_83 ?_
    refine J.land C dX6_narrow_86 ?_
    refine J.ldc2 C (v := 9218868437227405312) (by decide +kernel) dX6_narrow_87 ?_
    refine J.lcmp C dX6_narrow_90 ?_
    refine J.if_le_c C dX6_narrow_91 (tgt := 100) (by decide) (fun c91t => ?_) (fun c91f => ?_)
    · refine J.lload_n C dX6_narrow_100 rfl ?_
      exact J.lret C dX6_narrow_101 ⟨by rw [show narM 7 v = v from if_pos c91t], rfl⟩
    · refine J.ldc2 C (v := 9221120237041090560) (by decide +kernel) dX6_narrow_94 ?_
      refine J.goto C dX6_narrow_97 (tgt := 101) (by decide) ?_
      exact J.lret C dX6_narrow_101 ⟨by rw [show narM 7 v = 9221120237041090560 from if_neg c91f], rfl⟩
noncomputable def op_put (g : Sg) (c i : Option Nat) (v : Int64) : Int32 × Sg := cond (tb (lkO g c i = nI 0)) (nI 0, gC g (c.getD 0) ((g.2.2.2.1 (c.getD 0)).1, (g.2.2.2.1 (c.getD 0)).2.1, va_up (g.2.2.2.1 (c.getD 0)).2.2 (i.getD 0) (narM (g.2.2.2.1 (c.getD 0)).1 v))) (lkO g c i, gF g)
noncomputable def op_load (g : Sg) (c i : Option Nat) : Int64 × Sg := cond (tb (lkO g c i = nI 0)) ((g.2.2.2.1 (c.getD 0)).2.2 (i.getD 0), g) (-9223372036854775808, gF g)
theorem lkO_c (g : Sg) (c i : Option Nat) : (lkO g c i = nI 0 ∧ ∃ a b, c = some a ∧ i = some b ∧ a < 6 ∧ ¬ (g.2.2.2.1 a).1 = 0 ∧ b < (g.2.2.2.1 a).2.1) ∨ (lkO g c i = -1 ∨ lkO g c i = -2) := by
  unfold lkO
  by_cases h : inO c 6
  · obtain ⟨a, rfl, ha⟩ := id h
    rw [tb_1 h]
    by_cases h2 : (g.2.2.2.1 a).1 = 0
    · rw [tb_1 (show (g.2.2.2.1 ((some a).getD 0)).1 = 0 from h2)]
      exact Or.inr (Or.inr rfl)
    · rw [tb_0 (show ¬ (g.2.2.2.1 ((some a).getD 0)).1 = 0 from h2)]
      by_cases h3 : inO i (g.2.2.2.1 a).2.1
      · rw [tb_1 (show inO i (g.2.2.2.1 ((some a).getD 0)).2.1 from h3)]
        obtain ⟨b, rfl, hb⟩ := h3
        exact Or.inl ⟨rfl, a, b, rfl, rfl, ha, h2, hb⟩
      · rw [tb_0 (show ¬ inO i (g.2.2.2.1 ((some a).getD 0)).2.1 from h3)]
        exact Or.inr (Or.inl rfl)
  · rw [tb_0 h]
    exact Or.inr (Or.inl rfl)
theorem lkO_m {x : Int32} (h : x = -1 ∨ x = -2) : x.toInt < 0 ∧ ¬ x = nI 0 := by rcases h with h | h <;> rw [h] <;> decide
def qL (I : Nat → Nat → Int32) (L : Nat → Nat → Int64) (p : Int64 × Sg) : Int64 → (Nat → Nat → Int32) → (Nat → Nat → Int64) → Prop := fun r I' L' => r = p.1 ∧ AbM I' L' p.2 ∧ frm I I' ∧ frmL L L'
def PML (l : Launch) (V : Vx) (y : MethodName) (ws : List Cond) (d : Nat) (av : List Value) (I : Nat → Nat → Int32) (L : Nat → Nat → Int64) (p : Int64 × Sg) : Prop := Gl l V y ws d av I L (qL I L p)
theorem qL_s {V : Vx} {I I' : Nat → Nat → Int32} {L L' : Nat → Nat → Int64} {p : Int64 × Sg} {r : Int64} (h : qL I L p r I' L') : ∃ r' I'' L'', (some (Value.long r) : Option Value) = some (.long r') ∧ mm V I' L' = mm V I'' L'' ∧ qL I L p r' I'' L'' := ⟨r, I', L', rfl, rfl, h⟩
set_option maxHeartbeats 4000000 in
set_option maxRecDepth 100000 in
theorem ok_X6_put (l : Launch) (V : Vx) {g : Sg} {x1 : Int32} {o1 : Option Nat} {x2 : Int32} {o2 : Option Nat} (v : Int64) (I : Nat → Nat → Int32) (L : Nat → Nat → Int64) (hx1 : AG x1 o1) (hx2 : AG x2 o2) (h : AbM I L g) (ok : okG g) : PM l V yX6_put wsX6_put 4 [.ref (ad V 85), .int x1, .int x2, .long v] I L (op_put g o1 o2 v) := by
  rcases lkO_c g o1 o2 with ⟨hl, c, i, rfl, rfl, hc, hk0, hi⟩ | hl
  · obtain ⟨-, rfl⟩ := id hx1
    obtain ⟨-, rfl⟩ := id hx2
    have hC := h.2.2.2.1 c hc
    have hok := ok.2.2.2.2.1 c hc
    obtain ⟨hc0, hc1, hc2⟩ := hC
    obtain ⟨ok0, ok1, ok2⟩ := hok
    unfold op_put
    rw [tb_1 hl]
    refine Ok.of (cc := cX6_put) (maxL := 6) (ret := (some .int)) (by decide) rfl (Nat.le_of_ble_eq_true rfl) (fun X hnm C => ?_)
    have C : CX l X V RX6 cX6_put 6 wsX6_put 4 0 0 (some .int) := C
    refine J.cast (ls' := [(0, _), (1, _), (2, _), (3, _)]) rfl rfl rfl rfl ?_
    refine J.aload_n C dX6_put_0 rfl ?_
    refine J.iload_n C dX6_put_1 rfl ?_
    refine J.iload_n C dX6_put_2 rfl ?_
    refine J.cVDi (q := (RX6, TX6, 25)) (ci := 6) C (ok_X6_lacks l V _ _ hx1 hx2 h ok) gX6_put_X6_lacks rfl mfX6_lacks rfl (by decide) (by decide) (by first | decide | omega) rfl rfl rfl rfl (Nat.le_of_ble_eq_true rfl) dX6_put_3 (Nat.le_refl _) (Nat.le_refl _) ?_
    rw [hl]
    refine J.istore (ls' := [(0, _), (1, _), (2, _), (3, _), (5, _)]) C dX6_put_6 (by decide) rfl ?_
    refine J.iload C dX6_put_8 rfl ?_
    refine J.if_ge_n C (by omega) dX6_put_10 (tgt := 20) (by decide) ?_
    refine J.aload_n C dX6_put_20 rfl ?_
    refine J.getR C flX6_put_51 (by first | decide | omega) rfl (by exact rfl) dX6_put_21 ?_
    refine J.bipush C dX6_put_24 (v := (nI 12)) (by decide) ?_
    refine J.iload_n C dX6_put_26 rfl ?_
    first | refine J.imul_n C dX6_put_27 ?_ | refine J.imul C dX6_put_27 ?_
    refine J.iload_n C dX6_put_28 rfl ?_
    first | refine J.iadd_n C dX6_put_29 ?_ | refine J.iadd C dX6_put_29 ?_
    refine J.aload_n C dX6_put_30 rfl ?_
    refine J.getR C flX6_put_45 (by first | decide | omega) rfl (by exact rfl) dX6_put_31 ?_
    refine J.iload_n C dX6_put_34 rfl ?_
    refine J.ia C (by first | exact rfl | assumption) (by first | exact rfl | exact rfl) (by first | (have h_ln := ln_all; omega) | omega) (by first | ((repeat (first | refine up2_rd (by decide) ?_ | refine up2_rm (by decide) ?_ | refine up3_rd (by decide) ?_)) <;> (first | exact up2_s _ _ _ _ | assumption | exact rfl))) dX6_put_35 ?_
    refine J.lload_n C dX6_put_36 rfl ?_
    refine J.cSDl C (ok_X6_narrow l V _ _ _ (by omega) (by omega)) gX6_put_X6_narrow rfl mfX6_narrow (by decide) (by decide) rfl rfl (Nat.le_of_ble_eq_true rfl) dX6_put_37 (Nat.le_refl _) (Nat.le_refl _) ?_
    refine J.las C (by first | exact rfl | assumption) (by first | exact rfl | exact rfl) (by first | (have h_ln := ln_all; omega) | omega) dX6_put_40 ?_
    refine J.iconst C dX6_put_41 (v := (nI 0)) (by decide) ?_
    exact J.iret C dX6_put_42 (qM_s ⟨rfl, AbM_crate (c := c) (x := ((g.2.2.2.1 c).1, (g.2.2.2.1 c).2.1, va_up (g.2.2.2.1 c).2.2 i (narM (g.2.2.2.1 c).1 v))) h (fun q a b e0 e1 => rfl) hc0 hc1 (fun j hj => by show up3 L 98 (12 * c + i) _ 98 (12 * c + j) = va_up (g.2.2.2.1 c).2.2 i _ j; by_cases e : j = i; rw [e, up3_s, va_up_self]; rw [up3_m _ _ _ (by omega), va_up_ne _ _ e]; exact hc2 j hj) (fun _ _ => rfl) (fun _ _ => rfl) (fun j hj => up3_m _ _ _ (by omega)), frm_rfl, frmL_up (by decide) frmL_rfl⟩)
  · obtain ⟨h1, h2⟩ := lkO_m hl
    unfold op_put
    rw [tb_0 h2]
    refine Ok.of (cc := cX6_put) (maxL := 6) (ret := (some .int)) (by decide) rfl (Nat.le_of_ble_eq_true rfl) (fun X hnm C => ?_)
    have C : CX l X V RX6 cX6_put 6 wsX6_put 4 0 0 (some .int) := C
    refine J.cast (ls' := [(0, _), (1, _), (2, _), (3, _)]) rfl rfl rfl rfl ?_
    refine J.aload_n C dX6_put_0 rfl ?_
    refine J.iload_n C dX6_put_1 rfl ?_
    refine J.iload_n C dX6_put_2 rfl ?_
    refine J.cVDi (q := (RX6, TX6, 25)) (ci := 6) C (ok_X6_lacks l V _ _ hx1 hx2 h ok) gX6_put_X6_lacks rfl mfX6_lacks rfl (by decide) (by decide) (by first | decide | omega) rfl rfl rfl rfl (Nat.le_of_ble_eq_true rfl) dX6_put_3 (Nat.le_refl _) (Nat.le_refl _) ?_
    refine J.istore (ls' := [(0, _), (1, _), (2, _), (3, _), (5, _)]) C dX6_put_6 (by decide) rfl ?_
    refine J.iload C dX6_put_8 rfl ?_
    refine J.if_ge_z C dX6_put_10 (tgt := 20) (by decide) (fun c10 => absurd c10 (by first | omega | decide | simp_all)) (fun _ => ?_)
    refine J.aload_n C dX6_put_13 rfl ?_
    refine J.iload C dX6_put_14 rfl ?_
    refine J.cVDi (q := (RX6, TX6, 25)) (ci := 6) C (ok_X6_found l V _ _ _) gX6_put_X6_found rfl mfX6_found rfl (by decide) (by decide) (by first | decide | omega) rfl rfl rfl rfl (Nat.le_of_ble_eq_true rfl) dX6_put_16 (Nat.le_refl _) (Nat.le_refl _) ?_
    exact J.iret C dX6_put_19 (qM_s (qM_F h))
set_option maxHeartbeats 4000000 in
set_option maxRecDepth 100000 in
theorem ok_X6_load (l : Launch) (V : Vx) {g : Sg} {x1 : Int32} {o1 : Option Nat} {x2 : Int32} {o2 : Option Nat} (I : Nat → Nat → Int32) (L : Nat → Nat → Int64) (hx1 : AG x1 o1) (hx2 : AG x2 o2) (h : AbM I L g) (ok : okG g) : PML l V yX6_load wsX6_load 4 [.ref (ad V 85), .int x1, .int x2] I L (op_load g o1 o2) := by
  rcases lkO_c g o1 o2 with ⟨hl, c, i, rfl, rfl, hc, hk0, hi⟩ | hl
  · obtain ⟨-, rfl⟩ := id hx1
    obtain ⟨-, rfl⟩ := id hx2
    have hC := h.2.2.2.1 c hc
    have hok := ok.2.2.2.2.1 c hc
    obtain ⟨hc0, hc1, hc2⟩ := hC
    obtain ⟨ok0, ok1, ok2⟩ := hok
    unfold op_load
    rw [tb_1 hl]
    have hv := hc2 i (by omega)
    refine Ok.of (cc := cX6_load) (maxL := 4) (ret := (some .long)) (by decide) rfl (Nat.le_of_ble_eq_true rfl) (fun X hnm C => ?_)
    have C : CX l X V RX6 cX6_load 4 wsX6_load 4 0 0 (some .long) := C
    refine J.cast (ls' := [(0, _), (1, _), (2, _)]) rfl rfl rfl rfl ?_
    refine J.aload_n C dX6_load_0 rfl ?_
    refine J.iload_n C dX6_load_1 rfl ?_
    refine J.iload_n C dX6_load_2 rfl ?_
    refine J.cVDi (q := (RX6, TX6, 25)) (ci := 6) C (ok_X6_lacks l V _ _ hx1 hx2 h ok) gX6_load_X6_lacks rfl mfX6_lacks rfl (by decide) (by decide) (by first | decide | omega) rfl rfl rfl rfl (Nat.le_of_ble_eq_true rfl) dX6_load_3 (Nat.le_refl _) (Nat.le_refl _) ?_
    rw [hl]
    refine J.istore_n (ls' := [(0, _), (1, _), (2, _), (3, _)]) C dX6_load_6 (by decide) rfl ?_
    refine J.iload_n C dX6_load_7 rfl ?_
    refine J.if_ge_n C (by omega) dX6_load_8 (tgt := 25) (by decide) ?_
    refine J.aload_n C dX6_load_25 rfl ?_
    refine J.getR C flX6_load_51 (by first | decide | omega) rfl (by exact rfl) dX6_load_26 ?_
    refine J.bipush C dX6_load_29 (v := (nI 12)) (by decide) ?_
    refine J.iload_n C dX6_load_31 rfl ?_
    first | refine J.imul_n C dX6_load_32 ?_ | refine J.imul C dX6_load_32 ?_
    refine J.iload_n C dX6_load_33 rfl ?_
    first | refine J.iadd_n C dX6_load_34 ?_ | refine J.iadd C dX6_load_34 ?_
    refine J.la C (by first | exact rfl | assumption) (by first | exact rfl | exact rfl) (by first | (have h_ln := ln_all; omega) | omega) (by first | ((repeat (first | refine up2_rd (by decide) ?_ | refine up2_rm (by decide) ?_ | refine up3_rd (by decide) ?_)) <;> (first | exact up2_s _ _ _ _ | assumption | exact rfl))) dX6_load_35 ?_
    exact J.lret C dX6_load_36 (qL_s ⟨rfl, h, frm_rfl, frmL_rfl⟩)
  · obtain ⟨h1, h2⟩ := lkO_m hl
    unfold op_load
    rw [tb_0 h2]
    refine Ok.of (cc := cX6_load) (maxL := 4) (ret := (some .long)) (by decide) rfl (Nat.le_of_ble_eq_true rfl) (fun X hnm C => ?_)
    have C : CX l X V RX6 cX6_load 4 wsX6_load 4 0 0 (some .long) := C
    refine J.cast (ls' := [(0, _), (1, _), (2, _)]) rfl rfl rfl rfl ?_
    refine J.aload_n C dX6_load_0 rfl ?_
    refine J.iload_n C dX6_load_1 rfl ?_
    refine J.iload_n C dX6_load_2 rfl ?_
    refine J.cVDi (q := (RX6, TX6, 25)) (ci := 6) C (ok_X6_lacks l V _ _ hx1 hx2 h ok) gX6_load_X6_lacks rfl mfX6_lacks rfl (by decide) (by decide) (by first | decide | omega) rfl rfl rfl rfl (Nat.le_of_ble_eq_true rfl) dX6_load_3 (Nat.le_refl _) (Nat.le_refl _) ?_
    refine J.istore_n (ls' := [(0, _), (1, _), (2, _), (3, _)]) C dX6_load_6 (by decide) rfl ?_
    refine J.iload_n C dX6_load_7 rfl ?_
    refine J.if_ge_z C dX6_load_8 (tgt := 25) (by decide) (fun c8 => absurd c8 (by first | omega | decide | simp_all)) (fun _ => ?_)
    refine J.aload_n C dX6_load_11 rfl ?_
    refine J.dup C dX6_load_12 rfl ?_
    refine J.getI C flX6_load_76 (by first | decide | omega) rfl (by exact rfl) (by first | ((repeat (first | refine up2_rd (by decide) ?_ | refine up2_rm (by decide) ?_ | refine up3_rd (by decide) ?_)) <;> (first | exact up2_s _ _ _ _ | assumption | exact rfl))) dX6_load_13 ?_
    refine J.iconst C dX6_load_16 (v := (nI 1)) (by decide) ?_
    first | refine J.iadd_n C dX6_load_17 ?_ | refine J.iadd C dX6_load_17 ?_
    refine J.putI C fpX6_load_76 (by first | decide | omega) rfl (Nat.le_of_ble_eq_true rfl) (by first | exact mp_6_18 rfl | exact mp_6_18 (by assumption)) dX6_load_18 ?_
    refine J.ldc2 C (v := -9223372036854775808) (by decide +kernel) dX6_load_21 ?_
    exact J.lret C dX6_load_24 (qL_s ⟨rfl, AbM_F h, frm_F frm_rfl, frmL_rfl⟩)
set_option maxHeartbeats 4000000 in
set_option maxRecDepth 100000 in
theorem ok_X6_key (l : Launch) (V : Vx) {c i k : Nat} {v : Int64} (I : Nat → Nat → Int32) (L : Nat → Nat → Int64) (hc : c < 6) (hi : i < 12) (hk : k ≤ 7) (h0 : I 96 c = nI k) (hv : L 98 (12 * c + i) = v) : Dl l V yX6_key wsX6_key 1 [.ref (ad V 85), .int (nI c), .int (nI i)] I L (keyM k v) I L := by
  unfold keyM
  refine Ok.of (cc := cX6_key) (maxL := 5) (ret := (some .long)) (by decide) rfl (Nat.le_of_ble_eq_true rfl) (fun X hnm C => ?_)
  have C : CX l X V RX6 cX6_key 5 wsX6_key 1 0 0 (some .long) := C
  refine J.cast (ls' := [(0, _), (1, _), (2, _)]) rfl rfl rfl rfl ?_
  refine J.aload_n C dX6_key_0 rfl ?_
  refine J.getR C flX6_key_51 (by first | decide | omega) rfl (by exact rfl) dX6_key_1 ?_
  refine J.bipush C dX6_key_4 (v := (nI 12)) (by decide) ?_
  refine J.iload_n C dX6_key_6 rfl ?_
  first | refine J.imul_n C dX6_key_7 ?_ | refine J.imul C dX6_key_7 ?_
  refine J.iload_n C dX6_key_8 rfl ?_
  first | refine J.iadd_n C dX6_key_9 ?_ | refine J.iadd C dX6_key_9 ?_
  refine J.la C (by first | exact rfl | assumption) (by first | exact rfl | exact rfl) (by first | (have h_ln := ln_all; omega) | omega) (by first | ((repeat (first | refine up2_rd (by decide) ?_ | refine up2_rm (by decide) ?_ | refine up3_rd (by decide) ?_)) <;> (first | exact up2_s _ _ _ _ | assumption | exact rfl))) dX6_key_10 ?_
  refine J.lstore_n (ls' := [(0, _), (1, _), (2, _), (3, _)]) C dX6_key_11 (by decide) rfl ?_
  refine J.aload_n C dX6_key_12 rfl ?_
  refine J.getR C flX6_key_45 (by first | decide | omega) rfl (by exact rfl) dX6_key_13 ?_
  refine J.iload_n C dX6_key_16 rfl ?_
  refine J.ia C (by first | exact rfl | assumption) (by first | exact rfl | exact rfl) (by first | (have h_ln := ln_all; omega) | omega) (by first | ((repeat (first | refine up2_rd (by decide) ?_ | refine up2_rm (by decide) ?_ | refine up3_rd (by decide) ?_)) <;> (first | exact up2_s _ _ _ _ | assumption | exact rfl))) dX6_key_17 ?_
  refine J.bipush C dX6_key_18 (v := (nI 6)) (by decide) ?_
  first | refine J.icmp_ne_n C (by omega) (by omega) dX6_key_20 (tgt := 35) (by decide) (fun c20t => ?_) (fun c20f => ?_) | refine J.icmp_ne_xn C (by omega) dX6_key_20 (tgt := 35) (by decide) (fun c20t => ?_) (fun c20f => ?_) | refine J.icmp_ne_nx C (by omega) dX6_key_20 (tgt := 35) (by decide) (fun c20t => ?_) (fun c20f => ?_) | refine J.icmp_ne C dX6_key_20 (tgt := 35) (by decide) (fun c20t => ?_) (fun c20f => ?_)
  · rw [if_neg (fun q => c20t q.1)]
    refine J.aload_n C dX6_key_35 rfl ?_
    refine J.getR C flX6_key_45 (by first | decide | omega) rfl (by exact rfl) dX6_key_36 ?_
    refine J.iload_n C dX6_key_39 rfl ?_
    refine J.ia C (by first | exact rfl | assumption) (by first | exact rfl | exact rfl) (by first | (have h_ln := ln_all; omega) | omega) (by first | ((repeat (first | refine up2_rd (by decide) ?_ | refine up2_rm (by decide) ?_ | refine up3_rd (by decide) ?_)) <;> (first | exact up2_s _ _ _ _ | assumption | exact rfl))) dX6_key_40 ?_
    refine J.bipush C dX6_key_41 (v := (nI 7)) (by decide) ?_
    first | refine J.icmp_ne_n C (by omega) (by omega) dX6_key_43 (tgt := 60) (by decide) (fun c43t => ?_) (fun c43f => ?_) | refine J.icmp_ne_xn C (by omega) dX6_key_43 (tgt := 60) (by decide) (fun c43t => ?_) (fun c43f => ?_) | refine J.icmp_ne_nx C (by omega) dX6_key_43 (tgt := 60) (by decide) (fun c43t => ?_) (fun c43f => ?_) | refine J.icmp_ne C dX6_key_43 (tgt := 60) (by decide) (fun c43t => ?_) (fun c43f => ?_)
    · rw [if_neg (fun q => c43t q.1)]
      refine J.lload_n C dX6_key_60 rfl ?_
      exact J.lret C dX6_key_61 ⟨rfl, rfl⟩
    · refine J.lload_n C dX6_key_46 rfl ?_
      refine J.lconst C dX6_key_47 (v := 0) (by decide) ?_
      refine J.lcmp C dX6_key_48 ?_
      refine J.if_ge_c C dX6_key_49 (tgt := 60) (by decide) (fun c49t => ?_) (fun c49f => ?_)
      · rw [if_neg (fun q => Int64.not_lt.mpr c49t q.2)]
        refine J.lload_n C dX6_key_60 rfl ?_
        exact J.lret C dX6_key_61 ⟨rfl, rfl⟩
      · rw [if_pos ⟨c43f, Int64.not_le.mp c49f⟩]
        refine J.lload_n C dX6_key_52 rfl ?_
        refine J.ldc2 C (v := 9223372036854775807) (by decide +kernel) dX6_key_53 ?_
        refine J.lxor C dX6_key_56 ?_
        refine J.goto C dX6_key_57 (tgt := 61) (by decide) ?_
        exact J.lret C dX6_key_61 ⟨rfl, rfl⟩
  · refine J.lload_n C dX6_key_23 rfl ?_
    refine J.lconst C dX6_key_24 (v := 0) (by decide) ?_
    refine J.lcmp C dX6_key_25 ?_
    refine J.if_ge_c C dX6_key_26 (tgt := 35) (by decide) (fun c26t => ?_) (fun c26f => ?_)
    · rw [if_neg (fun q => Int64.not_lt.mpr c26t q.2)]
      refine J.aload_n C dX6_key_35 rfl ?_
      refine J.getR C flX6_key_45 (by first | decide | omega) rfl (by exact rfl) dX6_key_36 ?_
      refine J.iload_n C dX6_key_39 rfl ?_
      refine J.ia C (by first | exact rfl | assumption) (by first | exact rfl | exact rfl) (by first | (have h_ln := ln_all; omega) | omega) (by first | ((repeat (first | refine up2_rd (by decide) ?_ | refine up2_rm (by decide) ?_ | refine up3_rd (by decide) ?_)) <;> (first | exact up2_s _ _ _ _ | assumption | exact rfl))) dX6_key_40 ?_
      refine J.bipush C dX6_key_41 (v := (nI 7)) (by decide) ?_
      first | refine J.icmp_ne_n C (by omega) (by omega) dX6_key_43 (tgt := 60) (by decide) (fun c43t => ?_) (fun c43f => ?_) | refine J.icmp_ne_xn C (by omega) dX6_key_43 (tgt := 60) (by decide) (fun c43t => ?_) (fun c43f => ?_) | refine J.icmp_ne_nx C (by omega) dX6_key_43 (tgt := 60) (by decide) (fun c43t => ?_) (fun c43f => ?_) | refine J.icmp_ne C dX6_key_43 (tgt := 60) (by decide) (fun c43t => ?_) (fun c43f => ?_)
      · rw [if_neg (fun q => c43t q.1)]
        refine J.lload_n C dX6_key_60 rfl ?_
        exact J.lret C dX6_key_61 ⟨rfl, rfl⟩
      · refine J.lload_n C dX6_key_46 rfl ?_
        refine J.lconst C dX6_key_47 (v := 0) (by decide) ?_
        refine J.lcmp C dX6_key_48 ?_
        refine J.if_ge_c C dX6_key_49 (tgt := 60) (by decide) (fun c49t => ?_) (fun c49f => ?_)
        · rw [if_neg (fun q => Int64.not_lt.mpr c49t q.2)]
          refine J.lload_n C dX6_key_60 rfl ?_
          exact J.lret C dX6_key_61 ⟨rfl, rfl⟩
        · rw [if_pos ⟨c43f, Int64.not_le.mp c49f⟩]
          refine J.lload_n C dX6_key_52 rfl ?_
          refine J.ldc2 C (v := 9223372036854775807) (by decide +kernel) dX6_key_53 ?_
          refine J.lxor C dX6_key_56 ?_
          refine J.goto C dX6_key_57 (tgt := 61) (by decide) ?_
          exact J.lret C dX6_key_61 ⟨rfl, rfl⟩
    · rw [if_pos ⟨c20f, Int64.not_le.mp c26f⟩]
      refine J.lload_n C dX6_key_29 rfl ?_
      refine J.ldc2 C (v := 2147483647) (by decide +kernel) dX6_key_30 ?_
      refine J.lxor C dX6_key_33 ?_
      exact J.lret C dX6_key_34 ⟨rfl, rfl⟩
set_option maxHeartbeats 4000000 in
set_option maxRecDepth 100000 in
theorem ok_X6_against (l : Launch) (V : Vx) {c i j k : Nat} {v w : Int64} (I : Nat → Nat → Int32) (L : Nat → Nat → Int64) (hc : c < 6) (hi : i < 12) (hj : j < 12) (hk : k ≤ 7) (h0 : I 96 c = nI k) (hv : L 98 (12 * c + i) = v) (hw : L 98 (12 * c + j) = w) : Di l V yX6_against wsX6_against 2 [.ref (ad V 85), .int (nI c), .int (nI i), .int (nI j)] I L (ordI k v w) I L := by
  unfold ordI
  refine Ok.of (cc := cX6_against) (maxL := 8) (ret := (some .int)) (by decide) rfl (Nat.le_of_ble_eq_true rfl) (fun X hnm C => ?_)
  have C : CX l X V RX6 cX6_against 8 wsX6_against 2 0 0 (some .int) := C
  refine J.cast (ls' := [(0, _), (1, _), (2, _), (3, _)]) rfl rfl rfl rfl ?_
  refine J.aload_n C dX6_against_0 rfl ?_
  refine J.iload_n C dX6_against_1 rfl ?_
  refine J.iload_n C dX6_against_2 rfl ?_
  refine J.cVDl (q := (RX6, TX6, 25)) (ci := 6) C (ok_X6_key l V _ _ hc hi hk h0 hv) gX6_against_X6_key rfl mfX6_key rfl (by decide) (by decide) (by first | decide | omega) rfl rfl rfl rfl (Nat.le_of_ble_eq_true rfl) dX6_against_3 (Nat.le_refl _) (Nat.le_refl _) ?_
  refine J.lstore (ls' := [(0, _), (1, _), (2, _), (3, _), (4, _)]) C dX6_against_6 (by decide) rfl ?_
  refine J.aload_n C dX6_against_8 rfl ?_
  refine J.iload_n C dX6_against_9 rfl ?_
  refine J.iload_n C dX6_against_10 rfl ?_
  refine J.cVDl (q := (RX6, TX6, 25)) (ci := 6) C (ok_X6_key l V _ _ hc hj hk h0 hw) gX6_against_X6_key rfl mfX6_key rfl (by decide) (by decide) (by first | decide | omega) rfl rfl rfl rfl (Nat.le_of_ble_eq_true rfl) dX6_against_11 (Nat.le_refl _) (Nat.le_refl _) ?_
  refine J.lstore (ls' := [(0, _), (1, _), (2, _), (3, _), (4, _), (6, _)]) C dX6_against_14 (by decide) rfl ?_
  refine J.lload C dX6_against_16 rfl ?_
  refine J.lload C dX6_against_18 rfl ?_
  refine J.lcmp C dX6_against_20 ?_
  refine J.if_ge_c C dX6_against_21 (tgt := 28) (by decide) (fun c21t => ?_) (fun c21f => ?_)
  · rw [if_neg (Int64.not_lt.mpr c21t)]
    refine J.lload C dX6_against_28 rfl ?_
    refine J.lload C dX6_against_30 rfl ?_
    refine J.lcmp C dX6_against_32 ?_
    refine J.if_le_c C dX6_against_33 (tgt := 40) (by decide) (fun c33t => ?_) (fun c33f => ?_)
    · rw [if_neg (Int64.not_lt.mpr c33t)]
      refine J.iconst C dX6_against_40 (v := (nI 0)) (by decide) ?_
      exact J.iret C dX6_against_41 ⟨rfl, rfl⟩
    · rw [if_pos (Int64.not_le.mp c33f)]
      refine J.iconst C dX6_against_36 (v := (nI 1)) (by decide) ?_
      refine J.goto C dX6_against_37 (tgt := 41) (by decide) ?_
      exact J.iret C dX6_against_41 ⟨rfl, rfl⟩
  · rw [if_pos (Int64.not_le.mp c21f)]
    refine J.iconst C dX6_against_24 (v := (-1)) (by decide) ?_
    refine J.goto C dX6_against_25 (tgt := 41) (by decide) ?_
    exact J.iret C dX6_against_41 ⟨rfl, rfl⟩
theorem ordI_c (k : Nat) (a b : Int64) : ordI k a b = -1 ∨ ordI k a b = nI 0 ∨ ordI k a b = nI 1 := by
  unfold ordI
  split
  · exact Or.inl rfl
  · split
    · exact Or.inr (Or.inr rfl)
    · exact Or.inr (Or.inl rfl)
def Rise (x : Nat × Nat × (Nat → Int64)) : Prop := ∀ i, i + 1 < x.2.1 → (ordI x.1 (x.2.2 i) (x.2.2 (i + 1))).toInt ≤ 0
noncomputable def op_rises (g : Sg) (c : Option Nat) : Int32 × Sg := cond (tb (inO c 6)) (cond (tb ((g.2.2.2.1 (c.getD 0)).1 = 0)) (-2, gF g) (bI (tb (Rise (g.2.2.2.1 (c.getD 0)))), g)) (-1, gF g)
noncomputable def op_order (g : Sg) (c i j : Option Nat) : Int32 × Sg := cond (tb (lkO g c i = nI 0)) (cond (tb (lkO g c j = nI 0)) (nI 10 + ordI (g.2.2.2.1 (c.getD 0)).1 ((g.2.2.2.1 (c.getD 0)).2.2 (i.getD 0)) ((g.2.2.2.1 (c.getD 0)).2.2 (j.getD 0)), g) (lkO g c j, gF g)) (lkO g c i, gF g)
set_option maxHeartbeats 4000000 in
set_option maxRecDepth 100000 in
theorem lp_X6_rises {l : Launch} {X : Cx} {V : Vx} {P : Option Value → (Nat → va_E) → Prop} {I : Nat → Nat → Int32} {L : Nat → Nat → Int64} (C : CX l X V RX6 cX6_rises 3 wsX6_rises 3 0 0 (some .int)) {c : Nat} {x : Nat × Nat × (Nat → Int64)} (hc : c < 6) (h0 : I 96 c = nI x.1) (h1 : I 97 c = nI x.2.1) (hk : x.1 ≤ 7) (hs : x.2.1 ≤ 12) (hv : ∀ i, i < 12 → L 98 (12 * c + i) = x.2.2 i) (hP : P (some (.int (bI (tb (Rise x))))) (mm V I L)) : ∀ (k i : Nat), x.2.1 ≤ i + k → 1 ≤ i → i ≤ 13 → (∀ j, j + 1 < i → j + 1 < x.2.1 → (ordI x.1 (x.2.2 j) (x.2.2 (j + 1))).toInt ≤ 0) → E X V P 3 31 [(0, .ref (ad V 85)), (1, .int (nI c)), (2, .int (nI i))] [] I L := by
  intro k
  induction k with
  | zero =>
    intro i hi h1i h13 hb
    refine J.iload_n C dX6_rises_31 rfl ?_
    refine J.aload_n C dX6_rises_32 rfl ?_
    refine J.getR C flX6_rises_48 (by first | decide | omega) rfl (by exact rfl) dX6_rises_33 ?_
    refine J.iload_n C dX6_rises_36 rfl ?_
    refine J.ia C (by first | exact rfl | assumption) (by first | exact rfl | exact rfl) (by first | (have h_ln := ln_all; omega) | omega) (by first | ((repeat (first | refine up2_rd (by decide) ?_ | refine up2_rm (by decide) ?_ | refine up3_rd (by decide) ?_)) <;> (first | exact up2_s _ _ _ _ | assumption | exact rfl))) dX6_rises_37 ?_
    first | refine J.icmp_ge_n C (by omega) (by omega) dX6_rises_38 (tgt := 61) (by decide) (fun _ => ?_) (fun c38 => absurd c38 (by first | omega | decide | simp_all)) | refine J.icmp_ge_xn C (by omega) dX6_rises_38 (tgt := 61) (by decide) (fun _ => ?_) (fun c38 => absurd c38 (by first | omega | decide | simp_all)) | refine J.icmp_ge_nx C (by omega) dX6_rises_38 (tgt := 61) (by decide) (fun _ => ?_) (fun c38 => absurd c38 (by first | omega | decide | simp_all)) | refine J.icmp_ge C dX6_rises_38 (tgt := 61) (by decide) (fun _ => ?_) (fun c38 => absurd c38 (by first | omega | decide | simp_all))
    refine J.iconst C dX6_rises_61 (v := (nI 1)) (by decide) ?_
    exact J.iret C dX6_rises_62 (by rw [tb_1 (P := Rise x) (fun j hj => hb j (by omega) hj)] at hP; exact hP)
  | succ k ih =>
    intro i hi h1i h13 hb
    refine J.iload_n C dX6_rises_31 rfl ?_
    refine J.aload_n C dX6_rises_32 rfl ?_
    refine J.getR C flX6_rises_48 (by first | decide | omega) rfl (by exact rfl) dX6_rises_33 ?_
    refine J.iload_n C dX6_rises_36 rfl ?_
    refine J.ia C (by first | exact rfl | assumption) (by first | exact rfl | exact rfl) (by first | (have h_ln := ln_all; omega) | omega) (by first | ((repeat (first | refine up2_rd (by decide) ?_ | refine up2_rm (by decide) ?_ | refine up3_rd (by decide) ?_)) <;> (first | exact up2_s _ _ _ _ | assumption | exact rfl))) dX6_rises_37 ?_
    first | refine J.icmp_ge_n C (by omega) (by omega) dX6_rises_38 (tgt := 61) (by decide) (fun c38t => ?_) (fun c38f => ?_) | refine J.icmp_ge_xn C (by omega) dX6_rises_38 (tgt := 61) (by decide) (fun c38t => ?_) (fun c38f => ?_) | refine J.icmp_ge_nx C (by omega) dX6_rises_38 (tgt := 61) (by decide) (fun c38t => ?_) (fun c38f => ?_) | refine J.icmp_ge C dX6_rises_38 (tgt := 61) (by decide) (fun c38t => ?_) (fun c38f => ?_)
    · refine J.iconst C dX6_rises_61 (v := (nI 1)) (by decide) ?_
      exact J.iret C dX6_rises_62 (by rw [tb_1 (P := Rise x) (fun j hj => hb j (by omega) hj)] at hP; exact hP)
    · refine J.aload_n C dX6_rises_41 rfl ?_
      refine J.iload_n C dX6_rises_42 rfl ?_
      refine J.iload_n C dX6_rises_43 rfl ?_
      refine J.iconst C dX6_rises_44 (v := (nI 1)) (by decide) ?_
      first | refine J.isub_n C (by omega) dX6_rises_45 ?_ | refine J.isub C dX6_rises_45 ?_
      refine J.iload_n C dX6_rises_46 rfl ?_
      refine J.cVDi (q := (RX6, TX6, 25)) (ci := 6) C (ok_X6_against l V _ _ hc (by omega) (by omega) hk h0 (hv _ (by omega)) (hv _ (by omega))) gX6_rises_X6_against rfl mfX6_against rfl (by decide) (by decide) (by first | decide | omega) rfl rfl rfl rfl (Nat.le_of_ble_eq_true rfl) dX6_rises_47 (Nat.le_refl _) (Nat.le_refl _) ?_
      refine J.if_le_z C dX6_rises_50 (tgt := 55) (by decide) (fun c50t => ?_) (fun c50f => ?_)
      · refine J.iinc (ls' := [(0, _), (1, _), (2, _)]) C dX6_rises_55 rfl (by first | exact nI_inc _ 1 | exact rfl) (by decide) rfl ?_
        refine J.goto C dX6_rises_58 (tgt := 31) (by decide) ?_
        refine ih (i + 1) (by omega) (by omega) (by omega) (fun j hj hj2 => ?_)
        by_cases e : j + 1 = i
        · obtain rfl : j = i - 1 := by omega
          rw [show i - 1 + 1 = i by omega]
          exact c50t
        · exact hb j (by omega) hj2
      · refine J.iconst C dX6_rises_53 (v := (nI 0)) (by decide) ?_
        exact J.iret C dX6_rises_54 (by rw [tb_0 (P := Rise x) (fun q => by have := q (i - 1) (by omega); rw [show i - 1 + 1 = i by omega] at this; omega)] at hP; exact hP)
set_option maxHeartbeats 4000000 in
set_option maxRecDepth 100000 in
theorem ok_X6_rises (l : Launch) (V : Vx) {g : Sg} {x1 : Int32} {o1 : Option Nat} (I : Nat → Nat → Int32) (L : Nat → Nat → Int64) (hx1 : AG x1 o1) (h : AbM I L g) (ok : okG g) : PM l V yX6_rises wsX6_rises 3 [.ref (ad V 85), .int x1] I L (op_rises g o1) := by
  refine Ok.of (cc := cX6_rises) (maxL := 3) (ret := (some .int)) (by decide) rfl (Nat.le_of_ble_eq_true rfl) (fun X hnm C => ?_)
  have C : CX l X V RX6 cX6_rises 3 wsX6_rises 3 0 0 (some .int) := C
  refine J.cast (ls' := [(0, _), (1, _)]) rfl rfl rfl rfl ?_
  refine J.iload_n C dX6_rises_0 rfl ?_
  refine J.cSDi C (ok_X6_isCrate l V _ _ hx1) gX6_rises_X6_isCrate rfl mfX6_isCrate (by decide) (by decide) rfl rfl (Nat.le_of_ble_eq_true rfl) dX6_rises_1 (Nat.le_refl _) (Nat.le_refl _) ?_
  first | refine J.if_ne_b C dX6_rises_4 (tgt := 13) (by decide) (fun c4t => ?_) (fun c4f => ?_) | refine J.if_ne_n C (by omega) dX6_rises_4 (tgt := 13) (by decide) (fun c4t => ?_) (fun c4f => ?_) | refine J.if_ne C dX6_rises_4 (tgt := 13) (by decide) (fun c4t => ?_) (fun c4f => ?_)
  · obtain ⟨c, rfl, hc⟩ := tb_t.mp c4t
    obtain ⟨-, rfl⟩ := hx1
    unfold op_rises
    rw [c4t]
    have hC := h.2.2.2.1 c hc
    have hok := ok.2.2.2.2.1 c hc
    obtain ⟨hc0, hc1, hc2⟩ := hC
    obtain ⟨ok0, ok1, ok2⟩ := hok
    refine J.aload_n C dX6_rises_13 rfl ?_
    refine J.getR C flX6_rises_45 (by first | decide | omega) rfl (by exact rfl) dX6_rises_14 ?_
    refine J.iload_n C dX6_rises_17 rfl ?_
    refine J.ia C (by first | exact rfl | assumption) (by first | exact rfl | exact rfl) (by first | (have h_ln := ln_all; omega) | omega) (by first | ((repeat (first | refine up2_rd (by decide) ?_ | refine up2_rm (by decide) ?_ | refine up3_rd (by decide) ?_)) <;> (first | exact up2_s _ _ _ _ | assumption | exact rfl))) dX6_rises_18 ?_
    first | refine J.if_ne_b C dX6_rises_19 (tgt := 29) (by decide) (fun c19t => ?_) (fun c19f => ?_) | refine J.if_ne_n C (by omega) dX6_rises_19 (tgt := 29) (by decide) (fun c19t => ?_) (fun c19f => ?_) | refine J.if_ne C dX6_rises_19 (tgt := 29) (by decide) (fun c19t => ?_) (fun c19f => ?_)
    · rw [tb_0 (show ¬ (g.2.2.2.1 ((some c).getD 0)).1 = 0 from c19t)]
      refine J.iconst C dX6_rises_29 (v := (nI 1)) (by decide) ?_
      refine J.istore_n (ls' := [(0, _), (1, _), (2, _)]) C dX6_rises_30 (by decide) rfl ?_
      refine lp_X6_rises C hc hc0 hc1 ok0 ok1 hc2 ?_ 12 1 (by omega) (by omega) (by omega) (fun j hj => by omega)
      exact qM_s ⟨rfl, h, frm_rfl, frmL_rfl⟩
    · rw [tb_1 (show (g.2.2.2.1 ((some c).getD 0)).1 = 0 from c19f)]
      refine J.aload_n C dX6_rises_22 rfl ?_
      refine J.bipush C dX6_rises_23 (v := (-2)) (by decide) ?_
      refine J.cVDi (q := (RX6, TX6, 25)) (ci := 6) C (ok_X6_found l V _ _ _) gX6_rises_X6_found rfl mfX6_found rfl (by decide) (by decide) (by first | decide | omega) rfl rfl rfl rfl (Nat.le_of_ble_eq_true rfl) dX6_rises_25 (Nat.le_refl _) (Nat.le_refl _) ?_
      exact J.iret C dX6_rises_28 (qM_s (qM_F h))
  · unfold op_rises
    rw [c4f]
    refine J.aload_n C dX6_rises_7 rfl ?_
    refine J.iconst C dX6_rises_8 (v := (-1)) (by decide) ?_
    refine J.cVDi (q := (RX6, TX6, 25)) (ci := 6) C (ok_X6_found l V _ _ _) gX6_rises_X6_found rfl mfX6_found rfl (by decide) (by decide) (by first | decide | omega) rfl rfl rfl rfl (Nat.le_of_ble_eq_true rfl) dX6_rises_9 (Nat.le_refl _) (Nat.le_refl _) ?_
    exact J.iret C dX6_rises_12 (qM_s (qM_F h))
set_option maxHeartbeats 4000000 in
set_option maxRecDepth 100000 in
theorem ok_X6_order (l : Launch) (V : Vx) {g : Sg} {x1 : Int32} {o1 : Option Nat} {x2 : Int32} {o2 : Option Nat} {x3 : Int32} {o3 : Option Nat} (I : Nat → Nat → Int32) (L : Nat → Nat → Int64) (hx1 : AG x1 o1) (hx2 : AG x2 o2) (hx3 : AG x3 o3) (h : AbM I L g) (ok : okG g) : PM l V yX6_order wsX6_order 4 [.ref (ad V 85), .int x1, .int x2, .int x3] I L (op_order g o1 o2 o3) := by
  rcases lkO_c g o1 o2 with ⟨hl, c, i, rfl, rfl, hc, hk0, hi⟩ | hl
  · unfold op_order
    rw [tb_1 hl]
    rcases lkO_c g (some c) o3 with ⟨hl2, c', j, hcc, rfl, -, -, hj⟩ | hl2
    · obtain ⟨-, rfl⟩ := id hx1
      obtain ⟨-, rfl⟩ := id hx2
      obtain ⟨-, rfl⟩ := id hx3
      cases hcc
      have hC := h.2.2.2.1 c hc
      have hok := ok.2.2.2.2.1 c hc
      obtain ⟨hc0, hc1, hc2⟩ := hC
      obtain ⟨ok0, ok1, ok2⟩ := hok
      rw [tb_1 hl2]
      refine Ok.of (cc := cX6_order) (maxL := 5) (ret := (some .int)) (by decide) rfl (Nat.le_of_ble_eq_true rfl) (fun X hnm C => ?_)
      have C : CX l X V RX6 cX6_order 5 wsX6_order 4 0 0 (some .int) := C
      refine J.cast (ls' := [(0, _), (1, _), (2, _), (3, _)]) rfl rfl rfl rfl ?_
      refine J.aload_n C dX6_order_0 rfl ?_
      refine J.iload_n C dX6_order_1 rfl ?_
      refine J.iload_n C dX6_order_2 rfl ?_
      refine J.cVDi (q := (RX6, TX6, 25)) (ci := 6) C (ok_X6_lacks l V _ _ hx1 hx2 h ok) gX6_order_X6_lacks rfl mfX6_lacks rfl (by decide) (by decide) (by first | decide | omega) rfl rfl rfl rfl (Nat.le_of_ble_eq_true rfl) dX6_order_3 (Nat.le_refl _) (Nat.le_refl _) ?_
      rw [hl]
      refine J.istore (ls' := [(0, _), (1, _), (2, _), (3, _), (4, _)]) C dX6_order_6 (by decide) rfl ?_
      refine J.iload C dX6_order_8 rfl ?_
      first | refine J.if_ne_b C dX6_order_10 (tgt := 21) (by decide) (fun c10 => absurd c10 (by first | omega | decide | simp_all)) (fun _ => ?_) | refine J.if_ne_n C (by omega) dX6_order_10 (tgt := 21) (by decide) (fun c10 => absurd c10 (by first | omega | decide | simp_all)) (fun _ => ?_) | refine J.if_ne C dX6_order_10 (tgt := 21) (by decide) (fun c10 => absurd c10 (by first | omega | decide | simp_all)) (fun _ => ?_)
      refine J.aload_n C dX6_order_13 rfl ?_
      refine J.iload_n C dX6_order_14 rfl ?_
      refine J.iload_n C dX6_order_15 rfl ?_
      refine J.cVDi (q := (RX6, TX6, 25)) (ci := 6) C (ok_X6_lacks l V _ _ hx1 hx3 h ok) gX6_order_X6_lacks rfl mfX6_lacks rfl (by decide) (by decide) (by first | decide | omega) rfl rfl rfl rfl (Nat.le_of_ble_eq_true rfl) dX6_order_16 (Nat.le_refl _) (Nat.le_refl _) ?_
      rw [hl2]
      refine J.istore (ls' := [(0, _), (1, _), (2, _), (3, _), (4, _)]) C dX6_order_19 (by decide) rfl ?_
      refine J.iload C dX6_order_21 rfl ?_
      refine J.if_ge_n C (by omega) dX6_order_23 (tgt := 35) (by decide) ?_
      refine J.bipush C dX6_order_35 (v := (nI 10)) (by decide) ?_
      refine J.aload_n C dX6_order_37 rfl ?_
      refine J.iload_n C dX6_order_38 rfl ?_
      refine J.iload_n C dX6_order_39 rfl ?_
      refine J.iload_n C dX6_order_40 rfl ?_
      refine J.cVDi (q := (RX6, TX6, 25)) (ci := 6) C (ok_X6_against l V _ _ hc (by omega) (by omega) ok0 hc0 (hc2 _ (by omega)) (hc2 _ (by omega))) gX6_order_X6_against rfl mfX6_against rfl (by decide) (by decide) (by first | decide | omega) rfl rfl rfl rfl (Nat.le_of_ble_eq_true rfl) dX6_order_41 (Nat.le_refl _) (Nat.le_refl _) ?_
      first | refine J.iadd_n C dX6_order_44 ?_ | refine J.iadd C dX6_order_44 ?_
      exact J.iret C dX6_order_45 (qM_s ⟨rfl, h, frm_rfl, frmL_rfl⟩)
    · obtain ⟨h1, h2⟩ := lkO_m hl2
      rw [tb_0 h2]
      refine Ok.of (cc := cX6_order) (maxL := 5) (ret := (some .int)) (by decide) rfl (Nat.le_of_ble_eq_true rfl) (fun X hnm C => ?_)
      have C : CX l X V RX6 cX6_order 5 wsX6_order 4 0 0 (some .int) := C
      refine J.cast (ls' := [(0, _), (1, _), (2, _), (3, _)]) rfl rfl rfl rfl ?_
      refine J.aload_n C dX6_order_0 rfl ?_
      refine J.iload_n C dX6_order_1 rfl ?_
      refine J.iload_n C dX6_order_2 rfl ?_
      refine J.cVDi (q := (RX6, TX6, 25)) (ci := 6) C (ok_X6_lacks l V _ _ hx1 hx2 h ok) gX6_order_X6_lacks rfl mfX6_lacks rfl (by decide) (by decide) (by first | decide | omega) rfl rfl rfl rfl (Nat.le_of_ble_eq_true rfl) dX6_order_3 (Nat.le_refl _) (Nat.le_refl _) ?_
      rw [hl]
      refine J.istore (ls' := [(0, _), (1, _), (2, _), (3, _), (4, _)]) C dX6_order_6 (by decide) rfl ?_
      refine J.iload C dX6_order_8 rfl ?_
      first | refine J.if_ne_b C dX6_order_10 (tgt := 21) (by decide) (fun c10 => absurd c10 (by first | omega | decide | simp_all)) (fun _ => ?_) | refine J.if_ne_n C (by omega) dX6_order_10 (tgt := 21) (by decide) (fun c10 => absurd c10 (by first | omega | decide | simp_all)) (fun _ => ?_) | refine J.if_ne C dX6_order_10 (tgt := 21) (by decide) (fun c10 => absurd c10 (by first | omega | decide | simp_all)) (fun _ => ?_)
      refine J.aload_n C dX6_order_13 rfl ?_
      refine J.iload_n C dX6_order_14 rfl ?_
      refine J.iload_n C dX6_order_15 rfl ?_
      refine J.cVDi (q := (RX6, TX6, 25)) (ci := 6) C (ok_X6_lacks l V _ _ hx1 hx3 h ok) gX6_order_X6_lacks rfl mfX6_lacks rfl (by decide) (by decide) (by first | decide | omega) rfl rfl rfl rfl (Nat.le_of_ble_eq_true rfl) dX6_order_16 (Nat.le_refl _) (Nat.le_refl _) ?_
      refine J.istore (ls' := [(0, _), (1, _), (2, _), (3, _), (4, _)]) C dX6_order_19 (by decide) rfl ?_
      refine J.iload C dX6_order_21 rfl ?_
      refine J.if_ge_z C dX6_order_23 (tgt := 35) (by decide) (fun c23 => absurd c23 (by first | omega | decide | simp_all)) (fun _ => ?_)
      refine J.aload_n C dX6_order_26 rfl ?_
      refine J.iload C dX6_order_27 rfl ?_
      refine J.cVDi (q := (RX6, TX6, 25)) (ci := 6) C (ok_X6_found l V _ _ _) gX6_order_X6_found rfl mfX6_found rfl (by decide) (by decide) (by first | decide | omega) rfl rfl rfl rfl (Nat.le_of_ble_eq_true rfl) dX6_order_29 (Nat.le_refl _) (Nat.le_refl _) ?_
      refine J.goto C dX6_order_32 (tgt := 45) (by decide) ?_
      exact J.iret C dX6_order_45 (qM_s (qM_F h))
  · obtain ⟨h1, h2⟩ := lkO_m hl
    unfold op_order
    rw [tb_0 h2]
    have h3 : ¬ lkO g o1 o2 = 0 := h2
    refine Ok.of (cc := cX6_order) (maxL := 5) (ret := (some .int)) (by decide) rfl (Nat.le_of_ble_eq_true rfl) (fun X hnm C => ?_)
    have C : CX l X V RX6 cX6_order 5 wsX6_order 4 0 0 (some .int) := C
    refine J.cast (ls' := [(0, _), (1, _), (2, _), (3, _)]) rfl rfl rfl rfl ?_
    refine J.aload_n C dX6_order_0 rfl ?_
    refine J.iload_n C dX6_order_1 rfl ?_
    refine J.iload_n C dX6_order_2 rfl ?_
    refine J.cVDi (q := (RX6, TX6, 25)) (ci := 6) C (ok_X6_lacks l V _ _ hx1 hx2 h ok) gX6_order_X6_lacks rfl mfX6_lacks rfl (by decide) (by decide) (by first | decide | omega) rfl rfl rfl rfl (Nat.le_of_ble_eq_true rfl) dX6_order_3 (Nat.le_refl _) (Nat.le_refl _) ?_
    refine J.istore (ls' := [(0, _), (1, _), (2, _), (3, _), (4, _)]) C dX6_order_6 (by decide) rfl ?_
    refine J.iload C dX6_order_8 rfl ?_
    refine J.if_ne C dX6_order_10 (tgt := 21) (by decide) (fun _ => ?_) (fun c10 => absurd c10 (by first | omega | decide | simp_all))
    refine J.iload C dX6_order_21 rfl ?_
    refine J.if_ge_z C dX6_order_23 (tgt := 35) (by decide) (fun c23 => absurd c23 (by first | omega | decide | simp_all)) (fun _ => ?_)
    refine J.aload_n C dX6_order_26 rfl ?_
    refine J.iload C dX6_order_27 rfl ?_
    refine J.cVDi (q := (RX6, TX6, 25)) (ci := 6) C (ok_X6_found l V _ _ _) gX6_order_X6_found rfl mfX6_found rfl (by decide) (by decide) (by first | decide | omega) rfl rfl rfl rfl (Nat.le_of_ble_eq_true rfl) dX6_order_29 (Nat.le_refl _) (Nat.le_refl _) ?_
    refine J.goto C dX6_order_32 (tgt := 45) (by decide) ?_
    exact J.iret C dX6_order_45 (qM_s (qM_F h))
