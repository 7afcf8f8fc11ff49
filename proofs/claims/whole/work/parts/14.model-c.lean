theorem lst_none {N : Nat} {Q : Nat → Prop} (h : lst N Q = none) : ∀ r, r < N → ¬ Q r := by have q := lst_is N Q; rw [h] at q; exact q
theorem lst_some {N r : Nat} {Q : Nat → Prop} (h : lst N Q = some r) : r < N ∧ Q r := by have q := lst_is N Q; rw [h] at q; exact ⟨q.1, q.2.1⟩
set_option maxHeartbeats 4000000 in
set_option maxRecDepth 100000 in
theorem ok_X6_sorts (l : Launch) (V : Vx) {t : Nt} (I : Nat → Nat → Int32) (L : Nat → Nat → Int64) (hN : NM I t) (ok : okN t) : Di l V yX6_sorts wsX6_sorts 4 [.ref (ad V 85)] I L (sp_sorts t) I L := by
  have h8 := p2_le ok.2.1
  have h40 := ok.2.2.1
  have hm := hN.2.1
  have hpos := Nat.two_pow_pos t.1
  rcases h : lst (2 ^ t.1) (bad t (-1)) with _ | r
  · have e : sp_sorts t = nI 1 := by unfold sp_sorts; rw [tb_1 (lst_none h)]; rfl
    rw [e]
    refine Ok.of (cc := cX6_sorts) (maxL := 1) (ret := (some .int)) (by decide) rfl (Nat.le_of_ble_eq_true rfl) (fun X hnm C => ?_)
    have C : CX l X V RX6 cX6_sorts 1 wsX6_sorts 4 0 0 (some .int) := C
    refine J.cast (ls' := [(0, _)]) rfl rfl rfl rfl ?_
    refine J.aload_n C dX6_sorts_0 rfl ?_
    refine J.iconst C dX6_sorts_1 (v := (-1)) (by decide) ?_
    refine J.cVDi (q := (RX6, TX6, 25)) (ci := 6) C (ok_X6_failing l V _ _ toInt_m1 hN ok) gX6_sorts_X6_failing rfl mfX6_failing rfl (by decide) (by decide) (by first | decide | omega) rfl rfl rfl rfl (Nat.le_of_ble_eq_true rfl) dX6_sorts_2 (Nat.le_refl _) (Nat.le_refl _) ?_
    rw [h]
    refine J.if_ge_z C dX6_sorts_5 (tgt := 12) (by decide) (fun c5 => absurd c5 (by first | omega | decide | simp_all)) (fun _ => ?_)
    refine J.iconst C dX6_sorts_8 (v := (nI 1)) (by decide) ?_
    refine J.goto C dX6_sorts_9 (tgt := 13) (by decide) ?_
    exact J.iret C dX6_sorts_13 ⟨rfl, rfl⟩
  · have hr := lst_some h
    have e : sp_sorts t = nI 0 := by unfold sp_sorts; rw [tb_0 (fun q => q r hr.1 hr.2)]; rfl
    rw [e]
    refine Ok.of (cc := cX6_sorts) (maxL := 1) (ret := (some .int)) (by decide) rfl (Nat.le_of_ble_eq_true rfl) (fun X hnm C => ?_)
    have C : CX l X V RX6 cX6_sorts 1 wsX6_sorts 4 0 0 (some .int) := C
    refine J.cast (ls' := [(0, _)]) rfl rfl rfl rfl ?_
    refine J.aload_n C dX6_sorts_0 rfl ?_
    refine J.iconst C dX6_sorts_1 (v := (-1)) (by decide) ?_
    refine J.cVDi (q := (RX6, TX6, 25)) (ci := 6) C (ok_X6_failing l V _ _ toInt_m1 hN ok) gX6_sorts_X6_failing rfl mfX6_failing rfl (by decide) (by decide) (by first | decide | omega) rfl rfl rfl rfl (Nat.le_of_ble_eq_true rfl) dX6_sorts_2 (Nat.le_refl _) (Nat.le_refl _) ?_
    rw [h]
    refine J.if_ge_n C (by omega) dX6_sorts_5 (tgt := 12) (by decide) ?_
    refine J.iconst C dX6_sorts_12 (v := (nI 0)) (by decide) ?_
    exact J.iret C dX6_sorts_13 ⟨rfl, rfl⟩
set_option maxHeartbeats 4000000 in
set_option maxRecDepth 100000 in
theorem lp_X6_fails {l : Launch} {X : Cx} {V : Vx} {P : Option Value → (Nat → va_E) → Prop} {I : Nat → Nat → Int32} {L : Nat → Nat → Int64} (C : CX l X V RX6 cX6_fails 4 wsX6_fails 4 0 0 (some .int)) {t : Nt} {y : Int32} (hN : NM I t) (ok : okN t) (hP : P (some (.int (nI (cnt (bad t (-1)) (2 ^ t.1))))) (mm V I L)) : ∀ (k r w : Nat), r + k = 2 ^ t.1 → w = cnt (bad t (-1)) r → E X V P 4 31 [(0, .ref (ad V 85)), (1, .int y), (2, .int (nI w)), (3, .int (nI r))] [] I L := by
  intro k
  induction k with
  | zero =>
    intro r w hr hw
    have e : r = 2 ^ t.1 := by omega
    subst e
    have h8 := p2_le ok.2.1
    have h40 := ok.2.2.1
    have hm := hN.2.1
    have hpos := Nat.two_pow_pos t.1
    refine J.iload_n C dX6_fails_31 rfl ?_
    refine J.aload_n C dX6_fails_32 rfl ?_
    refine J.cVDi (q := (RX6, TX6, 25)) (ci := 6) C (ok_X6_rows l V _ _ hN.1 ok.2.1) gX6_fails_X6_rows rfl mfX6_rows rfl (by decide) (by decide) (by first | decide | omega) rfl rfl rfl rfl (Nat.le_of_ble_eq_true rfl) dX6_fails_33 (Nat.le_refl _) (Nat.le_refl _) ?_
    first | refine J.icmp_ge_n C (by omega) (by omega) dX6_fails_36 (tgt := 70) (by decide) (fun _ => ?_) (fun c36 => absurd c36 (by first | omega | decide | simp_all)) | refine J.icmp_ge_xn C (by omega) dX6_fails_36 (tgt := 70) (by decide) (fun _ => ?_) (fun c36 => absurd c36 (by first | omega | decide | simp_all)) | refine J.icmp_ge_nx C (by omega) dX6_fails_36 (tgt := 70) (by decide) (fun _ => ?_) (fun c36 => absurd c36 (by first | omega | decide | simp_all)) | refine J.icmp_ge C dX6_fails_36 (tgt := 70) (by decide) (fun _ => ?_) (fun c36 => absurd c36 (by first | omega | decide | simp_all))
    refine J.iload_n C dX6_fails_70 rfl ?_
    exact J.iret C dX6_fails_71 (by rw [hw]; exact hP)
  | succ k ih =>
    intro r w hr hw
    have h8 := p2_le ok.2.1
    have h40 := ok.2.2.1
    have hm := hN.2.1
    have hpos := Nat.two_pow_pos t.1
    have hc := cnt_le (bad t (-1)) r
    refine J.iload_n C dX6_fails_31 rfl ?_
    refine J.aload_n C dX6_fails_32 rfl ?_
    refine J.cVDi (q := (RX6, TX6, 25)) (ci := 6) C (ok_X6_rows l V _ _ hN.1 ok.2.1) gX6_fails_X6_rows rfl mfX6_rows rfl (by decide) (by decide) (by first | decide | omega) rfl rfl rfl rfl (Nat.le_of_ble_eq_true rfl) dX6_fails_33 (Nat.le_refl _) (Nat.le_refl _) ?_
    first | refine J.icmp_ge_n C (by omega) (by omega) dX6_fails_36 (tgt := 70) (by decide) (fun c36 => absurd c36 (by first | omega | decide | simp_all)) (fun _ => ?_) | refine J.icmp_ge_xn C (by omega) dX6_fails_36 (tgt := 70) (by decide) (fun c36 => absurd c36 (by first | omega | decide | simp_all)) (fun _ => ?_) | refine J.icmp_ge_nx C (by omega) dX6_fails_36 (tgt := 70) (by decide) (fun c36 => absurd c36 (by first | omega | decide | simp_all)) (fun _ => ?_) | refine J.icmp_ge C dX6_fails_36 (tgt := 70) (by decide) (fun c36 => absurd c36 (by first | omega | decide | simp_all)) (fun _ => ?_)
    refine J.iload_n C dX6_fails_39 rfl ?_
    refine J.aload_n C dX6_fails_40 rfl ?_
    refine J.aload_n C dX6_fails_41 rfl ?_
    refine J.iload_n C dX6_fails_42 rfl ?_
    refine J.aload_n C dX6_fails_43 rfl ?_
    refine J.getI C flX6_fails_79 (by first | decide | omega) rfl (by exact rfl) (by first | assumption | exact rfl) dX6_fails_44 ?_
    refine J.iconst C dX6_fails_47 (v := (-1)) (by decide) ?_
    refine J.cVDi (q := (RX6, TX6, 25)) (ci := 6) C (ok_X6_goes_z l V _ _ toInt_m1 hN ok (by omega) (by omega)) gX6_fails_X6_goes rfl mfX6_goes rfl (by decide) (by decide) (by first | decide | omega) rfl rfl rfl rfl (Nat.le_of_ble_eq_true rfl) dX6_fails_48 (Nat.le_refl _) (Nat.le_refl _) ?_
    refine J.cVDi (q := (RX6, TX6, 25)) (ci := 6) C (ok_X6_isRising l V _ _ hN.1 ok.1 ok.2.1 (by have := gk_lt ok (s := -1) (r := r) (by omega) t.2.1 (by omega); omega)) gX6_fails_X6_isRising rfl mfX6_isRising rfl (by decide) (by decide) (by first | decide | omega) rfl rfl rfl rfl (Nat.le_of_ble_eq_true rfl) dX6_fails_51 (Nat.le_refl _) (Nat.le_refl _) ?_
    first | refine J.if_eq_b C dX6_fails_54 (tgt := 61) (by decide) (fun c54t => ?_) (fun c54f => ?_) | refine J.if_eq_n C (by omega) dX6_fails_54 (tgt := 61) (by decide) (fun c54t => ?_) (fun c54f => ?_) | refine J.if_eq C dX6_fails_54 (tgt := 61) (by decide) (fun c54t => ?_) (fun c54f => ?_)
    · refine J.iconst C dX6_fails_61 (v := (nI 1)) (by decide) ?_
      first | refine J.iadd_n C dX6_fails_62 ?_ | refine J.iadd C dX6_fails_62 ?_
      refine J.istore_n (ls' := [(0, _), (1, _), (2, _), (3, _)]) C dX6_fails_63 (by decide) rfl ?_
      refine J.iinc (ls' := [(0, _), (1, _), (2, _), (3, _)]) C dX6_fails_64 rfl (by first | exact nI_inc _ 1 | exact rfl) (by decide) rfl ?_
      refine J.goto C dX6_fails_67 (tgt := 31) (by decide) ?_
      exact ih (r + 1) _ (by omega) (by unfold cnt; rw [hw]; first | (rw [tb_1 (P := bad t (-1) r) (tb_f.mp c54t)]; rfl) | (rw [tb_0 (P := bad t (-1) r) (fun q => q (tb_t.mp c54f))]; rfl))
    · refine J.iconst C dX6_fails_57 (v := (nI 0)) (by decide) ?_
      refine J.goto C dX6_fails_58 (tgt := 62) (by decide) ?_
      first | refine J.iadd_n C dX6_fails_62 ?_ | refine J.iadd C dX6_fails_62 ?_
      refine J.istore_n (ls' := [(0, _), (1, _), (2, _), (3, _)]) C dX6_fails_63 (by decide) rfl ?_
      refine J.iinc (ls' := [(0, _), (1, _), (2, _), (3, _)]) C dX6_fails_64 rfl (by first | exact nI_inc _ 1 | exact rfl) (by decide) rfl ?_
      refine J.goto C dX6_fails_67 (tgt := 31) (by decide) ?_
      exact ih (r + 1) _ (by omega) (by unfold cnt; rw [hw]; first | (rw [tb_1 (P := bad t (-1) r) (tb_f.mp c54t)]; rfl) | (rw [tb_0 (P := bad t (-1) r) (fun q => q (tb_t.mp c54f))]; rfl))
set_option maxHeartbeats 4000000 in
set_option maxRecDepth 100000 in
theorem ok_X6_fails (l : Launch) (V : Vx) {t : Nt} (b : Bool) (I : Nat → Nat → Int32) (L : Nat → Nat → Int64) (hN : NM I t) (ok : okN t) : Di l V yX6_fails wsX6_fails 4 [.ref (ad V 85), .int (bI b)] I L (sp_fails t b).1 (finM (sp_fails t b).2 I) L := by
  have h8 := p2_le ok.2.1
  have h40 := ok.2.2.1
  have hm := hN.2.1
  have hpos := Nat.two_pow_pos t.1
  cases b with
  | false =>
    refine Ok.of (cc := cX6_fails) (maxL := 4) (ret := (some .int)) (by decide) rfl (Nat.le_of_ble_eq_true rfl) (fun X hnm C => ?_)
    have C : CX l X V RX6 cX6_fails 4 wsX6_fails 4 0 0 (some .int) := C
    refine J.cast (ls' := [(0, _), (1, _)]) rfl rfl rfl rfl ?_
    refine J.iload_n C dX6_fails_0 rfl ?_
    first | refine J.if_eq_b C dX6_fails_1 (tgt := 27) (by decide) (fun _ => ?_) (fun c1 => absurd c1 (by first | omega | decide | simp_all)) | refine J.if_eq_n C (by omega) dX6_fails_1 (tgt := 27) (by decide) (fun _ => ?_) (fun c1 => absurd c1 (by first | omega | decide | simp_all)) | refine J.if_eq C dX6_fails_1 (tgt := 27) (by decide) (fun _ => ?_) (fun c1 => absurd c1 (by first | omega | decide | simp_all))
    refine J.iconst C dX6_fails_27 (v := (nI 0)) (by decide) ?_
    refine J.istore_n (ls' := [(0, _), (1, _), (2, _)]) C dX6_fails_28 (by decide) rfl ?_
    refine J.iconst C dX6_fails_29 (v := (nI 0)) (by decide) ?_
    refine J.istore_n (ls' := [(0, _), (1, _), (2, _), (3, _)]) C dX6_fails_30 (by decide) rfl ?_
    exact lp_X6_fails C hN ok ⟨rfl, rfl⟩ (2 ^ t.1) 0 _ (by omega) rfl
  | true =>
    rcases h : lst (2 ^ t.1) (bad t (-1)) with _ | r
    · have e : sp_fails t true = (-6, true) := by show sp_first t (-1) = _; unfold sp_first; rw [h]
      rw [e]
      refine Ok.of (cc := cX6_fails) (maxL := 4) (ret := (some .int)) (by decide) rfl (Nat.le_of_ble_eq_true rfl) (fun X hnm C => ?_)
      have C : CX l X V RX6 cX6_fails 4 wsX6_fails 4 0 0 (some .int) := C
      refine J.cast (ls' := [(0, _), (1, _)]) rfl rfl rfl rfl ?_
      refine J.iload_n C dX6_fails_0 rfl ?_
      first | refine J.if_eq_b C dX6_fails_1 (tgt := 27) (by decide) (fun c1 => absurd c1 (by first | omega | decide | simp_all)) (fun _ => ?_) | refine J.if_eq_n C (by omega) dX6_fails_1 (tgt := 27) (by decide) (fun c1 => absurd c1 (by first | omega | decide | simp_all)) (fun _ => ?_) | refine J.if_eq C dX6_fails_1 (tgt := 27) (by decide) (fun c1 => absurd c1 (by first | omega | decide | simp_all)) (fun _ => ?_)
      refine J.aload_n C dX6_fails_4 rfl ?_
      refine J.iconst C dX6_fails_5 (v := (-1)) (by decide) ?_
      refine J.cVDi (q := (RX6, TX6, 25)) (ci := 6) C (ok_X6_failing l V _ _ toInt_m1 hN ok) gX6_fails_X6_failing rfl mfX6_failing rfl (by decide) (by decide) (by first | decide | omega) rfl rfl rfl rfl (Nat.le_of_ble_eq_true rfl) dX6_fails_6 (Nat.le_refl _) (Nat.le_refl _) ?_
      rw [h]
      refine J.if_ge_z C dX6_fails_9 (tgt := 21) (by decide) (fun c9 => absurd c9 (by first | omega | decide | simp_all)) (fun _ => ?_)
      refine J.aload_n C dX6_fails_12 rfl ?_
      refine J.bipush C dX6_fails_13 (v := (-6)) (by decide) ?_
      refine J.cVDi (q := (RX6, TX6, 25)) (ci := 6) C (ok_X6_found l V _ _ _) gX6_fails_X6_found rfl mfX6_found rfl (by decide) (by decide) (by first | decide | omega) rfl rfl rfl rfl (Nat.le_of_ble_eq_true rfl) dX6_fails_15 (Nat.le_refl _) (Nat.le_refl _) ?_
      refine J.goto C dX6_fails_18 (tgt := 26) (by decide) ?_
      exact J.iret C dX6_fails_26 ⟨rfl, rfl⟩
    · have hr := lst_some h
      have e : sp_fails t true = (nI r, false) := by show sp_first t (-1) = _; unfold sp_first; rw [h]
      rw [e]
      refine Ok.of (cc := cX6_fails) (maxL := 4) (ret := (some .int)) (by decide) rfl (Nat.le_of_ble_eq_true rfl) (fun X hnm C => ?_)
      have C : CX l X V RX6 cX6_fails 4 wsX6_fails 4 0 0 (some .int) := C
      refine J.cast (ls' := [(0, _), (1, _)]) rfl rfl rfl rfl ?_
      refine J.iload_n C dX6_fails_0 rfl ?_
      first | refine J.if_eq_b C dX6_fails_1 (tgt := 27) (by decide) (fun c1 => absurd c1 (by first | omega | decide | simp_all)) (fun _ => ?_) | refine J.if_eq_n C (by omega) dX6_fails_1 (tgt := 27) (by decide) (fun c1 => absurd c1 (by first | omega | decide | simp_all)) (fun _ => ?_) | refine J.if_eq C dX6_fails_1 (tgt := 27) (by decide) (fun c1 => absurd c1 (by first | omega | decide | simp_all)) (fun _ => ?_)
      refine J.aload_n C dX6_fails_4 rfl ?_
      refine J.iconst C dX6_fails_5 (v := (-1)) (by decide) ?_
      refine J.cVDi (q := (RX6, TX6, 25)) (ci := 6) C (ok_X6_failing l V _ _ toInt_m1 hN ok) gX6_fails_X6_failing rfl mfX6_failing rfl (by decide) (by decide) (by first | decide | omega) rfl rfl rfl rfl (Nat.le_of_ble_eq_true rfl) dX6_fails_6 (Nat.le_refl _) (Nat.le_refl _) ?_
      rw [h]
      refine J.if_ge_n C (by omega) dX6_fails_9 (tgt := 21) (by decide) ?_
      refine J.aload_n C dX6_fails_21 rfl ?_
      refine J.iconst C dX6_fails_22 (v := (-1)) (by decide) ?_
      refine J.cVDi (q := (RX6, TX6, 25)) (ci := 6) C (ok_X6_failing l V _ _ toInt_m1 hN ok) gX6_fails_X6_failing rfl mfX6_failing rfl (by decide) (by decide) (by first | decide | omega) rfl rfl rfl rfl (Nat.le_of_ble_eq_true rfl) dX6_fails_23 (Nat.le_refl _) (Nat.le_refl _) ?_
      rw [h]
      exact J.iret C dX6_fails_26 ⟨rfl, rfl⟩
set_option maxHeartbeats 4000000 in
set_option maxRecDepth 100000 in
theorem lp_X6_merges_i {l : Launch} {X : Cx} {V : Vx} {P : Option Value → (Nat → va_E) → Prop} {I : Nat → Nat → Int32} {L : Nat → Nat → Int64} (C : CX l X V RX6 cX6_merges 5 wsX6_merges 3 0 0 (some .int)) {t : Nt} {k0 r : Nat} (hN : NM I t) (ok : okN t) (hk0 : k0 < t.1) (hr : r < 2 ^ t.1) (hx : E X V P 5 83 [(0, .ref (ad V 85)), (1, .int (nI k0)), (2, .int (nI r)), (3, .int (bI (tb (RisK t.1 k0 r)))), (4, .int (nI t.1))] [] I L) : ∀ (k a : Nat) (b : Bool), a + k = t.1 → 1 ≤ a → b = tb (RisK a k0 r) → E X V P 5 35 [(0, .ref (ad V 85)), (1, .int (nI k0)), (2, .int (nI r)), (3, .int (bI b)), (4, .int (nI a))] [] I L := by
  intro k
  induction k with
  | zero =>
    intro a b ha h1 hb
    have e : a = t.1 := by omega
    subst e
    have h00 := hN.1
    have h8 := p2_le ok.2.1
    have h40 := ok.2.2.1
    have hm := hN.2.1
    have hpos := Nat.two_pow_pos t.1
    have hl8 := ok.2.1
    subst hb
    refine J.iload C dX6_merges_35 rfl ?_
    refine J.aload_n C dX6_merges_37 rfl ?_
    refine J.getI C flX6_merges_7 (by first | decide | omega) rfl (by exact rfl) (by first | assumption | exact rfl) dX6_merges_38 ?_
    first | refine J.icmp_ge_n C (by omega) (by omega) dX6_merges_41 (tgt := 83) (by decide) (fun _ => ?_) (fun c41 => absurd c41 (by first | omega | decide | simp_all)) | refine J.icmp_ge_xn C (by omega) dX6_merges_41 (tgt := 83) (by decide) (fun _ => ?_) (fun c41 => absurd c41 (by first | omega | decide | simp_all)) | refine J.icmp_ge_nx C (by omega) dX6_merges_41 (tgt := 83) (by decide) (fun _ => ?_) (fun c41 => absurd c41 (by first | omega | decide | simp_all)) | refine J.icmp_ge C dX6_merges_41 (tgt := 83) (by decide) (fun _ => ?_) (fun c41 => absurd c41 (by first | omega | decide | simp_all))
    exact hx
  | succ k ih =>
    intro a b ha h1 hb
    have h00 := hN.1
    have h8 := p2_le ok.2.1
    have h40 := ok.2.2.1
    have hm := hN.2.1
    have hpos := Nat.two_pow_pos t.1
    have hl8 := ok.2.1
    have hst : RisK (a + 1) k0 r ↔ (RisK a k0 r ∧ (a ≠ k0 → r.testBit (a - 1) = true → r.testBit a = true)) := by
      constructor
      · intro q
        exact ⟨fun c hc => q c (by omega), fun h => by have q2 := q (a - 1) (by omega); rw [show a - 1 + 1 = a by omega] at q2; exact q2 h⟩
      · intro q c hc
        rcases Nat.lt_or_ge (c + 1) a with h | h
        · exact q.1 c h
        · obtain rfl : c = a - 1 := by omega
          rw [show a - 1 + 1 = a by omega]
          exact q.2
    refine J.iload C dX6_merges_35 rfl ?_
    refine J.aload_n C dX6_merges_37 rfl ?_
    refine J.getI C flX6_merges_7 (by first | decide | omega) rfl (by exact rfl) (by first | assumption | exact rfl) dX6_merges_38 ?_
    first | refine J.icmp_ge_n C (by omega) (by omega) dX6_merges_41 (tgt := 83) (by decide) (fun c41 => absurd c41 (by first | omega | decide | simp_all)) (fun _ => ?_) | refine J.icmp_ge_xn C (by omega) dX6_merges_41 (tgt := 83) (by decide) (fun c41 => absurd c41 (by first | omega | decide | simp_all)) (fun _ => ?_) | refine J.icmp_ge_nx C (by omega) dX6_merges_41 (tgt := 83) (by decide) (fun c41 => absurd c41 (by first | omega | decide | simp_all)) (fun _ => ?_) | refine J.icmp_ge C dX6_merges_41 (tgt := 83) (by decide) (fun c41 => absurd c41 (by first | omega | decide | simp_all)) (fun _ => ?_)
    refine J.iload_n C dX6_merges_44 rfl ?_
    first | refine J.if_eq_b C dX6_merges_45 (tgt := 75) (by decide) (fun c45t => ?_) (fun c45f => ?_) | refine J.if_eq_n C (by omega) dX6_merges_45 (tgt := 75) (by decide) (fun c45t => ?_) (fun c45f => ?_) | refine J.if_eq C dX6_merges_45 (tgt := 75) (by decide) (fun c45t => ?_) (fun c45f => ?_)
    · refine J.iconst C dX6_merges_75 (v := (nI 0)) (by decide) ?_
      refine J.istore_n (ls' := [(0, _), (1, _), (2, _), (3, _), (4, _)]) C dX6_merges_76 (by decide) rfl ?_
      refine J.iinc (ls' := [(0, _), (1, _), (2, _), (3, _), (4, _)]) C dX6_merges_77 rfl (by first | exact nI_inc _ 1 | exact rfl) (by decide) rfl ?_
      refine J.goto C dX6_merges_80 (tgt := 35) (by decide) ?_
      first | exact ih (a + 1) false (by omega) (by omega) (tb_0 (fun q => by rw [hst, ← tb_t (P := RisK a k0 r), ← hb, c45t] at q; exact absurd q.1 (by decide))).symm | exact ih (a + 1) true (by omega) (by omega) (tb_1 (hst.mpr ⟨tb_t.mp (hb ▸ c45f), fun q => absurd c51t q⟩)).symm | exact ih (a + 1) false (by omega) (by omega) (tb_0 (fun q => by have q2 := (hst.mp q).2 c51f; revert c68t q2; cases r.testBit (a - 1) <;> cases r.testBit a <;> simp)).symm | exact ih (a + 1) true (by omega) (by omega) (tb_1 (hst.mpr ⟨tb_t.mp (hb ▸ c45f), fun _ => by revert c68f; cases r.testBit (a - 1) <;> cases r.testBit a <;> simp⟩)).symm
    · refine J.iload C dX6_merges_48 rfl ?_
      refine J.iload_n C dX6_merges_50 rfl ?_
      first | refine J.icmp_eq_n C (by omega) (by omega) dX6_merges_51 (tgt := 71) (by decide) (fun c51t => ?_) (fun c51f => ?_) | refine J.icmp_eq_xn C (by omega) dX6_merges_51 (tgt := 71) (by decide) (fun c51t => ?_) (fun c51f => ?_) | refine J.icmp_eq_nx C (by omega) dX6_merges_51 (tgt := 71) (by decide) (fun c51t => ?_) (fun c51f => ?_) | refine J.icmp_eq C dX6_merges_51 (tgt := 71) (by decide) (fun c51t => ?_) (fun c51f => ?_)
      · refine J.iconst C dX6_merges_71 (v := (nI 1)) (by decide) ?_
        refine J.goto C dX6_merges_72 (tgt := 76) (by decide) ?_
        refine J.istore_n (ls' := [(0, _), (1, _), (2, _), (3, _), (4, _)]) C dX6_merges_76 (by decide) rfl ?_
        refine J.iinc (ls' := [(0, _), (1, _), (2, _), (3, _), (4, _)]) C dX6_merges_77 rfl (by first | exact nI_inc _ 1 | exact rfl) (by decide) rfl ?_
        refine J.goto C dX6_merges_80 (tgt := 35) (by decide) ?_
        first | exact ih (a + 1) false (by omega) (by omega) (tb_0 (fun q => by rw [hst, ← tb_t (P := RisK a k0 r), ← hb, c45t] at q; exact absurd q.1 (by decide))).symm | exact ih (a + 1) true (by omega) (by omega) (tb_1 (hst.mpr ⟨tb_t.mp (hb ▸ c45f), fun q => absurd c51t q⟩)).symm | exact ih (a + 1) false (by omega) (by omega) (tb_0 (fun q => by have q2 := (hst.mp q).2 c51f; revert c68t q2; cases r.testBit (a - 1) <;> cases r.testBit a <;> simp)).symm | exact ih (a + 1) true (by omega) (by omega) (tb_1 (hst.mpr ⟨tb_t.mp (hb ▸ c45f), fun _ => by revert c68f; cases r.testBit (a - 1) <;> cases r.testBit a <;> simp⟩)).symm
      · refine J.iload_n C dX6_merges_54 rfl ?_
        refine J.iload C dX6_merges_55 rfl ?_
        refine J.iconst C dX6_merges_57 (v := (nI 1)) (by decide) ?_
        first | refine J.isub_n C (by omega) dX6_merges_58 ?_ | refine J.isub C dX6_merges_58 ?_
        refine J.cSDi C (ok_X6_at l V (by omega) (by omega) _ _) gX6_merges_X6_at rfl mfX6_at (by decide) (by decide) rfl rfl (Nat.le_of_ble_eq_true rfl) dX6_merges_59 (Nat.le_refl _) (Nat.le_refl _) ?_
        refine J.iload_n C dX6_merges_62 rfl ?_
        refine J.iload C dX6_merges_63 rfl ?_
        refine J.cSDi C (ok_X6_at l V (by omega) (by omega) _ _) gX6_merges_X6_at rfl mfX6_at (by decide) (by decide) rfl rfl (Nat.le_of_ble_eq_true rfl) dX6_merges_65 (Nat.le_refl _) (Nat.le_refl _) ?_
        refine J.icmp_gt_n C (by cases r.testBit (a - 1) <;> decide) (by cases r.testBit a <;> decide) dX6_merges_68 (tgt := 75) (by decide) (fun c68t => ?_) (fun c68f => ?_)
        · refine J.iconst C dX6_merges_75 (v := (nI 0)) (by decide) ?_
          refine J.istore_n (ls' := [(0, _), (1, _), (2, _), (3, _), (4, _)]) C dX6_merges_76 (by decide) rfl ?_
          refine J.iinc (ls' := [(0, _), (1, _), (2, _), (3, _), (4, _)]) C dX6_merges_77 rfl (by first | exact nI_inc _ 1 | exact rfl) (by decide) rfl ?_
          refine J.goto C dX6_merges_80 (tgt := 35) (by decide) ?_
          first | exact ih (a + 1) false (by omega) (by omega) (tb_0 (fun q => by rw [hst, ← tb_t (P := RisK a k0 r), ← hb, c45t] at q; exact absurd q.1 (by decide))).symm | exact ih (a + 1) true (by omega) (by omega) (tb_1 (hst.mpr ⟨tb_t.mp (hb ▸ c45f), fun q => absurd c51t q⟩)).symm | exact ih (a + 1) false (by omega) (by omega) (tb_0 (fun q => by have q2 := (hst.mp q).2 c51f; revert c68t q2; cases r.testBit (a - 1) <;> cases r.testBit a <;> simp)).symm | exact ih (a + 1) true (by omega) (by omega) (tb_1 (hst.mpr ⟨tb_t.mp (hb ▸ c45f), fun _ => by revert c68f; cases r.testBit (a - 1) <;> cases r.testBit a <;> simp⟩)).symm
        · refine J.iconst C dX6_merges_71 (v := (nI 1)) (by decide) ?_
          refine J.goto C dX6_merges_72 (tgt := 76) (by decide) ?_
          refine J.istore_n (ls' := [(0, _), (1, _), (2, _), (3, _), (4, _)]) C dX6_merges_76 (by decide) rfl ?_
          refine J.iinc (ls' := [(0, _), (1, _), (2, _), (3, _), (4, _)]) C dX6_merges_77 rfl (by first | exact nI_inc _ 1 | exact rfl) (by decide) rfl ?_
          refine J.goto C dX6_merges_80 (tgt := 35) (by decide) ?_
          first | exact ih (a + 1) false (by omega) (by omega) (tb_0 (fun q => by rw [hst, ← tb_t (P := RisK a k0 r), ← hb, c45t] at q; exact absurd q.1 (by decide))).symm | exact ih (a + 1) true (by omega) (by omega) (tb_1 (hst.mpr ⟨tb_t.mp (hb ▸ c45f), fun q => absurd c51t q⟩)).symm | exact ih (a + 1) false (by omega) (by omega) (tb_0 (fun q => by have q2 := (hst.mp q).2 c51f; revert c68t q2; cases r.testBit (a - 1) <;> cases r.testBit a <;> simp)).symm | exact ih (a + 1) true (by omega) (by omega) (tb_1 (hst.mpr ⟨tb_t.mp (hb ▸ c45f), fun _ => by revert c68f; cases r.testBit (a - 1) <;> cases r.testBit a <;> simp⟩)).symm
set_option maxHeartbeats 4000000 in
set_option maxRecDepth 100000 in
theorem lp_X6_merges {l : Launch} {X : Cx} {V : Vx} {P : Option Value → (Nat → va_E) → Prop} {I : Nat → Nat → Int32} {L : Nat → Nat → Int64} (C : CX l X V RX6 cX6_merges 5 wsX6_merges 3 0 0 (some .int)) {t : Nt} {k0 : Nat} (hN : NM I t) (ok : okN t) (hk0 : k0 < t.1) (hP : P (some (.int (bI (tb (∀ r, r < 2 ^ t.1 → RisK t.1 k0 r → ¬ bad t (-1) r))))) (mm V I L)) : ∀ (k r : Nat), r + k = 2 ^ t.1 → (∀ q, q < r → RisK t.1 k0 q → ¬ bad t (-1) q) → E X V P 5 22 [(0, .ref (ad V 85)), (1, .int (nI k0)), (2, .int (nI r))] [] I L := by
  intro k
  induction k with
  | zero =>
    intro r hr hb
    have e : r = 2 ^ t.1 := by omega
    subst e
    have h8 := p2_le ok.2.1
    have h40 := ok.2.2.1
    have hm := hN.2.1
    have hpos := Nat.two_pow_pos t.1
    refine J.iload_n C dX6_merges_22 rfl ?_
    refine J.aload_n C dX6_merges_23 rfl ?_
    refine J.cVDi (q := (RX6, TX6, 25)) (ci := 6) C (ok_X6_rows l V _ _ hN.1 ok.2.1) gX6_merges_X6_rows rfl mfX6_rows rfl (by decide) (by decide) (by first | decide | omega) rfl rfl rfl rfl (Nat.le_of_ble_eq_true rfl) dX6_merges_24 (Nat.le_refl _) (Nat.le_refl _) ?_
    first | refine J.icmp_ge_n C (by omega) (by omega) dX6_merges_27 (tgt := 112) (by decide) (fun _ => ?_) (fun c27 => absurd c27 (by first | omega | decide | simp_all)) | refine J.icmp_ge_xn C (by omega) dX6_merges_27 (tgt := 112) (by decide) (fun _ => ?_) (fun c27 => absurd c27 (by first | omega | decide | simp_all)) | refine J.icmp_ge_nx C (by omega) dX6_merges_27 (tgt := 112) (by decide) (fun _ => ?_) (fun c27 => absurd c27 (by first | omega | decide | simp_all)) | refine J.icmp_ge C dX6_merges_27 (tgt := 112) (by decide) (fun _ => ?_) (fun c27 => absurd c27 (by first | omega | decide | simp_all))
    refine J.iconst C dX6_merges_112 (v := (nI 1)) (by decide) ?_
    exact J.iret C dX6_merges_113 (by rw [tb_1 hb] at hP; exact hP)
  | succ k ih =>
    intro r hr hb
    have h8 := p2_le ok.2.1
    have h40 := ok.2.2.1
    have hm := hN.2.1
    have hpos := Nat.two_pow_pos t.1
    have hl2 := ok.1
    refine J.iload_n C dX6_merges_22 rfl ?_
    refine J.aload_n C dX6_merges_23 rfl ?_
    refine J.cVDi (q := (RX6, TX6, 25)) (ci := 6) C (ok_X6_rows l V _ _ hN.1 ok.2.1) gX6_merges_X6_rows rfl mfX6_rows rfl (by decide) (by decide) (by first | decide | omega) rfl rfl rfl rfl (Nat.le_of_ble_eq_true rfl) dX6_merges_24 (Nat.le_refl _) (Nat.le_refl _) ?_
    first | refine J.icmp_ge_n C (by omega) (by omega) dX6_merges_27 (tgt := 112) (by decide) (fun c27 => absurd c27 (by first | omega | decide | simp_all)) (fun _ => ?_) | refine J.icmp_ge_xn C (by omega) dX6_merges_27 (tgt := 112) (by decide) (fun c27 => absurd c27 (by first | omega | decide | simp_all)) (fun _ => ?_) | refine J.icmp_ge_nx C (by omega) dX6_merges_27 (tgt := 112) (by decide) (fun c27 => absurd c27 (by first | omega | decide | simp_all)) (fun _ => ?_) | refine J.icmp_ge C dX6_merges_27 (tgt := 112) (by decide) (fun c27 => absurd c27 (by first | omega | decide | simp_all)) (fun _ => ?_)
    refine J.iconst C dX6_merges_30 (v := (nI 1)) (by decide) ?_
    refine J.istore_n (ls' := [(0, _), (1, _), (2, _), (3, _)]) C dX6_merges_31 (by decide) rfl ?_
    refine J.iconst C dX6_merges_32 (v := (nI 1)) (by decide) ?_
    refine J.istore (ls' := [(0, _), (1, _), (2, _), (3, _), (4, _)]) C dX6_merges_33 (by decide) rfl ?_
    refine lp_X6_merges_i C hN ok hk0 (by omega) ?_ (t.1 - 1) 1 true (by omega) (by omega) (tb_1 (fun c hc => by omega)).symm
    refine J.iload_n C dX6_merges_83 rfl ?_
    first | refine J.if_eq_b C dX6_merges_84 (tgt := 106) (by decide) (fun c84t => ?_) (fun c84f => ?_) | refine J.if_eq_n C (by omega) dX6_merges_84 (tgt := 106) (by decide) (fun c84t => ?_) (fun c84f => ?_) | refine J.if_eq C dX6_merges_84 (tgt := 106) (by decide) (fun c84t => ?_) (fun c84f => ?_)
    · refine J.iinc (ls' := [(0, _), (1, _), (2, _), (3, _), (4, _)]) C dX6_merges_106 rfl (by first | exact nI_inc _ 1 | exact rfl) (by decide) rfl ?_
      refine J.goto C dX6_merges_109 (tgt := 22) (by decide) ?_
      refine J.lsx (ls' := [(0, _), (1, _), (2, _)]) (ex := [(3, _), (4, _)]) rfl ?_
      refine ih (r + 1) (by omega) (fun q hq => ?_)
      rcases Nat.lt_or_ge q r with h | h
      · exact hb q h
      · obtain rfl : q = r := by omega
        first | exact fun q2 => absurd q2 (tb_f.mp c84t) | exact fun _ h2 => h2 (tb_t.mp c101t)
    · refine J.aload_n C dX6_merges_87 rfl ?_
      refine J.aload_n C dX6_merges_88 rfl ?_
      refine J.iload_n C dX6_merges_89 rfl ?_
      refine J.aload_n C dX6_merges_90 rfl ?_
      refine J.getI C flX6_merges_79 (by first | decide | omega) rfl (by exact rfl) (by first | assumption | exact rfl) dX6_merges_91 ?_
      refine J.iconst C dX6_merges_94 (v := (-1)) (by decide) ?_
      refine J.cVDi (q := (RX6, TX6, 25)) (ci := 6) C (ok_X6_goes_z l V _ _ toInt_m1 hN ok (by omega) (by omega)) gX6_merges_X6_goes rfl mfX6_goes rfl (by decide) (by decide) (by first | decide | omega) rfl rfl rfl rfl (Nat.le_of_ble_eq_true rfl) dX6_merges_95 (Nat.le_refl _) (Nat.le_refl _) ?_
      refine J.cVDi (q := (RX6, TX6, 25)) (ci := 6) C (ok_X6_isRising l V _ _ hN.1 ok.1 ok.2.1 (by have := gk_lt ok (s := -1) (r := r) (by omega) t.2.1 (by omega); omega)) gX6_merges_X6_isRising rfl mfX6_isRising rfl (by decide) (by decide) (by first | decide | omega) rfl rfl rfl rfl (Nat.le_of_ble_eq_true rfl) dX6_merges_98 (Nat.le_refl _) (Nat.le_refl _) ?_
      first | refine J.if_ne_b C dX6_merges_101 (tgt := 106) (by decide) (fun c101t => ?_) (fun c101f => ?_) | refine J.if_ne_n C (by omega) dX6_merges_101 (tgt := 106) (by decide) (fun c101t => ?_) (fun c101f => ?_) | refine J.if_ne C dX6_merges_101 (tgt := 106) (by decide) (fun c101t => ?_) (fun c101f => ?_)
      · refine J.iinc (ls' := [(0, _), (1, _), (2, _), (3, _), (4, _)]) C dX6_merges_106 rfl (by first | exact nI_inc _ 1 | exact rfl) (by decide) rfl ?_
        refine J.goto C dX6_merges_109 (tgt := 22) (by decide) ?_
        refine J.lsx (ls' := [(0, _), (1, _), (2, _)]) (ex := [(3, _), (4, _)]) rfl ?_
        refine ih (r + 1) (by omega) (fun q hq => ?_)
        rcases Nat.lt_or_ge q r with h | h
        · exact hb q h
        · obtain rfl : q = r := by omega
          first | exact fun q2 => absurd q2 (tb_f.mp c84t) | exact fun _ h2 => h2 (tb_t.mp c101t)
      · refine J.iconst C dX6_merges_104 (v := (nI 0)) (by decide) ?_
        exact J.iret C dX6_merges_105 (by rw [tb_0 (fun q => q r (by omega) (tb_t.mp c84f) (tb_f.mp c101f))] at hP; exact hP)
set_option maxHeartbeats 4000000 in
set_option maxRecDepth 100000 in
theorem ok_X6_merges (l : Launch) (V : Vx) {t : Nt} {x : Int32} {o : Option Nat} (I : Nat → Nat → Int32) (L : Nat → Nat → Int64) (hx : AG x o) (hN : NM I t) (ok : okN t) : Di l V yX6_merges wsX6_merges 3 [.ref (ad V 85), .int x] I L (sp_merges t o).1 (finM (sp_merges t o).2 I) L := by
  have h8 := p2_le ok.2.1
  have h40 := ok.2.2.1
  have hm := hN.2.1
  have hpos := Nat.two_pow_pos t.1
  have h00 := hN.1
  have hl2 := ok.1
  have hl8 := ok.2.1
  cases o with
  | none =>
    have hx : x.toInt < 0 := hx
    refine Ok.of (cc := cX6_merges) (maxL := 5) (ret := (some .int)) (by decide) rfl (Nat.le_of_ble_eq_true rfl) (fun X hnm C => ?_)
    have C : CX l X V RX6 cX6_merges 5 wsX6_merges 3 0 0 (some .int) := C
    refine J.cast (ls' := [(0, _), (1, _)]) rfl rfl rfl rfl ?_
    refine J.iload_n C dX6_merges_0 rfl ?_
    refine J.iconst C dX6_merges_1 (v := (nI 1)) (by decide) ?_
    refine J.aload_n C dX6_merges_2 rfl ?_
    refine J.getI C flX6_merges_7 (by first | decide | omega) rfl (by exact rfl) (by first | assumption | exact rfl) dX6_merges_3 ?_
    refine J.iconst C dX6_merges_6 (v := (nI 1)) (by decide) ?_
    first | refine J.isub_n C (by omega) dX6_merges_7 ?_ | refine J.isub C dX6_merges_7 ?_
    refine J.cSDi C (ok_X6_in_m l V _ _ _ hx (by decide) _ _) gX6_merges_X6_in rfl mfX6_in (by decide) (by decide) rfl rfl (Nat.le_of_ble_eq_true rfl) dX6_merges_8 (Nat.le_refl _) (Nat.le_refl _) ?_
    first | refine J.if_ne_b C dX6_merges_11 (tgt := 20) (by decide) (fun c11 => absurd c11 (by first | omega | decide | simp_all)) (fun _ => ?_) | refine J.if_ne_n C (by omega) dX6_merges_11 (tgt := 20) (by decide) (fun c11 => absurd c11 (by first | omega | decide | simp_all)) (fun _ => ?_) | refine J.if_ne C dX6_merges_11 (tgt := 20) (by decide) (fun c11 => absurd c11 (by first | omega | decide | simp_all)) (fun _ => ?_)
    refine J.aload_n C dX6_merges_14 rfl ?_
    refine J.iconst C dX6_merges_15 (v := (-1)) (by decide) ?_
    refine J.cVDi (q := (RX6, TX6, 25)) (ci := 6) C (ok_X6_found l V _ _ _) gX6_merges_X6_found rfl mfX6_found rfl (by decide) (by decide) (by first | decide | omega) rfl rfl rfl rfl (Nat.le_of_ble_eq_true rfl) dX6_merges_16 (Nat.le_refl _) (Nat.le_refl _) ?_
    exact J.iret C dX6_merges_19 ⟨rfl, rfl⟩
  | some k =>
    obtain ⟨hk, rfl⟩ := hx
    refine Ok.of (cc := cX6_merges) (maxL := 5) (ret := (some .int)) (by decide) rfl (Nat.le_of_ble_eq_true rfl) (fun X hnm C => ?_)
    have C : CX l X V RX6 cX6_merges 5 wsX6_merges 3 0 0 (some .int) := C
    refine J.cast (ls' := [(0, _), (1, _)]) rfl rfl rfl rfl ?_
    refine J.iload_n C dX6_merges_0 rfl ?_
    refine J.iconst C dX6_merges_1 (v := (nI 1)) (by decide) ?_
    refine J.aload_n C dX6_merges_2 rfl ?_
    refine J.getI C flX6_merges_7 (by first | decide | omega) rfl (by exact rfl) (by first | assumption | exact rfl) dX6_merges_3 ?_
    refine J.iconst C dX6_merges_6 (v := (nI 1)) (by decide) ?_
    first | refine J.isub_n C (by omega) dX6_merges_7 ?_ | refine J.isub C dX6_merges_7 ?_
    refine J.cSDi C (ok_X6_in_k l V _ _ _ hk (by decide) (by omega) _ _) gX6_merges_X6_in rfl mfX6_in (by decide) (by decide) rfl rfl (Nat.le_of_ble_eq_true rfl) dX6_merges_8 (Nat.le_refl _) (Nat.le_refl _) ?_
    first | refine J.if_ne_b C dX6_merges_11 (tgt := 20) (by decide) (fun c11t => ?_) (fun c11f => ?_) | refine J.if_ne_n C (by omega) dX6_merges_11 (tgt := 20) (by decide) (fun c11t => ?_) (fun c11f => ?_) | refine J.if_ne C dX6_merges_11 (tgt := 20) (by decide) (fun c11t => ?_) (fun c11f => ?_)
    · have hc := tb_t.mp c11t
      refine J.iconst C dX6_merges_20 (v := (nI 0)) (by decide) ?_
      refine J.istore_n (ls' := [(0, _), (1, _), (2, _)]) C dX6_merges_21 (by decide) rfl ?_
      have e : sp_merges t (some k) = (_, false) := if_pos (by omega)
      rw [e]
      exact lp_X6_merges C hN ok (by omega) ⟨rfl, rfl⟩ (2 ^ t.1) 0 (by omega) (fun q hq => by omega)
    · have hc := tb_f.mp c11f
      refine J.aload_n C dX6_merges_14 rfl ?_
      refine J.iconst C dX6_merges_15 (v := (-1)) (by decide) ?_
      refine J.cVDi (q := (RX6, TX6, 25)) (ci := 6) C (ok_X6_found l V _ _ _) gX6_merges_X6_found rfl mfX6_found rfl (by decide) (by decide) (by first | decide | omega) rfl rfl rfl rfl (Nat.le_of_ble_eq_true rfl) dX6_merges_16 (Nat.le_refl _) (Nat.le_refl _) ?_
      exact J.iret C dX6_merges_19 (by have e : sp_merges t (some k) = (-1, true) := if_neg (by omega); rw [e]; exact ⟨rfl, rfl⟩)
set_option maxHeartbeats 4000000 in
set_option maxRecDepth 100000 in
theorem lp_X6_isIdle {l : Launch} {X : Cx} {V : Vx} {P : Option Value → (Nat → va_E) → Prop} {I : Nat → Nat → Int32} {L : Nat → Nat → Int64} (C : CX l X V RX6 cX6_isIdle 4 wsX6_isIdle 3 0 0 (some .boolean)) {t : Nt} {i : Nat} (hN : NM I t) (ok : okN t) (hi : i < t.2.1) (hP : P (some (.int (bI (tb (Idl t i))))) (mm V I L)) : ∀ (k r : Nat), r + k = 2 ^ t.1 → (∀ q, q < r → chg (t.2.2 i) (hw (gk t.2.2 (-1) q i) (t.2.2 i).2.1 (t.2.2 i).2.2.1) = false) → E X V P 4 14 [(0, .ref (ad V 85)), (1, .int (nI i)), (2, .int (nI r))] [] I L := by
  intro k
  obtain ⟨hc1, hc2, hc3, hc4⟩ := ok.2.2.2 i hi
  obtain ⟨hn1, hn2, hn3, hn4⟩ := hN.2.2 i hi
  have hl8 := ok.2.1
  induction k with
  | zero =>
    intro r hr hb
    have e : r = 2 ^ t.1 := by omega
    subst e
    have h8 := p2_le ok.2.1
    have h40 := ok.2.2.1
    have hm := hN.2.1
    have hpos := Nat.two_pow_pos t.1
    refine J.iload_n C dX6_isIdle_14 rfl ?_
    refine J.aload_n C dX6_isIdle_15 rfl ?_
    refine J.cVDi (q := (RX6, TX6, 25)) (ci := 6) C (ok_X6_rows l V _ _ hN.1 ok.2.1) gX6_isIdle_X6_rows rfl mfX6_rows rfl (by decide) (by decide) (by first | decide | omega) rfl rfl rfl rfl (Nat.le_of_ble_eq_true rfl) dX6_isIdle_16 (Nat.le_refl _) (Nat.le_refl _) ?_
    first | refine J.icmp_ge_n C (by omega) (by omega) dX6_isIdle_19 (tgt := 67) (by decide) (fun _ => ?_) (fun c19 => absurd c19 (by first | omega | decide | simp_all)) | refine J.icmp_ge_xn C (by omega) dX6_isIdle_19 (tgt := 67) (by decide) (fun _ => ?_) (fun c19 => absurd c19 (by first | omega | decide | simp_all)) | refine J.icmp_ge_nx C (by omega) dX6_isIdle_19 (tgt := 67) (by decide) (fun _ => ?_) (fun c19 => absurd c19 (by first | omega | decide | simp_all)) | refine J.icmp_ge C dX6_isIdle_19 (tgt := 67) (by decide) (fun _ => ?_) (fun c19 => absurd c19 (by first | omega | decide | simp_all))
    refine J.iconst C dX6_isIdle_67 (v := (nI 1)) (by decide) ?_
    exact J.zret C dX6_isIdle_68 (by first | exact bI_nar _ | rfl | decide | assumption) (by rw [tb_1 (P := Idl t i) hb] at hP; exact hP)
  | succ k ih =>
    intro r hr hb
    have h8 := p2_le ok.2.1
    have h40 := ok.2.2.1
    have hm := hN.2.1
    have hpos := Nat.two_pow_pos t.1
    have hg := gk_lt ok (s := -1) (r := r) (by omega) i (by omega)
    refine J.iload_n C dX6_isIdle_14 rfl ?_
    refine J.aload_n C dX6_isIdle_15 rfl ?_
    refine J.cVDi (q := (RX6, TX6, 25)) (ci := 6) C (ok_X6_rows l V _ _ hN.1 ok.2.1) gX6_isIdle_X6_rows rfl mfX6_rows rfl (by decide) (by decide) (by first | decide | omega) rfl rfl rfl rfl (Nat.le_of_ble_eq_true rfl) dX6_isIdle_16 (Nat.le_refl _) (Nat.le_refl _) ?_
    first | refine J.icmp_ge_n C (by omega) (by omega) dX6_isIdle_19 (tgt := 67) (by decide) (fun c19 => absurd c19 (by first | omega | decide | simp_all)) (fun _ => ?_) | refine J.icmp_ge_xn C (by omega) dX6_isIdle_19 (tgt := 67) (by decide) (fun c19 => absurd c19 (by first | omega | decide | simp_all)) (fun _ => ?_) | refine J.icmp_ge_nx C (by omega) dX6_isIdle_19 (tgt := 67) (by decide) (fun c19 => absurd c19 (by first | omega | decide | simp_all)) (fun _ => ?_) | refine J.icmp_ge C dX6_isIdle_19 (tgt := 67) (by decide) (fun c19 => absurd c19 (by first | omega | decide | simp_all)) (fun _ => ?_)
    refine J.aload_n C dX6_isIdle_22 rfl ?_
    refine J.iload_n C dX6_isIdle_23 rfl ?_
    refine J.iload_n C dX6_isIdle_24 rfl ?_
    refine J.iconst C dX6_isIdle_25 (v := (-1)) (by decide) ?_
    refine J.cVDi (q := (RX6, TX6, 25)) (ci := 6) C (ok_X6_goes_z l V _ _ toInt_m1 hN ok (by omega) (by omega)) gX6_isIdle_X6_goes rfl mfX6_goes rfl (by decide) (by decide) (by first | decide | omega) rfl rfl rfl rfl (Nat.le_of_ble_eq_true rfl) dX6_isIdle_26 (Nat.le_refl _) (Nat.le_refl _) ?_
    refine J.istore_n (ls' := [(0, _), (1, _), (2, _), (3, _)]) C dX6_isIdle_29 (by decide) rfl ?_
    refine J.aload_n C dX6_isIdle_30 rfl ?_
    refine J.iload_n C dX6_isIdle_31 rfl ?_
    refine J.iload_n C dX6_isIdle_32 rfl ?_
    refine J.aload_n C dX6_isIdle_33 rfl ?_
    refine J.getR C flX6_isIdle_17 (by first | decide | omega) rfl (by exact rfl) dX6_isIdle_34 ?_
    refine J.iload_n C dX6_isIdle_37 rfl ?_
    refine J.ia C (by first | exact rfl | assumption) (by first | exact rfl | exact rfl) (by first | (have h_ln := ln_all; omega) | omega) (by first | assumption | exact rfl) dX6_isIdle_38 ?_
    refine J.cSDi C (ok_X6_at l V (by omega) (by omega) _ _) gX6_isIdle_X6_at rfl mfX6_at (by decide) (by decide) rfl rfl (Nat.le_of_ble_eq_true rfl) dX6_isIdle_39 (Nat.le_refl _) (Nat.le_refl _) ?_
    refine J.iload_n C dX6_isIdle_42 rfl ?_
    refine J.aload_n C dX6_isIdle_43 rfl ?_
    refine J.getR C flX6_isIdle_20 (by first | decide | omega) rfl (by exact rfl) dX6_isIdle_44 ?_
    refine J.iload_n C dX6_isIdle_47 rfl ?_
    refine J.ia C (by first | exact rfl | assumption) (by first | exact rfl | exact rfl) (by first | (have h_ln := ln_all; omega) | omega) (by first | assumption | exact rfl) dX6_isIdle_48 ?_
    refine J.cSDi C (ok_X6_at l V (by omega) (by omega) _ _) gX6_isIdle_X6_at rfl mfX6_at (by decide) (by decide) rfl rfl (Nat.le_of_ble_eq_true rfl) dX6_isIdle_49 (Nat.le_refl _) (Nat.le_refl _) ?_
    first | refine J.isub_n C (by omega) dX6_isIdle_52 ?_ | refine J.isub C dX6_isIdle_52 ?_
    refine J.cVDi (q := (RX6, TX6, 25)) (ci := 6) C (ok_X6_changes l V (t.2.2 i) _ _ _ (by omega) hn1 hc1 hn4) gX6_isIdle_X6_changes rfl mfX6_changes rfl (by decide) (by decide) (by first | decide | omega) rfl rfl rfl rfl (Nat.le_of_ble_eq_true rfl) dX6_isIdle_53 (Nat.le_refl _) (Nat.le_refl _) ?_
    first | refine J.if_eq_b C dX6_isIdle_56 (tgt := 61) (by decide) (fun c56t => ?_) (fun c56f => ?_) | refine J.if_eq_n C (by omega) dX6_isIdle_56 (tgt := 61) (by decide) (fun c56t => ?_) (fun c56f => ?_) | refine J.if_eq C dX6_isIdle_56 (tgt := 61) (by decide) (fun c56t => ?_) (fun c56f => ?_)
    · refine J.iinc (ls' := [(0, _), (1, _), (2, _), (3, _)]) C dX6_isIdle_61 rfl (by first | exact nI_inc _ 1 | exact rfl) (by decide) rfl ?_
      refine J.goto C dX6_isIdle_64 (tgt := 14) (by decide) ?_
      refine J.lsx (ls' := [(0, _), (1, _), (2, _)]) (ex := [(3, _)]) rfl ?_
      refine ih (r + 1) (by omega) (fun q hq => ?_)
      rcases Nat.lt_or_ge q r with h | h
      · exact hb q h
      · obtain rfl : q = r := by omega
        rw [← bI_hw]
        exact c56t
    · refine J.iconst C dX6_isIdle_59 (v := (nI 0)) (by decide) ?_
      exact J.zret C dX6_isIdle_60 (by first | exact bI_nar _ | rfl | decide | assumption) (by rw [bI_hw] at c56f; rw [tb_0 (P := Idl t i) (fun q => by rw [q r (by omega)] at c56f; exact absurd c56f (by decide))] at hP; exact hP)
set_option maxHeartbeats 4000000 in
set_option maxRecDepth 100000 in
theorem ok_X6_isIdle (l : Launch) (V : Vx) {t : Nt} {i : Nat} (I : Nat → Nat → Int32) (L : Nat → Nat → Int64) (hN : NM I t) (ok : okN t) (hi : i < t.2.1) : Di l V yX6_isIdle wsX6_isIdle 3 [.ref (ad V 85), .int (nI i)] I L (bI (tb (Idl t i))) I L := by
  have h8 := p2_le ok.2.1
  have h40 := ok.2.2.1
  have hm := hN.2.1
  have hpos := Nat.two_pow_pos t.1
  obtain ⟨hc1, hc2, hc3, hc4⟩ := ok.2.2.2 i hi
  obtain ⟨hn1, hn2, hn3, hn4⟩ := hN.2.2 i hi
  refine Ok.of (cc := cX6_isIdle) (maxL := 4) (ret := (some .boolean)) (by decide) rfl (Nat.le_of_ble_eq_true rfl) (fun X hnm C => ?_)
  have C : CX l X V RX6 cX6_isIdle 4 wsX6_isIdle 3 0 0 (some .boolean) := C
  refine J.cast (ls' := [(0, _), (1, _)]) rfl rfl rfl rfl ?_
  refine J.aload_n C dX6_isIdle_0 rfl ?_
  refine J.getR C flX6_isIdle_13 (by first | decide | omega) rfl (by exact rfl) dX6_isIdle_1 ?_
  refine J.iload_n C dX6_isIdle_4 rfl ?_
  refine J.ia C (by first | exact rfl | assumption) (by first | exact rfl | exact rfl) (by first | (have h_ln := ln_all; omega) | omega) (by first | assumption | exact rfl) dX6_isIdle_5 ?_
  refine J.iconst C dX6_isIdle_6 (v := (nI 3)) (by decide) ?_
  refine J.icmp_ne_n C (by omega) (by omega) dX6_isIdle_7 (tgt := 12) (by decide) (fun c7t => ?_) (fun c7f => ?_)
  · refine J.iconst C dX6_isIdle_12 (v := (nI 0)) (by decide) ?_
    refine J.istore_n (ls' := [(0, _), (1, _), (2, _)]) C dX6_isIdle_13 (by decide) rfl ?_
    exact lp_X6_isIdle C hN ok hi ⟨rfl, rfl⟩ (2 ^ t.1) 0 (by omega) (fun q hq => by omega)
  · refine J.iconst C dX6_isIdle_10 (v := (nI 0)) (by decide) ?_
    exact J.zret C dX6_isIdle_11 (by first | exact bI_nar _ | rfl | decide | assumption) ⟨rb_f (tb_0 (fun q => by have q2 := q 0 (by omega); unfold chg actK at q2; rw [c7f] at q2; simp [chgK] at q2)), rfl⟩
theorem ti_m {x : Int32} {m : Nat} (h : x.toInt < 0) : tb (0 ≤ x.toInt ∧ x.toInt < (m : Int)) = false := tb_0 (by omega)
theorem ti_k {k m : Nat} (h : k < 2 ^ 31) : tb (0 ≤ (nI k).toInt ∧ (nI k).toInt < (m : Int)) = tb (k < m) := tb_congr (by rw [nI_ti h]; omega)
set_option maxHeartbeats 4000000 in
set_option maxRecDepth 100000 in
theorem ok_X6_idle (l : Launch) (V : Vx) {t : Nt} {x : Int32} {o : Option Nat} (I : Nat → Nat → Int32) (L : Nat → Nat → Int64) (hx : AG x o) (hN : NM I t) (ok : okN t) : Di l V yX6_idle wsX6_idle 4 [.ref (ad V 85), .int x] I L (sp_idle t o).1 (finM (sp_idle t o).2 I) L := by
  have h8 := p2_le ok.2.1
  have h40 := ok.2.2.1
  have hm := hN.2.1
  have hpos := Nat.two_pow_pos t.1
  cases o with
  | none =>
    have hx : x.toInt < 0 := hx
    refine Ok.of (cc := cX6_idle) (maxL := 2) (ret := (some .int)) (by decide) rfl (Nat.le_of_ble_eq_true rfl) (fun X hnm C => ?_)
    have C : CX l X V RX6 cX6_idle 2 wsX6_idle 4 0 0 (some .int) := C
    refine J.cast (ls' := [(0, _), (1, _)]) rfl rfl rfl rfl ?_
    refine J.aload_n C dX6_idle_0 rfl ?_
    refine J.iload_n C dX6_idle_1 rfl ?_
    refine J.cVDi (q := (RX6, TX6, 25)) (ci := 6) C (ok_X6_isComparer l V _ _ _ hN.2.1 ok.2.2.1) gX6_idle_X6_isComparer rfl mfX6_isComparer rfl (by decide) (by decide) (by first | decide | omega) rfl rfl rfl rfl (Nat.le_of_ble_eq_true rfl) dX6_idle_2 (Nat.le_refl _) (Nat.le_refl _) ?_
    rw [ti_m hx]
    first | refine J.if_ne_b C dX6_idle_5 (tgt := 16) (by decide) (fun c5 => absurd c5 (by first | omega | decide | simp_all)) (fun _ => ?_) | refine J.if_ne_n C (by omega) dX6_idle_5 (tgt := 16) (by decide) (fun c5 => absurd c5 (by first | omega | decide | simp_all)) (fun _ => ?_) | refine J.if_ne C dX6_idle_5 (tgt := 16) (by decide) (fun c5 => absurd c5 (by first | omega | decide | simp_all)) (fun _ => ?_)
    refine J.aload_n C dX6_idle_8 rfl ?_
    refine J.iconst C dX6_idle_9 (v := (-1)) (by decide) ?_
    refine J.cVDi (q := (RX6, TX6, 25)) (ci := 6) C (ok_X6_found l V _ _ _) gX6_idle_X6_found rfl mfX6_found rfl (by decide) (by decide) (by first | decide | omega) rfl rfl rfl rfl (Nat.le_of_ble_eq_true rfl) dX6_idle_10 (Nat.le_refl _) (Nat.le_refl _) ?_
    refine J.goto C dX6_idle_13 (tgt := 29) (by decide) ?_
    exact J.iret C dX6_idle_29 ⟨rfl, rfl⟩
  | some k =>
    obtain ⟨hk, rfl⟩ := hx
    by_cases hi : k < t.2.1
    · have hb := tb_1 hi
      have e : sp_idle t (some k) = (_, false) := if_pos hi
      rw [e]
      refine Ok.of (cc := cX6_idle) (maxL := 2) (ret := (some .int)) (by decide) rfl (Nat.le_of_ble_eq_true rfl) (fun X hnm C => ?_)
      have C : CX l X V RX6 cX6_idle 2 wsX6_idle 4 0 0 (some .int) := C
      refine J.cast (ls' := [(0, _), (1, _)]) rfl rfl rfl rfl ?_
      refine J.aload_n C dX6_idle_0 rfl ?_
      refine J.iload_n C dX6_idle_1 rfl ?_
      refine J.cVDi (q := (RX6, TX6, 25)) (ci := 6) C (ok_X6_isComparer l V _ _ _ hN.2.1 ok.2.2.1) gX6_idle_X6_isComparer rfl mfX6_isComparer rfl (by decide) (by decide) (by first | decide | omega) rfl rfl rfl rfl (Nat.le_of_ble_eq_true rfl) dX6_idle_2 (Nat.le_refl _) (Nat.le_refl _) ?_
      rw [ti_k hk, hb]
      first | refine J.if_ne_b C dX6_idle_5 (tgt := 16) (by decide) (fun _ => ?_) (fun c5 => absurd c5 (by first | omega | decide | simp_all)) | refine J.if_ne_n C (by omega) dX6_idle_5 (tgt := 16) (by decide) (fun _ => ?_) (fun c5 => absurd c5 (by first | omega | decide | simp_all)) | refine J.if_ne C dX6_idle_5 (tgt := 16) (by decide) (fun _ => ?_) (fun c5 => absurd c5 (by first | omega | decide | simp_all))
      refine J.aload_n C dX6_idle_16 rfl ?_
      refine J.iload_n C dX6_idle_17 rfl ?_
      refine J.cVDi (q := (RX6, TX6, 25)) (ci := 6) C (ok_X6_isIdle l V _ _ hN ok hi) gX6_idle_X6_isIdle rfl mfX6_isIdle rfl (by decide) (by decide) (by first | decide | omega) rfl rfl rfl rfl (Nat.le_of_ble_eq_true rfl) dX6_idle_18 (Nat.le_refl _) (Nat.le_refl _) ?_
      first | refine J.if_eq_b C dX6_idle_21 (tgt := 28) (by decide) (fun c21t => ?_) (fun c21f => ?_) | refine J.if_eq_n C (by omega) dX6_idle_21 (tgt := 28) (by decide) (fun c21t => ?_) (fun c21f => ?_) | refine J.if_eq C dX6_idle_21 (tgt := 28) (by decide) (fun c21t => ?_) (fun c21f => ?_)
      · refine J.iconst C dX6_idle_28 (v := (nI 0)) (by decide) ?_
        exact J.iret C dX6_idle_29 ⟨by first | exact rb_f c21t | exact rb_t c21f, rfl⟩
      · refine J.iconst C dX6_idle_24 (v := (nI 1)) (by decide) ?_
        refine J.goto C dX6_idle_25 (tgt := 29) (by decide) ?_
        exact J.iret C dX6_idle_29 ⟨by first | exact rb_f c21t | exact rb_t c21f, rfl⟩
    · have hb := tb_0 hi
      have e : sp_idle t (some k) = (-1, true) := if_neg hi
      rw [e]
      refine Ok.of (cc := cX6_idle) (maxL := 2) (ret := (some .int)) (by decide) rfl (Nat.le_of_ble_eq_true rfl) (fun X hnm C => ?_)
      have C : CX l X V RX6 cX6_idle 2 wsX6_idle 4 0 0 (some .int) := C
      refine J.cast (ls' := [(0, _), (1, _)]) rfl rfl rfl rfl ?_
      refine J.aload_n C dX6_idle_0 rfl ?_
      refine J.iload_n C dX6_idle_1 rfl ?_
      refine J.cVDi (q := (RX6, TX6, 25)) (ci := 6) C (ok_X6_isComparer l V _ _ _ hN.2.1 ok.2.2.1) gX6_idle_X6_isComparer rfl mfX6_isComparer rfl (by decide) (by decide) (by first | decide | omega) rfl rfl rfl rfl (Nat.le_of_ble_eq_true rfl) dX6_idle_2 (Nat.le_refl _) (Nat.le_refl _) ?_
      rw [ti_k hk, hb]
      first | refine J.if_ne_b C dX6_idle_5 (tgt := 16) (by decide) (fun c5 => absurd c5 (by first | omega | decide | simp_all)) (fun _ => ?_) | refine J.if_ne_n C (by omega) dX6_idle_5 (tgt := 16) (by decide) (fun c5 => absurd c5 (by first | omega | decide | simp_all)) (fun _ => ?_) | refine J.if_ne C dX6_idle_5 (tgt := 16) (by decide) (fun c5 => absurd c5 (by first | omega | decide | simp_all)) (fun _ => ?_)
      refine J.aload_n C dX6_idle_8 rfl ?_
      refine J.iconst C dX6_idle_9 (v := (-1)) (by decide) ?_
      refine J.cVDi (q := (RX6, TX6, 25)) (ci := 6) C (ok_X6_found l V _ _ _) gX6_idle_X6_found rfl mfX6_found rfl (by decide) (by decide) (by first | decide | omega) rfl rfl rfl rfl (Nat.le_of_ble_eq_true rfl) dX6_idle_10 (Nat.le_refl _) (Nat.le_refl _) ?_
      refine J.goto C dX6_idle_13 (tgt := 29) (by decide) ?_
      exact J.iret C dX6_idle_29 ⟨rfl, rfl⟩
set_option maxHeartbeats 4000000 in
set_option maxRecDepth 100000 in
theorem ok_X6_weak (l : Launch) (V : Vx) {t : Nt} {x : Int32} {o : Option Nat} (I : Nat → Nat → Int32) (L : Nat → Nat → Int64) (hx : AG x o) (hN : NM I t) (ok : okN t) : Di l V yX6_weak wsX6_weak 4 [.ref (ad V 85), .int x] I L (sp_weak t o).1 (finM (sp_weak t o).2 I) L := by
  have h8 := p2_le ok.2.1
  have h40 := ok.2.2.1
  have hm := hN.2.1
  have hpos := Nat.two_pow_pos t.1
  cases o with
  | none =>
    have hx : x.toInt < 0 := hx
    refine Ok.of (cc := cX6_weak) (maxL := 3) (ret := (some .int)) (by decide) rfl (Nat.le_of_ble_eq_true rfl) (fun X hnm C => ?_)
    have C : CX l X V RX6 cX6_weak 3 wsX6_weak 4 0 0 (some .int) := C
    refine J.cast (ls' := [(0, _), (1, _)]) rfl rfl rfl rfl ?_
    refine J.aload_n C dX6_weak_0 rfl ?_
    refine J.iload_n C dX6_weak_1 rfl ?_
    refine J.cVDi (q := (RX6, TX6, 25)) (ci := 6) C (ok_X6_isComparer l V _ _ _ hN.2.1 ok.2.2.1) gX6_weak_X6_isComparer rfl mfX6_isComparer rfl (by decide) (by decide) (by first | decide | omega) rfl rfl rfl rfl (Nat.le_of_ble_eq_true rfl) dX6_weak_2 (Nat.le_refl _) (Nat.le_refl _) ?_
    rw [ti_m hx]
    first | refine J.if_ne_b C dX6_weak_5 (tgt := 14) (by decide) (fun c5 => absurd c5 (by first | omega | decide | simp_all)) (fun _ => ?_) | refine J.if_ne_n C (by omega) dX6_weak_5 (tgt := 14) (by decide) (fun c5 => absurd c5 (by first | omega | decide | simp_all)) (fun _ => ?_) | refine J.if_ne C dX6_weak_5 (tgt := 14) (by decide) (fun c5 => absurd c5 (by first | omega | decide | simp_all)) (fun _ => ?_)
    refine J.aload_n C dX6_weak_8 rfl ?_
    refine J.iconst C dX6_weak_9 (v := (-1)) (by decide) ?_
    refine J.cVDi (q := (RX6, TX6, 25)) (ci := 6) C (ok_X6_found l V _ _ _) gX6_weak_X6_found rfl mfX6_found rfl (by decide) (by decide) (by first | decide | omega) rfl rfl rfl rfl (Nat.le_of_ble_eq_true rfl) dX6_weak_10 (Nat.le_refl _) (Nat.le_refl _) ?_
    exact J.iret C dX6_weak_13 ⟨rfl, rfl⟩
  | some k =>
    obtain ⟨hk, rfl⟩ := hx
    by_cases hi : k < t.2.1
    · have hb := tb_1 hi
      rcases h : lst (2 ^ t.1) (bad t (k : Int)) with _ | r
      · have e : sp_weak t (some k) = (-6, true) := by show (if k < t.2.1 then sp_first t k else (-1, true)) = _; rw [if_pos hi]; unfold sp_first; rw [h]
        rw [e]
        refine Ok.of (cc := cX6_weak) (maxL := 3) (ret := (some .int)) (by decide) rfl (Nat.le_of_ble_eq_true rfl) (fun X hnm C => ?_)
        have C : CX l X V RX6 cX6_weak 3 wsX6_weak 4 0 0 (some .int) := C
        refine J.cast (ls' := [(0, _), (1, _)]) rfl rfl rfl rfl ?_
        refine J.aload_n C dX6_weak_0 rfl ?_
        refine J.iload_n C dX6_weak_1 rfl ?_
        refine J.cVDi (q := (RX6, TX6, 25)) (ci := 6) C (ok_X6_isComparer l V _ _ _ hN.2.1 ok.2.2.1) gX6_weak_X6_isComparer rfl mfX6_isComparer rfl (by decide) (by decide) (by first | decide | omega) rfl rfl rfl rfl (Nat.le_of_ble_eq_true rfl) dX6_weak_2 (Nat.le_refl _) (Nat.le_refl _) ?_
        rw [ti_k hk, hb]
        first | refine J.if_ne_b C dX6_weak_5 (tgt := 14) (by decide) (fun _ => ?_) (fun c5 => absurd c5 (by first | omega | decide | simp_all)) | refine J.if_ne_n C (by omega) dX6_weak_5 (tgt := 14) (by decide) (fun _ => ?_) (fun c5 => absurd c5 (by first | omega | decide | simp_all)) | refine J.if_ne C dX6_weak_5 (tgt := 14) (by decide) (fun _ => ?_) (fun c5 => absurd c5 (by first | omega | decide | simp_all))
        refine J.aload_n C dX6_weak_14 rfl ?_
        refine J.iload_n C dX6_weak_15 rfl ?_
        refine J.cVDi (q := (RX6, TX6, 25)) (ci := 6) C (ok_X6_failing l V _ _ (nI_ti hk) hN ok) gX6_weak_X6_failing rfl mfX6_failing rfl (by decide) (by decide) (by first | decide | omega) rfl rfl rfl rfl (Nat.le_of_ble_eq_true rfl) dX6_weak_16 (Nat.le_refl _) (Nat.le_refl _) ?_
        rw [h]
        refine J.istore_n (ls' := [(0, _), (1, _), (2, _)]) C dX6_weak_19 (by decide) rfl ?_
        refine J.iload_n C dX6_weak_20 rfl ?_
        refine J.if_ge_z C dX6_weak_21 (tgt := 33) (by decide) (fun c21 => absurd c21 (by first | omega | decide | simp_all)) (fun _ => ?_)
        refine J.aload_n C dX6_weak_24 rfl ?_
        refine J.bipush C dX6_weak_25 (v := (-6)) (by decide) ?_
        refine J.cVDi (q := (RX6, TX6, 25)) (ci := 6) C (ok_X6_found l V _ _ _) gX6_weak_X6_found rfl mfX6_found rfl (by decide) (by decide) (by first | decide | omega) rfl rfl rfl rfl (Nat.le_of_ble_eq_true rfl) dX6_weak_27 (Nat.le_refl _) (Nat.le_refl _) ?_
        refine J.goto C dX6_weak_30 (tgt := 34) (by decide) ?_
        exact J.iret C dX6_weak_34 ⟨rfl, rfl⟩
      · have hr := lst_some h
        have e : sp_weak t (some k) = (nI r, false) := by show (if k < t.2.1 then sp_first t k else (-1, true)) = _; rw [if_pos hi]; unfold sp_first; rw [h]
        rw [e]
        refine Ok.of (cc := cX6_weak) (maxL := 3) (ret := (some .int)) (by decide) rfl (Nat.le_of_ble_eq_true rfl) (fun X hnm C => ?_)
        have C : CX l X V RX6 cX6_weak 3 wsX6_weak 4 0 0 (some .int) := C
        refine J.cast (ls' := [(0, _), (1, _)]) rfl rfl rfl rfl ?_
        refine J.aload_n C dX6_weak_0 rfl ?_
        refine J.iload_n C dX6_weak_1 rfl ?_
        refine J.cVDi (q := (RX6, TX6, 25)) (ci := 6) C (ok_X6_isComparer l V _ _ _ hN.2.1 ok.2.2.1) gX6_weak_X6_isComparer rfl mfX6_isComparer rfl (by decide) (by decide) (by first | decide | omega) rfl rfl rfl rfl (Nat.le_of_ble_eq_true rfl) dX6_weak_2 (Nat.le_refl _) (Nat.le_refl _) ?_
        rw [ti_k hk, hb]
        first | refine J.if_ne_b C dX6_weak_5 (tgt := 14) (by decide) (fun _ => ?_) (fun c5 => absurd c5 (by first | omega | decide | simp_all)) | refine J.if_ne_n C (by omega) dX6_weak_5 (tgt := 14) (by decide) (fun _ => ?_) (fun c5 => absurd c5 (by first | omega | decide | simp_all)) | refine J.if_ne C dX6_weak_5 (tgt := 14) (by decide) (fun _ => ?_) (fun c5 => absurd c5 (by first | omega | decide | simp_all))
        refine J.aload_n C dX6_weak_14 rfl ?_
        refine J.iload_n C dX6_weak_15 rfl ?_
        refine J.cVDi (q := (RX6, TX6, 25)) (ci := 6) C (ok_X6_failing l V _ _ (nI_ti hk) hN ok) gX6_weak_X6_failing rfl mfX6_failing rfl (by decide) (by decide) (by first | decide | omega) rfl rfl rfl rfl (Nat.le_of_ble_eq_true rfl) dX6_weak_16 (Nat.le_refl _) (Nat.le_refl _) ?_
        rw [h]
        refine J.istore_n (ls' := [(0, _), (1, _), (2, _)]) C dX6_weak_19 (by decide) rfl ?_
        refine J.iload_n C dX6_weak_20 rfl ?_
        refine J.if_ge_n C (by omega) dX6_weak_21 (tgt := 33) (by decide) ?_
        refine J.iload_n C dX6_weak_33 rfl ?_
        exact J.iret C dX6_weak_34 ⟨rfl, rfl⟩
    · have hb := tb_0 hi
      have e : sp_weak t (some k) = (-1, true) := if_neg hi
      rw [e]
      refine Ok.of (cc := cX6_weak) (maxL := 3) (ret := (some .int)) (by decide) rfl (Nat.le_of_ble_eq_true rfl) (fun X hnm C => ?_)
      have C : CX l X V RX6 cX6_weak 3 wsX6_weak 4 0 0 (some .int) := C
      refine J.cast (ls' := [(0, _), (1, _)]) rfl rfl rfl rfl ?_
      refine J.aload_n C dX6_weak_0 rfl ?_
      refine J.iload_n C dX6_weak_1 rfl ?_
      refine J.cVDi (q := (RX6, TX6, 25)) (ci := 6) C (ok_X6_isComparer l V _ _ _ hN.2.1 ok.2.2.1) gX6_weak_X6_isComparer rfl mfX6_isComparer rfl (by decide) (by decide) (by first | decide | omega) rfl rfl rfl rfl (Nat.le_of_ble_eq_true rfl) dX6_weak_2 (Nat.le_refl _) (Nat.le_refl _) ?_
      rw [ti_k hk, hb]
      first | refine J.if_ne_b C dX6_weak_5 (tgt := 14) (by decide) (fun c5 => absurd c5 (by first | omega | decide | simp_all)) (fun _ => ?_) | refine J.if_ne_n C (by omega) dX6_weak_5 (tgt := 14) (by decide) (fun c5 => absurd c5 (by first | omega | decide | simp_all)) (fun _ => ?_) | refine J.if_ne C dX6_weak_5 (tgt := 14) (by decide) (fun c5 => absurd c5 (by first | omega | decide | simp_all)) (fun _ => ?_)
      refine J.aload_n C dX6_weak_8 rfl ?_
      refine J.iconst C dX6_weak_9 (v := (-1)) (by decide) ?_
      refine J.cVDi (q := (RX6, TX6, 25)) (ci := 6) C (ok_X6_found l V _ _ _) gX6_weak_X6_found rfl mfX6_found rfl (by decide) (by decide) (by first | decide | omega) rfl rfl rfl rfl (Nat.le_of_ble_eq_true rfl) dX6_weak_10 (Nat.le_refl _) (Nat.le_refl _) ?_
      exact J.iret C dX6_weak_13 ⟨rfl, rfl⟩
set_option maxHeartbeats 4000000 in
set_option maxRecDepth 100000 in
theorem lp_X6_bears {l : Launch} {X : Cx} {V : Vx} {P : Option Value → (Nat → va_E) → Prop} {I : Nat → Nat → Int32} {L : Nat → Nat → Int64} (C : CX l X V RX6 cX6_bears 2 wsX6_bears 5 0 0 (some .int)) {t : Nt} (hN : NM I t) (ok : okN t) (hP : P (some (.int (bI (tb (∀ i, i < t.2.1 → ∀ r, r < 2 ^ t.1 → ¬ bad t i r))))) (mm V I L)) : ∀ (k i : Nat), i + k = t.2.1 → (∀ (q : Nat), q < i → ∀ r, r < 2 ^ t.1 → ¬ bad t q r) → E X V P 2 14 [(0, .ref (ad V 85)), (1, .int (nI i))] [] I L := by
  intro k
  induction k with
  | zero =>
    intro i hi hb
    have e : i = t.2.1 := by omega
    subst e
    have h8 := p2_le ok.2.1
    have h40 := ok.2.2.1
    have hm := hN.2.1
    have hpos := Nat.two_pow_pos t.1
    refine J.iload_n C dX6_bears_14 rfl ?_
    refine J.aload_n C dX6_bears_15 rfl ?_
    refine J.getI C flX6_bears_79 (by first | decide | omega) rfl (by exact rfl) (by first | assumption | exact rfl) dX6_bears_16 ?_
    first | refine J.icmp_ge_n C (by omega) (by omega) dX6_bears_19 (tgt := 38) (by decide) (fun _ => ?_) (fun c19 => absurd c19 (by first | omega | decide | simp_all)) | refine J.icmp_ge_xn C (by omega) dX6_bears_19 (tgt := 38) (by decide) (fun _ => ?_) (fun c19 => absurd c19 (by first | omega | decide | simp_all)) | refine J.icmp_ge_nx C (by omega) dX6_bears_19 (tgt := 38) (by decide) (fun _ => ?_) (fun c19 => absurd c19 (by first | omega | decide | simp_all)) | refine J.icmp_ge C dX6_bears_19 (tgt := 38) (by decide) (fun _ => ?_) (fun c19 => absurd c19 (by first | omega | decide | simp_all))
    refine J.iconst C dX6_bears_38 (v := (nI 1)) (by decide) ?_
    exact J.iret C dX6_bears_39 (by rw [tb_1 hb] at hP; exact hP)
  | succ k ih =>
    intro i hi hb
    have h8 := p2_le ok.2.1
    have h40 := ok.2.2.1
    have hm := hN.2.1
    have hpos := Nat.two_pow_pos t.1
    rcases h : lst (2 ^ t.1) (bad t (i : Int)) with _ | r
    · have hn := lst_none h
      refine J.iload_n C dX6_bears_14 rfl ?_
      refine J.aload_n C dX6_bears_15 rfl ?_
      refine J.getI C flX6_bears_79 (by first | decide | omega) rfl (by exact rfl) (by first | assumption | exact rfl) dX6_bears_16 ?_
      first | refine J.icmp_ge_n C (by omega) (by omega) dX6_bears_19 (tgt := 38) (by decide) (fun c19 => absurd c19 (by first | omega | decide | simp_all)) (fun _ => ?_) | refine J.icmp_ge_xn C (by omega) dX6_bears_19 (tgt := 38) (by decide) (fun c19 => absurd c19 (by first | omega | decide | simp_all)) (fun _ => ?_) | refine J.icmp_ge_nx C (by omega) dX6_bears_19 (tgt := 38) (by decide) (fun c19 => absurd c19 (by first | omega | decide | simp_all)) (fun _ => ?_) | refine J.icmp_ge C dX6_bears_19 (tgt := 38) (by decide) (fun c19 => absurd c19 (by first | omega | decide | simp_all)) (fun _ => ?_)
      refine J.aload_n C dX6_bears_22 rfl ?_
      refine J.iload_n C dX6_bears_23 rfl ?_
      refine J.cVDi (q := (RX6, TX6, 25)) (ci := 6) C (ok_X6_failing l V _ _ (nI_ti (by omega)) hN ok) gX6_bears_X6_failing rfl mfX6_failing rfl (by decide) (by decide) (by first | decide | omega) rfl rfl rfl rfl (Nat.le_of_ble_eq_true rfl) dX6_bears_24 (Nat.le_refl _) (Nat.le_refl _) ?_
      rw [h]
      refine J.if_lt_z C dX6_bears_27 (tgt := 32) (by decide) (fun _ => ?_) (fun c27 => absurd c27 (by first | omega | decide | simp_all))
      refine J.iinc (ls' := [(0, _), (1, _)]) C dX6_bears_32 rfl (by first | exact nI_inc _ 1 | exact rfl) (by decide) rfl ?_
      refine J.goto C dX6_bears_35 (tgt := 14) (by decide) ?_
      refine ih (i + 1) (by omega) (fun q hq => ?_)
      rcases Nat.lt_or_ge q i with h2 | h2
      · exact hb q h2
      · obtain rfl : q = i := by omega
        exact hn
    · have hr := lst_some h
      refine J.iload_n C dX6_bears_14 rfl ?_
      refine J.aload_n C dX6_bears_15 rfl ?_
      refine J.getI C flX6_bears_79 (by first | decide | omega) rfl (by exact rfl) (by first | assumption | exact rfl) dX6_bears_16 ?_
      first | refine J.icmp_ge_n C (by omega) (by omega) dX6_bears_19 (tgt := 38) (by decide) (fun c19 => absurd c19 (by first | omega | decide | simp_all)) (fun _ => ?_) | refine J.icmp_ge_xn C (by omega) dX6_bears_19 (tgt := 38) (by decide) (fun c19 => absurd c19 (by first | omega | decide | simp_all)) (fun _ => ?_) | refine J.icmp_ge_nx C (by omega) dX6_bears_19 (tgt := 38) (by decide) (fun c19 => absurd c19 (by first | omega | decide | simp_all)) (fun _ => ?_) | refine J.icmp_ge C dX6_bears_19 (tgt := 38) (by decide) (fun c19 => absurd c19 (by first | omega | decide | simp_all)) (fun _ => ?_)
      refine J.aload_n C dX6_bears_22 rfl ?_
      refine J.iload_n C dX6_bears_23 rfl ?_
      refine J.cVDi (q := (RX6, TX6, 25)) (ci := 6) C (ok_X6_failing l V _ _ (nI_ti (by omega)) hN ok) gX6_bears_X6_failing rfl mfX6_failing rfl (by decide) (by decide) (by first | decide | omega) rfl rfl rfl rfl (Nat.le_of_ble_eq_true rfl) dX6_bears_24 (Nat.le_refl _) (Nat.le_refl _) ?_
      rw [h]
      refine J.if_lt_n C (by omega) dX6_bears_27 (tgt := 32) (by decide) ?_
      refine J.iconst C dX6_bears_30 (v := (nI 0)) (by decide) ?_
      exact J.iret C dX6_bears_31 (by rw [tb_0 (fun q => q i (by omega) r hr.1 hr.2)] at hP; exact hP)
set_option maxHeartbeats 4000000 in
set_option maxRecDepth 100000 in
theorem ok_X6_bears (l : Launch) (V : Vx) {t : Nt} (I : Nat → Nat → Int32) (L : Nat → Nat → Int64) (hN : NM I t) (ok : okN t) : Di l V yX6_bears wsX6_bears 5 [.ref (ad V 85)] I L (sp_bears t) I L := by
  have h8 := p2_le ok.2.1
  have h40 := ok.2.2.1
  have hm := hN.2.1
  have hpos := Nat.two_pow_pos t.1
  by_cases hz : t.2.1 = 0
  · have e : sp_bears t = sp_sorts t := if_pos hz
    rw [e]
    refine Ok.of (cc := cX6_bears) (maxL := 2) (ret := (some .int)) (by decide) rfl (Nat.le_of_ble_eq_true rfl) (fun X hnm C => ?_)
    have C : CX l X V RX6 cX6_bears 2 wsX6_bears 5 0 0 (some .int) := C
    refine J.cast (ls' := [(0, _)]) rfl rfl rfl rfl ?_
    refine J.aload_n C dX6_bears_0 rfl ?_
    refine J.getI C flX6_bears_79 (by first | decide | omega) rfl (by exact rfl) (by first | assumption | exact rfl) dX6_bears_1 ?_
    first | refine J.if_ne_b C dX6_bears_4 (tgt := 12) (by decide) (fun c4 => absurd c4 (by first | omega | decide | simp_all)) (fun _ => ?_) | refine J.if_ne_n C (by omega) dX6_bears_4 (tgt := 12) (by decide) (fun c4 => absurd c4 (by first | omega | decide | simp_all)) (fun _ => ?_) | refine J.if_ne C dX6_bears_4 (tgt := 12) (by decide) (fun c4 => absurd c4 (by first | omega | decide | simp_all)) (fun _ => ?_)
    refine J.aload_n C dX6_bears_7 rfl ?_
    refine J.cVDi (q := (RX6, TX6, 25)) (ci := 6) C (ok_X6_sorts l V _ _ hN ok) gX6_bears_X6_sorts rfl mfX6_sorts rfl (by decide) (by decide) (by first | decide | omega) rfl rfl rfl rfl (Nat.le_of_ble_eq_true rfl) dX6_bears_8 (Nat.le_refl _) (Nat.le_refl _) ?_
    exact J.iret C dX6_bears_11 ⟨rfl, rfl⟩
  · have e : sp_bears t = _ := if_neg hz
    rw [e]
    refine Ok.of (cc := cX6_bears) (maxL := 2) (ret := (some .int)) (by decide) rfl (Nat.le_of_ble_eq_true rfl) (fun X hnm C => ?_)
    have C : CX l X V RX6 cX6_bears 2 wsX6_bears 5 0 0 (some .int) := C
    refine J.cast (ls' := [(0, _)]) rfl rfl rfl rfl ?_
    refine J.aload_n C dX6_bears_0 rfl ?_
    refine J.getI C flX6_bears_79 (by first | decide | omega) rfl (by exact rfl) (by first | assumption | exact rfl) dX6_bears_1 ?_
    first | refine J.if_ne_b C dX6_bears_4 (tgt := 12) (by decide) (fun _ => ?_) (fun c4 => absurd c4 (by first | omega | decide | simp_all)) | refine J.if_ne_n C (by omega) dX6_bears_4 (tgt := 12) (by decide) (fun _ => ?_) (fun c4 => absurd c4 (by first | omega | decide | simp_all)) | refine J.if_ne C dX6_bears_4 (tgt := 12) (by decide) (fun _ => ?_) (fun c4 => absurd c4 (by first | omega | decide | simp_all))
    refine J.iconst C dX6_bears_12 (v := (nI 0)) (by decide) ?_
    refine J.istore_n (ls' := [(0, _), (1, _)]) C dX6_bears_13 (by decide) rfl ?_
    exact lp_X6_bears C hN ok ⟨rfl, rfl⟩ t.2.1 0 (by omega) (fun q hq => by omega)
