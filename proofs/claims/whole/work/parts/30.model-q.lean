/-! THE REFERENCE: what is missing -/
def prT (L n : Nat) : Nat × Nat := match L with
  | 2 => (0, 1)
  | 3 => [(0, 1), (0, 2), (1, 2)].getD n (0, 1)
  | _ => [(0, 1), (0, 2), (0, 3), (1, 2), (1, 3), (2, 3)].getD n (0, 1)
def nPr (L : Nat) : Nat := L * (L - 1) / 2
def tc (L : Nat) (tr : Nat → Nat) (k : Nat) : Cmp := (0, (prT L (tr k)).1, (prT L (tr k)).2, false)
theorem prT_ok {L n : Nat} (h2 : 2 ≤ L) (h4 : L ≤ 4) (hn : n < nPr L) : (prT L n).1 < (prT L n).2 ∧ (prT L n).2 < L := by
  have key : ∀ L, L < 5 → 2 ≤ L → ∀ n, n < nPr L → (prT L n).1 < (prT L n).2 ∧ (prT L n).2 < L := by decide
  exact key L (by omega) h2 n hn
theorem tc_ok {L : Nat} {tr : Nat → Nat} {k : Nat} (h2 : 2 ≤ L) (h4 : L ≤ 4) (hn : tr k < nPr L) : okC L (tc L tr k) := ⟨Nat.zero_le 4, (prT_ok h2 h4 hn).1, (prT_ok h2 h4 hn).2, fun _ => rfl⟩
def Srt (t : Nt) (w : Nat → Cmp) (n : Nat) : Prop := ∀ r, r < 2 ^ t.1 → Ris t.1 (gk w (-1) (gk t.2.2 (-1) r t.2.1) n)
set_option maxHeartbeats 4000000 in
set_option maxRecDepth 100000 in
theorem ok_X6_pair_2_0 (l : Launch) (V : Vx) (I : Nat → Nat → Int32) (L : Nat → Nat → Int64) (h : I 85 0 = nI 2) : Di l V yX6_pair wsX6_pair 1 [.ref (ad V 85), .int (nI 0)] I L (nI 1) I L := by
  refine Ok.of (cc := cX6_pair) (maxL := 5) (ret := (some .int)) (by decide) rfl (Nat.le_of_ble_eq_true rfl) (fun X hnm C => ?_)
  have C : CX l X V RX6 cX6_pair 5 wsX6_pair 1 0 0 (some .int) := C
  refine J.cast (ls' := [(0, _), (1, _)]) rfl rfl rfl rfl ?_
  refine J.iload_n C dX6_pair_0 rfl ?_
  refine J.istore_n (ls' := [(0, _), (1, _), (2, _)]) C dX6_pair_1 (by decide) rfl ?_
  refine J.iconst C dX6_pair_2 (v := (nI 0)) (by decide) ?_
  refine J.istore_n (ls' := [(0, _), (1, _), (2, _), (3, _)]) C dX6_pair_3 (by decide) rfl ?_
  refine J.iload_n C dX6_pair_4 rfl ?_
  refine J.aload_n C dX6_pair_5 rfl ?_
  refine J.getI C flX6_pair_7 (by first | decide | omega) rfl (by exact rfl) (by first | ((repeat (first | refine up2_rd (by decide) ?_ | refine up2_rm (by decide) ?_ | refine up3_rd (by decide) ?_)) <;> (first | exact up2_s _ _ _ _ | assumption | exact rfl))) dX6_pair_6 ?_
  refine J.icmp_ge_n C (by omega) (by omega) dX6_pair_9 (tgt := 53) (by decide) (fun c9 => absurd c9 (by first | omega | decide | simp_all)) (fun _ => ?_)
  refine J.iload_n C dX6_pair_12 rfl ?_
  refine J.iconst C dX6_pair_13 (v := (nI 1)) (by decide) ?_
  first | refine J.iadd_n C dX6_pair_14 ?_ | refine J.iadd C dX6_pair_14 ?_
  refine J.istore (ls' := [(0, _), (1, _), (2, _), (3, _), (4, _)]) C dX6_pair_15 (by decide) rfl ?_
  refine J.iload C dX6_pair_17 rfl ?_
  refine J.aload_n C dX6_pair_19 rfl ?_
  refine J.getI C flX6_pair_7 (by first | decide | omega) rfl (by exact rfl) (by first | ((repeat (first | refine up2_rd (by decide) ?_ | refine up2_rm (by decide) ?_ | refine up3_rd (by decide) ?_)) <;> (first | exact up2_s _ _ _ _ | assumption | exact rfl))) dX6_pair_20 ?_
  refine J.icmp_ge_n C (by omega) (by omega) dX6_pair_23 (tgt := 47) (by decide) (fun c23 => absurd c23 (by first | omega | decide | simp_all)) (fun _ => ?_)
  refine J.iload_n C dX6_pair_26 rfl ?_
  refine J.if_ne_n C (by omega) dX6_pair_27 (tgt := 38) (by decide) (fun c27 => absurd c27 (by first | omega | decide | simp_all)) (fun _ => ?_)
  refine J.bipush C dX6_pair_30 (v := (nI 10)) (by decide) ?_
  refine J.iload_n C dX6_pair_32 rfl ?_
  first | refine J.imul_n C dX6_pair_33 ?_ | refine J.imul C dX6_pair_33 ?_
  refine J.iload C dX6_pair_34 rfl ?_
  first | refine J.iadd_n C dX6_pair_36 ?_ | refine J.iadd C dX6_pair_36 ?_
  exact J.iret C dX6_pair_37 ⟨rfl, rfl⟩
set_option maxHeartbeats 4000000 in
set_option maxRecDepth 100000 in
theorem ok_X6_pair_3_0 (l : Launch) (V : Vx) (I : Nat → Nat → Int32) (L : Nat → Nat → Int64) (h : I 85 0 = nI 3) : Di l V yX6_pair wsX6_pair 1 [.ref (ad V 85), .int (nI 0)] I L (nI 1) I L := by
  refine Ok.of (cc := cX6_pair) (maxL := 5) (ret := (some .int)) (by decide) rfl (Nat.le_of_ble_eq_true rfl) (fun X hnm C => ?_)
  have C : CX l X V RX6 cX6_pair 5 wsX6_pair 1 0 0 (some .int) := C
  refine J.cast (ls' := [(0, _), (1, _)]) rfl rfl rfl rfl ?_
  refine J.iload_n C dX6_pair_0 rfl ?_
  refine J.istore_n (ls' := [(0, _), (1, _), (2, _)]) C dX6_pair_1 (by decide) rfl ?_
  refine J.iconst C dX6_pair_2 (v := (nI 0)) (by decide) ?_
  refine J.istore_n (ls' := [(0, _), (1, _), (2, _), (3, _)]) C dX6_pair_3 (by decide) rfl ?_
  refine J.iload_n C dX6_pair_4 rfl ?_
  refine J.aload_n C dX6_pair_5 rfl ?_
  refine J.getI C flX6_pair_7 (by first | decide | omega) rfl (by exact rfl) (by first | ((repeat (first | refine up2_rd (by decide) ?_ | refine up2_rm (by decide) ?_ | refine up3_rd (by decide) ?_)) <;> (first | exact up2_s _ _ _ _ | assumption | exact rfl))) dX6_pair_6 ?_
  refine J.icmp_ge_n C (by omega) (by omega) dX6_pair_9 (tgt := 53) (by decide) (fun c9 => absurd c9 (by first | omega | decide | simp_all)) (fun _ => ?_)
  refine J.iload_n C dX6_pair_12 rfl ?_
  refine J.iconst C dX6_pair_13 (v := (nI 1)) (by decide) ?_
  first | refine J.iadd_n C dX6_pair_14 ?_ | refine J.iadd C dX6_pair_14 ?_
  refine J.istore (ls' := [(0, _), (1, _), (2, _), (3, _), (4, _)]) C dX6_pair_15 (by decide) rfl ?_
  refine J.iload C dX6_pair_17 rfl ?_
  refine J.aload_n C dX6_pair_19 rfl ?_
  refine J.getI C flX6_pair_7 (by first | decide | omega) rfl (by exact rfl) (by first | ((repeat (first | refine up2_rd (by decide) ?_ | refine up2_rm (by decide) ?_ | refine up3_rd (by decide) ?_)) <;> (first | exact up2_s _ _ _ _ | assumption | exact rfl))) dX6_pair_20 ?_
  refine J.icmp_ge_n C (by omega) (by omega) dX6_pair_23 (tgt := 47) (by decide) (fun c23 => absurd c23 (by first | omega | decide | simp_all)) (fun _ => ?_)
  refine J.iload_n C dX6_pair_26 rfl ?_
  refine J.if_ne_n C (by omega) dX6_pair_27 (tgt := 38) (by decide) (fun c27 => absurd c27 (by first | omega | decide | simp_all)) (fun _ => ?_)
  refine J.bipush C dX6_pair_30 (v := (nI 10)) (by decide) ?_
  refine J.iload_n C dX6_pair_32 rfl ?_
  first | refine J.imul_n C dX6_pair_33 ?_ | refine J.imul C dX6_pair_33 ?_
  refine J.iload C dX6_pair_34 rfl ?_
  first | refine J.iadd_n C dX6_pair_36 ?_ | refine J.iadd C dX6_pair_36 ?_
  exact J.iret C dX6_pair_37 ⟨rfl, rfl⟩
set_option maxHeartbeats 4000000 in
set_option maxRecDepth 100000 in
theorem ok_X6_pair_3_1 (l : Launch) (V : Vx) (I : Nat → Nat → Int32) (L : Nat → Nat → Int64) (h : I 85 0 = nI 3) : Di l V yX6_pair wsX6_pair 1 [.ref (ad V 85), .int (nI 1)] I L (nI 2) I L := by
  refine Ok.of (cc := cX6_pair) (maxL := 5) (ret := (some .int)) (by decide) rfl (Nat.le_of_ble_eq_true rfl) (fun X hnm C => ?_)
  have C : CX l X V RX6 cX6_pair 5 wsX6_pair 1 0 0 (some .int) := C
  refine J.cast (ls' := [(0, _), (1, _)]) rfl rfl rfl rfl ?_
  refine J.iload_n C dX6_pair_0 rfl ?_
  refine J.istore_n (ls' := [(0, _), (1, _), (2, _)]) C dX6_pair_1 (by decide) rfl ?_
  refine J.iconst C dX6_pair_2 (v := (nI 0)) (by decide) ?_
  refine J.istore_n (ls' := [(0, _), (1, _), (2, _), (3, _)]) C dX6_pair_3 (by decide) rfl ?_
  refine J.iload_n C dX6_pair_4 rfl ?_
  refine J.aload_n C dX6_pair_5 rfl ?_
  refine J.getI C flX6_pair_7 (by first | decide | omega) rfl (by exact rfl) (by first | ((repeat (first | refine up2_rd (by decide) ?_ | refine up2_rm (by decide) ?_ | refine up3_rd (by decide) ?_)) <;> (first | exact up2_s _ _ _ _ | assumption | exact rfl))) dX6_pair_6 ?_
  refine J.icmp_ge_n C (by omega) (by omega) dX6_pair_9 (tgt := 53) (by decide) (fun c9 => absurd c9 (by first | omega | decide | simp_all)) (fun _ => ?_)
  refine J.iload_n C dX6_pair_12 rfl ?_
  refine J.iconst C dX6_pair_13 (v := (nI 1)) (by decide) ?_
  first | refine J.iadd_n C dX6_pair_14 ?_ | refine J.iadd C dX6_pair_14 ?_
  refine J.istore (ls' := [(0, _), (1, _), (2, _), (3, _), (4, _)]) C dX6_pair_15 (by decide) rfl ?_
  refine J.iload C dX6_pair_17 rfl ?_
  refine J.aload_n C dX6_pair_19 rfl ?_
  refine J.getI C flX6_pair_7 (by first | decide | omega) rfl (by exact rfl) (by first | ((repeat (first | refine up2_rd (by decide) ?_ | refine up2_rm (by decide) ?_ | refine up3_rd (by decide) ?_)) <;> (first | exact up2_s _ _ _ _ | assumption | exact rfl))) dX6_pair_20 ?_
  refine J.icmp_ge_n C (by omega) (by omega) dX6_pair_23 (tgt := 47) (by decide) (fun c23 => absurd c23 (by first | omega | decide | simp_all)) (fun _ => ?_)
  refine J.iload_n C dX6_pair_26 rfl ?_
  refine J.if_ne_n C (by omega) dX6_pair_27 (tgt := 38) (by decide) (fun _ => ?_) (fun c27 => absurd c27 (by first | omega | decide | simp_all))
  refine J.iinc (ls' := [(0, _), (1, _), (2, _), (3, _), (4, _)]) C dX6_pair_38 rfl (by first | exact pk_m1 _ | decide) (by decide) rfl ?_
  refine J.iinc (ls' := [(0, _), (1, _), (2, _), (3, _), (4, _)]) C dX6_pair_41 rfl (by first | exact nI_inc _ 1 | exact rfl) (by decide) rfl ?_
  refine J.goto C dX6_pair_44 (tgt := 17) (by decide) ?_
  refine J.iload C dX6_pair_17 rfl ?_
  refine J.aload_n C dX6_pair_19 rfl ?_
  refine J.getI C flX6_pair_7 (by first | decide | omega) rfl (by exact rfl) (by first | ((repeat (first | refine up2_rd (by decide) ?_ | refine up2_rm (by decide) ?_ | refine up3_rd (by decide) ?_)) <;> (first | exact up2_s _ _ _ _ | assumption | exact rfl))) dX6_pair_20 ?_
  refine J.icmp_ge_n C (by omega) (by omega) dX6_pair_23 (tgt := 47) (by decide) (fun c23 => absurd c23 (by first | omega | decide | simp_all)) (fun _ => ?_)
  refine J.iload_n C dX6_pair_26 rfl ?_
  refine J.if_ne_n C (by omega) dX6_pair_27 (tgt := 38) (by decide) (fun c27 => absurd c27 (by first | omega | decide | simp_all)) (fun _ => ?_)
  refine J.bipush C dX6_pair_30 (v := (nI 10)) (by decide) ?_
  refine J.iload_n C dX6_pair_32 rfl ?_
  first | refine J.imul_n C dX6_pair_33 ?_ | refine J.imul C dX6_pair_33 ?_
  refine J.iload C dX6_pair_34 rfl ?_
  first | refine J.iadd_n C dX6_pair_36 ?_ | refine J.iadd C dX6_pair_36 ?_
  exact J.iret C dX6_pair_37 ⟨rfl, rfl⟩
set_option maxHeartbeats 4000000 in
set_option maxRecDepth 100000 in
theorem ok_X6_pair_3_2 (l : Launch) (V : Vx) (I : Nat → Nat → Int32) (L : Nat → Nat → Int64) (h : I 85 0 = nI 3) : Di l V yX6_pair wsX6_pair 1 [.ref (ad V 85), .int (nI 2)] I L (nI 12) I L := by
  refine Ok.of (cc := cX6_pair) (maxL := 5) (ret := (some .int)) (by decide) rfl (Nat.le_of_ble_eq_true rfl) (fun X hnm C => ?_)
  have C : CX l X V RX6 cX6_pair 5 wsX6_pair 1 0 0 (some .int) := C
  refine J.cast (ls' := [(0, _), (1, _)]) rfl rfl rfl rfl ?_
  refine J.iload_n C dX6_pair_0 rfl ?_
  refine J.istore_n (ls' := [(0, _), (1, _), (2, _)]) C dX6_pair_1 (by decide) rfl ?_
  refine J.iconst C dX6_pair_2 (v := (nI 0)) (by decide) ?_
  refine J.istore_n (ls' := [(0, _), (1, _), (2, _), (3, _)]) C dX6_pair_3 (by decide) rfl ?_
  refine J.iload_n C dX6_pair_4 rfl ?_
  refine J.aload_n C dX6_pair_5 rfl ?_
  refine J.getI C flX6_pair_7 (by first | decide | omega) rfl (by exact rfl) (by first | ((repeat (first | refine up2_rd (by decide) ?_ | refine up2_rm (by decide) ?_ | refine up3_rd (by decide) ?_)) <;> (first | exact up2_s _ _ _ _ | assumption | exact rfl))) dX6_pair_6 ?_
  refine J.icmp_ge_n C (by omega) (by omega) dX6_pair_9 (tgt := 53) (by decide) (fun c9 => absurd c9 (by first | omega | decide | simp_all)) (fun _ => ?_)
  refine J.iload_n C dX6_pair_12 rfl ?_
  refine J.iconst C dX6_pair_13 (v := (nI 1)) (by decide) ?_
  first | refine J.iadd_n C dX6_pair_14 ?_ | refine J.iadd C dX6_pair_14 ?_
  refine J.istore (ls' := [(0, _), (1, _), (2, _), (3, _), (4, _)]) C dX6_pair_15 (by decide) rfl ?_
  refine J.iload C dX6_pair_17 rfl ?_
  refine J.aload_n C dX6_pair_19 rfl ?_
  refine J.getI C flX6_pair_7 (by first | decide | omega) rfl (by exact rfl) (by first | ((repeat (first | refine up2_rd (by decide) ?_ | refine up2_rm (by decide) ?_ | refine up3_rd (by decide) ?_)) <;> (first | exact up2_s _ _ _ _ | assumption | exact rfl))) dX6_pair_20 ?_
  refine J.icmp_ge_n C (by omega) (by omega) dX6_pair_23 (tgt := 47) (by decide) (fun c23 => absurd c23 (by first | omega | decide | simp_all)) (fun _ => ?_)
  refine J.iload_n C dX6_pair_26 rfl ?_
  refine J.if_ne_n C (by omega) dX6_pair_27 (tgt := 38) (by decide) (fun _ => ?_) (fun c27 => absurd c27 (by first | omega | decide | simp_all))
  refine J.iinc (ls' := [(0, _), (1, _), (2, _), (3, _), (4, _)]) C dX6_pair_38 rfl (by first | exact pk_m1 _ | decide) (by decide) rfl ?_
  refine J.iinc (ls' := [(0, _), (1, _), (2, _), (3, _), (4, _)]) C dX6_pair_41 rfl (by first | exact nI_inc _ 1 | exact rfl) (by decide) rfl ?_
  refine J.goto C dX6_pair_44 (tgt := 17) (by decide) ?_
  refine J.iload C dX6_pair_17 rfl ?_
  refine J.aload_n C dX6_pair_19 rfl ?_
  refine J.getI C flX6_pair_7 (by first | decide | omega) rfl (by exact rfl) (by first | ((repeat (first | refine up2_rd (by decide) ?_ | refine up2_rm (by decide) ?_ | refine up3_rd (by decide) ?_)) <;> (first | exact up2_s _ _ _ _ | assumption | exact rfl))) dX6_pair_20 ?_
  refine J.icmp_ge_n C (by omega) (by omega) dX6_pair_23 (tgt := 47) (by decide) (fun c23 => absurd c23 (by first | omega | decide | simp_all)) (fun _ => ?_)
  refine J.iload_n C dX6_pair_26 rfl ?_
  refine J.if_ne_n C (by omega) dX6_pair_27 (tgt := 38) (by decide) (fun _ => ?_) (fun c27 => absurd c27 (by first | omega | decide | simp_all))
  refine J.iinc (ls' := [(0, _), (1, _), (2, _), (3, _), (4, _)]) C dX6_pair_38 rfl (by first | exact pk_m1 _ | decide) (by decide) rfl ?_
  refine J.iinc (ls' := [(0, _), (1, _), (2, _), (3, _), (4, _)]) C dX6_pair_41 rfl (by first | exact nI_inc _ 1 | exact rfl) (by decide) rfl ?_
  refine J.goto C dX6_pair_44 (tgt := 17) (by decide) ?_
  refine J.iload C dX6_pair_17 rfl ?_
  refine J.aload_n C dX6_pair_19 rfl ?_
  refine J.getI C flX6_pair_7 (by first | decide | omega) rfl (by exact rfl) (by first | ((repeat (first | refine up2_rd (by decide) ?_ | refine up2_rm (by decide) ?_ | refine up3_rd (by decide) ?_)) <;> (first | exact up2_s _ _ _ _ | assumption | exact rfl))) dX6_pair_20 ?_
  refine J.icmp_ge_n C (by omega) (by omega) dX6_pair_23 (tgt := 47) (by decide) (fun _ => ?_) (fun c23 => absurd c23 (by first | omega | decide | simp_all))
  refine J.iinc (ls' := [(0, _), (1, _), (2, _), (3, _), (4, _)]) C dX6_pair_47 rfl (by first | exact nI_inc _ 1 | exact rfl) (by decide) rfl ?_
  refine J.goto C dX6_pair_50 (tgt := 4) (by decide) ?_
  refine J.iload_n C dX6_pair_4 rfl ?_
  refine J.aload_n C dX6_pair_5 rfl ?_
  refine J.getI C flX6_pair_7 (by first | decide | omega) rfl (by exact rfl) (by first | ((repeat (first | refine up2_rd (by decide) ?_ | refine up2_rm (by decide) ?_ | refine up3_rd (by decide) ?_)) <;> (first | exact up2_s _ _ _ _ | assumption | exact rfl))) dX6_pair_6 ?_
  refine J.icmp_ge_n C (by omega) (by omega) dX6_pair_9 (tgt := 53) (by decide) (fun c9 => absurd c9 (by first | omega | decide | simp_all)) (fun _ => ?_)
  refine J.iload_n C dX6_pair_12 rfl ?_
  refine J.iconst C dX6_pair_13 (v := (nI 1)) (by decide) ?_
  first | refine J.iadd_n C dX6_pair_14 ?_ | refine J.iadd C dX6_pair_14 ?_
  refine J.istore (ls' := [(0, _), (1, _), (2, _), (3, _), (4, _)]) C dX6_pair_15 (by decide) rfl ?_
  refine J.iload C dX6_pair_17 rfl ?_
  refine J.aload_n C dX6_pair_19 rfl ?_
  refine J.getI C flX6_pair_7 (by first | decide | omega) rfl (by exact rfl) (by first | ((repeat (first | refine up2_rd (by decide) ?_ | refine up2_rm (by decide) ?_ | refine up3_rd (by decide) ?_)) <;> (first | exact up2_s _ _ _ _ | assumption | exact rfl))) dX6_pair_20 ?_
  refine J.icmp_ge_n C (by omega) (by omega) dX6_pair_23 (tgt := 47) (by decide) (fun c23 => absurd c23 (by first | omega | decide | simp_all)) (fun _ => ?_)
  refine J.iload_n C dX6_pair_26 rfl ?_
  refine J.if_ne_n C (by omega) dX6_pair_27 (tgt := 38) (by decide) (fun c27 => absurd c27 (by first | omega | decide | simp_all)) (fun _ => ?_)
  refine J.bipush C dX6_pair_30 (v := (nI 10)) (by decide) ?_
  refine J.iload_n C dX6_pair_32 rfl ?_
  first | refine J.imul_n C dX6_pair_33 ?_ | refine J.imul C dX6_pair_33 ?_
  refine J.iload C dX6_pair_34 rfl ?_
  first | refine J.iadd_n C dX6_pair_36 ?_ | refine J.iadd C dX6_pair_36 ?_
  exact J.iret C dX6_pair_37 ⟨rfl, rfl⟩
set_option maxHeartbeats 4000000 in
set_option maxRecDepth 100000 in
theorem ok_X6_pair_4_0 (l : Launch) (V : Vx) (I : Nat → Nat → Int32) (L : Nat → Nat → Int64) (h : I 85 0 = nI 4) : Di l V yX6_pair wsX6_pair 1 [.ref (ad V 85), .int (nI 0)] I L (nI 1) I L := by
  refine Ok.of (cc := cX6_pair) (maxL := 5) (ret := (some .int)) (by decide) rfl (Nat.le_of_ble_eq_true rfl) (fun X hnm C => ?_)
  have C : CX l X V RX6 cX6_pair 5 wsX6_pair 1 0 0 (some .int) := C
  refine J.cast (ls' := [(0, _), (1, _)]) rfl rfl rfl rfl ?_
  refine J.iload_n C dX6_pair_0 rfl ?_
  refine J.istore_n (ls' := [(0, _), (1, _), (2, _)]) C dX6_pair_1 (by decide) rfl ?_
  refine J.iconst C dX6_pair_2 (v := (nI 0)) (by decide) ?_
  refine J.istore_n (ls' := [(0, _), (1, _), (2, _), (3, _)]) C dX6_pair_3 (by decide) rfl ?_
  refine J.iload_n C dX6_pair_4 rfl ?_
  refine J.aload_n C dX6_pair_5 rfl ?_
  refine J.getI C flX6_pair_7 (by first | decide | omega) rfl (by exact rfl) (by first | ((repeat (first | refine up2_rd (by decide) ?_ | refine up2_rm (by decide) ?_ | refine up3_rd (by decide) ?_)) <;> (first | exact up2_s _ _ _ _ | assumption | exact rfl))) dX6_pair_6 ?_
  refine J.icmp_ge_n C (by omega) (by omega) dX6_pair_9 (tgt := 53) (by decide) (fun c9 => absurd c9 (by first | omega | decide | simp_all)) (fun _ => ?_)
  refine J.iload_n C dX6_pair_12 rfl ?_
  refine J.iconst C dX6_pair_13 (v := (nI 1)) (by decide) ?_
  first | refine J.iadd_n C dX6_pair_14 ?_ | refine J.iadd C dX6_pair_14 ?_
  refine J.istore (ls' := [(0, _), (1, _), (2, _), (3, _), (4, _)]) C dX6_pair_15 (by decide) rfl ?_
  refine J.iload C dX6_pair_17 rfl ?_
  refine J.aload_n C dX6_pair_19 rfl ?_
  refine J.getI C flX6_pair_7 (by first | decide | omega) rfl (by exact rfl) (by first | ((repeat (first | refine up2_rd (by decide) ?_ | refine up2_rm (by decide) ?_ | refine up3_rd (by decide) ?_)) <;> (first | exact up2_s _ _ _ _ | assumption | exact rfl))) dX6_pair_20 ?_
  refine J.icmp_ge_n C (by omega) (by omega) dX6_pair_23 (tgt := 47) (by decide) (fun c23 => absurd c23 (by first | omega | decide | simp_all)) (fun _ => ?_)
  refine J.iload_n C dX6_pair_26 rfl ?_
  refine J.if_ne_n C (by omega) dX6_pair_27 (tgt := 38) (by decide) (fun c27 => absurd c27 (by first | omega | decide | simp_all)) (fun _ => ?_)
  refine J.bipush C dX6_pair_30 (v := (nI 10)) (by decide) ?_
  refine J.iload_n C dX6_pair_32 rfl ?_
  first | refine J.imul_n C dX6_pair_33 ?_ | refine J.imul C dX6_pair_33 ?_
  refine J.iload C dX6_pair_34 rfl ?_
  first | refine J.iadd_n C dX6_pair_36 ?_ | refine J.iadd C dX6_pair_36 ?_
  exact J.iret C dX6_pair_37 ⟨rfl, rfl⟩
set_option maxHeartbeats 4000000 in
set_option maxRecDepth 100000 in
theorem ok_X6_pair_4_1 (l : Launch) (V : Vx) (I : Nat → Nat → Int32) (L : Nat → Nat → Int64) (h : I 85 0 = nI 4) : Di l V yX6_pair wsX6_pair 1 [.ref (ad V 85), .int (nI 1)] I L (nI 2) I L := by
  refine Ok.of (cc := cX6_pair) (maxL := 5) (ret := (some .int)) (by decide) rfl (Nat.le_of_ble_eq_true rfl) (fun X hnm C => ?_)
  have C : CX l X V RX6 cX6_pair 5 wsX6_pair 1 0 0 (some .int) := C
  refine J.cast (ls' := [(0, _), (1, _)]) rfl rfl rfl rfl ?_
  refine J.iload_n C dX6_pair_0 rfl ?_
  refine J.istore_n (ls' := [(0, _), (1, _), (2, _)]) C dX6_pair_1 (by decide) rfl ?_
  refine J.iconst C dX6_pair_2 (v := (nI 0)) (by decide) ?_
  refine J.istore_n (ls' := [(0, _), (1, _), (2, _), (3, _)]) C dX6_pair_3 (by decide) rfl ?_
  refine J.iload_n C dX6_pair_4 rfl ?_
  refine J.aload_n C dX6_pair_5 rfl ?_
  refine J.getI C flX6_pair_7 (by first | decide | omega) rfl (by exact rfl) (by first | ((repeat (first | refine up2_rd (by decide) ?_ | refine up2_rm (by decide) ?_ | refine up3_rd (by decide) ?_)) <;> (first | exact up2_s _ _ _ _ | assumption | exact rfl))) dX6_pair_6 ?_
  refine J.icmp_ge_n C (by omega) (by omega) dX6_pair_9 (tgt := 53) (by decide) (fun c9 => absurd c9 (by first | omega | decide | simp_all)) (fun _ => ?_)
  refine J.iload_n C dX6_pair_12 rfl ?_
  refine J.iconst C dX6_pair_13 (v := (nI 1)) (by decide) ?_
  first | refine J.iadd_n C dX6_pair_14 ?_ | refine J.iadd C dX6_pair_14 ?_
  refine J.istore (ls' := [(0, _), (1, _), (2, _), (3, _), (4, _)]) C dX6_pair_15 (by decide) rfl ?_
  refine J.iload C dX6_pair_17 rfl ?_
  refine J.aload_n C dX6_pair_19 rfl ?_
  refine J.getI C flX6_pair_7 (by first | decide | omega) rfl (by exact rfl) (by first | ((repeat (first | refine up2_rd (by decide) ?_ | refine up2_rm (by decide) ?_ | refine up3_rd (by decide) ?_)) <;> (first | exact up2_s _ _ _ _ | assumption | exact rfl))) dX6_pair_20 ?_
  refine J.icmp_ge_n C (by omega) (by omega) dX6_pair_23 (tgt := 47) (by decide) (fun c23 => absurd c23 (by first | omega | decide | simp_all)) (fun _ => ?_)
  refine J.iload_n C dX6_pair_26 rfl ?_
  refine J.if_ne_n C (by omega) dX6_pair_27 (tgt := 38) (by decide) (fun _ => ?_) (fun c27 => absurd c27 (by first | omega | decide | simp_all))
  refine J.iinc (ls' := [(0, _), (1, _), (2, _), (3, _), (4, _)]) C dX6_pair_38 rfl (by first | exact pk_m1 _ | decide) (by decide) rfl ?_
  refine J.iinc (ls' := [(0, _), (1, _), (2, _), (3, _), (4, _)]) C dX6_pair_41 rfl (by first | exact nI_inc _ 1 | exact rfl) (by decide) rfl ?_
  refine J.goto C dX6_pair_44 (tgt := 17) (by decide) ?_
  refine J.iload C dX6_pair_17 rfl ?_
  refine J.aload_n C dX6_pair_19 rfl ?_
  refine J.getI C flX6_pair_7 (by first | decide | omega) rfl (by exact rfl) (by first | ((repeat (first | refine up2_rd (by decide) ?_ | refine up2_rm (by decide) ?_ | refine up3_rd (by decide) ?_)) <;> (first | exact up2_s _ _ _ _ | assumption | exact rfl))) dX6_pair_20 ?_
  refine J.icmp_ge_n C (by omega) (by omega) dX6_pair_23 (tgt := 47) (by decide) (fun c23 => absurd c23 (by first | omega | decide | simp_all)) (fun _ => ?_)
  refine J.iload_n C dX6_pair_26 rfl ?_
  refine J.if_ne_n C (by omega) dX6_pair_27 (tgt := 38) (by decide) (fun c27 => absurd c27 (by first | omega | decide | simp_all)) (fun _ => ?_)
  refine J.bipush C dX6_pair_30 (v := (nI 10)) (by decide) ?_
  refine J.iload_n C dX6_pair_32 rfl ?_
  first | refine J.imul_n C dX6_pair_33 ?_ | refine J.imul C dX6_pair_33 ?_
  refine J.iload C dX6_pair_34 rfl ?_
  first | refine J.iadd_n C dX6_pair_36 ?_ | refine J.iadd C dX6_pair_36 ?_
  exact J.iret C dX6_pair_37 ⟨rfl, rfl⟩
set_option maxHeartbeats 4000000 in
set_option maxRecDepth 100000 in
theorem ok_X6_pair_4_2 (l : Launch) (V : Vx) (I : Nat → Nat → Int32) (L : Nat → Nat → Int64) (h : I 85 0 = nI 4) : Di l V yX6_pair wsX6_pair 1 [.ref (ad V 85), .int (nI 2)] I L (nI 3) I L := by
  refine Ok.of (cc := cX6_pair) (maxL := 5) (ret := (some .int)) (by decide) rfl (Nat.le_of_ble_eq_true rfl) (fun X hnm C => ?_)
  have C : CX l X V RX6 cX6_pair 5 wsX6_pair 1 0 0 (some .int) := C
  refine J.cast (ls' := [(0, _), (1, _)]) rfl rfl rfl rfl ?_
  refine J.iload_n C dX6_pair_0 rfl ?_
  refine J.istore_n (ls' := [(0, _), (1, _), (2, _)]) C dX6_pair_1 (by decide) rfl ?_
  refine J.iconst C dX6_pair_2 (v := (nI 0)) (by decide) ?_
  refine J.istore_n (ls' := [(0, _), (1, _), (2, _), (3, _)]) C dX6_pair_3 (by decide) rfl ?_
  refine J.iload_n C dX6_pair_4 rfl ?_
  refine J.aload_n C dX6_pair_5 rfl ?_
  refine J.getI C flX6_pair_7 (by first | decide | omega) rfl (by exact rfl) (by first | ((repeat (first | refine up2_rd (by decide) ?_ | refine up2_rm (by decide) ?_ | refine up3_rd (by decide) ?_)) <;> (first | exact up2_s _ _ _ _ | assumption | exact rfl))) dX6_pair_6 ?_
  refine J.icmp_ge_n C (by omega) (by omega) dX6_pair_9 (tgt := 53) (by decide) (fun c9 => absurd c9 (by first | omega | decide | simp_all)) (fun _ => ?_)
  refine J.iload_n C dX6_pair_12 rfl ?_
  refine J.iconst C dX6_pair_13 (v := (nI 1)) (by decide) ?_
  first | refine J.iadd_n C dX6_pair_14 ?_ | refine J.iadd C dX6_pair_14 ?_
  refine J.istore (ls' := [(0, _), (1, _), (2, _), (3, _), (4, _)]) C dX6_pair_15 (by decide) rfl ?_
  refine J.iload C dX6_pair_17 rfl ?_
  refine J.aload_n C dX6_pair_19 rfl ?_
  refine J.getI C flX6_pair_7 (by first | decide | omega) rfl (by exact rfl) (by first | ((repeat (first | refine up2_rd (by decide) ?_ | refine up2_rm (by decide) ?_ | refine up3_rd (by decide) ?_)) <;> (first | exact up2_s _ _ _ _ | assumption | exact rfl))) dX6_pair_20 ?_
  refine J.icmp_ge_n C (by omega) (by omega) dX6_pair_23 (tgt := 47) (by decide) (fun c23 => absurd c23 (by first | omega | decide | simp_all)) (fun _ => ?_)
  refine J.iload_n C dX6_pair_26 rfl ?_
  refine J.if_ne_n C (by omega) dX6_pair_27 (tgt := 38) (by decide) (fun _ => ?_) (fun c27 => absurd c27 (by first | omega | decide | simp_all))
  refine J.iinc (ls' := [(0, _), (1, _), (2, _), (3, _), (4, _)]) C dX6_pair_38 rfl (by first | exact pk_m1 _ | decide) (by decide) rfl ?_
  refine J.iinc (ls' := [(0, _), (1, _), (2, _), (3, _), (4, _)]) C dX6_pair_41 rfl (by first | exact nI_inc _ 1 | exact rfl) (by decide) rfl ?_
  refine J.goto C dX6_pair_44 (tgt := 17) (by decide) ?_
  refine J.iload C dX6_pair_17 rfl ?_
  refine J.aload_n C dX6_pair_19 rfl ?_
  refine J.getI C flX6_pair_7 (by first | decide | omega) rfl (by exact rfl) (by first | ((repeat (first | refine up2_rd (by decide) ?_ | refine up2_rm (by decide) ?_ | refine up3_rd (by decide) ?_)) <;> (first | exact up2_s _ _ _ _ | assumption | exact rfl))) dX6_pair_20 ?_
  refine J.icmp_ge_n C (by omega) (by omega) dX6_pair_23 (tgt := 47) (by decide) (fun c23 => absurd c23 (by first | omega | decide | simp_all)) (fun _ => ?_)
  refine J.iload_n C dX6_pair_26 rfl ?_
  refine J.if_ne_n C (by omega) dX6_pair_27 (tgt := 38) (by decide) (fun _ => ?_) (fun c27 => absurd c27 (by first | omega | decide | simp_all))
  refine J.iinc (ls' := [(0, _), (1, _), (2, _), (3, _), (4, _)]) C dX6_pair_38 rfl (by first | exact pk_m1 _ | decide) (by decide) rfl ?_
  refine J.iinc (ls' := [(0, _), (1, _), (2, _), (3, _), (4, _)]) C dX6_pair_41 rfl (by first | exact nI_inc _ 1 | exact rfl) (by decide) rfl ?_
  refine J.goto C dX6_pair_44 (tgt := 17) (by decide) ?_
  refine J.iload C dX6_pair_17 rfl ?_
  refine J.aload_n C dX6_pair_19 rfl ?_
  refine J.getI C flX6_pair_7 (by first | decide | omega) rfl (by exact rfl) (by first | ((repeat (first | refine up2_rd (by decide) ?_ | refine up2_rm (by decide) ?_ | refine up3_rd (by decide) ?_)) <;> (first | exact up2_s _ _ _ _ | assumption | exact rfl))) dX6_pair_20 ?_
  refine J.icmp_ge_n C (by omega) (by omega) dX6_pair_23 (tgt := 47) (by decide) (fun c23 => absurd c23 (by first | omega | decide | simp_all)) (fun _ => ?_)
  refine J.iload_n C dX6_pair_26 rfl ?_
  refine J.if_ne_n C (by omega) dX6_pair_27 (tgt := 38) (by decide) (fun c27 => absurd c27 (by first | omega | decide | simp_all)) (fun _ => ?_)
  refine J.bipush C dX6_pair_30 (v := (nI 10)) (by decide) ?_
  refine J.iload_n C dX6_pair_32 rfl ?_
  first | refine J.imul_n C dX6_pair_33 ?_ | refine J.imul C dX6_pair_33 ?_
  refine J.iload C dX6_pair_34 rfl ?_
  first | refine J.iadd_n C dX6_pair_36 ?_ | refine J.iadd C dX6_pair_36 ?_
  exact J.iret C dX6_pair_37 ⟨rfl, rfl⟩
set_option maxHeartbeats 4000000 in
set_option maxRecDepth 100000 in
theorem ok_X6_pair_4_3 (l : Launch) (V : Vx) (I : Nat → Nat → Int32) (L : Nat → Nat → Int64) (h : I 85 0 = nI 4) : Di l V yX6_pair wsX6_pair 1 [.ref (ad V 85), .int (nI 3)] I L (nI 12) I L := by
  refine Ok.of (cc := cX6_pair) (maxL := 5) (ret := (some .int)) (by decide) rfl (Nat.le_of_ble_eq_true rfl) (fun X hnm C => ?_)
  have C : CX l X V RX6 cX6_pair 5 wsX6_pair 1 0 0 (some .int) := C
  refine J.cast (ls' := [(0, _), (1, _)]) rfl rfl rfl rfl ?_
  refine J.iload_n C dX6_pair_0 rfl ?_
  refine J.istore_n (ls' := [(0, _), (1, _), (2, _)]) C dX6_pair_1 (by decide) rfl ?_
  refine J.iconst C dX6_pair_2 (v := (nI 0)) (by decide) ?_
  refine J.istore_n (ls' := [(0, _), (1, _), (2, _), (3, _)]) C dX6_pair_3 (by decide) rfl ?_
  refine J.iload_n C dX6_pair_4 rfl ?_
  refine J.aload_n C dX6_pair_5 rfl ?_
  refine J.getI C flX6_pair_7 (by first | decide | omega) rfl (by exact rfl) (by first | ((repeat (first | refine up2_rd (by decide) ?_ | refine up2_rm (by decide) ?_ | refine up3_rd (by decide) ?_)) <;> (first | exact up2_s _ _ _ _ | assumption | exact rfl))) dX6_pair_6 ?_
  refine J.icmp_ge_n C (by omega) (by omega) dX6_pair_9 (tgt := 53) (by decide) (fun c9 => absurd c9 (by first | omega | decide | simp_all)) (fun _ => ?_)
  refine J.iload_n C dX6_pair_12 rfl ?_
  refine J.iconst C dX6_pair_13 (v := (nI 1)) (by decide) ?_
  first | refine J.iadd_n C dX6_pair_14 ?_ | refine J.iadd C dX6_pair_14 ?_
  refine J.istore (ls' := [(0, _), (1, _), (2, _), (3, _), (4, _)]) C dX6_pair_15 (by decide) rfl ?_
  refine J.iload C dX6_pair_17 rfl ?_
  refine J.aload_n C dX6_pair_19 rfl ?_
  refine J.getI C flX6_pair_7 (by first | decide | omega) rfl (by exact rfl) (by first | ((repeat (first | refine up2_rd (by decide) ?_ | refine up2_rm (by decide) ?_ | refine up3_rd (by decide) ?_)) <;> (first | exact up2_s _ _ _ _ | assumption | exact rfl))) dX6_pair_20 ?_
  refine J.icmp_ge_n C (by omega) (by omega) dX6_pair_23 (tgt := 47) (by decide) (fun c23 => absurd c23 (by first | omega | decide | simp_all)) (fun _ => ?_)
  refine J.iload_n C dX6_pair_26 rfl ?_
  refine J.if_ne_n C (by omega) dX6_pair_27 (tgt := 38) (by decide) (fun _ => ?_) (fun c27 => absurd c27 (by first | omega | decide | simp_all))
  refine J.iinc (ls' := [(0, _), (1, _), (2, _), (3, _), (4, _)]) C dX6_pair_38 rfl (by first | exact pk_m1 _ | decide) (by decide) rfl ?_
  refine J.iinc (ls' := [(0, _), (1, _), (2, _), (3, _), (4, _)]) C dX6_pair_41 rfl (by first | exact nI_inc _ 1 | exact rfl) (by decide) rfl ?_
  refine J.goto C dX6_pair_44 (tgt := 17) (by decide) ?_
  refine J.iload C dX6_pair_17 rfl ?_
  refine J.aload_n C dX6_pair_19 rfl ?_
  refine J.getI C flX6_pair_7 (by first | decide | omega) rfl (by exact rfl) (by first | ((repeat (first | refine up2_rd (by decide) ?_ | refine up2_rm (by decide) ?_ | refine up3_rd (by decide) ?_)) <;> (first | exact up2_s _ _ _ _ | assumption | exact rfl))) dX6_pair_20 ?_
  refine J.icmp_ge_n C (by omega) (by omega) dX6_pair_23 (tgt := 47) (by decide) (fun c23 => absurd c23 (by first | omega | decide | simp_all)) (fun _ => ?_)
  refine J.iload_n C dX6_pair_26 rfl ?_
  refine J.if_ne_n C (by omega) dX6_pair_27 (tgt := 38) (by decide) (fun _ => ?_) (fun c27 => absurd c27 (by first | omega | decide | simp_all))
  refine J.iinc (ls' := [(0, _), (1, _), (2, _), (3, _), (4, _)]) C dX6_pair_38 rfl (by first | exact pk_m1 _ | decide) (by decide) rfl ?_
  refine J.iinc (ls' := [(0, _), (1, _), (2, _), (3, _), (4, _)]) C dX6_pair_41 rfl (by first | exact nI_inc _ 1 | exact rfl) (by decide) rfl ?_
  refine J.goto C dX6_pair_44 (tgt := 17) (by decide) ?_
  refine J.iload C dX6_pair_17 rfl ?_
  refine J.aload_n C dX6_pair_19 rfl ?_
  refine J.getI C flX6_pair_7 (by first | decide | omega) rfl (by exact rfl) (by first | ((repeat (first | refine up2_rd (by decide) ?_ | refine up2_rm (by decide) ?_ | refine up3_rd (by decide) ?_)) <;> (first | exact up2_s _ _ _ _ | assumption | exact rfl))) dX6_pair_20 ?_
  refine J.icmp_ge_n C (by omega) (by omega) dX6_pair_23 (tgt := 47) (by decide) (fun c23 => absurd c23 (by first | omega | decide | simp_all)) (fun _ => ?_)
  refine J.iload_n C dX6_pair_26 rfl ?_
  refine J.if_ne_n C (by omega) dX6_pair_27 (tgt := 38) (by decide) (fun _ => ?_) (fun c27 => absurd c27 (by first | omega | decide | simp_all))
  refine J.iinc (ls' := [(0, _), (1, _), (2, _), (3, _), (4, _)]) C dX6_pair_38 rfl (by first | exact pk_m1 _ | decide) (by decide) rfl ?_
  refine J.iinc (ls' := [(0, _), (1, _), (2, _), (3, _), (4, _)]) C dX6_pair_41 rfl (by first | exact nI_inc _ 1 | exact rfl) (by decide) rfl ?_
  refine J.goto C dX6_pair_44 (tgt := 17) (by decide) ?_
  refine J.iload C dX6_pair_17 rfl ?_
  refine J.aload_n C dX6_pair_19 rfl ?_
  refine J.getI C flX6_pair_7 (by first | decide | omega) rfl (by exact rfl) (by first | ((repeat (first | refine up2_rd (by decide) ?_ | refine up2_rm (by decide) ?_ | refine up3_rd (by decide) ?_)) <;> (first | exact up2_s _ _ _ _ | assumption | exact rfl))) dX6_pair_20 ?_
  refine J.icmp_ge_n C (by omega) (by omega) dX6_pair_23 (tgt := 47) (by decide) (fun _ => ?_) (fun c23 => absurd c23 (by first | omega | decide | simp_all))
  refine J.iinc (ls' := [(0, _), (1, _), (2, _), (3, _), (4, _)]) C dX6_pair_47 rfl (by first | exact nI_inc _ 1 | exact rfl) (by decide) rfl ?_
  refine J.goto C dX6_pair_50 (tgt := 4) (by decide) ?_
  refine J.iload_n C dX6_pair_4 rfl ?_
  refine J.aload_n C dX6_pair_5 rfl ?_
  refine J.getI C flX6_pair_7 (by first | decide | omega) rfl (by exact rfl) (by first | ((repeat (first | refine up2_rd (by decide) ?_ | refine up2_rm (by decide) ?_ | refine up3_rd (by decide) ?_)) <;> (first | exact up2_s _ _ _ _ | assumption | exact rfl))) dX6_pair_6 ?_
  refine J.icmp_ge_n C (by omega) (by omega) dX6_pair_9 (tgt := 53) (by decide) (fun c9 => absurd c9 (by first | omega | decide | simp_all)) (fun _ => ?_)
  refine J.iload_n C dX6_pair_12 rfl ?_
  refine J.iconst C dX6_pair_13 (v := (nI 1)) (by decide) ?_
  first | refine J.iadd_n C dX6_pair_14 ?_ | refine J.iadd C dX6_pair_14 ?_
  refine J.istore (ls' := [(0, _), (1, _), (2, _), (3, _), (4, _)]) C dX6_pair_15 (by decide) rfl ?_
  refine J.iload C dX6_pair_17 rfl ?_
  refine J.aload_n C dX6_pair_19 rfl ?_
  refine J.getI C flX6_pair_7 (by first | decide | omega) rfl (by exact rfl) (by first | ((repeat (first | refine up2_rd (by decide) ?_ | refine up2_rm (by decide) ?_ | refine up3_rd (by decide) ?_)) <;> (first | exact up2_s _ _ _ _ | assumption | exact rfl))) dX6_pair_20 ?_
  refine J.icmp_ge_n C (by omega) (by omega) dX6_pair_23 (tgt := 47) (by decide) (fun c23 => absurd c23 (by first | omega | decide | simp_all)) (fun _ => ?_)
  refine J.iload_n C dX6_pair_26 rfl ?_
  refine J.if_ne_n C (by omega) dX6_pair_27 (tgt := 38) (by decide) (fun c27 => absurd c27 (by first | omega | decide | simp_all)) (fun _ => ?_)
  refine J.bipush C dX6_pair_30 (v := (nI 10)) (by decide) ?_
  refine J.iload_n C dX6_pair_32 rfl ?_
  first | refine J.imul_n C dX6_pair_33 ?_ | refine J.imul C dX6_pair_33 ?_
  refine J.iload C dX6_pair_34 rfl ?_
  first | refine J.iadd_n C dX6_pair_36 ?_ | refine J.iadd C dX6_pair_36 ?_
  exact J.iret C dX6_pair_37 ⟨rfl, rfl⟩
set_option maxHeartbeats 4000000 in
set_option maxRecDepth 100000 in
theorem ok_X6_pair_4_4 (l : Launch) (V : Vx) (I : Nat → Nat → Int32) (L : Nat → Nat → Int64) (h : I 85 0 = nI 4) : Di l V yX6_pair wsX6_pair 1 [.ref (ad V 85), .int (nI 4)] I L (nI 13) I L := by
  refine Ok.of (cc := cX6_pair) (maxL := 5) (ret := (some .int)) (by decide) rfl (Nat.le_of_ble_eq_true rfl) (fun X hnm C => ?_)
  have C : CX l X V RX6 cX6_pair 5 wsX6_pair 1 0 0 (some .int) := C
  refine J.cast (ls' := [(0, _), (1, _)]) rfl rfl rfl rfl ?_
  refine J.iload_n C dX6_pair_0 rfl ?_
  refine J.istore_n (ls' := [(0, _), (1, _), (2, _)]) C dX6_pair_1 (by decide) rfl ?_
  refine J.iconst C dX6_pair_2 (v := (nI 0)) (by decide) ?_
  refine J.istore_n (ls' := [(0, _), (1, _), (2, _), (3, _)]) C dX6_pair_3 (by decide) rfl ?_
  refine J.iload_n C dX6_pair_4 rfl ?_
  refine J.aload_n C dX6_pair_5 rfl ?_
  refine J.getI C flX6_pair_7 (by first | decide | omega) rfl (by exact rfl) (by first | ((repeat (first | refine up2_rd (by decide) ?_ | refine up2_rm (by decide) ?_ | refine up3_rd (by decide) ?_)) <;> (first | exact up2_s _ _ _ _ | assumption | exact rfl))) dX6_pair_6 ?_
  refine J.icmp_ge_n C (by omega) (by omega) dX6_pair_9 (tgt := 53) (by decide) (fun c9 => absurd c9 (by first | omega | decide | simp_all)) (fun _ => ?_)
  refine J.iload_n C dX6_pair_12 rfl ?_
  refine J.iconst C dX6_pair_13 (v := (nI 1)) (by decide) ?_
  first | refine J.iadd_n C dX6_pair_14 ?_ | refine J.iadd C dX6_pair_14 ?_
  refine J.istore (ls' := [(0, _), (1, _), (2, _), (3, _), (4, _)]) C dX6_pair_15 (by decide) rfl ?_
  refine J.iload C dX6_pair_17 rfl ?_
  refine J.aload_n C dX6_pair_19 rfl ?_
  refine J.getI C flX6_pair_7 (by first | decide | omega) rfl (by exact rfl) (by first | ((repeat (first | refine up2_rd (by decide) ?_ | refine up2_rm (by decide) ?_ | refine up3_rd (by decide) ?_)) <;> (first | exact up2_s _ _ _ _ | assumption | exact rfl))) dX6_pair_20 ?_
  refine J.icmp_ge_n C (by omega) (by omega) dX6_pair_23 (tgt := 47) (by decide) (fun c23 => absurd c23 (by first | omega | decide | simp_all)) (fun _ => ?_)
  refine J.iload_n C dX6_pair_26 rfl ?_
  refine J.if_ne_n C (by omega) dX6_pair_27 (tgt := 38) (by decide) (fun _ => ?_) (fun c27 => absurd c27 (by first | omega | decide | simp_all))
  refine J.iinc (ls' := [(0, _), (1, _), (2, _), (3, _), (4, _)]) C dX6_pair_38 rfl (by first | exact pk_m1 _ | decide) (by decide) rfl ?_
  refine J.iinc (ls' := [(0, _), (1, _), (2, _), (3, _), (4, _)]) C dX6_pair_41 rfl (by first | exact nI_inc _ 1 | exact rfl) (by decide) rfl ?_
  refine J.goto C dX6_pair_44 (tgt := 17) (by decide) ?_
  refine J.iload C dX6_pair_17 rfl ?_
  refine J.aload_n C dX6_pair_19 rfl ?_
  refine J.getI C flX6_pair_7 (by first | decide | omega) rfl (by exact rfl) (by first | ((repeat (first | refine up2_rd (by decide) ?_ | refine up2_rm (by decide) ?_ | refine up3_rd (by decide) ?_)) <;> (first | exact up2_s _ _ _ _ | assumption | exact rfl))) dX6_pair_20 ?_
  refine J.icmp_ge_n C (by omega) (by omega) dX6_pair_23 (tgt := 47) (by decide) (fun c23 => absurd c23 (by first | omega | decide | simp_all)) (fun _ => ?_)
  refine J.iload_n C dX6_pair_26 rfl ?_
  refine J.if_ne_n C (by omega) dX6_pair_27 (tgt := 38) (by decide) (fun _ => ?_) (fun c27 => absurd c27 (by first | omega | decide | simp_all))
  refine J.iinc (ls' := [(0, _), (1, _), (2, _), (3, _), (4, _)]) C dX6_pair_38 rfl (by first | exact pk_m1 _ | decide) (by decide) rfl ?_
  refine J.iinc (ls' := [(0, _), (1, _), (2, _), (3, _), (4, _)]) C dX6_pair_41 rfl (by first | exact nI_inc _ 1 | exact rfl) (by decide) rfl ?_
  refine J.goto C dX6_pair_44 (tgt := 17) (by decide) ?_
  refine J.iload C dX6_pair_17 rfl ?_
  refine J.aload_n C dX6_pair_19 rfl ?_
  refine J.getI C flX6_pair_7 (by first | decide | omega) rfl (by exact rfl) (by first | ((repeat (first | refine up2_rd (by decide) ?_ | refine up2_rm (by decide) ?_ | refine up3_rd (by decide) ?_)) <;> (first | exact up2_s _ _ _ _ | assumption | exact rfl))) dX6_pair_20 ?_
  refine J.icmp_ge_n C (by omega) (by omega) dX6_pair_23 (tgt := 47) (by decide) (fun c23 => absurd c23 (by first | omega | decide | simp_all)) (fun _ => ?_)
  refine J.iload_n C dX6_pair_26 rfl ?_
  refine J.if_ne_n C (by omega) dX6_pair_27 (tgt := 38) (by decide) (fun _ => ?_) (fun c27 => absurd c27 (by first | omega | decide | simp_all))
  refine J.iinc (ls' := [(0, _), (1, _), (2, _), (3, _), (4, _)]) C dX6_pair_38 rfl (by first | exact pk_m1 _ | decide) (by decide) rfl ?_
  refine J.iinc (ls' := [(0, _), (1, _), (2, _), (3, _), (4, _)]) C dX6_pair_41 rfl (by first | exact nI_inc _ 1 | exact rfl) (by decide) rfl ?_
  refine J.goto C dX6_pair_44 (tgt := 17) (by decide) ?_
  refine J.iload C dX6_pair_17 rfl ?_
  refine J.aload_n C dX6_pair_19 rfl ?_
  refine J.getI C flX6_pair_7 (by first | decide | omega) rfl (by exact rfl) (by first | ((repeat (first | refine up2_rd (by decide) ?_ | refine up2_rm (by decide) ?_ | refine up3_rd (by decide) ?_)) <;> (first | exact up2_s _ _ _ _ | assumption | exact rfl))) dX6_pair_20 ?_
  refine J.icmp_ge_n C (by omega) (by omega) dX6_pair_23 (tgt := 47) (by decide) (fun _ => ?_) (fun c23 => absurd c23 (by first | omega | decide | simp_all))
  refine J.iinc (ls' := [(0, _), (1, _), (2, _), (3, _), (4, _)]) C dX6_pair_47 rfl (by first | exact nI_inc _ 1 | exact rfl) (by decide) rfl ?_
  refine J.goto C dX6_pair_50 (tgt := 4) (by decide) ?_
  refine J.iload_n C dX6_pair_4 rfl ?_
  refine J.aload_n C dX6_pair_5 rfl ?_
  refine J.getI C flX6_pair_7 (by first | decide | omega) rfl (by exact rfl) (by first | ((repeat (first | refine up2_rd (by decide) ?_ | refine up2_rm (by decide) ?_ | refine up3_rd (by decide) ?_)) <;> (first | exact up2_s _ _ _ _ | assumption | exact rfl))) dX6_pair_6 ?_
  refine J.icmp_ge_n C (by omega) (by omega) dX6_pair_9 (tgt := 53) (by decide) (fun c9 => absurd c9 (by first | omega | decide | simp_all)) (fun _ => ?_)
  refine J.iload_n C dX6_pair_12 rfl ?_
  refine J.iconst C dX6_pair_13 (v := (nI 1)) (by decide) ?_
  first | refine J.iadd_n C dX6_pair_14 ?_ | refine J.iadd C dX6_pair_14 ?_
  refine J.istore (ls' := [(0, _), (1, _), (2, _), (3, _), (4, _)]) C dX6_pair_15 (by decide) rfl ?_
  refine J.iload C dX6_pair_17 rfl ?_
  refine J.aload_n C dX6_pair_19 rfl ?_
  refine J.getI C flX6_pair_7 (by first | decide | omega) rfl (by exact rfl) (by first | ((repeat (first | refine up2_rd (by decide) ?_ | refine up2_rm (by decide) ?_ | refine up3_rd (by decide) ?_)) <;> (first | exact up2_s _ _ _ _ | assumption | exact rfl))) dX6_pair_20 ?_
  refine J.icmp_ge_n C (by omega) (by omega) dX6_pair_23 (tgt := 47) (by decide) (fun c23 => absurd c23 (by first | omega | decide | simp_all)) (fun _ => ?_)
  refine J.iload_n C dX6_pair_26 rfl ?_
  refine J.if_ne_n C (by omega) dX6_pair_27 (tgt := 38) (by decide) (fun _ => ?_) (fun c27 => absurd c27 (by first | omega | decide | simp_all))
  refine J.iinc (ls' := [(0, _), (1, _), (2, _), (3, _), (4, _)]) C dX6_pair_38 rfl (by first | exact pk_m1 _ | decide) (by decide) rfl ?_
  refine J.iinc (ls' := [(0, _), (1, _), (2, _), (3, _), (4, _)]) C dX6_pair_41 rfl (by first | exact nI_inc _ 1 | exact rfl) (by decide) rfl ?_
  refine J.goto C dX6_pair_44 (tgt := 17) (by decide) ?_
  refine J.iload C dX6_pair_17 rfl ?_
  refine J.aload_n C dX6_pair_19 rfl ?_
  refine J.getI C flX6_pair_7 (by first | decide | omega) rfl (by exact rfl) (by first | ((repeat (first | refine up2_rd (by decide) ?_ | refine up2_rm (by decide) ?_ | refine up3_rd (by decide) ?_)) <;> (first | exact up2_s _ _ _ _ | assumption | exact rfl))) dX6_pair_20 ?_
  refine J.icmp_ge_n C (by omega) (by omega) dX6_pair_23 (tgt := 47) (by decide) (fun c23 => absurd c23 (by first | omega | decide | simp_all)) (fun _ => ?_)
  refine J.iload_n C dX6_pair_26 rfl ?_
  refine J.if_ne_n C (by omega) dX6_pair_27 (tgt := 38) (by decide) (fun c27 => absurd c27 (by first | omega | decide | simp_all)) (fun _ => ?_)
  refine J.bipush C dX6_pair_30 (v := (nI 10)) (by decide) ?_
  refine J.iload_n C dX6_pair_32 rfl ?_
  first | refine J.imul_n C dX6_pair_33 ?_ | refine J.imul C dX6_pair_33 ?_
  refine J.iload C dX6_pair_34 rfl ?_
  first | refine J.iadd_n C dX6_pair_36 ?_ | refine J.iadd C dX6_pair_36 ?_
  exact J.iret C dX6_pair_37 ⟨rfl, rfl⟩
set_option maxHeartbeats 4000000 in
set_option maxRecDepth 100000 in
theorem ok_X6_pair_4_5 (l : Launch) (V : Vx) (I : Nat → Nat → Int32) (L : Nat → Nat → Int64) (h : I 85 0 = nI 4) : Di l V yX6_pair wsX6_pair 1 [.ref (ad V 85), .int (nI 5)] I L (nI 23) I L := by
  refine Ok.of (cc := cX6_pair) (maxL := 5) (ret := (some .int)) (by decide) rfl (Nat.le_of_ble_eq_true rfl) (fun X hnm C => ?_)
  have C : CX l X V RX6 cX6_pair 5 wsX6_pair 1 0 0 (some .int) := C
  refine J.cast (ls' := [(0, _), (1, _)]) rfl rfl rfl rfl ?_
  refine J.iload_n C dX6_pair_0 rfl ?_
  refine J.istore_n (ls' := [(0, _), (1, _), (2, _)]) C dX6_pair_1 (by decide) rfl ?_
  refine J.iconst C dX6_pair_2 (v := (nI 0)) (by decide) ?_
  refine J.istore_n (ls' := [(0, _), (1, _), (2, _), (3, _)]) C dX6_pair_3 (by decide) rfl ?_
  refine J.iload_n C dX6_pair_4 rfl ?_
  refine J.aload_n C dX6_pair_5 rfl ?_
  refine J.getI C flX6_pair_7 (by first | decide | omega) rfl (by exact rfl) (by first | ((repeat (first | refine up2_rd (by decide) ?_ | refine up2_rm (by decide) ?_ | refine up3_rd (by decide) ?_)) <;> (first | exact up2_s _ _ _ _ | assumption | exact rfl))) dX6_pair_6 ?_
  refine J.icmp_ge_n C (by omega) (by omega) dX6_pair_9 (tgt := 53) (by decide) (fun c9 => absurd c9 (by first | omega | decide | simp_all)) (fun _ => ?_)
  refine J.iload_n C dX6_pair_12 rfl ?_
  refine J.iconst C dX6_pair_13 (v := (nI 1)) (by decide) ?_
  first | refine J.iadd_n C dX6_pair_14 ?_ | refine J.iadd C dX6_pair_14 ?_
  refine J.istore (ls' := [(0, _), (1, _), (2, _), (3, _), (4, _)]) C dX6_pair_15 (by decide) rfl ?_
  refine J.iload C dX6_pair_17 rfl ?_
  refine J.aload_n C dX6_pair_19 rfl ?_
  refine J.getI C flX6_pair_7 (by first | decide | omega) rfl (by exact rfl) (by first | ((repeat (first | refine up2_rd (by decide) ?_ | refine up2_rm (by decide) ?_ | refine up3_rd (by decide) ?_)) <;> (first | exact up2_s _ _ _ _ | assumption | exact rfl))) dX6_pair_20 ?_
  refine J.icmp_ge_n C (by omega) (by omega) dX6_pair_23 (tgt := 47) (by decide) (fun c23 => absurd c23 (by first | omega | decide | simp_all)) (fun _ => ?_)
  refine J.iload_n C dX6_pair_26 rfl ?_
  refine J.if_ne_n C (by omega) dX6_pair_27 (tgt := 38) (by decide) (fun _ => ?_) (fun c27 => absurd c27 (by first | omega | decide | simp_all))
  refine J.iinc (ls' := [(0, _), (1, _), (2, _), (3, _), (4, _)]) C dX6_pair_38 rfl (by first | exact pk_m1 _ | decide) (by decide) rfl ?_
  refine J.iinc (ls' := [(0, _), (1, _), (2, _), (3, _), (4, _)]) C dX6_pair_41 rfl (by first | exact nI_inc _ 1 | exact rfl) (by decide) rfl ?_
  refine J.goto C dX6_pair_44 (tgt := 17) (by decide) ?_
  refine J.iload C dX6_pair_17 rfl ?_
  refine J.aload_n C dX6_pair_19 rfl ?_
  refine J.getI C flX6_pair_7 (by first | decide | omega) rfl (by exact rfl) (by first | ((repeat (first | refine up2_rd (by decide) ?_ | refine up2_rm (by decide) ?_ | refine up3_rd (by decide) ?_)) <;> (first | exact up2_s _ _ _ _ | assumption | exact rfl))) dX6_pair_20 ?_
  refine J.icmp_ge_n C (by omega) (by omega) dX6_pair_23 (tgt := 47) (by decide) (fun c23 => absurd c23 (by first | omega | decide | simp_all)) (fun _ => ?_)
  refine J.iload_n C dX6_pair_26 rfl ?_
  refine J.if_ne_n C (by omega) dX6_pair_27 (tgt := 38) (by decide) (fun _ => ?_) (fun c27 => absurd c27 (by first | omega | decide | simp_all))
  refine J.iinc (ls' := [(0, _), (1, _), (2, _), (3, _), (4, _)]) C dX6_pair_38 rfl (by first | exact pk_m1 _ | decide) (by decide) rfl ?_
  refine J.iinc (ls' := [(0, _), (1, _), (2, _), (3, _), (4, _)]) C dX6_pair_41 rfl (by first | exact nI_inc _ 1 | exact rfl) (by decide) rfl ?_
  refine J.goto C dX6_pair_44 (tgt := 17) (by decide) ?_
  refine J.iload C dX6_pair_17 rfl ?_
  refine J.aload_n C dX6_pair_19 rfl ?_
  refine J.getI C flX6_pair_7 (by first | decide | omega) rfl (by exact rfl) (by first | ((repeat (first | refine up2_rd (by decide) ?_ | refine up2_rm (by decide) ?_ | refine up3_rd (by decide) ?_)) <;> (first | exact up2_s _ _ _ _ | assumption | exact rfl))) dX6_pair_20 ?_
  refine J.icmp_ge_n C (by omega) (by omega) dX6_pair_23 (tgt := 47) (by decide) (fun c23 => absurd c23 (by first | omega | decide | simp_all)) (fun _ => ?_)
  refine J.iload_n C dX6_pair_26 rfl ?_
  refine J.if_ne_n C (by omega) dX6_pair_27 (tgt := 38) (by decide) (fun _ => ?_) (fun c27 => absurd c27 (by first | omega | decide | simp_all))
  refine J.iinc (ls' := [(0, _), (1, _), (2, _), (3, _), (4, _)]) C dX6_pair_38 rfl (by first | exact pk_m1 _ | decide) (by decide) rfl ?_
  refine J.iinc (ls' := [(0, _), (1, _), (2, _), (3, _), (4, _)]) C dX6_pair_41 rfl (by first | exact nI_inc _ 1 | exact rfl) (by decide) rfl ?_
  refine J.goto C dX6_pair_44 (tgt := 17) (by decide) ?_
  refine J.iload C dX6_pair_17 rfl ?_
  refine J.aload_n C dX6_pair_19 rfl ?_
  refine J.getI C flX6_pair_7 (by first | decide | omega) rfl (by exact rfl) (by first | ((repeat (first | refine up2_rd (by decide) ?_ | refine up2_rm (by decide) ?_ | refine up3_rd (by decide) ?_)) <;> (first | exact up2_s _ _ _ _ | assumption | exact rfl))) dX6_pair_20 ?_
  refine J.icmp_ge_n C (by omega) (by omega) dX6_pair_23 (tgt := 47) (by decide) (fun _ => ?_) (fun c23 => absurd c23 (by first | omega | decide | simp_all))
  refine J.iinc (ls' := [(0, _), (1, _), (2, _), (3, _), (4, _)]) C dX6_pair_47 rfl (by first | exact nI_inc _ 1 | exact rfl) (by decide) rfl ?_
  refine J.goto C dX6_pair_50 (tgt := 4) (by decide) ?_
  refine J.iload_n C dX6_pair_4 rfl ?_
  refine J.aload_n C dX6_pair_5 rfl ?_
  refine J.getI C flX6_pair_7 (by first | decide | omega) rfl (by exact rfl) (by first | ((repeat (first | refine up2_rd (by decide) ?_ | refine up2_rm (by decide) ?_ | refine up3_rd (by decide) ?_)) <;> (first | exact up2_s _ _ _ _ | assumption | exact rfl))) dX6_pair_6 ?_
  refine J.icmp_ge_n C (by omega) (by omega) dX6_pair_9 (tgt := 53) (by decide) (fun c9 => absurd c9 (by first | omega | decide | simp_all)) (fun _ => ?_)
  refine J.iload_n C dX6_pair_12 rfl ?_
  refine J.iconst C dX6_pair_13 (v := (nI 1)) (by decide) ?_
  first | refine J.iadd_n C dX6_pair_14 ?_ | refine J.iadd C dX6_pair_14 ?_
  refine J.istore (ls' := [(0, _), (1, _), (2, _), (3, _), (4, _)]) C dX6_pair_15 (by decide) rfl ?_
  refine J.iload C dX6_pair_17 rfl ?_
  refine J.aload_n C dX6_pair_19 rfl ?_
  refine J.getI C flX6_pair_7 (by first | decide | omega) rfl (by exact rfl) (by first | ((repeat (first | refine up2_rd (by decide) ?_ | refine up2_rm (by decide) ?_ | refine up3_rd (by decide) ?_)) <;> (first | exact up2_s _ _ _ _ | assumption | exact rfl))) dX6_pair_20 ?_
  refine J.icmp_ge_n C (by omega) (by omega) dX6_pair_23 (tgt := 47) (by decide) (fun c23 => absurd c23 (by first | omega | decide | simp_all)) (fun _ => ?_)
  refine J.iload_n C dX6_pair_26 rfl ?_
  refine J.if_ne_n C (by omega) dX6_pair_27 (tgt := 38) (by decide) (fun _ => ?_) (fun c27 => absurd c27 (by first | omega | decide | simp_all))
  refine J.iinc (ls' := [(0, _), (1, _), (2, _), (3, _), (4, _)]) C dX6_pair_38 rfl (by first | exact pk_m1 _ | decide) (by decide) rfl ?_
  refine J.iinc (ls' := [(0, _), (1, _), (2, _), (3, _), (4, _)]) C dX6_pair_41 rfl (by first | exact nI_inc _ 1 | exact rfl) (by decide) rfl ?_
  refine J.goto C dX6_pair_44 (tgt := 17) (by decide) ?_
  refine J.iload C dX6_pair_17 rfl ?_
  refine J.aload_n C dX6_pair_19 rfl ?_
  refine J.getI C flX6_pair_7 (by first | decide | omega) rfl (by exact rfl) (by first | ((repeat (first | refine up2_rd (by decide) ?_ | refine up2_rm (by decide) ?_ | refine up3_rd (by decide) ?_)) <;> (first | exact up2_s _ _ _ _ | assumption | exact rfl))) dX6_pair_20 ?_
  refine J.icmp_ge_n C (by omega) (by omega) dX6_pair_23 (tgt := 47) (by decide) (fun c23 => absurd c23 (by first | omega | decide | simp_all)) (fun _ => ?_)
  refine J.iload_n C dX6_pair_26 rfl ?_
  refine J.if_ne_n C (by omega) dX6_pair_27 (tgt := 38) (by decide) (fun _ => ?_) (fun c27 => absurd c27 (by first | omega | decide | simp_all))
  refine J.iinc (ls' := [(0, _), (1, _), (2, _), (3, _), (4, _)]) C dX6_pair_38 rfl (by first | exact pk_m1 _ | decide) (by decide) rfl ?_
  refine J.iinc (ls' := [(0, _), (1, _), (2, _), (3, _), (4, _)]) C dX6_pair_41 rfl (by first | exact nI_inc _ 1 | exact rfl) (by decide) rfl ?_
  refine J.goto C dX6_pair_44 (tgt := 17) (by decide) ?_
  refine J.iload C dX6_pair_17 rfl ?_
  refine J.aload_n C dX6_pair_19 rfl ?_
  refine J.getI C flX6_pair_7 (by first | decide | omega) rfl (by exact rfl) (by first | ((repeat (first | refine up2_rd (by decide) ?_ | refine up2_rm (by decide) ?_ | refine up3_rd (by decide) ?_)) <;> (first | exact up2_s _ _ _ _ | assumption | exact rfl))) dX6_pair_20 ?_
  refine J.icmp_ge_n C (by omega) (by omega) dX6_pair_23 (tgt := 47) (by decide) (fun _ => ?_) (fun c23 => absurd c23 (by first | omega | decide | simp_all))
  refine J.iinc (ls' := [(0, _), (1, _), (2, _), (3, _), (4, _)]) C dX6_pair_47 rfl (by first | exact nI_inc _ 1 | exact rfl) (by decide) rfl ?_
  refine J.goto C dX6_pair_50 (tgt := 4) (by decide) ?_
  refine J.iload_n C dX6_pair_4 rfl ?_
  refine J.aload_n C dX6_pair_5 rfl ?_
  refine J.getI C flX6_pair_7 (by first | decide | omega) rfl (by exact rfl) (by first | ((repeat (first | refine up2_rd (by decide) ?_ | refine up2_rm (by decide) ?_ | refine up3_rd (by decide) ?_)) <;> (first | exact up2_s _ _ _ _ | assumption | exact rfl))) dX6_pair_6 ?_
  refine J.icmp_ge_n C (by omega) (by omega) dX6_pair_9 (tgt := 53) (by decide) (fun c9 => absurd c9 (by first | omega | decide | simp_all)) (fun _ => ?_)
  refine J.iload_n C dX6_pair_12 rfl ?_
  refine J.iconst C dX6_pair_13 (v := (nI 1)) (by decide) ?_
  first | refine J.iadd_n C dX6_pair_14 ?_ | refine J.iadd C dX6_pair_14 ?_
  refine J.istore (ls' := [(0, _), (1, _), (2, _), (3, _), (4, _)]) C dX6_pair_15 (by decide) rfl ?_
  refine J.iload C dX6_pair_17 rfl ?_
  refine J.aload_n C dX6_pair_19 rfl ?_
  refine J.getI C flX6_pair_7 (by first | decide | omega) rfl (by exact rfl) (by first | ((repeat (first | refine up2_rd (by decide) ?_ | refine up2_rm (by decide) ?_ | refine up3_rd (by decide) ?_)) <;> (first | exact up2_s _ _ _ _ | assumption | exact rfl))) dX6_pair_20 ?_
  refine J.icmp_ge_n C (by omega) (by omega) dX6_pair_23 (tgt := 47) (by decide) (fun c23 => absurd c23 (by first | omega | decide | simp_all)) (fun _ => ?_)
  refine J.iload_n C dX6_pair_26 rfl ?_
  refine J.if_ne_n C (by omega) dX6_pair_27 (tgt := 38) (by decide) (fun c27 => absurd c27 (by first | omega | decide | simp_all)) (fun _ => ?_)
  refine J.bipush C dX6_pair_30 (v := (nI 10)) (by decide) ?_
  refine J.iload_n C dX6_pair_32 rfl ?_
  first | refine J.imul_n C dX6_pair_33 ?_ | refine J.imul C dX6_pair_33 ?_
  refine J.iload C dX6_pair_34 rfl ?_
  first | refine J.iadd_n C dX6_pair_36 ?_ | refine J.iadd C dX6_pair_36 ?_
  exact J.iret C dX6_pair_37 ⟨rfl, rfl⟩
theorem ok_X6_pair (l : Launch) (V : Vx) {L0 n : Nat} (I : Nat → Nat → Int32) (L : Nat → Nat → Int64) (h : I 85 0 = nI L0) (h2 : 2 ≤ L0) (h4 : L0 ≤ 4) (hn : n < nPr L0) : Di l V yX6_pair wsX6_pair 1 [.ref (ad V 85), .int (nI n)] I L (nI (10 * (prT L0 n).1 + (prT L0 n).2)) I L := by
  rcases (show L0 = 2 ∨ L0 = 3 ∨ L0 = 4 by omega) with e | e | e <;> subst e
  · have hn : n < 1 := hn
    obtain rfl : n = 0 := by omega
    exact ok_X6_pair_2_0 l V I L h
  · have hn : n < 3 := hn
    rcases (show n = 0 ∨ n = 1 ∨ n = 2 by omega) with e | e | e <;> subst e
    · exact ok_X6_pair_3_0 l V I L h
    · exact ok_X6_pair_3_1 l V I L h
    · exact ok_X6_pair_3_2 l V I L h
  · have hn : n < 6 := hn
    rcases (show n = 0 ∨ n = 1 ∨ n = 2 ∨ n = 3 ∨ n = 4 ∨ n = 5 by omega) with e | e | e | e | e | e <;> subst e
    · exact ok_X6_pair_4_0 l V I L h
    · exact ok_X6_pair_4_1 l V I L h
    · exact ok_X6_pair_4_2 l V I L h
    · exact ok_X6_pair_4_3 l V I L h
    · exact ok_X6_pair_4_4 l V I L h
    · exact ok_X6_pair_4_5 l V I L h
set_option maxHeartbeats 4000000 in
set_option maxRecDepth 100000 in
theorem lp_X6_does_i {l : Launch} {X : Cx} {V : Vx} {P : Option Value → (Nat → va_E) → Prop} {I : Nat → Nat → Int32} {L : Nat → Nat → Int64} (C : CX l X V RX6 cX6_does 6 wsX6_does 3 0 0 (some .boolean)) {t : Nt} {n r v0 : Nat} {tr : Nat → Nat} (hN : NM I t) (ok : okN t) (h4 : t.1 ≤ 4) (hn : n ≤ 10) (htr : ∀ k, k < n → tr k < nPr t.1 ∧ I 104 k = nI (tr k)) (hv0 : v0 < 2 ^ t.1) (hx : ∀ y, E X V P 6 88 ([(0, .ref (ad V 85)), (1, .int (nI n)), (2, .int (nI r)), (3, .int (nI (gk (tc t.1 tr) (-1) v0 n))), (4, .int (nI n))] ++ y) [] I L) : ∀ (q k v : Nat) (y : List (Nat × Value)), k + q = n → v = gk (tc t.1 tr) (-1) v0 k → (y = [] ∨ ∃ z, y = [(5, .int z)]) → E X V P 6 24 ([(0, .ref (ad V 85)), (1, .int (nI n)), (2, .int (nI r)), (3, .int (nI v)), (4, .int (nI k))] ++ y) [] I L := by
  intro q
  have h8 := p2_le ok.2.1
  induction q with
  | zero =>
    intro k v y hk hv1 hy
    have e : k = n := by omega
    subst e
    subst hv1
    refine J.iload C dX6_does_24 rfl ?_
    refine J.iload_n C dX6_does_26 rfl ?_
    first | refine J.icmp_ge_n C (by omega) (by omega) dX6_does_27 (tgt := 88) (by decide) (fun _ => ?_) (fun c27 => absurd c27 (by first | omega | decide | simp_all)) | refine J.icmp_ge_xn C (by omega) dX6_does_27 (tgt := 88) (by decide) (fun _ => ?_) (fun c27 => absurd c27 (by first | omega | decide | simp_all)) | refine J.icmp_ge_nx C (by omega) dX6_does_27 (tgt := 88) (by decide) (fun _ => ?_) (fun c27 => absurd c27 (by first | omega | decide | simp_all)) | refine J.icmp_ge C dX6_does_27 (tgt := 88) (by decide) (fun _ => ?_) (fun c27 => absurd c27 (by first | omega | decide | simp_all))
    exact hx y
  | succ q ih =>
    intro k v y hk hv1 hy
    obtain ⟨ht1, ht2⟩ := htr k (by omega)
    obtain ⟨hp1, hp2⟩ := prT_ok ok.1 h4 ht1
    have hg := gk_lt2 (n := t.1) (c := n) (f := tc t.1 tr) (fun i hi => tc_ok ok.1 h4 (htr i hi).1) hv0 k (by omega)
    rw [← hv1] at hg
    have hl : E X V P 6 24 [(0, .ref (ad V 85)), (1, .int (nI n)), (2, .int (nI r)), (3, .int (nI v)), (4, .int (nI k))] [] I L := by
      refine J.iload C dX6_does_24 rfl ?_
      refine J.iload_n C dX6_does_26 rfl ?_
      first | refine J.icmp_ge_n C (by omega) (by omega) dX6_does_27 (tgt := 88) (by decide) (fun c27 => absurd c27 (by first | omega | decide | simp_all)) (fun _ => ?_) | refine J.icmp_ge_xn C (by omega) dX6_does_27 (tgt := 88) (by decide) (fun c27 => absurd c27 (by first | omega | decide | simp_all)) (fun _ => ?_) | refine J.icmp_ge_nx C (by omega) dX6_does_27 (tgt := 88) (by decide) (fun c27 => absurd c27 (by first | omega | decide | simp_all)) (fun _ => ?_) | refine J.icmp_ge C dX6_does_27 (tgt := 88) (by decide) (fun c27 => absurd c27 (by first | omega | decide | simp_all)) (fun _ => ?_)
      refine J.aload_n C dX6_does_30 rfl ?_
      refine J.aload_n C dX6_does_31 rfl ?_
      refine J.getR C flX6_does_70 (by first | decide | omega) rfl (by exact rfl) dX6_does_32 ?_
      refine J.iload C dX6_does_35 rfl ?_
      refine J.ia C (by first | exact rfl | assumption) (by first | exact rfl | exact rfl) (by first | (have h_ln := ln_all; omega) | omega) (by first | ((repeat (first | refine up2_rd (by decide) ?_ | refine up2_rm (by decide) ?_ | refine up3_rd (by decide) ?_)) <;> (first | exact up2_s _ _ _ _ | assumption | exact rfl))) dX6_does_37 ?_
      refine J.cVDi (q := (RX6, TX6, 25)) (ci := 6) C (ok_X6_pair l V _ _ hN.1 ok.1 h4 ht1) gX6_does_X6_pair rfl mfX6_pair rfl (by decide) (by decide) (by first | decide | omega) rfl rfl rfl rfl (Nat.le_of_ble_eq_true rfl) dX6_does_38 (Nat.le_refl _) (Nat.le_refl _) ?_
      refine J.istore (ls' := [(0, _), (1, _), (2, _), (3, _), (4, _), (5, _)]) C dX6_does_41 (by decide) rfl ?_
      refine J.iload_n C dX6_does_43 rfl ?_
      refine J.iload C dX6_does_44 rfl ?_
      refine J.bipush C dX6_does_46 (v := (nI 10)) (by decide) ?_
      first | refine J.idiv_n C (by omega) (by omega) (by omega) dX6_does_48 ?_ | refine J.idiv C (by decide) dX6_does_48 ?_
      rw [show (10 * (prT t.1 (tr k)).1 + (prT t.1 (tr k)).2) / 10 = (prT t.1 (tr k)).1 by omega]
      refine J.cSDi C (ok_X6_at l V (by omega) (by omega) _ _) gX6_does_X6_at rfl mfX6_at (by decide) (by decide) rfl rfl (Nat.le_of_ble_eq_true rfl) dX6_does_49 (Nat.le_refl _) (Nat.le_refl _) ?_
      refine J.iload_n C dX6_does_52 rfl ?_
      refine J.iload C dX6_does_53 rfl ?_
      refine J.bipush C dX6_does_55 (v := (nI 10)) (by decide) ?_
      first | refine J.irem_n C (by omega) (by omega) (by omega) dX6_does_57 ?_ | refine J.irem C (by decide) dX6_does_57 ?_
      rw [show (10 * (prT t.1 (tr k)).1 + (prT t.1 (tr k)).2) % 10 = (prT t.1 (tr k)).2 by omega]
      refine J.cSDi C (ok_X6_at l V (by omega) (by omega) _ _) gX6_does_X6_at rfl mfX6_at (by decide) (by decide) rfl rfl (Nat.le_of_ble_eq_true rfl) dX6_does_58 (Nat.le_refl _) (Nat.le_refl _) ?_
      refine J.icmp_le_n C (cb_lt _) (cb_lt _) dX6_does_61 (tgt := 82) (by decide) (fun c61t => ?_) (fun c61f => ?_)
      · refine J.iinc (ls' := [(0, _), (1, _), (2, _), (3, _), (4, _), (5, _)]) C dX6_does_82 rfl (by first | exact nI_inc _ 1 | exact rfl) (by decide) rfl ?_
        refine J.goto C dX6_does_85 (tgt := 24) (by decide) ?_
        exact ih (k + 1) _ [(5, _)] (by omega) (by rw [gk_m, ← hv1]; exact stp0_f c61t) (Or.inr ⟨_, rfl⟩)
      · refine J.iload_n C dX6_does_64 rfl ?_
        refine J.iconst C dX6_does_65 (v := (nI 1)) (by decide) ?_
        refine J.iload C dX6_does_66 rfl ?_
        refine J.bipush C dX6_does_68 (v := (nI 10)) (by decide) ?_
        first | refine J.idiv_n C (by omega) (by omega) (by omega) dX6_does_70 ?_ | refine J.idiv C (by decide) dX6_does_70 ?_
        rw [show (10 * (prT t.1 (tr k)).1 + (prT t.1 (tr k)).2) / 10 = (prT t.1 (tr k)).1 by omega]
        refine J.ishl C dX6_does_71 ?_
        refine J.ixor C dX6_does_72 ?_
        refine J.iconst C dX6_does_73 (v := (nI 1)) (by decide) ?_
        refine J.iload C dX6_does_74 rfl ?_
        refine J.bipush C dX6_does_76 (v := (nI 10)) (by decide) ?_
        first | refine J.irem_n C (by omega) (by omega) (by omega) dX6_does_78 ?_ | refine J.irem C (by decide) dX6_does_78 ?_
        rw [show (10 * (prT t.1 (tr k)).1 + (prT t.1 (tr k)).2) % 10 = (prT t.1 (tr k)).2 by omega]
        refine J.ishl C dX6_does_79 ?_
        refine J.ixor C dX6_does_80 ?_
        rw [nI_pow (by omega), nI_pow (by omega), nI_xor, nI_xor]
        refine J.istore_n (ls' := [(0, _), (1, _), (2, _), (3, _), (4, _), (5, _)]) C dX6_does_81 (by decide) rfl ?_
        refine J.iinc (ls' := [(0, _), (1, _), (2, _), (3, _), (4, _), (5, _)]) C dX6_does_82 rfl (by first | exact nI_inc _ 1 | exact rfl) (by decide) rfl ?_
        refine J.goto C dX6_does_85 (tgt := 24) (by decide) ?_
        exact ih (k + 1) _ [(5, _)] (by omega) (by rw [gk_m, ← hv1]; exact stp0_t c61f) (Or.inr ⟨_, rfl⟩)
    exact J.lsx (ex := y) rfl hl
set_option maxHeartbeats 4000000 in
set_option maxRecDepth 100000 in
theorem lp_X6_does {l : Launch} {X : Cx} {V : Vx} {P : Option Value → (Nat → va_E) → Prop} {I : Nat → Nat → Int32} {L : Nat → Nat → Int64} (C : CX l X V RX6 cX6_does 6 wsX6_does 3 0 0 (some .boolean)) {t : Nt} {n : Nat} {tr : Nat → Nat} (hN : NM I t) (ok : okN t) (h4 : t.1 ≤ 4) (hn : n ≤ 10) (htr : ∀ k, k < n → tr k < nPr t.1 ∧ I 104 k = nI (tr k)) (hP : P (some (.int (bI (tb (Srt t (tc t.1 tr) n))))) (mm V I L)) : ∀ (k r : Nat), r + k = 2 ^ t.1 → (∀ q, q < r → Ris t.1 (gk (tc t.1 tr) (-1) (gk t.2.2 (-1) q t.2.1) n)) → E X V P 6 2 [(0, .ref (ad V 85)), (1, .int (nI n)), (2, .int (nI r))] [] I L := by
  intro k
  have h8 := p2_le ok.2.1
  have hm := hN.2.1
  induction k with
  | zero =>
    intro r hr hb
    have e : r = 2 ^ t.1 := by omega
    subst e
    refine J.iload_n C dX6_does_2 rfl ?_
    refine J.aload_n C dX6_does_3 rfl ?_
    refine J.cVDi (q := (RX6, TX6, 25)) (ci := 6) C (ok_X6_rows l V _ _ hN.1 ok.2.1) gX6_does_X6_rows rfl mfX6_rows rfl (by decide) (by decide) (by first | decide | omega) rfl rfl rfl rfl (Nat.le_of_ble_eq_true rfl) dX6_does_4 (Nat.le_refl _) (Nat.le_refl _) ?_
    first | refine J.icmp_ge_n C (by omega) (by omega) dX6_does_7 (tgt := 104) (by decide) (fun _ => ?_) (fun c7 => absurd c7 (by first | omega | decide | simp_all)) | refine J.icmp_ge_xn C (by omega) dX6_does_7 (tgt := 104) (by decide) (fun _ => ?_) (fun c7 => absurd c7 (by first | omega | decide | simp_all)) | refine J.icmp_ge_nx C (by omega) dX6_does_7 (tgt := 104) (by decide) (fun _ => ?_) (fun c7 => absurd c7 (by first | omega | decide | simp_all)) | refine J.icmp_ge C dX6_does_7 (tgt := 104) (by decide) (fun _ => ?_) (fun c7 => absurd c7 (by first | omega | decide | simp_all))
    refine J.iconst C dX6_does_104 (v := (nI 1)) (by decide) ?_
    exact J.zret C dX6_does_105 (by first | exact bI_nar _ | rfl | decide | assumption) (by rw [tb_1 (P := Srt t (tc t.1 tr) n) hb] at hP; exact hP)
  | succ k ih =>
    intro r hr hb
    have hg := gk_lt ok (s := -1) (r := r) (by omega) t.2.1 (Nat.le_refl _)
    have hg2 := gk_lt2 (n := t.1) (c := n) (f := tc t.1 tr) (fun i hi => tc_ok ok.1 h4 (htr i hi).1) hg n (Nat.le_refl _)
    refine J.iload_n C dX6_does_2 rfl ?_
    refine J.aload_n C dX6_does_3 rfl ?_
    refine J.cVDi (q := (RX6, TX6, 25)) (ci := 6) C (ok_X6_rows l V _ _ hN.1 ok.2.1) gX6_does_X6_rows rfl mfX6_rows rfl (by decide) (by decide) (by first | decide | omega) rfl rfl rfl rfl (Nat.le_of_ble_eq_true rfl) dX6_does_4 (Nat.le_refl _) (Nat.le_refl _) ?_
    first | refine J.icmp_ge_n C (by omega) (by omega) dX6_does_7 (tgt := 104) (by decide) (fun c7 => absurd c7 (by first | omega | decide | simp_all)) (fun _ => ?_) | refine J.icmp_ge_xn C (by omega) dX6_does_7 (tgt := 104) (by decide) (fun c7 => absurd c7 (by first | omega | decide | simp_all)) (fun _ => ?_) | refine J.icmp_ge_nx C (by omega) dX6_does_7 (tgt := 104) (by decide) (fun c7 => absurd c7 (by first | omega | decide | simp_all)) (fun _ => ?_) | refine J.icmp_ge C dX6_does_7 (tgt := 104) (by decide) (fun c7 => absurd c7 (by first | omega | decide | simp_all)) (fun _ => ?_)
    refine J.aload_n C dX6_does_10 rfl ?_
    refine J.iload_n C dX6_does_11 rfl ?_
    refine J.aload_n C dX6_does_12 rfl ?_
    refine J.getI C flX6_does_79 (by first | decide | omega) rfl (by exact rfl) (by first | ((repeat (first | refine up2_rd (by decide) ?_ | refine up2_rm (by decide) ?_ | refine up3_rd (by decide) ?_)) <;> (first | exact up2_s _ _ _ _ | assumption | exact rfl))) dX6_does_13 ?_
    refine J.iconst C dX6_does_16 (v := (-1)) (by decide) ?_
    refine J.cVDi (q := (RX6, TX6, 25)) (ci := 6) C (ok_X6_goes_z l V _ _ toInt_m1 hN ok (by omega) (by omega)) gX6_does_X6_goes rfl mfX6_goes rfl (by decide) (by decide) (by first | decide | omega) rfl rfl rfl rfl (Nat.le_of_ble_eq_true rfl) dX6_does_17 (Nat.le_refl _) (Nat.le_refl _) ?_
    refine J.istore_n (ls' := [(0, _), (1, _), (2, _), (3, _)]) C dX6_does_20 (by decide) rfl ?_
    refine J.iconst C dX6_does_21 (v := (nI 0)) (by decide) ?_
    refine J.istore (ls' := [(0, _), (1, _), (2, _), (3, _), (4, _)]) C dX6_does_22 (by decide) rfl ?_
    refine lp_X6_does_i C hN ok h4 hn htr hg (fun y => ?_) n 0 _ [] (by omega) rfl (Or.inl rfl)
    refine J.lsx (ls' := [(0, _), (1, _), (2, _), (3, _), (4, _)]) (ex := y) rfl ?_
    refine J.aload_n C dX6_does_88 rfl ?_
    refine J.iload_n C dX6_does_89 rfl ?_
    refine J.cVDi (q := (RX6, TX6, 25)) (ci := 6) C (ok_X6_isRising l V _ _ hN.1 ok.1 ok.2.1 (by omega)) gX6_does_X6_isRising rfl mfX6_isRising rfl (by decide) (by decide) (by first | decide | omega) rfl rfl rfl rfl (Nat.le_of_ble_eq_true rfl) dX6_does_90 (Nat.le_refl _) (Nat.le_refl _) ?_
    first | refine J.if_ne_b C dX6_does_93 (tgt := 98) (by decide) (fun c93t => ?_) (fun c93f => ?_) | refine J.if_ne_n C (by omega) dX6_does_93 (tgt := 98) (by decide) (fun c93t => ?_) (fun c93f => ?_) | refine J.if_ne C dX6_does_93 (tgt := 98) (by decide) (fun c93t => ?_) (fun c93f => ?_)
    · refine J.iinc (ls' := [(0, _), (1, _), (2, _), (3, _), (4, _)]) C dX6_does_98 rfl (by first | exact nI_inc _ 1 | exact rfl) (by decide) rfl ?_
      refine J.goto C dX6_does_101 (tgt := 2) (by decide) ?_
      refine J.lsx (ls' := [(0, _), (1, _), (2, _)]) (ex := [(3, _), (4, _)]) rfl ?_
      refine ih (r + 1) (by omega) (fun q hq => ?_)
      by_cases e : q = r
      · rw [e]; exact tb_t.mp c93t
      · exact hb q (by omega)
    · refine J.iconst C dX6_does_96 (v := (nI 0)) (by decide) ?_
      exact J.zret C dX6_does_97 (by first | exact bI_nar _ | rfl | decide | assumption) (by rw [tb_0 (P := Srt t (tc t.1 tr) n) (fun z => tb_f.mp c93f (z r (by omega)))] at hP; exact hP)
set_option maxHeartbeats 4000000 in
set_option maxRecDepth 100000 in
theorem ok_X6_does (l : Launch) (V : Vx) {t : Nt} {n : Nat} {tr : Nat → Nat} (I : Nat → Nat → Int32) (L : Nat → Nat → Int64) (hN : NM I t) (ok : okN t) (h4 : t.1 ≤ 4) (hn : n ≤ 10) (htr : ∀ k, k < n → tr k < nPr t.1 ∧ I 104 k = nI (tr k)) : Di l V yX6_does wsX6_does 3 [.ref (ad V 85), .int (nI n)] I L (bI (tb (Srt t (tc t.1 tr) n))) I L := by
  refine Ok.of (cc := cX6_does) (maxL := 6) (ret := (some .boolean)) (by decide) rfl (Nat.le_of_ble_eq_true rfl) (fun X hnm C => ?_)
  have C : CX l X V RX6 cX6_does 6 wsX6_does 3 0 0 (some .boolean) := C
  refine J.cast (ls' := [(0, _), (1, _)]) rfl rfl rfl rfl ?_
  refine J.iconst C dX6_does_0 (v := (nI 0)) (by decide) ?_
  refine J.istore_n (ls' := [(0, _), (1, _), (2, _)]) C dX6_does_1 (by decide) rfl ?_
  exact lp_X6_does C hN ok h4 hn htr ⟨rfl, rfl⟩ (2 ^ t.1) 0 (by omega) (fun q hq => absurd hq (Nat.not_lt_zero q))
