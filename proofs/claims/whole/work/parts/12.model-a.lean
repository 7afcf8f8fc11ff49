/-! THE REFERENCE's small methods -/
/-- the reference's net is t -/
def NM (I : Nat → Nat → Int32) (t : Nt) : Prop := I 85 0 = nI t.1 ∧ I 85 1 = nI t.2.1 ∧ ∀ i, i < t.2.1 → I 86 i = nI (t.2.2 i).1 ∧ I 87 i = nI (t.2.2 i).2.1 ∧ I 88 i = nI (t.2.2 i).2.2.1 ∧ ((t.2.2 i).1 = 4 → I 89 i = bI (t.2.2 i).2.2.2)
set_option maxHeartbeats 4000000 in
set_option maxRecDepth 100000 in
theorem ok_X6_in (l : Launch) (V : Vx) (v lo hi : Int32) (I : Nat → Nat → Int32) (L : Nat → Nat → Int64) : Di l V yX6_in wsX6_in 1 [.int v, .int lo, .int hi] I L (bI (tb (lo.toInt ≤ v.toInt ∧ v.toInt ≤ hi.toInt))) I L := by
  refine Ok.of (cc := cX6_in) (maxL := 3) (ret := (some .boolean)) (by decide) rfl (Nat.le_of_ble_eq_true rfl) (fun X hnm C => ?_)
  have C : CX l X V RX6 cX6_in 3 wsX6_in 1 0 0 (some .boolean) := C
  refine J.cast (ls' := [(0, _), (1, _), (2, _)]) rfl rfl rfl rfl ?_
  refine J.iload_n C dX6_in_0 rfl ?_
  refine J.iload_n C dX6_in_1 rfl ?_
  refine J.icmp_lt C dX6_in_2 (tgt := 14) (by decide) (fun c2t => ?_) (fun c2f => ?_)
  · refine J.iconst C dX6_in_14 (v := (nI 0)) (by decide) ?_
    exact J.zret C dX6_in_15 (by first | exact bI_nar _ | rfl | decide | assumption) ⟨by first | (have h := Int32.lt_iff_toInt_lt.mp c2t; rw [tb_0 (fun q => by omega)]; rfl) | (have h := Int32.lt_iff_toInt_lt.mp c7t; rw [tb_0 (fun q => by omega)]; rfl) | (have h := mt Int32.lt_iff_toInt_lt.mpr c2f; have h2 := mt Int32.lt_iff_toInt_lt.mpr c7f; rw [tb_1 ⟨by omega, by omega⟩]; rfl), rfl⟩
  · refine J.iload_n C dX6_in_5 rfl ?_
    refine J.iload_n C dX6_in_6 rfl ?_
    refine J.icmp_gt C dX6_in_7 (tgt := 14) (by decide) (fun c7t => ?_) (fun c7f => ?_)
    · refine J.iconst C dX6_in_14 (v := (nI 0)) (by decide) ?_
      exact J.zret C dX6_in_15 (by first | exact bI_nar _ | rfl | decide | assumption) ⟨by first | (have h := Int32.lt_iff_toInt_lt.mp c2t; rw [tb_0 (fun q => by omega)]; rfl) | (have h := Int32.lt_iff_toInt_lt.mp c7t; rw [tb_0 (fun q => by omega)]; rfl) | (have h := mt Int32.lt_iff_toInt_lt.mpr c2f; have h2 := mt Int32.lt_iff_toInt_lt.mpr c7f; rw [tb_1 ⟨by omega, by omega⟩]; rfl), rfl⟩
    · refine J.iconst C dX6_in_10 (v := (nI 1)) (by decide) ?_
      refine J.goto C dX6_in_11 (tgt := 15) (by decide) ?_
      exact J.zret C dX6_in_15 (by first | exact bI_nar _ | rfl | decide | assumption) ⟨by first | (have h := Int32.lt_iff_toInt_lt.mp c2t; rw [tb_0 (fun q => by omega)]; rfl) | (have h := Int32.lt_iff_toInt_lt.mp c7t; rw [tb_0 (fun q => by omega)]; rfl) | (have h := mt Int32.lt_iff_toInt_lt.mpr c2f; have h2 := mt Int32.lt_iff_toInt_lt.mpr c7f; rw [tb_1 ⟨by omega, by omega⟩]; rfl), rfl⟩
theorem ok_X6_in_n (l : Launch) (V : Vx) (v : Int32) (a b : Nat) (ha : a < 2 ^ 31) (hb : b < 2 ^ 31) (I : Nat → Nat → Int32) (L : Nat → Nat → Int64) : Di l V yX6_in wsX6_in 1 [.int v, .int (nI a), .int (nI b)] I L (bI (tb ((a : Int) ≤ v.toInt ∧ v.toInt ≤ (b : Int)))) I L := by
  have h := ok_X6_in l V v (nI a) (nI b) I L
  rw [nI_ti ha, nI_ti hb] at h
  exact h
set_option maxHeartbeats 4000000 in
set_option maxRecDepth 100000 in
theorem ok_X6_at (l : Launch) (V : Vx) {v a : Nat} (hv : v < 2 ^ 31) (ha : a < 31) (I : Nat → Nat → Int32) (L : Nat → Nat → Int64) : Di l V yX6_at wsX6_at 1 [.int (nI v), .int (nI a)] I L (bI (v.testBit a)) I L := by
  refine Ok.of (cc := cX6_at) (maxL := 2) (ret := (some .int)) (by decide) rfl (Nat.le_of_ble_eq_true rfl) (fun X hnm C => ?_)
  have C : CX l X V RX6 cX6_at 2 wsX6_at 1 0 0 (some .int) := C
  refine J.cast (ls' := [(0, _), (1, _)]) rfl rfl rfl rfl ?_
  refine J.iload_n C dX6_at_0 rfl ?_
  refine J.iload_n C dX6_at_1 rfl ?_
  refine J.ishr C dX6_at_2 ?_
  refine J.iconst C dX6_at_3 (v := (nI 1)) (by decide) ?_
  refine J.iand C dX6_at_4 ?_
  exact J.iret C dX6_at_5 ⟨by rw [nI_bit hv ha], rfl⟩
set_option maxHeartbeats 4000000 in
set_option maxRecDepth 100000 in
theorem ok_X6_found (l : Launch) (V : Vx) (w : Int32) (I : Nat → Nat → Int32) (L : Nat → Nat → Int64) : Di l V yX6_found wsX6_found 1 [.ref (ad V 85), .int w] I L w (up2 I 85 18 (I 85 18 + nI 1)) L := by
  refine Ok.of (cc := cX6_found) (maxL := 2) (ret := (some .int)) (by decide) rfl (Nat.le_of_ble_eq_true rfl) (fun X hnm C => ?_)
  have C : CX l X V RX6 cX6_found 2 wsX6_found 1 0 0 (some .int) := C
  refine J.cast (ls' := [(0, _), (1, _)]) rfl rfl rfl rfl ?_
  refine J.aload_n C dX6_found_0 rfl ?_
  refine J.dup C dX6_found_1 rfl ?_
  refine J.getI C flX6_found_76 (by first | decide | omega) rfl (by exact rfl) (by first | assumption | exact rfl) dX6_found_2 ?_
  refine J.iconst C dX6_found_5 (v := (nI 1)) (by decide) ?_
  first | refine J.iadd_n C dX6_found_6 ?_ | refine J.iadd C dX6_found_6 ?_
  refine J.putI C fpX6_found_76 (by first | decide | omega) rfl (Nat.le_of_ble_eq_true rfl) (by first | exact mp_6_18 rfl | exact mp_6_18 (by assumption)) dX6_found_7 ?_
  refine J.iload_n C dX6_found_10 rfl ?_
  exact J.iret C dX6_found_11 ⟨rfl, rfl⟩
set_option maxHeartbeats 4000000 in
set_option maxRecDepth 100000 in
theorem ok_X6_isComparer (l : Launch) (V : Vx) (v : Int32) {m : Nat} (I : Nat → Nat → Int32) (L : Nat → Nat → Int64) (hm : I 85 1 = nI m) (hm2 : m ≤ 40) : Di l V yX6_isComparer wsX6_isComparer 2 [.ref (ad V 85), .int v] I L (bI (tb (0 ≤ v.toInt ∧ v.toInt < (m : Int)))) I L := by
  rcases Nat.eq_zero_or_pos m with h0 | h0
  · subst h0
    have h := (show nI 0 - nI 1 = -1 from by decide)
    refine Ok.of (cc := cX6_isComparer) (maxL := 2) (ret := (some .boolean)) (by decide) rfl (Nat.le_of_ble_eq_true rfl) (fun X hnm C => ?_)
    have C : CX l X V RX6 cX6_isComparer 2 wsX6_isComparer 2 0 0 (some .boolean) := C
    refine J.cast (ls' := [(0, _), (1, _)]) rfl rfl rfl rfl ?_
    refine J.iload_n C dX6_isComparer_0 rfl ?_
    refine J.iconst C dX6_isComparer_1 (v := (nI 0)) (by decide) ?_
    refine J.aload_n C dX6_isComparer_2 rfl ?_
    refine J.getI C flX6_isComparer_79 (by first | decide | omega) rfl (by exact rfl) (by first | assumption | exact rfl) dX6_isComparer_3 ?_
    refine J.iconst C dX6_isComparer_6 (v := (nI 1)) (by decide) ?_
    first | refine J.isub_n C (by omega) dX6_isComparer_7 ?_ | refine J.isub C dX6_isComparer_7 ?_
    refine J.cSDi C (ok_X6_in l V _ _ _ _ _) gX6_isComparer_X6_in rfl mfX6_in (by decide) (by decide) rfl rfl (Nat.le_of_ble_eq_true rfl) dX6_isComparer_8 (Nat.le_refl _) (Nat.le_refl _) ?_
    exact J.zret C dX6_isComparer_11 (by first | exact bI_nar _ | rfl | decide | assumption) ⟨by rw [h]; exact sv_congr ⟨fun q => ⟨q.1, by have := q.2; simp at this; omega⟩, fun q => ⟨q.1, by omega⟩⟩, rfl⟩
  · refine Ok.of (cc := cX6_isComparer) (maxL := 2) (ret := (some .boolean)) (by decide) rfl (Nat.le_of_ble_eq_true rfl) (fun X hnm C => ?_)
    have C : CX l X V RX6 cX6_isComparer 2 wsX6_isComparer 2 0 0 (some .boolean) := C
    refine J.cast (ls' := [(0, _), (1, _)]) rfl rfl rfl rfl ?_
    refine J.iload_n C dX6_isComparer_0 rfl ?_
    refine J.iconst C dX6_isComparer_1 (v := (nI 0)) (by decide) ?_
    refine J.aload_n C dX6_isComparer_2 rfl ?_
    refine J.getI C flX6_isComparer_79 (by first | decide | omega) rfl (by exact rfl) (by first | assumption | exact rfl) dX6_isComparer_3 ?_
    refine J.iconst C dX6_isComparer_6 (v := (nI 1)) (by decide) ?_
    first | refine J.isub_n C (by omega) dX6_isComparer_7 ?_ | refine J.isub C dX6_isComparer_7 ?_
    refine J.cSDi C (ok_X6_in_n l V _ _ _ (by decide) (by omega) _ _) gX6_isComparer_X6_in rfl mfX6_in (by decide) (by decide) rfl rfl (Nat.le_of_ble_eq_true rfl) dX6_isComparer_8 (Nat.le_refl _) (Nat.le_refl _) ?_
    exact J.zret C dX6_isComparer_11 (by first | exact bI_nar _ | rfl | decide | assumption) ⟨sv_congr ⟨fun q => ⟨by omega, by omega⟩, fun q => ⟨by omega, by omega⟩⟩, rfl⟩
set_option maxHeartbeats 4000000 in
set_option maxRecDepth 100000 in
theorem ok_X6_isLane (l : Launch) (V : Vx) (v : Int32) {m : Nat} (I : Nat → Nat → Int32) (L : Nat → Nat → Int64) (hm : I 85 0 = nI m) (h1 : 1 ≤ m) (hm2 : m ≤ 8) : Di l V yX6_isLane wsX6_isLane 2 [.ref (ad V 85), .int v] I L (bI (tb (0 ≤ v.toInt ∧ v.toInt < (m : Int)))) I L := by
  refine Ok.of (cc := cX6_isLane) (maxL := 2) (ret := (some .boolean)) (by decide) rfl (Nat.le_of_ble_eq_true rfl) (fun X hnm C => ?_)
  have C : CX l X V RX6 cX6_isLane 2 wsX6_isLane 2 0 0 (some .boolean) := C
  refine J.cast (ls' := [(0, _), (1, _)]) rfl rfl rfl rfl ?_
  refine J.iload_n C dX6_isLane_0 rfl ?_
  refine J.iconst C dX6_isLane_1 (v := (nI 0)) (by decide) ?_
  refine J.aload_n C dX6_isLane_2 rfl ?_
  refine J.getI C flX6_isLane_7 (by first | decide | omega) rfl (by exact rfl) (by first | assumption | exact rfl) dX6_isLane_3 ?_
  refine J.iconst C dX6_isLane_6 (v := (nI 1)) (by decide) ?_
  first | refine J.isub_n C (by omega) dX6_isLane_7 ?_ | refine J.isub C dX6_isLane_7 ?_
  refine J.cSDi C (ok_X6_in_n l V _ _ _ (by decide) (by omega) _ _) gX6_isLane_X6_in rfl mfX6_in (by decide) (by decide) rfl rfl (Nat.le_of_ble_eq_true rfl) dX6_isLane_8 (Nat.le_refl _) (Nat.le_refl _) ?_
  exact J.zret C dX6_isLane_11 (by first | exact bI_nar _ | rfl | decide | assumption) ⟨sv_congr ⟨fun q => ⟨by omega, by omega⟩, fun q => ⟨by omega, by omega⟩⟩, rfl⟩
set_option maxHeartbeats 4000000 in
set_option maxRecDepth 100000 in
theorem ok_X6_rows (l : Launch) (V : Vx) {n : Nat} (I : Nat → Nat → Int32) (L : Nat → Nat → Int64) (hm : I 85 0 = nI n) (hm2 : n ≤ 8) : Di l V yX6_rows wsX6_rows 1 [.ref (ad V 85)] I L (nI (2 ^ n)) I L := by
  refine Ok.of (cc := cX6_rows) (maxL := 1) (ret := (some .int)) (by decide) rfl (Nat.le_of_ble_eq_true rfl) (fun X hnm C => ?_)
  have C : CX l X V RX6 cX6_rows 1 wsX6_rows 1 0 0 (some .int) := C
  refine J.cast (ls' := [(0, _)]) rfl rfl rfl rfl ?_
  refine J.iconst C dX6_rows_0 (v := (nI 1)) (by decide) ?_
  refine J.aload_n C dX6_rows_1 rfl ?_
  refine J.getI C flX6_rows_7 (by first | decide | omega) rfl (by exact rfl) (by first | assumption | exact rfl) dX6_rows_2 ?_
  refine J.ishl C dX6_rows_5 ?_
  exact J.iret C dX6_rows_6 ⟨by rw [nI_pow (by omega)], rfl⟩
set_option maxHeartbeats 4000000 in
set_option maxRecDepth 100000 in
theorem ok_X6_changes (l : Launch) (V : Vx) (c : Cmp) {i : Nat} (how : Int32) (I : Nat → Nat → Int32) (L : Nat → Nat → Int64) (hi : i < 40) (hk : I 86 i = nI c.1) (h4 : c.1 ≤ 4) (hon : c.1 = 4 → I 89 i = bI c.2.2.2) : Di l V yX6_changes wsX6_changes 1 [.ref (ad V 85), .int (nI i), .int how] I L (bI (chg c how.toInt)) I L := by
  refine Ok.of (cc := cX6_changes) (maxL := 3) (ret := (some .boolean)) (by decide) rfl (Nat.le_of_ble_eq_true rfl) (fun X hnm C => ?_)
  have C : CX l X V RX6 cX6_changes 3 wsX6_changes 1 0 0 (some .boolean) := C
  refine J.cast (ls' := [(0, _), (1, _), (2, _)]) rfl rfl rfl rfl ?_
  refine J.aload_n C dX6_changes_0 rfl ?_
  refine J.getR C flX6_changes_13 (by first | decide | omega) rfl (by exact rfl) dX6_changes_1 ?_
  refine J.iload_n C dX6_changes_4 rfl ?_
  refine J.ia C (by first | exact rfl | assumption) (by first | exact rfl | exact rfl) (by first | (have h_ln := ln_all; omega) | omega) (by first | exact hk | assumption | exact rfl) dX6_changes_5 ?_
  rcases (show c.1 = 0 ∨ c.1 = 1 ∨ c.1 = 2 ∨ c.1 = 3 ∨ c.1 = 4 by omega) with e | e | e | e | e <;> rw [e]
  · refine J.tabIn C dX6_changes_6 (by decide) (by decide) (off := 30) (by decide) (tgt := 36) (by decide) ?_
    refine J.iload_n C dX6_changes_36 rfl ?_
    first | refine J.if_le_n C (by omega) dX6_changes_37 (tgt := 44) (by decide) (fun c37t => ?_) (fun c37f => ?_) | refine J.if_le_z C dX6_changes_37 (tgt := 44) (by decide) (fun c37t => ?_) (fun c37f => ?_)
    · refine J.iconst C dX6_changes_44 (v := (nI 0)) (by decide) ?_
      exact J.zret C dX6_changes_45 (by first | exact bI_nar _ | rfl | decide | assumption) ⟨by first | exact rb_t (by simp only [chg, chgK, actK, e]; simp; omega) | exact rb_f (by simp only [chg, chgK, actK, e]; simp; omega), rfl⟩
    · refine J.iconst C dX6_changes_40 (v := (nI 1)) (by decide) ?_
      refine J.goto C dX6_changes_41 (tgt := 45) (by decide) ?_
      exact J.zret C dX6_changes_45 (by first | exact bI_nar _ | rfl | decide | assumption) ⟨by first | exact rb_t (by simp only [chg, chgK, actK, e]; simp; omega) | exact rb_f (by simp only [chg, chgK, actK, e]; simp; omega), rfl⟩
  · refine J.tabIn C dX6_changes_6 (by decide) (by decide) (off := 40) (by decide) (tgt := 46) (by decide) ?_
    refine J.iload_n C dX6_changes_46 rfl ?_
    refine J.if_ge_z C dX6_changes_47 (tgt := 54) (by decide) (fun c47t => ?_) (fun c47f => ?_)
    · refine J.iconst C dX6_changes_54 (v := (nI 0)) (by decide) ?_
      exact J.zret C dX6_changes_55 (by first | exact bI_nar _ | rfl | decide | assumption) ⟨by first | exact rb_t (by simp only [chg, chgK, actK, e]; simp; omega) | exact rb_f (by simp only [chg, chgK, actK, e]; simp; omega), rfl⟩
    · refine J.iconst C dX6_changes_50 (v := (nI 1)) (by decide) ?_
      refine J.goto C dX6_changes_51 (tgt := 55) (by decide) ?_
      exact J.zret C dX6_changes_55 (by first | exact bI_nar _ | rfl | decide | assumption) ⟨by first | exact rb_t (by simp only [chg, chgK, actK, e]; simp; omega) | exact rb_f (by simp only [chg, chgK, actK, e]; simp; omega), rfl⟩
  · refine J.tabIn C dX6_changes_6 (by decide) (by decide) (off := 50) (by decide) (tgt := 56) (by decide) ?_
    refine J.iconst C dX6_changes_56 (v := (nI 0)) (by decide) ?_
    exact J.zret C dX6_changes_57 (by first | exact bI_nar _ | rfl | decide | assumption) ⟨rb_f (by simp [chg, chgK, actK, e]), rfl⟩
  · refine J.tabIn C dX6_changes_6 (by decide) (by decide) (off := 52) (by decide) (tgt := 58) (by decide) ?_
    refine J.iconst C dX6_changes_58 (v := (nI 1)) (by decide) ?_
    exact J.zret C dX6_changes_59 (by first | exact bI_nar _ | rfl | decide | assumption) ⟨rb_t (by simp [chg, chgK, actK, e]), rfl⟩
  · refine J.tabOut C dX6_changes_6 (Or.inr (by decide)) (tgt := 60) (by decide) ?_
    refine J.aload_n C dX6_changes_60 rfl ?_
    refine J.getR C flX6_changes_23 (by first | decide | omega) rfl (by exact rfl) dX6_changes_61 ?_
    refine J.iload_n C dX6_changes_64 rfl ?_
    refine J.za C (by first | exact rfl | assumption) (by first | exact rfl | exact rfl) (by first | (have h_ln := ln_all; omega) | omega) (by first | exact hon e | assumption | exact rfl) dX6_changes_65 ?_
    first | refine J.if_eq_b C dX6_changes_66 (tgt := 77) (by decide) (fun c66t => ?_) (fun c66f => ?_) | refine J.if_eq_n C (by omega) dX6_changes_66 (tgt := 77) (by decide) (fun c66t => ?_) (fun c66f => ?_) | refine J.if_eq C dX6_changes_66 (tgt := 77) (by decide) (fun c66t => ?_) (fun c66f => ?_)
    · refine J.iconst C dX6_changes_77 (v := (nI 0)) (by decide) ?_
      exact J.zret C dX6_changes_78 (by first | exact bI_nar _ | rfl | decide | assumption) ⟨by first | exact rb_t (by simp only [chg, chgK, actK, e]; simp [*]; try omega) | exact rb_f (by simp only [chg, chgK, actK, e]; simp [*]; try omega), rfl⟩
    · refine J.iload_n C dX6_changes_69 rfl ?_
      first | refine J.if_le_n C (by omega) dX6_changes_70 (tgt := 77) (by decide) (fun c70t => ?_) (fun c70f => ?_) | refine J.if_le_z C dX6_changes_70 (tgt := 77) (by decide) (fun c70t => ?_) (fun c70f => ?_)
      · refine J.iconst C dX6_changes_77 (v := (nI 0)) (by decide) ?_
        exact J.zret C dX6_changes_78 (by first | exact bI_nar _ | rfl | decide | assumption) ⟨by first | exact rb_t (by simp only [chg, chgK, actK, e]; simp [*]; try omega) | exact rb_f (by simp only [chg, chgK, actK, e]; simp [*]; try omega), rfl⟩
      · refine J.iconst C dX6_changes_73 (v := (nI 1)) (by decide) ?_
        refine J.goto C dX6_changes_74 (tgt := 78) (by decide) ?_
        exact J.zret C dX6_changes_78 (by first | exact bI_nar _ | rfl | decide | assumption) ⟨by first | exact rb_t (by simp only [chg, chgK, actK, e]; simp [*]; try omega) | exact rb_f (by simp only [chg, chgK, actK, e]; simp [*]; try omega), rfl⟩
theorem stp_f1 {c : Cmp} {v : Nat} (h : chg c (bI (v.testBit c.2.1) - bI (v.testBit c.2.2.1)).toInt = false) : v = stp c v := by
  rw [bI_hw] at h
  unfold stp
  rw [if_neg (fun q => by rw [h] at q; exact absurd q.1 (by decide))]
theorem stp_f2 {c : Cmp} {v : Nat} (h : bI (v.testBit c.2.1) - bI (v.testBit c.2.2.1) = 0) : v = stp c v := by
  have h2 := bI_hw v c.2.1 c.2.2.1
  rw [h] at h2
  unfold stp
  rw [if_neg (fun q => q.2 h2.symm)]
theorem stp_t {c : Cmp} {v : Nat} (h : chg c (bI (v.testBit c.2.1) - bI (v.testBit c.2.2.1)).toInt = true) (h2 : ¬ bI (v.testBit c.2.1) - bI (v.testBit c.2.2.1) = 0) : v ^^^ 2 ^ c.2.1 ^^^ 2 ^ c.2.2.1 = stp c v := by
  have h3 := bI_hw v c.2.1 c.2.2.1
  rw [h3] at h
  unfold stp
  rw [if_pos ⟨h, fun q => h2 (Int32.toInt_inj.mp (by rw [h3, q]; rfl))⟩]
theorem gk_s {f : Nat → Cmp} {s : Int} {v i : Nat} (h : (i : Int) = s) : gk f s v (i + 1) = gk f s v i := by simp [gk, h]
theorem gk_n {f : Nat → Cmp} {s : Int} {v i : Nat} (h : ¬ (i : Int) = s) : gk f s v (i + 1) = stp (f i) (gk f s v i) := by simp [gk, h]
set_option maxHeartbeats 4000000 in
set_option maxRecDepth 100000 in
theorem lp_X6_goes {l : Launch} {X : Cx} {V : Vx} {P : Option Value → (Nat → va_E) → Prop} {I : Nat → Nat → Int32} {L : Nat → Nat → Int64} (C : CX l X V RX6 cX6_goes 7 wsX6_goes 2 0 0 (some .int)) {t : Nt} {row to : Nat} {s : Int32} (hN : NM I t) (ok : okN t) (hto : to ≤ t.2.1) (hr : row < 2 ^ t.1) (hP : P (some (.int (nI (gk t.2.2 s.toInt row to)))) (mm V I L)) : ∀ (k i w : Nat), i + k = to → w = gk t.2.2 s.toInt row i → E X V P 7 6 [(0, .ref (ad V 85)), (1, .int (nI row)), (2, .int (nI to)), (3, .int s), (4, .int (nI w)), (5, .int (nI i))] [] I L := by
  intro k
  have h40 := ok.2.2.1
  have h8 := p2_le ok.2.1
  induction k with
  | zero =>
    intro i w hi hw
    have e : i = to := by omega
    subst e
    refine J.iload C dX6_goes_6 rfl ?_
    refine J.iload_n C dX6_goes_8 rfl ?_
    first | refine J.icmp_ge_n C (by omega) (by omega) dX6_goes_9 (tgt := 94) (by decide) (fun _ => ?_) (fun c9 => absurd c9 (by first | omega | decide | simp_all)) | refine J.icmp_ge_xn C (by omega) dX6_goes_9 (tgt := 94) (by decide) (fun _ => ?_) (fun c9 => absurd c9 (by first | omega | decide | simp_all)) | refine J.icmp_ge_nx C (by omega) dX6_goes_9 (tgt := 94) (by decide) (fun _ => ?_) (fun c9 => absurd c9 (by first | omega | decide | simp_all)) | refine J.icmp_ge C dX6_goes_9 (tgt := 94) (by decide) (fun _ => ?_) (fun c9 => absurd c9 (by first | omega | decide | simp_all))
    refine J.iload C dX6_goes_94 rfl ?_
    exact J.iret C dX6_goes_96 (by rw [hw]; exact hP)
  | succ k ih =>
    intro i w hi hw
    have hg := gk_lt ok (s := s.toInt) hr i (by omega)
    obtain ⟨hc1, hc2, hc3, hc4⟩ := ok.2.2.2 i (by omega)
    have hl8 := ok.2.1
    rw [← hw] at hg
    have hst : gk t.2.2 s.toInt row i = w := hw.symm
    subst hw
    refine J.iload C dX6_goes_6 rfl ?_
    refine J.iload_n C dX6_goes_8 rfl ?_
    first | refine J.icmp_ge_n C (by omega) (by omega) dX6_goes_9 (tgt := 94) (by decide) (fun c9 => absurd c9 (by first | omega | decide | simp_all)) (fun _ => ?_) | refine J.icmp_ge_xn C (by omega) dX6_goes_9 (tgt := 94) (by decide) (fun c9 => absurd c9 (by first | omega | decide | simp_all)) (fun _ => ?_) | refine J.icmp_ge_nx C (by omega) dX6_goes_9 (tgt := 94) (by decide) (fun c9 => absurd c9 (by first | omega | decide | simp_all)) (fun _ => ?_) | refine J.icmp_ge C dX6_goes_9 (tgt := 94) (by decide) (fun c9 => absurd c9 (by first | omega | decide | simp_all)) (fun _ => ?_)
    refine J.iload C dX6_goes_12 rfl ?_
    refine J.aload_n C dX6_goes_14 rfl ?_
    refine J.getR C flX6_goes_17 (by first | decide | omega) rfl (by exact rfl) dX6_goes_15 ?_
    refine J.iload C dX6_goes_18 rfl ?_
    refine J.ia C (by first | exact rfl | assumption) (by first | exact rfl | exact rfl) (by first | (have h_ln := ln_all; omega) | omega) (by first | exact (hN.2.2 i (by omega)).2.1 | assumption | exact rfl) dX6_goes_20 ?_
    refine J.cSDi C (ok_X6_at l V (by omega) (by omega) _ _) gX6_goes_X6_at rfl mfX6_at (by decide) (by decide) rfl rfl (Nat.le_of_ble_eq_true rfl) dX6_goes_21 (Nat.le_refl _) (Nat.le_refl _) ?_
    refine J.iload C dX6_goes_24 rfl ?_
    refine J.aload_n C dX6_goes_26 rfl ?_
    refine J.getR C flX6_goes_20 (by first | decide | omega) rfl (by exact rfl) dX6_goes_27 ?_
    refine J.iload C dX6_goes_30 rfl ?_
    refine J.ia C (by first | exact rfl | assumption) (by first | exact rfl | exact rfl) (by first | (have h_ln := ln_all; omega) | omega) (by first | exact (hN.2.2 i (by omega)).2.2.1 | assumption | exact rfl) dX6_goes_32 ?_
    refine J.cSDi C (ok_X6_at l V (by omega) (by omega) _ _) gX6_goes_X6_at rfl mfX6_at (by decide) (by decide) rfl rfl (Nat.le_of_ble_eq_true rfl) dX6_goes_33 (Nat.le_refl _) (Nat.le_refl _) ?_
    first | refine J.isub_n C (by omega) dX6_goes_36 ?_ | refine J.isub C dX6_goes_36 ?_
    refine J.istore (ls' := [(0, _), (1, _), (2, _), (3, _), (4, _), (5, _), (6, _)]) C dX6_goes_37 (by decide) rfl ?_
    refine J.iload C dX6_goes_39 rfl ?_
    refine J.iload_n C dX6_goes_41 rfl ?_
    first | refine J.icmp_eq_n C (by omega) (by omega) dX6_goes_42 (tgt := 88) (by decide) (fun c42t => ?_) (fun c42f => ?_) | refine J.icmp_eq_xn C (by omega) dX6_goes_42 (tgt := 88) (by decide) (fun c42t => ?_) (fun c42f => ?_) | refine J.icmp_eq_nx C (by omega) dX6_goes_42 (tgt := 88) (by decide) (fun c42t => ?_) (fun c42f => ?_) | refine J.icmp_eq C dX6_goes_42 (tgt := 88) (by decide) (fun c42t => ?_) (fun c42f => ?_)
    · refine J.iinc (ls' := [(0, _), (1, _), (2, _), (3, _), (4, _), (5, _), (6, _)]) C dX6_goes_88 rfl (by first | exact nI_inc _ 1 | exact rfl) (by decide) rfl ?_
      refine J.goto C dX6_goes_91 (tgt := 6) (by decide) ?_
      refine J.lsx (ls' := [(0, _), (1, _), (2, _), (3, _), (4, _), (5, _)]) (ex := [(6, _)]) rfl ?_
      exact ih (i + 1) _ (by omega) (by first | exact (gk_s c42t).symm | exact (stp_f1 c53t).trans (gk_n c42f).symm | exact (stp_f2 c58f).trans (gk_n c42f).symm | exact (stp_t c53f c58t).trans (gk_n c42f).symm)
    · refine J.aload_n C dX6_goes_45 rfl ?_
      refine J.iload C dX6_goes_46 rfl ?_
      refine J.iload C dX6_goes_48 rfl ?_
      refine J.cVDi (q := (RX6, TX6, 25)) (ci := 6) C (ok_X6_changes l V (t.2.2 i) _ _ _ (by omega) (hN.2.2 i (by omega)).1 hc1 (hN.2.2 i (by omega)).2.2.2) gX6_goes_X6_changes rfl mfX6_changes rfl (by decide) (by decide) (by first | decide | omega) rfl rfl rfl rfl (Nat.le_of_ble_eq_true rfl) dX6_goes_50 (Nat.le_refl _) (Nat.le_refl _) ?_
      first | refine J.if_eq_b C dX6_goes_53 (tgt := 88) (by decide) (fun c53t => ?_) (fun c53f => ?_) | refine J.if_eq_n C (by omega) dX6_goes_53 (tgt := 88) (by decide) (fun c53t => ?_) (fun c53f => ?_) | refine J.if_eq C dX6_goes_53 (tgt := 88) (by decide) (fun c53t => ?_) (fun c53f => ?_)
      · refine J.iinc (ls' := [(0, _), (1, _), (2, _), (3, _), (4, _), (5, _), (6, _)]) C dX6_goes_88 rfl (by first | exact nI_inc _ 1 | exact rfl) (by decide) rfl ?_
        refine J.goto C dX6_goes_91 (tgt := 6) (by decide) ?_
        refine J.lsx (ls' := [(0, _), (1, _), (2, _), (3, _), (4, _), (5, _)]) (ex := [(6, _)]) rfl ?_
        exact ih (i + 1) _ (by omega) (by first | exact (gk_s c42t).symm | exact (stp_f1 c53t).trans (gk_n c42f).symm | exact (stp_f2 c58f).trans (gk_n c42f).symm | exact (stp_t c53f c58t).trans (gk_n c42f).symm)
      · refine J.iload C dX6_goes_56 rfl ?_
        refine J.if_ne C dX6_goes_58 (tgt := 64) (by decide) (fun c58t => ?_) (fun c58f => ?_)
        · refine J.iload C dX6_goes_64 rfl ?_
          refine J.iconst C dX6_goes_66 (v := (nI 1)) (by decide) ?_
          refine J.aload_n C dX6_goes_67 rfl ?_
          refine J.getR C flX6_goes_17 (by first | decide | omega) rfl (by exact rfl) dX6_goes_68 ?_
          refine J.iload C dX6_goes_71 rfl ?_
          refine J.ia C (by first | exact rfl | assumption) (by first | exact rfl | exact rfl) (by first | (have h_ln := ln_all; omega) | omega) (by first | exact (hN.2.2 i (by omega)).2.1 | assumption | exact rfl) dX6_goes_73 ?_
          refine J.ishl C dX6_goes_74 ?_
          refine J.ixor C dX6_goes_75 ?_
          refine J.iconst C dX6_goes_76 (v := (nI 1)) (by decide) ?_
          refine J.aload_n C dX6_goes_77 rfl ?_
          refine J.getR C flX6_goes_20 (by first | decide | omega) rfl (by exact rfl) dX6_goes_78 ?_
          refine J.iload C dX6_goes_81 rfl ?_
          refine J.ia C (by first | exact rfl | assumption) (by first | exact rfl | exact rfl) (by first | (have h_ln := ln_all; omega) | omega) (by first | exact (hN.2.2 i (by omega)).2.2.1 | assumption | exact rfl) dX6_goes_83 ?_
          refine J.ishl C dX6_goes_84 ?_
          refine J.ixor C dX6_goes_85 ?_
          rw [nI_pow (by omega), nI_pow (by omega), nI_xor, nI_xor]
          refine J.istore (ls' := [(0, _), (1, _), (2, _), (3, _), (4, _), (5, _), (6, _)]) C dX6_goes_86 (by decide) rfl ?_
          refine J.iinc (ls' := [(0, _), (1, _), (2, _), (3, _), (4, _), (5, _), (6, _)]) C dX6_goes_88 rfl (by first | exact nI_inc _ 1 | exact rfl) (by decide) rfl ?_
          refine J.goto C dX6_goes_91 (tgt := 6) (by decide) ?_
          refine J.lsx (ls' := [(0, _), (1, _), (2, _), (3, _), (4, _), (5, _)]) (ex := [(6, _)]) rfl ?_
          exact ih (i + 1) _ (by omega) (by first | exact (gk_s c42t).symm | exact (stp_f1 c53t).trans (gk_n c42f).symm | exact (stp_f2 c58f).trans (gk_n c42f).symm | exact (stp_t c53f c58t).trans (gk_n c42f).symm)
        · refine J.goto C dX6_goes_61 (tgt := 88) (by decide) ?_
          refine J.iinc (ls' := [(0, _), (1, _), (2, _), (3, _), (4, _), (5, _), (6, _)]) C dX6_goes_88 rfl (by first | exact nI_inc _ 1 | exact rfl) (by decide) rfl ?_
          refine J.goto C dX6_goes_91 (tgt := 6) (by decide) ?_
          refine J.lsx (ls' := [(0, _), (1, _), (2, _), (3, _), (4, _), (5, _)]) (ex := [(6, _)]) rfl ?_
          exact ih (i + 1) _ (by omega) (by first | exact (gk_s c42t).symm | exact (stp_f1 c53t).trans (gk_n c42f).symm | exact (stp_f2 c58f).trans (gk_n c42f).symm | exact (stp_t c53f c58t).trans (gk_n c42f).symm)
set_option maxHeartbeats 4000000 in
set_option maxRecDepth 100000 in
theorem ok_X6_goes (l : Launch) (V : Vx) {t : Nt} {row to : Nat} {s : Int32} (I : Nat → Nat → Int32) (L : Nat → Nat → Int64) (hN : NM I t) (ok : okN t) (hto : to ≤ t.2.1) (hr : row < 2 ^ t.1) : Di l V yX6_goes wsX6_goes 2 [.ref (ad V 85), .int (nI row), .int (nI to), .int s] I L (nI (gk t.2.2 s.toInt row to)) I L := by
  refine Ok.of (cc := cX6_goes) (maxL := 7) (ret := (some .int)) (by decide) rfl (Nat.le_of_ble_eq_true rfl) (fun X hnm C => ?_)
  have C : CX l X V RX6 cX6_goes 7 wsX6_goes 2 0 0 (some .int) := C
  refine J.cast (ls' := [(0, _), (1, _), (2, _), (3, _)]) rfl rfl rfl rfl ?_
  refine J.iload_n C dX6_goes_0 rfl ?_
  refine J.istore (ls' := [(0, _), (1, _), (2, _), (3, _), (4, _)]) C dX6_goes_1 (by decide) rfl ?_
  refine J.iconst C dX6_goes_3 (v := (nI 0)) (by decide) ?_
  refine J.istore (ls' := [(0, _), (1, _), (2, _), (3, _), (4, _), (5, _)]) C dX6_goes_4 (by decide) rfl ?_
  exact lp_X6_goes C hN ok hto hr ⟨rfl, rfl⟩ to 0 _ (by omega) rfl
