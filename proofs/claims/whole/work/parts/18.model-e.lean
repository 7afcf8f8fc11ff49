/-! THE REFERENCE's acts on the net -/
def inO (o : Option Nat) (m : Nat) : Prop := ∃ k, o = some k ∧ k < m
theorem inO_s {k m : Nat} : inO (some k) m ↔ k < m := ⟨fun ⟨q, e, h⟩ => by cases e; exact h, fun h => ⟨k, rfl, h⟩⟩
theorem inO_n {m : Nat} : ¬ inO none m := fun ⟨q, e, h⟩ => by cases e
theorem AG_in {x : Int32} {o : Option Nat} {m : Nat} (h : AG x o) : (0 ≤ x.toInt ∧ x.toInt < (m : Int)) ↔ inO o m := by
  cases o with
  | none =>
    have h : x.toInt < 0 := h
    exact ⟨fun q => by omega, fun q => absurd q inO_n⟩
  | some k =>
    obtain ⟨hk, rfl⟩ := h
    rw [nI_ti hk, inO_s]
    omega
def frm (I I' : Nat → Nat → Int32) : Prop := ∀ k, k < 85 → I' k = I k
def frmL (L L' : Nat → Nat → Int64) : Prop := ∀ k, k < 85 → L' k = L k
theorem frm_rfl {I : Nat → Nat → Int32} : frm I I := fun _ _ => rfl
theorem frmL_rfl {L : Nat → Nat → Int64} : frmL L L := fun _ _ => rfl
theorem frm_up {I I' : Nat → Nat → Int32} {k j : Nat} {x : Int32} (h : 85 ≤ k) (f : frm I I') : frm I (up2 I' k j x) := fun q hq => by rw [up2_n _ _ _ (by omega)]; exact f q hq
theorem frmL_up {L L' : Nat → Nat → Int64} {k j : Nat} {x : Int64} (h : 85 ≤ k) (f : frmL L L') : frmL L (up3 L' k j x) := fun q hq => by rw [up3_n _ _ _ (by omega)]; exact f q hq
theorem frm_be {I I' : Nat → Nat → Int32} {q : Nat} (f : frm I I') : frm I (beM I' q) := fun k hk => by rw [beM_o hk]; exact f k hk
theorem frm_rs {I I' : Nat → Nat → Int32} {q : Nat} (f : frm I I') : frm I (rsM I' q) := fun k hk => by rw [rsM_o (by omega) (by omega) (by omega) (by omega) (by omega)]; exact f k hk
theorem frm_st {I I' : Nat → Nat → Int32} {q : Nat} (f : frm I I') : frm I (stM I' q) := fun k hk => by rw [stM_o (by omega) (by omega) (by omega) (by omega) (by omega) (by omega)]; exact f k hk
theorem frm_F {I I' : Nat → Nat → Int32} (f : frm I I') : frm I (fM I') := frm_up (by decide) f
/-- a public method of the reference: from the state g it answers p.1 and comes to p.2 -/
def qM (I : Nat → Nat → Int32) (L : Nat → Nat → Int64) (p : Int32 × Sg) : Int32 → (Nat → Nat → Int32) → (Nat → Nat → Int64) → Prop := fun r I' L' => r = p.1 ∧ AbM I' L' p.2 ∧ frm I I' ∧ frmL L L'
def PM (l : Launch) (V : Vx) (y : MethodName) (ws : List Cond) (d : Nat) (av : List Value) (I : Nat → Nat → Int32) (L : Nat → Nat → Int64) (p : Int32 × Sg) : Prop := Gi l V y ws d av I L (qM I L p)
theorem qM_F {I : Nat → Nat → Int32} {L : Nat → Nat → Int64} {g : Sg} {z : Int32} (h : AbM I L g) : qM I L (z, gF g) z (fM I) L := ⟨rfl, AbM_F h, frm_F frm_rfl, frmL_rfl⟩
theorem qM_s {V : Vx} {I I' : Nat → Nat → Int32} {L L' : Nat → Nat → Int64} {p : Int32 × Sg} {r : Int32} (h : qM I L p r I' L') : ∃ r' I'' L'', (some (Value.int r) : Option Value) = some (.int r') ∧ mm V I' L' = mm V I'' L'' ∧ qM I L p r' I'' L'' := ⟨r, I', L', rfl, rfl, h⟩
theorem ok_X6_in_o (l : Launch) (V : Vx) {x : Int32} {o : Option Nat} (b : Nat) (hb : b < 2 ^ 30) (I : Nat → Nat → Int32) (L : Nat → Nat → Int64) (hx : AG x o) : Di l V yX6_in wsX6_in 1 [.int x, .int (nI 0), .int (nI b)] I L (bI (tb (inO o (b + 1)))) I L := by
  have h := ok_X6_in_n l V x 0 b (by decide) (by omega) I L
  rw [tb_congr (show ((((0 : Nat) : Int) ≤ x.toInt ∧ x.toInt ≤ (b : Int))) ↔ inO o (b + 1) from by rw [← AG_in hx]; constructor <;> intro q <;> exact ⟨by omega, by omega⟩)] at h
  exact h
theorem ok_X6_isComparer_o (l : Launch) (V : Vx) {x : Int32} {o : Option Nat} {m : Nat} (I : Nat → Nat → Int32) (L : Nat → Nat → Int64) (hx : AG x o) (hm : I 85 1 = nI m) (hm2 : m ≤ 40) : Di l V yX6_isComparer wsX6_isComparer 2 [.ref (ad V 85), .int x] I L (bI (tb (inO o m))) I L := by
  have h := ok_X6_isComparer l V x I L hm hm2
  rw [tb_congr (AG_in hx)] at h
  exact h
theorem ok_X6_isLane_o (l : Launch) (V : Vx) {x : Int32} {o : Option Nat} {m : Nat} (I : Nat → Nat → Int32) (L : Nat → Nat → Int64) (hx : AG x o) (hm : I 85 0 = nI m) (h1 : 1 ≤ m) (hm2 : m ≤ 8) : Di l V yX6_isLane wsX6_isLane 2 [.ref (ad V 85), .int x] I L (bI (tb (inO o m))) I L := by
  have h := ok_X6_isLane l V x I L hm h1 hm2
  rw [tb_congr (AG_in hx)] at h
  exact h
set_option maxHeartbeats 4000000 in
set_option maxRecDepth 100000 in
theorem ok_X6_isCrate (l : Launch) (V : Vx) {x : Int32} {o : Option Nat} (I : Nat → Nat → Int32) (L : Nat → Nat → Int64) (hx : AG x o) : Di l V yX6_isCrate wsX6_isCrate 2 [.int x] I L (bI (tb (inO o 6))) I L := by
  refine Ok.of (cc := cX6_isCrate) (maxL := 1) (ret := (some .boolean)) (by decide) rfl (Nat.le_of_ble_eq_true rfl) (fun X hnm C => ?_)
  have C : CX l X V RX6 cX6_isCrate 1 wsX6_isCrate 2 0 0 (some .boolean) := C
  refine J.cast (ls' := [(0, _)]) rfl rfl rfl rfl ?_
  refine J.iload_n C dX6_isCrate_0 rfl ?_
  refine J.iconst C dX6_isCrate_1 (v := (nI 0)) (by decide) ?_
  refine J.iconst C dX6_isCrate_2 (v := (nI 5)) (by decide) ?_
  refine J.cSDi C (ok_X6_in_o l V 5 (by decide) _ _ hx) gX6_isCrate_X6_in rfl mfX6_in (by decide) (by decide) rfl rfl (Nat.le_of_ble_eq_true rfl) dX6_isCrate_3 (Nat.le_refl _) (Nat.le_refl _) ?_
  exact J.zret C dX6_isCrate_6 (by first | exact bI_nar _ | rfl | decide | assumption) ⟨rfl, rfl⟩
set_option maxHeartbeats 4000000 in
set_option maxRecDepth 100000 in
theorem ok_X6_isSlot (l : Launch) (V : Vx) {x : Int32} {o : Option Nat} (I : Nat → Nat → Int32) (L : Nat → Nat → Int64) (hx : AG x o) : Di l V yX6_isSlot wsX6_isSlot 2 [.int x] I L (bI (tb (inO o 4))) I L := by
  refine Ok.of (cc := cX6_isSlot) (maxL := 1) (ret := (some .boolean)) (by decide) rfl (Nat.le_of_ble_eq_true rfl) (fun X hnm C => ?_)
  have C : CX l X V RX6 cX6_isSlot 1 wsX6_isSlot 2 0 0 (some .boolean) := C
  refine J.cast (ls' := [(0, _)]) rfl rfl rfl rfl ?_
  refine J.iload_n C dX6_isSlot_0 rfl ?_
  refine J.iconst C dX6_isSlot_1 (v := (nI 0)) (by decide) ?_
  refine J.iconst C dX6_isSlot_2 (v := (nI 3)) (by decide) ?_
  refine J.cSDi C (ok_X6_in_o l V 3 (by decide) _ _ hx) gX6_isSlot_X6_in rfl mfX6_in (by decide) (by decide) rfl rfl (Nat.le_of_ble_eq_true rfl) dX6_isSlot_3 (Nat.le_refl _) (Nat.le_refl _) ?_
  exact J.zret C dX6_isSlot_6 (by first | exact bI_nar _ | rfl | decide | assumption) ⟨rfl, rfl⟩
def op_undo (g : Sg) : Int32 × Sg := match g.2.1 with
  | [] => (-6, gF g)
  | t :: h => (nI h.length, (t, h, g.2.2))
noncomputable def op_lanes (g : Sg) : Option Nat → Int32 × Sg
  | some n => cond (tb (2 ≤ n ∧ n ≤ 8)) (nI g.1.2.1, gN (gB g) (n, 0, g.1.2.2)) (-1, gF g)
  | none => (-1, gF g)
noncomputable def op_comparer (g : Sg) (o a b : Option Nat) : Int32 × Sg := cond (tb (inO o 5 ∧ inO a g.1.1 ∧ inO b g.1.1)) (cond (tb (a.getD 0 < b.getD 0)) (cond (tb (g.1.2.1 = 40)) (-5, gF g) (nI (g.1.2.1 + 1), gN (gB g) (g.1.1, g.1.2.1 + 1, va_up g.1.2.2 g.1.2.1 (o.getD 0, a.getD 0, b.getD 0, tb (o.getD 0 = 4))))) (-3, gF g)) (-1, gF g)
noncomputable def op_cut (g : Sg) : Option Nat → Int32 × Sg
  | some n => cond (tb (n ≤ g.1.2.1)) (nI (g.1.2.1 - n), gN (gB g) (g.1.1, n, g.1.2.2)) (-1, gF g)
  | none => (-1, gF g)
noncomputable def op_change (g : Sg) (i o : Option Nat) : Int32 × Sg := cond (tb (inO i g.1.2.1 ∧ inO o 5)) (nI (g.1.2.2 (i.getD 0)).1, gN (gB g) (g.1.1, g.1.2.1, va_up g.1.2.2 (i.getD 0) (o.getD 0, (g.1.2.2 (i.getD 0)).2.1, (g.1.2.2 (i.getD 0)).2.2.1, tb (o.getD 0 = 4)))) (-1, gF g)
noncomputable def op_turnSwitch (g : Sg) (i : Option Nat) (b : Bool) : Int32 × Sg := cond (tb (inO i g.1.2.1)) (cond (tb ((g.1.2.2 (i.getD 0)).1 = 4)) (bI (g.1.2.2 (i.getD 0)).2.2.2, gN (gB g) (g.1.1, g.1.2.1, va_up g.1.2.2 (i.getD 0) (4, (g.1.2.2 (i.getD 0)).2.1, (g.1.2.2 (i.getD 0)).2.2.1, b))) (-4, gF g)) (-1, gF g)
noncomputable def op_keep (g : Sg) (o : Option Nat) : Int32 × Sg := cond (tb (inO o 4)) (nI g.1.2.1, (g.1, g.2.1, va_up g.2.2.1 (o.getD 0) (some g.1), g.2.2.2)) (-1, gF g)
noncomputable def op_bring (g : Sg) (o : Option Nat) : Int32 × Sg := cond (tb (inO o 4)) (match g.2.2.1 (o.getD 0) with
  | some t => (nI t.2.1, gN (gB g) t)
  | none => (-6, gF g)) (-1, gF g)
noncomputable def op_follow (g : Sg) (o : Option Nat) : Int32 × Sg := cond (tb (inO o 4)) (match g.2.2.1 (o.getD 0) with
  | some t => cond (tb (t.1 = g.1.1)) (cond (tb (g.1.2.1 + t.2.1 ≤ 40)) (nI (g.1.2.1 + t.2.1), gN (gB g) (g.1.1, g.1.2.1 + t.2.1, fun i => if i < g.1.2.1 then g.1.2.2 i else t.2.2 (i - g.1.2.1))) (-5, gF g)) (-3, gF g)
  | none => (-6, gF g)) (-1, gF g)
set_option maxHeartbeats 4000000 in
set_option maxRecDepth 100000 in
theorem ok_X6_undo (l : Launch) (V : Vx) {g : Sg} (I : Nat → Nat → Int32) (L : Nat → Nat → Int64) (h : AbM I L g) (ok : okG g) : PM l V yX6_undo wsX6_undo 2 [.ref (ad V 85)] I L (op_undo g) := by
  have hN := h.nm
  have h0 := hN.1
  have hm := hN.2.1
  have hl2 := ok.1.1
  have hl8 := ok.1.2.1
  have h40 := ok.1.2.2.1
  have hq := h.2.1.1
  have hq25 := ok.2.2.1
  have hB := AbM_be h ok
  have hb0 : beM I g.2.1.length 85 0 = nI g.1.1 := hB.1.1
  have hb1 : beM I g.2.1.length 85 1 = nI g.1.2.1 := hB.1.2.1
  unfold op_undo
  cases hh : g.2.1 with
  | nil =>
    rw [hh] at hq
    have hq : I 85 12 = nI 0 := hq
    refine Ok.of (cc := cX6_undo) (maxL := 1) (ret := (some .int)) (by decide) rfl (Nat.le_of_ble_eq_true rfl) (fun X hnm C => ?_)
    have C : CX l X V RX6 cX6_undo 1 wsX6_undo 2 0 0 (some .int) := C
    refine J.cast (ls' := [(0, _)]) rfl rfl rfl rfl ?_
    refine J.aload_n C dX6_undo_0 rfl ?_
    refine J.getI C flX6_undo_86 (by first | decide | omega) rfl (by exact rfl) (by first | ((repeat (first | refine up2_rd (by decide) ?_ | refine up2_rm (by decide) ?_ | refine up3_rd (by decide) ?_)) <;> (first | exact up2_s _ _ _ _ | assumption | exact rfl))) dX6_undo_1 ?_
    first | refine J.if_ne_b C dX6_undo_4 (tgt := 14) (by decide) (fun c4 => absurd c4 (by first | omega | decide | simp_all)) (fun _ => ?_) | refine J.if_ne_n C (by omega) dX6_undo_4 (tgt := 14) (by decide) (fun c4 => absurd c4 (by first | omega | decide | simp_all)) (fun _ => ?_) | refine J.if_ne C dX6_undo_4 (tgt := 14) (by decide) (fun c4 => absurd c4 (by first | omega | decide | simp_all)) (fun _ => ?_)
    refine J.aload_n C dX6_undo_7 rfl ?_
    refine J.bipush C dX6_undo_8 (v := (-6)) (by decide) ?_
    refine J.cVDi (q := (RX6, TX6, 25)) (ci := 6) C (ok_X6_found l V _ _ _) gX6_undo_X6_found rfl mfX6_found rfl (by decide) (by decide) (by first | decide | omega) rfl rfl rfl rfl (Nat.le_of_ble_eq_true rfl) dX6_undo_10 (Nat.le_refl _) (Nat.le_refl _) ?_
    exact J.iret C dX6_undo_13 (qM_s (qM_F h))
  | cons t r =>
    rw [hh] at hq hq25
    have hl : (t :: r).length = r.length + 1 := List.length_cons
    rw [hl] at hq hq25
    have ht : okN t := ok.2.1 t (by rw [hh]; exact List.mem_cons_self)
    have hT := h.2.1.2.2 0 t (by rw [hh]; rfl)
    rw [hh, hl, show r.length + 1 - 1 - 0 = r.length by omega] at hT
    have hr12 : rsM (up2 I 85 12 (nI r.length)) r.length 85 12 = nI r.length := by rw [rsM_85 (by decide) (by decide), up2_s]
    have e : nI (r.length + 1) - nI 1 = nI r.length := by rw [pk_sub (by omega)]; rfl
    refine Ok.of (cc := cX6_undo) (maxL := 1) (ret := (some .int)) (by decide) rfl (Nat.le_of_ble_eq_true rfl) (fun X hnm C => ?_)
    have C : CX l X V RX6 cX6_undo 1 wsX6_undo 2 0 0 (some .int) := C
    refine J.cast (ls' := [(0, _)]) rfl rfl rfl rfl ?_
    refine J.aload_n C dX6_undo_0 rfl ?_
    refine J.getI C flX6_undo_86 (by first | decide | omega) rfl (by exact rfl) (by first | ((repeat (first | refine up2_rd (by decide) ?_ | refine up2_rm (by decide) ?_ | refine up3_rd (by decide) ?_)) <;> (first | exact up2_s _ _ _ _ | assumption | exact rfl))) dX6_undo_1 ?_
    first | refine J.if_ne_b C dX6_undo_4 (tgt := 14) (by decide) (fun _ => ?_) (fun c4 => absurd c4 (by first | omega | decide | simp_all)) | refine J.if_ne_n C (by omega) dX6_undo_4 (tgt := 14) (by decide) (fun _ => ?_) (fun c4 => absurd c4 (by first | omega | decide | simp_all)) | refine J.if_ne C dX6_undo_4 (tgt := 14) (by decide) (fun _ => ?_) (fun c4 => absurd c4 (by first | omega | decide | simp_all))
    refine J.aload_n C dX6_undo_14 rfl ?_
    refine J.dup C dX6_undo_15 rfl ?_
    refine J.getI C flX6_undo_86 (by first | decide | omega) rfl (by exact rfl) (by first | ((repeat (first | refine up2_rd (by decide) ?_ | refine up2_rm (by decide) ?_ | refine up3_rd (by decide) ?_)) <;> (first | exact up2_s _ _ _ _ | assumption | exact rfl))) dX6_undo_16 ?_
    refine J.iconst C dX6_undo_19 (v := (nI 1)) (by decide) ?_
    first | refine J.isub_n C (by omega) dX6_undo_20 ?_ | refine J.isub C dX6_undo_20 ?_
    rw [show r.length + 1 - 1 = r.length by omega]
    refine J.putI C fpX6_undo_86 (by first | decide | omega) rfl (Nat.le_of_ble_eq_true rfl) (by first | exact mp_6_12 rfl | exact mp_6_12 (by assumption)) dX6_undo_21 ?_
    refine J.aload_n C dX6_undo_24 rfl ?_
    refine J.aload_n C dX6_undo_25 rfl ?_
    refine J.getI C flX6_undo_86 (by first | decide | omega) rfl (by exact rfl) (by first | ((repeat (first | refine up2_rd (by decide) ?_ | refine up2_rm (by decide) ?_ | refine up3_rd (by decide) ?_)) <;> (first | exact up2_s _ _ _ _ | assumption | exact rfl))) dX6_undo_26 ?_
    refine J.cVDv (q := (RX6, TX6, 25)) (ci := 6) C (ok_X6_restore l V _ _ (by omega)) gX6_undo_X6_restore rfl mfX6_restore rfl (by decide) (by decide) (by first | decide | omega) rfl rfl rfl rfl (Nat.le_of_ble_eq_true rfl) dX6_undo_29 (Nat.le_refl _) (Nat.le_refl _) ?_
    refine J.aload_n C dX6_undo_32 rfl ?_
    refine J.getI C flX6_undo_86 (by first | decide | omega) rfl (by exact rfl) (by first | ((repeat (first | refine up2_rd (by decide) ?_ | refine up2_rm (by decide) ?_ | refine up3_rd (by decide) ?_)) <;> (first | exact up2_s _ _ _ _ | assumption | exact rfl))) dX6_undo_33 ?_
    refine J.iret C dX6_undo_36 (qM_s ⟨rfl, ?_, (by repeat (first | exact frm_rfl | refine frm_up (by decide) ?_ | refine frm_be ?_ | refine frm_rs ?_ | refine frm_st ?_ | refine frm_F ?_)), frmL_rfl⟩)
    have k1 := rsM_in (I := up2 I 85 12 (nI r.length)) (a := r.length) (t := t) (by rw [up2_n _ _ _ (by decide), up2_n _ _ _ (by decide), up2_n _ _ _ (by decide), up2_n _ _ _ (by decide), up2_n _ _ _ (by decide), up2_n _ _ _ (by decide)]; exact hT) ht.2.2.1
    have eo : ∀ k, 90 ≤ k → rsM (up2 I 85 12 (nI r.length)) r.length k = I k := fun k hk => by rw [rsM_o (by omega) (by omega) (by omega) (by omega) (by omega), up2_n _ _ _ (by omega)]
    have e5 : ∀ j, j ≠ 0 → j ≠ 1 → j ≠ 12 → rsM (up2 I 85 12 (nI r.length)) r.length 85 j = I 85 j := fun j a b c => by rw [rsM_85 a b, up2_m _ _ _ c]
    obtain ⟨h1, ⟨h2a, h2b, h2c⟩, h3, h4, h5, h6⟩ := h
    refine ⟨k1, ⟨hr12, by show r.length ≤ 25; omega, fun j t' hj => ?_⟩, ?_, ?_, ?_, ?_⟩
    · have hj : r[j]? = some t' := hj
      have hjl : j < r.length := (List.getElem?_eq_some_iff.mp hj).1
      have q := h2c (j + 1) t' (by rw [hh]; simpa using hj)
      rw [hh, hl, show r.length + 1 - 1 - (j + 1) = r.length - 1 - j by omega] at q
      rw [eo 90 (by decide), eo 91 (by decide), eo 92 (by decide), eo 93 (by decide), eo 94 (by decide), eo 95 (by decide)]
      exact q
    · rw [eo 90 (by decide), eo 91 (by decide), eo 92 (by decide), eo 93 (by decide), eo 94 (by decide), eo 95 (by decide)]; exact h3
    · rw [eo 96 (by decide), eo 97 (by decide)]; exact h4
    · rw [e5 17 (by decide) (by decide) (by decide), eo 99 (by decide)]; exact h5
    · rw [e5 18 (by decide) (by decide) (by decide)]; exact h6
set_option maxHeartbeats 4000000 in
set_option maxRecDepth 100000 in
theorem ok_X6_lanes (l : Launch) (V : Vx) {g : Sg} {x : Int32} {o : Option Nat} (I : Nat → Nat → Int32) (L : Nat → Nat → Int64) (hx : AG x o) (h : AbM I L g) (ok : okG g) : PM l V yX6_lanes wsX6_lanes 3 [.ref (ad V 85), .int x] I L (op_lanes g o) := by
  have hN := h.nm
  have h0 := hN.1
  have hm := hN.2.1
  have hl2 := ok.1.1
  have hl8 := ok.1.2.1
  have h40 := ok.1.2.2.1
  have hq := h.2.1.1
  have hq25 := ok.2.2.1
  have hB := AbM_be h ok
  have hb0 : beM I g.2.1.length 85 0 = nI g.1.1 := hB.1.1
  have hb1 : beM I g.2.1.length 85 1 = nI g.1.2.1 := hB.1.2.1
  cases o with
  | none =>
    have hx : x.toInt < 0 := hx
    refine Ok.of (cc := cX6_lanes) (maxL := 3) (ret := (some .int)) (by decide) rfl (Nat.le_of_ble_eq_true rfl) (fun X hnm C => ?_)
    have C : CX l X V RX6 cX6_lanes 3 wsX6_lanes 3 0 0 (some .int) := C
    refine J.cast (ls' := [(0, _), (1, _)]) rfl rfl rfl rfl ?_
    refine J.iload_n C dX6_lanes_0 rfl ?_
    refine J.iconst C dX6_lanes_1 (v := (nI 2)) (by decide) ?_
    refine J.bipush C dX6_lanes_2 (v := (nI 8)) (by decide) ?_
    refine J.cSDi C (ok_X6_in_m l V _ _ _ hx (by decide) _ _) gX6_lanes_X6_in rfl mfX6_in (by decide) (by decide) rfl rfl (Nat.le_of_ble_eq_true rfl) dX6_lanes_4 (Nat.le_refl _) (Nat.le_refl _) ?_
    first | refine J.if_ne_b C dX6_lanes_7 (tgt := 16) (by decide) (fun c7 => absurd c7 (by first | omega | decide | simp_all)) (fun _ => ?_) | refine J.if_ne_n C (by omega) dX6_lanes_7 (tgt := 16) (by decide) (fun c7 => absurd c7 (by first | omega | decide | simp_all)) (fun _ => ?_) | refine J.if_ne C dX6_lanes_7 (tgt := 16) (by decide) (fun c7 => absurd c7 (by first | omega | decide | simp_all)) (fun _ => ?_)
    refine J.aload_n C dX6_lanes_10 rfl ?_
    refine J.iconst C dX6_lanes_11 (v := (-1)) (by decide) ?_
    refine J.cVDi (q := (RX6, TX6, 25)) (ci := 6) C (ok_X6_found l V _ _ _) gX6_lanes_X6_found rfl mfX6_found rfl (by decide) (by decide) (by first | decide | omega) rfl rfl rfl rfl (Nat.le_of_ble_eq_true rfl) dX6_lanes_12 (Nat.le_refl _) (Nat.le_refl _) ?_
    exact J.iret C dX6_lanes_15 (qM_s (qM_F h))
  | some k =>
    obtain ⟨hk, rfl⟩ := hx
    simp only [op_lanes]
    refine Ok.of (cc := cX6_lanes) (maxL := 3) (ret := (some .int)) (by decide) rfl (Nat.le_of_ble_eq_true rfl) (fun X hnm C => ?_)
    have C : CX l X V RX6 cX6_lanes 3 wsX6_lanes 3 0 0 (some .int) := C
    refine J.cast (ls' := [(0, _), (1, _)]) rfl rfl rfl rfl ?_
    refine J.iload_n C dX6_lanes_0 rfl ?_
    refine J.iconst C dX6_lanes_1 (v := (nI 2)) (by decide) ?_
    refine J.bipush C dX6_lanes_2 (v := (nI 8)) (by decide) ?_
    refine J.cSDi C (ok_X6_in_k l V _ _ _ hk (by decide) (by decide) _ _) gX6_lanes_X6_in rfl mfX6_in (by decide) (by decide) rfl rfl (Nat.le_of_ble_eq_true rfl) dX6_lanes_4 (Nat.le_refl _) (Nat.le_refl _) ?_
    first | refine J.if_ne_b C dX6_lanes_7 (tgt := 16) (by decide) (fun c7t => ?_) (fun c7f => ?_) | refine J.if_ne_n C (by omega) dX6_lanes_7 (tgt := 16) (by decide) (fun c7t => ?_) (fun c7f => ?_) | refine J.if_ne C dX6_lanes_7 (tgt := 16) (by decide) (fun c7t => ?_) (fun c7f => ?_)
    · rw [c7t]
      refine J.aload_n C dX6_lanes_16 rfl ?_
      refine J.cVDv (q := (RX6, TX6, 25)) (ci := 6) C (ok_X6_begins l V _ _ hq hq25) gX6_lanes_X6_begins rfl mfX6_begins rfl (by decide) (by decide) (by first | decide | omega) rfl rfl rfl rfl (Nat.le_of_ble_eq_true rfl) dX6_lanes_17 (Nat.le_refl _) (Nat.le_refl _) ?_
      refine J.aload_n C dX6_lanes_20 rfl ?_
      refine J.getI C flX6_lanes_79 (by first | decide | omega) rfl (by exact rfl) (by first | ((repeat (first | refine up2_rd (by decide) ?_ | refine up2_rm (by decide) ?_ | refine up3_rd (by decide) ?_)) <;> (first | exact up2_s _ _ _ _ | assumption | exact rfl))) dX6_lanes_21 ?_
      refine J.istore_n (ls' := [(0, _), (1, _), (2, _)]) C dX6_lanes_24 (by decide) rfl ?_
      refine J.aload_n C dX6_lanes_25 rfl ?_
      refine J.iload_n C dX6_lanes_26 rfl ?_
      refine J.putI C fpX6_lanes_7 (by first | decide | omega) rfl (Nat.le_of_ble_eq_true rfl) (by first | exact mp_6_0 rfl | exact mp_6_0 (by assumption)) dX6_lanes_27 ?_
      refine J.aload_n C dX6_lanes_30 rfl ?_
      refine J.iconst C dX6_lanes_31 (v := (nI 0)) (by decide) ?_
      refine J.putI C fpX6_lanes_79 (by first | decide | omega) rfl (Nat.le_of_ble_eq_true rfl) (by first | exact mp_6_1 rfl | exact mp_6_1 (by assumption)) dX6_lanes_32 ?_
      refine J.iload_n C dX6_lanes_35 rfl ?_
      exact J.iret C dX6_lanes_36 (qM_s ⟨rfl, AbM_net hB ⟨by rw [up2_m _ _ _ (by decide), up2_s], by rw [up2_s], fun i hi => absurd hi (Nat.not_lt_zero _)⟩ (fun j a b => by rw [up2_m _ _ _ b, up2_m _ _ _ a]) (fun k a b => by rw [up2_n _ _ _ (by omega), up2_n _ _ _ (by omega)]), (by repeat (first | exact frm_rfl | refine frm_up (by decide) ?_ | refine frm_be ?_ | refine frm_rs ?_ | refine frm_st ?_ | refine frm_F ?_)), frmL_rfl⟩)
    · rw [c7f]
      refine J.aload_n C dX6_lanes_10 rfl ?_
      refine J.iconst C dX6_lanes_11 (v := (-1)) (by decide) ?_
      refine J.cVDi (q := (RX6, TX6, 25)) (ci := 6) C (ok_X6_found l V _ _ _) gX6_lanes_X6_found rfl mfX6_found rfl (by decide) (by decide) (by first | decide | omega) rfl rfl rfl rfl (Nat.le_of_ble_eq_true rfl) dX6_lanes_12 (Nat.le_refl _) (Nat.le_refl _) ?_
      exact J.iret C dX6_lanes_15 (qM_s (qM_F h))
set_option maxHeartbeats 4000000 in
set_option maxRecDepth 100000 in
theorem ok_X6_cut (l : Launch) (V : Vx) {g : Sg} {x : Int32} {o : Option Nat} (I : Nat → Nat → Int32) (L : Nat → Nat → Int64) (hx : AG x o) (h : AbM I L g) (ok : okG g) : PM l V yX6_cut wsX6_cut 3 [.ref (ad V 85), .int x] I L (op_cut g o) := by
  have hN := h.nm
  have h0 := hN.1
  have hm := hN.2.1
  have hl2 := ok.1.1
  have hl8 := ok.1.2.1
  have h40 := ok.1.2.2.1
  have hq := h.2.1.1
  have hq25 := ok.2.2.1
  have hB := AbM_be h ok
  have hb0 : beM I g.2.1.length 85 0 = nI g.1.1 := hB.1.1
  have hb1 : beM I g.2.1.length 85 1 = nI g.1.2.1 := hB.1.2.1
  cases o with
  | none =>
    have hx : x.toInt < 0 := hx
    refine Ok.of (cc := cX6_cut) (maxL := 3) (ret := (some .int)) (by decide) rfl (Nat.le_of_ble_eq_true rfl) (fun X hnm C => ?_)
    have C : CX l X V RX6 cX6_cut 3 wsX6_cut 3 0 0 (some .int) := C
    refine J.cast (ls' := [(0, _), (1, _)]) rfl rfl rfl rfl ?_
    refine J.iload_n C dX6_cut_0 rfl ?_
    refine J.iconst C dX6_cut_1 (v := (nI 0)) (by decide) ?_
    refine J.aload_n C dX6_cut_2 rfl ?_
    refine J.getI C flX6_cut_79 (by first | decide | omega) rfl (by exact rfl) (by first | ((repeat (first | refine up2_rd (by decide) ?_ | refine up2_rm (by decide) ?_ | refine up3_rd (by decide) ?_)) <;> (first | exact up2_s _ _ _ _ | assumption | exact rfl))) dX6_cut_3 ?_
    refine J.cSDi C (ok_X6_in_m l V _ _ _ hx (by decide) _ _) gX6_cut_X6_in rfl mfX6_in (by decide) (by decide) rfl rfl (Nat.le_of_ble_eq_true rfl) dX6_cut_6 (Nat.le_refl _) (Nat.le_refl _) ?_
    first | refine J.if_ne_b C dX6_cut_9 (tgt := 18) (by decide) (fun c9 => absurd c9 (by first | omega | decide | simp_all)) (fun _ => ?_) | refine J.if_ne_n C (by omega) dX6_cut_9 (tgt := 18) (by decide) (fun c9 => absurd c9 (by first | omega | decide | simp_all)) (fun _ => ?_) | refine J.if_ne C dX6_cut_9 (tgt := 18) (by decide) (fun c9 => absurd c9 (by first | omega | decide | simp_all)) (fun _ => ?_)
    refine J.aload_n C dX6_cut_12 rfl ?_
    refine J.iconst C dX6_cut_13 (v := (-1)) (by decide) ?_
    refine J.cVDi (q := (RX6, TX6, 25)) (ci := 6) C (ok_X6_found l V _ _ _) gX6_cut_X6_found rfl mfX6_found rfl (by decide) (by decide) (by first | decide | omega) rfl rfl rfl rfl (Nat.le_of_ble_eq_true rfl) dX6_cut_14 (Nat.le_refl _) (Nat.le_refl _) ?_
    exact J.iret C dX6_cut_17 (qM_s (qM_F h))
  | some k =>
    obtain ⟨hk, rfl⟩ := hx
    simp only [op_cut]
    rw [tb_congr (show k ≤ g.1.2.1 ↔ (0 ≤ k ∧ k ≤ g.1.2.1) by omega)]
    refine Ok.of (cc := cX6_cut) (maxL := 3) (ret := (some .int)) (by decide) rfl (Nat.le_of_ble_eq_true rfl) (fun X hnm C => ?_)
    have C : CX l X V RX6 cX6_cut 3 wsX6_cut 3 0 0 (some .int) := C
    refine J.cast (ls' := [(0, _), (1, _)]) rfl rfl rfl rfl ?_
    refine J.iload_n C dX6_cut_0 rfl ?_
    refine J.iconst C dX6_cut_1 (v := (nI 0)) (by decide) ?_
    refine J.aload_n C dX6_cut_2 rfl ?_
    refine J.getI C flX6_cut_79 (by first | decide | omega) rfl (by exact rfl) (by first | ((repeat (first | refine up2_rd (by decide) ?_ | refine up2_rm (by decide) ?_ | refine up3_rd (by decide) ?_)) <;> (first | exact up2_s _ _ _ _ | assumption | exact rfl))) dX6_cut_3 ?_
    refine J.cSDi C (ok_X6_in_k l V _ _ _ hk (by decide) (by omega) _ _) gX6_cut_X6_in rfl mfX6_in (by decide) (by decide) rfl rfl (Nat.le_of_ble_eq_true rfl) dX6_cut_6 (Nat.le_refl _) (Nat.le_refl _) ?_
    first | refine J.if_ne_b C dX6_cut_9 (tgt := 18) (by decide) (fun c9t => ?_) (fun c9f => ?_) | refine J.if_ne_n C (by omega) dX6_cut_9 (tgt := 18) (by decide) (fun c9t => ?_) (fun c9f => ?_) | refine J.if_ne C dX6_cut_9 (tgt := 18) (by decide) (fun c9t => ?_) (fun c9f => ?_)
    · rw [c9t]
      have hc := tb_t.mp c9t
      refine J.aload_n C dX6_cut_18 rfl ?_
      refine J.cVDv (q := (RX6, TX6, 25)) (ci := 6) C (ok_X6_begins l V _ _ hq hq25) gX6_cut_X6_begins rfl mfX6_begins rfl (by decide) (by decide) (by first | decide | omega) rfl rfl rfl rfl (Nat.le_of_ble_eq_true rfl) dX6_cut_19 (Nat.le_refl _) (Nat.le_refl _) ?_
      refine J.aload_n C dX6_cut_22 rfl ?_
      refine J.getI C flX6_cut_79 (by first | decide | omega) rfl (by exact rfl) (by first | ((repeat (first | refine up2_rd (by decide) ?_ | refine up2_rm (by decide) ?_ | refine up3_rd (by decide) ?_)) <;> (first | exact up2_s _ _ _ _ | assumption | exact rfl))) dX6_cut_23 ?_
      refine J.iload_n C dX6_cut_26 rfl ?_
      first | refine J.isub_n C (by omega) dX6_cut_27 ?_ | refine J.isub C dX6_cut_27 ?_
      refine J.istore_n (ls' := [(0, _), (1, _), (2, _)]) C dX6_cut_28 (by decide) rfl ?_
      refine J.aload_n C dX6_cut_29 rfl ?_
      refine J.iload_n C dX6_cut_30 rfl ?_
      refine J.putI C fpX6_cut_79 (by first | decide | omega) rfl (Nat.le_of_ble_eq_true rfl) (by first | exact mp_6_1 rfl | exact mp_6_1 (by assumption)) dX6_cut_31 ?_
      refine J.iload_n C dX6_cut_34 rfl ?_
      exact J.iret C dX6_cut_35 (qM_s ⟨rfl, AbM_net hB ⟨by rw [up2_m _ _ _ (by decide)]; exact hb0, by rw [up2_s], fun i hi => by rw [up2_n _ _ _ (by decide), up2_n _ _ _ (by decide), up2_n _ _ _ (by decide), up2_n _ _ _ (by decide)]; exact hB.1.2.2 i (Nat.lt_of_lt_of_le hi hc.2)⟩ (fun j a b => by rw [up2_m _ _ _ b]) (fun k a b => by rw [up2_n _ _ _ (by omega)]), (by repeat (first | exact frm_rfl | refine frm_up (by decide) ?_ | refine frm_be ?_ | refine frm_rs ?_ | refine frm_st ?_ | refine frm_F ?_)), frmL_rfl⟩)
    · rw [c9f]
      refine J.aload_n C dX6_cut_12 rfl ?_
      refine J.iconst C dX6_cut_13 (v := (-1)) (by decide) ?_
      refine J.cVDi (q := (RX6, TX6, 25)) (ci := 6) C (ok_X6_found l V _ _ _) gX6_cut_X6_found rfl mfX6_found rfl (by decide) (by decide) (by first | decide | omega) rfl rfl rfl rfl (Nat.le_of_ble_eq_true rfl) dX6_cut_14 (Nat.le_refl _) (Nat.le_refl _) ?_
      exact J.iret C dX6_cut_17 (qM_s (qM_F h))
set_option maxHeartbeats 4000000 in
set_option maxRecDepth 100000 in
theorem ok_X6_add (l : Launch) (V : Vx) {m : Nat} (k a b : Int32) (I : Nat → Nat → Int32) (L : Nat → Nat → Int64) (hm : I 85 1 = nI m) (h40 : m < 40) : Dv l V yX6_add wsX6_add 1 [.ref (ad V 85), .int k, .int a, .int b] I L (up2 (up2 (up2 (up2 (up2 I 86 m k) 87 m a) 88 m b) 89 m (nI 1)) 85 1 (nI (m + 1))) L := by
  refine Ok.of (cc := cX6_add) (maxL := 4) (ret := none) (by decide) rfl (Nat.le_of_ble_eq_true rfl) (fun X hnm C => ?_)
  have C : CX l X V RX6 cX6_add 4 wsX6_add 1 0 0 none := C
  refine J.cast (ls' := [(0, _), (1, _), (2, _), (3, _)]) rfl rfl rfl rfl ?_
  refine J.aload_n C dX6_add_0 rfl ?_
  refine J.getR C flX6_add_13 (by first | decide | omega) rfl (by exact rfl) dX6_add_1 ?_
  refine J.aload_n C dX6_add_4 rfl ?_
  refine J.getI C flX6_add_79 (by first | decide | omega) rfl (by exact rfl) (by first | ((repeat (first | refine up2_rd (by decide) ?_ | refine up2_rm (by decide) ?_ | refine up3_rd (by decide) ?_)) <;> (first | exact up2_s _ _ _ _ | assumption | exact rfl))) dX6_add_5 ?_
  refine J.iload_n C dX6_add_8 rfl ?_
  refine J.ias C (by first | exact rfl | assumption) (by first | exact rfl | exact rfl) (by first | (have h_ln := ln_all; omega) | omega) dX6_add_9 ?_
  refine J.aload_n C dX6_add_10 rfl ?_
  refine J.getR C flX6_add_17 (by first | decide | omega) rfl (by exact rfl) dX6_add_11 ?_
  refine J.aload_n C dX6_add_14 rfl ?_
  refine J.getI C flX6_add_79 (by first | decide | omega) rfl (by exact rfl) (by first | ((repeat (first | refine up2_rd (by decide) ?_ | refine up2_rm (by decide) ?_ | refine up3_rd (by decide) ?_)) <;> (first | exact up2_s _ _ _ _ | assumption | exact rfl))) dX6_add_15 ?_
  refine J.iload_n C dX6_add_18 rfl ?_
  refine J.ias C (by first | exact rfl | assumption) (by first | exact rfl | exact rfl) (by first | (have h_ln := ln_all; omega) | omega) dX6_add_19 ?_
  refine J.aload_n C dX6_add_20 rfl ?_
  refine J.getR C flX6_add_20 (by first | decide | omega) rfl (by exact rfl) dX6_add_21 ?_
  refine J.aload_n C dX6_add_24 rfl ?_
  refine J.getI C flX6_add_79 (by first | decide | omega) rfl (by exact rfl) (by first | ((repeat (first | refine up2_rd (by decide) ?_ | refine up2_rm (by decide) ?_ | refine up3_rd (by decide) ?_)) <;> (first | exact up2_s _ _ _ _ | assumption | exact rfl))) dX6_add_25 ?_
  refine J.iload_n C dX6_add_28 rfl ?_
  refine J.ias C (by first | exact rfl | assumption) (by first | exact rfl | exact rfl) (by first | (have h_ln := ln_all; omega) | omega) dX6_add_29 ?_
  refine J.aload_n C dX6_add_30 rfl ?_
  refine J.getR C flX6_add_23 (by first | decide | omega) rfl (by exact rfl) dX6_add_31 ?_
  refine J.aload_n C dX6_add_34 rfl ?_
  refine J.getI C flX6_add_79 (by first | decide | omega) rfl (by exact rfl) (by first | ((repeat (first | refine up2_rd (by decide) ?_ | refine up2_rm (by decide) ?_ | refine up3_rd (by decide) ?_)) <;> (first | exact up2_s _ _ _ _ | assumption | exact rfl))) dX6_add_35 ?_
  refine J.iconst C dX6_add_38 (v := (nI 1)) (by decide) ?_
  refine J.zas C (by first | exact bI_nar2 _ | exact rfl | decide | assumption) (by first | exact rfl | assumption) (by first | exact rfl | exact rfl) (by first | (have h_ln := ln_all; omega) | omega) dX6_add_39 ?_
  refine J.aload_n C dX6_add_40 rfl ?_
  refine J.dup C dX6_add_41 rfl ?_
  refine J.getI C flX6_add_79 (by first | decide | omega) rfl (by exact rfl) (by first | ((repeat (first | refine up2_rd (by decide) ?_ | refine up2_rm (by decide) ?_ | refine up3_rd (by decide) ?_)) <;> (first | exact up2_s _ _ _ _ | assumption | exact rfl))) dX6_add_42 ?_
  refine J.iconst C dX6_add_45 (v := (nI 1)) (by decide) ?_
  first | refine J.iadd_n C dX6_add_46 ?_ | refine J.iadd C dX6_add_46 ?_
  refine J.putI C fpX6_add_79 (by first | decide | omega) rfl (Nat.le_of_ble_eq_true rfl) (by first | exact mp_6_1 rfl | exact mp_6_1 (by assumption)) dX6_add_47 ?_
  exact J.vret C dX6_add_50 ⟨rfl, rfl⟩
theorem nA_set {a b c d a' b' c' d' : Nat → Int32} {l m l' m' : Int32} {t : Nt} {i n : Nat} {x : Cmp} (h : nA l m a b c d 0 t) (el : l' = l) (em : m' = nI n) (hn : ∀ j, j < n → j = i ∨ j < t.2.1) (ea : ∀ j, j ≠ i → a' j = a j) (eb : ∀ j, j ≠ i → b' j = b j) (ec : ∀ j, j ≠ i → c' j = c j) (ed : ∀ j, j ≠ i → d' j = d j) (fa : a' i = nI x.1) (fb : b' i = nI x.2.1) (fc : c' i = nI x.2.2.1) (fd : x.1 = 4 → d' i = bI x.2.2.2) : nA l' m' a' b' c' d' 0 (t.1, n, va_up t.2.2 i x) := by
  refine ⟨by rw [el]; exact h.1, em, fun j hj => ?_⟩
  show a' (0 + j) = nI (va_up t.2.2 i x j).1 ∧ b' (0 + j) = nI (va_up t.2.2 i x j).2.1 ∧ c' (0 + j) = nI (va_up t.2.2 i x j).2.2.1 ∧ ((va_up t.2.2 i x j).1 = 4 → d' (0 + j) = bI (va_up t.2.2 i x j).2.2.2)
  rw [Nat.zero_add]
  by_cases e : j = i
  · subst e
    rw [va_up_self]
    exact ⟨fa, fb, fc, fd⟩
  · rw [va_up_ne _ _ e, ea j e, eb j e, ec j e, ed j e]
    have q := h.2.2 j (by rcases hn j hj with q | q; exact absurd q e; exact q)
    rw [Nat.zero_add] at q
    exact q
theorem bI_tb4 {k : Nat} (h : k = 4) : nI 1 = bI (tb (k = 4)) := by rw [tb_1 h]; rfl
set_option maxHeartbeats 4000000 in
set_option maxRecDepth 100000 in
theorem ok_X6_comparer (l : Launch) (V : Vx) {g : Sg} {x1 : Int32} {o1 : Option Nat} {x2 : Int32} {o2 : Option Nat} {x3 : Int32} {o3 : Option Nat} (I : Nat → Nat → Int32) (L : Nat → Nat → Int64) (hx1 : AG x1 o1) (hx2 : AG x2 o2) (hx3 : AG x3 o3) (h : AbM I L g) (ok : okG g) : PM l V yX6_comparer wsX6_comparer 3 [.ref (ad V 85), .int x1, .int x2, .int x3] I L (op_comparer g o1 o2 o3) := by
  have hN := h.nm
  have h0 := hN.1
  have hm := hN.2.1
  have hl2 := ok.1.1
  have hl8 := ok.1.2.1
  have h40 := ok.1.2.2.1
  have hq := h.2.1.1
  have hq25 := ok.2.2.1
  have hB := AbM_be h ok
  have hb0 : beM I g.2.1.length 85 0 = nI g.1.1 := hB.1.1
  have hb1 : beM I g.2.1.length 85 1 = nI g.1.2.1 := hB.1.2.1
  refine Ok.of (cc := cX6_comparer) (maxL := 4) (ret := (some .int)) (by decide) rfl (Nat.le_of_ble_eq_true rfl) (fun X hnm C => ?_)
  have C : CX l X V RX6 cX6_comparer 4 wsX6_comparer 3 0 0 (some .int) := C
  refine J.cast (ls' := [(0, _), (1, _), (2, _), (3, _)]) rfl rfl rfl rfl ?_
  refine J.iload_n C dX6_comparer_0 rfl ?_
  refine J.iconst C dX6_comparer_1 (v := (nI 0)) (by decide) ?_
  refine J.iconst C dX6_comparer_2 (v := (nI 4)) (by decide) ?_
  refine J.cSDi C (ok_X6_in_o l V 4 (by decide) _ _ hx1) gX6_comparer_X6_in rfl mfX6_in (by decide) (by decide) rfl rfl (Nat.le_of_ble_eq_true rfl) dX6_comparer_3 (Nat.le_refl _) (Nat.le_refl _) ?_
  first | refine J.if_eq_b C dX6_comparer_6 (tgt := 25) (by decide) (fun c6t => ?_) (fun c6f => ?_) | refine J.if_eq_n C (by omega) dX6_comparer_6 (tgt := 25) (by decide) (fun c6t => ?_) (fun c6f => ?_) | refine J.if_eq C dX6_comparer_6 (tgt := 25) (by decide) (fun c6t => ?_) (fun c6f => ?_)
  · refine J.aload_n C dX6_comparer_25 rfl ?_
    refine J.iconst C dX6_comparer_26 (v := (-1)) (by decide) ?_
    refine J.cVDi (q := (RX6, TX6, 25)) (ci := 6) C (ok_X6_found l V _ _ _) gX6_comparer_X6_found rfl mfX6_found rfl (by decide) (by decide) (by first | decide | omega) rfl rfl rfl rfl (Nat.le_of_ble_eq_true rfl) dX6_comparer_27 (Nat.le_refl _) (Nat.le_refl _) ?_
    exact J.iret C dX6_comparer_30 (qM_s (by unfold op_comparer; rw [tb_0 (fun q => by first | exact tb_f.mp c6t q.1 | exact tb_f.mp c14t q.2.1 | exact tb_f.mp c22f q.2.2)]; exact qM_F h))
  · refine J.aload_n C dX6_comparer_9 rfl ?_
    refine J.iload_n C dX6_comparer_10 rfl ?_
    refine J.cVDi (q := (RX6, TX6, 25)) (ci := 6) C (ok_X6_isLane_o l V _ _ hx2 h0 (by omega) hl8) gX6_comparer_X6_isLane rfl mfX6_isLane rfl (by decide) (by decide) (by first | decide | omega) rfl rfl rfl rfl (Nat.le_of_ble_eq_true rfl) dX6_comparer_11 (Nat.le_refl _) (Nat.le_refl _) ?_
    first | refine J.if_eq_b C dX6_comparer_14 (tgt := 25) (by decide) (fun c14t => ?_) (fun c14f => ?_) | refine J.if_eq_n C (by omega) dX6_comparer_14 (tgt := 25) (by decide) (fun c14t => ?_) (fun c14f => ?_) | refine J.if_eq C dX6_comparer_14 (tgt := 25) (by decide) (fun c14t => ?_) (fun c14f => ?_)
    · refine J.aload_n C dX6_comparer_25 rfl ?_
      refine J.iconst C dX6_comparer_26 (v := (-1)) (by decide) ?_
      refine J.cVDi (q := (RX6, TX6, 25)) (ci := 6) C (ok_X6_found l V _ _ _) gX6_comparer_X6_found rfl mfX6_found rfl (by decide) (by decide) (by first | decide | omega) rfl rfl rfl rfl (Nat.le_of_ble_eq_true rfl) dX6_comparer_27 (Nat.le_refl _) (Nat.le_refl _) ?_
      exact J.iret C dX6_comparer_30 (qM_s (by unfold op_comparer; rw [tb_0 (fun q => by first | exact tb_f.mp c6t q.1 | exact tb_f.mp c14t q.2.1 | exact tb_f.mp c22f q.2.2)]; exact qM_F h))
    · refine J.aload_n C dX6_comparer_17 rfl ?_
      refine J.iload_n C dX6_comparer_18 rfl ?_
      refine J.cVDi (q := (RX6, TX6, 25)) (ci := 6) C (ok_X6_isLane_o l V _ _ hx3 h0 (by omega) hl8) gX6_comparer_X6_isLane rfl mfX6_isLane rfl (by decide) (by decide) (by first | decide | omega) rfl rfl rfl rfl (Nat.le_of_ble_eq_true rfl) dX6_comparer_19 (Nat.le_refl _) (Nat.le_refl _) ?_
      first | refine J.if_ne_b C dX6_comparer_22 (tgt := 31) (by decide) (fun c22t => ?_) (fun c22f => ?_) | refine J.if_ne_n C (by omega) dX6_comparer_22 (tgt := 31) (by decide) (fun c22t => ?_) (fun c22f => ?_) | refine J.if_ne C dX6_comparer_22 (tgt := 31) (by decide) (fun c22t => ?_) (fun c22f => ?_)
      · obtain ⟨k, rfl, hk⟩ := tb_t.mp c6f
        obtain ⟨a, rfl, ha⟩ := tb_t.mp c14f
        obtain ⟨b, rfl, hb⟩ := tb_t.mp c22t
        obtain ⟨-, rfl⟩ := hx1
        obtain ⟨-, rfl⟩ := hx2
        obtain ⟨-, rfl⟩ := hx3
        have e1 : tb (inO (some k) 5 ∧ inO (some a) g.1.1 ∧ inO (some b) g.1.1) = true := tb_1 ⟨tb_t.mp c6f, tb_t.mp c14f, tb_t.mp c22t⟩
        unfold op_comparer
        rw [e1]
        refine J.iload_n C dX6_comparer_31 rfl ?_
        refine J.iload_n C dX6_comparer_32 rfl ?_
        first | refine J.icmp_lt_n C (by omega) (by omega) dX6_comparer_33 (tgt := 43) (by decide) (fun c33t => ?_) (fun c33f => ?_) | refine J.icmp_lt_xn C (by omega) dX6_comparer_33 (tgt := 43) (by decide) (fun c33t => ?_) (fun c33f => ?_) | refine J.icmp_lt_nx C (by omega) dX6_comparer_33 (tgt := 43) (by decide) (fun c33t => ?_) (fun c33f => ?_) | refine J.icmp_lt C dX6_comparer_33 (tgt := 43) (by decide) (fun c33t => ?_) (fun c33f => ?_)
        · rw [tb_1 (show (some a).getD 0 < (some b).getD 0 from c33t)]
          refine J.aload_n C dX6_comparer_43 rfl ?_
          refine J.getI C flX6_comparer_79 (by first | decide | omega) rfl (by exact rfl) (by first | ((repeat (first | refine up2_rd (by decide) ?_ | refine up2_rm (by decide) ?_ | refine up3_rd (by decide) ?_)) <;> (first | exact up2_s _ _ _ _ | assumption | exact rfl))) dX6_comparer_44 ?_
          refine J.bipush C dX6_comparer_47 (v := (nI 40)) (by decide) ?_
          first | refine J.icmp_ne_n C (by omega) (by omega) dX6_comparer_49 (tgt := 59) (by decide) (fun c49t => ?_) (fun c49f => ?_) | refine J.icmp_ne_xn C (by omega) dX6_comparer_49 (tgt := 59) (by decide) (fun c49t => ?_) (fun c49f => ?_) | refine J.icmp_ne_nx C (by omega) dX6_comparer_49 (tgt := 59) (by decide) (fun c49t => ?_) (fun c49f => ?_) | refine J.icmp_ne C dX6_comparer_49 (tgt := 59) (by decide) (fun c49t => ?_) (fun c49f => ?_)
          · rw [tb_0 c49t]
            refine J.aload_n C dX6_comparer_59 rfl ?_
            refine J.cVDv (q := (RX6, TX6, 25)) (ci := 6) C (ok_X6_begins l V _ _ hq hq25) gX6_comparer_X6_begins rfl mfX6_begins rfl (by decide) (by decide) (by first | decide | omega) rfl rfl rfl rfl (Nat.le_of_ble_eq_true rfl) dX6_comparer_60 (Nat.le_refl _) (Nat.le_refl _) ?_
            refine J.aload_n C dX6_comparer_63 rfl ?_
            refine J.iload_n C dX6_comparer_64 rfl ?_
            refine J.iload_n C dX6_comparer_65 rfl ?_
            refine J.iload_n C dX6_comparer_66 rfl ?_
            refine J.cVDv (q := (RX6, TX6, 25)) (ci := 6) C (ok_X6_add l V _ _ _ _ _ hb1 (by omega)) gX6_comparer_X6_add rfl mfX6_add rfl (by decide) (by decide) (by first | decide | omega) rfl rfl rfl rfl (Nat.le_of_ble_eq_true rfl) dX6_comparer_67 (Nat.le_refl _) (Nat.le_refl _) ?_
            refine J.aload_n C dX6_comparer_70 rfl ?_
            refine J.getI C flX6_comparer_79 (by first | decide | omega) rfl (by exact rfl) (by first | ((repeat (first | refine up2_rd (by decide) ?_ | refine up2_rm (by decide) ?_ | refine up3_rd (by decide) ?_)) <;> (first | exact up2_s _ _ _ _ | assumption | exact rfl))) dX6_comparer_71 ?_
            exact J.iret C dX6_comparer_74 (qM_s ⟨rfl, AbM_net hB (nA_set (i := g.1.2.1) (x := (k, a, b, tb (k = 4))) hB.1 (by rw [up2_m _ _ _ (by decide), up2_n _ _ _ (by decide), up2_n _ _ _ (by decide), up2_n _ _ _ (by decide), up2_n _ _ _ (by decide)]) (up2_s _ _ _ _) (fun j q => by show j = g.1.2.1 ∨ j < g.1.2.1; omega) (fun j q => by rw [up2_n _ _ _ (by decide), up2_n _ _ _ (by decide), up2_n _ _ _ (by decide), up2_n _ _ _ (by decide), up2_m _ _ _ q]) (fun j q => by rw [up2_n _ _ _ (by decide), up2_n _ _ _ (by decide), up2_n _ _ _ (by decide), up2_m _ _ _ q, up2_n _ _ _ (by decide)]) (fun j q => by rw [up2_n _ _ _ (by decide), up2_n _ _ _ (by decide), up2_m _ _ _ q, up2_n _ _ _ (by decide), up2_n _ _ _ (by decide)]) (fun j q => by rw [up2_n _ _ _ (by decide), up2_m _ _ _ q, up2_n _ _ _ (by decide), up2_n _ _ _ (by decide), up2_n _ _ _ (by decide)]) (by rw [up2_n _ _ _ (by decide), up2_n _ _ _ (by decide), up2_n _ _ _ (by decide), up2_n _ _ _ (by decide), up2_s]) (by rw [up2_n _ _ _ (by decide), up2_n _ _ _ (by decide), up2_n _ _ _ (by decide), up2_s]) (by rw [up2_n _ _ _ (by decide), up2_n _ _ _ (by decide), up2_s]) (fun q => by rw [up2_n _ _ _ (by decide), up2_s]; exact bI_tb4 q)) (fun j q1 q2 => by rw [up2_m _ _ _ q2, up2_n _ _ _ (by decide), up2_n _ _ _ (by decide), up2_n _ _ _ (by decide), up2_n _ _ _ (by decide)]) (fun q h1 h2 => by rw [up2_n _ _ _ (by omega), up2_n _ _ _ (by omega), up2_n _ _ _ (by omega), up2_n _ _ _ (by omega), up2_n _ _ _ (by omega)]), (by repeat (first | exact frm_rfl | refine frm_up (by decide) ?_ | refine frm_be ?_ | refine frm_rs ?_ | refine frm_st ?_ | refine frm_F ?_)), frmL_rfl⟩)
          · rw [tb_1 c49f]
            refine J.aload_n C dX6_comparer_52 rfl ?_
            refine J.bipush C dX6_comparer_53 (v := (-5)) (by decide) ?_
            refine J.cVDi (q := (RX6, TX6, 25)) (ci := 6) C (ok_X6_found l V _ _ _) gX6_comparer_X6_found rfl mfX6_found rfl (by decide) (by decide) (by first | decide | omega) rfl rfl rfl rfl (Nat.le_of_ble_eq_true rfl) dX6_comparer_55 (Nat.le_refl _) (Nat.le_refl _) ?_
            exact J.iret C dX6_comparer_58 (qM_s (qM_F h))
        · rw [tb_0 (show ¬ (some a).getD 0 < (some b).getD 0 from c33f)]
          refine J.aload_n C dX6_comparer_36 rfl ?_
          refine J.bipush C dX6_comparer_37 (v := (-3)) (by decide) ?_
          refine J.cVDi (q := (RX6, TX6, 25)) (ci := 6) C (ok_X6_found l V _ _ _) gX6_comparer_X6_found rfl mfX6_found rfl (by decide) (by decide) (by first | decide | omega) rfl rfl rfl rfl (Nat.le_of_ble_eq_true rfl) dX6_comparer_39 (Nat.le_refl _) (Nat.le_refl _) ?_
          exact J.iret C dX6_comparer_42 (qM_s (qM_F h))
      · refine J.aload_n C dX6_comparer_25 rfl ?_
        refine J.iconst C dX6_comparer_26 (v := (-1)) (by decide) ?_
        refine J.cVDi (q := (RX6, TX6, 25)) (ci := 6) C (ok_X6_found l V _ _ _) gX6_comparer_X6_found rfl mfX6_found rfl (by decide) (by decide) (by first | decide | omega) rfl rfl rfl rfl (Nat.le_of_ble_eq_true rfl) dX6_comparer_27 (Nat.le_refl _) (Nat.le_refl _) ?_
        exact J.iret C dX6_comparer_30 (qM_s (by unfold op_comparer; rw [tb_0 (fun q => by first | exact tb_f.mp c6t q.1 | exact tb_f.mp c14t q.2.1 | exact tb_f.mp c22f q.2.2)]; exact qM_F h))
set_option maxHeartbeats 4000000 in
set_option maxRecDepth 100000 in
theorem ok_X6_change (l : Launch) (V : Vx) {g : Sg} {x1 : Int32} {o1 : Option Nat} {x2 : Int32} {o2 : Option Nat} (I : Nat → Nat → Int32) (L : Nat → Nat → Int64) (hx1 : AG x1 o1) (hx2 : AG x2 o2) (h : AbM I L g) (ok : okG g) : PM l V yX6_change wsX6_change 3 [.ref (ad V 85), .int x1, .int x2] I L (op_change g o1 o2) := by
  have hN := h.nm
  have h0 := hN.1
  have hm := hN.2.1
  have hl2 := ok.1.1
  have hl8 := ok.1.2.1
  have h40 := ok.1.2.2.1
  have hq := h.2.1.1
  have hq25 := ok.2.2.1
  have hB := AbM_be h ok
  have hb0 : beM I g.2.1.length 85 0 = nI g.1.1 := hB.1.1
  have hb1 : beM I g.2.1.length 85 1 = nI g.1.2.1 := hB.1.2.1
  refine Ok.of (cc := cX6_change) (maxL := 4) (ret := (some .int)) (by decide) rfl (Nat.le_of_ble_eq_true rfl) (fun X hnm C => ?_)
  have C : CX l X V RX6 cX6_change 4 wsX6_change 3 0 0 (some .int) := C
  refine J.cast (ls' := [(0, _), (1, _), (2, _)]) rfl rfl rfl rfl ?_
  refine J.aload_n C dX6_change_0 rfl ?_
  refine J.iload_n C dX6_change_1 rfl ?_
  refine J.cVDi (q := (RX6, TX6, 25)) (ci := 6) C (ok_X6_isComparer_o l V _ _ hx1 hm h40) gX6_change_X6_isComparer rfl mfX6_isComparer rfl (by decide) (by decide) (by first | decide | omega) rfl rfl rfl rfl (Nat.le_of_ble_eq_true rfl) dX6_change_2 (Nat.le_refl _) (Nat.le_refl _) ?_
  first | refine J.if_eq_b C dX6_change_5 (tgt := 17) (by decide) (fun c5t => ?_) (fun c5f => ?_) | refine J.if_eq_n C (by omega) dX6_change_5 (tgt := 17) (by decide) (fun c5t => ?_) (fun c5f => ?_) | refine J.if_eq C dX6_change_5 (tgt := 17) (by decide) (fun c5t => ?_) (fun c5f => ?_)
  · refine J.aload_n C dX6_change_17 rfl ?_
    refine J.iconst C dX6_change_18 (v := (-1)) (by decide) ?_
    refine J.cVDi (q := (RX6, TX6, 25)) (ci := 6) C (ok_X6_found l V _ _ _) gX6_change_X6_found rfl mfX6_found rfl (by decide) (by decide) (by first | decide | omega) rfl rfl rfl rfl (Nat.le_of_ble_eq_true rfl) dX6_change_19 (Nat.le_refl _) (Nat.le_refl _) ?_
    exact J.iret C dX6_change_22 (qM_s (by unfold op_change; rw [tb_0 (fun q => by first | exact tb_f.mp c5t q.1 | exact tb_f.mp c14f q.2)]; exact qM_F h))
  · refine J.iload_n C dX6_change_8 rfl ?_
    refine J.iconst C dX6_change_9 (v := (nI 0)) (by decide) ?_
    refine J.iconst C dX6_change_10 (v := (nI 4)) (by decide) ?_
    refine J.cSDi C (ok_X6_in_o l V 4 (by decide) _ _ hx2) gX6_change_X6_in rfl mfX6_in (by decide) (by decide) rfl rfl (Nat.le_of_ble_eq_true rfl) dX6_change_11 (Nat.le_refl _) (Nat.le_refl _) ?_
    first | refine J.if_ne_b C dX6_change_14 (tgt := 23) (by decide) (fun c14t => ?_) (fun c14f => ?_) | refine J.if_ne_n C (by omega) dX6_change_14 (tgt := 23) (by decide) (fun c14t => ?_) (fun c14f => ?_) | refine J.if_ne C dX6_change_14 (tgt := 23) (by decide) (fun c14t => ?_) (fun c14f => ?_)
    · obtain ⟨i, rfl, hi⟩ := tb_t.mp c5f
      obtain ⟨k, rfl, hk⟩ := tb_t.mp c14t
      obtain ⟨-, rfl⟩ := hx1
      obtain ⟨-, rfl⟩ := hx2
      unfold op_change
      rw [tb_1 (show inO (some i) g.1.2.1 ∧ inO (some k) 5 from ⟨tb_t.mp c5f, tb_t.mp c14t⟩)]
      have hbi := hB.1.2.2 i hi
      rw [Nat.zero_add] at hbi
      have hbk := hbi.1
      refine J.aload_n C dX6_change_23 rfl ?_
      refine J.cVDv (q := (RX6, TX6, 25)) (ci := 6) C (ok_X6_begins l V _ _ hq hq25) gX6_change_X6_begins rfl mfX6_begins rfl (by decide) (by decide) (by first | decide | omega) rfl rfl rfl rfl (Nat.le_of_ble_eq_true rfl) dX6_change_24 (Nat.le_refl _) (Nat.le_refl _) ?_
      refine J.aload_n C dX6_change_27 rfl ?_
      refine J.getR C flX6_change_13 (by first | decide | omega) rfl (by exact rfl) dX6_change_28 ?_
      refine J.iload_n C dX6_change_31 rfl ?_
      refine J.ia C (by first | exact rfl | assumption) (by first | exact rfl | exact rfl) (by first | (have h_ln := ln_all; omega) | omega) (by first | ((repeat (first | refine up2_rd (by decide) ?_ | refine up2_rm (by decide) ?_ | refine up3_rd (by decide) ?_)) <;> (first | exact up2_s _ _ _ _ | assumption | exact rfl))) dX6_change_32 ?_
      refine J.istore_n (ls' := [(0, _), (1, _), (2, _), (3, _)]) C dX6_change_33 (by decide) rfl ?_
      refine J.aload_n C dX6_change_34 rfl ?_
      refine J.getR C flX6_change_13 (by first | decide | omega) rfl (by exact rfl) dX6_change_35 ?_
      refine J.iload_n C dX6_change_38 rfl ?_
      refine J.iload_n C dX6_change_39 rfl ?_
      refine J.ias C (by first | exact rfl | assumption) (by first | exact rfl | exact rfl) (by first | (have h_ln := ln_all; omega) | omega) dX6_change_40 ?_
      refine J.aload_n C dX6_change_41 rfl ?_
      refine J.getR C flX6_change_23 (by first | decide | omega) rfl (by exact rfl) dX6_change_42 ?_
      refine J.iload_n C dX6_change_45 rfl ?_
      refine J.iconst C dX6_change_46 (v := (nI 1)) (by decide) ?_
      refine J.zas C (by first | exact bI_nar2 _ | exact rfl | decide | assumption) (by first | exact rfl | assumption) (by first | exact rfl | exact rfl) (by first | (have h_ln := ln_all; omega) | omega) dX6_change_47 ?_
      refine J.iload_n C dX6_change_48 rfl ?_
      exact J.iret C dX6_change_49 (qM_s ⟨rfl, AbM_net hB (nA_set (n := g.1.2.1) (i := i) (x := (k, (g.1.2.2 i).2.1, (g.1.2.2 i).2.2.1, tb (k = 4))) hB.1 (by rw [up2_n _ _ _ (by decide), up2_n _ _ _ (by decide)]) (by rw [up2_n _ _ _ (by decide), up2_n _ _ _ (by decide)]; exact hb1) (fun j q => Or.inr q) (fun j q => by rw [up2_n _ _ _ (by decide), up2_m _ _ _ q]) (fun j q => by rw [up2_n _ _ _ (by decide), up2_n _ _ _ (by decide)]) (fun j q => by rw [up2_n _ _ _ (by decide), up2_n _ _ _ (by decide)]) (fun j q => by rw [up2_m _ _ _ q, up2_n _ _ _ (by decide)]) (by rw [up2_n _ _ _ (by decide), up2_s]) (by rw [up2_n _ _ _ (by decide), up2_n _ _ _ (by decide)]; exact hbi.2.1) (by rw [up2_n _ _ _ (by decide), up2_n _ _ _ (by decide)]; exact hbi.2.2.1) (fun q => by rw [up2_s]; exact bI_tb4 q)) (fun j q1 q2 => by rw [up2_n _ _ _ (by decide), up2_n _ _ _ (by decide)]) (fun q h1 h2 => by rw [up2_n _ _ _ (by omega), up2_n _ _ _ (by omega)]), (by repeat (first | exact frm_rfl | refine frm_up (by decide) ?_ | refine frm_be ?_ | refine frm_rs ?_ | refine frm_st ?_ | refine frm_F ?_)), frmL_rfl⟩)
    · refine J.aload_n C dX6_change_17 rfl ?_
      refine J.iconst C dX6_change_18 (v := (-1)) (by decide) ?_
      refine J.cVDi (q := (RX6, TX6, 25)) (ci := 6) C (ok_X6_found l V _ _ _) gX6_change_X6_found rfl mfX6_found rfl (by decide) (by decide) (by first | decide | omega) rfl rfl rfl rfl (Nat.le_of_ble_eq_true rfl) dX6_change_19 (Nat.le_refl _) (Nat.le_refl _) ?_
      exact J.iret C dX6_change_22 (qM_s (by unfold op_change; rw [tb_0 (fun q => by first | exact tb_f.mp c5t q.1 | exact tb_f.mp c14f q.2)]; exact qM_F h))
set_option maxHeartbeats 4000000 in
set_option maxRecDepth 100000 in
theorem ok_X6_turnSwitch (l : Launch) (V : Vx) {g : Sg} {x1 : Int32} {o1 : Option Nat} (b : Bool) (I : Nat → Nat → Int32) (L : Nat → Nat → Int64) (hx1 : AG x1 o1) (h : AbM I L g) (ok : okG g) : PM l V yX6_turnSwitch wsX6_turnSwitch 3 [.ref (ad V 85), .int x1, .int (bI b)] I L (op_turnSwitch g o1 b) := by
  have hN := h.nm
  have h0 := hN.1
  have hm := hN.2.1
  have hl2 := ok.1.1
  have hl8 := ok.1.2.1
  have h40 := ok.1.2.2.1
  have hq := h.2.1.1
  have hq25 := ok.2.2.1
  have hB := AbM_be h ok
  have hb0 : beM I g.2.1.length 85 0 = nI g.1.1 := hB.1.1
  have hb1 : beM I g.2.1.length 85 1 = nI g.1.2.1 := hB.1.2.1
  refine Ok.of (cc := cX6_turnSwitch) (maxL := 4) (ret := (some .int)) (by decide) rfl (Nat.le_of_ble_eq_true rfl) (fun X hnm C => ?_)
  have C : CX l X V RX6 cX6_turnSwitch 4 wsX6_turnSwitch 3 0 0 (some .int) := C
  refine J.cast (ls' := [(0, _), (1, _), (2, _)]) rfl rfl rfl rfl ?_
  refine J.aload_n C dX6_turnSwitch_0 rfl ?_
  refine J.iload_n C dX6_turnSwitch_1 rfl ?_
  refine J.cVDi (q := (RX6, TX6, 25)) (ci := 6) C (ok_X6_isComparer_o l V _ _ hx1 hm h40) gX6_turnSwitch_X6_isComparer rfl mfX6_isComparer rfl (by decide) (by decide) (by first | decide | omega) rfl rfl rfl rfl (Nat.le_of_ble_eq_true rfl) dX6_turnSwitch_2 (Nat.le_refl _) (Nat.le_refl _) ?_
  first | refine J.if_ne_b C dX6_turnSwitch_5 (tgt := 14) (by decide) (fun c5t => ?_) (fun c5f => ?_) | refine J.if_ne_n C (by omega) dX6_turnSwitch_5 (tgt := 14) (by decide) (fun c5t => ?_) (fun c5f => ?_) | refine J.if_ne C dX6_turnSwitch_5 (tgt := 14) (by decide) (fun c5t => ?_) (fun c5f => ?_)
  · obtain ⟨i, rfl, hi⟩ := tb_t.mp c5t
    obtain ⟨-, rfl⟩ := hx1
    unfold op_turnSwitch
    rw [c5t]
    have hni := hN.2.2 i hi
    have hk4 := (ok.1.2.2.2 i hi).1
    have hnk := hni.1
    have hbi := hB.1.2.2 i hi
    rw [Nat.zero_add] at hbi
    refine J.aload_n C dX6_turnSwitch_14 rfl ?_
    refine J.getR C flX6_turnSwitch_13 (by first | decide | omega) rfl (by exact rfl) dX6_turnSwitch_15 ?_
    refine J.iload_n C dX6_turnSwitch_18 rfl ?_
    refine J.ia C (by first | exact rfl | assumption) (by first | exact rfl | exact rfl) (by first | (have h_ln := ln_all; omega) | omega) (by first | ((repeat (first | refine up2_rd (by decide) ?_ | refine up2_rm (by decide) ?_ | refine up3_rd (by decide) ?_)) <;> (first | exact up2_s _ _ _ _ | assumption | exact rfl))) dX6_turnSwitch_19 ?_
    refine J.iconst C dX6_turnSwitch_20 (v := (nI 4)) (by decide) ?_
    first | refine J.icmp_eq_n C (by omega) (by omega) dX6_turnSwitch_21 (tgt := 31) (by decide) (fun c21t => ?_) (fun c21f => ?_) | refine J.icmp_eq_xn C (by omega) dX6_turnSwitch_21 (tgt := 31) (by decide) (fun c21t => ?_) (fun c21f => ?_) | refine J.icmp_eq_nx C (by omega) dX6_turnSwitch_21 (tgt := 31) (by decide) (fun c21t => ?_) (fun c21f => ?_) | refine J.icmp_eq C dX6_turnSwitch_21 (tgt := 31) (by decide) (fun c21t => ?_) (fun c21f => ?_)
    · rw [tb_1 (show (g.1.2.2 ((some i).getD 0)).1 = 4 from c21t)]
      have hbo : beM I g.2.1.length 89 i = bI (g.1.2.2 i).2.2.2 := hbi.2.2.2 c21t
      refine J.aload_n C dX6_turnSwitch_31 rfl ?_
      refine J.cVDv (q := (RX6, TX6, 25)) (ci := 6) C (ok_X6_begins l V _ _ hq hq25) gX6_turnSwitch_X6_begins rfl mfX6_begins rfl (by decide) (by decide) (by first | decide | omega) rfl rfl rfl rfl (Nat.le_of_ble_eq_true rfl) dX6_turnSwitch_32 (Nat.le_refl _) (Nat.le_refl _) ?_
      refine J.aload_n C dX6_turnSwitch_35 rfl ?_
      refine J.getR C flX6_turnSwitch_23 (by first | decide | omega) rfl (by exact rfl) dX6_turnSwitch_36 ?_
      refine J.iload_n C dX6_turnSwitch_39 rfl ?_
      refine J.za C (by first | exact rfl | assumption) (by first | exact rfl | exact rfl) (by first | (have h_ln := ln_all; omega) | omega) (by first | ((repeat (first | refine up2_rd (by decide) ?_ | refine up2_rm (by decide) ?_ | refine up3_rd (by decide) ?_)) <;> (first | exact up2_s _ _ _ _ | assumption | exact rfl))) dX6_turnSwitch_40 ?_
      refine J.istore_n (ls' := [(0, _), (1, _), (2, _), (3, _)]) C dX6_turnSwitch_41 (by decide) rfl ?_
      refine J.aload_n C dX6_turnSwitch_42 rfl ?_
      refine J.getR C flX6_turnSwitch_23 (by first | decide | omega) rfl (by exact rfl) dX6_turnSwitch_43 ?_
      refine J.iload_n C dX6_turnSwitch_46 rfl ?_
      refine J.iload_n C dX6_turnSwitch_47 rfl ?_
      refine J.zas C (by first | exact bI_nar2 _ | exact rfl | decide | assumption) (by first | exact rfl | assumption) (by first | exact rfl | exact rfl) (by first | (have h_ln := ln_all; omega) | omega) dX6_turnSwitch_48 ?_
      refine J.iload_n C dX6_turnSwitch_49 rfl ?_
      first | refine J.if_eq_b C dX6_turnSwitch_50 (tgt := 57) (by decide) (fun c50t => ?_) (fun c50f => ?_) | refine J.if_eq_n C (by omega) dX6_turnSwitch_50 (tgt := 57) (by decide) (fun c50t => ?_) (fun c50f => ?_) | refine J.if_eq C dX6_turnSwitch_50 (tgt := 57) (by decide) (fun c50t => ?_) (fun c50f => ?_)
      · refine J.iconst C dX6_turnSwitch_57 (v := (nI 0)) (by decide) ?_
        exact J.iret C dX6_turnSwitch_58 (qM_s ⟨by first | (show nI 0 = bI (g.1.2.2 i).2.2.2; rw [c50t]; rfl) | (show nI 1 = bI (g.1.2.2 i).2.2.2; rw [c50f]; rfl), AbM_net hB (nA_set (n := g.1.2.1) (i := i) (x := (4, (g.1.2.2 i).2.1, (g.1.2.2 i).2.2.1, b)) hB.1 (by rw [up2_n _ _ _ (by decide)]) (by rw [up2_n _ _ _ (by decide)]; exact hb1) (fun j q => Or.inr q) (fun j q => by rw [up2_n _ _ _ (by decide)]) (fun j q => by rw [up2_n _ _ _ (by decide)]) (fun j q => by rw [up2_n _ _ _ (by decide)]) (fun j q => by rw [up2_m _ _ _ q]) (by rw [up2_n _ _ _ (by decide), hbi.1]; show nI (g.1.2.2 i).1 = nI 4; rw [c21t]) (by rw [up2_n _ _ _ (by decide)]; exact hbi.2.1) (by rw [up2_n _ _ _ (by decide)]; exact hbi.2.2.1) (fun q => by rw [up2_s])) (fun j q1 q2 => by rw [up2_n _ _ _ (by decide)]) (fun q h1 h2 => by rw [up2_n _ _ _ (by omega)]), (by repeat (first | exact frm_rfl | refine frm_up (by decide) ?_ | refine frm_be ?_ | refine frm_rs ?_ | refine frm_st ?_ | refine frm_F ?_)), frmL_rfl⟩)
      · refine J.iconst C dX6_turnSwitch_53 (v := (nI 1)) (by decide) ?_
        refine J.goto C dX6_turnSwitch_54 (tgt := 58) (by decide) ?_
        exact J.iret C dX6_turnSwitch_58 (qM_s ⟨by first | (show nI 0 = bI (g.1.2.2 i).2.2.2; rw [c50t]; rfl) | (show nI 1 = bI (g.1.2.2 i).2.2.2; rw [c50f]; rfl), AbM_net hB (nA_set (n := g.1.2.1) (i := i) (x := (4, (g.1.2.2 i).2.1, (g.1.2.2 i).2.2.1, b)) hB.1 (by rw [up2_n _ _ _ (by decide)]) (by rw [up2_n _ _ _ (by decide)]; exact hb1) (fun j q => Or.inr q) (fun j q => by rw [up2_n _ _ _ (by decide)]) (fun j q => by rw [up2_n _ _ _ (by decide)]) (fun j q => by rw [up2_n _ _ _ (by decide)]) (fun j q => by rw [up2_m _ _ _ q]) (by rw [up2_n _ _ _ (by decide), hbi.1]; show nI (g.1.2.2 i).1 = nI 4; rw [c21t]) (by rw [up2_n _ _ _ (by decide)]; exact hbi.2.1) (by rw [up2_n _ _ _ (by decide)]; exact hbi.2.2.1) (fun q => by rw [up2_s])) (fun j q1 q2 => by rw [up2_n _ _ _ (by decide)]) (fun q h1 h2 => by rw [up2_n _ _ _ (by omega)]), (by repeat (first | exact frm_rfl | refine frm_up (by decide) ?_ | refine frm_be ?_ | refine frm_rs ?_ | refine frm_st ?_ | refine frm_F ?_)), frmL_rfl⟩)
    · rw [tb_0 (show ¬ (g.1.2.2 ((some i).getD 0)).1 = 4 from c21f)]
      refine J.aload_n C dX6_turnSwitch_24 rfl ?_
      refine J.bipush C dX6_turnSwitch_25 (v := (-4)) (by decide) ?_
      refine J.cVDi (q := (RX6, TX6, 25)) (ci := 6) C (ok_X6_found l V _ _ _) gX6_turnSwitch_X6_found rfl mfX6_found rfl (by decide) (by decide) (by first | decide | omega) rfl rfl rfl rfl (Nat.le_of_ble_eq_true rfl) dX6_turnSwitch_27 (Nat.le_refl _) (Nat.le_refl _) ?_
      exact J.iret C dX6_turnSwitch_30 (qM_s (qM_F h))
  · refine J.aload_n C dX6_turnSwitch_8 rfl ?_
    refine J.iconst C dX6_turnSwitch_9 (v := (-1)) (by decide) ?_
    refine J.cVDi (q := (RX6, TX6, 25)) (ci := 6) C (ok_X6_found l V _ _ _) gX6_turnSwitch_X6_found rfl mfX6_found rfl (by decide) (by decide) (by first | decide | omega) rfl rfl rfl rfl (Nat.le_of_ble_eq_true rfl) dX6_turnSwitch_10 (Nat.le_refl _) (Nat.le_refl _) ?_
    exact J.iret C dX6_turnSwitch_13 (qM_s (by unfold op_turnSwitch; rw [c5f]; exact qM_F h))
