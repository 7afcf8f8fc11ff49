/-! THE REFERENCE over rows of noughts and ones -/
/-- an int as a number, or none below 0 -/
def AG (x : Int32) : Option Nat → Prop
  | some k => k < 2 ^ 31 ∧ x = nI k
  | none => x.toInt < 0
theorem AG_ex (x : Int32) : ∃ o, AG x o := by
  rcases nI_or x with ⟨k, h⟩ | h
  · exact ⟨some k, h⟩
  · exact ⟨none, h⟩
def fM (I : Nat → Nat → Int32) : Nat → Nat → Int32 := up2 I 85 18 (I 85 18 + nI 1)
def finM (b : Bool) (I : Nat → Nat → Int32) : Nat → Nat → Int32 := cond b (fM I) I
theorem toInt_m1 : (-1 : Int32).toInt = -1 := by decide
def sp_out (t : Nt) : Option Nat → Int32 × Bool
  | some k => if k < 2 ^ t.1 then (nI (gk t.2.2 (-1) k t.2.1), false) else (-1, true)
  | none => (-1, true)
noncomputable def sp_sorts (t : Nt) : Int32 := bI (tb (∀ r, r < 2 ^ t.1 → ¬ bad t (-1) r))
noncomputable def sp_first (t : Nt) (s : Int) : Int32 × Bool := match lst (2 ^ t.1) (bad t s) with
  | some r => (nI r, false)
  | none => (-6, true)
noncomputable def sp_fails (t : Nt) (b : Bool) : Int32 × Bool := cond b (sp_first t (-1)) (nI (cnt (bad t (-1)) (2 ^ t.1)), false)
def RisK (n k v : Nat) : Prop := ∀ a, a + 1 < n → a + 1 ≠ k → v.testBit a = true → v.testBit (a + 1) = true
noncomputable def sp_merges (t : Nt) : Option Nat → Int32 × Bool
  | some k => if 1 ≤ k ∧ k < t.1 then (bI (tb (∀ r, r < 2 ^ t.1 → RisK t.1 k r → ¬ bad t (-1) r)), false) else (-1, true)
  | none => (-1, true)
/-- comparer i leaves both loads, whatever row comes in -/
def Idl (t : Nt) (i : Nat) : Prop := ∀ r, r < 2 ^ t.1 → chg (t.2.2 i) (hw (gk t.2.2 (-1) r i) (t.2.2 i).2.1 (t.2.2 i).2.2.1) = false
noncomputable def sp_idle (t : Nt) : Option Nat → Int32 × Bool
  | some i => if i < t.2.1 then (bI (tb (Idl t i)), false) else (-1, true)
  | none => (-1, true)
noncomputable def sp_weak (t : Nt) : Option Nat → Int32 × Bool
  | some i => if i < t.2.1 then sp_first t i else (-1, true)
  | none => (-1, true)
noncomputable def sp_bears (t : Nt) : Int32 := if t.2.1 = 0 then sp_sorts t else bI (tb (∀ i, i < t.2.1 → ∀ r, r < 2 ^ t.1 → ¬ bad t i r))
theorem ok_X6_goes_z (l : Launch) (V : Vx) {t : Nt} {row to : Nat} {s : Int32} {z : Int} (I : Nat → Nat → Int32) (L : Nat → Nat → Int64) (hs : s.toInt = z) (hN : NM I t) (ok : okN t) (hto : to ≤ t.2.1) (hr : row < 2 ^ t.1) : Di l V yX6_goes wsX6_goes 2 [.ref (ad V 85), .int (nI row), .int (nI to), .int s] I L (nI (gk t.2.2 z row to)) I L := by
  subst hs
  exact ok_X6_goes l V I L hN ok hto hr
theorem ok_X6_in_k (l : Launch) (V : Vx) (k a b : Nat) (hk : k < 2 ^ 31) (ha : a < 2 ^ 31) (hb : b < 2 ^ 31) (I : Nat → Nat → Int32) (L : Nat → Nat → Int64) : Di l V yX6_in wsX6_in 1 [.int (nI k), .int (nI a), .int (nI b)] I L (bI (tb (a ≤ k ∧ k ≤ b))) I L := by
  have h := ok_X6_in l V (nI k) (nI a) (nI b) I L
  rw [nI_ti ha, nI_ti hb, nI_ti hk] at h
  rw [tb_congr (show (a ≤ k ∧ k ≤ b) ↔ ((a : Int) ≤ (k : Int) ∧ (k : Int) ≤ (b : Int)) from ⟨fun q => ⟨by omega, by omega⟩, fun q => ⟨by omega, by omega⟩⟩)]
  exact h
theorem ok_X6_in_m (l : Launch) (V : Vx) (v : Int32) (a : Nat) (b : Int32) (hv : v.toInt < 0) (ha : a < 2 ^ 31) (I : Nat → Nat → Int32) (L : Nat → Nat → Int64) : Di l V yX6_in wsX6_in 1 [.int v, .int (nI a), .int b] I L (bI false) I L := by
  have h := ok_X6_in l V v (nI a) b I L
  rw [nI_ti ha, tb_0 (by omega)] at h
  exact h
set_option maxHeartbeats 4000000 in
set_option maxRecDepth 100000 in
theorem lp_X6_isRising {l : Launch} {X : Cx} {V : Vx} {P : Option Value → (Nat → va_E) → Prop} {I : Nat → Nat → Int32} {L : Nat → Nat → Int64} (C : CX l X V RX6 cX6_isRising 3 wsX6_isRising 2 0 0 (some .boolean)) {n v : Nat} (h0 : I 85 0 = nI n) (h8 : n ≤ 8) (hv : v < 2 ^ 31) (hP : P (some (.int (bI (tb (Ris n v))))) (mm V I L)) : ∀ (k a : Nat), a + k = n → 1 ≤ a → (∀ b, b + 1 < a → v.testBit b = true → v.testBit (b + 1) = true) → E X V P 3 2 [(0, .ref (ad V 85)), (1, .int (nI v)), (2, .int (nI a))] [] I L := by
  intro k
  induction k with
  | zero =>
    intro a ha h1 hb
    have e : a = n := by omega
    subst e
    refine J.iload_n C dX6_isRising_2 rfl ?_
    refine J.aload_n C dX6_isRising_3 rfl ?_
    refine J.getI C flX6_isRising_7 (by first | decide | omega) rfl (by exact rfl) (by first | assumption | exact rfl) dX6_isRising_4 ?_
    first | refine J.icmp_ge_n C (by omega) (by omega) dX6_isRising_7 (tgt := 33) (by decide) (fun _ => ?_) (fun c7 => absurd c7 (by first | omega | decide | simp_all)) | refine J.icmp_ge_xn C (by omega) dX6_isRising_7 (tgt := 33) (by decide) (fun _ => ?_) (fun c7 => absurd c7 (by first | omega | decide | simp_all)) | refine J.icmp_ge_nx C (by omega) dX6_isRising_7 (tgt := 33) (by decide) (fun _ => ?_) (fun c7 => absurd c7 (by first | omega | decide | simp_all)) | refine J.icmp_ge C dX6_isRising_7 (tgt := 33) (by decide) (fun _ => ?_) (fun c7 => absurd c7 (by first | omega | decide | simp_all))
    refine J.iconst C dX6_isRising_33 (v := (nI 1)) (by decide) ?_
    exact J.zret C dX6_isRising_34 (by first | exact bI_nar _ | rfl | decide | assumption) (by rw [tb_1 (P := Ris _ v) hb] at hP; exact hP)
  | succ k ih =>
    intro a ha h1 hb
    refine J.iload_n C dX6_isRising_2 rfl ?_
    refine J.aload_n C dX6_isRising_3 rfl ?_
    refine J.getI C flX6_isRising_7 (by first | decide | omega) rfl (by exact rfl) (by first | assumption | exact rfl) dX6_isRising_4 ?_
    first | refine J.icmp_ge_n C (by omega) (by omega) dX6_isRising_7 (tgt := 33) (by decide) (fun c7 => absurd c7 (by first | omega | decide | simp_all)) (fun _ => ?_) | refine J.icmp_ge_xn C (by omega) dX6_isRising_7 (tgt := 33) (by decide) (fun c7 => absurd c7 (by first | omega | decide | simp_all)) (fun _ => ?_) | refine J.icmp_ge_nx C (by omega) dX6_isRising_7 (tgt := 33) (by decide) (fun c7 => absurd c7 (by first | omega | decide | simp_all)) (fun _ => ?_) | refine J.icmp_ge C dX6_isRising_7 (tgt := 33) (by decide) (fun c7 => absurd c7 (by first | omega | decide | simp_all)) (fun _ => ?_)
    refine J.iload_n C dX6_isRising_10 rfl ?_
    refine J.iload_n C dX6_isRising_11 rfl ?_
    refine J.iconst C dX6_isRising_12 (v := (nI 1)) (by decide) ?_
    first | refine J.isub_n C (by omega) dX6_isRising_13 ?_ | refine J.isub C dX6_isRising_13 ?_
    refine J.cSDi C (ok_X6_at l V (by omega) (by omega) _ _) gX6_isRising_X6_at rfl mfX6_at (by decide) (by decide) rfl rfl (Nat.le_of_ble_eq_true rfl) dX6_isRising_14 (Nat.le_refl _) (Nat.le_refl _) ?_
    refine J.iload_n C dX6_isRising_17 rfl ?_
    refine J.iload_n C dX6_isRising_18 rfl ?_
    refine J.cSDi C (ok_X6_at l V (by omega) (by omega) _ _) gX6_isRising_X6_at rfl mfX6_at (by decide) (by decide) rfl rfl (Nat.le_of_ble_eq_true rfl) dX6_isRising_19 (Nat.le_refl _) (Nat.le_refl _) ?_
    refine J.icmp_le_n C (by cases v.testBit (a - 1) <;> decide) (by cases v.testBit a <;> decide) dX6_isRising_22 (tgt := 27) (by decide) (fun c22t => ?_) (fun c22f => ?_)
    · refine J.iinc (ls' := [(0, _), (1, _), (2, _)]) C dX6_isRising_27 rfl (by first | exact nI_inc _ 1 | exact rfl) (by decide) rfl ?_
      refine J.goto C dX6_isRising_30 (tgt := 2) (by decide) ?_
      refine ih (a + 1) (by omega) (by omega) (fun b hb2 => ?_)
      rcases Nat.lt_or_ge (b + 1) a with q | q
      · exact hb b q
      · obtain rfl : b = a - 1 := by omega
        rw [show a - 1 + 1 = a by omega]
        revert c22t
        cases v.testBit (a - 1) <;> cases v.testBit a <;> simp
    · refine J.iconst C dX6_isRising_25 (v := (nI 0)) (by decide) ?_
      exact J.zret C dX6_isRising_26 (by first | exact bI_nar _ | rfl | decide | assumption) (by rw [tb_0 (fun q => absurd (q (a - 1) (by omega)) (by rw [show a - 1 + 1 = a by omega]; intro q2; revert c22f q2; cases v.testBit (a - 1) <;> cases v.testBit a <;> simp))] at hP; exact hP)
set_option maxHeartbeats 4000000 in
set_option maxRecDepth 100000 in
theorem ok_X6_isRising (l : Launch) (V : Vx) {n v : Nat} (I : Nat → Nat → Int32) (L : Nat → Nat → Int64) (h0 : I 85 0 = nI n) (h2 : 2 ≤ n) (h8 : n ≤ 8) (hv : v < 2 ^ 31) : Di l V yX6_isRising wsX6_isRising 2 [.ref (ad V 85), .int (nI v)] I L (bI (tb (Ris n v))) I L := by
  refine Ok.of (cc := cX6_isRising) (maxL := 3) (ret := (some .boolean)) (by decide) rfl (Nat.le_of_ble_eq_true rfl) (fun X hnm C => ?_)
  have C : CX l X V RX6 cX6_isRising 3 wsX6_isRising 2 0 0 (some .boolean) := C
  refine J.cast (ls' := [(0, _), (1, _)]) rfl rfl rfl rfl ?_
  refine J.iconst C dX6_isRising_0 (v := (nI 1)) (by decide) ?_
  refine J.istore_n (ls' := [(0, _), (1, _), (2, _)]) C dX6_isRising_1 (by decide) rfl ?_
  exact lp_X6_isRising C h0 h8 hv ⟨rfl, rfl⟩ (n - 1) 1 (by omega) (by omega) (fun b hb => by omega)
set_option maxHeartbeats 4000000 in
set_option maxRecDepth 100000 in
theorem lp_X6_failing {l : Launch} {X : Cx} {V : Vx} {P : Option Value → (Nat → va_E) → Prop} {I : Nat → Nat → Int32} {L : Nat → Nat → Int64} (C : CX l X V RX6 cX6_failing 3 wsX6_failing 3 0 0 (some .int)) {t : Nt} {s : Int32} {z : Int} (hs : s.toInt = z) (hN : NM I t) (ok : okN t) (hP : P (some (.int (oI (lst (2 ^ t.1) (bad t z)) (-1)))) (mm V I L)) : ∀ (k r : Nat), r + k = 2 ^ t.1 → (∀ q, q < r → ¬ bad t z q) → E X V P 3 2 [(0, .ref (ad V 85)), (1, .int s), (2, .int (nI r))] [] I L := by
  intro k
  induction k with
  | zero =>
    intro r hr hb
    have e : r = 2 ^ t.1 := by omega
    subst e
    have h8 := p2_le ok.2.1
    have h40 := ok.2.2.1
    refine J.iload_n C dX6_failing_2 rfl ?_
    refine J.aload_n C dX6_failing_3 rfl ?_
    refine J.cVDi (q := (RX6, TX6, 25)) (ci := 6) C (ok_X6_rows l V _ _ hN.1 ok.2.1) gX6_failing_X6_rows rfl mfX6_rows rfl (by decide) (by decide) (by first | decide | omega) rfl rfl rfl rfl (Nat.le_of_ble_eq_true rfl) dX6_failing_4 (Nat.le_refl _) (Nat.le_refl _) ?_
    first | refine J.icmp_ge_n C (by omega) (by omega) dX6_failing_7 (tgt := 35) (by decide) (fun _ => ?_) (fun c7 => absurd c7 (by first | omega | decide | simp_all)) | refine J.icmp_ge_xn C (by omega) dX6_failing_7 (tgt := 35) (by decide) (fun _ => ?_) (fun c7 => absurd c7 (by first | omega | decide | simp_all)) | refine J.icmp_ge_nx C (by omega) dX6_failing_7 (tgt := 35) (by decide) (fun _ => ?_) (fun c7 => absurd c7 (by first | omega | decide | simp_all)) | refine J.icmp_ge C dX6_failing_7 (tgt := 35) (by decide) (fun _ => ?_) (fun c7 => absurd c7 (by first | omega | decide | simp_all))
    refine J.iconst C dX6_failing_35 (v := (-1)) (by decide) ?_
    exact J.iret C dX6_failing_36 (by rw [lst_eq (o := none) hb] at hP; exact hP)
  | succ k ih =>
    intro r hr hb
    have h8 := p2_le ok.2.1
    have h40 := ok.2.2.1
    have hm := hN.2.1
    refine J.iload_n C dX6_failing_2 rfl ?_
    refine J.aload_n C dX6_failing_3 rfl ?_
    refine J.cVDi (q := (RX6, TX6, 25)) (ci := 6) C (ok_X6_rows l V _ _ hN.1 ok.2.1) gX6_failing_X6_rows rfl mfX6_rows rfl (by decide) (by decide) (by first | decide | omega) rfl rfl rfl rfl (Nat.le_of_ble_eq_true rfl) dX6_failing_4 (Nat.le_refl _) (Nat.le_refl _) ?_
    first | refine J.icmp_ge_n C (by omega) (by omega) dX6_failing_7 (tgt := 35) (by decide) (fun c7 => absurd c7 (by first | omega | decide | simp_all)) (fun _ => ?_) | refine J.icmp_ge_xn C (by omega) dX6_failing_7 (tgt := 35) (by decide) (fun c7 => absurd c7 (by first | omega | decide | simp_all)) (fun _ => ?_) | refine J.icmp_ge_nx C (by omega) dX6_failing_7 (tgt := 35) (by decide) (fun c7 => absurd c7 (by first | omega | decide | simp_all)) (fun _ => ?_) | refine J.icmp_ge C dX6_failing_7 (tgt := 35) (by decide) (fun c7 => absurd c7 (by first | omega | decide | simp_all)) (fun _ => ?_)
    refine J.aload_n C dX6_failing_10 rfl ?_
    refine J.aload_n C dX6_failing_11 rfl ?_
    refine J.iload_n C dX6_failing_12 rfl ?_
    refine J.aload_n C dX6_failing_13 rfl ?_
    refine J.getI C flX6_failing_79 (by first | decide | omega) rfl (by exact rfl) (by first | assumption | exact rfl) dX6_failing_14 ?_
    refine J.iload_n C dX6_failing_17 rfl ?_
    refine J.cVDi (q := (RX6, TX6, 25)) (ci := 6) C (ok_X6_goes_z l V _ _ hs hN ok (by omega) (by omega)) gX6_failing_X6_goes rfl mfX6_goes rfl (by decide) (by decide) (by first | decide | omega) rfl rfl rfl rfl (Nat.le_of_ble_eq_true rfl) dX6_failing_18 (Nat.le_refl _) (Nat.le_refl _) ?_
    refine J.cVDi (q := (RX6, TX6, 25)) (ci := 6) C (ok_X6_isRising l V _ _ hN.1 ok.1 ok.2.1 (by have := gk_lt ok (s := z) (r := r) (by omega) t.2.1 (by omega); omega)) gX6_failing_X6_isRising rfl mfX6_isRising rfl (by decide) (by decide) (by first | decide | omega) rfl rfl rfl rfl (Nat.le_of_ble_eq_true rfl) dX6_failing_21 (Nat.le_refl _) (Nat.le_refl _) ?_
    first | refine J.if_ne_b C dX6_failing_24 (tgt := 29) (by decide) (fun c24t => ?_) (fun c24f => ?_) | refine J.if_ne_n C (by omega) dX6_failing_24 (tgt := 29) (by decide) (fun c24t => ?_) (fun c24f => ?_) | refine J.if_ne C dX6_failing_24 (tgt := 29) (by decide) (fun c24t => ?_) (fun c24f => ?_)
    · refine J.iinc (ls' := [(0, _), (1, _), (2, _)]) C dX6_failing_29 rfl (by first | exact nI_inc _ 1 | exact rfl) (by decide) rfl ?_
      refine J.goto C dX6_failing_32 (tgt := 2) (by decide) ?_
      refine ih (r + 1) (by omega) (fun q hq => ?_)
      rcases Nat.lt_or_ge q r with h | h
      · exact hb q h
      · obtain rfl : q = r := by omega
        exact fun h => h (tb_t.mp c24t)
    · refine J.iload_n C dX6_failing_27 rfl ?_
      exact J.iret C dX6_failing_28 (by rw [lst_eq (o := some r) ⟨by omega, tb_f.mp c24f, hb⟩] at hP; exact hP)
set_option maxHeartbeats 4000000 in
set_option maxRecDepth 100000 in
theorem ok_X6_failing (l : Launch) (V : Vx) {t : Nt} {s : Int32} {z : Int} (I : Nat → Nat → Int32) (L : Nat → Nat → Int64) (hs : s.toInt = z) (hN : NM I t) (ok : okN t) : Di l V yX6_failing wsX6_failing 3 [.ref (ad V 85), .int s] I L (oI (lst (2 ^ t.1) (bad t z)) (-1)) I L := by
  refine Ok.of (cc := cX6_failing) (maxL := 3) (ret := (some .int)) (by decide) rfl (Nat.le_of_ble_eq_true rfl) (fun X hnm C => ?_)
  have C : CX l X V RX6 cX6_failing 3 wsX6_failing 3 0 0 (some .int) := C
  refine J.cast (ls' := [(0, _), (1, _)]) rfl rfl rfl rfl ?_
  refine J.iconst C dX6_failing_0 (v := (nI 0)) (by decide) ?_
  refine J.istore_n (ls' := [(0, _), (1, _), (2, _)]) C dX6_failing_1 (by decide) rfl ?_
  exact lp_X6_failing C hs hN ok ⟨rfl, rfl⟩ (2 ^ t.1) 0 (by omega) (fun q hq => by omega)
set_option maxHeartbeats 4000000 in
set_option maxRecDepth 100000 in
theorem ok_X6_out (l : Launch) (V : Vx) {t : Nt} {x : Int32} {o : Option Nat} (I : Nat → Nat → Int32) (L : Nat → Nat → Int64) (hx : AG x o) (hN : NM I t) (ok : okN t) : Di l V yX6_out wsX6_out 3 [.ref (ad V 85), .int x] I L (sp_out t o).1 (finM (sp_out t o).2 I) L := by
  have h8 := p2_le ok.2.1
  have h40 := ok.2.2.1
  have hm := hN.2.1
  have hpos := Nat.two_pow_pos t.1
  cases o with
  | none =>
    have hx : x.toInt < 0 := hx
    refine Ok.of (cc := cX6_out) (maxL := 2) (ret := (some .int)) (by decide) rfl (Nat.le_of_ble_eq_true rfl) (fun X hnm C => ?_)
    have C : CX l X V RX6 cX6_out 2 wsX6_out 3 0 0 (some .int) := C
    refine J.cast (ls' := [(0, _), (1, _)]) rfl rfl rfl rfl ?_
    refine J.iload_n C dX6_out_0 rfl ?_
    refine J.iconst C dX6_out_1 (v := (nI 0)) (by decide) ?_
    refine J.aload_n C dX6_out_2 rfl ?_
    refine J.cVDi (q := (RX6, TX6, 25)) (ci := 6) C (ok_X6_rows l V _ _ hN.1 ok.2.1) gX6_out_X6_rows rfl mfX6_rows rfl (by decide) (by decide) (by first | decide | omega) rfl rfl rfl rfl (Nat.le_of_ble_eq_true rfl) dX6_out_3 (Nat.le_refl _) (Nat.le_refl _) ?_
    refine J.iconst C dX6_out_6 (v := (nI 1)) (by decide) ?_
    first | refine J.isub_n C (by omega) dX6_out_7 ?_ | refine J.isub C dX6_out_7 ?_
    refine J.cSDi C (ok_X6_in_m l V _ _ _ hx (by decide) _ _) gX6_out_X6_in rfl mfX6_in (by decide) (by decide) rfl rfl (Nat.le_of_ble_eq_true rfl) dX6_out_8 (Nat.le_refl _) (Nat.le_refl _) ?_
    first | refine J.if_eq_b C dX6_out_11 (tgt := 27) (by decide) (fun _ => ?_) (fun c11 => absurd c11 (by first | omega | decide | simp_all)) | refine J.if_eq_n C (by omega) dX6_out_11 (tgt := 27) (by decide) (fun _ => ?_) (fun c11 => absurd c11 (by first | omega | decide | simp_all)) | refine J.if_eq C dX6_out_11 (tgt := 27) (by decide) (fun _ => ?_) (fun c11 => absurd c11 (by first | omega | decide | simp_all))
    refine J.aload_n C dX6_out_27 rfl ?_
    refine J.iconst C dX6_out_28 (v := (-1)) (by decide) ?_
    refine J.cVDi (q := (RX6, TX6, 25)) (ci := 6) C (ok_X6_found l V _ _ _) gX6_out_X6_found rfl mfX6_found rfl (by decide) (by decide) (by first | decide | omega) rfl rfl rfl rfl (Nat.le_of_ble_eq_true rfl) dX6_out_29 (Nat.le_refl _) (Nat.le_refl _) ?_
    exact J.iret C dX6_out_32 ⟨rfl, rfl⟩
  | some k =>
    obtain ⟨hk, rfl⟩ := hx
    refine Ok.of (cc := cX6_out) (maxL := 2) (ret := (some .int)) (by decide) rfl (Nat.le_of_ble_eq_true rfl) (fun X hnm C => ?_)
    have C : CX l X V RX6 cX6_out 2 wsX6_out 3 0 0 (some .int) := C
    refine J.cast (ls' := [(0, _), (1, _)]) rfl rfl rfl rfl ?_
    refine J.iload_n C dX6_out_0 rfl ?_
    refine J.iconst C dX6_out_1 (v := (nI 0)) (by decide) ?_
    refine J.aload_n C dX6_out_2 rfl ?_
    refine J.cVDi (q := (RX6, TX6, 25)) (ci := 6) C (ok_X6_rows l V _ _ hN.1 ok.2.1) gX6_out_X6_rows rfl mfX6_rows rfl (by decide) (by decide) (by first | decide | omega) rfl rfl rfl rfl (Nat.le_of_ble_eq_true rfl) dX6_out_3 (Nat.le_refl _) (Nat.le_refl _) ?_
    refine J.iconst C dX6_out_6 (v := (nI 1)) (by decide) ?_
    first | refine J.isub_n C (by omega) dX6_out_7 ?_ | refine J.isub C dX6_out_7 ?_
    refine J.cSDi C (ok_X6_in_k l V _ _ _ hk (by decide) (by omega) _ _) gX6_out_X6_in rfl mfX6_in (by decide) (by decide) rfl rfl (Nat.le_of_ble_eq_true rfl) dX6_out_8 (Nat.le_refl _) (Nat.le_refl _) ?_
    first | refine J.if_eq_b C dX6_out_11 (tgt := 27) (by decide) (fun c11t => ?_) (fun c11f => ?_) | refine J.if_eq_n C (by omega) dX6_out_11 (tgt := 27) (by decide) (fun c11t => ?_) (fun c11f => ?_) | refine J.if_eq C dX6_out_11 (tgt := 27) (by decide) (fun c11t => ?_) (fun c11f => ?_)
    · have hc := tb_f.mp c11t
      refine J.aload_n C dX6_out_27 rfl ?_
      refine J.iconst C dX6_out_28 (v := (-1)) (by decide) ?_
      refine J.cVDi (q := (RX6, TX6, 25)) (ci := 6) C (ok_X6_found l V _ _ _) gX6_out_X6_found rfl mfX6_found rfl (by decide) (by decide) (by first | decide | omega) rfl rfl rfl rfl (Nat.le_of_ble_eq_true rfl) dX6_out_29 (Nat.le_refl _) (Nat.le_refl _) ?_
      exact J.iret C dX6_out_32 (by first | (have e : sp_out t (some k) = (nI (gk t.2.2 (-1) k t.2.1), false) := if_pos (by omega); rw [e]; exact ⟨rfl, rfl⟩) | (have e : sp_out t (some k) = (-1, true) := if_neg (by omega); rw [e]; exact ⟨rfl, rfl⟩))
    · have hc := tb_t.mp c11f
      refine J.aload_n C dX6_out_14 rfl ?_
      refine J.iload_n C dX6_out_15 rfl ?_
      refine J.aload_n C dX6_out_16 rfl ?_
      refine J.getI C flX6_out_79 (by first | decide | omega) rfl (by exact rfl) (by first | assumption | exact rfl) dX6_out_17 ?_
      refine J.iconst C dX6_out_20 (v := (-1)) (by decide) ?_
      refine J.cVDi (q := (RX6, TX6, 25)) (ci := 6) C (ok_X6_goes_z l V _ _ toInt_m1 hN ok (by omega) (by omega)) gX6_out_X6_goes rfl mfX6_goes rfl (by decide) (by decide) (by first | decide | omega) rfl rfl rfl rfl (Nat.le_of_ble_eq_true rfl) dX6_out_21 (Nat.le_refl _) (Nat.le_refl _) ?_
      refine J.goto C dX6_out_24 (tgt := 32) (by decide) ?_
      exact J.iret C dX6_out_32 (by first | (have e : sp_out t (some k) = (nI (gk t.2.2 (-1) k t.2.1), false) := if_pos (by omega); rw [e]; exact ⟨rfl, rfl⟩) | (have e : sp_out t (some k) = (-1, true) := if_neg (by omega); rw [e]; exact ⟨rfl, rfl⟩))
