/-! CONSTRUCTORS: the class's own -/
def BB (V : Vx) (I : Nat → Nat → Int32) (f g : Nat → Option Nat) : Nat → va_E := va_up (va_up (mm V I Lz) 3 (.inl (V.2.1.2.2.2.2, 4, rf f))) 56 (.inl (V.2.1.2.2.2.1, 6, rf g))
theorem BB_m {V : Vx} {I : Nat → Nat → Int32} {f g : Nat → Option Nat} {e : va_E} {k : Nat} (h0 : k ≠ 0) (h3 : k ≠ 3) (h5 : k ≠ 56) : va_up (BB V I f g) 0 e k = mm V I Lz k := by
  rw [va_up_ne _ _ h0]
  unfold BB
  rw [va_up_ne _ _ h5, va_up_ne _ _ h3]
theorem BB_k {V : Vx} {I : Nat → Nat → Int32} {f g : Nat → Option Nat} {e : va_E} {k : Nat} (h0 : k ≠ 0) (h3 : k ≠ 3) (h5 : k ≠ 56) (hI : I k = Iz k) : va_up (BB V I f g) 0 e k = mm V Iz Lz k := by
  rw [BB_m h0 h3 h5]
  exact mm_ne V hI rfl
theorem BB_3 {V : Vx} {I : Nat → Nat → Int32} {f g : Nat → Option Nat} {e : va_E} : va_up (BB V I f g) 0 e 3 = .inl (V.2.1.2.2.2.2, 4, rf f) := by
  rw [va_up_ne _ _ (by decide)]
  unfold BB
  rw [va_up_ne _ _ (by decide), va_up_self]
theorem BB_56 {V : Vx} {I : Nat → Nat → Int32} {f g : Nat → Option Nat} {e : va_E} : va_up (BB V I f g) 0 e 56 = .inl (V.2.1.2.2.2.1, 6, rf g) := by
  rw [va_up_ne _ _ (by decide)]
  unfold BB
  rw [va_up_self]
theorem BB_u3 {V : Vx} {I : Nat → Nat → Int32} {f f' g : Nat → Option Nat} {e : va_E} : va_up (va_up (BB V I f g) 0 e) 3 (.inl (V.2.1.2.2.2.2, 4, rf f')) = va_up (BB V I f' g) 0 e := by
  rw [up_cm (by decide)]
  unfold BB
  rw [up_cm (j := 56) (by decide), up_up]
theorem BB_u56 {V : Vx} {I : Nat → Nat → Int32} {f g g' : Nat → Option Nat} {e : va_E} : va_up (va_up (BB V I f g) 0 e) 56 (.inl (V.2.1.2.2.2.1, 6, rf g')) = va_up (BB V I f g') 0 e := by
  rw [up_cm (by decide)]
  unfold BB
  rw [up_up]
theorem BB_c {V : Vx} {f g : Nat → Option Nat} {e : va_E} : va_up (va_up (BB V Iz f g) 0 e) 1 (.inr (3, [.int (nI 2), .int (nI 0), .ref (ad V 2)])) = va_up (BB V I1 f g) 0 e := by
  have w : va_up (mm V Iz Lz) 1 (.inr (3, [.int (nI 2), .int (nI 0), .ref (ad V 2)])) = mm V I1 Lz := mp_3_0 (V := V) (I := Iz) (L := Lz) (k := 1) (x := nI 2) rfl
  rw [up_cm (by decide)]
  unfold BB
  rw [up_cm (j := 56) (by decide), up_cm (j := 3) (by decide), w]
theorem I1_k {k : Nat} (h : k ≠ 1) : I1 k = Iz k := by unfold I1; rw [up2_n _ _ _ h]
theorem kd65' {i : Nat} (h : i < 4) : kd (65 + 2 * i) = 3 := kd65 h
def e5 (V : Vx) : va_E := .inr (5, [.ref (ad V 1), .ref (ad V 3), .ref (ad V 4), .ref (ad V 56), .ref (ad V 57), .ref (ad V 59), .ref (ad V 61), .ref (ad V 63), .ref (ad V 64), .int (nI 0), .int (nI 0)])
set_option maxHeartbeats 4000000 in
set_option maxRecDepth 100000 in
theorem lp_X5_init_s {l : Launch} {X : Cx} {V : Vx} {Q : State → Prop} (C : CX l X V RX5 cX5_init 2 wsX5_init 3 84 1535 none) (hN : NW X.2.2.2.2.1) (hz : V.2.2.2.2.2 = true)  (hx : ∀ f, (∀ j, j < 4 → f j = some (ad V (65 + 2 * j))) → J X V Q 2 73 72 1445 136 [(0, .ref (ad V 0)), (1, .int (nI 4))] [] (va_up (BB V I1 f (fun _ => none)) 0 (e5 V))) : ∀ (z i : Nat) (f : Nat → Option Nat), i + z = 4 → (∀ j, j < i → f j = some (ad V (65 + 2 * j))) → J X V Q 2 (65 + 2 * i) (64 + 2 * i) (1273 + 43 * i) 112 [(0, .ref (ad V 0)), (1, .int (nI i))] [] (va_up (BB V I1 f (fun _ => none)) 0 (e5 V)) := by
  intro z
  induction z with
  | zero =>
    intro i f hi hf
    obtain rfl : i = 4 := by omega
    refine J.iload_n C dX5_init_112 rfl ?_
    refine J.iconst C dX5_init_113 (v := (nI 4)) (by decide) ?_
    refine J.icmp_ge_n C (by omega) (by omega) dX5_init_114 (tgt := 136) (by decide) (fun _ => ?_) (fun c => absurd c (by omega))
    exact J.cnt (by decide) (by decide) (by decide) (hx f hf)
  | succ z ih =>
    intro i f hi0 hf
    have hi : i < 4 := by omega
    refine J.iload_n C dX5_init_112 rfl ?_
    refine J.iconst C dX5_init_113 (v := (nI 4)) (by decide) ?_
    refine J.icmp_ge_n C (by omega) (by omega) dX5_init_114 (tgt := 136) (by decide) (fun c => absurd c (by omega)) (fun _ => ?_)
    refine J.aload_n C dX5_init_117 rfl ?_
    refine J.get C flX5_init_16 (by omega) (va_up_self _ _ _) rfl dX5_init_118 ?_
    refine J.iload_n C dX5_init_121 rfl ?_
    refine J.new C hz tyX3 [.int 0, .int 0, .null] (ci := 3) rfl hq_X5_init_3 tyX3_ok (by decide +kernel) (by decide +kernel) (by decide +kernel) nfX3 (by omega) (by omega) dX5_init_122 ?_
    refine J.dup C dX5_init_125 rfl ?_
    refine J.callIN C (ok_X3_init l V hz (kd65 hi) (va_up_self _ _ _)) gX5_init_X3_init_n9 rfl hN.1 (by decide +kernel) (by decide +kernel) rfl mfX3_init (by decide) (by decide) rfl (Nat.le_of_ble_eq_true rfl) dX5_init_126 (by omega) (by omega) (fun v M' h => ?_)
    obtain ⟨rfl, rfl⟩ := h
    refine J.mem (upc_id (BB_k (by omega) (by omega) (by omega) (I1_k (by omega))) (BB_k (by omega) (by omega) (by omega) (I1_k (by omega)))) ?_
    refine J.cnt (n' := 65 + 2 * (i + 1)) (cs' := 64 + 2 * (i + 1)) (sl' := 1273 + 43 * (i + 1)) (by omega) (by omega) (by omega) ?_
    refine J.aas C hz (k := 3) (kv := 65 + 2 * i) (t := 4) (ci := 3) (r := (RX3, TX3, 3)) (by omega) BB_3 rfl (by omega) (by rw [BB_k (by omega) (by omega) (by omega) (I1_k (by omega))]; exact mk_3 (kd65 hi)) rfl rfl (show i < 4 by omega) (by decide) dX5_init_129 ?_
    refine J.mem (M' := va_up (BB V I1 (va_up f i (some (ad V (65 + 2 * i)))) (fun _ => none)) 0 (e5 V)) BB_u3 ?_
    refine J.iinc (ls' := [(0, _), (1, _)]) C dX5_init_130 rfl (by first | exact nI_inc _ 1 | exact rfl) (by decide) rfl ?_
    refine J.goto C dX5_init_133 (tgt := 112) (by decide) ?_
    refine ih (i + 1) _ (by omega) (fun j hj => ?_)
    by_cases e : j = i
    · subst e; exact va_up_self _ _ _
    · rw [va_up_ne _ _ e]; exact hf j (by omega)
set_option maxHeartbeats 4000000 in
set_option maxRecDepth 100000 in
theorem lp_X5_init_c {l : Launch} {X : Cx} {V : Vx} {Q : State → Prop} (C : CX l X V RX5 cX5_init 2 wsX5_init 3 84 1535 none) (hN : NW X.2.2.2.2.1) (hz : V.2.2.2.2.2 = true) {f : Nat → Option Nat} (hx : ∀ g, (∀ j, j < 6 → g j = some (ad V (73 + 2 * j))) → J X V Q 2 85 84 1535 163 [(0, .ref (ad V 0)), (1, .int (nI 6))] [] (va_up (BB V I1 f g) 0 (e5 V))) : ∀ (z i : Nat) (g : Nat → Option Nat), i + z = 6 → (∀ j, j < i → g j = some (ad V (73 + 2 * j))) → J X V Q 2 (73 + 2 * i) (72 + 2 * i) (1445 + 15 * i) 138 [(0, .ref (ad V 0)), (1, .int (nI i))] [] (va_up (BB V I1 f g) 0 (e5 V)) := by
  intro z
  induction z with
  | zero =>
    intro i g hi hf
    obtain rfl : i = 6 := by omega
    refine J.iload_n C dX5_init_138 rfl ?_
    refine J.bipush C dX5_init_139 (v := (nI 6)) (by decide) ?_
    refine J.icmp_ge_n C (by omega) (by omega) dX5_init_141 (tgt := 163) (by decide) (fun _ => ?_) (fun c => absurd c (by omega))
    exact J.cnt (by decide) (by decide) (by decide) (hx g hf)
  | succ z ih =>
    intro i g hi0 hf
    have hi : i < 6 := by omega
    refine J.iload_n C dX5_init_138 rfl ?_
    refine J.bipush C dX5_init_139 (v := (nI 6)) (by decide) ?_
    refine J.icmp_ge_n C (by omega) (by omega) dX5_init_141 (tgt := 163) (by decide) (fun c => absurd c (by omega)) (fun _ => ?_)
    refine J.aload_n C dX5_init_144 rfl ?_
    refine J.get C flX5_init_29 (by omega) (va_up_self _ _ _) rfl dX5_init_145 ?_
    refine J.iload_n C dX5_init_148 rfl ?_
    refine J.new C hz tyX1 [.int 0, .int 0, .null] (ci := 1) rfl hq_X5_init_1 tyX1_ok (by decide +kernel) (by decide +kernel) (by decide +kernel) nfX1 (by omega) (by omega) dX5_init_149 ?_
    refine J.dup C dX5_init_152 rfl ?_
    refine J.callIN C (ok_X1_init l V hz (kd73 hi).1 (va_up_self _ _ _)) gX5_init_X1_init_n68 rfl hN.2.2.2.2.1 (by decide +kernel) (by decide +kernel) rfl mfX1_init (by decide) (by decide) rfl (Nat.le_of_ble_eq_true rfl) dX5_init_153 (by omega) (by omega) (fun v M' h => ?_)
    obtain ⟨rfl, rfl⟩ := h
    refine J.mem (upc_id (BB_k (by omega) (by omega) (by omega) (I1_k (by omega))) (BB_k (by omega) (by omega) (by omega) (I1_k (by omega)))) ?_
    refine J.cnt (n' := 73 + 2 * (i + 1)) (cs' := 72 + 2 * (i + 1)) (sl' := 1445 + 15 * (i + 1)) (by omega) (by omega) (by omega) ?_
    refine J.aas C hz (k := 56) (kv := 73 + 2 * i) (t := 3) (ci := 1) (r := (RX1, TX1, 3)) (by omega) BB_56 rfl (by omega) (by rw [BB_k (by omega) (by omega) (by omega) (I1_k (by omega))]; exact mk_1 (kd73 hi).1) rfl rfl (show i < 6 by omega) (by decide) dX5_init_156 ?_
    refine J.mem (M' := va_up (BB V I1 f (va_up g i (some (ad V (73 + 2 * i))))) 0 (e5 V)) BB_u56 ?_
    refine J.iinc (ls' := [(0, _), (1, _)]) C dX5_init_157 rfl (by first | exact nI_inc _ 1 | exact rfl) (by decide) rfl ?_
    refine J.goto C dX5_init_160 (tgt := 138) (by decide) ?_
    refine ih (i + 1) _ (by omega) (fun j hj => ?_)
    by_cases e : j = i
    · subst e; exact va_up_self _ _ _
    · rw [va_up_ne _ _ e]; exact hf j (by omega)
set_option maxHeartbeats 4000000 in
set_option maxRecDepth 100000 in
theorem ok_X5_init (l : Launch) (V : Vx) {M : Nat → va_E} (hz : V.2.2.2.2.2 = true) (hM : M 0 = .inr (5, [.null, .null, .null, .null, .null, .null, .null, .null, .null, .int 0, .int 0])) : OkN l V yX5_init wsX5_init 3 1 85 84 1535 [.ref (ad V 0)] M (fun v M' => v = none ∧ M' = mm V I1 Lz) := by
  refine OkN.of (cc := cX5_init) (maxL := 2) (ret := none) (by decide) rfl (Nat.le_of_ble_eq_true rfl) (fun X hnm C hN => ?_)
  have C : CX l X V RX5 cX5_init 2 wsX5_init 3 84 1535 none := C
  refine J.cast (ls' := [(0, _)]) rfl rfl rfl rfl ?_
  refine J.eqA (M' := va_up (BB V Iz (fun _ => none) (fun _ => none)) 0 (.inr (5, [.null, .null, .null, .null, .null, .null, .null, .null, .null, .int 0, .int 0]))) (fun k hk => Or.inl ?_) ?_
  · obtain rfl : k = 0 := by omega
    rw [va_up_self]; exact hM
  refine J.aload_n C dX5_init_0 rfl ?_
  refine J.obj C (by decide +kernel) (by decide +kernel) (by decide +kernel) (by decide) (Nat.le_of_ble_eq_true rfl) dX5_init_1 ?_
  refine J.aload_n C dX5_init_4 rfl ?_
  refine J.new C hz tyX3 [.int 0, .int 0, .null] (ci := 3) rfl hq_X5_init_3 tyX3_ok (by decide +kernel) (by decide +kernel) (by decide +kernel) nfX3 (Nat.le_of_ble_eq_true rfl) (Nat.le_of_ble_eq_true rfl) dX5_init_5 ?_
  refine J.cnt (n' := 2) (cs' := 1) (sl' := 3) rfl rfl rfl ?_
  refine J.dup C dX5_init_8 rfl ?_
  refine J.callIN C (ok_X3_init l V hz (by rfl) (va_up_self _ _ _)) gX5_init_X3_init_n9 rfl hN.1 (by decide +kernel) (by decide +kernel) rfl mfX3_init (by decide) (by decide) rfl (Nat.le_of_ble_eq_true rfl) dX5_init_9 (Nat.le_of_ble_eq_true rfl) (Nat.le_of_ble_eq_true rfl) (fun v M' h => ?_)
  obtain ⟨rfl, rfl⟩ := h
  refine J.mem (M' := va_up (BB V Iz (fun _ => none) (fun _ => none)) 0 (.inr (5, [.null, .null, .null, .null, .null, .null, .null, .null, .null, .int 0, .int 0]))) (upc_id (BB_k (by decide) (by decide) (by decide) rfl) (BB_k (by decide) (by decide) (by decide) rfl)) ?_
  refine J.cnt (n' := 3) (cs' := 2) (sl' := 43) rfl rfl rfl ?_
  refine J.putF C hnm ffX5_init_10 (by decide) (va_up_self _ _ _) (Nat.le_of_ble_eq_true rfl) rfl rfl dX5_init_12 ?_
  refine J.mem (M' := va_up (BB V Iz (fun _ => none) (fun _ => none)) 0 (.inr (5, [.ref (ad V 1), .null, .null, .null, .null, .null, .null, .null, .null, .int 0, .int 0]))) up_up ?_
  refine J.aload_n C dX5_init_15 rfl ?_
  refine J.iconst C dX5_init_16 (v := (nI 4)) (by decide) ?_
  refine J.anew C hz (t := 4) (cA := V.2.1.2.2.2.2) 4 rfl (by decide +kernel) hN.2.2.2.2.2.1 rfl (by decide) (Nat.le_of_ble_eq_true rfl) (Nat.le_of_ble_eq_true rfl) dX5_init_17 ?_
  refine J.mem (M' := va_up (BB V Iz (fun _ => none) (fun _ => none)) 0 (.inr (5, [.ref (ad V 1), .null, .null, .null, .null, .null, .null, .null, .null, .int 0, .int 0]))) (up_id BB_3) ?_
  refine J.cnt (n' := 4) (cs' := 3) (sl' := 47) rfl rfl rfl ?_
  refine J.putF C hnm ffX5_init_16 (by decide) (va_up_self _ _ _) (Nat.le_of_ble_eq_true rfl) rfl rfl dX5_init_20 ?_
  refine J.mem (M' := va_up (BB V Iz (fun _ => none) (fun _ => none)) 0 (.inr (5, [.ref (ad V 1), .ref (ad V 3), .null, .null, .null, .null, .null, .null, .null, .int 0, .int 0]))) up_up ?_
  refine J.aload_n C dX5_init_23 rfl ?_
  refine J.new C hz tyX2 [.null, .int 0, .int 0] (ci := 2) rfl hq_X5_init_2 tyX2_ok (by decide +kernel) (by decide +kernel) (by decide +kernel) nfX2 (Nat.le_of_ble_eq_true rfl) (Nat.le_of_ble_eq_true rfl) dX5_init_24 ?_
  refine J.cnt (n' := 5) (cs' := 4) (sl' := 50) rfl rfl rfl ?_
  refine J.dup C dX5_init_27 rfl ?_
  refine J.callI C hN (ok_X2_init l V hz (va_up_self _ _ _)) gX5_init_X2_init rfl (by decide +kernel) (by decide +kernel) (by decide +kernel) rfl mfX2_init (by decide) (by decide) rfl (Nat.le_of_ble_eq_true rfl) dX5_init_28 (Nat.le_of_ble_eq_true rfl) (Nat.le_of_ble_eq_true rfl) (fun v M' h => ?_)
  obtain ⟨rfl, rfl⟩ := h
  refine J.eqA (M' := va_up (BB V Iz (fun _ => none) (fun _ => none)) 0 (.inr (5, [.ref (ad V 1), .ref (ad V 3), .null, .null, .null, .null, .null, .null, .null, .int 0, .int 0]))) (fun k hk => Or.inl ?_) ?_
  · unfold HM
    by_cases e4 : k < 4
    · rw [if_pos e4, va_up_ne _ _ (by omega)]
    · rw [if_neg e4, BB_k (by omega) (by omega) (by omega) rfl]
  refine J.cnt (n' := 56) (cs' := 55) (sl' := 1150) rfl rfl rfl ?_
  refine J.putF C hnm ffX5_init_23 (by decide) (va_up_self _ _ _) (Nat.le_of_ble_eq_true rfl) rfl rfl dX5_init_31 ?_
  refine J.mem (M' := va_up (BB V Iz (fun _ => none) (fun _ => none)) 0 (.inr (5, [.ref (ad V 1), .ref (ad V 3), .ref (ad V 4), .null, .null, .null, .null, .null, .null, .int 0, .int 0]))) up_up ?_
  refine J.aload_n C dX5_init_34 rfl ?_
  refine J.bipush C dX5_init_35 (v := (nI 6)) (by decide) ?_
  refine J.anew C hz (t := 3) (cA := V.2.1.2.2.2.1) 6 rfl (by decide +kernel) hN.2.2.2.2.2.2 rfl (by decide) (Nat.le_of_ble_eq_true rfl) (Nat.le_of_ble_eq_true rfl) dX5_init_37 ?_
  refine J.mem (M' := va_up (BB V Iz (fun _ => none) (fun _ => none)) 0 (.inr (5, [.ref (ad V 1), .ref (ad V 3), .ref (ad V 4), .null, .null, .null, .null, .null, .null, .int 0, .int 0]))) (up_id BB_56) ?_
  refine J.cnt (n' := 57) (cs' := 56) (sl' := 1156) rfl rfl rfl ?_
  refine J.putF C hnm ffX5_init_29 (by decide) (va_up_self _ _ _) (Nat.le_of_ble_eq_true rfl) rfl rfl dX5_init_40 ?_
  refine J.mem (M' := va_up (BB V Iz (fun _ => none) (fun _ => none)) 0 (.inr (5, [.ref (ad V 1), .ref (ad V 3), .ref (ad V 4), .ref (ad V 56), .null, .null, .null, .null, .null, .int 0, .int 0]))) up_up ?_
  refine J.aload_n C dX5_init_43 rfl ?_
  refine J.new C hz tyX4 [.null, .long 0] (ci := 4) rfl hq_X5_init_4 tyX4_ok (by decide +kernel) (by decide +kernel) (by decide +kernel) nfX4 (Nat.le_of_ble_eq_true rfl) (Nat.le_of_ble_eq_true rfl) dX5_init_44 ?_
  refine J.cnt (n' := 58) (cs' := 57) (sl' := 1158) rfl rfl rfl ?_
  refine J.dup C dX5_init_47 rfl ?_
  refine J.callIN C (ok_X4_init l V hz (by rfl) (va_up_self _ _ _)) gX5_init_X4_init_n35 rfl hN.2.2.1 (by decide +kernel) (by decide +kernel) rfl mfX4_init (by decide) (by decide) rfl (Nat.le_of_ble_eq_true rfl) dX5_init_48 (Nat.le_of_ble_eq_true rfl) (Nat.le_of_ble_eq_true rfl) (fun v M' h => ?_)
  obtain ⟨rfl, rfl⟩ := h
  refine J.mem (M' := va_up (BB V Iz (fun _ => none) (fun _ => none)) 0 (.inr (5, [.ref (ad V 1), .ref (ad V 3), .ref (ad V 4), .ref (ad V 56), .null, .null, .null, .null, .null, .int 0, .int 0]))) (upc_id (BB_k (by decide) (by decide) (by decide) rfl) (BB_k (by decide) (by decide) (by decide) rfl)) ?_
  refine J.cnt (n' := 59) (cs' := 58) (sl' := 1166) rfl rfl rfl ?_
  refine J.putF C hnm ffX5_init_36 (by decide) (va_up_self _ _ _) (Nat.le_of_ble_eq_true rfl) rfl rfl dX5_init_51 ?_
  refine J.mem (M' := va_up (BB V Iz (fun _ => none) (fun _ => none)) 0 (.inr (5, [.ref (ad V 1), .ref (ad V 3), .ref (ad V 4), .ref (ad V 56), .ref (ad V 57), .null, .null, .null, .null, .int 0, .int 0]))) up_up ?_
  refine J.aload_n C dX5_init_54 rfl ?_
  refine J.new C hz tyX4 [.null, .long 0] (ci := 4) rfl hq_X5_init_4 tyX4_ok (by decide +kernel) (by decide +kernel) (by decide +kernel) nfX4 (Nat.le_of_ble_eq_true rfl) (Nat.le_of_ble_eq_true rfl) dX5_init_55 ?_
  refine J.cnt (n' := 60) (cs' := 59) (sl' := 1168) rfl rfl rfl ?_
  refine J.dup C dX5_init_58 rfl ?_
  refine J.callIN C (ok_X4_init l V hz (by rfl) (va_up_self _ _ _)) gX5_init_X4_init_n35 rfl hN.2.2.1 (by decide +kernel) (by decide +kernel) rfl mfX4_init (by decide) (by decide) rfl (Nat.le_of_ble_eq_true rfl) dX5_init_59 (Nat.le_of_ble_eq_true rfl) (Nat.le_of_ble_eq_true rfl) (fun v M' h => ?_)
  obtain ⟨rfl, rfl⟩ := h
  refine J.mem (M' := va_up (BB V Iz (fun _ => none) (fun _ => none)) 0 (.inr (5, [.ref (ad V 1), .ref (ad V 3), .ref (ad V 4), .ref (ad V 56), .ref (ad V 57), .null, .null, .null, .null, .int 0, .int 0]))) (upc_id (BB_k (by decide) (by decide) (by decide) rfl) (BB_k (by decide) (by decide) (by decide) rfl)) ?_
  refine J.cnt (n' := 61) (cs' := 60) (sl' := 1176) rfl rfl rfl ?_
  refine J.putF C hnm ffX5_init_40 (by decide) (va_up_self _ _ _) (Nat.le_of_ble_eq_true rfl) rfl rfl dX5_init_62 ?_
  refine J.mem (M' := va_up (BB V Iz (fun _ => none) (fun _ => none)) 0 (.inr (5, [.ref (ad V 1), .ref (ad V 3), .ref (ad V 4), .ref (ad V 56), .ref (ad V 57), .ref (ad V 59), .null, .null, .null, .int 0, .int 0]))) up_up ?_
  refine J.aload_n C dX5_init_65 rfl ?_
  refine J.new C hz tyX0 [.null, .int 0, .int 0, .long 0] (ci := 0) rfl hq_X5_init_0 tyX0_ok (by decide +kernel) (by decide +kernel) (by decide +kernel) nfX0 (Nat.le_of_ble_eq_true rfl) (Nat.le_of_ble_eq_true rfl) dX5_init_66 ?_
  refine J.cnt (n' := 62) (cs' := 61) (sl' := 1180) rfl rfl rfl ?_
  refine J.dup C dX5_init_69 rfl ?_
  refine J.callIN C (ok_X0_init l V hz (by rfl) (va_up_self _ _ _)) gX5_init_X0_init_n45 rfl hN.2.2.2.1 (by decide +kernel) (by decide +kernel) rfl mfX0_init (by decide) (by decide) rfl (Nat.le_of_ble_eq_true rfl) dX5_init_70 (Nat.le_of_ble_eq_true rfl) (Nat.le_of_ble_eq_true rfl) (fun v M' h => ?_)
  obtain ⟨rfl, rfl⟩ := h
  refine J.mem (M' := va_up (BB V Iz (fun _ => none) (fun _ => none)) 0 (.inr (5, [.ref (ad V 1), .ref (ad V 3), .ref (ad V 4), .ref (ad V 56), .ref (ad V 57), .ref (ad V 59), .null, .null, .null, .int 0, .int 0]))) (upc_id (BB_k (by decide) (by decide) (by decide) rfl) (BB_k (by decide) (by decide) (by decide) rfl)) ?_
  refine J.cnt (n' := 63) (cs' := 62) (sl' := 1185) rfl rfl rfl ?_
  refine J.putF C hnm ffX5_init_46 (by decide) (va_up_self _ _ _) (Nat.le_of_ble_eq_true rfl) rfl rfl dX5_init_73 ?_
  refine J.mem (M' := va_up (BB V Iz (fun _ => none) (fun _ => none)) 0 (.inr (5, [.ref (ad V 1), .ref (ad V 3), .ref (ad V 4), .ref (ad V 56), .ref (ad V 57), .ref (ad V 59), .ref (ad V 61), .null, .null, .int 0, .int 0]))) up_up ?_
  refine J.aload_n C dX5_init_76 rfl ?_
  refine J.bipush C dX5_init_77 (v := (nI 8)) (by decide) ?_
  refine J.newI C hz 8 (by decide +kernel) rfl (by decide) (Nat.le_of_ble_eq_true rfl) (Nat.le_of_ble_eq_true rfl) dX5_init_79 ?_
  refine J.mem (M' := va_up (BB V Iz (fun _ => none) (fun _ => none)) 0 (.inr (5, [.ref (ad V 1), .ref (ad V 3), .ref (ad V 4), .ref (ad V 56), .ref (ad V 57), .ref (ad V 59), .ref (ad V 61), .null, .null, .int 0, .int 0]))) (up_id ((BB_k (by decide) (by decide) (by decide) rfl).trans rfl)) ?_
  refine J.cnt (n' := 64) (cs' := 63) (sl' := 1193) rfl rfl rfl ?_
  refine J.putF C hnm ffX5_init_50 (by decide) (va_up_self _ _ _) (Nat.le_of_ble_eq_true rfl) rfl rfl dX5_init_81 ?_
  refine J.mem (M' := va_up (BB V Iz (fun _ => none) (fun _ => none)) 0 (.inr (5, [.ref (ad V 1), .ref (ad V 3), .ref (ad V 4), .ref (ad V 56), .ref (ad V 57), .ref (ad V 59), .ref (ad V 61), .ref (ad V 63), .null, .int 0, .int 0]))) up_up ?_
  refine J.aload_n C dX5_init_84 rfl ?_
  refine J.bipush C dX5_init_85 (v := (nI 80)) (by decide) ?_
  refine J.newI C hz 80 (by decide +kernel) rfl (by decide) (Nat.le_of_ble_eq_true rfl) (Nat.le_of_ble_eq_true rfl) dX5_init_87 ?_
  refine J.mem (M' := va_up (BB V Iz (fun _ => none) (fun _ => none)) 0 (.inr (5, [.ref (ad V 1), .ref (ad V 3), .ref (ad V 4), .ref (ad V 56), .ref (ad V 57), .ref (ad V 59), .ref (ad V 61), .ref (ad V 63), .null, .int 0, .int 0]))) (up_id ((BB_k (by decide) (by decide) (by decide) rfl).trans rfl)) ?_
  refine J.cnt (n' := 65) (cs' := 64) (sl' := 1273) rfl rfl rfl ?_
  refine J.putF C hnm ffX5_init_54 (by decide) (va_up_self _ _ _) (Nat.le_of_ble_eq_true rfl) rfl rfl dX5_init_89 ?_
  refine J.mem (M' := va_up (BB V Iz (fun _ => none) (fun _ => none)) 0 (.inr (5, [.ref (ad V 1), .ref (ad V 3), .ref (ad V 4), .ref (ad V 56), .ref (ad V 57), .ref (ad V 59), .ref (ad V 61), .ref (ad V 63), .ref (ad V 64), .int 0, .int 0]))) up_up ?_
  refine J.aload_n C dX5_init_92 rfl ?_
  refine J.iconst C dX5_init_93 (v := (nI 0)) (by decide) ?_
  refine J.put C fpX5_init_57 (by decide) (va_up_self _ _ _) (Nat.le_of_ble_eq_true rfl) rfl rfl dX5_init_94 ?_
  refine J.mem (M' := va_up (BB V Iz (fun _ => none) (fun _ => none)) 0 (.inr (5, [.ref (ad V 1), .ref (ad V 3), .ref (ad V 4), .ref (ad V 56), .ref (ad V 57), .ref (ad V 59), .ref (ad V 61), .ref (ad V 63), .ref (ad V 64), .int (nI 0), .int 0]))) up_up ?_
  refine J.aload_n C dX5_init_97 rfl ?_
  refine J.iconst C dX5_init_98 (v := (nI 0)) (by decide) ?_
  refine J.put C fpX5_init_61 (by decide) (va_up_self _ _ _) (Nat.le_of_ble_eq_true rfl) rfl rfl dX5_init_99 ?_
  refine J.mem (M' := va_up (BB V Iz (fun _ => none) (fun _ => none)) 0 (.inr (5, [.ref (ad V 1), .ref (ad V 3), .ref (ad V 4), .ref (ad V 56), .ref (ad V 57), .ref (ad V 59), .ref (ad V 61), .ref (ad V 63), .ref (ad V 64), .int (nI 0), .int (nI 0)]))) up_up ?_
  refine J.aload_n C dX5_init_102 rfl ?_
  refine J.get C flX5_init_10 (by decide) (va_up_self _ _ _) rfl dX5_init_103 ?_
  refine J.iconst C dX5_init_106 (v := (nI 2)) (by decide) ?_
  refine J.callV (q := (RX3, TX3, 3)) (ci := 3) C (ok_X3_clear_g l V (k := 1) (w := 2) (a := 0) (b := 0) (r := .ref (ad V 2)) (by decide) ((BB_k (by decide) (by decide) (by decide) rfl).trans rfl)) gX5_init_X3_clear rfl mfX3_clear rfl (by decide) (by decide) (by decide) ((BB_k (by decide) (by decide) (by decide) rfl).trans rfl) rfl rfl rfl (Nat.le_of_ble_eq_true rfl) dX5_init_107 (Nat.le_of_ble_eq_true rfl) (Nat.le_of_ble_eq_true rfl) (fun v M' h => ?_)
  obtain ⟨rfl, rfl⟩ := h
  refine J.mem (M' := va_up (BB V I1 (fun _ => none) (fun _ => none)) 0 (.inr (5, [.ref (ad V 1), .ref (ad V 3), .ref (ad V 4), .ref (ad V 56), .ref (ad V 57), .ref (ad V 59), .ref (ad V 61), .ref (ad V 63), .ref (ad V 64), .int (nI 0), .int (nI 0)]))) BB_c ?_
  refine J.cnt (n' := 65) (cs' := 64) (sl' := 1273) rfl rfl rfl ?_
  refine J.iconst C dX5_init_110 (v := (nI 0)) (by decide) ?_
  refine J.istore_n (ls' := [(0, _), (1, _)]) C dX5_init_111 (by decide) rfl ?_
  refine lp_X5_init_s C hN hz (fun f hf => ?_) 4 0 _ (by omega) (fun j hj => absurd hj (Nat.not_lt_zero j))
  refine J.iconst C dX5_init_136 (v := (nI 0)) (by decide) ?_
  refine J.istore_n (ls' := [(0, _), (1, _)]) C dX5_init_137 (by decide) rfl ?_
  refine lp_X5_init_c C hN hz (fun g hg => ?_) 6 0 _ (by omega) (fun j hj => absurd hj (Nat.not_lt_zero j))
  refine J.eqA (M' := mm V I1 Lz) (fun k hk => ?_) (J.vret C dX5_init_163 ⟨rfl, rfl⟩)
  by_cases e0 : k = 0
  · subst e0; rw [va_up_self]; exact Or.inl rfl
  · by_cases e3 : k = 3
    · subst e3
      rw [BB_3]
      exact Or.inr ⟨_, _, _, _, rfl, rfl, hf⟩
    · by_cases e56 : k = 56
      · subst e56
        rw [BB_56]
        exact Or.inr ⟨_, _, _, _, rfl, rfl, hg⟩
      · rw [BB_m e0 e3 e56]; exact Or.inl rfl
