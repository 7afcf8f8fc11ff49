/-! CONSTRUCTORS: History -/
theorem hq_X2_init_3 : ∀ w ∈ u_ws RX3 TX3 3, w ∈ wsX2_init := fun w h => List.mem_cons_of_mem _ (List.mem_append_right _ h)
theorem hq_X5_init_3 : ∀ w ∈ u_ws RX3 TX3 3, w ∈ wsX5_init := fun w h => List.mem_cons_of_mem _ (List.mem_append_left _ (List.mem_append_left _ (List.mem_append_left _ (List.mem_append_left _ (List.mem_append_left _ (List.mem_append_right _ h))))))
theorem hq_X5_init_2 : ∀ w ∈ u_ws RX2 TX2 3, w ∈ wsX5_init := fun w h => List.mem_cons_of_mem _ (List.mem_append_left _ (List.mem_append_left _ (List.mem_append_left _ (List.mem_append_right _ h))))
theorem hq_X5_init_4 : ∀ w ∈ u_ws RX4 TX4 2, w ∈ wsX5_init := fun w h => List.mem_cons_of_mem _ (List.mem_append_left _ (List.mem_append_left _ (List.mem_append_right _ h)))
theorem hq_X5_init_0 : ∀ w ∈ u_ws RX0 TX0 4, w ∈ wsX5_init := fun w h => List.mem_cons_of_mem _ (List.mem_append_left _ (List.mem_append_right _ h))
theorem hq_X5_init_1 : ∀ w ∈ u_ws RX1 TX1 3, w ∈ wsX5_init := fun w h => List.mem_cons_of_mem _ (List.mem_append_right _ h)
/-- the memory while History is made: what was there, and what comes -/
def HM (V : Vx) (M : Nat → va_E) (k : Nat) : va_E := if k < 4 then M k else mm V Iz Lz k
def HB (V : Vx) (M : Nat → va_E) (f : Nat → Option Nat) : Nat → va_E := va_up (HM V M) 5 (.inl (V.2.1.2.2.2.2, 25, rf f))
theorem HB_k {V : Vx} {M : Nat → va_E} {f : Nat → Option Nat} {e : va_E} {k : Nat} (h4 : 5 < k) : va_up (HB V M f) 4 e k = mm V Iz Lz k := by
  rw [va_up_ne _ _ (by omega)]
  unfold HB
  rw [va_up_ne _ _ (by omega)]
  exact if_neg (by omega)
set_option maxHeartbeats 4000000 in
set_option maxRecDepth 100000 in
theorem lp_X2_init {l : Launch} {X : Cx} {V : Vx} {Q : State → Prop} {M : Nat → va_E} (C : CX l X V RX2 cX2_init 2 wsX2_init 2 51 1100 none) (hN : NW X.2.2.2.2.1) (hz : V.2.2.2.2.2 = true) (hx : J X V Q 2 56 51 1100 50 [(0, .ref (ad V 4)), (1, .int (nI 25))] [] (HM V M)) : ∀ (z i : Nat) (f : Nat → Option Nat), i + z = 25 → (∀ j, j < i → f j = some (ad V (6 + 2 * j))) → J X V Q 2 (6 + 2 * i) (1 + 2 * i) (25 + 43 * i) 25 [(0, .ref (ad V 4)), (1, .int (nI i))] [] (va_up (HB V M f) 4 (.inr (2, [.ref (ad V 5), .int (nI 0), .int (nI 0)]))) := by
  intro z
  induction z with
  | zero =>
    intro i f hi hf
    obtain rfl : i = 25 := by omega
    refine J.iload_n C dX2_init_25 rfl ?_
    refine J.bipush C dX2_init_26 (v := (nI 25)) (by decide) ?_
    refine J.icmp_ge_n C (by omega) (by omega) dX2_init_28 (tgt := 50) (by decide) (fun _ => ?_) (fun c => absurd c (by omega))
    refine J.eqA (M' := HM V M) (fun k hk => ?_) (J.cnt (by decide) (by decide) (by decide) hx)
    by_cases e4 : k = 4
    · subst e4; exact Or.inl rfl
    · rw [va_up_ne _ _ e4]
      unfold HB
      by_cases e5 : k = 5
      · subst e5
        rw [va_up_self]
        exact Or.inr ⟨_, _, _, _, rfl, rfl, hf⟩
      · rw [va_up_ne _ _ e5]; exact Or.inl rfl
  | succ z ih =>
    intro i f hi0 hf
    have hi : i < 25 := by omega
    refine J.iload_n C dX2_init_25 rfl ?_
    refine J.bipush C dX2_init_26 (v := (nI 25)) (by decide) ?_
    refine J.icmp_ge_n C (by omega) (by omega) dX2_init_28 (tgt := 50) (by decide) (fun c => absurd c (by omega)) (fun _ => ?_)
    refine J.aload_n C dX2_init_31 rfl ?_
    refine J.get C flX2_init_11 (by omega) (va_up_self _ _ _) rfl dX2_init_32 ?_
    refine J.iload_n C dX2_init_35 rfl ?_
    refine J.new C hz tyX3 [.int 0, .int 0, .null] (ci := 3) rfl hq_X2_init_3 tyX3_ok (by decide +kernel) (by decide +kernel) (by decide +kernel) nfX3 (by omega) (by omega) dX2_init_36 ?_
    refine J.dup C dX2_init_39 rfl ?_
    refine J.callIN C (ok_X3_init l V hz (kd6 hi) (va_up_self _ _ _)) gX2_init_X3_init_n24 rfl hN.2.1 (by decide +kernel) (by decide +kernel) rfl mfX3_init (by decide) (by decide) rfl (Nat.le_of_ble_eq_true rfl) dX2_init_40 (by omega) (by omega) (fun v M' h => ?_)
    obtain ⟨rfl, rfl⟩ := h
    refine J.mem (upc_id (HB_k (by omega)) (HB_k (by omega))) ?_
    refine J.cnt (n' := 6 + 2 * (i + 1)) (cs' := 1 + 2 * (i + 1)) (sl' := 25 + 43 * (i + 1)) (by omega) (by omega) (by omega) ?_
    refine J.aas C hz (k := 5) (kv := 6 + 2 * i) (t := 4) (ci := 3) (r := (RX3, TX3, 3)) (by omega) (by rw [va_up_ne _ _ (by decide)]; exact va_up_self _ _ _) rfl (by omega) (by rw [HB_k (by omega)]; exact mk_3 (kd6 hi)) rfl rfl (show i < 25 by omega) (by decide) dX2_init_43 ?_
    refine J.mem (M' := va_up (HB V M (va_up f i (some (ad V (6 + 2 * i))))) 4 (.inr (2, [.ref (ad V 5), .int (nI 0), .int (nI 0)]))) (by rw [up_cm (by decide)]; unfold HB; rw [up_up]) ?_
    refine J.iinc (ls' := [(0, _), (1, _)]) C dX2_init_44 rfl (by first | exact nI_inc _ 1 | exact rfl) (by decide) rfl ?_
    refine J.goto C dX2_init_47 (tgt := 25) (by decide) ?_
    refine ih (i + 1) _ (by omega) (fun j hj => ?_)
    by_cases e : j = i
    · subst e; exact va_up_self _ _ _
    · rw [va_up_ne _ _ e]; exact hf j (by omega)
set_option maxHeartbeats 4000000 in
set_option maxRecDepth 100000 in
theorem ok_X2_init (l : Launch) (V : Vx) {M : Nat → va_E} (hz : V.2.2.2.2.2 = true) (hM : M 4 = .inr (2, [.null, .int 0, .int 0])) : OkN l V yX2_init wsX2_init 2 5 56 51 1100 [.ref (ad V 4)] M (fun v M' => v = none ∧ M' = HM V M) := by
  refine OkN.of (cc := cX2_init) (maxL := 2) (ret := none) (by decide) rfl (Nat.le_of_ble_eq_true rfl) (fun X hnm C hN => ?_)
  have C : CX l X V RX2 cX2_init 2 wsX2_init 2 51 1100 none := C
  refine J.cast (ls' := [(0, _)]) rfl rfl rfl rfl ?_
  refine J.eqA (M' := va_up (HB V M (fun _ => none)) 4 (.inr (2, [.null, .int 0, .int 0]))) (fun k hk => Or.inl ?_) ?_
  · by_cases e4 : k = 4
    · subst e4; rw [va_up_self]; exact hM
    · rw [va_up_ne _ _ e4]
      unfold HB
      rw [va_up_ne _ _ (by omega)]
      exact (if_pos (by omega)).symm
  refine J.aload_n C dX2_init_0 rfl ?_
  refine J.obj C (by decide +kernel) (by decide +kernel) (by decide +kernel) (by decide) (Nat.le_of_ble_eq_true rfl) dX2_init_1 ?_
  refine J.aload_n C dX2_init_4 rfl ?_
  refine J.bipush C dX2_init_5 (v := (nI 25)) (by decide) ?_
  refine J.anew C hz (t := 4) (cA := V.2.1.2.2.2.2) 25 rfl (by decide +kernel) hN.2.2.2.2.2.1 rfl (by decide) (Nat.le_of_ble_eq_true rfl) (Nat.le_of_ble_eq_true rfl) dX2_init_7 ?_
  refine J.mem (up_id (by rw [va_up_ne _ _ (by decide)]; exact va_up_self _ _ _)) ?_
  refine J.cnt (n' := 6) rfl rfl rfl ?_
  refine J.putF C hnm ffX2_init_11 (by omega) (va_up_self _ _ _) (Nat.le_of_ble_eq_true rfl) rfl rfl dX2_init_10 ?_
  refine J.mem up_up ?_
  refine J.aload_n C dX2_init_13 rfl ?_
  refine J.iconst C dX2_init_14 (v := (nI 0)) (by decide) ?_
  refine J.put C fpX2_init_17 (by omega) (va_up_self _ _ _) (Nat.le_of_ble_eq_true rfl) rfl rfl dX2_init_15 ?_
  refine J.mem up_up ?_
  refine J.aload_n C dX2_init_18 rfl ?_
  refine J.iconst C dX2_init_19 (v := (nI 0)) (by decide) ?_
  refine J.put C fpX2_init_21 (by omega) (va_up_self _ _ _) (Nat.le_of_ble_eq_true rfl) rfl rfl dX2_init_20 ?_
  refine J.mem up_up ?_
  refine J.iconst C dX2_init_23 (v := (nI 0)) (by decide) ?_
  refine J.istore_n (ls' := [(0, _), (1, _)]) C dX2_init_24 (by decide) rfl ?_
  exact lp_X2_init C hN hz (J.vret C dX2_init_50 ⟨rfl, rfl⟩) 25 0 _ (by omega) (fun j hj => absurd hj (Nat.not_lt_zero j))
