/-! CONSTRUCTORS: the small ones, and the reference's -/
theorem nfX0 : ∀ j, j < 4 → defaultValue (tyX0 j) = vp_V [.null, .int 0, .int 0, .long 0] j := fun j hj => by
  rcases (show j = 0 ∨ j = 1 ∨ j = 2 ∨ j = 3 by omega) with e | e | e | e <;> subst e <;> rfl
theorem nfX1 : ∀ j, j < 3 → defaultValue (tyX1 j) = vp_V [.int 0, .int 0, .null] j := fun j hj => by
  rcases (show j = 0 ∨ j = 1 ∨ j = 2 by omega) with e | e | e <;> subst e <;> rfl
theorem nfX2 : ∀ j, j < 3 → defaultValue (tyX2 j) = vp_V [.null, .int 0, .int 0] j := fun j hj => by
  rcases (show j = 0 ∨ j = 1 ∨ j = 2 by omega) with e | e | e <;> subst e <;> rfl
theorem nfX3 : ∀ j, j < 3 → defaultValue (tyX3 j) = vp_V [.int 0, .int 0, .null] j := fun j hj => by
  rcases (show j = 0 ∨ j = 1 ∨ j = 2 by omega) with e | e | e <;> subst e <;> rfl
theorem nfX4 : ∀ j, j < 2 → defaultValue (tyX4 j) = vp_V [.null, .long 0] j := fun j hj => by
  rcases (show j = 0 ∨ j = 1 by omega) with e | e <;> subst e <;> rfl
theorem nfX5 : ∀ j, j < 11 → defaultValue (tyX5 j) = vp_V [.null, .null, .null, .null, .null, .null, .null, .null, .null, .int 0, .int 0] j := fun j hj => by
  rcases (show j = 0 ∨ j = 1 ∨ j = 2 ∨ j = 3 ∨ j = 4 ∨ j = 5 ∨ j = 6 ∨ j = 7 ∨ j = 8 ∨ j = 9 ∨ j = 10 by omega) with e | e | e | e | e | e | e | e | e | e | e <;> subst e <;> rfl
theorem nfX6 : ∀ j, j < 25 → defaultValue (tyX6 j) = vp_V [.int 0, .int 0, .null, .null, .null, .null, .null, .null, .null, .null, .null, .null, .int 0, .null, .null, .null, .null, .int 0, .int 0, .null, .null, .null, .null, .null, .null] j := fun j hj => by
  rcases (show j = 0 ∨ j = 1 ∨ j = 2 ∨ j = 3 ∨ j = 4 ∨ j = 5 ∨ j = 6 ∨ j = 7 ∨ j = 8 ∨ j = 9 ∨ j = 10 ∨ j = 11 ∨ j = 12 ∨ j = 13 ∨ j = 14 ∨ j = 15 ∨ j = 16 ∨ j = 17 ∨ j = 18 ∨ j = 19 ∨ j = 20 ∨ j = 21 ∨ j = 22 ∨ j = 23 ∨ j = 24 by omega) with e | e | e | e | e | e | e | e | e | e | e | e | e | e | e | e | e | e | e | e | e | e | e | e | e <;> subst e <;> rfl
theorem mfX3_init : MF yX3_init 0 := ⟨by decide +kernel, by decide +kernel, by decide +kernel⟩
theorem mfX4_init : MF yX4_init 0 := ⟨by decide +kernel, by decide +kernel, by decide +kernel⟩
theorem mfX0_init : MF yX0_init 0 := ⟨by decide +kernel, by decide +kernel, by decide +kernel⟩
theorem mfX1_init : MF yX1_init 0 := ⟨by decide +kernel, by decide +kernel, by decide +kernel⟩
theorem up3k {M : Nat → va_E} {k : Nat} {e a e' : va_E} : va_up (va_up (va_up M k e) (k + 1) a) k e' = va_up (va_up M k e') (k + 1) a := by rw [up_cm (by omega), up_up]
set_option maxHeartbeats 4000000 in
set_option maxRecDepth 100000 in
theorem ok_X3_init (l : Launch) (V : Vx) {k : Nat} {M : Nat → va_E} (hz : V.2.2.2.2.2 = true) (hk : kd k = 3) (hM : M k = .inr (3, [.int 0, .int 0, .null])) : Ok l V yX3_init wsX3_init 1 (k + 1) (k + 2) 1 40 [.ref (ad V k)] M (fun v M' => v = none ∧ M' = upc V M k) := by
  have hq := kdn (k := k) (by omega)
  obtain ⟨hk1, hl1⟩ := hq.1 hk
  refine Ok.of (cc := cX3_init) (maxL := 1) (ret := none) (by decide) rfl (Nat.le_of_ble_eq_true rfl) (fun X hnm C => ?_)
  have C : CX l X V RX3 cX3_init 1 wsX3_init 1 1 40 none := C
  refine J.cast (ls' := [(0, _)]) rfl rfl rfl rfl ?_
  refine J.mem (up_id hM).symm ?_
  refine J.aload_n C dX3_init_0 rfl ?_
  refine J.obj C (by decide +kernel) (by decide +kernel) (by decide +kernel) (by decide) (Nat.le_of_ble_eq_true rfl) dX3_init_1 ?_
  refine J.aload_n C dX3_init_4 rfl ?_
  refine J.iconst C dX3_init_5 (v := (nI 0)) (by decide) ?_
  refine J.put C fpX3_init_9 (by omega) (va_up_self _ _ _) (Nat.le_of_ble_eq_true rfl) rfl rfl dX3_init_6 ?_
  refine J.mem up_up ?_
  refine J.aload_n C dX3_init_9 rfl ?_
  refine J.iconst C dX3_init_10 (v := (nI 0)) (by decide) ?_
  refine J.put C fpX3_init_15 (by omega) (va_up_self _ _ _) (Nat.le_of_ble_eq_true rfl) rfl rfl dX3_init_11 ?_
  refine J.mem up_up ?_
  refine J.aload_n C dX3_init_14 rfl ?_
  refine J.bipush C dX3_init_15 (v := (nI 40)) (by decide) ?_
  refine J.newI C hz 40 (by decide +kernel) rfl (by decide) (Nat.le_of_ble_eq_true rfl) (Nat.le_of_ble_eq_true rfl) dX3_init_17 ?_
  refine J.cnt (n' := k + 2) rfl rfl rfl ?_
  refine J.putF C hnm ffX3_init_18 (by omega) (by rw [va_up_ne _ _ (by omega)]; exact va_up_self _ _ _) (Nat.le_of_ble_eq_true rfl) rfl rfl dX3_init_19 ?_
  refine J.mem up3k ?_
  exact J.vret C dX3_init_22 ⟨rfl, by unfold upc; rw [mk_3 hk, mk_7 hk1, hl1]; rfl⟩
set_option maxHeartbeats 4000000 in
set_option maxRecDepth 100000 in
theorem ok_X1_init (l : Launch) (V : Vx) {k : Nat} {M : Nat → va_E} (hz : V.2.2.2.2.2 = true) (hk : kd k = 1) (hM : M k = .inr (1, [.int 0, .int 0, .null])) : Ok l V yX1_init wsX1_init 1 (k + 1) (k + 2) 1 12 [.ref (ad V k)] M (fun v M' => v = none ∧ M' = upc V M k) := by
  have hq := kdn (k := k) (by omega)
  obtain ⟨hk1, hl1⟩ := hq.2.1 hk
  refine Ok.of (cc := cX1_init) (maxL := 1) (ret := none) (by decide) rfl (Nat.le_of_ble_eq_true rfl) (fun X hnm C => ?_)
  have C : CX l X V RX1 cX1_init 1 wsX1_init 1 1 12 none := C
  refine J.cast (ls' := [(0, _)]) rfl rfl rfl rfl ?_
  refine J.mem (up_id hM).symm ?_
  refine J.aload_n C dX1_init_0 rfl ?_
  refine J.obj C (by decide +kernel) (by decide +kernel) (by decide +kernel) (by decide) (Nat.le_of_ble_eq_true rfl) dX1_init_1 ?_
  refine J.aload_n C dX1_init_4 rfl ?_
  refine J.iconst C dX1_init_5 (v := (nI 0)) (by decide) ?_
  refine J.put C fpX1_init_9 (by omega) (va_up_self _ _ _) (Nat.le_of_ble_eq_true rfl) rfl rfl dX1_init_6 ?_
  refine J.mem up_up ?_
  refine J.aload_n C dX1_init_9 rfl ?_
  refine J.iconst C dX1_init_10 (v := (nI 0)) (by decide) ?_
  refine J.put C fpX1_init_15 (by omega) (va_up_self _ _ _) (Nat.le_of_ble_eq_true rfl) rfl rfl dX1_init_11 ?_
  refine J.mem up_up ?_
  refine J.aload_n C dX1_init_14 rfl ?_
  refine J.bipush C dX1_init_15 (v := (nI 12)) (by decide) ?_
  refine J.newL C hz 12 (by decide +kernel) rfl (by decide) (Nat.le_of_ble_eq_true rfl) (Nat.le_of_ble_eq_true rfl) dX1_init_17 ?_
  refine J.cnt (n' := k + 2) rfl rfl rfl ?_
  refine J.putF C hnm ffX1_init_18 (by omega) (by rw [va_up_ne _ _ (by omega)]; exact va_up_self _ _ _) (Nat.le_of_ble_eq_true rfl) rfl rfl dX1_init_19 ?_
  refine J.mem up3k ?_
  exact J.vret C dX1_init_22 ⟨rfl, by unfold upc; rw [mk_1 hk, mk_8 hk1, hl1]; rfl⟩
set_option maxHeartbeats 4000000 in
set_option maxRecDepth 100000 in
theorem ok_X4_init (l : Launch) (V : Vx) {k : Nat} {M : Nat → va_E} (hz : V.2.2.2.2.2 = true) (hk : kd k = 4) (hM : M k = .inr (4, [.null, .long 0])) : Ok l V yX4_init wsX4_init 1 (k + 1) (k + 2) 1 8 [.ref (ad V k)] M (fun v M' => v = none ∧ M' = upc V M k) := by
  have hq := kdn (k := k) (by omega)
  obtain ⟨hk1, hl1⟩ := hq.2.2.1 hk
  refine Ok.of (cc := cX4_init) (maxL := 1) (ret := none) (by decide) rfl (Nat.le_of_ble_eq_true rfl) (fun X hnm C => ?_)
  have C : CX l X V RX4 cX4_init 1 wsX4_init 1 1 8 none := C
  refine J.cast (ls' := [(0, _)]) rfl rfl rfl rfl ?_
  refine J.mem (up_id hM).symm ?_
  refine J.aload_n C dX4_init_0 rfl ?_
  refine J.obj C (by decide +kernel) (by decide +kernel) (by decide +kernel) (by decide) (Nat.le_of_ble_eq_true rfl) dX4_init_1 ?_
  refine J.aload_n C dX4_init_4 rfl ?_
  refine J.bipush C dX4_init_5 (v := (nI 8)) (by decide) ?_
  refine J.newL C hz 8 (by decide +kernel) rfl (by decide) (Nat.le_of_ble_eq_true rfl) (Nat.le_of_ble_eq_true rfl) dX4_init_7 ?_
  refine J.cnt (n' := k + 2) rfl rfl rfl ?_
  refine J.putF C hnm ffX4_init_9 (by omega) (by rw [va_up_ne _ _ (by omega)]; exact va_up_self _ _ _) (Nat.le_of_ble_eq_true rfl) rfl rfl dX4_init_9 ?_
  refine J.mem up3k ?_
  refine J.aload_n C dX4_init_12 rfl ?_
  refine J.lconst C dX4_init_13 (v := 0) (by decide) ?_
  refine J.put C fpX4_init_15 (by omega) (by rw [va_up_ne _ _ (by omega)]; exact va_up_self _ _ _) (Nat.le_of_ble_eq_true rfl) rfl rfl dX4_init_14 ?_
  refine J.mem up3k ?_
  exact J.vret C dX4_init_17 ⟨rfl, by unfold upc; rw [mk_4 hk, mk_8 hk1, hl1]; rfl⟩
theorem mk_0 {V : Vx} {I : Nat → Nat → Int32} {L : Nat → Nat → Int64} {k : Nat} (h : kd k = 0) : mm V I L k = .inr (0, [.ref (ad V (k + 1)), .int (I k 1), .int (I k 2), .long (L k 3)]) := by simp [mm, h]
set_option maxHeartbeats 4000000 in
set_option maxRecDepth 100000 in
theorem ok_X0_init (l : Launch) (V : Vx) {k : Nat} {M : Nat → va_E} (hz : V.2.2.2.2.2 = true) (hk : kd k = 0) (hM : M k = .inr (0, [.null, .int 0, .int 0, .long 0])) : Ok l V yX0_init wsX0_init 1 (k + 1) (k + 2) 1 5 [.ref (ad V k)] M (fun v M' => v = none ∧ M' = upc V M k) := by
  have hq := kdn (k := k) (by omega)
  obtain ⟨hk1, hl1⟩ := hq.2.2.2 hk
  refine Ok.of (cc := cX0_init) (maxL := 1) (ret := none) (by decide) rfl (Nat.le_of_ble_eq_true rfl) (fun X hnm C => ?_)
  have C : CX l X V RX0 cX0_init 1 wsX0_init 1 1 5 none := C
  refine J.cast (ls' := [(0, _)]) rfl rfl rfl rfl ?_
  refine J.mem (up_id hM).symm ?_
  refine J.aload_n C dX0_init_0 rfl ?_
  refine J.obj C (by decide +kernel) (by decide +kernel) (by decide +kernel) (by decide) (Nat.le_of_ble_eq_true rfl) dX0_init_1 ?_
  refine J.aload_n C dX0_init_4 rfl ?_
  refine J.iconst C dX0_init_5 (v := (nI 5)) (by decide) ?_
  refine J.newI C hz 5 (by decide +kernel) rfl (by decide) (Nat.le_of_ble_eq_true rfl) (Nat.le_of_ble_eq_true rfl) dX0_init_6 ?_
  refine J.cnt (n' := k + 2) rfl rfl rfl ?_
  refine J.putF C hnm ffX0_init_9 (by omega) (by rw [va_up_ne _ _ (by omega)]; exact va_up_self _ _ _) (Nat.le_of_ble_eq_true rfl) rfl rfl dX0_init_8 ?_
  refine J.mem up3k ?_
  refine J.aload_n C dX0_init_11 rfl ?_
  refine J.iconst C dX0_init_12 (v := (nI 0)) (by decide) ?_
  refine J.put C fpX0_init_15 (by omega) (by rw [va_up_ne _ _ (by omega)]; exact va_up_self _ _ _) (Nat.le_of_ble_eq_true rfl) rfl rfl dX0_init_13 ?_
  refine J.mem up3k ?_
  refine J.aload_n C dX0_init_16 rfl ?_
  refine J.iconst C dX0_init_17 (v := (nI 0)) (by decide) ?_
  refine J.put C fpX0_init_19 (by omega) (by rw [va_up_ne _ _ (by omega)]; exact va_up_self _ _ _) (Nat.le_of_ble_eq_true rfl) rfl rfl dX0_init_18 ?_
  refine J.mem up3k ?_
  refine J.aload_n C dX0_init_21 rfl ?_
  refine J.lconst C dX0_init_22 (v := 0) (by decide) ?_
  refine J.put C fpX0_init_22 (by omega) (by rw [va_up_ne _ _ (by omega)]; exact va_up_self _ _ _) (Nat.le_of_ble_eq_true rfl) rfl rfl dX0_init_23 ?_
  refine J.mem up3k ?_
  exact J.vret C dX0_init_26 ⟨rfl, by unfold upc; rw [mk_0 hk, mk_7 hk1, hl1]; rfl⟩
set_option maxHeartbeats 4000000 in
set_option maxRecDepth 100000 in
theorem ok_X3_clear_g (l : Launch) (V : Vx) {k n : Nat} {M : Nat → va_E} {a b : Int32} {r : Value} {w : Nat} (hk : k < n) (hM : M k = .inr (3, [.int a, .int b, r])) : Ok l V yX3_clear wsX3_clear 1 n n 0 0 [.ref (ad V k), .int (nI w)] M (fun v M' => v = none ∧ M' = va_up M k (.inr (3, [.int (nI w), .int (nI 0), r]))) := by
  refine Ok.of (cc := cX3_clear) (maxL := 2) (ret := none) (by decide) rfl (Nat.le_of_ble_eq_true rfl) (fun X hnm C => ?_)
  have C : CX l X V RX3 cX3_clear 2 wsX3_clear 1 0 0 none := C
  refine J.cast (ls' := [(0, _), (1, _)]) rfl rfl rfl rfl ?_
  refine J.mem (up_id hM).symm ?_
  refine J.aload_n C dX3_clear_0 rfl ?_
  refine J.iload_n C dX3_clear_1 rfl ?_
  refine J.put C fpX3_clear_9 hk (va_up_self _ _ _) (Nat.le_of_ble_eq_true rfl) rfl rfl dX3_clear_2 ?_
  refine J.mem up_up ?_
  refine J.aload_n C dX3_clear_5 rfl ?_
  refine J.iconst C dX3_clear_6 (v := (nI 0)) (by decide) ?_
  refine J.put C fpX3_clear_15 hk (va_up_self _ _ _) (Nat.le_of_ble_eq_true rfl) rfl rfl dX3_clear_7 ?_
  refine J.mem up_up ?_
  exact J.vret C dX3_clear_10 ⟨rfl, rfl⟩
