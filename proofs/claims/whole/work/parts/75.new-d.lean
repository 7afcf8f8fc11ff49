/-! CONSTRUCTORS: the reference's -/
def I1 : Nat → Nat → Int32 := up2 Iz 1 0 (nI 2)
def I2 : Nat → Nat → Int32 := up2 I1 85 0 (nI 2)
theorem I2_k {k : Nat} (h : k ≠ 1) (h2 : k ≠ 85) : I2 k = fun _ => 0 := by unfold I2 I1; rw [up2_n _ _ _ h2, up2_n _ _ _ h]; rfl
set_option maxHeartbeats 4000000 in
set_option maxRecDepth 100000 in
theorem ok_X6_init (l : Launch) (V : Vx) {M : Nat → va_E} (hz : V.2.2.2.2.2 = true) (hM : M = va_up (mm V I2 Lz) 85 (.inr (6, [.int 0, .int 0, .null, .null, .null, .null, .null, .null, .null, .null, .null, .null, .int 0, .null, .null, .null, .null, .int 0, .int 0, .null, .null, .null, .null, .null, .null]))) : Ok l V yX6_init wsX6_init 1 86 106 20 5550 [.ref (ad V 85)] M (fun v M' => v = none ∧ M' = mm V I2 Lz) := by
  subst hM
  refine Ok.of (cc := cX6_init) (maxL := 1) (ret := none) (by decide) rfl (Nat.le_of_ble_eq_true rfl) (fun X hnm C => ?_)
  have C : CX l X V RX6 cX6_init 1 wsX6_init 1 20 5550 none := C
  refine J.cast (ls' := [(0, _)]) rfl rfl rfl rfl ?_
  refine J.aload_n C dX6_init_0 rfl ?_
  refine J.obj C (by decide +kernel) (by decide +kernel) (by decide +kernel) (by decide) (Nat.le_of_ble_eq_true rfl) dX6_init_1 ?_
  refine J.aload_n C dX6_init_4 rfl ?_
  refine J.iconst C dX6_init_5 (v := (nI 2)) (by decide) ?_
  refine J.put C fpX6_init_7 (by decide) (va_up_self _ _ _) (Nat.le_of_ble_eq_true rfl) rfl rfl dX6_init_6 ?_
  refine J.mem (M' := va_up (mm V I2 Lz) 85 (.inr (6, [.int (nI 2), .int 0, .null, .null, .null, .null, .null, .null, .null, .null, .null, .null, .int 0, .null, .null, .null, .null, .int 0, .int 0, .null, .null, .null, .null, .null, .null]))) up_up ?_
  refine J.aload_n C dX6_init_9 rfl ?_
  refine J.bipush C dX6_init_10 (v := (nI 40)) (by decide) ?_
  refine J.newI C hz 40 (by decide +kernel) rfl (by decide) (Nat.le_of_ble_eq_true rfl) (Nat.le_of_ble_eq_true rfl) dX6_init_12 ?_
  refine J.mem (M' := va_up (mm V I2 Lz) 85 (.inr (6, [.int (nI 2), .int 0, .null, .null, .null, .null, .null, .null, .null, .null, .null, .null, .int 0, .null, .null, .null, .null, .int 0, .int 0, .null, .null, .null, .null, .null, .null]))) (up_id (by rw [va_up_ne _ _ (by decide), mk_7 (by rfl), I2_k (by decide) (by decide)]; rfl)) ?_
  refine J.cnt (n' := 87) rfl rfl rfl ?_
  refine J.putF C hnm ffX6_init_13 (by decide) (va_up_self _ _ _) (Nat.le_of_ble_eq_true rfl) rfl rfl dX6_init_14 ?_
  refine J.mem (M' := va_up (mm V I2 Lz) 85 (.inr (6, [.int (nI 2), .int 0, .ref (ad V 86), .null, .null, .null, .null, .null, .null, .null, .null, .null, .int 0, .null, .null, .null, .null, .int 0, .int 0, .null, .null, .null, .null, .null, .null]))) up_up ?_
  refine J.aload_n C dX6_init_17 rfl ?_
  refine J.bipush C dX6_init_18 (v := (nI 40)) (by decide) ?_
  refine J.newI C hz 40 (by decide +kernel) rfl (by decide) (Nat.le_of_ble_eq_true rfl) (Nat.le_of_ble_eq_true rfl) dX6_init_20 ?_
  refine J.mem (M' := va_up (mm V I2 Lz) 85 (.inr (6, [.int (nI 2), .int 0, .ref (ad V 86), .null, .null, .null, .null, .null, .null, .null, .null, .null, .int 0, .null, .null, .null, .null, .int 0, .int 0, .null, .null, .null, .null, .null, .null]))) (up_id (by rw [va_up_ne _ _ (by decide), mk_7 (by rfl), I2_k (by decide) (by decide)]; rfl)) ?_
  refine J.cnt (n' := 88) rfl rfl rfl ?_
  refine J.putF C hnm ffX6_init_17 (by decide) (va_up_self _ _ _) (Nat.le_of_ble_eq_true rfl) rfl rfl dX6_init_22 ?_
  refine J.mem (M' := va_up (mm V I2 Lz) 85 (.inr (6, [.int (nI 2), .int 0, .ref (ad V 86), .ref (ad V 87), .null, .null, .null, .null, .null, .null, .null, .null, .int 0, .null, .null, .null, .null, .int 0, .int 0, .null, .null, .null, .null, .null, .null]))) up_up ?_
  refine J.aload_n C dX6_init_25 rfl ?_
  refine J.bipush C dX6_init_26 (v := (nI 40)) (by decide) ?_
  refine J.newI C hz 40 (by decide +kernel) rfl (by decide) (Nat.le_of_ble_eq_true rfl) (Nat.le_of_ble_eq_true rfl) dX6_init_28 ?_
  refine J.mem (M' := va_up (mm V I2 Lz) 85 (.inr (6, [.int (nI 2), .int 0, .ref (ad V 86), .ref (ad V 87), .null, .null, .null, .null, .null, .null, .null, .null, .int 0, .null, .null, .null, .null, .int 0, .int 0, .null, .null, .null, .null, .null, .null]))) (up_id (by rw [va_up_ne _ _ (by decide), mk_7 (by rfl), I2_k (by decide) (by decide)]; rfl)) ?_
  refine J.cnt (n' := 89) rfl rfl rfl ?_
  refine J.putF C hnm ffX6_init_20 (by decide) (va_up_self _ _ _) (Nat.le_of_ble_eq_true rfl) rfl rfl dX6_init_30 ?_
  refine J.mem (M' := va_up (mm V I2 Lz) 85 (.inr (6, [.int (nI 2), .int 0, .ref (ad V 86), .ref (ad V 87), .ref (ad V 88), .null, .null, .null, .null, .null, .null, .null, .int 0, .null, .null, .null, .null, .int 0, .int 0, .null, .null, .null, .null, .null, .null]))) up_up ?_
  refine J.aload_n C dX6_init_33 rfl ?_
  refine J.bipush C dX6_init_34 (v := (nI 40)) (by decide) ?_
  refine J.newZ C hz 40 (by decide +kernel) rfl (by decide) (Nat.le_of_ble_eq_true rfl) (Nat.le_of_ble_eq_true rfl) dX6_init_36 ?_
  refine J.mem (M' := va_up (mm V I2 Lz) 85 (.inr (6, [.int (nI 2), .int 0, .ref (ad V 86), .ref (ad V 87), .ref (ad V 88), .null, .null, .null, .null, .null, .null, .null, .int 0, .null, .null, .null, .null, .int 0, .int 0, .null, .null, .null, .null, .null, .null]))) (up_id (by rw [va_up_ne _ _ (by decide), mk_9 (by rfl), I2_k (by decide) (by decide)]; rfl)) ?_
  refine J.cnt (n' := 90) rfl rfl rfl ?_
  refine J.putF C hnm ffX6_init_23 (by decide) (va_up_self _ _ _) (Nat.le_of_ble_eq_true rfl) rfl rfl dX6_init_38 ?_
  refine J.mem (M' := va_up (mm V I2 Lz) 85 (.inr (6, [.int (nI 2), .int 0, .ref (ad V 86), .ref (ad V 87), .ref (ad V 88), .ref (ad V 89), .null, .null, .null, .null, .null, .null, .int 0, .null, .null, .null, .null, .int 0, .int 0, .null, .null, .null, .null, .null, .null]))) up_up ?_
  refine J.aload_n C dX6_init_41 rfl ?_
  refine J.bipush C dX6_init_42 (v := (nI 30)) (by decide) ?_
  refine J.newI C hz 30 (by decide +kernel) rfl (by decide) (Nat.le_of_ble_eq_true rfl) (Nat.le_of_ble_eq_true rfl) dX6_init_44 ?_
  refine J.mem (M' := va_up (mm V I2 Lz) 85 (.inr (6, [.int (nI 2), .int 0, .ref (ad V 86), .ref (ad V 87), .ref (ad V 88), .ref (ad V 89), .null, .null, .null, .null, .null, .null, .int 0, .null, .null, .null, .null, .int 0, .int 0, .null, .null, .null, .null, .null, .null]))) (up_id (by rw [va_up_ne _ _ (by decide), mk_7 (by rfl), I2_k (by decide) (by decide)]; rfl)) ?_
  refine J.cnt (n' := 91) rfl rfl rfl ?_
  refine J.putF C hnm ffX6_init_27 (by decide) (va_up_self _ _ _) (Nat.le_of_ble_eq_true rfl) rfl rfl dX6_init_46 ?_
  refine J.mem (M' := va_up (mm V I2 Lz) 85 (.inr (6, [.int (nI 2), .int 0, .ref (ad V 86), .ref (ad V 87), .ref (ad V 88), .ref (ad V 89), .ref (ad V 90), .null, .null, .null, .null, .null, .int 0, .null, .null, .null, .null, .int 0, .int 0, .null, .null, .null, .null, .null, .null]))) up_up ?_
  refine J.aload_n C dX6_init_49 rfl ?_
  refine J.bipush C dX6_init_50 (v := (nI 30)) (by decide) ?_
  refine J.newI C hz 30 (by decide +kernel) rfl (by decide) (Nat.le_of_ble_eq_true rfl) (Nat.le_of_ble_eq_true rfl) dX6_init_52 ?_
  refine J.mem (M' := va_up (mm V I2 Lz) 85 (.inr (6, [.int (nI 2), .int 0, .ref (ad V 86), .ref (ad V 87), .ref (ad V 88), .ref (ad V 89), .ref (ad V 90), .null, .null, .null, .null, .null, .int 0, .null, .null, .null, .null, .int 0, .int 0, .null, .null, .null, .null, .null, .null]))) (up_id (by rw [va_up_ne _ _ (by decide), mk_7 (by rfl), I2_k (by decide) (by decide)]; rfl)) ?_
  refine J.cnt (n' := 92) rfl rfl rfl ?_
  refine J.putF C hnm ffX6_init_30 (by decide) (va_up_self _ _ _) (Nat.le_of_ble_eq_true rfl) rfl rfl dX6_init_54 ?_
  refine J.mem (M' := va_up (mm V I2 Lz) 85 (.inr (6, [.int (nI 2), .int 0, .ref (ad V 86), .ref (ad V 87), .ref (ad V 88), .ref (ad V 89), .ref (ad V 90), .ref (ad V 91), .null, .null, .null, .null, .int 0, .null, .null, .null, .null, .int 0, .int 0, .null, .null, .null, .null, .null, .null]))) up_up ?_
  refine J.aload_n C dX6_init_57 rfl ?_
  refine J.sipush C dX6_init_58 (v := (nI 1200)) (by decide) ?_
  refine J.newI C hz 1200 (by decide +kernel) rfl (by decide) (Nat.le_of_ble_eq_true rfl) (Nat.le_of_ble_eq_true rfl) dX6_init_61 ?_
  refine J.mem (M' := va_up (mm V I2 Lz) 85 (.inr (6, [.int (nI 2), .int 0, .ref (ad V 86), .ref (ad V 87), .ref (ad V 88), .ref (ad V 89), .ref (ad V 90), .ref (ad V 91), .null, .null, .null, .null, .int 0, .null, .null, .null, .null, .int 0, .int 0, .null, .null, .null, .null, .null, .null]))) (up_id (by rw [va_up_ne _ _ (by decide), mk_7 (by rfl), I2_k (by decide) (by decide)]; rfl)) ?_
  refine J.cnt (n' := 93) rfl rfl rfl ?_
  refine J.putF C hnm ffX6_init_33 (by decide) (va_up_self _ _ _) (Nat.le_of_ble_eq_true rfl) rfl rfl dX6_init_63 ?_
  refine J.mem (M' := va_up (mm V I2 Lz) 85 (.inr (6, [.int (nI 2), .int 0, .ref (ad V 86), .ref (ad V 87), .ref (ad V 88), .ref (ad V 89), .ref (ad V 90), .ref (ad V 91), .ref (ad V 92), .null, .null, .null, .int 0, .null, .null, .null, .null, .int 0, .int 0, .null, .null, .null, .null, .null, .null]))) up_up ?_
  refine J.aload_n C dX6_init_66 rfl ?_
  refine J.sipush C dX6_init_67 (v := (nI 1200)) (by decide) ?_
  refine J.newI C hz 1200 (by decide +kernel) rfl (by decide) (Nat.le_of_ble_eq_true rfl) (Nat.le_of_ble_eq_true rfl) dX6_init_70 ?_
  refine J.mem (M' := va_up (mm V I2 Lz) 85 (.inr (6, [.int (nI 2), .int 0, .ref (ad V 86), .ref (ad V 87), .ref (ad V 88), .ref (ad V 89), .ref (ad V 90), .ref (ad V 91), .ref (ad V 92), .null, .null, .null, .int 0, .null, .null, .null, .null, .int 0, .int 0, .null, .null, .null, .null, .null, .null]))) (up_id (by rw [va_up_ne _ _ (by decide), mk_7 (by rfl), I2_k (by decide) (by decide)]; rfl)) ?_
  refine J.cnt (n' := 94) rfl rfl rfl ?_
  refine J.putF C hnm ffX6_init_36 (by decide) (va_up_self _ _ _) (Nat.le_of_ble_eq_true rfl) rfl rfl dX6_init_72 ?_
  refine J.mem (M' := va_up (mm V I2 Lz) 85 (.inr (6, [.int (nI 2), .int 0, .ref (ad V 86), .ref (ad V 87), .ref (ad V 88), .ref (ad V 89), .ref (ad V 90), .ref (ad V 91), .ref (ad V 92), .ref (ad V 93), .null, .null, .int 0, .null, .null, .null, .null, .int 0, .int 0, .null, .null, .null, .null, .null, .null]))) up_up ?_
  refine J.aload_n C dX6_init_75 rfl ?_
  refine J.sipush C dX6_init_76 (v := (nI 1200)) (by decide) ?_
  refine J.newI C hz 1200 (by decide +kernel) rfl (by decide) (Nat.le_of_ble_eq_true rfl) (Nat.le_of_ble_eq_true rfl) dX6_init_79 ?_
  refine J.mem (M' := va_up (mm V I2 Lz) 85 (.inr (6, [.int (nI 2), .int 0, .ref (ad V 86), .ref (ad V 87), .ref (ad V 88), .ref (ad V 89), .ref (ad V 90), .ref (ad V 91), .ref (ad V 92), .ref (ad V 93), .null, .null, .int 0, .null, .null, .null, .null, .int 0, .int 0, .null, .null, .null, .null, .null, .null]))) (up_id (by rw [va_up_ne _ _ (by decide), mk_7 (by rfl), I2_k (by decide) (by decide)]; rfl)) ?_
  refine J.cnt (n' := 95) rfl rfl rfl ?_
  refine J.putF C hnm ffX6_init_39 (by decide) (va_up_self _ _ _) (Nat.le_of_ble_eq_true rfl) rfl rfl dX6_init_81 ?_
  refine J.mem (M' := va_up (mm V I2 Lz) 85 (.inr (6, [.int (nI 2), .int 0, .ref (ad V 86), .ref (ad V 87), .ref (ad V 88), .ref (ad V 89), .ref (ad V 90), .ref (ad V 91), .ref (ad V 92), .ref (ad V 93), .ref (ad V 94), .null, .int 0, .null, .null, .null, .null, .int 0, .int 0, .null, .null, .null, .null, .null, .null]))) up_up ?_
  refine J.aload_n C dX6_init_84 rfl ?_
  refine J.sipush C dX6_init_85 (v := (nI 1200)) (by decide) ?_
  refine J.newZ C hz 1200 (by decide +kernel) rfl (by decide) (Nat.le_of_ble_eq_true rfl) (Nat.le_of_ble_eq_true rfl) dX6_init_88 ?_
  refine J.mem (M' := va_up (mm V I2 Lz) 85 (.inr (6, [.int (nI 2), .int 0, .ref (ad V 86), .ref (ad V 87), .ref (ad V 88), .ref (ad V 89), .ref (ad V 90), .ref (ad V 91), .ref (ad V 92), .ref (ad V 93), .ref (ad V 94), .null, .int 0, .null, .null, .null, .null, .int 0, .int 0, .null, .null, .null, .null, .null, .null]))) (up_id (by rw [va_up_ne _ _ (by decide), mk_9 (by rfl), I2_k (by decide) (by decide)]; rfl)) ?_
  refine J.cnt (n' := 96) rfl rfl rfl ?_
  refine J.putF C hnm ffX6_init_42 (by decide) (va_up_self _ _ _) (Nat.le_of_ble_eq_true rfl) rfl rfl dX6_init_90 ?_
  refine J.mem (M' := va_up (mm V I2 Lz) 85 (.inr (6, [.int (nI 2), .int 0, .ref (ad V 86), .ref (ad V 87), .ref (ad V 88), .ref (ad V 89), .ref (ad V 90), .ref (ad V 91), .ref (ad V 92), .ref (ad V 93), .ref (ad V 94), .ref (ad V 95), .int 0, .null, .null, .null, .null, .int 0, .int 0, .null, .null, .null, .null, .null, .null]))) up_up ?_
  refine J.aload_n C dX6_init_93 rfl ?_
  refine J.bipush C dX6_init_94 (v := (nI 6)) (by decide) ?_
  refine J.newI C hz 6 (by decide +kernel) rfl (by decide) (Nat.le_of_ble_eq_true rfl) (Nat.le_of_ble_eq_true rfl) dX6_init_96 ?_
  refine J.mem (M' := va_up (mm V I2 Lz) 85 (.inr (6, [.int (nI 2), .int 0, .ref (ad V 86), .ref (ad V 87), .ref (ad V 88), .ref (ad V 89), .ref (ad V 90), .ref (ad V 91), .ref (ad V 92), .ref (ad V 93), .ref (ad V 94), .ref (ad V 95), .int 0, .null, .null, .null, .null, .int 0, .int 0, .null, .null, .null, .null, .null, .null]))) (up_id (by rw [va_up_ne _ _ (by decide), mk_7 (by rfl), I2_k (by decide) (by decide)]; rfl)) ?_
  refine J.cnt (n' := 97) rfl rfl rfl ?_
  refine J.putF C hnm ffX6_init_45 (by decide) (va_up_self _ _ _) (Nat.le_of_ble_eq_true rfl) rfl rfl dX6_init_98 ?_
  refine J.mem (M' := va_up (mm V I2 Lz) 85 (.inr (6, [.int (nI 2), .int 0, .ref (ad V 86), .ref (ad V 87), .ref (ad V 88), .ref (ad V 89), .ref (ad V 90), .ref (ad V 91), .ref (ad V 92), .ref (ad V 93), .ref (ad V 94), .ref (ad V 95), .int 0, .ref (ad V 96), .null, .null, .null, .int 0, .int 0, .null, .null, .null, .null, .null, .null]))) up_up ?_
  refine J.aload_n C dX6_init_101 rfl ?_
  refine J.bipush C dX6_init_102 (v := (nI 6)) (by decide) ?_
  refine J.newI C hz 6 (by decide +kernel) rfl (by decide) (Nat.le_of_ble_eq_true rfl) (Nat.le_of_ble_eq_true rfl) dX6_init_104 ?_
  refine J.mem (M' := va_up (mm V I2 Lz) 85 (.inr (6, [.int (nI 2), .int 0, .ref (ad V 86), .ref (ad V 87), .ref (ad V 88), .ref (ad V 89), .ref (ad V 90), .ref (ad V 91), .ref (ad V 92), .ref (ad V 93), .ref (ad V 94), .ref (ad V 95), .int 0, .ref (ad V 96), .null, .null, .null, .int 0, .int 0, .null, .null, .null, .null, .null, .null]))) (up_id (by rw [va_up_ne _ _ (by decide), mk_7 (by rfl), I2_k (by decide) (by decide)]; rfl)) ?_
  refine J.cnt (n' := 98) rfl rfl rfl ?_
  refine J.putF C hnm ffX6_init_48 (by decide) (va_up_self _ _ _) (Nat.le_of_ble_eq_true rfl) rfl rfl dX6_init_106 ?_
  refine J.mem (M' := va_up (mm V I2 Lz) 85 (.inr (6, [.int (nI 2), .int 0, .ref (ad V 86), .ref (ad V 87), .ref (ad V 88), .ref (ad V 89), .ref (ad V 90), .ref (ad V 91), .ref (ad V 92), .ref (ad V 93), .ref (ad V 94), .ref (ad V 95), .int 0, .ref (ad V 96), .ref (ad V 97), .null, .null, .int 0, .int 0, .null, .null, .null, .null, .null, .null]))) up_up ?_
  refine J.aload_n C dX6_init_109 rfl ?_
  refine J.bipush C dX6_init_110 (v := (nI 72)) (by decide) ?_
  refine J.newL C hz 72 (by decide +kernel) rfl (by decide) (Nat.le_of_ble_eq_true rfl) (Nat.le_of_ble_eq_true rfl) dX6_init_112 ?_
  refine J.mem (M' := va_up (mm V I2 Lz) 85 (.inr (6, [.int (nI 2), .int 0, .ref (ad V 86), .ref (ad V 87), .ref (ad V 88), .ref (ad V 89), .ref (ad V 90), .ref (ad V 91), .ref (ad V 92), .ref (ad V 93), .ref (ad V 94), .ref (ad V 95), .int 0, .ref (ad V 96), .ref (ad V 97), .null, .null, .int 0, .int 0, .null, .null, .null, .null, .null, .null]))) (up_id (by rw [va_up_ne _ _ (by decide), mk_8 (by rfl)]; rfl)) ?_
  refine J.cnt (n' := 99) rfl rfl rfl ?_
  refine J.putF C hnm ffX6_init_51 (by decide) (va_up_self _ _ _) (Nat.le_of_ble_eq_true rfl) rfl rfl dX6_init_114 ?_
  refine J.mem (M' := va_up (mm V I2 Lz) 85 (.inr (6, [.int (nI 2), .int 0, .ref (ad V 86), .ref (ad V 87), .ref (ad V 88), .ref (ad V 89), .ref (ad V 90), .ref (ad V 91), .ref (ad V 92), .ref (ad V 93), .ref (ad V 94), .ref (ad V 95), .int 0, .ref (ad V 96), .ref (ad V 97), .ref (ad V 98), .null, .int 0, .int 0, .null, .null, .null, .null, .null, .null]))) up_up ?_
  refine J.aload_n C dX6_init_117 rfl ?_
  refine J.bipush C dX6_init_118 (v := (nI 80)) (by decide) ?_
  refine J.newI C hz 80 (by decide +kernel) rfl (by decide) (Nat.le_of_ble_eq_true rfl) (Nat.le_of_ble_eq_true rfl) dX6_init_120 ?_
  refine J.mem (M' := va_up (mm V I2 Lz) 85 (.inr (6, [.int (nI 2), .int 0, .ref (ad V 86), .ref (ad V 87), .ref (ad V 88), .ref (ad V 89), .ref (ad V 90), .ref (ad V 91), .ref (ad V 92), .ref (ad V 93), .ref (ad V 94), .ref (ad V 95), .int 0, .ref (ad V 96), .ref (ad V 97), .ref (ad V 98), .null, .int 0, .int 0, .null, .null, .null, .null, .null, .null]))) (up_id (by rw [va_up_ne _ _ (by decide), mk_7 (by rfl), I2_k (by decide) (by decide)]; rfl)) ?_
  refine J.cnt (n' := 100) rfl rfl rfl ?_
  refine J.putF C hnm ffX6_init_55 (by decide) (va_up_self _ _ _) (Nat.le_of_ble_eq_true rfl) rfl rfl dX6_init_122 ?_
  refine J.mem (M' := va_up (mm V I2 Lz) 85 (.inr (6, [.int (nI 2), .int 0, .ref (ad V 86), .ref (ad V 87), .ref (ad V 88), .ref (ad V 89), .ref (ad V 90), .ref (ad V 91), .ref (ad V 92), .ref (ad V 93), .ref (ad V 94), .ref (ad V 95), .int 0, .ref (ad V 96), .ref (ad V 97), .ref (ad V 98), .ref (ad V 99), .int 0, .int 0, .null, .null, .null, .null, .null, .null]))) up_up ?_
  refine J.aload_n C dX6_init_125 rfl ?_
  refine J.bipush C dX6_init_126 (v := (nI 40)) (by decide) ?_
  refine J.newI C hz 40 (by decide +kernel) rfl (by decide) (Nat.le_of_ble_eq_true rfl) (Nat.le_of_ble_eq_true rfl) dX6_init_128 ?_
  refine J.mem (M' := va_up (mm V I2 Lz) 85 (.inr (6, [.int (nI 2), .int 0, .ref (ad V 86), .ref (ad V 87), .ref (ad V 88), .ref (ad V 89), .ref (ad V 90), .ref (ad V 91), .ref (ad V 92), .ref (ad V 93), .ref (ad V 94), .ref (ad V 95), .int 0, .ref (ad V 96), .ref (ad V 97), .ref (ad V 98), .ref (ad V 99), .int 0, .int 0, .null, .null, .null, .null, .null, .null]))) (up_id (by rw [va_up_ne _ _ (by decide), mk_7 (by rfl), I2_k (by decide) (by decide)]; rfl)) ?_
  refine J.cnt (n' := 101) rfl rfl rfl ?_
  refine J.putF C hnm ffX6_init_58 (by decide) (va_up_self _ _ _) (Nat.le_of_ble_eq_true rfl) rfl rfl dX6_init_130 ?_
  refine J.mem (M' := va_up (mm V I2 Lz) 85 (.inr (6, [.int (nI 2), .int 0, .ref (ad V 86), .ref (ad V 87), .ref (ad V 88), .ref (ad V 89), .ref (ad V 90), .ref (ad V 91), .ref (ad V 92), .ref (ad V 93), .ref (ad V 94), .ref (ad V 95), .int 0, .ref (ad V 96), .ref (ad V 97), .ref (ad V 98), .ref (ad V 99), .int 0, .int 0, .ref (ad V 100), .null, .null, .null, .null, .null]))) up_up ?_
  refine J.aload_n C dX6_init_133 rfl ?_
  refine J.bipush C dX6_init_134 (v := (nI 12)) (by decide) ?_
  refine J.newL C hz 12 (by decide +kernel) rfl (by decide) (Nat.le_of_ble_eq_true rfl) (Nat.le_of_ble_eq_true rfl) dX6_init_136 ?_
  refine J.mem (M' := va_up (mm V I2 Lz) 85 (.inr (6, [.int (nI 2), .int 0, .ref (ad V 86), .ref (ad V 87), .ref (ad V 88), .ref (ad V 89), .ref (ad V 90), .ref (ad V 91), .ref (ad V 92), .ref (ad V 93), .ref (ad V 94), .ref (ad V 95), .int 0, .ref (ad V 96), .ref (ad V 97), .ref (ad V 98), .ref (ad V 99), .int 0, .int 0, .ref (ad V 100), .null, .null, .null, .null, .null]))) (up_id (by rw [va_up_ne _ _ (by decide), mk_8 (by rfl)]; rfl)) ?_
  refine J.cnt (n' := 102) rfl rfl rfl ?_
  refine J.putF C hnm ffX6_init_61 (by decide) (va_up_self _ _ _) (Nat.le_of_ble_eq_true rfl) rfl rfl dX6_init_138 ?_
  refine J.mem (M' := va_up (mm V I2 Lz) 85 (.inr (6, [.int (nI 2), .int 0, .ref (ad V 86), .ref (ad V 87), .ref (ad V 88), .ref (ad V 89), .ref (ad V 90), .ref (ad V 91), .ref (ad V 92), .ref (ad V 93), .ref (ad V 94), .ref (ad V 95), .int 0, .ref (ad V 96), .ref (ad V 97), .ref (ad V 98), .ref (ad V 99), .int 0, .int 0, .ref (ad V 100), .ref (ad V 101), .null, .null, .null, .null]))) up_up ?_
  refine J.aload_n C dX6_init_141 rfl ?_
  refine J.bipush C dX6_init_142 (v := (nI 40)) (by decide) ?_
  refine J.newZ C hz 40 (by decide +kernel) rfl (by decide) (Nat.le_of_ble_eq_true rfl) (Nat.le_of_ble_eq_true rfl) dX6_init_144 ?_
  refine J.mem (M' := va_up (mm V I2 Lz) 85 (.inr (6, [.int (nI 2), .int 0, .ref (ad V 86), .ref (ad V 87), .ref (ad V 88), .ref (ad V 89), .ref (ad V 90), .ref (ad V 91), .ref (ad V 92), .ref (ad V 93), .ref (ad V 94), .ref (ad V 95), .int 0, .ref (ad V 96), .ref (ad V 97), .ref (ad V 98), .ref (ad V 99), .int 0, .int 0, .ref (ad V 100), .ref (ad V 101), .null, .null, .null, .null]))) (up_id (by rw [va_up_ne _ _ (by decide), mk_9 (by rfl), I2_k (by decide) (by decide)]; rfl)) ?_
  refine J.cnt (n' := 103) rfl rfl rfl ?_
  refine J.putF C hnm ffX6_init_64 (by decide) (va_up_self _ _ _) (Nat.le_of_ble_eq_true rfl) rfl rfl dX6_init_146 ?_
  refine J.mem (M' := va_up (mm V I2 Lz) 85 (.inr (6, [.int (nI 2), .int 0, .ref (ad V 86), .ref (ad V 87), .ref (ad V 88), .ref (ad V 89), .ref (ad V 90), .ref (ad V 91), .ref (ad V 92), .ref (ad V 93), .ref (ad V 94), .ref (ad V 95), .int 0, .ref (ad V 96), .ref (ad V 97), .ref (ad V 98), .ref (ad V 99), .int 0, .int 0, .ref (ad V 100), .ref (ad V 101), .ref (ad V 102), .null, .null, .null]))) up_up ?_
  refine J.aload_n C dX6_init_149 rfl ?_
  refine J.bipush C dX6_init_150 (v := (nI 8)) (by decide) ?_
  refine J.newI C hz 8 (by decide +kernel) rfl (by decide) (Nat.le_of_ble_eq_true rfl) (Nat.le_of_ble_eq_true rfl) dX6_init_152 ?_
  refine J.mem (M' := va_up (mm V I2 Lz) 85 (.inr (6, [.int (nI 2), .int 0, .ref (ad V 86), .ref (ad V 87), .ref (ad V 88), .ref (ad V 89), .ref (ad V 90), .ref (ad V 91), .ref (ad V 92), .ref (ad V 93), .ref (ad V 94), .ref (ad V 95), .int 0, .ref (ad V 96), .ref (ad V 97), .ref (ad V 98), .ref (ad V 99), .int 0, .int 0, .ref (ad V 100), .ref (ad V 101), .ref (ad V 102), .null, .null, .null]))) (up_id (by rw [va_up_ne _ _ (by decide), mk_7 (by rfl), I2_k (by decide) (by decide)]; rfl)) ?_
  refine J.cnt (n' := 104) rfl rfl rfl ?_
  refine J.putF C hnm ffX6_init_67 (by decide) (va_up_self _ _ _) (Nat.le_of_ble_eq_true rfl) rfl rfl dX6_init_154 ?_
  refine J.mem (M' := va_up (mm V I2 Lz) 85 (.inr (6, [.int (nI 2), .int 0, .ref (ad V 86), .ref (ad V 87), .ref (ad V 88), .ref (ad V 89), .ref (ad V 90), .ref (ad V 91), .ref (ad V 92), .ref (ad V 93), .ref (ad V 94), .ref (ad V 95), .int 0, .ref (ad V 96), .ref (ad V 97), .ref (ad V 98), .ref (ad V 99), .int 0, .int 0, .ref (ad V 100), .ref (ad V 101), .ref (ad V 102), .ref (ad V 103), .null, .null]))) up_up ?_
  refine J.aload_n C dX6_init_157 rfl ?_
  refine J.bipush C dX6_init_158 (v := (nI 10)) (by decide) ?_
  refine J.newI C hz 10 (by decide +kernel) rfl (by decide) (Nat.le_of_ble_eq_true rfl) (Nat.le_of_ble_eq_true rfl) dX6_init_160 ?_
  refine J.mem (M' := va_up (mm V I2 Lz) 85 (.inr (6, [.int (nI 2), .int 0, .ref (ad V 86), .ref (ad V 87), .ref (ad V 88), .ref (ad V 89), .ref (ad V 90), .ref (ad V 91), .ref (ad V 92), .ref (ad V 93), .ref (ad V 94), .ref (ad V 95), .int 0, .ref (ad V 96), .ref (ad V 97), .ref (ad V 98), .ref (ad V 99), .int 0, .int 0, .ref (ad V 100), .ref (ad V 101), .ref (ad V 102), .ref (ad V 103), .null, .null]))) (up_id (by rw [va_up_ne _ _ (by decide), mk_7 (by rfl), I2_k (by decide) (by decide)]; rfl)) ?_
  refine J.cnt (n' := 105) rfl rfl rfl ?_
  refine J.putF C hnm ffX6_init_70 (by decide) (va_up_self _ _ _) (Nat.le_of_ble_eq_true rfl) rfl rfl dX6_init_162 ?_
  refine J.mem (M' := va_up (mm V I2 Lz) 85 (.inr (6, [.int (nI 2), .int 0, .ref (ad V 86), .ref (ad V 87), .ref (ad V 88), .ref (ad V 89), .ref (ad V 90), .ref (ad V 91), .ref (ad V 92), .ref (ad V 93), .ref (ad V 94), .ref (ad V 95), .int 0, .ref (ad V 96), .ref (ad V 97), .ref (ad V 98), .ref (ad V 99), .int 0, .int 0, .ref (ad V 100), .ref (ad V 101), .ref (ad V 102), .ref (ad V 103), .ref (ad V 104), .null]))) up_up ?_
  refine J.aload_n C dX6_init_165 rfl ?_
  refine J.sipush C dX6_init_166 (v := (nI 256)) (by decide) ?_
  refine J.newI C hz 256 (by decide +kernel) rfl (by decide) (Nat.le_of_ble_eq_true rfl) (Nat.le_of_ble_eq_true rfl) dX6_init_169 ?_
  refine J.mem (M' := va_up (mm V I2 Lz) 85 (.inr (6, [.int (nI 2), .int 0, .ref (ad V 86), .ref (ad V 87), .ref (ad V 88), .ref (ad V 89), .ref (ad V 90), .ref (ad V 91), .ref (ad V 92), .ref (ad V 93), .ref (ad V 94), .ref (ad V 95), .int 0, .ref (ad V 96), .ref (ad V 97), .ref (ad V 98), .ref (ad V 99), .int 0, .int 0, .ref (ad V 100), .ref (ad V 101), .ref (ad V 102), .ref (ad V 103), .ref (ad V 104), .null]))) (up_id (by rw [va_up_ne _ _ (by decide), mk_7 (by rfl), I2_k (by decide) (by decide)]; rfl)) ?_
  refine J.cnt (n' := 106) rfl rfl rfl ?_
  refine J.putF C hnm ffX6_init_73 (by decide) (va_up_self _ _ _) (Nat.le_of_ble_eq_true rfl) rfl rfl dX6_init_171 ?_
  refine J.mem (M' := va_up (mm V I2 Lz) 85 (.inr (6, [.int (nI 2), .int 0, .ref (ad V 86), .ref (ad V 87), .ref (ad V 88), .ref (ad V 89), .ref (ad V 90), .ref (ad V 91), .ref (ad V 92), .ref (ad V 93), .ref (ad V 94), .ref (ad V 95), .int 0, .ref (ad V 96), .ref (ad V 97), .ref (ad V 98), .ref (ad V 99), .int 0, .int 0, .ref (ad V 100), .ref (ad V 101), .ref (ad V 102), .ref (ad V 103), .ref (ad V 104), .ref (ad V 105)]))) up_up ?_
  exact J.vret C dX6_init_174 ⟨rfl, up_id rfl⟩
