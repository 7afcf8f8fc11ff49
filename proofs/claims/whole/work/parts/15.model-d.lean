/-! THE REFERENCE's store, restore, begins: loops as functions of the ints -/
theorem up2_rd {I : Nat → Nat → Int32} {k j k' j' : Nat} {x v : Int32} (h : k' ≠ k) (e : I k' j' = v) : up2 I k j x k' j' = v := by rw [up2_n _ _ _ h]; exact e
theorem up2_rm {I : Nat → Nat → Int32} {k j j' : Nat} {x v : Int32} (h : j' ≠ j) (e : I k j' = v) : up2 I k j x k j' = v := by rw [up2_m _ _ _ h]; exact e
theorem up3_rd {L : Nat → Nat → Int64} {k j k' j' : Nat} {x v : Int64} (h : k' ≠ k) (e : L k' j' = v) : up3 L k j x k' j' = v := by rw [up3_n _ _ _ h]; exact e
def zn (x : Int32) : Int32 := vp_nar .boolean x
theorem zn_b (b : Bool) : zn (bI b) = bI b := bI_nar2 b
section
variable {l : Launch} {X : Cx} {V : Vx} {Q : State → Prop} {own : String} {cc : ByteArray} {nL n cs sl pc d mc ms : Nat} {Ts : List Cond} {ret : Option FieldType} {ls ls' : List (Nat × Value)} {st : List Value} {M : Nat → va_E} {I : Nat → Nat → Int32} {L : Nat → Nat → Int64} {k j : Nat}
theorem J.zastn (C : CX l X V own cc nL Ts d mc ms ret) {k N : Nat} {f : Nat → Int32} {i x : Int32} (hk : k < n) (hM : M k = .inl (V.2.1.2.2.1, N, .inl f)) (hin : vp_in i N) (hd : decode cc pc = .ok (.bastore, 1)) (kk : J X V Q nL n cs sl (pc + 1) ls st (va_up M k (.inl (V.2.1.2.2.1, N, .inl (upd f i.toNatClampNeg (zn x)))))) : J X V Q nL n cs sl pc ls (.int x :: .int i :: .ref (ad V k) :: st) M := by
  obtain ⟨e1, eR, hx, hb, hml, ho, hts, hK, -⟩ := C
  intro H locs la h1 h2 h3 h4
  have hw := h2 k _ (wl_get hk)
  rw [hM] at hw
  refine W.zast hx hb hw ((hK.1.2 2 _ rfl).1 N (fun j => .int (f j))) (fun q => by cases q) (by show ¬ (i < 0 ∨ (arrV _ _ _).slots.size ≤ _); rw [arrV_size]; exact hin) rfl rfl hd fun H1 e z oq => ?_
  refine kk H1 _ la (sz_put h1 z) (wl_put h2 hk ?_ oq) (S_put h3 z oq) h4
  show H1[_]? = some (vp_cell _ _)
  rw [e, vp_cell_i, vp_cell_i, arrV_store]
  congr 2
  funext q
  by_cases hq : q = i.toNatClampNeg
  · subst hq
    simp [updV, upd, zn, vp_nar]
    try rfl
  · simp [updV, upd, hq]
theorem J.zan (C : CX l X V own cc nL Ts d mc ms ret) {x v : Int32} (hk : kd k = 9) (hx : x = nI j) (hj : j < ln k) (hd : decode cc pc = .ok (.bastore, 1)) (kk : J X V Q nL 106 cs sl (pc + 1) ls st (mm V (up2 I k j (zn v)) L)) : J X V Q nL 106 cs sl pc ls (.int v :: .int x :: .ref (ad V k) :: st) (mm V I L) := by
  obtain ⟨h1, h2⟩ := ix_in hx hj
  exact J.zastn C (kd_lt hk (by decide)) (mk_9 hk) h1 hd (by rw [h2, mp_9 hk]; exact kk)
end
def stR (a : Nat) (I : Nat → Nat → Int32) : Nat → Nat → Nat → Int32
  | 0 => I
  | i + 1 => up2 (up2 (up2 (up2 (stR a I i) 92 (40 * a + i) (stR a I i 86 i)) 93 (40 * a + i) (stR a I i 87 i)) 94 (40 * a + i) (stR a I i 88 i)) 95 (40 * a + i) (zn (stR a I i 89 i))
def stM (I : Nat → Nat → Int32) (a : Nat) : Nat → Nat → Int32 := stR a (up2 (up2 I 90 a (I 85 0)) 91 a (I 85 1)) 40
def rsR (a : Nat) (I : Nat → Nat → Int32) : Nat → Nat → Nat → Int32
  | 0 => I
  | i + 1 => up2 (up2 (up2 (up2 (rsR a I i) 86 i (rsR a I i 92 (40 * a + i))) 87 i (rsR a I i 93 (40 * a + i))) 88 i (rsR a I i 94 (40 * a + i))) 89 i (zn (rsR a I i 95 (40 * a + i)))
def rsM (I : Nat → Nat → Int32) (a : Nat) : Nat → Nat → Int32 := rsR a (up2 (up2 I 85 0 (I 90 a)) 85 1 (I 91 a)) 40
def shA (I : Nat → Nat → Int32) : Nat → Nat → Nat → Int32
  | 0 => I
  | i + 1 => up2 (up2 (shA I i) 90 i (shA I i 90 (i + 1))) 91 i (shA I i 91 (i + 1))
def shB (I : Nat → Nat → Int32) : Nat → Nat → Nat → Int32
  | 0 => I
  | i + 1 => up2 (up2 (up2 (up2 (shB I i) 92 i (shB I i 92 (i + 40))) 93 i (shB I i 93 (i + 40))) 94 i (shB I i 94 (i + 40))) 95 i (zn (shB I i 95 (i + 40)))
set_option maxHeartbeats 4000000 in
set_option maxRecDepth 100000 in
theorem lp_X6_store {l : Launch} {X : Cx} {V : Vx} {P : Option Value → (Nat → va_E) → Prop} {I : Nat → Nat → Int32} {L : Nat → Nat → Int64} (C : CX l X V RX6 cX6_store 3 wsX6_store 1 0 0 none) {a : Nat} (ha : a < 30) (hP : P none (mm V (stR a I 40) L)) : ∀ (k i : Nat), i + k = 40 → E X V P 3 22 [(0, .ref (ad V 85)), (1, .int (nI a)), (2, .int (nI i))] [] (stR a I i) L := by
  intro k
  induction k with
  | zero =>
    intro i hi
    obtain rfl : i = 40 := by omega
    refine J.iload_n C dX6_store_22 rfl ?_
    refine J.bipush C dX6_store_23 (v := (nI 40)) (by decide) ?_
    first | refine J.icmp_ge_n C (by omega) (by omega) dX6_store_25 (tgt := 102) (by decide) (fun _ => ?_) (fun c25 => absurd c25 (by first | omega | decide | simp_all)) | refine J.icmp_ge_xn C (by omega) dX6_store_25 (tgt := 102) (by decide) (fun _ => ?_) (fun c25 => absurd c25 (by first | omega | decide | simp_all)) | refine J.icmp_ge_nx C (by omega) dX6_store_25 (tgt := 102) (by decide) (fun _ => ?_) (fun c25 => absurd c25 (by first | omega | decide | simp_all)) | refine J.icmp_ge C dX6_store_25 (tgt := 102) (by decide) (fun _ => ?_) (fun c25 => absurd c25 (by first | omega | decide | simp_all))
    exact J.vret C dX6_store_102 hP
  | succ k ih =>
    intro i hi
    refine J.iload_n C dX6_store_22 rfl ?_
    refine J.bipush C dX6_store_23 (v := (nI 40)) (by decide) ?_
    first | refine J.icmp_ge_n C (by omega) (by omega) dX6_store_25 (tgt := 102) (by decide) (fun c25 => absurd c25 (by first | omega | decide | simp_all)) (fun _ => ?_) | refine J.icmp_ge_xn C (by omega) dX6_store_25 (tgt := 102) (by decide) (fun c25 => absurd c25 (by first | omega | decide | simp_all)) (fun _ => ?_) | refine J.icmp_ge_nx C (by omega) dX6_store_25 (tgt := 102) (by decide) (fun c25 => absurd c25 (by first | omega | decide | simp_all)) (fun _ => ?_) | refine J.icmp_ge C dX6_store_25 (tgt := 102) (by decide) (fun c25 => absurd c25 (by first | omega | decide | simp_all)) (fun _ => ?_)
    refine J.aload_n C dX6_store_28 rfl ?_
    refine J.getR C flX6_store_33 (by first | decide | omega) rfl (by exact rfl) dX6_store_29 ?_
    refine J.bipush C dX6_store_32 (v := (nI 40)) (by decide) ?_
    refine J.iload_n C dX6_store_34 rfl ?_
    first | refine J.imul_n C dX6_store_35 ?_ | refine J.imul C dX6_store_35 ?_
    refine J.iload_n C dX6_store_36 rfl ?_
    first | refine J.iadd_n C dX6_store_37 ?_ | refine J.iadd C dX6_store_37 ?_
    refine J.aload_n C dX6_store_38 rfl ?_
    refine J.getR C flX6_store_13 (by first | decide | omega) rfl (by exact rfl) dX6_store_39 ?_
    refine J.iload_n C dX6_store_42 rfl ?_
    refine J.ia C (by first | exact rfl | assumption) (by first | exact rfl | exact rfl) (by first | (have h_ln := ln_all; omega) | omega) (by first | ((repeat (first | refine up2_rd (by decide) ?_ | refine up2_rm (by decide) ?_ | refine up3_rd (by decide) ?_)) <;> (first | exact up2_s _ _ _ _ | assumption | exact rfl))) dX6_store_43 ?_
    refine J.ias C (by first | exact rfl | assumption) (by first | exact rfl | exact rfl) (by first | (have h_ln := ln_all; omega) | omega) dX6_store_44 ?_
    refine J.aload_n C dX6_store_45 rfl ?_
    refine J.getR C flX6_store_36 (by first | decide | omega) rfl (by exact rfl) dX6_store_46 ?_
    refine J.bipush C dX6_store_49 (v := (nI 40)) (by decide) ?_
    refine J.iload_n C dX6_store_51 rfl ?_
    first | refine J.imul_n C dX6_store_52 ?_ | refine J.imul C dX6_store_52 ?_
    refine J.iload_n C dX6_store_53 rfl ?_
    first | refine J.iadd_n C dX6_store_54 ?_ | refine J.iadd C dX6_store_54 ?_
    refine J.aload_n C dX6_store_55 rfl ?_
    refine J.getR C flX6_store_17 (by first | decide | omega) rfl (by exact rfl) dX6_store_56 ?_
    refine J.iload_n C dX6_store_59 rfl ?_
    refine J.ia C (by first | exact rfl | assumption) (by first | exact rfl | exact rfl) (by first | (have h_ln := ln_all; omega) | omega) (by first | ((repeat (first | refine up2_rd (by decide) ?_ | refine up2_rm (by decide) ?_ | refine up3_rd (by decide) ?_)) <;> (first | exact up2_s _ _ _ _ | assumption | exact rfl))) dX6_store_60 ?_
    refine J.ias C (by first | exact rfl | assumption) (by first | exact rfl | exact rfl) (by first | (have h_ln := ln_all; omega) | omega) dX6_store_61 ?_
    refine J.aload_n C dX6_store_62 rfl ?_
    refine J.getR C flX6_store_39 (by first | decide | omega) rfl (by exact rfl) dX6_store_63 ?_
    refine J.bipush C dX6_store_66 (v := (nI 40)) (by decide) ?_
    refine J.iload_n C dX6_store_68 rfl ?_
    first | refine J.imul_n C dX6_store_69 ?_ | refine J.imul C dX6_store_69 ?_
    refine J.iload_n C dX6_store_70 rfl ?_
    first | refine J.iadd_n C dX6_store_71 ?_ | refine J.iadd C dX6_store_71 ?_
    refine J.aload_n C dX6_store_72 rfl ?_
    refine J.getR C flX6_store_20 (by first | decide | omega) rfl (by exact rfl) dX6_store_73 ?_
    refine J.iload_n C dX6_store_76 rfl ?_
    refine J.ia C (by first | exact rfl | assumption) (by first | exact rfl | exact rfl) (by first | (have h_ln := ln_all; omega) | omega) (by first | ((repeat (first | refine up2_rd (by decide) ?_ | refine up2_rm (by decide) ?_ | refine up3_rd (by decide) ?_)) <;> (first | exact up2_s _ _ _ _ | assumption | exact rfl))) dX6_store_77 ?_
    refine J.ias C (by first | exact rfl | assumption) (by first | exact rfl | exact rfl) (by first | (have h_ln := ln_all; omega) | omega) dX6_store_78 ?_
    refine J.aload_n C dX6_store_79 rfl ?_
    refine J.getR C flX6_store_42 (by first | decide | omega) rfl (by exact rfl) dX6_store_80 ?_
    refine J.bipush C dX6_store_83 (v := (nI 40)) (by decide) ?_
    refine J.iload_n C dX6_store_85 rfl ?_
    first | refine J.imul_n C dX6_store_86 ?_ | refine J.imul C dX6_store_86 ?_
    refine J.iload_n C dX6_store_87 rfl ?_
    first | refine J.iadd_n C dX6_store_88 ?_ | refine J.iadd C dX6_store_88 ?_
    refine J.aload_n C dX6_store_89 rfl ?_
    refine J.getR C flX6_store_23 (by first | decide | omega) rfl (by exact rfl) dX6_store_90 ?_
    refine J.iload_n C dX6_store_93 rfl ?_
    refine J.za C (by first | exact rfl | assumption) (by first | exact rfl | exact rfl) (by first | (have h_ln := ln_all; omega) | omega) (by first | ((repeat (first | refine up2_rd (by decide) ?_ | refine up2_rm (by decide) ?_ | refine up3_rd (by decide) ?_)) <;> (first | exact up2_s _ _ _ _ | assumption | exact rfl))) dX6_store_94 ?_
    refine J.zan C (by first | exact rfl | assumption) (by first | exact rfl | exact rfl) (by first | (have h_ln := ln_all; omega) | omega) dX6_store_95 ?_
    refine J.iinc (ls' := [(0, _), (1, _), (2, _)]) C dX6_store_96 rfl (by first | exact nI_inc _ 1 | exact rfl) (by decide) rfl ?_
    refine J.goto C dX6_store_99 (tgt := 22) (by decide) ?_
    exact ih (i + 1) (by omega)
set_option maxHeartbeats 4000000 in
set_option maxRecDepth 100000 in
theorem ok_X6_store (l : Launch) (V : Vx) {a : Nat} (I : Nat → Nat → Int32) (L : Nat → Nat → Int64) (ha : a < 30) : Dv l V yX6_store wsX6_store 1 [.ref (ad V 85), .int (nI a)] I L (stM I a) L := by
  refine Ok.of (cc := cX6_store) (maxL := 3) (ret := none) (by decide) rfl (Nat.le_of_ble_eq_true rfl) (fun X hnm C => ?_)
  have C : CX l X V RX6 cX6_store 3 wsX6_store 1 0 0 none := C
  refine J.cast (ls' := [(0, _), (1, _)]) rfl rfl rfl rfl ?_
  refine J.aload_n C dX6_store_0 rfl ?_
  refine J.getR C flX6_store_27 (by first | decide | omega) rfl (by exact rfl) dX6_store_1 ?_
  refine J.iload_n C dX6_store_4 rfl ?_
  refine J.aload_n C dX6_store_5 rfl ?_
  refine J.getI C flX6_store_7 (by first | decide | omega) rfl (by exact rfl) (by first | ((repeat (first | refine up2_rd (by decide) ?_ | refine up2_rm (by decide) ?_ | refine up3_rd (by decide) ?_)) <;> (first | exact up2_s _ _ _ _ | assumption | exact rfl))) dX6_store_6 ?_
  refine J.ias C (by first | exact rfl | assumption) (by first | exact rfl | exact rfl) (by first | (have h_ln := ln_all; omega) | omega) dX6_store_9 ?_
  refine J.aload_n C dX6_store_10 rfl ?_
  refine J.getR C flX6_store_30 (by first | decide | omega) rfl (by exact rfl) dX6_store_11 ?_
  refine J.iload_n C dX6_store_14 rfl ?_
  refine J.aload_n C dX6_store_15 rfl ?_
  refine J.getI C flX6_store_79 (by first | decide | omega) rfl (by exact rfl) (by first | ((repeat (first | refine up2_rd (by decide) ?_ | refine up2_rm (by decide) ?_ | refine up3_rd (by decide) ?_)) <;> (first | exact up2_s _ _ _ _ | assumption | exact rfl))) dX6_store_16 ?_
  refine J.ias C (by first | exact rfl | assumption) (by first | exact rfl | exact rfl) (by first | (have h_ln := ln_all; omega) | omega) dX6_store_19 ?_
  refine J.iconst C dX6_store_20 (v := (nI 0)) (by decide) ?_
  refine J.istore_n (ls' := [(0, _), (1, _), (2, _)]) C dX6_store_21 (by decide) rfl ?_
  exact lp_X6_store C ha ⟨rfl, rfl⟩ 40 0 (by omega)
set_option maxHeartbeats 4000000 in
set_option maxRecDepth 100000 in
theorem lp_X6_restore {l : Launch} {X : Cx} {V : Vx} {P : Option Value → (Nat → va_E) → Prop} {I : Nat → Nat → Int32} {L : Nat → Nat → Int64} (C : CX l X V RX6 cX6_restore 3 wsX6_restore 1 0 0 none) {a : Nat} (ha : a < 30) (hP : P none (mm V (rsR a I 40) L)) : ∀ (k i : Nat), i + k = 40 → E X V P 3 22 [(0, .ref (ad V 85)), (1, .int (nI a)), (2, .int (nI i))] [] (rsR a I i) L := by
  intro k
  induction k with
  | zero =>
    intro i hi
    obtain rfl : i = 40 := by omega
    refine J.iload_n C dX6_restore_22 rfl ?_
    refine J.bipush C dX6_restore_23 (v := (nI 40)) (by decide) ?_
    first | refine J.icmp_ge_n C (by omega) (by omega) dX6_restore_25 (tgt := 102) (by decide) (fun _ => ?_) (fun c25 => absurd c25 (by first | omega | decide | simp_all)) | refine J.icmp_ge_xn C (by omega) dX6_restore_25 (tgt := 102) (by decide) (fun _ => ?_) (fun c25 => absurd c25 (by first | omega | decide | simp_all)) | refine J.icmp_ge_nx C (by omega) dX6_restore_25 (tgt := 102) (by decide) (fun _ => ?_) (fun c25 => absurd c25 (by first | omega | decide | simp_all)) | refine J.icmp_ge C dX6_restore_25 (tgt := 102) (by decide) (fun _ => ?_) (fun c25 => absurd c25 (by first | omega | decide | simp_all))
    exact J.vret C dX6_restore_102 hP
  | succ k ih =>
    intro i hi
    refine J.iload_n C dX6_restore_22 rfl ?_
    refine J.bipush C dX6_restore_23 (v := (nI 40)) (by decide) ?_
    first | refine J.icmp_ge_n C (by omega) (by omega) dX6_restore_25 (tgt := 102) (by decide) (fun c25 => absurd c25 (by first | omega | decide | simp_all)) (fun _ => ?_) | refine J.icmp_ge_xn C (by omega) dX6_restore_25 (tgt := 102) (by decide) (fun c25 => absurd c25 (by first | omega | decide | simp_all)) (fun _ => ?_) | refine J.icmp_ge_nx C (by omega) dX6_restore_25 (tgt := 102) (by decide) (fun c25 => absurd c25 (by first | omega | decide | simp_all)) (fun _ => ?_) | refine J.icmp_ge C dX6_restore_25 (tgt := 102) (by decide) (fun c25 => absurd c25 (by first | omega | decide | simp_all)) (fun _ => ?_)
    refine J.aload_n C dX6_restore_28 rfl ?_
    refine J.getR C flX6_restore_13 (by first | decide | omega) rfl (by exact rfl) dX6_restore_29 ?_
    refine J.iload_n C dX6_restore_32 rfl ?_
    refine J.aload_n C dX6_restore_33 rfl ?_
    refine J.getR C flX6_restore_33 (by first | decide | omega) rfl (by exact rfl) dX6_restore_34 ?_
    refine J.bipush C dX6_restore_37 (v := (nI 40)) (by decide) ?_
    refine J.iload_n C dX6_restore_39 rfl ?_
    first | refine J.imul_n C dX6_restore_40 ?_ | refine J.imul C dX6_restore_40 ?_
    refine J.iload_n C dX6_restore_41 rfl ?_
    first | refine J.iadd_n C dX6_restore_42 ?_ | refine J.iadd C dX6_restore_42 ?_
    refine J.ia C (by first | exact rfl | assumption) (by first | exact rfl | exact rfl) (by first | (have h_ln := ln_all; omega) | omega) (by first | ((repeat (first | refine up2_rd (by decide) ?_ | refine up2_rm (by decide) ?_ | refine up3_rd (by decide) ?_)) <;> (first | exact up2_s _ _ _ _ | assumption | exact rfl))) dX6_restore_43 ?_
    refine J.ias C (by first | exact rfl | assumption) (by first | exact rfl | exact rfl) (by first | (have h_ln := ln_all; omega) | omega) dX6_restore_44 ?_
    refine J.aload_n C dX6_restore_45 rfl ?_
    refine J.getR C flX6_restore_17 (by first | decide | omega) rfl (by exact rfl) dX6_restore_46 ?_
    refine J.iload_n C dX6_restore_49 rfl ?_
    refine J.aload_n C dX6_restore_50 rfl ?_
    refine J.getR C flX6_restore_36 (by first | decide | omega) rfl (by exact rfl) dX6_restore_51 ?_
    refine J.bipush C dX6_restore_54 (v := (nI 40)) (by decide) ?_
    refine J.iload_n C dX6_restore_56 rfl ?_
    first | refine J.imul_n C dX6_restore_57 ?_ | refine J.imul C dX6_restore_57 ?_
    refine J.iload_n C dX6_restore_58 rfl ?_
    first | refine J.iadd_n C dX6_restore_59 ?_ | refine J.iadd C dX6_restore_59 ?_
    refine J.ia C (by first | exact rfl | assumption) (by first | exact rfl | exact rfl) (by first | (have h_ln := ln_all; omega) | omega) (by first | ((repeat (first | refine up2_rd (by decide) ?_ | refine up2_rm (by decide) ?_ | refine up3_rd (by decide) ?_)) <;> (first | exact up2_s _ _ _ _ | assumption | exact rfl))) dX6_restore_60 ?_
    refine J.ias C (by first | exact rfl | assumption) (by first | exact rfl | exact rfl) (by first | (have h_ln := ln_all; omega) | omega) dX6_restore_61 ?_
    refine J.aload_n C dX6_restore_62 rfl ?_
    refine J.getR C flX6_restore_20 (by first | decide | omega) rfl (by exact rfl) dX6_restore_63 ?_
    refine J.iload_n C dX6_restore_66 rfl ?_
    refine J.aload_n C dX6_restore_67 rfl ?_
    refine J.getR C flX6_restore_39 (by first | decide | omega) rfl (by exact rfl) dX6_restore_68 ?_
    refine J.bipush C dX6_restore_71 (v := (nI 40)) (by decide) ?_
    refine J.iload_n C dX6_restore_73 rfl ?_
    first | refine J.imul_n C dX6_restore_74 ?_ | refine J.imul C dX6_restore_74 ?_
    refine J.iload_n C dX6_restore_75 rfl ?_
    first | refine J.iadd_n C dX6_restore_76 ?_ | refine J.iadd C dX6_restore_76 ?_
    refine J.ia C (by first | exact rfl | assumption) (by first | exact rfl | exact rfl) (by first | (have h_ln := ln_all; omega) | omega) (by first | ((repeat (first | refine up2_rd (by decide) ?_ | refine up2_rm (by decide) ?_ | refine up3_rd (by decide) ?_)) <;> (first | exact up2_s _ _ _ _ | assumption | exact rfl))) dX6_restore_77 ?_
    refine J.ias C (by first | exact rfl | assumption) (by first | exact rfl | exact rfl) (by first | (have h_ln := ln_all; omega) | omega) dX6_restore_78 ?_
    refine J.aload_n C dX6_restore_79 rfl ?_
    refine J.getR C flX6_restore_23 (by first | decide | omega) rfl (by exact rfl) dX6_restore_80 ?_
    refine J.iload_n C dX6_restore_83 rfl ?_
    refine J.aload_n C dX6_restore_84 rfl ?_
    refine J.getR C flX6_restore_42 (by first | decide | omega) rfl (by exact rfl) dX6_restore_85 ?_
    refine J.bipush C dX6_restore_88 (v := (nI 40)) (by decide) ?_
    refine J.iload_n C dX6_restore_90 rfl ?_
    first | refine J.imul_n C dX6_restore_91 ?_ | refine J.imul C dX6_restore_91 ?_
    refine J.iload_n C dX6_restore_92 rfl ?_
    first | refine J.iadd_n C dX6_restore_93 ?_ | refine J.iadd C dX6_restore_93 ?_
    refine J.za C (by first | exact rfl | assumption) (by first | exact rfl | exact rfl) (by first | (have h_ln := ln_all; omega) | omega) (by first | ((repeat (first | refine up2_rd (by decide) ?_ | refine up2_rm (by decide) ?_ | refine up3_rd (by decide) ?_)) <;> (first | exact up2_s _ _ _ _ | assumption | exact rfl))) dX6_restore_94 ?_
    refine J.zan C (by first | exact rfl | assumption) (by first | exact rfl | exact rfl) (by first | (have h_ln := ln_all; omega) | omega) dX6_restore_95 ?_
    refine J.iinc (ls' := [(0, _), (1, _), (2, _)]) C dX6_restore_96 rfl (by first | exact nI_inc _ 1 | exact rfl) (by decide) rfl ?_
    refine J.goto C dX6_restore_99 (tgt := 22) (by decide) ?_
    exact ih (i + 1) (by omega)
set_option maxHeartbeats 4000000 in
set_option maxRecDepth 100000 in
theorem ok_X6_restore (l : Launch) (V : Vx) {a : Nat} (I : Nat → Nat → Int32) (L : Nat → Nat → Int64) (ha : a < 30) : Dv l V yX6_restore wsX6_restore 1 [.ref (ad V 85), .int (nI a)] I L (rsM I a) L := by
  refine Ok.of (cc := cX6_restore) (maxL := 3) (ret := none) (by decide) rfl (Nat.le_of_ble_eq_true rfl) (fun X hnm C => ?_)
  have C : CX l X V RX6 cX6_restore 3 wsX6_restore 1 0 0 none := C
  refine J.cast (ls' := [(0, _), (1, _)]) rfl rfl rfl rfl ?_
  refine J.aload_n C dX6_restore_0 rfl ?_
  refine J.aload_n C dX6_restore_1 rfl ?_
  refine J.getR C flX6_restore_27 (by first | decide | omega) rfl (by exact rfl) dX6_restore_2 ?_
  refine J.iload_n C dX6_restore_5 rfl ?_
  refine J.ia C (by first | exact rfl | assumption) (by first | exact rfl | exact rfl) (by first | (have h_ln := ln_all; omega) | omega) (by first | ((repeat (first | refine up2_rd (by decide) ?_ | refine up2_rm (by decide) ?_ | refine up3_rd (by decide) ?_)) <;> (first | exact up2_s _ _ _ _ | assumption | exact rfl))) dX6_restore_6 ?_
  refine J.putI C fpX6_restore_7 (by first | decide | omega) rfl (Nat.le_of_ble_eq_true rfl) (by first | exact mp_6_0 rfl | exact mp_6_0 (by assumption)) dX6_restore_7 ?_
  refine J.aload_n C dX6_restore_10 rfl ?_
  refine J.aload_n C dX6_restore_11 rfl ?_
  refine J.getR C flX6_restore_30 (by first | decide | omega) rfl (by exact rfl) dX6_restore_12 ?_
  refine J.iload_n C dX6_restore_15 rfl ?_
  refine J.ia C (by first | exact rfl | assumption) (by first | exact rfl | exact rfl) (by first | (have h_ln := ln_all; omega) | omega) (by first | ((repeat (first | refine up2_rd (by decide) ?_ | refine up2_rm (by decide) ?_ | refine up3_rd (by decide) ?_)) <;> (first | exact up2_s _ _ _ _ | assumption | exact rfl))) dX6_restore_16 ?_
  refine J.putI C fpX6_restore_79 (by first | decide | omega) rfl (Nat.le_of_ble_eq_true rfl) (by first | exact mp_6_1 rfl | exact mp_6_1 (by assumption)) dX6_restore_17 ?_
  refine J.iconst C dX6_restore_20 (v := (nI 0)) (by decide) ?_
  refine J.istore_n (ls' := [(0, _), (1, _), (2, _)]) C dX6_restore_21 (by decide) rfl ?_
  exact lp_X6_restore C ha ⟨rfl, rfl⟩ 40 0 (by omega)
def beS (I : Nat → Nat → Int32) (q : Nat) : Nat → Nat → Int32 := up2 (stM I q) 85 12 (nI (q + 1))
def beM (I : Nat → Nat → Int32) (q : Nat) : Nat → Nat → Int32 := if q = 25 then beS (up2 (shB (shA I 24) 960) 85 12 (nI 24)) 24 else beS I q
theorem stR_o {a : Nat} {I : Nat → Nat → Int32} {k : Nat} (h : k ≠ 92) (h2 : k ≠ 93) (h3 : k ≠ 94) (h4 : k ≠ 95) : ∀ i, stR a I i k = I k
  | 0 => rfl
  | i + 1 => by unfold stR; rw [up2_n _ _ _ h4, up2_n _ _ _ h3, up2_n _ _ _ h2, up2_n _ _ _ h]; exact stR_o h h2 h3 h4 i
theorem stM_85 {I : Nat → Nat → Int32} {a : Nat} : stM I a 85 = I 85 := by unfold stM; rw [stR_o (by decide) (by decide) (by decide) (by decide), up2_n _ _ _ (by decide), up2_n _ _ _ (by decide)]
set_option maxHeartbeats 4000000 in
set_option maxRecDepth 100000 in
theorem lp_X6_begins_a {l : Launch} {X : Cx} {V : Vx} {P : Option Value → (Nat → va_E) → Prop} {I : Nat → Nat → Int32} {L : Nat → Nat → Int64} (C : CX l X V RX6 cX6_begins 2 wsX6_begins 2 0 0 none) (hx : E X V P 2 51 [(0, .ref (ad V 85)), (1, .int (nI 24))] [] (shA I 24) L) : ∀ (k i : Nat), i + k = 24 → E X V P 2 11 [(0, .ref (ad V 85)), (1, .int (nI i))] [] (shA I i) L := by
  intro k
  induction k with
  | zero =>
    intro i hi
    obtain rfl : i = 24 := by omega
    refine J.iload_n C dX6_begins_11 rfl ?_
    refine J.bipush C dX6_begins_12 (v := (nI 24)) (by decide) ?_
    first | refine J.icmp_ge_n C (by omega) (by omega) dX6_begins_14 (tgt := 51) (by decide) (fun _ => ?_) (fun c14 => absurd c14 (by first | omega | decide | simp_all)) | refine J.icmp_ge_xn C (by omega) dX6_begins_14 (tgt := 51) (by decide) (fun _ => ?_) (fun c14 => absurd c14 (by first | omega | decide | simp_all)) | refine J.icmp_ge_nx C (by omega) dX6_begins_14 (tgt := 51) (by decide) (fun _ => ?_) (fun c14 => absurd c14 (by first | omega | decide | simp_all)) | refine J.icmp_ge C dX6_begins_14 (tgt := 51) (by decide) (fun _ => ?_) (fun c14 => absurd c14 (by first | omega | decide | simp_all))
    exact hx
  | succ k ih =>
    intro i hi
    refine J.iload_n C dX6_begins_11 rfl ?_
    refine J.bipush C dX6_begins_12 (v := (nI 24)) (by decide) ?_
    first | refine J.icmp_ge_n C (by omega) (by omega) dX6_begins_14 (tgt := 51) (by decide) (fun c14 => absurd c14 (by first | omega | decide | simp_all)) (fun _ => ?_) | refine J.icmp_ge_xn C (by omega) dX6_begins_14 (tgt := 51) (by decide) (fun c14 => absurd c14 (by first | omega | decide | simp_all)) (fun _ => ?_) | refine J.icmp_ge_nx C (by omega) dX6_begins_14 (tgt := 51) (by decide) (fun c14 => absurd c14 (by first | omega | decide | simp_all)) (fun _ => ?_) | refine J.icmp_ge C dX6_begins_14 (tgt := 51) (by decide) (fun c14 => absurd c14 (by first | omega | decide | simp_all)) (fun _ => ?_)
    refine J.aload_n C dX6_begins_17 rfl ?_
    refine J.getR C flX6_begins_27 (by first | decide | omega) rfl (by exact rfl) dX6_begins_18 ?_
    refine J.iload_n C dX6_begins_21 rfl ?_
    refine J.aload_n C dX6_begins_22 rfl ?_
    refine J.getR C flX6_begins_27 (by first | decide | omega) rfl (by exact rfl) dX6_begins_23 ?_
    refine J.iload_n C dX6_begins_26 rfl ?_
    refine J.iconst C dX6_begins_27 (v := (nI 1)) (by decide) ?_
    first | refine J.iadd_n C dX6_begins_28 ?_ | refine J.iadd C dX6_begins_28 ?_
    refine J.ia C (by first | exact rfl | assumption) (by first | exact rfl | exact rfl) (by first | (have h_ln := ln_all; omega) | omega) (by first | ((repeat (first | refine up2_rd (by decide) ?_ | refine up2_rm (by decide) ?_ | refine up3_rd (by decide) ?_)) <;> (first | exact up2_s _ _ _ _ | assumption | exact rfl))) dX6_begins_29 ?_
    refine J.ias C (by first | exact rfl | assumption) (by first | exact rfl | exact rfl) (by first | (have h_ln := ln_all; omega) | omega) dX6_begins_30 ?_
    refine J.aload_n C dX6_begins_31 rfl ?_
    refine J.getR C flX6_begins_30 (by first | decide | omega) rfl (by exact rfl) dX6_begins_32 ?_
    refine J.iload_n C dX6_begins_35 rfl ?_
    refine J.aload_n C dX6_begins_36 rfl ?_
    refine J.getR C flX6_begins_30 (by first | decide | omega) rfl (by exact rfl) dX6_begins_37 ?_
    refine J.iload_n C dX6_begins_40 rfl ?_
    refine J.iconst C dX6_begins_41 (v := (nI 1)) (by decide) ?_
    first | refine J.iadd_n C dX6_begins_42 ?_ | refine J.iadd C dX6_begins_42 ?_
    refine J.ia C (by first | exact rfl | assumption) (by first | exact rfl | exact rfl) (by first | (have h_ln := ln_all; omega) | omega) (by first | ((repeat (first | refine up2_rd (by decide) ?_ | refine up2_rm (by decide) ?_ | refine up3_rd (by decide) ?_)) <;> (first | exact up2_s _ _ _ _ | assumption | exact rfl))) dX6_begins_43 ?_
    refine J.ias C (by first | exact rfl | assumption) (by first | exact rfl | exact rfl) (by first | (have h_ln := ln_all; omega) | omega) dX6_begins_44 ?_
    refine J.iinc (ls' := [(0, _), (1, _)]) C dX6_begins_45 rfl (by first | exact nI_inc _ 1 | exact rfl) (by decide) rfl ?_
    refine J.goto C dX6_begins_48 (tgt := 11) (by decide) ?_
    exact ih (i + 1) (by omega)
set_option maxHeartbeats 4000000 in
set_option maxRecDepth 100000 in
theorem lp_X6_begins_b {l : Launch} {X : Cx} {V : Vx} {P : Option Value → (Nat → va_E) → Prop} {I : Nat → Nat → Int32} {L : Nat → Nat → Int64} (C : CX l X V RX6 cX6_begins 2 wsX6_begins 2 0 0 none) (hx : E X V P 2 126 [(0, .ref (ad V 85)), (1, .int (nI 960))] [] (shB I 960) L) : ∀ (k i : Nat), i + k = 960 → E X V P 2 53 [(0, .ref (ad V 85)), (1, .int (nI i))] [] (shB I i) L := by
  intro k
  induction k with
  | zero =>
    intro i hi
    obtain rfl : i = 960 := by omega
    refine J.iload_n C dX6_begins_53 rfl ?_
    refine J.sipush C dX6_begins_54 (v := (nI 960)) (by decide) ?_
    first | refine J.icmp_ge_n C (by omega) (by omega) dX6_begins_57 (tgt := 126) (by decide) (fun _ => ?_) (fun c57 => absurd c57 (by first | omega | decide | simp_all)) | refine J.icmp_ge_xn C (by omega) dX6_begins_57 (tgt := 126) (by decide) (fun _ => ?_) (fun c57 => absurd c57 (by first | omega | decide | simp_all)) | refine J.icmp_ge_nx C (by omega) dX6_begins_57 (tgt := 126) (by decide) (fun _ => ?_) (fun c57 => absurd c57 (by first | omega | decide | simp_all)) | refine J.icmp_ge C dX6_begins_57 (tgt := 126) (by decide) (fun _ => ?_) (fun c57 => absurd c57 (by first | omega | decide | simp_all))
    exact hx
  | succ k ih =>
    intro i hi
    refine J.iload_n C dX6_begins_53 rfl ?_
    refine J.sipush C dX6_begins_54 (v := (nI 960)) (by decide) ?_
    first | refine J.icmp_ge_n C (by omega) (by omega) dX6_begins_57 (tgt := 126) (by decide) (fun c57 => absurd c57 (by first | omega | decide | simp_all)) (fun _ => ?_) | refine J.icmp_ge_xn C (by omega) dX6_begins_57 (tgt := 126) (by decide) (fun c57 => absurd c57 (by first | omega | decide | simp_all)) (fun _ => ?_) | refine J.icmp_ge_nx C (by omega) dX6_begins_57 (tgt := 126) (by decide) (fun c57 => absurd c57 (by first | omega | decide | simp_all)) (fun _ => ?_) | refine J.icmp_ge C dX6_begins_57 (tgt := 126) (by decide) (fun c57 => absurd c57 (by first | omega | decide | simp_all)) (fun _ => ?_)
    refine J.aload_n C dX6_begins_60 rfl ?_
    refine J.getR C flX6_begins_33 (by first | decide | omega) rfl (by exact rfl) dX6_begins_61 ?_
    refine J.iload_n C dX6_begins_64 rfl ?_
    refine J.aload_n C dX6_begins_65 rfl ?_
    refine J.getR C flX6_begins_33 (by first | decide | omega) rfl (by exact rfl) dX6_begins_66 ?_
    refine J.iload_n C dX6_begins_69 rfl ?_
    refine J.bipush C dX6_begins_70 (v := (nI 40)) (by decide) ?_
    first | refine J.iadd_n C dX6_begins_72 ?_ | refine J.iadd C dX6_begins_72 ?_
    refine J.ia C (by first | exact rfl | assumption) (by first | exact rfl | exact rfl) (by first | (have h_ln := ln_all; omega) | omega) (by first | ((repeat (first | refine up2_rd (by decide) ?_ | refine up2_rm (by decide) ?_ | refine up3_rd (by decide) ?_)) <;> (first | exact up2_s _ _ _ _ | assumption | exact rfl))) dX6_begins_73 ?_
    refine J.ias C (by first | exact rfl | assumption) (by first | exact rfl | exact rfl) (by first | (have h_ln := ln_all; omega) | omega) dX6_begins_74 ?_
    refine J.aload_n C dX6_begins_75 rfl ?_
    refine J.getR C flX6_begins_36 (by first | decide | omega) rfl (by exact rfl) dX6_begins_76 ?_
    refine J.iload_n C dX6_begins_79 rfl ?_
    refine J.aload_n C dX6_begins_80 rfl ?_
    refine J.getR C flX6_begins_36 (by first | decide | omega) rfl (by exact rfl) dX6_begins_81 ?_
    refine J.iload_n C dX6_begins_84 rfl ?_
    refine J.bipush C dX6_begins_85 (v := (nI 40)) (by decide) ?_
    first | refine J.iadd_n C dX6_begins_87 ?_ | refine J.iadd C dX6_begins_87 ?_
    refine J.ia C (by first | exact rfl | assumption) (by first | exact rfl | exact rfl) (by first | (have h_ln := ln_all; omega) | omega) (by first | ((repeat (first | refine up2_rd (by decide) ?_ | refine up2_rm (by decide) ?_ | refine up3_rd (by decide) ?_)) <;> (first | exact up2_s _ _ _ _ | assumption | exact rfl))) dX6_begins_88 ?_
    refine J.ias C (by first | exact rfl | assumption) (by first | exact rfl | exact rfl) (by first | (have h_ln := ln_all; omega) | omega) dX6_begins_89 ?_
    refine J.aload_n C dX6_begins_90 rfl ?_
    refine J.getR C flX6_begins_39 (by first | decide | omega) rfl (by exact rfl) dX6_begins_91 ?_
    refine J.iload_n C dX6_begins_94 rfl ?_
    refine J.aload_n C dX6_begins_95 rfl ?_
    refine J.getR C flX6_begins_39 (by first | decide | omega) rfl (by exact rfl) dX6_begins_96 ?_
    refine J.iload_n C dX6_begins_99 rfl ?_
    refine J.bipush C dX6_begins_100 (v := (nI 40)) (by decide) ?_
    first | refine J.iadd_n C dX6_begins_102 ?_ | refine J.iadd C dX6_begins_102 ?_
    refine J.ia C (by first | exact rfl | assumption) (by first | exact rfl | exact rfl) (by first | (have h_ln := ln_all; omega) | omega) (by first | ((repeat (first | refine up2_rd (by decide) ?_ | refine up2_rm (by decide) ?_ | refine up3_rd (by decide) ?_)) <;> (first | exact up2_s _ _ _ _ | assumption | exact rfl))) dX6_begins_103 ?_
    refine J.ias C (by first | exact rfl | assumption) (by first | exact rfl | exact rfl) (by first | (have h_ln := ln_all; omega) | omega) dX6_begins_104 ?_
    refine J.aload_n C dX6_begins_105 rfl ?_
    refine J.getR C flX6_begins_42 (by first | decide | omega) rfl (by exact rfl) dX6_begins_106 ?_
    refine J.iload_n C dX6_begins_109 rfl ?_
    refine J.aload_n C dX6_begins_110 rfl ?_
    refine J.getR C flX6_begins_42 (by first | decide | omega) rfl (by exact rfl) dX6_begins_111 ?_
    refine J.iload_n C dX6_begins_114 rfl ?_
    refine J.bipush C dX6_begins_115 (v := (nI 40)) (by decide) ?_
    first | refine J.iadd_n C dX6_begins_117 ?_ | refine J.iadd C dX6_begins_117 ?_
    refine J.za C (by first | exact rfl | assumption) (by first | exact rfl | exact rfl) (by first | (have h_ln := ln_all; omega) | omega) (by first | ((repeat (first | refine up2_rd (by decide) ?_ | refine up2_rm (by decide) ?_ | refine up3_rd (by decide) ?_)) <;> (first | exact up2_s _ _ _ _ | assumption | exact rfl))) dX6_begins_118 ?_
    refine J.zan C (by first | exact rfl | assumption) (by first | exact rfl | exact rfl) (by first | (have h_ln := ln_all; omega) | omega) dX6_begins_119 ?_
    refine J.iinc (ls' := [(0, _), (1, _)]) C dX6_begins_120 rfl (by first | exact nI_inc _ 1 | exact rfl) (by decide) rfl ?_
    refine J.goto C dX6_begins_123 (tgt := 53) (by decide) ?_
    exact ih (i + 1) (by omega)
set_option maxHeartbeats 4000000 in
set_option maxRecDepth 100000 in
theorem ok_X6_begins_t {l : Launch} {X : Cx} {V : Vx} {P : Option Value → (Nat → va_E) → Prop} {I : Nat → Nat → Int32} {L : Nat → Nat → Int64} (C : CX l X V RX6 cX6_begins 2 wsX6_begins 2 0 0 none) {q : Nat} (hq : I 85 12 = nI q) (h25 : q < 25) (hP : P none (mm V (beS I q) L)) (ls : List (Nat × Value)) (h0 : lk ls 0 = some (.ref (ad V 85))) : E X V P 2 132 ls [] I L := by
  have hs12 : stM I q 85 12 = nI q := by rw [stM_85]; exact hq
  refine J.aload_n C dX6_begins_132 h0 ?_
  refine J.aload_n C dX6_begins_133 h0 ?_
  refine J.getI C flX6_begins_86 (by first | decide | omega) rfl (by exact rfl) (by first | ((repeat (first | refine up2_rd (by decide) ?_ | refine up2_rm (by decide) ?_ | refine up3_rd (by decide) ?_)) <;> (first | exact up2_s _ _ _ _ | assumption | exact rfl))) dX6_begins_134 ?_
  refine J.cVDv (q := (RX6, TX6, 25)) (ci := 6) C (ok_X6_store l V _ _ (by omega)) gX6_begins_X6_store rfl mfX6_store rfl (by decide) (by decide) (by first | decide | omega) rfl rfl rfl rfl (Nat.le_of_ble_eq_true rfl) dX6_begins_137 (Nat.le_refl _) (Nat.le_refl _) ?_
  refine J.aload_n C dX6_begins_140 h0 ?_
  refine J.dup C dX6_begins_141 rfl ?_
  refine J.getI C flX6_begins_86 (by first | decide | omega) rfl (by exact rfl) (by first | ((repeat (first | refine up2_rd (by decide) ?_ | refine up2_rm (by decide) ?_ | refine up3_rd (by decide) ?_)) <;> (first | exact up2_s _ _ _ _ | assumption | exact rfl))) dX6_begins_142 ?_
  refine J.iconst C dX6_begins_145 (v := (nI 1)) (by decide) ?_
  first | refine J.iadd_n C dX6_begins_146 ?_ | refine J.iadd C dX6_begins_146 ?_
  refine J.putI C fpX6_begins_86 (by first | decide | omega) rfl (Nat.le_of_ble_eq_true rfl) (by first | exact mp_6_12 rfl | exact mp_6_12 (by assumption)) dX6_begins_147 ?_
  exact J.vret C dX6_begins_150 hP
set_option maxHeartbeats 4000000 in
set_option maxRecDepth 100000 in
theorem ok_X6_begins (l : Launch) (V : Vx) {q : Nat} (I : Nat → Nat → Int32) (L : Nat → Nat → Int64) (hq : I 85 12 = nI q) (h25 : q ≤ 25) : Dv l V yX6_begins wsX6_begins 2 [.ref (ad V 85)] I L (beM I q) L := by
  by_cases he : q = 25
  · subst he
    have e : beM I 25 = beS (up2 (shB (shA I 24) 960) 85 12 (nI 24)) 24 := if_pos rfl
    rw [e]
    refine Ok.of (cc := cX6_begins) (maxL := 2) (ret := none) (by decide) rfl (Nat.le_of_ble_eq_true rfl) (fun X hnm C => ?_)
    have C : CX l X V RX6 cX6_begins 2 wsX6_begins 2 0 0 none := C
    refine J.cast (ls' := [(0, _)]) rfl rfl rfl rfl ?_
    refine J.aload_n C dX6_begins_0 rfl ?_
    refine J.getI C flX6_begins_86 (by first | decide | omega) rfl (by exact rfl) (by first | ((repeat (first | refine up2_rd (by decide) ?_ | refine up2_rm (by decide) ?_ | refine up3_rd (by decide) ?_)) <;> (first | exact up2_s _ _ _ _ | assumption | exact rfl))) dX6_begins_1 ?_
    refine J.bipush C dX6_begins_4 (v := (nI 25)) (by decide) ?_
    first | refine J.icmp_ne_n C (by omega) (by omega) dX6_begins_6 (tgt := 132) (by decide) (fun c6 => absurd c6 (by first | omega | decide | simp_all)) (fun _ => ?_) | refine J.icmp_ne_xn C (by omega) dX6_begins_6 (tgt := 132) (by decide) (fun c6 => absurd c6 (by first | omega | decide | simp_all)) (fun _ => ?_) | refine J.icmp_ne_nx C (by omega) dX6_begins_6 (tgt := 132) (by decide) (fun c6 => absurd c6 (by first | omega | decide | simp_all)) (fun _ => ?_) | refine J.icmp_ne C dX6_begins_6 (tgt := 132) (by decide) (fun c6 => absurd c6 (by first | omega | decide | simp_all)) (fun _ => ?_)
    refine J.iconst C dX6_begins_9 (v := (nI 0)) (by decide) ?_
    refine J.istore_n (ls' := [(0, _), (1, _)]) C dX6_begins_10 (by decide) rfl ?_
    refine lp_X6_begins_a C ?_ 24 0 (by omega)
    refine J.iconst C dX6_begins_51 (v := (nI 0)) (by decide) ?_
    refine J.istore_n (ls' := [(0, _), (1, _)]) C dX6_begins_52 (by decide) rfl ?_
    refine lp_X6_begins_b C ?_ 960 0 (by omega)
    refine J.aload_n C dX6_begins_126 rfl ?_
    refine J.bipush C dX6_begins_127 (v := (nI 24)) (by decide) ?_
    refine J.putI C fpX6_begins_86 (by first | decide | omega) rfl (Nat.le_of_ble_eq_true rfl) (by first | exact mp_6_12 rfl | exact mp_6_12 (by assumption)) dX6_begins_129 ?_
    exact ok_X6_begins_t C (q := 24) (up2_s _ _ _ _) (by omega) ⟨rfl, rfl⟩ _ rfl
  · have e : beM I q = beS I q := if_neg he
    rw [e]
    refine Ok.of (cc := cX6_begins) (maxL := 2) (ret := none) (by decide) rfl (Nat.le_of_ble_eq_true rfl) (fun X hnm C => ?_)
    have C : CX l X V RX6 cX6_begins 2 wsX6_begins 2 0 0 none := C
    refine J.cast (ls' := [(0, _)]) rfl rfl rfl rfl ?_
    refine J.aload_n C dX6_begins_0 rfl ?_
    refine J.getI C flX6_begins_86 (by first | decide | omega) rfl (by exact rfl) (by first | ((repeat (first | refine up2_rd (by decide) ?_ | refine up2_rm (by decide) ?_ | refine up3_rd (by decide) ?_)) <;> (first | exact up2_s _ _ _ _ | assumption | exact rfl))) dX6_begins_1 ?_
    refine J.bipush C dX6_begins_4 (v := (nI 25)) (by decide) ?_
    first | refine J.icmp_ne_n C (by omega) (by omega) dX6_begins_6 (tgt := 132) (by decide) (fun _ => ?_) (fun c6 => absurd c6 (by first | omega | decide | simp_all)) | refine J.icmp_ne_xn C (by omega) dX6_begins_6 (tgt := 132) (by decide) (fun _ => ?_) (fun c6 => absurd c6 (by first | omega | decide | simp_all)) | refine J.icmp_ne_nx C (by omega) dX6_begins_6 (tgt := 132) (by decide) (fun _ => ?_) (fun c6 => absurd c6 (by first | omega | decide | simp_all)) | refine J.icmp_ne C dX6_begins_6 (tgt := 132) (by decide) (fun _ => ?_) (fun c6 => absurd c6 (by first | omega | decide | simp_all))
    exact ok_X6_begins_t C hq (by omega) ⟨rfl, rfl⟩ _ rfl
