/-! THE REFERENCE: crates -/
section
variable {l : Launch} {X : Cx} {V : Vx} {Q : State → Prop} {own : String} {cc : ByteArray} {nL n cs sl pc d mc ms : Nat} {Ts : List Cond} {ret : Option FieldType} {ls : List (Nat × Value)} {st : List Value} {M : Nat → va_E} {off : Int} {tgt : Nat} {x y : Int64}
theorem J.if_ge_c (C : CX l X V own cc nL Ts d mc ms ret) (hd : decode cc pc = .ok (.ifCond .ge off, 3)) (ht : (pc : Int) + off = (tgt : Int)) (kt : y ≤ x → J X V Q nL n cs sl tgt ls st M) (kf : ¬ y ≤ x → J X V Q nL n cs sl (pc + 3) ls st M) : J X V Q nL n cs sl pc ls (.int (lg_cmp x y) :: st) M := J.if_ge C hd ht (fun c => kt ((lg_cmp_ge x y).mp c)) (fun c => kf (fun q => c ((lg_cmp_ge x y).mpr q)))
theorem J.if_le_c (C : CX l X V own cc nL Ts d mc ms ret) (hd : decode cc pc = .ok (.ifCond .le off, 3)) (ht : (pc : Int) + off = (tgt : Int)) (kt : x ≤ y → J X V Q nL n cs sl tgt ls st M) (kf : ¬ x ≤ y → J X V Q nL n cs sl (pc + 3) ls st M) : J X V Q nL n cs sl pc ls (.int (lg_cmp x y) :: st) M := J.if_le C hd ht (fun c => kt ((lg_cmp_le x y).mp c)) (fun c => kf (fun q => c ((lg_cmp_le x y).mpr q)))
theorem J.if_gt_c (C : CX l X V own cc nL Ts d mc ms ret) (hd : decode cc pc = .ok (.ifCond .gt off, 3)) (ht : (pc : Int) + off = (tgt : Int)) (kt : y < x → J X V Q nL n cs sl tgt ls st M) (kf : ¬ y < x → J X V Q nL n cs sl (pc + 3) ls st M) : J X V Q nL n cs sl pc ls (.int (lg_cmp x y) :: st) M := J.if_gt C hd ht (fun c => kt ((lg_cmp_gt x y).mp c)) (fun c => kf (fun q => c ((lg_cmp_gt x y).mpr q)))
theorem J.if_eq_c (C : CX l X V own cc nL Ts d mc ms ret) (hd : decode cc pc = .ok (.ifCond .eq off, 3)) (ht : (pc : Int) + off = (tgt : Int)) (kt : x = y → J X V Q nL n cs sl tgt ls st M) (kf : ¬ x = y → J X V Q nL n cs sl (pc + 3) ls st M) : J X V Q nL n cs sl pc ls (.int (lg_cmp x y) :: st) M := J.if_eq C hd ht (fun c => kt ((lg_cmp_eq x y).mp c)) (fun c => kf (fun q => c ((lg_cmp_eq x y).mpr q)))
theorem J.if_ne_c (C : CX l X V own cc nL Ts d mc ms ret) (hd : decode cc pc = .ok (.ifCond .ne off, 3)) (ht : (pc : Int) + off = (tgt : Int)) (kt : ¬ x = y → J X V Q nL n cs sl tgt ls st M) (kf : x = y → J X V Q nL n cs sl (pc + 3) ls st M) : J X V Q nL n cs sl pc ls (.int (lg_cmp x y) :: st) M := J.if_ne C hd ht (fun c => kt (fun q => c ((lg_cmp_eq x y).mpr q))) (fun c => kf ((lg_cmp_eq x y).mp c))
end
def keyM (k : Nat) (v : Int64) : Int64 := if k = 6 ∧ v < 0 then v ^^^ 2147483647 else if k = 7 ∧ v < 0 then v ^^^ 9223372036854775807 else v
/-- 1 above, 0 like, -1 below -/
def ordI (k : Nat) (a b : Int64) : Int32 := if keyM k a < keyM k b then -1 else if keyM k b < keyM k a then nI 1 else nI 0
def narM (k : Nat) (v : Int64) : Int64 := match k with
  | 1 => v.toInt32.toInt8.toInt32.toInt64
  | 2 => v &&& 65535
  | 3 => v.toInt32.toInt16.toInt32.toInt64
  | 4 => v.toInt32.toInt64
  | 5 => v
  | 6 => if v.toInt32 &&& 2147483647 ≤ 2139095040 then v.toInt32.toInt64 else 2143289344
  | _ => if v &&& 9223372036854775807 ≤ 9218868437227405312 then v else 9221120237041090560
def gC (g : Sg) (c : Nat) (x : Nat × Nat × (Nat → Int64)) : Sg := (g.1, g.2.1, g.2.2.1, va_up g.2.2.2.1 c x, g.2.2.2.2)
theorem AbM_crate {I I' : Nat → Nat → Int32} {L L' : Nat → Nat → Int64} {g : Sg} {c : Nat} {x : Nat × Nat × (Nat → Int64)} (h : AbM I L g) (ek : ∀ k, 85 ≤ k → k ≤ 99 → k ≠ 96 → k ≠ 97 → I' k = I k) (e0 : I' 96 c = nI x.1) (e1 : I' 97 c = nI x.2.1) (e2 : ∀ i, i < 12 → L' 98 (12 * c + i) = x.2.2 i) (o0 : ∀ j, j ≠ c → I' 96 j = I 96 j) (o1 : ∀ j, j ≠ c → I' 97 j = I 97 j) (o2 : ∀ j, (j < 12 * c ∨ 12 * c + 12 ≤ j) → L' 98 j = L 98 j) : AbM I' L' (gC g c x) := by
  obtain ⟨h1, h2, h3, h4, h5, h6⟩ := h
  refine ⟨?_, ?_, ?_, fun k hk => ?_, ?_, ?_⟩
  · rw [ek 85 (by decide) (by decide) (by decide) (by decide), ek 86 (by decide) (by decide) (by decide) (by decide), ek 87 (by decide) (by decide) (by decide) (by decide), ek 88 (by decide) (by decide) (by decide) (by decide), ek 89 (by decide) (by decide) (by decide) (by decide)]; exact h1
  · rw [ek 85 (by decide) (by decide) (by decide) (by decide), ek 90 (by decide) (by decide) (by decide) (by decide), ek 91 (by decide) (by decide) (by decide) (by decide), ek 92 (by decide) (by decide) (by decide) (by decide), ek 93 (by decide) (by decide) (by decide) (by decide), ek 94 (by decide) (by decide) (by decide) (by decide), ek 95 (by decide) (by decide) (by decide) (by decide)]; exact h2
  · rw [ek 90 (by decide) (by decide) (by decide) (by decide), ek 91 (by decide) (by decide) (by decide) (by decide), ek 92 (by decide) (by decide) (by decide) (by decide), ek 93 (by decide) (by decide) (by decide) (by decide), ek 94 (by decide) (by decide) (by decide) (by decide), ek 95 (by decide) (by decide) (by decide) (by decide)]; exact h3
  · show I' 96 k = nI (va_up g.2.2.2.1 c x k).1 ∧ I' 97 k = nI (va_up g.2.2.2.1 c x k).2.1 ∧ ∀ i, i < 12 → L' 98 (12 * k + i) = (va_up g.2.2.2.1 c x k).2.2 i
    by_cases e : k = c
    · subst e
      rw [va_up_self]
      exact ⟨e0, e1, e2⟩
    · rw [va_up_ne _ _ e, o0 k e, o1 k e]
      have q := h4 k hk
      exact ⟨q.1, q.2.1, fun i hi => by rw [o2 _ (by omega)]; exact q.2.2 i hi⟩
  · rw [ek 85 (by decide) (by decide) (by decide) (by decide), ek 99 (by decide) (by decide) (by decide) (by decide)]; exact h5
  · rw [ek 85 (by decide) (by decide) (by decide) (by decide)]; exact h6
noncomputable def op_crate (g : Sg) (c k n : Option Nat) : Int32 × Sg := cond (tb (inO c 6 ∧ inO k 8)) (match n with
  | none => (-3, gF g)
  | some n => cond (tb (n ≤ 12)) (nI (if k.getD 0 = 0 then 0 else n), gC g (c.getD 0) (k.getD 0, if k.getD 0 = 0 then 0 else n, fun _ => 0)) (-1, gF g)) (-1, gF g)
theorem frL {L L' : Nat → Nat → Int64} (h : ∀ k, k ≠ 98 → k ≠ 101 → L' k = L k) : frmL L L' := fun k hk => h k (by omega) (by omega)
noncomputable def lkO (g : Sg) (c i : Option Nat) : Int32 := cond (tb (inO c 6)) (cond (tb ((g.2.2.2.1 (c.getD 0)).1 = 0)) (-2) (cond (tb (inO i (g.2.2.2.1 (c.getD 0)).2.1)) (nI 0) (-1))) (-1)
def crR (c : Nat) (L : Nat → Nat → Int64) : Nat → Nat → Nat → Int64
  | 0 => L
  | i + 1 => up3 (crR c L i) 98 (12 * c + i) 0
theorem crR_v {c : Nat} {L : Nat → Nat → Int64} : ∀ i k j, crR c L i k j = if k = 98 ∧ 12 * c ≤ j ∧ j < 12 * c + i then 0 else L k j
  | 0, k, j => by rw [if_neg (by omega)]; rfl
  | i + 1, k, j => by
    unfold crR
    rw [up3_v, crR_v i]
    by_cases h : k = 98 ∧ j = 12 * c + i
    · rw [if_pos h, if_pos (by omega)]
    · rw [if_neg h]
      by_cases h2 : k = 98 ∧ 12 * c ≤ j ∧ j < 12 * c + i
      · rw [if_pos h2, if_pos (by omega)]
      · rw [if_neg h2, if_neg (by omega)]
set_option maxHeartbeats 4000000 in
set_option maxRecDepth 100000 in
theorem lp_X6_crate {l : Launch} {X : Cx} {V : Vx} {P : Option Value → (Nat → va_E) → Prop} {I : Nat → Nat → Int32} {L : Nat → Nat → Int64} (C : CX l X V RX6 cX6_crate 5 wsX6_crate 3 0 0 (some .int)) {c z : Nat} {x y : Int32} (hc : c < 6) (hz : I 97 c = nI z) (hP : P (some (.int (nI z))) (mm V I (crR c L 12))) : ∀ (k i : Nat), i + k = 12 → E X V P 5 71 [(0, .ref (ad V 85)), (1, .int (nI c)), (2, .int x), (3, .int y), (4, .int (nI i))] [] I (crR c L i) := by
  intro k
  induction k with
  | zero =>
    intro i hi
    obtain rfl : i = 12 := by omega
    refine J.iload C dX6_crate_71 rfl ?_
    refine J.bipush C dX6_crate_73 (v := (nI 12)) (by decide) ?_
    first | refine J.icmp_ge_n C (by omega) (by omega) dX6_crate_75 (tgt := 97) (by decide) (fun _ => ?_) (fun c75 => absurd c75 (by first | omega | decide | simp_all)) | refine J.icmp_ge_xn C (by omega) dX6_crate_75 (tgt := 97) (by decide) (fun _ => ?_) (fun c75 => absurd c75 (by first | omega | decide | simp_all)) | refine J.icmp_ge_nx C (by omega) dX6_crate_75 (tgt := 97) (by decide) (fun _ => ?_) (fun c75 => absurd c75 (by first | omega | decide | simp_all)) | refine J.icmp_ge C dX6_crate_75 (tgt := 97) (by decide) (fun _ => ?_) (fun c75 => absurd c75 (by first | omega | decide | simp_all))
    refine J.aload_n C dX6_crate_97 rfl ?_
    refine J.getR C flX6_crate_48 (by first | decide | omega) rfl (by exact rfl) dX6_crate_98 ?_
    refine J.iload_n C dX6_crate_101 rfl ?_
    refine J.ia C (by first | exact rfl | assumption) (by first | exact rfl | exact rfl) (by first | (have h_ln := ln_all; omega) | omega) (by first | ((repeat (first | refine up2_rd (by decide) ?_ | refine up2_rm (by decide) ?_ | refine up3_rd (by decide) ?_)) <;> (first | exact up2_s _ _ _ _ | assumption | exact rfl))) dX6_crate_102 ?_
    exact J.iret C dX6_crate_103 hP
  | succ k ih =>
    intro i hi
    refine J.iload C dX6_crate_71 rfl ?_
    refine J.bipush C dX6_crate_73 (v := (nI 12)) (by decide) ?_
    first | refine J.icmp_ge_n C (by omega) (by omega) dX6_crate_75 (tgt := 97) (by decide) (fun c75 => absurd c75 (by first | omega | decide | simp_all)) (fun _ => ?_) | refine J.icmp_ge_xn C (by omega) dX6_crate_75 (tgt := 97) (by decide) (fun c75 => absurd c75 (by first | omega | decide | simp_all)) (fun _ => ?_) | refine J.icmp_ge_nx C (by omega) dX6_crate_75 (tgt := 97) (by decide) (fun c75 => absurd c75 (by first | omega | decide | simp_all)) (fun _ => ?_) | refine J.icmp_ge C dX6_crate_75 (tgt := 97) (by decide) (fun c75 => absurd c75 (by first | omega | decide | simp_all)) (fun _ => ?_)
    refine J.aload_n C dX6_crate_78 rfl ?_
    refine J.getR C flX6_crate_51 (by first | decide | omega) rfl (by exact rfl) dX6_crate_79 ?_
    refine J.bipush C dX6_crate_82 (v := (nI 12)) (by decide) ?_
    refine J.iload_n C dX6_crate_84 rfl ?_
    first | refine J.imul_n C dX6_crate_85 ?_ | refine J.imul C dX6_crate_85 ?_
    refine J.iload C dX6_crate_86 rfl ?_
    first | refine J.iadd_n C dX6_crate_88 ?_ | refine J.iadd C dX6_crate_88 ?_
    refine J.lconst C dX6_crate_89 (v := 0) (by decide) ?_
    refine J.las C (by first | exact rfl | assumption) (by first | exact rfl | exact rfl) (by first | (have h_ln := ln_all; omega) | omega) dX6_crate_90 ?_
    refine J.iinc (ls' := [(0, _), (1, _), (2, _), (3, _), (4, _)]) C dX6_crate_91 rfl (by first | exact nI_inc _ 1 | exact rfl) (by decide) rfl ?_
    refine J.goto C dX6_crate_94 (tgt := 71) (by decide) ?_
    exact ih (i + 1) (by omega)
set_option maxHeartbeats 4000000 in
set_option maxRecDepth 100000 in
theorem ok_X6_crate (l : Launch) (V : Vx) {g : Sg} {x1 : Int32} {o1 : Option Nat} {x2 : Int32} {o2 : Option Nat} {x3 : Int32} {o3 : Option Nat} (I : Nat → Nat → Int32) (L : Nat → Nat → Int64) (hx1 : AG x1 o1) (hx2 : AG x2 o2) (hx3 : AG x3 o3) (h : AbM I L g) (ok : okG g) : PM l V yX6_crate wsX6_crate 3 [.ref (ad V 85), .int x1, .int x2, .int x3] I L (op_crate g o1 o2 o3) := by
  refine Ok.of (cc := cX6_crate) (maxL := 5) (ret := (some .int)) (by decide) rfl (Nat.le_of_ble_eq_true rfl) (fun X hnm C => ?_)
  have C : CX l X V RX6 cX6_crate 5 wsX6_crate 3 0 0 (some .int) := C
  refine J.cast (ls' := [(0, _), (1, _), (2, _), (3, _)]) rfl rfl rfl rfl ?_
  refine J.iload_n C dX6_crate_0 rfl ?_
  refine J.cSDi C (ok_X6_isCrate l V _ _ hx1) gX6_crate_X6_isCrate rfl mfX6_isCrate (by decide) (by decide) rfl rfl (Nat.le_of_ble_eq_true rfl) dX6_crate_1 (Nat.le_refl _) (Nat.le_refl _) ?_
  first | refine J.if_eq_b C dX6_crate_4 (tgt := 17) (by decide) (fun c4t => ?_) (fun c4f => ?_) | refine J.if_eq_n C (by omega) dX6_crate_4 (tgt := 17) (by decide) (fun c4t => ?_) (fun c4f => ?_) | refine J.if_eq C dX6_crate_4 (tgt := 17) (by decide) (fun c4t => ?_) (fun c4f => ?_)
  · refine J.aload_n C dX6_crate_17 rfl ?_
    refine J.iconst C dX6_crate_18 (v := (-1)) (by decide) ?_
    refine J.cVDi (q := (RX6, TX6, 25)) (ci := 6) C (ok_X6_found l V _ _ _) gX6_crate_X6_found rfl mfX6_found rfl (by decide) (by decide) (by first | decide | omega) rfl rfl rfl rfl (Nat.le_of_ble_eq_true rfl) dX6_crate_19 (Nat.le_refl _) (Nat.le_refl _) ?_
    exact J.iret C dX6_crate_22 (qM_s (by unfold op_crate; rw [tb_0 (fun q => by first | exact tb_f.mp c4t q.1 | exact tb_f.mp c14f q.2)]; exact qM_F h))
  · refine J.iload_n C dX6_crate_7 rfl ?_
    refine J.iconst C dX6_crate_8 (v := (nI 0)) (by decide) ?_
    refine J.bipush C dX6_crate_9 (v := (nI 7)) (by decide) ?_
    refine J.cSDi C (ok_X6_in_o l V 7 (by decide) _ _ hx2) gX6_crate_X6_in rfl mfX6_in (by decide) (by decide) rfl rfl (Nat.le_of_ble_eq_true rfl) dX6_crate_11 (Nat.le_refl _) (Nat.le_refl _) ?_
    first | refine J.if_ne_b C dX6_crate_14 (tgt := 23) (by decide) (fun c14t => ?_) (fun c14f => ?_) | refine J.if_ne_n C (by omega) dX6_crate_14 (tgt := 23) (by decide) (fun c14t => ?_) (fun c14f => ?_) | refine J.if_ne C dX6_crate_14 (tgt := 23) (by decide) (fun c14t => ?_) (fun c14f => ?_)
    · obtain ⟨c, rfl, hc⟩ := tb_t.mp c4f
      obtain ⟨kk, rfl, hk⟩ := tb_t.mp c14t
      obtain ⟨-, rfl⟩ := hx1
      obtain ⟨-, rfl⟩ := hx2
      unfold op_crate
      rw [tb_1 (show inO (some c) 6 ∧ inO (some kk) 8 from ⟨tb_t.mp c4f, tb_t.mp c14t⟩)]
      refine J.iload_n C dX6_crate_23 rfl ?_
      refine J.if_ge_z C dX6_crate_24 (tgt := 34) (by decide) (fun c24t => ?_) (fun c24f => ?_)
      · obtain ⟨n, rfl⟩ : ∃ n, o3 = some n := by cases o3 with | none => have q : x3.toInt < 0 := hx3; omega | some n => exact ⟨n, rfl⟩
        obtain ⟨hn, rfl⟩ := hx3
        simp only []
        refine J.iload_n C dX6_crate_34 rfl ?_
        refine J.bipush C dX6_crate_35 (v := (nI 12)) (by decide) ?_
        first | refine J.icmp_le_n C (by omega) (by omega) dX6_crate_37 (tgt := 46) (by decide) (fun c37t => ?_) (fun c37f => ?_) | refine J.icmp_le_xn C (by omega) dX6_crate_37 (tgt := 46) (by decide) (fun c37t => ?_) (fun c37f => ?_) | refine J.icmp_le_nx C (by omega) dX6_crate_37 (tgt := 46) (by decide) (fun c37t => ?_) (fun c37f => ?_) | refine J.icmp_le C dX6_crate_37 (tgt := 46) (by decide) (fun c37t => ?_) (fun c37f => ?_)
        · rw [tb_1 c37t]
          refine J.aload_n C dX6_crate_46 rfl ?_
          refine J.getR C flX6_crate_45 (by first | decide | omega) rfl (by exact rfl) dX6_crate_47 ?_
          refine J.iload_n C dX6_crate_50 rfl ?_
          refine J.iload_n C dX6_crate_51 rfl ?_
          refine J.ias C (by first | exact rfl | assumption) (by first | exact rfl | exact rfl) (by first | (have h_ln := ln_all; omega) | omega) dX6_crate_52 ?_
          refine J.aload_n C dX6_crate_53 rfl ?_
          refine J.getR C flX6_crate_48 (by first | decide | omega) rfl (by exact rfl) dX6_crate_54 ?_
          refine J.iload_n C dX6_crate_57 rfl ?_
          refine J.iload_n C dX6_crate_58 rfl ?_
          first | refine J.if_ne_b C dX6_crate_59 (tgt := 66) (by decide) (fun c59t => ?_) (fun c59f => ?_) | refine J.if_ne_n C (by omega) dX6_crate_59 (tgt := 66) (by decide) (fun c59t => ?_) (fun c59f => ?_) | refine J.if_ne C dX6_crate_59 (tgt := 66) (by decide) (fun c59t => ?_) (fun c59f => ?_)
          · refine J.iload_n C dX6_crate_66 rfl ?_
            refine J.ias C (by first | exact rfl | assumption) (by first | exact rfl | exact rfl) (by first | (have h_ln := ln_all; omega) | omega) dX6_crate_67 ?_
            refine J.iconst C dX6_crate_68 (v := (nI 0)) (by decide) ?_
            refine J.istore (ls' := [(0, _), (1, _), (2, _), (3, _), (4, _)]) C dX6_crate_69 (by decide) rfl ?_
            refine lp_X6_crate C (z := if kk = 0 then 0 else n) hc (by rw [up2_s, if_neg c59t]) ?_ 12 0 (by omega)
            exact qM_s ⟨rfl, AbM_crate (c := c) (x := (kk, if kk = 0 then 0 else n, fun _ => 0)) h (fun q a b e0 e1 => by rw [up2_n _ _ _ e1, up2_n _ _ _ e0]) (by rw [up2_n _ _ _ (by decide), up2_s]) (by rw [up2_s]; show nI n = nI (if kk = 0 then 0 else n); rw [if_neg c59t]) (fun i hi => by rw [crR_v, if_pos (by omega)]) (fun j hj => by rw [up2_n _ _ _ (by decide), up2_m _ _ _ hj]) (fun j hj => by rw [up2_m _ _ _ hj, up2_n _ _ _ (by decide)]) (fun j hj => by rw [crR_v, if_neg (by omega)]), (by repeat (first | exact frm_rfl | refine frm_up (by decide) ?_ | refine frm_be ?_ | refine frm_rs ?_ | refine frm_st ?_ | refine frm_F ?_)), fun q hq => by funext j; rw [crR_v, if_neg (by omega)]⟩
          · refine J.iconst C dX6_crate_62 (v := (nI 0)) (by decide) ?_
            refine J.goto C dX6_crate_63 (tgt := 67) (by decide) ?_
            refine J.ias C (by first | exact rfl | assumption) (by first | exact rfl | exact rfl) (by first | (have h_ln := ln_all; omega) | omega) dX6_crate_67 ?_
            refine J.iconst C dX6_crate_68 (v := (nI 0)) (by decide) ?_
            refine J.istore (ls' := [(0, _), (1, _), (2, _), (3, _), (4, _)]) C dX6_crate_69 (by decide) rfl ?_
            refine lp_X6_crate C (z := if kk = 0 then 0 else n) hc (by rw [up2_s, if_pos c59f]) ?_ 12 0 (by omega)
            exact qM_s ⟨rfl, AbM_crate (c := c) (x := (kk, if kk = 0 then 0 else n, fun _ => 0)) h (fun q a b e0 e1 => by rw [up2_n _ _ _ e1, up2_n _ _ _ e0]) (by rw [up2_n _ _ _ (by decide), up2_s]) (by rw [up2_s]; show nI 0 = nI (if kk = 0 then 0 else n); rw [if_pos c59f]) (fun i hi => by rw [crR_v, if_pos (by omega)]) (fun j hj => by rw [up2_n _ _ _ (by decide), up2_m _ _ _ hj]) (fun j hj => by rw [up2_m _ _ _ hj, up2_n _ _ _ (by decide)]) (fun j hj => by rw [crR_v, if_neg (by omega)]), (by repeat (first | exact frm_rfl | refine frm_up (by decide) ?_ | refine frm_be ?_ | refine frm_rs ?_ | refine frm_st ?_ | refine frm_F ?_)), fun q hq => by funext j; rw [crR_v, if_neg (by omega)]⟩
        · rw [tb_0 c37f]
          refine J.aload_n C dX6_crate_40 rfl ?_
          refine J.iconst C dX6_crate_41 (v := (-1)) (by decide) ?_
          refine J.cVDi (q := (RX6, TX6, 25)) (ci := 6) C (ok_X6_found l V _ _ _) gX6_crate_X6_found rfl mfX6_found rfl (by decide) (by decide) (by first | decide | omega) rfl rfl rfl rfl (Nat.le_of_ble_eq_true rfl) dX6_crate_42 (Nat.le_refl _) (Nat.le_refl _) ?_
          exact J.iret C dX6_crate_45 (qM_s (qM_F h))
      · obtain rfl : o3 = none := by cases o3 with | none => rfl | some n => obtain ⟨hn, rfl⟩ := hx3; rw [nI_ti hn] at c24f; omega
        refine J.aload_n C dX6_crate_27 rfl ?_
        refine J.bipush C dX6_crate_28 (v := (-3)) (by decide) ?_
        refine J.cVDi (q := (RX6, TX6, 25)) (ci := 6) C (ok_X6_found l V _ _ _) gX6_crate_X6_found rfl mfX6_found rfl (by decide) (by decide) (by first | decide | omega) rfl rfl rfl rfl (Nat.le_of_ble_eq_true rfl) dX6_crate_30 (Nat.le_refl _) (Nat.le_refl _) ?_
        exact J.iret C dX6_crate_33 (qM_s (qM_F h))
    · refine J.aload_n C dX6_crate_17 rfl ?_
      refine J.iconst C dX6_crate_18 (v := (-1)) (by decide) ?_
      refine J.cVDi (q := (RX6, TX6, 25)) (ci := 6) C (ok_X6_found l V _ _ _) gX6_crate_X6_found rfl mfX6_found rfl (by decide) (by decide) (by first | decide | omega) rfl rfl rfl rfl (Nat.le_of_ble_eq_true rfl) dX6_crate_19 (Nat.le_refl _) (Nat.le_refl _) ?_
      exact J.iret C dX6_crate_22 (qM_s (by unfold op_crate; rw [tb_0 (fun q => by first | exact tb_f.mp c4t q.1 | exact tb_f.mp c14f q.2)]; exact qM_F h))
theorem ok_X6_in_p (l : Launch) (V : Vx) {x : Int32} {o : Option Nat} (m : Nat) (hb : m ≤ 100) (I : Nat → Nat → Int32) (L : Nat → Nat → Int64) (hx : AG x o) : Di l V yX6_in wsX6_in 1 [.int x, .int (nI 0), .int (nI m - nI 1)] I L (bI (tb (inO o m))) I L := by
  have h := ok_X6_in l V x (nI 0) (nI m - nI 1) I L
  rw [pk_sub_toInt (by omega) (by omega), nI_ti (by decide)] at h
  rw [tb_congr (show ((((0 : Nat) : Int) ≤ x.toInt ∧ x.toInt ≤ (m : Int) - ((1 : Nat) : Int))) ↔ inO o m from by rw [← AG_in hx]; constructor <;> intro q <;> exact ⟨by omega, by omega⟩)] at h
  exact h
set_option maxHeartbeats 4000000 in
set_option maxRecDepth 100000 in
theorem ok_X6_lacks (l : Launch) (V : Vx) {g : Sg} {x1 : Int32} {o1 : Option Nat} {x2 : Int32} {o2 : Option Nat} (I : Nat → Nat → Int32) (L : Nat → Nat → Int64) (hx1 : AG x1 o1) (hx2 : AG x2 o2) (h : AbM I L g) (ok : okG g) : Di l V yX6_lacks wsX6_lacks 3 [.ref (ad V 85), .int x1, .int x2] I L (lkO g o1 o2) I L := by
  refine Ok.of (cc := cX6_lacks) (maxL := 3) (ret := (some .int)) (by decide) rfl (Nat.le_of_ble_eq_true rfl) (fun X hnm C => ?_)
  have C : CX l X V RX6 cX6_lacks 3 wsX6_lacks 3 0 0 (some .int) := C
  refine J.cast (ls' := [(0, _), (1, _), (2, _)]) rfl rfl rfl rfl ?_
  refine J.iload_n C dX6_lacks_0 rfl ?_
  refine J.cSDi C (ok_X6_isCrate l V _ _ hx1) gX6_lacks_X6_isCrate rfl mfX6_isCrate (by decide) (by decide) rfl rfl (Nat.le_of_ble_eq_true rfl) dX6_lacks_1 (Nat.le_refl _) (Nat.le_refl _) ?_
  first | refine J.if_ne_b C dX6_lacks_4 (tgt := 11) (by decide) (fun c4t => ?_) (fun c4f => ?_) | refine J.if_ne_n C (by omega) dX6_lacks_4 (tgt := 11) (by decide) (fun c4t => ?_) (fun c4f => ?_) | refine J.if_ne C dX6_lacks_4 (tgt := 11) (by decide) (fun c4t => ?_) (fun c4f => ?_)
  · obtain ⟨c, rfl, hc⟩ := tb_t.mp c4t
    obtain ⟨-, rfl⟩ := hx1
    unfold lkO
    rw [c4t]
    have hC := h.2.2.2.1 c hc
    have hok := ok.2.2.2.2.1 c hc
    obtain ⟨hc0, hc1, hc2⟩ := hC
    obtain ⟨ok0, ok1, ok2⟩ := hok
    refine J.aload_n C dX6_lacks_11 rfl ?_
    refine J.getR C flX6_lacks_45 (by first | decide | omega) rfl (by exact rfl) dX6_lacks_12 ?_
    refine J.iload_n C dX6_lacks_15 rfl ?_
    refine J.ia C (by first | exact rfl | assumption) (by first | exact rfl | exact rfl) (by first | (have h_ln := ln_all; omega) | omega) (by first | ((repeat (first | refine up2_rd (by decide) ?_ | refine up2_rm (by decide) ?_ | refine up3_rd (by decide) ?_)) <;> (first | exact up2_s _ _ _ _ | assumption | exact rfl))) dX6_lacks_16 ?_
    first | refine J.if_ne_b C dX6_lacks_17 (tgt := 25) (by decide) (fun c17t => ?_) (fun c17f => ?_) | refine J.if_ne_n C (by omega) dX6_lacks_17 (tgt := 25) (by decide) (fun c17t => ?_) (fun c17f => ?_) | refine J.if_ne C dX6_lacks_17 (tgt := 25) (by decide) (fun c17t => ?_) (fun c17f => ?_)
    · rw [tb_0 (show ¬ (g.2.2.2.1 ((some c).getD 0)).1 = 0 from c17t)]
      refine J.iload_n C dX6_lacks_25 rfl ?_
      refine J.iconst C dX6_lacks_26 (v := (nI 0)) (by decide) ?_
      refine J.aload_n C dX6_lacks_27 rfl ?_
      refine J.getR C flX6_lacks_48 (by first | decide | omega) rfl (by exact rfl) dX6_lacks_28 ?_
      refine J.iload_n C dX6_lacks_31 rfl ?_
      refine J.ia C (by first | exact rfl | assumption) (by first | exact rfl | exact rfl) (by first | (have h_ln := ln_all; omega) | omega) (by first | ((repeat (first | refine up2_rd (by decide) ?_ | refine up2_rm (by decide) ?_ | refine up3_rd (by decide) ?_)) <;> (first | exact up2_s _ _ _ _ | assumption | exact rfl))) dX6_lacks_32 ?_
      refine J.iconst C dX6_lacks_33 (v := (nI 1)) (by decide) ?_
      refine J.isub C dX6_lacks_34 ?_
      refine J.cSDi C (ok_X6_in_p l V _ (by omega) _ _ hx2) gX6_lacks_X6_in rfl mfX6_in (by decide) (by decide) rfl rfl (Nat.le_of_ble_eq_true rfl) dX6_lacks_35 (Nat.le_refl _) (Nat.le_refl _) ?_
      first | refine J.if_eq_b C dX6_lacks_38 (tgt := 45) (by decide) (fun c38t => ?_) (fun c38f => ?_) | refine J.if_eq_n C (by omega) dX6_lacks_38 (tgt := 45) (by decide) (fun c38t => ?_) (fun c38f => ?_) | refine J.if_eq C dX6_lacks_38 (tgt := 45) (by decide) (fun c38t => ?_) (fun c38f => ?_)
      · rw [show tb (inO o2 (g.2.2.2.1 ((some c).getD 0)).2.1) = false from c38t]
        refine J.iconst C dX6_lacks_45 (v := (-1)) (by decide) ?_
        exact J.iret C dX6_lacks_46 ⟨rfl, rfl⟩
      · rw [show tb (inO o2 (g.2.2.2.1 ((some c).getD 0)).2.1) = true from c38f]
        refine J.iconst C dX6_lacks_41 (v := (nI 0)) (by decide) ?_
        refine J.goto C dX6_lacks_42 (tgt := 46) (by decide) ?_
        exact J.iret C dX6_lacks_46 ⟨rfl, rfl⟩
    · rw [tb_1 (show (g.2.2.2.1 ((some c).getD 0)).1 = 0 from c17f)]
      refine J.bipush C dX6_lacks_20 (v := (-2)) (by decide) ?_
      refine J.goto C dX6_lacks_22 (tgt := 46) (by decide) ?_
      exact J.iret C dX6_lacks_46 ⟨rfl, rfl⟩
  · unfold lkO
    rw [c4f]
    refine J.iconst C dX6_lacks_7 (v := (-1)) (by decide) ?_
    refine J.goto C dX6_lacks_8 (tgt := 46) (by decide) ?_
    exact J.iret C dX6_lacks_46 ⟨rfl, rfl⟩
