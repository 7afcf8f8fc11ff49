/-! THE REFERENCE: rounds -/
def shr (a b : Cmp) : Prop := a.2.1 = b.2.1 ∨ a.2.1 = b.2.2.1 ∨ a.2.2.1 = b.2.1 ∨ a.2.2.1 = b.2.2.1
noncomputable def mxR (f : Nat → Cmp) (r : Nat → Nat) (k : Nat) : Nat → Nat
  | 0 => 0
  | m + 1 => cond (tb (shr (f m) (f k) ∧ mxR f r k m < r m)) (r m) (mxR f r k m)
noncomputable def rdA (f : Nat → Cmp) : Nat → Nat → Nat
  | 0 => fun _ => 0
  | k + 1 => va_up (rdA f k) k (mxR f (rdA f k) k k + 1)
noncomputable def lsR (f : Nat → Cmp) : Nat → Nat
  | 0 => 0
  | k + 1 => mxR f (rdA f k) k k
noncomputable def rdF (f : Nat → Cmp) (k : Nat) : Nat := lsR f (k + 1) + 1
noncomputable def rmx (f : Nat → Cmp) : Nat → Nat
  | 0 => 0
  | i + 1 => cond (tb (rmx f i < rdF f i)) (rdF f i) (rmx f i)
theorem mxR_le {f : Nat → Cmp} {r : Nat → Nat} {k : Nat} : ∀ m, (∀ j, j < m → r j ≤ j + 1) → mxR f r k m ≤ m
  | 0, _ => Nat.le_refl _
  | m + 1, h => by
    have h1 := mxR_le (f := f) (k := k) m (fun j hj => h j (by omega))
    have h2 := h m (by omega)
    unfold mxR
    cases tb (shr (f m) (f k) ∧ mxR f r k m < r m) <;> simp <;> omega
theorem rdA_le {f : Nat → Cmp} : ∀ k j, j < k → rdA f k j ≤ j + 1
  | k + 1, j, h => by
    unfold rdA
    by_cases e : j = k
    · subst e
      rw [va_up_self]
      have := mxR_le (f := f) (r := rdA f j) (k := j) j (fun q hq => rdA_le j q hq)
      omega
    · rw [va_up_ne _ _ e]
      exact rdA_le k j (by omega)
theorem lsR_le {f : Nat → Cmp} (k : Nat) : lsR f k ≤ k := by
  cases k with
  | zero => exact Nat.le_refl _
  | succ k =>
    have := mxR_le (f := f) (r := rdA f k) (k := k) k (fun q hq => rdA_le k q hq)
    show mxR f (rdA f k) k k ≤ k + 1
    omega
theorem rmx_le {f : Nat → Cmp} : ∀ i, rmx f i ≤ i + 1
  | 0 => by unfold rmx; omega
  | i + 1 => by
    have h1 := rmx_le (f := f) i
    have h2 := lsR_le (f := f) (i + 1)
    unfold rmx rdF
    cases tb (rmx f i < lsR f (i + 1) + 1) <;> simp <;> omega
set_option maxHeartbeats 4000000 in
set_option maxRecDepth 100000 in
theorem lp_X6_roundOf_i {l : Launch} {X : Cx} {V : Vx} {P : Option Value → (Nat → va_E) → Prop} {I : Nat → Nat → Int32} {L : Nat → Nat → Int64} (C : CX l X V RX6 cX6_roundOf 6 wsX6_roundOf 1 0 0 (some .int)) {f : Nat → Cmp} {i k c : Nat} {J0 : Nat → Nat → Int32} (hc : c ≤ 40) (hki : k ≤ i) (hic : i < c) (hL : ∀ j, j < c → J0 87 j = nI (f j).2.1 ∧ J0 88 j = nI (f j).2.2.1) (h8 : ∀ j, j < c → (f j).2.1 < 8 ∧ (f j).2.2.1 < 8) (hr : ∀ j, j < k → J0 100 j = nI (rdA f k j)) (hx : E X V P 6 121 [(0, .ref (ad V 85)), (1, .int (nI i)), (2, .int (nI (mxR f (rdA f k) k k))), (3, .int (nI k)), (4, .int (nI k))] [] J0 L) : ∀ (n q w : Nat), q + n = k → w = mxR f (rdA f k) k q → E X V P 6 14 [(0, .ref (ad V 85)), (1, .int (nI i)), (2, .int (nI w)), (3, .int (nI k)), (4, .int (nI q))] [] J0 L := by
  intro n
  induction n with
  | zero =>
    intro q w hq hw
    have e : q = k := by omega
    subst e
    subst hw
    refine J.iload C dX6_roundOf_14 rfl ?_
    refine J.iload_n C dX6_roundOf_16 rfl ?_
    first | refine J.icmp_ge_n C (by omega) (by omega) dX6_roundOf_17 (tgt := 121) (by decide) (fun _ => ?_) (fun c17 => absurd c17 (by first | omega | decide | simp_all)) | refine J.icmp_ge_xn C (by omega) dX6_roundOf_17 (tgt := 121) (by decide) (fun _ => ?_) (fun c17 => absurd c17 (by first | omega | decide | simp_all)) | refine J.icmp_ge_nx C (by omega) dX6_roundOf_17 (tgt := 121) (by decide) (fun _ => ?_) (fun c17 => absurd c17 (by first | omega | decide | simp_all)) | refine J.icmp_ge C dX6_roundOf_17 (tgt := 121) (by decide) (fun _ => ?_) (fun c17 => absurd c17 (by first | omega | decide | simp_all))
    exact hx
  | succ n ih =>
    intro q w hq hw
    have hq8 := h8 q (by omega)
    have hk8 := h8 k (by omega)
    have hr1 := rdA_le (f := f) k q (by omega)
    have hm1 := mxR_le (f := f) (r := rdA f k) (k := k) q (fun j hj => rdA_le k j (by omega))
    have hw40 : w ≤ 40 := by omega
    refine J.iload C dX6_roundOf_14 rfl ?_
    refine J.iload_n C dX6_roundOf_16 rfl ?_
    first | refine J.icmp_ge_n C (by omega) (by omega) dX6_roundOf_17 (tgt := 121) (by decide) (fun c17 => absurd c17 (by first | omega | decide | simp_all)) (fun _ => ?_) | refine J.icmp_ge_xn C (by omega) dX6_roundOf_17 (tgt := 121) (by decide) (fun c17 => absurd c17 (by first | omega | decide | simp_all)) (fun _ => ?_) | refine J.icmp_ge_nx C (by omega) dX6_roundOf_17 (tgt := 121) (by decide) (fun c17 => absurd c17 (by first | omega | decide | simp_all)) (fun _ => ?_) | refine J.icmp_ge C dX6_roundOf_17 (tgt := 121) (by decide) (fun c17 => absurd c17 (by first | omega | decide | simp_all)) (fun _ => ?_)
    refine J.aload_n C dX6_roundOf_20 rfl ?_
    refine J.getR C flX6_roundOf_17 (by first | decide | omega) rfl (by exact rfl) dX6_roundOf_21 ?_
    refine J.iload C dX6_roundOf_24 rfl ?_
    refine J.ia C (by first | exact rfl | assumption) (by first | exact rfl | exact rfl) (by first | (have h_ln := ln_all; omega) | omega) (by first | exact (hL q (by omega)).1 | ((repeat (first | refine up2_rd (by decide) ?_ | refine up2_rm (by decide) ?_ | refine up3_rd (by decide) ?_)) <;> (first | exact up2_s _ _ _ _ | assumption | exact rfl))) dX6_roundOf_26 ?_
    refine J.aload_n C dX6_roundOf_27 rfl ?_
    refine J.getR C flX6_roundOf_17 (by first | decide | omega) rfl (by exact rfl) dX6_roundOf_28 ?_
    refine J.iload_n C dX6_roundOf_31 rfl ?_
    refine J.ia C (by first | exact rfl | assumption) (by first | exact rfl | exact rfl) (by first | (have h_ln := ln_all; omega) | omega) (by first | exact (hL k (by omega)).1 | ((repeat (first | refine up2_rd (by decide) ?_ | refine up2_rm (by decide) ?_ | refine up3_rd (by decide) ?_)) <;> (first | exact up2_s _ _ _ _ | assumption | exact rfl))) dX6_roundOf_32 ?_
    first | refine J.icmp_eq_n C (by omega) (by omega) dX6_roundOf_33 (tgt := 84) (by decide) (fun c33t => ?_) (fun c33f => ?_) | refine J.icmp_eq_xn C (by omega) dX6_roundOf_33 (tgt := 84) (by decide) (fun c33t => ?_) (fun c33f => ?_) | refine J.icmp_eq_nx C (by omega) dX6_roundOf_33 (tgt := 84) (by decide) (fun c33t => ?_) (fun c33f => ?_) | refine J.icmp_eq C dX6_roundOf_33 (tgt := 84) (by decide) (fun c33t => ?_) (fun c33f => ?_)
    · have hs : shr (f q) (f k) := Or.inl c33t
      refine J.iconst C dX6_roundOf_84 (v := (nI 1)) (by decide) ?_
      refine J.goto C dX6_roundOf_85 (tgt := 89) (by decide) ?_
      refine J.istore (ls' := [(0, _), (1, _), (2, _), (3, _), (4, _), (5, _)]) C dX6_roundOf_89 (by decide) rfl ?_
      refine J.iload C dX6_roundOf_91 rfl ?_
      refine J.if_eq_n C (by omega) dX6_roundOf_93 (tgt := 115) (by decide) (fun c93t => ?_) (fun c93f => ?_)
      · refine J.iinc (ls' := [(0, _), (1, _), (2, _), (3, _), (4, _), (5, _)]) C dX6_roundOf_115 rfl (by first | exact nI_inc _ 1 | exact rfl) (by decide) rfl ?_
        refine J.goto C dX6_roundOf_118 (tgt := 14) (by decide) ?_
        refine J.lsx (ls' := [(0, _), (1, _), (2, _), (3, _), (4, _)]) (ex := [(5, _)]) rfl ?_
        first | exact absurd c93t (by decide) | exact ih (q + 1) _ (by omega) (by unfold mxR; rw [tb_0 (fun z => hs z.1)]; exact hw)
      · refine J.aload_n C dX6_roundOf_96 rfl ?_
        refine J.getR C flX6_roundOf_58 (by first | decide | omega) rfl (by exact rfl) dX6_roundOf_97 ?_
        refine J.iload C dX6_roundOf_100 rfl ?_
        refine J.ia C (by first | exact rfl | assumption) (by first | exact rfl | exact rfl) (by first | (have h_ln := ln_all; omega) | omega) (by first | exact hr q (by omega) | ((repeat (first | refine up2_rd (by decide) ?_ | refine up2_rm (by decide) ?_ | refine up3_rd (by decide) ?_)) <;> (first | exact up2_s _ _ _ _ | assumption | exact rfl))) dX6_roundOf_102 ?_
        refine J.iload_n C dX6_roundOf_103 rfl ?_
        first | refine J.icmp_le_n C (by omega) (by omega) dX6_roundOf_104 (tgt := 115) (by decide) (fun c104t => ?_) (fun c104f => ?_) | refine J.icmp_le_xn C (by omega) dX6_roundOf_104 (tgt := 115) (by decide) (fun c104t => ?_) (fun c104f => ?_) | refine J.icmp_le_nx C (by omega) dX6_roundOf_104 (tgt := 115) (by decide) (fun c104t => ?_) (fun c104f => ?_) | refine J.icmp_le C dX6_roundOf_104 (tgt := 115) (by decide) (fun c104t => ?_) (fun c104f => ?_)
        · refine J.iinc (ls' := [(0, _), (1, _), (2, _), (3, _), (4, _), (5, _)]) C dX6_roundOf_115 rfl (by first | exact nI_inc _ 1 | exact rfl) (by decide) rfl ?_
          refine J.goto C dX6_roundOf_118 (tgt := 14) (by decide) ?_
          refine J.lsx (ls' := [(0, _), (1, _), (2, _), (3, _), (4, _)]) (ex := [(5, _)]) rfl ?_
          first | exact absurd rfl c93f | exact ih (q + 1) _ (by omega) (by unfold mxR; rw [tb_0 (fun z => by omega)]; exact hw)
        · refine J.aload_n C dX6_roundOf_107 rfl ?_
          refine J.getR C flX6_roundOf_58 (by first | decide | omega) rfl (by exact rfl) dX6_roundOf_108 ?_
          refine J.iload C dX6_roundOf_111 rfl ?_
          refine J.ia C (by first | exact rfl | assumption) (by first | exact rfl | exact rfl) (by first | (have h_ln := ln_all; omega) | omega) (by first | exact hr q (by omega) | ((repeat (first | refine up2_rd (by decide) ?_ | refine up2_rm (by decide) ?_ | refine up3_rd (by decide) ?_)) <;> (first | exact up2_s _ _ _ _ | assumption | exact rfl))) dX6_roundOf_113 ?_
          refine J.istore_n (ls' := [(0, _), (1, _), (2, _), (3, _), (4, _), (5, _)]) C dX6_roundOf_114 (by decide) rfl ?_
          refine J.iinc (ls' := [(0, _), (1, _), (2, _), (3, _), (4, _), (5, _)]) C dX6_roundOf_115 rfl (by first | exact nI_inc _ 1 | exact rfl) (by decide) rfl ?_
          refine J.goto C dX6_roundOf_118 (tgt := 14) (by decide) ?_
          refine J.lsx (ls' := [(0, _), (1, _), (2, _), (3, _), (4, _)]) (ex := [(5, _)]) rfl ?_
          first | exact absurd rfl c93f | exact ih (q + 1) _ (by omega) (by unfold mxR; rw [tb_1 ⟨hs, by omega⟩]; rfl)
    · refine J.aload_n C dX6_roundOf_36 rfl ?_
      refine J.getR C flX6_roundOf_17 (by first | decide | omega) rfl (by exact rfl) dX6_roundOf_37 ?_
      refine J.iload C dX6_roundOf_40 rfl ?_
      refine J.ia C (by first | exact rfl | assumption) (by first | exact rfl | exact rfl) (by first | (have h_ln := ln_all; omega) | omega) (by first | exact (hL q (by omega)).1 | ((repeat (first | refine up2_rd (by decide) ?_ | refine up2_rm (by decide) ?_ | refine up3_rd (by decide) ?_)) <;> (first | exact up2_s _ _ _ _ | assumption | exact rfl))) dX6_roundOf_42 ?_
      refine J.aload_n C dX6_roundOf_43 rfl ?_
      refine J.getR C flX6_roundOf_20 (by first | decide | omega) rfl (by exact rfl) dX6_roundOf_44 ?_
      refine J.iload_n C dX6_roundOf_47 rfl ?_
      refine J.ia C (by first | exact rfl | assumption) (by first | exact rfl | exact rfl) (by first | (have h_ln := ln_all; omega) | omega) (by first | exact (hL k (by omega)).2 | ((repeat (first | refine up2_rd (by decide) ?_ | refine up2_rm (by decide) ?_ | refine up3_rd (by decide) ?_)) <;> (first | exact up2_s _ _ _ _ | assumption | exact rfl))) dX6_roundOf_48 ?_
      first | refine J.icmp_eq_n C (by omega) (by omega) dX6_roundOf_49 (tgt := 84) (by decide) (fun c49t => ?_) (fun c49f => ?_) | refine J.icmp_eq_xn C (by omega) dX6_roundOf_49 (tgt := 84) (by decide) (fun c49t => ?_) (fun c49f => ?_) | refine J.icmp_eq_nx C (by omega) dX6_roundOf_49 (tgt := 84) (by decide) (fun c49t => ?_) (fun c49f => ?_) | refine J.icmp_eq C dX6_roundOf_49 (tgt := 84) (by decide) (fun c49t => ?_) (fun c49f => ?_)
      · have hs : shr (f q) (f k) := Or.inr (Or.inl c49t)
        refine J.iconst C dX6_roundOf_84 (v := (nI 1)) (by decide) ?_
        refine J.goto C dX6_roundOf_85 (tgt := 89) (by decide) ?_
        refine J.istore (ls' := [(0, _), (1, _), (2, _), (3, _), (4, _), (5, _)]) C dX6_roundOf_89 (by decide) rfl ?_
        refine J.iload C dX6_roundOf_91 rfl ?_
        refine J.if_eq_n C (by omega) dX6_roundOf_93 (tgt := 115) (by decide) (fun c93t => ?_) (fun c93f => ?_)
        · refine J.iinc (ls' := [(0, _), (1, _), (2, _), (3, _), (4, _), (5, _)]) C dX6_roundOf_115 rfl (by first | exact nI_inc _ 1 | exact rfl) (by decide) rfl ?_
          refine J.goto C dX6_roundOf_118 (tgt := 14) (by decide) ?_
          refine J.lsx (ls' := [(0, _), (1, _), (2, _), (3, _), (4, _)]) (ex := [(5, _)]) rfl ?_
          first | exact absurd c93t (by decide) | exact ih (q + 1) _ (by omega) (by unfold mxR; rw [tb_0 (fun z => hs z.1)]; exact hw)
        · refine J.aload_n C dX6_roundOf_96 rfl ?_
          refine J.getR C flX6_roundOf_58 (by first | decide | omega) rfl (by exact rfl) dX6_roundOf_97 ?_
          refine J.iload C dX6_roundOf_100 rfl ?_
          refine J.ia C (by first | exact rfl | assumption) (by first | exact rfl | exact rfl) (by first | (have h_ln := ln_all; omega) | omega) (by first | exact hr q (by omega) | ((repeat (first | refine up2_rd (by decide) ?_ | refine up2_rm (by decide) ?_ | refine up3_rd (by decide) ?_)) <;> (first | exact up2_s _ _ _ _ | assumption | exact rfl))) dX6_roundOf_102 ?_
          refine J.iload_n C dX6_roundOf_103 rfl ?_
          first | refine J.icmp_le_n C (by omega) (by omega) dX6_roundOf_104 (tgt := 115) (by decide) (fun c104t => ?_) (fun c104f => ?_) | refine J.icmp_le_xn C (by omega) dX6_roundOf_104 (tgt := 115) (by decide) (fun c104t => ?_) (fun c104f => ?_) | refine J.icmp_le_nx C (by omega) dX6_roundOf_104 (tgt := 115) (by decide) (fun c104t => ?_) (fun c104f => ?_) | refine J.icmp_le C dX6_roundOf_104 (tgt := 115) (by decide) (fun c104t => ?_) (fun c104f => ?_)
          · refine J.iinc (ls' := [(0, _), (1, _), (2, _), (3, _), (4, _), (5, _)]) C dX6_roundOf_115 rfl (by first | exact nI_inc _ 1 | exact rfl) (by decide) rfl ?_
            refine J.goto C dX6_roundOf_118 (tgt := 14) (by decide) ?_
            refine J.lsx (ls' := [(0, _), (1, _), (2, _), (3, _), (4, _)]) (ex := [(5, _)]) rfl ?_
            first | exact absurd rfl c93f | exact ih (q + 1) _ (by omega) (by unfold mxR; rw [tb_0 (fun z => by omega)]; exact hw)
          · refine J.aload_n C dX6_roundOf_107 rfl ?_
            refine J.getR C flX6_roundOf_58 (by first | decide | omega) rfl (by exact rfl) dX6_roundOf_108 ?_
            refine J.iload C dX6_roundOf_111 rfl ?_
            refine J.ia C (by first | exact rfl | assumption) (by first | exact rfl | exact rfl) (by first | (have h_ln := ln_all; omega) | omega) (by first | exact hr q (by omega) | ((repeat (first | refine up2_rd (by decide) ?_ | refine up2_rm (by decide) ?_ | refine up3_rd (by decide) ?_)) <;> (first | exact up2_s _ _ _ _ | assumption | exact rfl))) dX6_roundOf_113 ?_
            refine J.istore_n (ls' := [(0, _), (1, _), (2, _), (3, _), (4, _), (5, _)]) C dX6_roundOf_114 (by decide) rfl ?_
            refine J.iinc (ls' := [(0, _), (1, _), (2, _), (3, _), (4, _), (5, _)]) C dX6_roundOf_115 rfl (by first | exact nI_inc _ 1 | exact rfl) (by decide) rfl ?_
            refine J.goto C dX6_roundOf_118 (tgt := 14) (by decide) ?_
            refine J.lsx (ls' := [(0, _), (1, _), (2, _), (3, _), (4, _)]) (ex := [(5, _)]) rfl ?_
            first | exact absurd rfl c93f | exact ih (q + 1) _ (by omega) (by unfold mxR; rw [tb_1 ⟨hs, by omega⟩]; rfl)
      · refine J.aload_n C dX6_roundOf_52 rfl ?_
        refine J.getR C flX6_roundOf_20 (by first | decide | omega) rfl (by exact rfl) dX6_roundOf_53 ?_
        refine J.iload C dX6_roundOf_56 rfl ?_
        refine J.ia C (by first | exact rfl | assumption) (by first | exact rfl | exact rfl) (by first | (have h_ln := ln_all; omega) | omega) (by first | exact (hL q (by omega)).2 | ((repeat (first | refine up2_rd (by decide) ?_ | refine up2_rm (by decide) ?_ | refine up3_rd (by decide) ?_)) <;> (first | exact up2_s _ _ _ _ | assumption | exact rfl))) dX6_roundOf_58 ?_
        refine J.aload_n C dX6_roundOf_59 rfl ?_
        refine J.getR C flX6_roundOf_17 (by first | decide | omega) rfl (by exact rfl) dX6_roundOf_60 ?_
        refine J.iload_n C dX6_roundOf_63 rfl ?_
        refine J.ia C (by first | exact rfl | assumption) (by first | exact rfl | exact rfl) (by first | (have h_ln := ln_all; omega) | omega) (by first | exact (hL k (by omega)).1 | ((repeat (first | refine up2_rd (by decide) ?_ | refine up2_rm (by decide) ?_ | refine up3_rd (by decide) ?_)) <;> (first | exact up2_s _ _ _ _ | assumption | exact rfl))) dX6_roundOf_64 ?_
        first | refine J.icmp_eq_n C (by omega) (by omega) dX6_roundOf_65 (tgt := 84) (by decide) (fun c65t => ?_) (fun c65f => ?_) | refine J.icmp_eq_xn C (by omega) dX6_roundOf_65 (tgt := 84) (by decide) (fun c65t => ?_) (fun c65f => ?_) | refine J.icmp_eq_nx C (by omega) dX6_roundOf_65 (tgt := 84) (by decide) (fun c65t => ?_) (fun c65f => ?_) | refine J.icmp_eq C dX6_roundOf_65 (tgt := 84) (by decide) (fun c65t => ?_) (fun c65f => ?_)
        · have hs : shr (f q) (f k) := Or.inr (Or.inr (Or.inl c65t))
          refine J.iconst C dX6_roundOf_84 (v := (nI 1)) (by decide) ?_
          refine J.goto C dX6_roundOf_85 (tgt := 89) (by decide) ?_
          refine J.istore (ls' := [(0, _), (1, _), (2, _), (3, _), (4, _), (5, _)]) C dX6_roundOf_89 (by decide) rfl ?_
          refine J.iload C dX6_roundOf_91 rfl ?_
          refine J.if_eq_n C (by omega) dX6_roundOf_93 (tgt := 115) (by decide) (fun c93t => ?_) (fun c93f => ?_)
          · refine J.iinc (ls' := [(0, _), (1, _), (2, _), (3, _), (4, _), (5, _)]) C dX6_roundOf_115 rfl (by first | exact nI_inc _ 1 | exact rfl) (by decide) rfl ?_
            refine J.goto C dX6_roundOf_118 (tgt := 14) (by decide) ?_
            refine J.lsx (ls' := [(0, _), (1, _), (2, _), (3, _), (4, _)]) (ex := [(5, _)]) rfl ?_
            first | exact absurd c93t (by decide) | exact ih (q + 1) _ (by omega) (by unfold mxR; rw [tb_0 (fun z => hs z.1)]; exact hw)
          · refine J.aload_n C dX6_roundOf_96 rfl ?_
            refine J.getR C flX6_roundOf_58 (by first | decide | omega) rfl (by exact rfl) dX6_roundOf_97 ?_
            refine J.iload C dX6_roundOf_100 rfl ?_
            refine J.ia C (by first | exact rfl | assumption) (by first | exact rfl | exact rfl) (by first | (have h_ln := ln_all; omega) | omega) (by first | exact hr q (by omega) | ((repeat (first | refine up2_rd (by decide) ?_ | refine up2_rm (by decide) ?_ | refine up3_rd (by decide) ?_)) <;> (first | exact up2_s _ _ _ _ | assumption | exact rfl))) dX6_roundOf_102 ?_
            refine J.iload_n C dX6_roundOf_103 rfl ?_
            first | refine J.icmp_le_n C (by omega) (by omega) dX6_roundOf_104 (tgt := 115) (by decide) (fun c104t => ?_) (fun c104f => ?_) | refine J.icmp_le_xn C (by omega) dX6_roundOf_104 (tgt := 115) (by decide) (fun c104t => ?_) (fun c104f => ?_) | refine J.icmp_le_nx C (by omega) dX6_roundOf_104 (tgt := 115) (by decide) (fun c104t => ?_) (fun c104f => ?_) | refine J.icmp_le C dX6_roundOf_104 (tgt := 115) (by decide) (fun c104t => ?_) (fun c104f => ?_)
            · refine J.iinc (ls' := [(0, _), (1, _), (2, _), (3, _), (4, _), (5, _)]) C dX6_roundOf_115 rfl (by first | exact nI_inc _ 1 | exact rfl) (by decide) rfl ?_
              refine J.goto C dX6_roundOf_118 (tgt := 14) (by decide) ?_
              refine J.lsx (ls' := [(0, _), (1, _), (2, _), (3, _), (4, _)]) (ex := [(5, _)]) rfl ?_
              first | exact absurd rfl c93f | exact ih (q + 1) _ (by omega) (by unfold mxR; rw [tb_0 (fun z => by omega)]; exact hw)
            · refine J.aload_n C dX6_roundOf_107 rfl ?_
              refine J.getR C flX6_roundOf_58 (by first | decide | omega) rfl (by exact rfl) dX6_roundOf_108 ?_
              refine J.iload C dX6_roundOf_111 rfl ?_
              refine J.ia C (by first | exact rfl | assumption) (by first | exact rfl | exact rfl) (by first | (have h_ln := ln_all; omega) | omega) (by first | exact hr q (by omega) | ((repeat (first | refine up2_rd (by decide) ?_ | refine up2_rm (by decide) ?_ | refine up3_rd (by decide) ?_)) <;> (first | exact up2_s _ _ _ _ | assumption | exact rfl))) dX6_roundOf_113 ?_
              refine J.istore_n (ls' := [(0, _), (1, _), (2, _), (3, _), (4, _), (5, _)]) C dX6_roundOf_114 (by decide) rfl ?_
              refine J.iinc (ls' := [(0, _), (1, _), (2, _), (3, _), (4, _), (5, _)]) C dX6_roundOf_115 rfl (by first | exact nI_inc _ 1 | exact rfl) (by decide) rfl ?_
              refine J.goto C dX6_roundOf_118 (tgt := 14) (by decide) ?_
              refine J.lsx (ls' := [(0, _), (1, _), (2, _), (3, _), (4, _)]) (ex := [(5, _)]) rfl ?_
              first | exact absurd rfl c93f | exact ih (q + 1) _ (by omega) (by unfold mxR; rw [tb_1 ⟨hs, by omega⟩]; rfl)
        · refine J.aload_n C dX6_roundOf_68 rfl ?_
          refine J.getR C flX6_roundOf_20 (by first | decide | omega) rfl (by exact rfl) dX6_roundOf_69 ?_
          refine J.iload C dX6_roundOf_72 rfl ?_
          refine J.ia C (by first | exact rfl | assumption) (by first | exact rfl | exact rfl) (by first | (have h_ln := ln_all; omega) | omega) (by first | exact (hL q (by omega)).2 | ((repeat (first | refine up2_rd (by decide) ?_ | refine up2_rm (by decide) ?_ | refine up3_rd (by decide) ?_)) <;> (first | exact up2_s _ _ _ _ | assumption | exact rfl))) dX6_roundOf_74 ?_
          refine J.aload_n C dX6_roundOf_75 rfl ?_
          refine J.getR C flX6_roundOf_20 (by first | decide | omega) rfl (by exact rfl) dX6_roundOf_76 ?_
          refine J.iload_n C dX6_roundOf_79 rfl ?_
          refine J.ia C (by first | exact rfl | assumption) (by first | exact rfl | exact rfl) (by first | (have h_ln := ln_all; omega) | omega) (by first | exact (hL k (by omega)).2 | ((repeat (first | refine up2_rd (by decide) ?_ | refine up2_rm (by decide) ?_ | refine up3_rd (by decide) ?_)) <;> (first | exact up2_s _ _ _ _ | assumption | exact rfl))) dX6_roundOf_80 ?_
          first | refine J.icmp_ne_n C (by omega) (by omega) dX6_roundOf_81 (tgt := 88) (by decide) (fun c81t => ?_) (fun c81f => ?_) | refine J.icmp_ne_xn C (by omega) dX6_roundOf_81 (tgt := 88) (by decide) (fun c81t => ?_) (fun c81f => ?_) | refine J.icmp_ne_nx C (by omega) dX6_roundOf_81 (tgt := 88) (by decide) (fun c81t => ?_) (fun c81f => ?_) | refine J.icmp_ne C dX6_roundOf_81 (tgt := 88) (by decide) (fun c81t => ?_) (fun c81f => ?_)
          · have hs : ¬ shr (f q) (f k) := fun z => by rcases z with z | z | z | z; exact c33f z; exact c49f z; exact c65f z; exact c81t z
            refine J.iconst C dX6_roundOf_88 (v := (nI 0)) (by decide) ?_
            refine J.istore (ls' := [(0, _), (1, _), (2, _), (3, _), (4, _), (5, _)]) C dX6_roundOf_89 (by decide) rfl ?_
            refine J.iload C dX6_roundOf_91 rfl ?_
            refine J.if_eq_n C (by omega) dX6_roundOf_93 (tgt := 115) (by decide) (fun c93t => ?_) (fun c93f => ?_)
            · refine J.iinc (ls' := [(0, _), (1, _), (2, _), (3, _), (4, _), (5, _)]) C dX6_roundOf_115 rfl (by first | exact nI_inc _ 1 | exact rfl) (by decide) rfl ?_
              refine J.goto C dX6_roundOf_118 (tgt := 14) (by decide) ?_
              refine J.lsx (ls' := [(0, _), (1, _), (2, _), (3, _), (4, _)]) (ex := [(5, _)]) rfl ?_
              first | exact absurd c93t (by decide) | exact ih (q + 1) _ (by omega) (by unfold mxR; rw [tb_0 (fun z => hs z.1)]; exact hw)
            · refine J.aload_n C dX6_roundOf_96 rfl ?_
              refine J.getR C flX6_roundOf_58 (by first | decide | omega) rfl (by exact rfl) dX6_roundOf_97 ?_
              refine J.iload C dX6_roundOf_100 rfl ?_
              refine J.ia C (by first | exact rfl | assumption) (by first | exact rfl | exact rfl) (by first | (have h_ln := ln_all; omega) | omega) (by first | exact hr q (by omega) | ((repeat (first | refine up2_rd (by decide) ?_ | refine up2_rm (by decide) ?_ | refine up3_rd (by decide) ?_)) <;> (first | exact up2_s _ _ _ _ | assumption | exact rfl))) dX6_roundOf_102 ?_
              refine J.iload_n C dX6_roundOf_103 rfl ?_
              first | refine J.icmp_le_n C (by omega) (by omega) dX6_roundOf_104 (tgt := 115) (by decide) (fun c104t => ?_) (fun c104f => ?_) | refine J.icmp_le_xn C (by omega) dX6_roundOf_104 (tgt := 115) (by decide) (fun c104t => ?_) (fun c104f => ?_) | refine J.icmp_le_nx C (by omega) dX6_roundOf_104 (tgt := 115) (by decide) (fun c104t => ?_) (fun c104f => ?_) | refine J.icmp_le C dX6_roundOf_104 (tgt := 115) (by decide) (fun c104t => ?_) (fun c104f => ?_)
              · refine J.iinc (ls' := [(0, _), (1, _), (2, _), (3, _), (4, _), (5, _)]) C dX6_roundOf_115 rfl (by first | exact nI_inc _ 1 | exact rfl) (by decide) rfl ?_
                refine J.goto C dX6_roundOf_118 (tgt := 14) (by decide) ?_
                refine J.lsx (ls' := [(0, _), (1, _), (2, _), (3, _), (4, _)]) (ex := [(5, _)]) rfl ?_
                first | exact absurd rfl c93f | exact ih (q + 1) _ (by omega) (by unfold mxR; rw [tb_0 (fun z => by omega)]; exact hw)
              · refine J.aload_n C dX6_roundOf_107 rfl ?_
                refine J.getR C flX6_roundOf_58 (by first | decide | omega) rfl (by exact rfl) dX6_roundOf_108 ?_
                refine J.iload C dX6_roundOf_111 rfl ?_
                refine J.ia C (by first | exact rfl | assumption) (by first | exact rfl | exact rfl) (by first | (have h_ln := ln_all; omega) | omega) (by first | exact hr q (by omega) | ((repeat (first | refine up2_rd (by decide) ?_ | refine up2_rm (by decide) ?_ | refine up3_rd (by decide) ?_)) <;> (first | exact up2_s _ _ _ _ | assumption | exact rfl))) dX6_roundOf_113 ?_
                refine J.istore_n (ls' := [(0, _), (1, _), (2, _), (3, _), (4, _), (5, _)]) C dX6_roundOf_114 (by decide) rfl ?_
                refine J.iinc (ls' := [(0, _), (1, _), (2, _), (3, _), (4, _), (5, _)]) C dX6_roundOf_115 rfl (by first | exact nI_inc _ 1 | exact rfl) (by decide) rfl ?_
                refine J.goto C dX6_roundOf_118 (tgt := 14) (by decide) ?_
                refine J.lsx (ls' := [(0, _), (1, _), (2, _), (3, _), (4, _)]) (ex := [(5, _)]) rfl ?_
                first | exact absurd rfl c93f | exact ih (q + 1) _ (by omega) (by unfold mxR; rw [tb_1 ⟨hs, by omega⟩]; rfl)
          · have hs : shr (f q) (f k) := Or.inr (Or.inr (Or.inr c81f))
            refine J.iconst C dX6_roundOf_84 (v := (nI 1)) (by decide) ?_
            refine J.goto C dX6_roundOf_85 (tgt := 89) (by decide) ?_
            refine J.istore (ls' := [(0, _), (1, _), (2, _), (3, _), (4, _), (5, _)]) C dX6_roundOf_89 (by decide) rfl ?_
            refine J.iload C dX6_roundOf_91 rfl ?_
            refine J.if_eq_n C (by omega) dX6_roundOf_93 (tgt := 115) (by decide) (fun c93t => ?_) (fun c93f => ?_)
            · refine J.iinc (ls' := [(0, _), (1, _), (2, _), (3, _), (4, _), (5, _)]) C dX6_roundOf_115 rfl (by first | exact nI_inc _ 1 | exact rfl) (by decide) rfl ?_
              refine J.goto C dX6_roundOf_118 (tgt := 14) (by decide) ?_
              refine J.lsx (ls' := [(0, _), (1, _), (2, _), (3, _), (4, _)]) (ex := [(5, _)]) rfl ?_
              first | exact absurd c93t (by decide) | exact ih (q + 1) _ (by omega) (by unfold mxR; rw [tb_0 (fun z => hs z.1)]; exact hw)
            · refine J.aload_n C dX6_roundOf_96 rfl ?_
              refine J.getR C flX6_roundOf_58 (by first | decide | omega) rfl (by exact rfl) dX6_roundOf_97 ?_
              refine J.iload C dX6_roundOf_100 rfl ?_
              refine J.ia C (by first | exact rfl | assumption) (by first | exact rfl | exact rfl) (by first | (have h_ln := ln_all; omega) | omega) (by first | exact hr q (by omega) | ((repeat (first | refine up2_rd (by decide) ?_ | refine up2_rm (by decide) ?_ | refine up3_rd (by decide) ?_)) <;> (first | exact up2_s _ _ _ _ | assumption | exact rfl))) dX6_roundOf_102 ?_
              refine J.iload_n C dX6_roundOf_103 rfl ?_
              first | refine J.icmp_le_n C (by omega) (by omega) dX6_roundOf_104 (tgt := 115) (by decide) (fun c104t => ?_) (fun c104f => ?_) | refine J.icmp_le_xn C (by omega) dX6_roundOf_104 (tgt := 115) (by decide) (fun c104t => ?_) (fun c104f => ?_) | refine J.icmp_le_nx C (by omega) dX6_roundOf_104 (tgt := 115) (by decide) (fun c104t => ?_) (fun c104f => ?_) | refine J.icmp_le C dX6_roundOf_104 (tgt := 115) (by decide) (fun c104t => ?_) (fun c104f => ?_)
              · refine J.iinc (ls' := [(0, _), (1, _), (2, _), (3, _), (4, _), (5, _)]) C dX6_roundOf_115 rfl (by first | exact nI_inc _ 1 | exact rfl) (by decide) rfl ?_
                refine J.goto C dX6_roundOf_118 (tgt := 14) (by decide) ?_
                refine J.lsx (ls' := [(0, _), (1, _), (2, _), (3, _), (4, _)]) (ex := [(5, _)]) rfl ?_
                first | exact absurd rfl c93f | exact ih (q + 1) _ (by omega) (by unfold mxR; rw [tb_0 (fun z => by omega)]; exact hw)
              · refine J.aload_n C dX6_roundOf_107 rfl ?_
                refine J.getR C flX6_roundOf_58 (by first | decide | omega) rfl (by exact rfl) dX6_roundOf_108 ?_
                refine J.iload C dX6_roundOf_111 rfl ?_
                refine J.ia C (by first | exact rfl | assumption) (by first | exact rfl | exact rfl) (by first | (have h_ln := ln_all; omega) | omega) (by first | exact hr q (by omega) | ((repeat (first | refine up2_rd (by decide) ?_ | refine up2_rm (by decide) ?_ | refine up3_rd (by decide) ?_)) <;> (first | exact up2_s _ _ _ _ | assumption | exact rfl))) dX6_roundOf_113 ?_
                refine J.istore_n (ls' := [(0, _), (1, _), (2, _), (3, _), (4, _), (5, _)]) C dX6_roundOf_114 (by decide) rfl ?_
                refine J.iinc (ls' := [(0, _), (1, _), (2, _), (3, _), (4, _), (5, _)]) C dX6_roundOf_115 rfl (by first | exact nI_inc _ 1 | exact rfl) (by decide) rfl ?_
                refine J.goto C dX6_roundOf_118 (tgt := 14) (by decide) ?_
                refine J.lsx (ls' := [(0, _), (1, _), (2, _), (3, _), (4, _)]) (ex := [(5, _)]) rfl ?_
                first | exact absurd rfl c93f | exact ih (q + 1) _ (by omega) (by unfold mxR; rw [tb_1 ⟨hs, by omega⟩]; rfl)
set_option maxHeartbeats 4000000 in
set_option maxRecDepth 100000 in
theorem lp_X6_roundOf {l : Launch} {X : Cx} {V : Vx} {P : Option Value → (Nat → va_E) → Prop} {I : Nat → Nat → Int32} {L : Nat → Nat → Int64} (C : CX l X V RX6 cX6_roundOf 6 wsX6_roundOf 1 0 0 (some .int)) {f : Nat → Cmp} {i c : Nat} (hc : c ≤ 40) (hic : i < c) (hL : ∀ j, j < c → I 87 j = nI (f j).2.1 ∧ I 88 j = nI (f j).2.2.1) (h8 : ∀ j, j < c → (f j).2.1 < 8 ∧ (f j).2.2.1 < 8) (hP : ∀ J0, (∀ k, k ≠ 100 → J0 k = I k) → P (some (.int (nI (rdF f i)))) (mm V J0 L)) : ∀ (n k w : Nat) (J0 : Nat → Nat → Int32), k + n = i + 1 → w = lsR f k → (∀ k, k ≠ 100 → J0 k = I k) → (∀ j, j < k → J0 100 j = nI (rdA f k j)) → E X V P 6 4 [(0, .ref (ad V 85)), (1, .int (nI i)), (2, .int (nI w)), (3, .int (nI k))] [] J0 L := by
  intro n
  induction n with
  | zero =>
    intro k w J0 hk hw hf hr
    have e : k = i + 1 := by omega
    subst e
    subst hw
    have hle := lsR_le (f := f) (i + 1)
    refine J.iload_n C dX6_roundOf_4 rfl ?_
    refine J.iload_n C dX6_roundOf_5 rfl ?_
    first | refine J.icmp_gt_n C (by omega) (by omega) dX6_roundOf_6 (tgt := 136) (by decide) (fun _ => ?_) (fun c6 => absurd c6 (by first | omega | decide | simp_all)) | refine J.icmp_gt_xn C (by omega) dX6_roundOf_6 (tgt := 136) (by decide) (fun _ => ?_) (fun c6 => absurd c6 (by first | omega | decide | simp_all)) | refine J.icmp_gt_nx C (by omega) dX6_roundOf_6 (tgt := 136) (by decide) (fun _ => ?_) (fun c6 => absurd c6 (by first | omega | decide | simp_all)) | refine J.icmp_gt C dX6_roundOf_6 (tgt := 136) (by decide) (fun _ => ?_) (fun c6 => absurd c6 (by first | omega | decide | simp_all))
    refine J.iload_n C dX6_roundOf_136 rfl ?_
    refine J.iconst C dX6_roundOf_137 (v := (nI 1)) (by decide) ?_
    first | refine J.iadd_n C dX6_roundOf_138 ?_ | refine J.iadd C dX6_roundOf_138 ?_
    exact J.iret C dX6_roundOf_139 (hP J0 hf)
  | succ n ih =>
    intro k w J0 hk hw hf hr
    have hm1 := mxR_le (f := f) (r := rdA f k) (k := k) k (fun j hj => rdA_le k j (by omega))
    refine J.iload_n C dX6_roundOf_4 rfl ?_
    refine J.iload_n C dX6_roundOf_5 rfl ?_
    first | refine J.icmp_gt_n C (by omega) (by omega) dX6_roundOf_6 (tgt := 136) (by decide) (fun c6 => absurd c6 (by first | omega | decide | simp_all)) (fun _ => ?_) | refine J.icmp_gt_xn C (by omega) dX6_roundOf_6 (tgt := 136) (by decide) (fun c6 => absurd c6 (by first | omega | decide | simp_all)) (fun _ => ?_) | refine J.icmp_gt_nx C (by omega) dX6_roundOf_6 (tgt := 136) (by decide) (fun c6 => absurd c6 (by first | omega | decide | simp_all)) (fun _ => ?_) | refine J.icmp_gt C dX6_roundOf_6 (tgt := 136) (by decide) (fun c6 => absurd c6 (by first | omega | decide | simp_all)) (fun _ => ?_)
    refine J.iconst C dX6_roundOf_9 (v := (nI 0)) (by decide) ?_
    refine J.istore_n (ls' := [(0, _), (1, _), (2, _), (3, _)]) C dX6_roundOf_10 (by decide) rfl ?_
    refine J.iconst C dX6_roundOf_11 (v := (nI 0)) (by decide) ?_
    refine J.istore (ls' := [(0, _), (1, _), (2, _), (3, _), (4, _)]) C dX6_roundOf_12 (by decide) rfl ?_
    refine lp_X6_roundOf_i (I := I) C hc (by omega) hic (fun j hj => by rw [hf 87 (by decide), hf 88 (by decide)]; exact hL j hj) h8 hr ?_ k 0 0 (by omega) rfl
    refine J.aload_n C dX6_roundOf_121 rfl ?_
    refine J.getR C flX6_roundOf_58 (by first | decide | omega) rfl (by exact rfl) dX6_roundOf_122 ?_
    refine J.iload_n C dX6_roundOf_125 rfl ?_
    refine J.iload_n C dX6_roundOf_126 rfl ?_
    refine J.iconst C dX6_roundOf_127 (v := (nI 1)) (by decide) ?_
    first | refine J.iadd_n C dX6_roundOf_128 ?_ | refine J.iadd C dX6_roundOf_128 ?_
    refine J.ias C (by first | exact rfl | assumption) (by first | exact rfl | exact rfl) (by first | (have h_ln := ln_all; omega) | omega) dX6_roundOf_129 ?_
    refine J.iinc (ls' := [(0, _), (1, _), (2, _), (3, _), (4, _)]) C dX6_roundOf_130 rfl (by first | exact nI_inc _ 1 | exact rfl) (by decide) rfl ?_
    refine J.goto C dX6_roundOf_133 (tgt := 4) (by decide) ?_
    refine J.lsx (ls' := [(0, _), (1, _), (2, _), (3, _)]) (ex := [(4, _)]) rfl ?_
    refine ih (k + 1) _ _ (by omega) rfl (fun q a => by rw [up2_n _ _ _ a]; exact hf q a) (fun j hj => ?_)
    show _ = nI (va_up (rdA f k) k (mxR f (rdA f k) k k + 1) j)
    by_cases e : j = k
    · rw [e, up2_s, va_up_self]
    · rw [up2_m _ _ _ e, va_up_ne _ _ e]; exact hr j (by omega)
set_option maxHeartbeats 4000000 in
set_option maxRecDepth 100000 in
theorem ok_X6_roundOf (l : Launch) (V : Vx) {t : Nt} {i : Nat} (I : Nat → Nat → Int32) (L : Nat → Nat → Int64) (hN : NM I t) (ok : okN t) (hi : i < t.2.1) : Gi l V yX6_roundOf wsX6_roundOf 1 [.ref (ad V 85), .int (nI i)] I L (fun r I' L' => r = nI (rdF t.2.2 i) ∧ (∀ k, k ≠ 100 → I' k = I k) ∧ L' = L) := by
  have h40 := ok.2.2.1
  have hl8 := ok.2.1
  refine Ok.of (cc := cX6_roundOf) (maxL := 6) (ret := (some .int)) (by decide) rfl (Nat.le_of_ble_eq_true rfl) (fun X hnm C => ?_)
  have C : CX l X V RX6 cX6_roundOf 6 wsX6_roundOf 1 0 0 (some .int) := C
  refine J.cast (ls' := [(0, _), (1, _)]) rfl rfl rfl rfl ?_
  refine J.iconst C dX6_roundOf_0 (v := (nI 0)) (by decide) ?_
  refine J.istore_n (ls' := [(0, _), (1, _), (2, _)]) C dX6_roundOf_1 (by decide) rfl ?_
  refine J.iconst C dX6_roundOf_2 (v := (nI 0)) (by decide) ?_
  refine J.istore_n (ls' := [(0, _), (1, _), (2, _), (3, _)]) C dX6_roundOf_3 (by decide) rfl ?_
  exact lp_X6_roundOf C h40 hi (fun j hj => ⟨(hN.2.2 j hj).2.1, (hN.2.2 j hj).2.2.1⟩) (fun j hj => by obtain ⟨q1, q2, q3, -⟩ := ok.2.2.2 j hj; exact ⟨by omega, by omega⟩) (fun J0 hf => ⟨_, _, _, rfl, rfl, rfl, hf, rfl⟩) (i + 1) 0 0 _ (by omega) rfl (fun _ _ => rfl) (fun j hj => absurd hj (Nat.not_lt_zero j))
set_option maxHeartbeats 4000000 in
set_option maxRecDepth 100000 in
theorem lp_X6_rounds {l : Launch} {X : Cx} {V : Vx} {P : Option Value → (Nat → va_E) → Prop} {I : Nat → Nat → Int32} {L : Nat → Nat → Int64} (C : CX l X V RX6 cX6_rounds 4 wsX6_rounds 2 0 0 (some .int)) {t : Nt} (hN : NM I t) (ok : okN t) (hP : ∀ J0, (∀ k, k ≠ 100 → J0 k = I k) → P (some (.int (nI (rmx t.2.2 t.2.1)))) (mm V J0 L)) : ∀ (k i w : Nat) (J0 : Nat → Nat → Int32), i + k = t.2.1 → w = rmx t.2.2 i → (∀ k, k ≠ 100 → J0 k = I k) → E X V P 4 4 [(0, .ref (ad V 85)), (1, .int (nI w)), (2, .int (nI i))] [] J0 L := by
  intro k
  have h40 := ok.2.2.1
  induction k with
  | zero =>
    intro i w J0 hi hw hf
    have e : i = t.2.1 := by omega
    subst e
    subst hw
    have h1 : J0 85 1 = nI t.2.1 := by rw [hf 85 (by decide)]; exact hN.2.1
    refine J.iload_n C dX6_rounds_4 rfl ?_
    refine J.aload_n C dX6_rounds_5 rfl ?_
    refine J.getI C flX6_rounds_79 (by first | decide | omega) rfl (by exact rfl) (by first | ((repeat (first | refine up2_rd (by decide) ?_ | refine up2_rm (by decide) ?_ | refine up3_rd (by decide) ?_)) <;> (first | exact up2_s _ _ _ _ | assumption | exact rfl))) dX6_rounds_6 ?_
    first | refine J.icmp_ge_n C (by omega) (by omega) dX6_rounds_9 (tgt := 35) (by decide) (fun _ => ?_) (fun c9 => absurd c9 (by first | omega | decide | simp_all)) | refine J.icmp_ge_xn C (by omega) dX6_rounds_9 (tgt := 35) (by decide) (fun _ => ?_) (fun c9 => absurd c9 (by first | omega | decide | simp_all)) | refine J.icmp_ge_nx C (by omega) dX6_rounds_9 (tgt := 35) (by decide) (fun _ => ?_) (fun c9 => absurd c9 (by first | omega | decide | simp_all)) | refine J.icmp_ge C dX6_rounds_9 (tgt := 35) (by decide) (fun _ => ?_) (fun c9 => absurd c9 (by first | omega | decide | simp_all))
    refine J.iload_n C dX6_rounds_35 rfl ?_
    exact J.iret C dX6_rounds_36 (hP J0 hf)
  | succ k ih =>
    intro i w J0 hi hw hf
    have hNJ : NM J0 t := by unfold NM; rw [hf 85 (by decide), hf 86 (by decide), hf 87 (by decide), hf 88 (by decide), hf 89 (by decide)]; exact hN
    have h1 : J0 85 1 = nI t.2.1 := hNJ.2.1
    have hle := rmx_le (f := t.2.2) i
    have hle2 := lsR_le (f := t.2.2) (i + 1)
    have e2 : rdF t.2.2 i = lsR t.2.2 (i + 1) + 1 := rfl
    refine J.iload_n C dX6_rounds_4 rfl ?_
    refine J.aload_n C dX6_rounds_5 rfl ?_
    refine J.getI C flX6_rounds_79 (by first | decide | omega) rfl (by exact rfl) (by first | ((repeat (first | refine up2_rd (by decide) ?_ | refine up2_rm (by decide) ?_ | refine up3_rd (by decide) ?_)) <;> (first | exact up2_s _ _ _ _ | assumption | exact rfl))) dX6_rounds_6 ?_
    first | refine J.icmp_ge_n C (by omega) (by omega) dX6_rounds_9 (tgt := 35) (by decide) (fun c9 => absurd c9 (by first | omega | decide | simp_all)) (fun _ => ?_) | refine J.icmp_ge_xn C (by omega) dX6_rounds_9 (tgt := 35) (by decide) (fun c9 => absurd c9 (by first | omega | decide | simp_all)) (fun _ => ?_) | refine J.icmp_ge_nx C (by omega) dX6_rounds_9 (tgt := 35) (by decide) (fun c9 => absurd c9 (by first | omega | decide | simp_all)) (fun _ => ?_) | refine J.icmp_ge C dX6_rounds_9 (tgt := 35) (by decide) (fun c9 => absurd c9 (by first | omega | decide | simp_all)) (fun _ => ?_)
    refine J.aload_n C dX6_rounds_12 rfl ?_
    refine J.iload_n C dX6_rounds_13 rfl ?_
    refine J.cVGi (q := (RX6, TX6, 25)) (ci := 6) C (ok_X6_roundOf l V _ _ hNJ ok (by omega)) gX6_rounds_X6_roundOf rfl mfX6_roundOf rfl (by decide) (by decide) (by first | decide | omega) rfl rfl rfl rfl (Nat.le_of_ble_eq_true rfl) dX6_rounds_14 (Nat.le_refl _) (Nat.le_refl _) (fun r14 I14 L14 h14 => ?_)
    obtain ⟨rfl, hf14, rfl⟩ := h14
    refine J.istore_n (ls' := [(0, _), (1, _), (2, _), (3, _)]) C dX6_rounds_17 (by decide) rfl ?_
    refine J.iload_n C dX6_rounds_18 rfl ?_
    refine J.iload_n C dX6_rounds_19 rfl ?_
    first | refine J.icmp_le_n C (by omega) (by omega) dX6_rounds_20 (tgt := 27) (by decide) (fun c20t => ?_) (fun c20f => ?_) | refine J.icmp_le_xn C (by omega) dX6_rounds_20 (tgt := 27) (by decide) (fun c20t => ?_) (fun c20f => ?_) | refine J.icmp_le_nx C (by omega) dX6_rounds_20 (tgt := 27) (by decide) (fun c20t => ?_) (fun c20f => ?_) | refine J.icmp_le C dX6_rounds_20 (tgt := 27) (by decide) (fun c20t => ?_) (fun c20f => ?_)
    · refine J.iload_n C dX6_rounds_27 rfl ?_
      refine J.istore_n (ls' := [(0, _), (1, _), (2, _), (3, _)]) C dX6_rounds_28 (by decide) rfl ?_
      refine J.iinc (ls' := [(0, _), (1, _), (2, _), (3, _)]) C dX6_rounds_29 rfl (by first | exact nI_inc _ 1 | exact rfl) (by decide) rfl ?_
      refine J.goto C dX6_rounds_32 (tgt := 4) (by decide) ?_
      refine J.lsx (ls' := [(0, _), (1, _), (2, _)]) (ex := [(3, _)]) rfl ?_
      exact ih (i + 1) _ _ (by omega) (by unfold rmx; rw [tb_0 (by omega)]; exact hw) (fun q a => (hf14 q a).trans (hf q a))
    · refine J.iload_n C dX6_rounds_23 rfl ?_
      refine J.goto C dX6_rounds_24 (tgt := 28) (by decide) ?_
      refine J.istore_n (ls' := [(0, _), (1, _), (2, _), (3, _)]) C dX6_rounds_28 (by decide) rfl ?_
      refine J.iinc (ls' := [(0, _), (1, _), (2, _), (3, _)]) C dX6_rounds_29 rfl (by first | exact nI_inc _ 1 | exact rfl) (by decide) rfl ?_
      refine J.goto C dX6_rounds_32 (tgt := 4) (by decide) ?_
      refine J.lsx (ls' := [(0, _), (1, _), (2, _)]) (ex := [(3, _)]) rfl ?_
      exact ih (i + 1) _ _ (by omega) (by unfold rmx; rw [tb_1 (by omega)]; rfl) (fun q a => (hf14 q a).trans (hf q a))
noncomputable def op_rounds (g : Sg) : Int32 × Sg := (nI (rmx g.1.2.2 g.1.2.1), g)
noncomputable def op_of (g : Sg) (i o : Option Nat) : Int32 × Sg := cond (tb (inO i g.1.2.1 ∧ inO o 5)) (match o.getD 0 with
  | 0 => (nI (g.1.2.2 (i.getD 0)).1, g)
  | 1 => (nI (g.1.2.2 (i.getD 0)).2.1, g)
  | 2 => (nI (g.1.2.2 (i.getD 0)).2.2.1, g)
  | 3 => (nI (rdF g.1.2.2 (i.getD 0)), g)
  | _ => (bI (g.1.2.2 (i.getD 0)).2.2.2, g)) (-1, gF g)
set_option maxHeartbeats 4000000 in
set_option maxRecDepth 100000 in
theorem ok_X6_rounds (l : Launch) (V : Vx) {g : Sg} (I : Nat → Nat → Int32) (L : Nat → Nat → Int64) (h : AbM I L g) (ok : okG g) : PM l V yX6_rounds wsX6_rounds 2 [.ref (ad V 85)] I L (op_rounds g) := by
  have hN := h.nm
  refine Ok.of (cc := cX6_rounds) (maxL := 4) (ret := (some .int)) (by decide) rfl (Nat.le_of_ble_eq_true rfl) (fun X hnm C => ?_)
  have C : CX l X V RX6 cX6_rounds 4 wsX6_rounds 2 0 0 (some .int) := C
  refine J.cast (ls' := [(0, _)]) rfl rfl rfl rfl ?_
  refine J.iconst C dX6_rounds_0 (v := (nI 0)) (by decide) ?_
  refine J.istore_n (ls' := [(0, _), (1, _)]) C dX6_rounds_1 (by decide) rfl ?_
  refine J.iconst C dX6_rounds_2 (v := (nI 0)) (by decide) ?_
  refine J.istore_n (ls' := [(0, _), (1, _), (2, _)]) C dX6_rounds_3 (by decide) rfl ?_
  refine lp_X6_rounds C hN ok.1 (fun J0 hf => ?_) g.1.2.1 0 0 _ (by omega) rfl (fun _ _ => rfl)
  exact qM_s ⟨rfl, AbM_scr h (fun k a b => hf k (by omega)) rfl, fun k hk => hf k (by omega), frmL_rfl⟩
set_option maxHeartbeats 4000000 in
set_option maxRecDepth 100000 in
theorem ok_X6_of (l : Launch) (V : Vx) {g : Sg} {x1 : Int32} {o1 : Option Nat} {x2 : Int32} {o2 : Option Nat} (I : Nat → Nat → Int32) (L : Nat → Nat → Int64) (hx1 : AG x1 o1) (hx2 : AG x2 o2) (h : AbM I L g) (ok : okG g) : PM l V yX6_of wsX6_of 3 [.ref (ad V 85), .int x1, .int x2] I L (op_of g o1 o2) := by
  have hN := h.nm
  have h0 := hN.1
  have hm := hN.2.1
  have hl2 := ok.1.1
  have hl8 := ok.1.2.1
  have h40 := ok.1.2.2.1
  have hq := h.2.1.1
  have hq25 := ok.2.2.1
  have hB := AbM_be h ok
  have hb0 : beM I g.2.1.length 85 0 = nI g.1.1 := hB.1.1
  have hb1 : beM I g.2.1.length 85 1 = nI g.1.2.1 := hB.1.2.1
  refine Ok.of (cc := cX6_of) (maxL := 3) (ret := (some .int)) (by decide) rfl (Nat.le_of_ble_eq_true rfl) (fun X hnm C => ?_)
  have C : CX l X V RX6 cX6_of 3 wsX6_of 3 0 0 (some .int) := C
  refine J.cast (ls' := [(0, _), (1, _), (2, _)]) rfl rfl rfl rfl ?_
  refine J.aload_n C dX6_of_0 rfl ?_
  refine J.iload_n C dX6_of_1 rfl ?_
  refine J.cVDi (q := (RX6, TX6, 25)) (ci := 6) C (ok_X6_isComparer_o l V _ _ hx1 hm h40) gX6_of_X6_isComparer rfl mfX6_isComparer rfl (by decide) (by decide) (by first | decide | omega) rfl rfl rfl rfl (Nat.le_of_ble_eq_true rfl) dX6_of_2 (Nat.le_refl _) (Nat.le_refl _) ?_
  first | refine J.if_eq_b C dX6_of_5 (tgt := 17) (by decide) (fun c5t => ?_) (fun c5f => ?_) | refine J.if_eq_n C (by omega) dX6_of_5 (tgt := 17) (by decide) (fun c5t => ?_) (fun c5f => ?_) | refine J.if_eq C dX6_of_5 (tgt := 17) (by decide) (fun c5t => ?_) (fun c5f => ?_)
  · refine J.aload_n C dX6_of_17 rfl ?_
    refine J.iconst C dX6_of_18 (v := (-1)) (by decide) ?_
    refine J.cVDi (q := (RX6, TX6, 25)) (ci := 6) C (ok_X6_found l V _ _ _) gX6_of_X6_found rfl mfX6_found rfl (by decide) (by decide) (by first | decide | omega) rfl rfl rfl rfl (Nat.le_of_ble_eq_true rfl) dX6_of_19 (Nat.le_refl _) (Nat.le_refl _) ?_
    exact J.iret C dX6_of_22 (qM_s (by unfold op_of; rw [tb_0 (fun q => by first | exact tb_f.mp c5t q.1 | exact tb_f.mp c14f q.2)]; exact qM_F h))
  · refine J.iload_n C dX6_of_8 rfl ?_
    refine J.iconst C dX6_of_9 (v := (nI 0)) (by decide) ?_
    refine J.iconst C dX6_of_10 (v := (nI 4)) (by decide) ?_
    refine J.cSDi C (ok_X6_in_o l V 4 (by decide) _ _ hx2) gX6_of_X6_in rfl mfX6_in (by decide) (by decide) rfl rfl (Nat.le_of_ble_eq_true rfl) dX6_of_11 (Nat.le_refl _) (Nat.le_refl _) ?_
    first | refine J.if_ne_b C dX6_of_14 (tgt := 23) (by decide) (fun c14t => ?_) (fun c14f => ?_) | refine J.if_ne_n C (by omega) dX6_of_14 (tgt := 23) (by decide) (fun c14t => ?_) (fun c14f => ?_) | refine J.if_ne C dX6_of_14 (tgt := 23) (by decide) (fun c14t => ?_) (fun c14f => ?_)
    · obtain ⟨i, rfl, hi⟩ := tb_t.mp c5f
      obtain ⟨k, rfl, hk⟩ := tb_t.mp c14t
      obtain ⟨-, rfl⟩ := hx1
      obtain ⟨-, rfl⟩ := hx2
      unfold op_of
      rw [tb_1 (show inO (some i) g.1.2.1 ∧ inO (some k) 5 from ⟨tb_t.mp c5f, tb_t.mp c14t⟩)]
      obtain ⟨g1, g2, g3, g4⟩ := hN.2.2 i hi
      obtain ⟨hc1, hc2, hc3, hc4⟩ := ok.1.2.2.2 i hi
      refine J.iload_n C dX6_of_23 rfl ?_
      rcases (show k = 0 ∨ k = 1 ∨ k = 2 ∨ k = 3 ∨ k = 4 by omega) with e | e | e | e | e <;> subst e
      · refine J.tabIn C dX6_of_24 (by decide) (by decide) (off := 32) (by decide) (tgt := 56) (by decide) ?_
        refine J.aload_n C dX6_of_56 rfl ?_
        refine J.getR C flX6_of_13 (by first | decide | omega) rfl (by exact rfl) dX6_of_57 ?_
        refine J.iload_n C dX6_of_60 rfl ?_
        refine J.ia C (by first | exact rfl | assumption) (by first | exact rfl | exact rfl) (by first | (have h_ln := ln_all; omega) | omega) (by first | ((repeat (first | refine up2_rd (by decide) ?_ | refine up2_rm (by decide) ?_ | refine up3_rd (by decide) ?_)) <;> (first | exact up2_s _ _ _ _ | assumption | exact rfl))) dX6_of_61 ?_
        exact J.iret C dX6_of_62 (qM_s ⟨rfl, h, frm_rfl, frmL_rfl⟩)
      · refine J.tabIn C dX6_of_24 (by decide) (by decide) (off := 39) (by decide) (tgt := 63) (by decide) ?_
        refine J.aload_n C dX6_of_63 rfl ?_
        refine J.getR C flX6_of_17 (by first | decide | omega) rfl (by exact rfl) dX6_of_64 ?_
        refine J.iload_n C dX6_of_67 rfl ?_
        refine J.ia C (by first | exact rfl | assumption) (by first | exact rfl | exact rfl) (by first | (have h_ln := ln_all; omega) | omega) (by first | ((repeat (first | refine up2_rd (by decide) ?_ | refine up2_rm (by decide) ?_ | refine up3_rd (by decide) ?_)) <;> (first | exact up2_s _ _ _ _ | assumption | exact rfl))) dX6_of_68 ?_
        exact J.iret C dX6_of_69 (qM_s ⟨rfl, h, frm_rfl, frmL_rfl⟩)
      · refine J.tabIn C dX6_of_24 (by decide) (by decide) (off := 46) (by decide) (tgt := 70) (by decide) ?_
        refine J.aload_n C dX6_of_70 rfl ?_
        refine J.getR C flX6_of_20 (by first | decide | omega) rfl (by exact rfl) dX6_of_71 ?_
        refine J.iload_n C dX6_of_74 rfl ?_
        refine J.ia C (by first | exact rfl | assumption) (by first | exact rfl | exact rfl) (by first | (have h_ln := ln_all; omega) | omega) (by first | ((repeat (first | refine up2_rd (by decide) ?_ | refine up2_rm (by decide) ?_ | refine up3_rd (by decide) ?_)) <;> (first | exact up2_s _ _ _ _ | assumption | exact rfl))) dX6_of_75 ?_
        exact J.iret C dX6_of_76 (qM_s ⟨rfl, h, frm_rfl, frmL_rfl⟩)
      · refine J.tabIn C dX6_of_24 (by decide) (by decide) (off := 53) (by decide) (tgt := 77) (by decide) ?_
        refine J.aload_n C dX6_of_77 rfl ?_
        refine J.iload_n C dX6_of_78 rfl ?_
        refine J.cVGi (q := (RX6, TX6, 25)) (ci := 6) C (ok_X6_roundOf l V _ _ hN ok.1 hi) gX6_of_X6_roundOf rfl mfX6_roundOf rfl (by decide) (by decide) (by first | decide | omega) rfl rfl rfl rfl (Nat.le_of_ble_eq_true rfl) dX6_of_79 (Nat.le_refl _) (Nat.le_refl _) (fun r79 I79 L79 h79 => ?_)
        obtain ⟨rfl, hf79, rfl⟩ := h79
        exact J.iret C dX6_of_82 (qM_s ⟨rfl, AbM_scr h (fun k a b => hf79 k (by omega)) rfl, fun k hk => hf79 k (by omega), frmL_rfl⟩)
      · refine J.tabOut C dX6_of_24 (Or.inr (by decide)) (tgt := 83) (by decide) ?_
        refine J.aload_n C dX6_of_83 rfl ?_
        refine J.getR C flX6_of_13 (by first | decide | omega) rfl (by exact rfl) dX6_of_84 ?_
        refine J.iload_n C dX6_of_87 rfl ?_
        refine J.ia C (by first | exact rfl | assumption) (by first | exact rfl | exact rfl) (by first | (have h_ln := ln_all; omega) | omega) (by first | ((repeat (first | refine up2_rd (by decide) ?_ | refine up2_rm (by decide) ?_ | refine up3_rd (by decide) ?_)) <;> (first | exact up2_s _ _ _ _ | assumption | exact rfl))) dX6_of_88 ?_
        refine J.iconst C dX6_of_89 (v := (nI 4)) (by decide) ?_
        first | refine J.icmp_ne_n C (by omega) (by omega) dX6_of_90 (tgt := 106) (by decide) (fun c90t => ?_) (fun c90f => ?_) | refine J.icmp_ne_xn C (by omega) dX6_of_90 (tgt := 106) (by decide) (fun c90t => ?_) (fun c90f => ?_) | refine J.icmp_ne_nx C (by omega) dX6_of_90 (tgt := 106) (by decide) (fun c90t => ?_) (fun c90f => ?_) | refine J.icmp_ne C dX6_of_90 (tgt := 106) (by decide) (fun c90t => ?_) (fun c90f => ?_)
        · refine J.iconst C dX6_of_106 (v := (nI 0)) (by decide) ?_
          exact J.iret C dX6_of_107 (qM_s ⟨by show nI 0 = bI (g.1.2.2 i).2.2.2; rw [hc4 c90t]; rfl, h, frm_rfl, frmL_rfl⟩)
        · have g5 := g4 c90f
          refine J.aload_n C dX6_of_93 rfl ?_
          refine J.getR C flX6_of_23 (by first | decide | omega) rfl (by exact rfl) dX6_of_94 ?_
          refine J.iload_n C dX6_of_97 rfl ?_
          refine J.za C (by first | exact rfl | assumption) (by first | exact rfl | exact rfl) (by first | (have h_ln := ln_all; omega) | omega) (by first | ((repeat (first | refine up2_rd (by decide) ?_ | refine up2_rm (by decide) ?_ | refine up3_rd (by decide) ?_)) <;> (first | exact up2_s _ _ _ _ | assumption | exact rfl))) dX6_of_98 ?_
          first | refine J.if_eq_b C dX6_of_99 (tgt := 106) (by decide) (fun c99t => ?_) (fun c99f => ?_) | refine J.if_eq_n C (by omega) dX6_of_99 (tgt := 106) (by decide) (fun c99t => ?_) (fun c99f => ?_) | refine J.if_eq C dX6_of_99 (tgt := 106) (by decide) (fun c99t => ?_) (fun c99f => ?_)
          · refine J.iconst C dX6_of_106 (v := (nI 0)) (by decide) ?_
            exact J.iret C dX6_of_107 (qM_s ⟨by show nI 0 = bI (g.1.2.2 i).2.2.2; rw [c99t]; rfl, h, frm_rfl, frmL_rfl⟩)
          · refine J.iconst C dX6_of_102 (v := (nI 1)) (by decide) ?_
            refine J.goto C dX6_of_103 (tgt := 107) (by decide) ?_
            exact J.iret C dX6_of_107 (qM_s ⟨by show nI 1 = bI (g.1.2.2 i).2.2.2; rw [c99f]; rfl, h, frm_rfl, frmL_rfl⟩)
    · refine J.aload_n C dX6_of_17 rfl ?_
      refine J.iconst C dX6_of_18 (v := (-1)) (by decide) ?_
      refine J.cVDi (q := (RX6, TX6, 25)) (ci := 6) C (ok_X6_found l V _ _ _) gX6_of_X6_found rfl mfX6_found rfl (by decide) (by decide) (by first | decide | omega) rfl rfl rfl rfl (Nat.le_of_ble_eq_true rfl) dX6_of_19 (Nat.le_refl _) (Nat.le_refl _) ?_
      exact J.iret C dX6_of_22 (qM_s (by unfold op_of; rw [tb_0 (fun q => by first | exact tb_f.mp c5t q.1 | exact tb_f.mp c14f q.2)]; exact qM_F h))
