/-! THE CLASS: completes, which searches the pairs in their order -/
section
variable {l : Launch} {X : Cx} {V : Vx} {Q : State → Prop} {own : String} {cc : ByteArray} {nL cs sl pc d mc ms : Nat} {Ts : List Cond} {ret : Option FieldType} {ls : List (Nat × Value)} {st : List Value} {I : Nat → Nat → Int32} {L : Nat → Nat → Int64} {k : Nat}
theorem J.alen (C : CX l X V own cc nL Ts d mc ms ret) (hk : kd k = 7) (hd : decode cc pc = .ok (.arraylength, 1)) (kk : J X V Q nL 106 cs sl (pc + 1) ls (.int (nI (ln k)) :: st) (mm V I L)) : J X V Q nL 106 cs sl pc ls (.ref (ad V k) :: st) (mm V I L) := by
  obtain ⟨e1, eR, hx, hb, hml, ho, hts, hK, -⟩ := C
  intro H locs la h1 h2 h3 h4
  exact va_alen (x := (ln k, .inl (I k))) hx hb hK.1 h2 k 0 (by rw [wl_get (kd_lt hk (by decide)), mk_7 hk]) rfl rfl hd (kk H locs la h1 h2 h3 h4)
end
def pv (n p : Nat) : Nat := 10 * (prT n p).1 + (prT n p).2
def f62 (u : Nat) (I J0 : Nat → Nat → Int32) : Prop := (∀ k, k ≠ 62 → J0 k = I k) ∧ ∀ j, j < u → J0 62 j = I 62 j
theorem f62_r {u : Nat} {I : Nat → Nat → Int32} : f62 u I I := ⟨fun _ _ => rfl, fun _ _ => rfl⟩
theorem f62_t {u w : Nat} {I J0 J1 : Nat → Nat → Int32} (h : f62 u I J0) (h1 : f62 w J0 J1) (hw : u ≤ w) : f62 u I J1 := ⟨fun k a => (h1.1 k a).trans (h.1 k a), fun j a => (h1.2 j (by omega)).trans (h.2 j a)⟩
theorem f62_u {u : Nat} {I : Nat → Nat → Int32} {x : Int32} : f62 u I (up2 I 62 u x) := ⟨fun k a => up2_n _ _ _ a, fun j a => up2_m _ _ _ (by omega)⟩
def QC (n r : Nat) (x : Int64) (u : Nat) (I : Nat → Nat → Int32) (L : Nat → Nat → Int64) : Int32 → (Nat → Nat → Int32) → (Nat → Nat → Int64) → Prop := fun z I' L' => L' = L ∧ f62 u I I' ∧ ∃ o, isL (nPr n ^ r) (PS n r x) o ∧ z = bI o.isSome ∧ ∀ s, o = some s → ∀ k, k < r → I' 62 (u + k) = nI (pv n (dg (nPr n) r s k))
set_option maxHeartbeats 4000000 in
set_option maxRecDepth 100000 in
theorem lp_X0_completes_b {l : Launch} {X : Cx} {V : Vx} {P : Option Value → (Nat → va_E) → Prop} {I : Nat → Nat → Int32} {L : Nat → Nat → Int64} {n a r u : Nat} {x : Int64} (C : CX l X V RX0 cX0_completes 10 wsX0_completes (4 + r) 0 0 (some .boolean)) (hn2 : 2 ≤ n) (hn4 : n ≤ 4) (hr : u + (r + 1) ≤ 5) (ha : a < n) (IH : ∀ (y : Int64) (J0 : Nat → Nat → Int32), Gi l V yX0_completes wsX0_completes (3 + r) [.long y, .int (nI n), .int (nI (u + 1)), .int (nI (u + (r + 1))), .ref (ad V 62)] J0 L (QC n r y (u + 1) J0 L)) (hP : ∀ J0 s, f62 u I J0 → isL (nPr n ^ (r + 1)) (PS n (r + 1) x) (some s) → (∀ k, k < r + 1 → J0 62 (u + k) = nI (pv n (dg (nPr n) (r + 1) s k))) → P (some (.int (nI 1))) (mm V J0 L))
    (hx : ∀ J0, f62 u I J0 → (∀ s, s < nPr n ^ r * prI n a n → ¬ PS n (r + 1) x s) → E X V P 10 93 [(0, .long x), (2, .int (nI n)), (3, .int (nI u)), (4, .int (nI (u + (r + 1)))), (5, .ref (ad V 62)), (6, .int (nI a))] [] J0 L) : ∀ (z b : Nat) (J0 : Nat → Nat → Int32), b + z = n → a < b → f62 u I J0 → (∀ s, s < nPr n ^ r * prI n a b → ¬ PS n (r + 1) x s) → E X V P 10 34 [(0, .long x), (2, .int (nI n)), (3, .int (nI u)), (4, .int (nI (u + (r + 1)))), (5, .ref (ad V 62)), (6, .int (nI a)), (7, .int (nI b))] [] J0 L := by
  have hpos : 0 < nPr n ^ r := Nat.pow_pos (nPr_b hn2 hn4).1
  intro z
  induction z with
  | zero =>
    intro b J0 hb hab hf hq
    obtain rfl : b = n := by omega
    refine J.iload C dX0_completes_34 rfl ?_
    refine J.iload_n C dX0_completes_36 rfl ?_
    first | refine J.icmp_ge_n C (by omega) (by omega) dX0_completes_37 (tgt := 93) (by decide) (fun _ => ?_) (fun c37 => absurd c37 (by first | omega | decide | simp_all)) | refine J.icmp_ge_xn C (by omega) dX0_completes_37 (tgt := 93) (by decide) (fun _ => ?_) (fun c37 => absurd c37 (by first | omega | decide | simp_all)) | refine J.icmp_ge_nx C (by omega) dX0_completes_37 (tgt := 93) (by decide) (fun _ => ?_) (fun c37 => absurd c37 (by first | omega | decide | simp_all)) | refine J.icmp_ge C dX0_completes_37 (tgt := 93) (by decide) (fun _ => ?_) (fun c37 => absurd c37 (by first | omega | decide | simp_all))
    refine J.lsx (ls' := [(0, _), (2, _), (3, _), (4, _), (5, _), (6, _)]) (ex := [(7, _)]) rfl ?_
    exact hx J0 hf hq
  | succ z ih =>
    intro b J0 hb hab hf hq
    obtain ⟨hp1, hp2, hp3⟩ := prI_in hn2 hn4 hab (show b < n by omega)
    have hcp : cpX n x (prI n a b) = cmpV x a b := by unfold cpX; rw [hp2]
    have hpv : 10 * a + b = pv n (prI n a b) := by unfold pv; rw [hp2]
    refine J.iload C dX0_completes_34 rfl ?_
    refine J.iload_n C dX0_completes_36 rfl ?_
    first | refine J.icmp_ge_n C (by omega) (by omega) dX0_completes_37 (tgt := 93) (by decide) (fun c37 => absurd c37 (by first | omega | decide | simp_all)) (fun _ => ?_) | refine J.icmp_ge_xn C (by omega) dX0_completes_37 (tgt := 93) (by decide) (fun c37 => absurd c37 (by first | omega | decide | simp_all)) (fun _ => ?_) | refine J.icmp_ge_nx C (by omega) dX0_completes_37 (tgt := 93) (by decide) (fun c37 => absurd c37 (by first | omega | decide | simp_all)) (fun _ => ?_) | refine J.icmp_ge C dX0_completes_37 (tgt := 93) (by decide) (fun c37 => absurd c37 (by first | omega | decide | simp_all)) (fun _ => ?_)
    refine J.lload_n C dX0_completes_40 rfl ?_
    refine J.iload C dX0_completes_41 rfl ?_
    refine J.iload C dX0_completes_43 rfl ?_
    refine J.cSDl C (ok_X0_compared l V _ _) gX0_completes_X0_compared rfl mfX0_compared (by omega) (by decide) rfl rfl (Nat.le_of_ble_eq_true rfl) dX0_completes_45 (Nat.le_refl _) (Nat.le_refl _) ?_
    refine J.lstore (ls' := [(0, _), (2, _), (3, _), (4, _), (5, _), (6, _), (7, _), (8, _)]) C dX0_completes_48 (by decide) rfl ?_
    refine J.aload C dX0_completes_50 rfl ?_
    refine J.iload_n C dX0_completes_52 rfl ?_
    refine J.bipush C dX0_completes_53 (v := (nI 10)) (by decide) ?_
    refine J.iload C dX0_completes_55 rfl ?_
    first | refine J.imul_n C dX0_completes_57 ?_ | refine J.imul C dX0_completes_57 ?_
    refine J.iload C dX0_completes_58 rfl ?_
    first | refine J.iadd_n C dX0_completes_60 ?_ | refine J.iadd C dX0_completes_60 ?_
    refine J.ias C (by first | exact rfl | assumption) (by first | exact rfl | exact rfl) (by first | (have h_ln := ln_all; omega) | omega) dX0_completes_61 ?_
    refine J.lload C dX0_completes_62 rfl ?_
    refine J.lload_n C dX0_completes_64 rfl ?_
    refine J.lcmp C dX0_completes_65 ?_
    refine J.if_eq_c C dX0_completes_66 (tgt := 87) (by decide) (fun c66t => ?_) (fun c66f => ?_)
    · refine J.iinc (ls' := [(0, _), (2, _), (3, _), (4, _), (5, _), (6, _), (7, _), (8, _)]) C dX0_completes_87 rfl (by first | exact nI_inc _ 1 | exact rfl) (by decide) rfl ?_
      refine J.goto C dX0_completes_90 (tgt := 34) (by decide) ?_
      refine J.lsx (ls' := [(0, _), (2, _), (3, _), (4, _), (5, _), (6, _), (7, _)]) (ex := [(8, _)]) rfl ?_
      refine ih (b + 1) _ (by omega) (by omega) (f62_t hf f62_u (by omega)) ?_
      rw [hp3]
      exact PS_skip hq (Or.inl (hcp.trans c66t)) hpos
    · refine J.lload C dX0_completes_69 rfl ?_
      refine J.iload_n C dX0_completes_71 rfl ?_
      refine J.iload_n C dX0_completes_72 rfl ?_
      refine J.iconst C dX0_completes_73 (v := (nI 1)) (by decide) ?_
      first | refine J.iadd_n C dX0_completes_74 ?_ | refine J.iadd C dX0_completes_74 ?_
      refine J.iload C dX0_completes_75 rfl ?_
      refine J.aload C dX0_completes_77 rfl ?_
      refine J.cSGi C (IH _ _) gX0_completes_X0_completes rfl mfX0_completes (by omega) (by decide) rfl rfl (Nat.le_of_ble_eq_true rfl) dX0_completes_79 (Nat.le_refl _) (Nat.le_refl _) (fun r79 I79 L79 h79 => ?_)
      obtain ⟨rfl, hf2, o, ho, rfl, hd⟩ := h79
      refine J.if_eq_b C dX0_completes_82 (tgt := 87) (by decide) (fun c82t => ?_) (fun c82f => ?_)
      · refine J.iinc (ls' := [(0, _), (2, _), (3, _), (4, _), (5, _), (6, _), (7, _), (8, _)]) C dX0_completes_87 rfl (by first | exact nI_inc _ 1 | exact rfl) (by decide) rfl ?_
        refine J.goto C dX0_completes_90 (tgt := 34) (by decide) ?_
        refine J.lsx (ls' := [(0, _), (2, _), (3, _), (4, _), (5, _), (6, _), (7, _)]) (ex := [(8, _)]) rfl ?_
        have e : o = none := by cases o with
          | none => rfl
          | some s => cases c82t
        subst e
        refine ih (b + 1) _ (by omega) (by omega) (f62_t hf (f62_t f62_u hf2 (by omega)) (by omega)) ?_
        rw [hp3]
        rw [← hcp] at ho
        exact PS_skip hq (Or.inr ho) hpos
      · refine J.iconst C dX0_completes_85 (v := (nI 1)) (by decide) ?_
        exact J.zret C dX0_completes_86 (by first | exact bI_nar _ | rfl | decide | assumption) (by
              obtain ⟨s, rfl⟩ := Option.isSome_iff_exists.mp c82f
              rw [← hcp] at ho c66f
              refine hP _ _ (f62_t hf (f62_t f62_u hf2 (by omega)) (by omega)) (PS_hit hq hp1 c66f ho) (fun k hk => ?_)
              cases k with
              | zero => rw [dg_q0 hp1 ho.1, ← hpv, hf2.2 (u + 0) (by omega)]; exact up2_s _ _ _ _
              | succ k => rw [dg_qs ho.1 (by omega), ← hd s rfl k (by omega), show u + (k + 1) = u + 1 + k by omega])
set_option maxHeartbeats 4000000 in
set_option maxRecDepth 100000 in
theorem lp_X0_completes {l : Launch} {X : Cx} {V : Vx} {P : Option Value → (Nat → va_E) → Prop} {I : Nat → Nat → Int32} {L : Nat → Nat → Int64} {n r u : Nat} {x : Int64} (C : CX l X V RX0 cX0_completes 10 wsX0_completes (4 + r) 0 0 (some .boolean)) (hn2 : 2 ≤ n) (hn4 : n ≤ 4) (hr : u + (r + 1) ≤ 5) (IH : ∀ (y : Int64) (J0 : Nat → Nat → Int32), Gi l V yX0_completes wsX0_completes (3 + r) [.long y, .int (nI n), .int (nI (u + 1)), .int (nI (u + (r + 1))), .ref (ad V 62)] J0 L (QC n r y (u + 1) J0 L)) (hP : ∀ J0 s, f62 u I J0 → isL (nPr n ^ (r + 1)) (PS n (r + 1) x) (some s) → (∀ k, k < r + 1 → J0 62 (u + k) = nI (pv n (dg (nPr n) (r + 1) s k))) → P (some (.int (nI 1))) (mm V J0 L))
    (hP0 : ∀ J0, f62 u I J0 → (∀ s, s < nPr n ^ (r + 1) → ¬ PS n (r + 1) x s) → P (some (.int (nI 0))) (mm V J0 L)) : ∀ (z a : Nat) (J0 : Nat → Nat → Int32), a + z = n → f62 u I J0 → (∀ s, s < nPr n ^ r * prI n a (a + 1) → ¬ PS n (r + 1) x s) → E X V P 10 22 [(0, .long x), (2, .int (nI n)), (3, .int (nI u)), (4, .int (nI (u + (r + 1)))), (5, .ref (ad V 62)), (6, .int (nI a))] [] J0 L := by
  intro z
  induction z with
  | zero =>
    intro a J0 ha hf hq
    obtain rfl : a = n := by omega
    rw [prI_e hn2 hn4, ← Nat.pow_succ] at hq
    refine J.iload C dX0_completes_22 rfl ?_
    refine J.iload_n C dX0_completes_24 rfl ?_
    first | refine J.icmp_ge_n C (by omega) (by omega) dX0_completes_25 (tgt := 99) (by decide) (fun _ => ?_) (fun c25 => absurd c25 (by first | omega | decide | simp_all)) | refine J.icmp_ge_xn C (by omega) dX0_completes_25 (tgt := 99) (by decide) (fun _ => ?_) (fun c25 => absurd c25 (by first | omega | decide | simp_all)) | refine J.icmp_ge_nx C (by omega) dX0_completes_25 (tgt := 99) (by decide) (fun _ => ?_) (fun c25 => absurd c25 (by first | omega | decide | simp_all)) | refine J.icmp_ge C dX0_completes_25 (tgt := 99) (by decide) (fun _ => ?_) (fun c25 => absurd c25 (by first | omega | decide | simp_all))
    refine J.iconst C dX0_completes_99 (v := (nI 0)) (by decide) ?_
    exact J.zret C dX0_completes_100 (by first | exact bI_nar _ | rfl | decide | assumption) (hP0 J0 hf hq)
  | succ z ih =>
    intro a J0 ha hf hq
    refine J.iload C dX0_completes_22 rfl ?_
    refine J.iload_n C dX0_completes_24 rfl ?_
    first | refine J.icmp_ge_n C (by omega) (by omega) dX0_completes_25 (tgt := 99) (by decide) (fun c25 => absurd c25 (by first | omega | decide | simp_all)) (fun _ => ?_) | refine J.icmp_ge_xn C (by omega) dX0_completes_25 (tgt := 99) (by decide) (fun c25 => absurd c25 (by first | omega | decide | simp_all)) (fun _ => ?_) | refine J.icmp_ge_nx C (by omega) dX0_completes_25 (tgt := 99) (by decide) (fun c25 => absurd c25 (by first | omega | decide | simp_all)) (fun _ => ?_) | refine J.icmp_ge C dX0_completes_25 (tgt := 99) (by decide) (fun c25 => absurd c25 (by first | omega | decide | simp_all)) (fun _ => ?_)
    refine J.iload C dX0_completes_28 rfl ?_
    refine J.iconst C dX0_completes_30 (v := (nI 1)) (by decide) ?_
    first | refine J.iadd_n C dX0_completes_31 ?_ | refine J.iadd C dX0_completes_31 ?_
    refine J.istore (ls' := [(0, _), (2, _), (3, _), (4, _), (5, _), (6, _), (7, _)]) C dX0_completes_32 (by decide) rfl ?_
    refine lp_X0_completes_b C hn2 hn4 hr (show a < n by omega) IH hP (fun J1 hf1 hq1 => ?_) (n - (a + 1)) (a + 1) J0 (by omega) (by omega) hf hq
    refine J.iinc (ls' := [(0, _), (2, _), (3, _), (4, _), (5, _), (6, _)]) C dX0_completes_93 rfl (by first | exact nI_inc _ 1 | exact rfl) (by decide) rfl ?_
    refine J.goto C dX0_completes_96 (tgt := 22) (by decide) ?_
    exact ih (a + 1) J1 (by omega) hf1 (by rw [prI_nx hn2 hn4 (by omega)]; exact hq1)
set_option maxHeartbeats 4000000 in
set_option maxRecDepth 100000 in
theorem ok_X0_completes_0 (l : Launch) (V : Vx) {n u : Nat} {x : Int64} (I : Nat → Nat → Int32) (L : Nat → Nat → Int64) (hn2 : 2 ≤ n) (hn4 : n ≤ 4) (hr : u ≤ 5) : Gi l V yX0_completes wsX0_completes (3 + 0) [.long x, .int (nI n), .int (nI u), .int (nI (u + 0)), .ref (ad V 62)] I L (QC n 0 x u I L) := by
  refine Ok.of (cc := cX0_completes) (maxL := 10) (ret := (some .boolean)) (by decide) rfl (Nat.le_of_ble_eq_true rfl) (fun X hnm C => ?_)
  have C : CX l X V RX0 cX0_completes 10 wsX0_completes (3 + 0) 0 0 (some .boolean) := C
  refine J.cast (ls' := [(0, _), (2, _), (3, _), (4, _), (5, _)]) rfl rfl rfl rfl ?_
  refine J.iload_n C dX0_completes_0 rfl ?_
  refine J.iload C dX0_completes_1 rfl ?_
  first | refine J.icmp_ge_n C (by omega) (by omega) dX0_completes_3 (tgt := 13) (by decide) (fun _ => ?_) (fun c3 => absurd c3 (by first | omega | decide | simp_all)) | refine J.icmp_ge_xn C (by omega) dX0_completes_3 (tgt := 13) (by decide) (fun _ => ?_) (fun c3 => absurd c3 (by first | omega | decide | simp_all)) | refine J.icmp_ge_nx C (by omega) dX0_completes_3 (tgt := 13) (by decide) (fun _ => ?_) (fun c3 => absurd c3 (by first | omega | decide | simp_all)) | refine J.icmp_ge C dX0_completes_3 (tgt := 13) (by decide) (fun _ => ?_) (fun c3 => absurd c3 (by first | omega | decide | simp_all))
  refine J.lload_n C dX0_completes_13 rfl ?_
  refine J.iload_n C dX0_completes_14 rfl ?_
  refine J.cSDi C (ok_X0_areRising l V _ _ hn4) gX0_completes_X0_areRising rfl mfX0_areRising (by decide) (by decide) rfl rfl (Nat.le_of_ble_eq_true rfl) dX0_completes_15 (Nat.le_refl _) (Nat.le_refl _) ?_
  exact J.zret C dX0_completes_18 (by first | exact bI_nar _ | rfl | decide | assumption) (by
      by_cases q : RsX n x
      · refine ⟨_, _, _, rfl, rfl, rfl, f62_r, some 0, ⟨by rw [Nat.pow_zero]; omega, q, fun r hr => absurd hr (Nat.not_lt_zero r)⟩, ?_, fun s _ k hk => absurd hk (Nat.not_lt_zero k)⟩
        show bI (tb (RsX n x)) = _
        rw [tb_1 q]; rfl
      · refine ⟨_, _, _, rfl, rfl, rfl, f62_r, none, fun r hr => q, ?_, fun s e => by cases e⟩
        show bI (tb (RsX n x)) = _
        rw [tb_0 q]; rfl)
set_option maxHeartbeats 4000000 in
set_option maxRecDepth 100000 in
theorem ok_X0_completes (l : Launch) (V : Vx) {n : Nat} (L : Nat → Nat → Int64) (hn2 : 2 ≤ n) (hn4 : n ≤ 4) : ∀ (r u : Nat) (x : Int64) (I : Nat → Nat → Int32), u + r ≤ 5 → Gi l V yX0_completes wsX0_completes (3 + r) [.long x, .int (nI n), .int (nI u), .int (nI (u + r)), .ref (ad V 62)] I L (QC n r x u I L)
  | 0, u, x, I, hr => ok_X0_completes_0 l V I L hn2 hn4 (by omega)
  | r + 1, u, x, I, hr => by
    have IH : ∀ (y : Int64) (J0 : Nat → Nat → Int32), Gi l V yX0_completes wsX0_completes (3 + r) [.long y, .int (nI n), .int (nI (u + 1)), .int (nI (u + (r + 1))), .ref (ad V 62)] J0 L (QC n r y (u + 1) J0 L) := fun y J0 => by
      have w := ok_X0_completes l V L hn2 hn4 r (u + 1) y J0 (by omega)
      rw [show u + 1 + r = u + (r + 1) by omega] at w
      exact w
    rw [show 3 + (r + 1) = 4 + r by omega]
    refine Ok.of (cc := cX0_completes) (maxL := 10) (ret := (some .boolean)) (by decide) rfl (Nat.le_of_ble_eq_true rfl) (fun X hnm C => ?_)
    have C : CX l X V RX0 cX0_completes 10 wsX0_completes (4 + r) 0 0 (some .boolean) := C
    refine J.cast (ls' := [(0, _), (2, _), (3, _), (4, _), (5, _)]) rfl rfl rfl rfl ?_
    refine J.iload_n C dX0_completes_0 rfl ?_
    refine J.iload C dX0_completes_1 rfl ?_
    first | refine J.icmp_ge_n C (by omega) (by omega) dX0_completes_3 (tgt := 13) (by decide) (fun c3 => absurd c3 (by first | omega | decide | simp_all)) (fun _ => ?_) | refine J.icmp_ge_xn C (by omega) dX0_completes_3 (tgt := 13) (by decide) (fun c3 => absurd c3 (by first | omega | decide | simp_all)) (fun _ => ?_) | refine J.icmp_ge_nx C (by omega) dX0_completes_3 (tgt := 13) (by decide) (fun c3 => absurd c3 (by first | omega | decide | simp_all)) (fun _ => ?_) | refine J.icmp_ge C dX0_completes_3 (tgt := 13) (by decide) (fun c3 => absurd c3 (by first | omega | decide | simp_all)) (fun _ => ?_)
    refine J.iload_n C dX0_completes_6 rfl ?_
    refine J.aload C dX0_completes_7 rfl ?_
    refine J.alen C (by exact rfl) dX0_completes_9 ?_
    rw [show ln 62 = 5 from rfl]
    first | refine J.icmp_lt_n C (by omega) (by omega) dX0_completes_10 (tgt := 19) (by decide) (fun _ => ?_) (fun c10 => absurd c10 (by omega)) | refine J.icmp_lt_xn C (by omega) dX0_completes_10 (tgt := 19) (by decide) (fun _ => ?_) (fun c10 => absurd c10 (by omega)) | refine J.icmp_lt_nx C (by omega) dX0_completes_10 (tgt := 19) (by decide) (fun _ => ?_) (fun c10 => absurd c10 (by omega)) | refine J.icmp_lt C dX0_completes_10 (tgt := 19) (by decide) (fun _ => ?_) (fun c10 => absurd c10 (by omega))
    refine J.iconst C dX0_completes_19 (v := (nI 0)) (by decide) ?_
    refine J.istore (ls' := [(0, _), (2, _), (3, _), (4, _), (5, _), (6, _)]) C dX0_completes_20 (by decide) rfl ?_
    refine lp_X0_completes C hn2 hn4 hr IH (fun J0 s hf hs hd => ?_) (fun J0 hf hq => ?_) n 0 I (by omega) f62_r (fun s hs => by rw [prI_0, Nat.mul_zero] at hs; exact absurd hs (Nat.not_lt_zero s))
    · exact ⟨_, _, _, rfl, rfl, rfl, hf, some s, hs, rfl, fun s' e => by cases e; exact hd⟩
    · exact ⟨_, _, _, rfl, rfl, rfl, hf, none, hq, rfl, fun s' e => by cases e⟩
