/-! THE CLASS: how it holds the state; History -/
theorem ln_all2 : ln (4 + 1) = 25 ∧ ln (1 + 1) = 40 ∧ ln (57 + 1) = 8 ∧ ln (59 + 1) = 8 ∧ ln (61 + 1) = 5 := by decide +kernel
def rowX (x : Int64) (r : Nat) : Nat := (x.toBitVec.getLsbD r).toNat + 2 * (x.toBitVec.getLsbD (16 + r)).toNat + 4 * (x.toBitVec.getLsbD (32 + r)).toNat + 8 * (x.toBitVec.getLsbD (48 + r)).toNat
def SrtX (L : Nat) (x : Int64) (n s : Nat) : Prop := ∀ r, r < 2 ^ L → Ris L (gk (tc L (dg (nPr L) n s)) (-1) (rowX x r) n)
def misX (L : Nat) (x : Int64) (n : Nat) : Prop := ∃ s, s < nPr L ^ n ∧ SrtX L x n s
def FndC (L : Nat) (x : Int64) (a p : Nat → Int32) : Prop := ∃ n s, isL 10 (misX L x) (some n) ∧ isL (nPr L ^ n) (SrtX L x n) (some s) ∧ a 1 = nI n ∧ ∀ k, k < n → p k = nI (10 * (prT L (dg (nPr L) n s k)).1 + (prT L (dg (nPr L) n s k)).2)
def kC (a p : Nat → Int32) (x : Int64) : Prop := ∃ L, a 2 = nI L ∧ (L = 0 ∨ (2 ≤ L ∧ L ≤ 4 ∧ FndC L x a p))
def hC (I : Nat → Nat → Int32) (h : List Nt) : Prop := ∃ f, f < 25 ∧ I 4 1 = nI f ∧ I 4 2 = nI h.length ∧ h.length ≤ 25 ∧ ∀ j t, h[j]? = some t → netC I (6 + 2 * ((f + 24 - j) % 25)) t
def sC (I : Nat → Nat → Int32) (s : Nat → Option Nt) : Prop := ∀ k, k < 4 → match s k with
  | some t => netC I (65 + 2 * k) t
  | none => I (65 + 2 * k) 0 = nI 0
def cC (I : Nat → Nat → Int32) (L : Nat → Nat → Int64) (c : Nat → Nat × Nat × (Nat → Int64)) : Prop := ∀ k, k < 6 → I (73 + 2 * k) 0 = nI (c k).1 ∧ I (73 + 2 * k) 1 = nI (c k).2.1 ∧ ∀ i, i < 12 → L (74 + 2 * k) i = (c k).2.2 i
def AbC (I : Nat → Nat → Int32) (L : Nat → Nat → Int64) (g : Sg) : Prop := netC I 1 g.1 ∧ hC I g.2.1 ∧ sC I g.2.2.1 ∧ cC I L g.2.2.2.1 ∧ wA (I 0 9) (I 64) g.2.2.2.2.1 ∧ I 0 10 = g.2.2.2.2.2 ∧ kC (I 61) (I 62) (L 61 3)
def frC (I I' : Nat → Nat → Int32) : Prop := ∀ k, 85 ≤ k → I' k = I k
def frCL (L L' : Nat → Nat → Int64) : Prop := ∀ k, 85 ≤ k → L' k = L k
theorem netC_of {I I' : Nat → Nat → Int32} {k : Nat} {t : Nt} (h : netC I k t) (e : I' k = I k) (e1 : I' (k + 1) = I (k + 1)) : netC I' k t := by unfold netC; rw [e, e1]; exact h
theorem kd6 {i : Nat} (h : i < 25) : kd (6 + 2 * i) = 3 := by
  have key : ∀ i, i < 25 → kd (6 + 2 * i) = 3 := by decide +kernel
  exact key i h
theorem kd65 {i : Nat} (h : i < 4) : kd (65 + 2 * i) = 3 := by
  have key : ∀ i, i < 4 → kd (65 + 2 * i) = 3 := by decide +kernel
  exact key i h
theorem kd73 {i : Nat} (h : i < 6) : kd (73 + 2 * i) = 1 ∧ kd (74 + 2 * i) = 8 ∧ ln (74 + 2 * i) = 12 := by
  have key : ∀ i, i < 6 → kd (73 + 2 * i) = 1 ∧ kd (74 + 2 * i) = 8 ∧ ln (74 + 2 * i) = 12 := by decide +kernel
  exact key i h
/-- the net is another one: the rest as it was -/
theorem AbC_net {I I' : Nat → Nat → Int32} {L : Nat → Nat → Int64} {g : Sg} {t : Nt} (h : AbC I L g) (hn : netC I' 1 t) (ek : ∀ k, k ≠ 1 → k ≠ 2 → k < 85 → I' k = I k) : AbC I' L (gN g t) := by
  obtain ⟨h1, ⟨f, h2a, h2b, h2c, h2d, h2e⟩, h3, h4, h5, h6, h7⟩ := h
  refine ⟨hn, ⟨f, h2a, by rw [ek 4 (by decide) (by decide) (by decide)]; exact h2b, by rw [ek 4 (by decide) (by decide) (by decide)]; exact h2c, h2d, fun j t' hj => netC_of (h2e j t' hj) (ek _ (by omega) (by omega) (by omega)) (ek _ (by omega) (by omega) (by omega))⟩, fun k hk => ?_, fun k hk => ?_, ?_, ?_, ?_⟩
  · have w := h3 k hk
    show match g.2.2.1 k with | some t => _ | none => _
    cases hs : g.2.2.1 k with
    | none => rw [hs] at w; show I' _ 0 = _; rw [ek _ (by omega) (by omega) (by omega)]; exact w
    | some t' => rw [hs] at w; exact netC_of w (ek _ (by omega) (by omega) (by omega)) (ek _ (by omega) (by omega) (by omega))
  · have w := h4 k hk
    rw [ek _ (by omega) (by omega) (by omega)]
    exact w
  · rw [ek 0 (by decide) (by decide) (by decide), ek 64 (by decide) (by decide) (by decide)]; exact h5
  · rw [ek 0 (by decide) (by decide) (by decide)]; exact h6
  · rw [ek 61 (by decide) (by decide) (by decide), ek 62 (by decide) (by decide) (by decide)]; exact h7
/-- the ring of nets is another one -/
theorem AbC_hist {I I' : Nat → Nat → Int32} {L : Nat → Nat → Int64} {g : Sg} {h' : List Nt} (h : AbC I L g) (hn : hC I' h') (ek : ∀ k, k ≠ 4 → (k < 6 ∨ 56 ≤ k) → k < 85 → I' k = I k) : AbC I' L (g.1, h', g.2.2) := by
  obtain ⟨h1, -, h3, h4, h5, h6, h7⟩ := h
  refine ⟨netC_of h1 (ek 1 (by decide) (by decide) (by decide)) (ek 2 (by decide) (by decide) (by decide)), hn, fun k hk => ?_, fun k hk => ?_, ?_, ?_, ?_⟩
  · have w := h3 k hk
    show match g.2.2.1 k with | some t => _ | none => _
    cases hs : g.2.2.1 k with
    | none => rw [hs] at w; show I' _ 0 = _; rw [ek _ (by omega) (by omega) (by omega)]; exact w
    | some t' => rw [hs] at w; exact netC_of w (ek _ (by omega) (by omega) (by omega)) (ek _ (by omega) (by omega) (by omega))
  · have w := h4 k hk
    rw [ek _ (by omega) (by omega) (by omega)]
    exact w
  · rw [ek 0 (by decide) (by decide) (by decide), ek 64 (by decide) (by decide) (by decide)]; exact h5
  · rw [ek 0 (by decide) (by decide) (by decide)]; exact h6
  · rw [ek 61 (by decide) (by decide) (by decide), ek 62 (by decide) (by decide) (by decide)]; exact h7
theorem min25 {n : Nat} (h : n ≤ 25) : (if nI 25 < nI (n + 1) then nI 25 else nI (n + 1)) = nI (min (n + 1) 25) := by
  by_cases e : n = 25
  · subst e; decide
  · rw [if_neg (nI_nlt (by omega) (by omega)), Nat.min_eq_left (by omega)]
def reC (I : Nat → Nat → Int32) (f c n : Nat) : Nat → Nat → Int32 := up2 (up2 (beC I (6 + 2 * f) 1 c) 4 1 (nI (if f + 1 < 25 then f + 1 else 0))) 4 2 (nI (min (n + 1) 25))
theorem reC_o {I : Nat → Nat → Int32} {f c n k : Nat} (hf : f < 25) (h4 : k ≠ 4) (hk : k < 6 ∨ 56 ≤ k) : reC I f c n k = I k := by
  unfold reC
  rw [up2_n _ _ _ h4, up2_n _ _ _ h4, beC_o (by omega) (by omega)]
theorem AbC_re {I : Nat → Nat → Int32} {L : Nat → Nat → Int64} {g : Sg} {f : Nat} (h : AbC I L g) (hf : f < 25) (h1 : I 4 1 = nI f) (h2 : I 4 2 = nI g.2.1.length) (h3 : g.2.1.length ≤ 25) (h4 : ∀ j t, g.2.1[j]? = some t → netC I (6 + 2 * ((f + 24 - j) % 25)) t) : AbC (reC I f g.1.2.1 g.2.1.length) L (gB g) := by
  have hl : ((g.1 :: g.2.1).take 25).length = min (g.2.1.length + 1) 25 := by rw [List.length_take, List.length_cons]; omega
  have eo : ∀ k, k ≠ 4 → reC I f g.1.2.1 g.2.1.length k = beC I (6 + 2 * f) 1 g.1.2.1 k := fun k hk => by unfold reC; rw [up2_n _ _ _ hk, up2_n _ _ _ hk]
  refine AbC_hist (g := g) h ⟨if f + 1 < 25 then f + 1 else 0, ?_, ?_, ?_, ?_, fun j t hj => ?_⟩ (fun k a b c => reC_o hf a b)
  · split <;> omega
  · show up2 _ 4 2 _ 4 1 = _
    rw [up2_m _ _ _ (by decide), up2_s]
  · show up2 _ 4 2 _ 4 2 = _
    rw [up2_s, hl]
  · rw [hl]; omega
  · have hjl : j < 25 := by have := (List.getElem?_eq_some_iff.mp hj).1; rw [hl] at this; omega
    rw [List.getElem?_take, if_pos hjl] at hj
    cases j with
    | zero =>
      have e : g.1 = t := by simpa using hj
      subst e
      rw [show ((if f + 1 < 25 then f + 1 else 0) + 24 - 0) % 25 = f by split <;> omega]
      exact netC_of (beC_net h.1) (eo _ (by omega)) (eo _ (by omega))
    | succ j =>
      have hj2 : g.2.1[j]? = some t := by simpa using hj
      have w := h4 j t hj2
      have e : ((if f + 1 < 25 then f + 1 else 0) + 24 - (j + 1)) % 25 = (f + 24 - j) % 25 := by split <;> omega
      rw [e]
      exact netC_of w (by rw [eo _ (by omega), beC_o (by omega) (by omega)]) (by rw [eo _ (by omega), beC_o (by omega) (by omega)])
set_option maxHeartbeats 4000000 in
set_option maxRecDepth 100000 in
theorem ok_X2_remember (l : Launch) (V : Vx) {g : Sg} (I : Nat → Nat → Int32) (L : Nat → Nat → Int64) (hz : V.2.2.2.2.2 = false) (h : AbC I L g) (ok : okG g) : Gv l V yX2_remember wsX2_remember 2 [.ref (ad V 4), .ref (ad V 1)] I L (fun I' L' => AbC I' L' (gB g) ∧ frC I I' ∧ L' = L) := by
  obtain ⟨f, hf, h1, h2, h3, h4⟩ := id h.2.1
  have hc := h.1.2.1
  have h40 := ok.1.2.2.1
  have hb1 : beC I (6 + 2 * f) 1 g.1.2.1 4 1 = nI f := by rw [beC_o (by omega) (by omega)]; exact h1
  have hb2 : beC I (6 + 2 * f) 1 g.1.2.1 4 2 = nI g.2.1.length := by rw [beC_o (by omega) (by omega)]; exact h2
  have hk6 := kd6 hf
  refine Ok.of (cc := cX2_remember) (maxL := 2) (ret := none) (by decide) rfl (Nat.le_of_ble_eq_true rfl) (fun X hnm C => ?_)
  have C : CX l X V RX2 cX2_remember 2 wsX2_remember 2 0 0 none := C
  refine J.cast (ls' := [(0, _), (1, _)]) rfl rfl rfl rfl ?_
  refine J.aload_n C dX2_remember_0 rfl ?_
  refine J.getR C flX2_remember_11 (by first | decide | omega) rfl (by exact rfl) dX2_remember_1 ?_
  refine J.aload_n C dX2_remember_4 rfl ?_
  refine J.getI C flX2_remember_17 (by first | decide | omega) rfl (by exact rfl) (by first | ((repeat (first | rewrite [up2_n _ _ _ (by first | decide | omega)] | rewrite [up2_m _ _ _ (by decide)] | rewrite [up3_n _ _ _ (by first | decide | omega)])) <;> (first | exact up2_s _ _ _ _ | exact up3_s _ _ _ _ | assumption | exact rfl))) dX2_remember_5 ?_
  refine J.aa C (by first | exact Or.inl rfl | exact Or.inr rfl) (by first | exact rfl | exact rfl) (by first | (have h_ln := ln_all; have h_l2 := ln_all2; omega) | omega) dX2_remember_8 ?_
  refine J.aload_n C dX2_remember_9 rfl ?_
  refine J.cVDv (q := (RX3, TX3, 3)) (ci := 3) C (ok_X3_become l V _ _ hz (kd6 hf) rfl (by omega) hc h40) gX2_remember_X3_become rfl mfX3_become rfl (by decide) (by decide) (by first | decide | omega) (by first | exact rfl | exact mk_3 (by assumption)) rfl rfl rfl (Nat.le_of_ble_eq_true rfl) dX2_remember_10 (Nat.le_refl _) (Nat.le_refl _) ?_
  refine J.aload_n C dX2_remember_13 rfl ?_
  refine J.aload_n C dX2_remember_14 rfl ?_
  refine J.getI C flX2_remember_17 (by first | decide | omega) rfl (by exact rfl) (by first | ((repeat (first | rewrite [up2_n _ _ _ (by first | decide | omega)] | rewrite [up2_m _ _ _ (by decide)] | rewrite [up3_n _ _ _ (by first | decide | omega)])) <;> (first | exact up2_s _ _ _ _ | exact up3_s _ _ _ _ | assumption | exact rfl))) dX2_remember_15 ?_
  refine J.iconst C dX2_remember_18 (v := (nI 1)) (by decide) ?_
  first | refine J.iadd_n C dX2_remember_19 ?_ | refine J.iadd C dX2_remember_19 ?_
  refine J.bipush C dX2_remember_20 (v := (nI 25)) (by decide) ?_
  first | refine J.icmp_ge_n C (by omega) (by omega) dX2_remember_22 (tgt := 34) (by decide) (fun c22t => ?_) (fun c22f => ?_) | refine J.icmp_ge_xn C (by omega) dX2_remember_22 (tgt := 34) (by decide) (fun c22t => ?_) (fun c22f => ?_) | refine J.icmp_ge_nx C (by omega) dX2_remember_22 (tgt := 34) (by decide) (fun c22t => ?_) (fun c22f => ?_) | refine J.icmp_ge C dX2_remember_22 (tgt := 34) (by decide) (fun c22t => ?_) (fun c22f => ?_)
  · have e : (if f + 1 < 25 then f + 1 else 0) = 0 := if_neg (by omega)
    refine J.iconst C dX2_remember_34 (v := (nI 0)) (by decide) ?_
    refine J.putI C fpX2_remember_17 (by first | decide | omega) rfl (Nat.le_of_ble_eq_true rfl) (by first | exact mp_2_1 rfl | exact mp_2_1 (by assumption)) dX2_remember_35 ?_
    refine J.aload_n C dX2_remember_38 rfl ?_
    refine J.aload_n C dX2_remember_39 rfl ?_
    refine J.getI C flX2_remember_21 (by first | decide | omega) rfl (by exact rfl) (by first | ((repeat (first | rewrite [up2_n _ _ _ (by first | decide | omega)] | rewrite [up2_m _ _ _ (by decide)] | rewrite [up3_n _ _ _ (by first | decide | omega)])) <;> (first | exact up2_s _ _ _ _ | exact up3_s _ _ _ _ | assumption | exact rfl))) dX2_remember_40 ?_
    refine J.iconst C dX2_remember_43 (v := (nI 1)) (by decide) ?_
    first | refine J.iadd_n C dX2_remember_44 ?_ | refine J.iadd C dX2_remember_44 ?_
    refine J.bipush C dX2_remember_45 (v := (nI 25)) (by decide) ?_
    refine J.mmin C (by decide +kernel) (by decide +kernel) (by decide +kernel) (by decide +kernel) (by decide) (Nat.le_of_ble_eq_true rfl) (Nat.le_refl _) (Nat.le_refl _) dX2_remember_47 ?_
    rw [min25 h3]
    refine J.putI C fpX2_remember_21 (by first | decide | omega) rfl (Nat.le_of_ble_eq_true rfl) (by first | exact mp_2_2 rfl | exact mp_2_2 (by assumption)) dX2_remember_50 ?_
    exact J.vret C dX2_remember_53 ⟨_, L, rfl, rfl, by have w := AbC_re h hf h1 h2 h3 h4; unfold reC at w; rw [e] at w; exact w, fun k hk => by rw [up2_n _ _ _ (by omega), up2_n _ _ _ (by omega), beC_o (by omega) (by omega)], rfl⟩
  · have e : (if f + 1 < 25 then f + 1 else 0) = f + 1 := if_pos (by omega)
    refine J.aload_n C dX2_remember_25 rfl ?_
    refine J.getI C flX2_remember_17 (by first | decide | omega) rfl (by exact rfl) (by first | ((repeat (first | rewrite [up2_n _ _ _ (by first | decide | omega)] | rewrite [up2_m _ _ _ (by decide)] | rewrite [up3_n _ _ _ (by first | decide | omega)])) <;> (first | exact up2_s _ _ _ _ | exact up3_s _ _ _ _ | assumption | exact rfl))) dX2_remember_26 ?_
    refine J.iconst C dX2_remember_29 (v := (nI 1)) (by decide) ?_
    first | refine J.iadd_n C dX2_remember_30 ?_ | refine J.iadd C dX2_remember_30 ?_
    refine J.goto C dX2_remember_31 (tgt := 35) (by decide) ?_
    refine J.putI C fpX2_remember_17 (by first | decide | omega) rfl (Nat.le_of_ble_eq_true rfl) (by first | exact mp_2_1 rfl | exact mp_2_1 (by assumption)) dX2_remember_35 ?_
    refine J.aload_n C dX2_remember_38 rfl ?_
    refine J.aload_n C dX2_remember_39 rfl ?_
    refine J.getI C flX2_remember_21 (by first | decide | omega) rfl (by exact rfl) (by first | ((repeat (first | rewrite [up2_n _ _ _ (by first | decide | omega)] | rewrite [up2_m _ _ _ (by decide)] | rewrite [up3_n _ _ _ (by first | decide | omega)])) <;> (first | exact up2_s _ _ _ _ | exact up3_s _ _ _ _ | assumption | exact rfl))) dX2_remember_40 ?_
    refine J.iconst C dX2_remember_43 (v := (nI 1)) (by decide) ?_
    first | refine J.iadd_n C dX2_remember_44 ?_ | refine J.iadd C dX2_remember_44 ?_
    refine J.bipush C dX2_remember_45 (v := (nI 25)) (by decide) ?_
    refine J.mmin C (by decide +kernel) (by decide +kernel) (by decide +kernel) (by decide +kernel) (by decide) (Nat.le_of_ble_eq_true rfl) (Nat.le_refl _) (Nat.le_refl _) dX2_remember_47 ?_
    rw [min25 h3]
    refine J.putI C fpX2_remember_21 (by first | decide | omega) rfl (Nat.le_of_ble_eq_true rfl) (by first | exact mp_2_2 rfl | exact mp_2_2 (by assumption)) dX2_remember_50 ?_
    exact J.vret C dX2_remember_53 ⟨_, L, rfl, rfl, by have w := AbC_re h hf h1 h2 h3 h4; unfold reC at w; rw [e] at w; exact w, fun k hk => by rw [up2_n _ _ _ (by omega), up2_n _ _ _ (by omega), beC_o (by omega) (by omega)], rfl⟩
set_option maxHeartbeats 4000000 in
set_option maxRecDepth 100000 in
theorem ok_X2_giveBack (l : Launch) (V : Vx) {g : Sg} {t : Nt} {r : List Nt} (I : Nat → Nat → Int32) (L : Nat → Nat → Int64) (hz : V.2.2.2.2.2 = false) (h : AbC I L g) (ok : okG g) (hh : g.2.1 = t :: r) : Gv l V yX2_giveBack wsX2_giveBack 2 [.ref (ad V 4), .ref (ad V 1)] I L (fun I' L' => AbC I' L' (t, r, g.2.2) ∧ frC I I' ∧ L' = L) := by
  obtain ⟨f, hf, h1, h2, h3, h4⟩ := id h.2.1
  have hl : g.2.1.length = r.length + 1 := by rw [hh]; exact List.length_cons
  rw [hl] at h2 h3
  have ht : okN t := ok.2.1 t (by rw [hh]; exact List.mem_cons_self)
  have h40 := ht.2.2.1
  have hT := h4 0 t (by rw [hh]; rfl)
  have fin : ∀ (q : Nat) (J0 : Nat → Nat → Int32), q = (f + 24) % 25 → (∀ k, k ≠ 4 → J0 k = I k) → J0 4 1 = nI q → J0 4 2 = nI r.length → AbC (beC J0 1 (6 + 2 * q) t.2.1) L (t, r, g.2.2) := fun q J0 hq hJ e1 e2 => by
    have w : AbC J0 L (g.1, r, g.2.2) := AbC_hist h ⟨q, by omega, e1, e2, by omega, fun j t' hj => by
      have z := h4 (j + 1) t' (by rw [hh]; simpa using hj)
      have hjl : j < r.length := (List.getElem?_eq_some_iff.mp hj).1
      rw [show (q + 24 - j) % 25 = (f + 24 - (j + 1)) % 25 by omega]
      exact netC_of z (hJ _ (by omega)) (hJ _ (by omega))⟩ (fun k a b c => hJ k a)
    exact AbC_net w (beC_net (netC_of (k := 6 + 2 * q) (by rw [hq]; exact hT) (hJ _ (by omega)) (hJ _ (by omega)))) (fun k a b c => beC_o a b)
  refine Ok.of (cc := cX2_giveBack) (maxL := 2) (ret := none) (by decide) rfl (Nat.le_of_ble_eq_true rfl) (fun X hnm C => ?_)
  have C : CX l X V RX2 cX2_giveBack 2 wsX2_giveBack 2 0 0 none := C
  refine J.cast (ls' := [(0, _), (1, _)]) rfl rfl rfl rfl ?_
  refine J.aload_n C dX2_giveBack_0 rfl ?_
  refine J.getI C flX2_giveBack_21 (by first | decide | omega) rfl (by exact rfl) (by first | ((repeat (first | rewrite [up2_n _ _ _ (by first | decide | omega)] | rewrite [up2_m _ _ _ (by decide)] | rewrite [up3_n _ _ _ (by first | decide | omega)])) <;> (first | exact up2_s _ _ _ _ | exact up3_s _ _ _ _ | assumption | exact rfl))) dX2_giveBack_1 ?_
  first | refine J.if_le_n C (by omega) dX2_giveBack_4 (tgt := 52) (by decide) (fun c4 => absurd c4 (by first | omega | decide | simp_all)) (fun _ => ?_) | refine J.if_le_z C dX2_giveBack_4 (tgt := 52) (by decide) (fun c4 => absurd c4 (by first | omega | decide | simp_all)) (fun _ => ?_)
  refine J.aload_n C dX2_giveBack_7 rfl ?_
  refine J.aload_n C dX2_giveBack_8 rfl ?_
  refine J.getI C flX2_giveBack_17 (by first | decide | omega) rfl (by exact rfl) (by first | ((repeat (first | rewrite [up2_n _ _ _ (by first | decide | omega)] | rewrite [up2_m _ _ _ (by decide)] | rewrite [up3_n _ _ _ (by first | decide | omega)])) <;> (first | exact up2_s _ _ _ _ | exact up3_s _ _ _ _ | assumption | exact rfl))) dX2_giveBack_9 ?_
  first | refine J.if_le_n C (by omega) dX2_giveBack_12 (tgt := 24) (by decide) (fun c12t => ?_) (fun c12f => ?_) | refine J.if_le_z C dX2_giveBack_12 (tgt := 24) (by decide) (fun c12t => ?_) (fun c12f => ?_)
  · obtain rfl : f = 0 := by omega
    have hcq : up2 (up2 I 4 1 (nI 24)) 4 2 (nI r.length) (6 + 2 * 24) 1 = nI t.2.1 := by rw [up2_n _ _ _ (by decide), up2_n _ _ _ (by decide)]; exact hT.2.1
    refine J.bipush C dX2_giveBack_24 (v := (nI 24)) (by decide) ?_
    refine J.putI C fpX2_giveBack_17 (by first | decide | omega) rfl (Nat.le_of_ble_eq_true rfl) (by first | exact mp_2_1 rfl | exact mp_2_1 (by assumption)) dX2_giveBack_26 ?_
    refine J.aload_n C dX2_giveBack_29 rfl ?_
    refine J.dup C dX2_giveBack_30 rfl ?_
    refine J.getI C flX2_giveBack_21 (by first | decide | omega) rfl (by exact rfl) (by first | ((repeat (first | rewrite [up2_n _ _ _ (by first | decide | omega)] | rewrite [up2_m _ _ _ (by decide)] | rewrite [up3_n _ _ _ (by first | decide | omega)])) <;> (first | exact up2_s _ _ _ _ | exact up3_s _ _ _ _ | assumption | exact rfl))) dX2_giveBack_31 ?_
    refine J.iconst C dX2_giveBack_34 (v := (nI 1)) (by decide) ?_
    first | refine J.isub_n C (by omega) dX2_giveBack_35 ?_ | refine J.isub C dX2_giveBack_35 ?_
    rw [show r.length + 1 - 1 = r.length by omega]
    refine J.putI C fpX2_giveBack_21 (by first | decide | omega) rfl (Nat.le_of_ble_eq_true rfl) (by first | exact mp_2_2 rfl | exact mp_2_2 (by assumption)) dX2_giveBack_36 ?_
    refine J.aload_n C dX2_giveBack_39 rfl ?_
    refine J.aload_n C dX2_giveBack_40 rfl ?_
    refine J.getR C flX2_giveBack_11 (by first | decide | omega) rfl (by exact rfl) dX2_giveBack_41 ?_
    refine J.aload_n C dX2_giveBack_44 rfl ?_
    refine J.getI C flX2_giveBack_17 (by first | decide | omega) rfl (by exact rfl) (by first | ((repeat (first | rewrite [up2_n _ _ _ (by first | decide | omega)] | rewrite [up2_m _ _ _ (by decide)] | rewrite [up3_n _ _ _ (by first | decide | omega)])) <;> (first | exact up2_s _ _ _ _ | exact up3_s _ _ _ _ | assumption | exact rfl))) dX2_giveBack_45 ?_
    refine J.aa C (by first | exact Or.inl rfl | exact Or.inr rfl) (by first | exact rfl | exact rfl) (by first | (have h_ln := ln_all; have h_l2 := ln_all2; omega) | omega) dX2_giveBack_48 ?_
    refine J.cVDv (q := (RX3, TX3, 3)) (ci := 3) C (ok_X3_become l V _ _ hz rfl (kd6 (by omega)) (by omega) hcq h40) gX2_giveBack_X3_become rfl mfX3_become rfl (by decide) (by decide) (by first | decide | omega) (by first | exact rfl | exact mk_3 (by assumption)) rfl rfl rfl (Nat.le_of_ble_eq_true rfl) dX2_giveBack_49 (Nat.le_refl _) (Nat.le_refl _) ?_
    exact J.vret C dX2_giveBack_52 ⟨_, L, rfl, rfl, fin _ _ (by omega) (fun k a => by rw [up2_n _ _ _ a, up2_n _ _ _ a]) (by rw [up2_m _ _ _ (by decide), up2_s]) (up2_s _ _ _ _), fun k hk => by rw [beC_o (by omega) (by omega), up2_n _ _ _ (by omega), up2_n _ _ _ (by omega)], rfl⟩
  · have hcq : up2 (up2 I 4 1 (nI (f - 1))) 4 2 (nI r.length) (6 + 2 * (f - 1)) 1 = nI t.2.1 := by rw [up2_n _ _ _ (by omega), up2_n _ _ _ (by omega), show f - 1 = (f + 24 - 0) % 25 by omega]; exact hT.2.1
    refine J.aload_n C dX2_giveBack_15 rfl ?_
    refine J.getI C flX2_giveBack_17 (by first | decide | omega) rfl (by exact rfl) (by first | ((repeat (first | rewrite [up2_n _ _ _ (by first | decide | omega)] | rewrite [up2_m _ _ _ (by decide)] | rewrite [up3_n _ _ _ (by first | decide | omega)])) <;> (first | exact up2_s _ _ _ _ | exact up3_s _ _ _ _ | assumption | exact rfl))) dX2_giveBack_16 ?_
    refine J.iconst C dX2_giveBack_19 (v := (nI 1)) (by decide) ?_
    first | refine J.isub_n C (by omega) dX2_giveBack_20 ?_ | refine J.isub C dX2_giveBack_20 ?_
    refine J.goto C dX2_giveBack_21 (tgt := 26) (by decide) ?_
    refine J.putI C fpX2_giveBack_17 (by first | decide | omega) rfl (Nat.le_of_ble_eq_true rfl) (by first | exact mp_2_1 rfl | exact mp_2_1 (by assumption)) dX2_giveBack_26 ?_
    refine J.aload_n C dX2_giveBack_29 rfl ?_
    refine J.dup C dX2_giveBack_30 rfl ?_
    refine J.getI C flX2_giveBack_21 (by first | decide | omega) rfl (by exact rfl) (by first | ((repeat (first | rewrite [up2_n _ _ _ (by first | decide | omega)] | rewrite [up2_m _ _ _ (by decide)] | rewrite [up3_n _ _ _ (by first | decide | omega)])) <;> (first | exact up2_s _ _ _ _ | exact up3_s _ _ _ _ | assumption | exact rfl))) dX2_giveBack_31 ?_
    refine J.iconst C dX2_giveBack_34 (v := (nI 1)) (by decide) ?_
    first | refine J.isub_n C (by omega) dX2_giveBack_35 ?_ | refine J.isub C dX2_giveBack_35 ?_
    rw [show r.length + 1 - 1 = r.length by omega]
    refine J.putI C fpX2_giveBack_21 (by first | decide | omega) rfl (Nat.le_of_ble_eq_true rfl) (by first | exact mp_2_2 rfl | exact mp_2_2 (by assumption)) dX2_giveBack_36 ?_
    refine J.aload_n C dX2_giveBack_39 rfl ?_
    refine J.aload_n C dX2_giveBack_40 rfl ?_
    refine J.getR C flX2_giveBack_11 (by first | decide | omega) rfl (by exact rfl) dX2_giveBack_41 ?_
    refine J.aload_n C dX2_giveBack_44 rfl ?_
    refine J.getI C flX2_giveBack_17 (by first | decide | omega) rfl (by exact rfl) (by first | ((repeat (first | rewrite [up2_n _ _ _ (by first | decide | omega)] | rewrite [up2_m _ _ _ (by decide)] | rewrite [up3_n _ _ _ (by first | decide | omega)])) <;> (first | exact up2_s _ _ _ _ | exact up3_s _ _ _ _ | assumption | exact rfl))) dX2_giveBack_45 ?_
    refine J.aa C (by first | exact Or.inl rfl | exact Or.inr rfl) (by first | exact rfl | exact rfl) (by first | (have h_ln := ln_all; have h_l2 := ln_all2; omega) | omega) dX2_giveBack_48 ?_
    refine J.cVDv (q := (RX3, TX3, 3)) (ci := 3) C (ok_X3_become l V _ _ hz rfl (kd6 (by omega)) (by omega) hcq h40) gX2_giveBack_X3_become rfl mfX3_become rfl (by decide) (by decide) (by first | decide | omega) (by first | exact rfl | exact mk_3 (by assumption)) rfl rfl rfl (Nat.le_of_ble_eq_true rfl) dX2_giveBack_49 (Nat.le_refl _) (Nat.le_refl _) ?_
    exact J.vret C dX2_giveBack_52 ⟨_, L, rfl, rfl, fin _ _ (by omega) (fun k a => by rw [up2_n _ _ _ a, up2_n _ _ _ a]) (by rw [up2_m _ _ _ (by decide), up2_s]) (up2_s _ _ _ _), fun k hk => by rw [beC_o (by omega) (by omega), up2_n _ _ _ (by omega), up2_n _ _ _ (by omega)], rfl⟩
