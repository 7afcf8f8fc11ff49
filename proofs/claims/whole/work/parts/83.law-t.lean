/-! THE LAW: its loop, and its walk from the entry -/
theorem and63 (x : Int32) : ∃ n, n < 64 ∧ x &&& nI 63 = nI n := by
  refine ⟨x.toBitVec.toNat % 64, Nat.mod_lt _ (by decide), ?_⟩
  apply Int32.toBitVec_inj.mp
  show x.toBitVec &&& (BitVec.ofNat 32 63) = BitVec.ofNat 32 (x.toBitVec.toNat % 64)
  apply BitVec.eq_of_toNat_eq
  have h : x.toBitVec.toNat % 64 < 64 := Nat.mod_lt _ (by decide)
  rw [BitVec.toNat_and, BitVec.toNat_ofNat, BitVec.toNat_ofNat, show 63 % 2 ^ 32 = 2 ^ 6 - 1 from rfl, Nat.and_two_pow_sub_one_eq_mod, Nat.mod_eq_of_lt (show x.toBitVec.toNat % 64 < 2 ^ 32 by omega)]
theorem sub6 {n : Nat} (h : n ≤ 3072) : (nI n - nI 6).toInt = (n : Int) - 6 := by
  by_cases h6 : 6 ≤ n
  · rw [pk_sub (by omega)]
    have w := nI_ti (k := n - 6) (by omega)
    rw [w]
    omega
  · rcases (show n = 0 ∨ n = 1 ∨ n = 2 ∨ n = 3 ∨ n = 4 ∨ n = 5 by omega) with e | e | e | e | e | e <;> subst e <;> decide
set_option maxHeartbeats 4000000 in
set_option maxRecDepth 100000 in
theorem law_loop {l : Launch} {X : Cx} {V : Vx} {Q : State → Prop} {b Ln : Nat} {xs : Nat → Int32} (C : CX l X V RL cL_law 4 wsL_law 20 106 7121 ret) (hz : V.2.2.2.2.2 = false) (hX : va_X b Ln xs X.2.2.2.2.1 X.2.2.2.2.1.heap) (hbl : b < X.2.2.2.2.1.heap.size) (hB : V.2.2.1 = X.2.2.2.2.1.heap.size) (hL : Ln ≤ 3072) (hE : ∀ I L i, J X V Q 4 106 106 7121 1142 [(0, .ref b), (1, .ref (ad V 0)), (2, .ref (ad V 85)), (3, .int (nI i))] [] (mm V I L)) : ∀ (z i : Nat) (I : Nat → Nat → Int32) (L : Nat → Nat → Int64) (g : Sg), Ln < i + 6 * z → i ≤ 3078 → AbC I L g → AbM I L g → okG g → J X V Q 4 106 106 7121 18 [(0, .ref b), (1, .ref (ad V 0)), (2, .ref (ad V 85)), (3, .int (nI i))] [] (mm V I L) := by
  have hy := sub6 hL
  intro z
  induction z with
  | zero =>
    intro i I L g hi0 hi1 hC hM ok
    refine J.iload_n C dL_law_18 rfl ?_
    refine J.aload_n C dL_law_19 rfl ?_
    refine J.slen C hX hbl hB dL_law_20 ?_
    refine J.bipush C dL_law_21 (v := (nI 6)) (by decide) ?_
    refine J.isub C dL_law_23 ?_
    exact J.icmp_gt_nx C (by omega) dL_law_24 (tgt := 1142) (by decide) (fun _ => hE I L i) (fun c => absurd c (by omega))
  | succ z ih =>
    intro i I L g hi0 hi1 hC hM ok
    refine J.iload_n C dL_law_18 rfl ?_
    refine J.aload_n C dL_law_19 rfl ?_
    refine J.slen C hX hbl hB dL_law_20 ?_
    refine J.bipush C dL_law_21 (v := (nI 6)) (by decide) ?_
    refine J.isub C dL_law_23 ?_
    refine J.icmp_gt_nx C (by omega) dL_law_24 (tgt := 1142) (by decide) (fun _ => hE I L i) (fun c24 => ?_)
    have hi : i + 6 ≤ Ln := by omega
    have NX : ∀ I' L' g', AbC I' L' g' → AbM I' L' g' → okG g' → J X V Q 4 106 106 7121 1136 [(0, .ref b), (1, .ref (ad V 0)), (2, .ref (ad V 85)), (3, .int (nI i))] [] (mm V I' L') := fun I' L' g' a1 a2 a3 => by
      refine J.iinc (ls' := [(0, _), (1, _), (2, _), (3, _)]) C dL_law_1136 rfl (by exact nI_inc _ 6) (by decide) rfl ?_
      refine J.goto C dL_law_1139 (tgt := 18) (by decide) ?_
      exact ih (i + 6) I' L' g' (by omega) (by omega) a1 a2 a3
    refine J.aload_n C dL_law_27 rfl ?_
    refine J.iload_n C dL_law_28 rfl ?_
    refine J.sld C hX hbl hB rfl (by omega) hL dL_law_29 ?_
    refine J.bipush C dL_law_30 (v := (nI 63)) (by decide) ?_
    refine J.iand C dL_law_32 ?_
    obtain ⟨n, hn, hv⟩ := and63 (xs i)
    · rcases (show n = 0 ∨ n = 1 ∨ n = 2 ∨ n = 3 ∨ n = 4 ∨ n = 5 ∨ n = 6 ∨ n = 7 ∨ n = 8 ∨ n = 9 ∨ n = 10 ∨ n = 11 ∨ n = 12 ∨ n = 13 ∨ n = 14 ∨ n = 15 ∨ n = 16 ∨ n = 17 ∨ n = 18 ∨ n = 19 ∨ n = 20 ∨ n = 21 ∨ n = 22 ∨ n = 23 ∨ n = 24 ∨ n = 25 ∨ n = 26 ∨ n = 27 ∨ n = 28 ∨ n = 29 ∨ n = 30 ∨ n = 31 ∨ n = 32 ∨ n = 33 ∨ n = 34 ∨ 34 < n by omega) with e | e | e | e | e | e | e | e | e | e | e | e | e | e | e | e | e | e | e | e | e | e | e | e | e | e | e | e | e | e | e | e | e | e | e | e
      · subst e
        rw [hv]
        exact J.tabIn C dL_law_33 (off := 155) (by decide) (by decide) (by decide) (tgt := 188) (by decide) (lc_0 C hz hX hbl hB hL hi hC hM ok NX)
      · subst e
        rw [hv]
        exact J.tabIn C dL_law_33 (off := 178) (by decide) (by decide) (by decide) (tgt := 211) (by decide) (lc_1 C hz hX hbl hB hL hi hC hM ok NX)
      · subst e
        rw [hv]
        exact J.tabIn C dL_law_33 (off := 221) (by decide) (by decide) (by decide) (tgt := 254) (by decide) (lc_2 C hz hX hbl hB hL hi hC hM ok NX)
      · subst e
        rw [hv]
        exact J.tabIn C dL_law_33 (off := 244) (by decide) (by decide) (by decide) (tgt := 277) (by decide) (lc_3 C hz hX hbl hB hL hi hC hM ok NX)
      · subst e
        rw [hv]
        exact J.tabIn C dL_law_33 (off := 277) (by decide) (by decide) (by decide) (tgt := 310) (by decide) (lc_4 C hz hX hbl hB hL hi hC hM ok NX)
      · subst e
        rw [hv]
        exact J.tabIn C dL_law_33 (off := 326) (by decide) (by decide) (by decide) (tgt := 359) (by decide) (lc_5 C hz hX hbl hB hL hi hC hM ok NX)
      · subst e
        rw [hv]
        exact J.tabIn C dL_law_33 (off := 359) (by decide) (by decide) (by decide) (tgt := 392) (by decide) (lc_6 C hz hX hbl hB hL hi hC hM ok NX)
      · subst e
        rw [hv]
        exact J.tabIn C dL_law_33 (off := 392) (by decide) (by decide) (by decide) (tgt := 425) (by decide) (lc_7 C hz hX hbl hB hL hi hC hM ok NX)
      · subst e
        rw [hv]
        exact J.tabIn C dL_law_33 (off := 405) (by decide) (by decide) (by decide) (tgt := 438) (by decide) (lc_8 C hz hX hbl hB hL hi hC hM ok NX)
      · subst e
        rw [hv]
        exact J.tabIn C dL_law_33 (off := 448) (by decide) (by decide) (by decide) (tgt := 481) (by decide) (lc_9 C hz hX hbl hB hL hi hC hM ok NX)
      · subst e
        rw [hv]
        exact J.tabIn C dL_law_33 (off := 521) (by decide) (by decide) (by decide) (tgt := 554) (by decide) (lc_10 C hz hX hbl hB hL hi hC hM ok NX)
      · subst e
        rw [hv]
        exact J.tabIn C dL_law_33 (off := 555) (by decide) (by decide) (by decide) (tgt := 588) (by decide) (lc_11 C hz hX hbl hB hL hi hC hM ok NX)
      · subst e
        rw [hv]
        exact J.tabIn C dL_law_33 (off := 618) (by decide) (by decide) (by decide) (tgt := 651) (by decide) (lc_12 C hz hX hbl hB hL hi hC hM ok NX)
      · subst e
        rw [hv]
        exact J.tabIn C dL_law_33 (off := 641) (by decide) (by decide) (by decide) (tgt := 674) (by decide) (lc_13 C hz hX hbl hB hL hi hC hM ok NX)
      · subst e
        rw [hv]
        exact J.tabIn C dL_law_33 (off := 664) (by decide) (by decide) (by decide) (tgt := 697) (by decide) (lc_14 C hz hX hbl hB hL hi hC hM ok NX)
      · subst e
        rw [hv]
        exact J.tabIn C dL_law_33 (off := 707) (by decide) (by decide) (by decide) (tgt := 740) (by decide) (lc_15 C hz hX hbl hB hL hi hC hM ok NX)
      · subst e
        rw [hv]
        exact J.tabIn C dL_law_33 (off := 730) (by decide) (by decide) (by decide) (tgt := 763) (by decide) (lc_16 C hz hX hbl hB hL hi hC hM ok NX)
      · subst e
        rw [hv]
        exact J.tabIn C dL_law_33 (off := 743) (by decide) (by decide) (by decide) (tgt := 776) (by decide) (lc_17 C hz hX hbl hB hL hi hC hM ok NX)
      · subst e
        rw [hv]
        exact J.tabIn C dL_law_33 (off := 782) (by decide) (by decide) (by decide) (tgt := 815) (by decide) (lc_18 C hz hX hbl hB hL hi hC hM ok NX)
      · subst e
        rw [hv]
        exact J.tabIn C dL_law_33 (off := 805) (by decide) (by decide) (by decide) (tgt := 838) (by decide) (lc_19 C hz hX hbl hB hL hi hC hM ok NX)
      · subst e
        rw [hv]
        exact J.tabIn C dL_law_33 (off := 828) (by decide) (by decide) (by decide) (tgt := 861) (by decide) (lc_20 C hz hX hbl hB hL hi hC hM ok NX)
      · subst e
        rw [hv]
        exact J.tabIn C dL_law_33 (off := 841) (by decide) (by decide) (by decide) (tgt := 874) (by decide) (lc_21 C hz hX hbl hB hL hi hC hM ok NX)
      · subst e
        rw [hv]
        exact J.tabIn C dL_law_33 (off := 854) (by decide) (by decide) (by decide) (tgt := 887) (by decide) (lc_22 C hz hX hbl hB hL hi hC hM ok NX)
      · subst e
        rw [hv]
        exact J.tabIn C dL_law_33 (off := 867) (by decide) (by decide) (by decide) (tgt := 900) (by decide) (lc_23 C hz hX hbl hB hL hi hC hM ok NX)
      · subst e
        rw [hv]
        exact J.tabIn C dL_law_33 (off := 880) (by decide) (by decide) (by decide) (tgt := 913) (by decide) (lc_24 C hz hX hbl hB hL hi hC hM ok NX)
      · subst e
        rw [hv]
        exact J.tabIn C dL_law_33 (off := 903) (by decide) (by decide) (by decide) (tgt := 936) (by decide) (lc_25 C hz hX hbl hB hL hi hC hM ok NX)
      · subst e
        rw [hv]
        exact J.tabIn C dL_law_33 (off := 916) (by decide) (by decide) (by decide) (tgt := 949) (by decide) (lc_26 C hz hX hbl hB hL hi hC hM ok NX)
      · subst e
        rw [hv]
        exact J.tabIn C dL_law_33 (off := 939) (by decide) (by decide) (by decide) (tgt := 972) (by decide) (lc_27 C hz hX hbl hB hL hi hC hM ok NX)
      · subst e
        rw [hv]
        exact J.tabIn C dL_law_33 (off := 962) (by decide) (by decide) (by decide) (tgt := 995) (by decide) (lc_28 C hz hX hbl hB hL hi hC hM ok NX)
      · subst e
        rw [hv]
        exact J.tabIn C dL_law_33 (off := 985) (by decide) (by decide) (by decide) (tgt := 1018) (by decide) (lc_29 C hz hX hbl hB hL hi hC hM ok NX)
      · subst e
        rw [hv]
        exact J.tabIn C dL_law_33 (off := 1008) (by decide) (by decide) (by decide) (tgt := 1041) (by decide) (lc_30 C hz hX hbl hB hL hi hC hM ok NX)
      · subst e
        rw [hv]
        exact J.tabIn C dL_law_33 (off := 1031) (by decide) (by decide) (by decide) (tgt := 1064) (by decide) (lc_31 C hz hX hbl hB hL hi hC hM ok NX)
      · subst e
        rw [hv]
        exact J.tabIn C dL_law_33 (off := 1054) (by decide) (by decide) (by decide) (tgt := 1087) (by decide) (lc_32 C hz hX hbl hB hL hi hC hM ok NX)
      · subst e
        rw [hv]
        exact J.tabIn C dL_law_33 (off := 1067) (by decide) (by decide) (by decide) (tgt := 1100) (by decide) (lc_33 C hz hX hbl hB hL hi hC hM ok NX)
      · subst e
        rw [hv]
        exact J.tabIn C dL_law_33 (off := 1080) (by decide) (by decide) (by decide) (tgt := 1113) (by decide) (lc_34 C hz hX hbl hB hL hi hC hM ok NX)
      · rw [hv]
        exact J.tabOut C dL_law_33 (Or.inr (by rw [nI_ti (by omega)]; omega)) (tgt := 1136) (by decide) (NX I L g hC hM ok)
set_option maxHeartbeats 4000000 in
set_option maxRecDepth 100000 in
theorem whole_start {p : Program} {e : Env} {s : State} {m : MethodId} {below : List Frame} {meth : Method} {c : Code} (l : Launch) (hflags : l.flags = flags0) {b L : Nat} {xs : Nat → Int32} (hL : L ≤ 3072) (C0 : lw_At p s m meth c b L xs) : W p l e room_1 s m #[Value.ref b] below meth c s.heap [] 0 0 (lw_Z below #[Value.ref b] s) (entryFrame m ([Value.ref b] : List Value).toArray 4) := by
  obtain ⟨V, hB, hz, hK⟩ := law_K C0
  have hN := law_N C0
  obtain ⟨hx, hb, hr, hml, hown, hts, hX, hbl, hlocks, hgv⟩ := id C0
  refine W_dn (R' := rmd 20 106 7121) (Nat.le_of_ble_eq_true rfl) (Nat.le_of_ble_eq_true rfl) (Nat.le_of_ble_eq_true rfl) (Nat.le_of_ble_eq_true rfl) ?_
  have C : CX l (p, l, e, rmd 20 106 7121, s, m, #[Value.ref b], below, meth, c) V RL cL_law 4 wsL_law 20 106 7121 ret := ⟨rfl, rfl, hx, hb, hml, hown, fun w h => hts w (wsL_law_in w h), hK, Nat.le_of_eq hB, hlocks, hr⟩
  have C' : CX l (p, l, e, rmd 20 106 7121, s, m, #[Value.ref b], below, meth, c) (fV V) RL cL_law 4 wsL_law 20 106 7121 ret := ⟨rfl, rfl, hx, hb, hml, hown, fun w h => hts w (wsL_law_in w h), Kn_fV hK, Nat.le_of_eq hB, hlocks, hr⟩
  have hl := lv_entry ([.ref b]) (n := 4) (Nat.le_of_ble_eq_true rfl)
  rw [lg_entry_eq]
  have K : J (p, l, e, rmd 20 106 7121, s, m, #[Value.ref b], below, meth, c) V (lw_Z below #[Value.ref b] s) 4 0 0 0 0 [(0, .ref b)] [] (fun _ => .inr (5, [])) := by
    refine J.new C hz tyX5 [.null, .null, .null, .null, .null, .null, .null, .null, .null, .int 0, .int 0] (ci := 5) rfl inlX5 tyX5_ok (by decide +kernel) (by decide +kernel) (by decide +kernel) nfX5 (Nat.le_of_ble_eq_true rfl) (Nat.le_of_ble_eq_true rfl) dL_law_0 ?_
    refine J.cnt (n' := 1) (cs' := 1) (sl' := 11) rfl rfl rfl ?_
    refine J.dup C dL_law_3 rfl ?_
    refine J.callI C hN (ok_X5_init l V hz (va_up_self _ _ _)) gL_law_X5_init rfl (by decide +kernel) (by decide +kernel) (by decide +kernel) rfl mfX5_init (by decide) (by decide) rfl (Nat.le_of_ble_eq_true rfl) dL_law_4 (Nat.le_of_ble_eq_true rfl) (Nat.le_of_ble_eq_true rfl) (fun v M' h => ?_)
    obtain ⟨rfl, rfl⟩ := h
    refine J.cnt (n' := 85) (cs' := 85) (sl' := 1546) rfl rfl rfl ?_
    refine J.astore_n (ls' := [(0, _), (1, _)]) C dL_law_7 (by decide) rfl ?_
    refine J.new C hz tyX6 [.int 0, .int 0, .null, .null, .null, .null, .null, .null, .null, .null, .null, .null, .int 0, .null, .null, .null, .null, .int 0, .int 0, .null, .null, .null, .null, .null, .null] (ci := 6) rfl inlX6 tyX6_ok (by decide +kernel) (by decide +kernel) (by decide +kernel) nfX6 (Nat.le_of_ble_eq_true rfl) (Nat.le_of_ble_eq_true rfl) dL_law_8 ?_
    refine J.cnt (n' := 86) (cs' := 86) (sl' := 1571) rfl rfl rfl ?_
    refine J.eqA (M' := va_up (mm V I2 Lz) 85 (.inr (6, [.int 0, .int 0, .null, .null, .null, .null, .null, .null, .null, .null, .null, .null, .int 0, .null, .null, .null, .null, .int 0, .int 0, .null, .null, .null, .null, .null, .null]))) (fun k hk => Or.inl ?_) ?_
    · by_cases e85 : k = 85
      · subst e85; rw [va_up_self, va_up_self]
      · rw [va_up_ne _ _ e85, va_up_ne _ _ e85]
        exact mm_ne V (by unfold I2; rw [up2_n _ _ _ e85]) rfl
    refine J.dup C dL_law_11 rfl ?_
    refine J.callI0 C (ok_X6_init l V hz rfl) gL_law_X6_init rfl (by decide +kernel) (by decide +kernel) (by decide +kernel) rfl mfX6_init (by decide) (by decide) rfl (Nat.le_of_ble_eq_true rfl) dL_law_12 (Nat.le_of_ble_eq_true rfl) (Nat.le_of_ble_eq_true rfl) (fun v M' h => ?_)
    obtain ⟨rfl, rfl⟩ := h
    refine J.cnt (n' := 106) (cs' := 106) (sl' := 7121) rfl rfl rfl ?_
    refine J.astore_n (ls' := [(0, _), (1, _), (2, _)]) C dL_law_15 (by decide) rfl ?_
    refine J.iconst C dL_law_16 (v := (nI 0)) (by decide) ?_
    refine J.istore_n (ls' := [(0, _), (1, _), (2, _), (3, _)]) C dL_law_17 (by decide) rfl ?_
    refine J_flag ?_
    refine law_loop C' rfl hX hbl hB hL (fun I L' i => ?_) 513 0 I2 Lz g0 (by omega) (by omega) AbC_st AbM_st okG_st
    refine J.iconst C' dL_law_1142 (v := (nI 1)) (by decide) ?_
    intro H locs la h1 h2 h3 h4
    refine va_forget (fun q hq => ?_) (W.widen (k := 600000) (n := 7302250) (Nat.le_of_ble_eq_true rfl) (Nat.le_of_ble_eq_true rfl) (lw_retR hx hb hr hlocks dL_law_1143))
    have w : V.2.2.1 ≤ q.base := h3.2.2 q hq
    rw [hB] at w
    exact w
  exact K s.heap [] _ (fun _ => hB.symm) (fun k q h => by obtain ⟨hk, _⟩ := wl_at h; exact absurd hk (Nat.not_lt_zero k)) va_S.rf hl
