/-! THE LAW: the calls, one by one -/
set_option maxHeartbeats 4000000 in
set_option maxRecDepth 100000 in
theorem lc_14 {l : Launch} {X : Cx} {V : Vx} {Q : State → Prop} {I : Nat → Nat → Int32} {L : Nat → Nat → Int64} {g : Sg} {b Ln i : Nat} {xs : Nat → Int32} (C : CX l X V RL cL_law 4 wsL_law 20 106 7121 ret) (hz : V.2.2.2.2.2 = false) (hX : va_X b Ln xs X.2.2.2.2.1 X.2.2.2.2.1.heap) (hbl : b < X.2.2.2.2.1.heap.size) (hB : V.2.2.1 = X.2.2.2.2.1.heap.size) (hL : Ln ≤ 3072) (hi : i + 6 ≤ Ln) (hC : AbC I L g) (hM : AbM I L g) (ok : okG g)
    (NX : ∀ I' L' g', AbC I' L' g' → AbM I' L' g' → okG g' → J X V Q 4 106 106 7121 1136 [(0, .ref b), (1, .ref (ad V 0)), (2, .ref (ad V 85)), (3, .int (nI i))] [] (mm V I' L')) : J X V Q 4 106 106 7121 697 [(0, .ref b), (1, .ref (ad V 0)), (2, .ref (ad V 85)), (3, .int (nI i))] [] (mm V I L) := by
  obtain ⟨o1, hx1⟩ := AG_ex (xs (i + 1))
  obtain ⟨o2, hx2⟩ := AG_ex (xs (i + 2))
  obtain ⟨o3, hx3⟩ := AG_ex (xs (i + 3))
  refine J.aload_n C dL_law_697 rfl ?_
  refine J.aload_n C dL_law_698 rfl ?_
  refine J.iload_n C dL_law_699 rfl ?_
  refine J.iconst C dL_law_700 (v := (nI 1)) (by decide) ?_
  first | refine J.iadd_n C dL_law_701 ?_ | refine J.iadd C dL_law_701 ?_
  refine J.sld C hX hbl hB rfl (by omega) hL dL_law_702 ?_
  refine J.aload_n C dL_law_703 rfl ?_
  refine J.iload_n C dL_law_704 rfl ?_
  refine J.iconst C dL_law_705 (v := (nI 2)) (by decide) ?_
  first | refine J.iadd_n C dL_law_706 ?_ | refine J.iadd C dL_law_706 ?_
  refine J.sld C hX hbl hB rfl (by omega) hL dL_law_707 ?_
  refine J.aload_n C dL_law_708 rfl ?_
  refine J.iload_n C dL_law_709 rfl ?_
  refine J.iconst C dL_law_710 (v := (nI 3)) (by decide) ?_
  first | refine J.iadd_n C dL_law_711 ?_ | refine J.iadd C dL_law_711 ?_
  refine J.sld C hX hbl hB rfl (by omega) hL dL_law_712 ?_
  refine J.cVGi (q := (RX5, TX5, 11)) (ci := 5) C (ok_X5_order l V  _ _ hx1 hx2 hx3 hz hC ok) gL_law_X5_order rfl mfX5_order rfl (by decide) (by decide) (by first | decide | omega) rfl rfl rfl rfl (Nat.le_of_ble_eq_true rfl) dL_law_713 (Nat.le_refl _) (Nat.le_refl _) (fun r713 I713 L713 h713 => ?_)
  obtain ⟨rfl, hC1, hfr, hfl⟩ := h713
  have hM1 := AbM_cg hM hfr hfl
  refine J.aload_n C dL_law_716 rfl ?_
  refine J.aload_n C dL_law_717 rfl ?_
  refine J.iload_n C dL_law_718 rfl ?_
  refine J.iconst C dL_law_719 (v := (nI 1)) (by decide) ?_
  first | refine J.iadd_n C dL_law_720 ?_ | refine J.iadd C dL_law_720 ?_
  refine J.sld C hX hbl hB rfl (by omega) hL dL_law_721 ?_
  refine J.aload_n C dL_law_722 rfl ?_
  refine J.iload_n C dL_law_723 rfl ?_
  refine J.iconst C dL_law_724 (v := (nI 2)) (by decide) ?_
  first | refine J.iadd_n C dL_law_725 ?_ | refine J.iadd C dL_law_725 ?_
  refine J.sld C hX hbl hB rfl (by omega) hL dL_law_726 ?_
  refine J.aload_n C dL_law_727 rfl ?_
  refine J.iload_n C dL_law_728 rfl ?_
  refine J.iconst C dL_law_729 (v := (nI 3)) (by decide) ?_
  first | refine J.iadd_n C dL_law_730 ?_ | refine J.iadd C dL_law_730 ?_
  refine J.sld C hX hbl hB rfl (by omega) hL dL_law_731 ?_
  refine J.cVGi (q := (RX6, TX6, 25)) (ci := 6) C (ok_X6_order l V  _ _ hx1 hx2 hx3 hM1 ok) gL_law_X6_order rfl mfX6_order rfl (by decide) (by decide) (by first | decide | omega) rfl rfl rfl rfl (Nat.le_of_ble_eq_true rfl) dL_law_732 (Nat.le_refl _) (Nat.le_refl _) (fun r732 I732 L732 h732 => ?_)
  obtain ⟨rfl, hM2, hfr2, hfl2⟩ := h732
  have hC2 := AbC_cg hC1 hfr2 hfl2
  refine J.icmp_eq C dL_law_735 (tgt := 1136) (by decide) (fun _ => ?_) (fun c735 => absurd c735 (fun q => q rfl))
  exact NX _ _ _ hC2 hM2 (kG_order ok)
set_option maxHeartbeats 4000000 in
set_option maxRecDepth 100000 in
theorem lc_15 {l : Launch} {X : Cx} {V : Vx} {Q : State → Prop} {I : Nat → Nat → Int32} {L : Nat → Nat → Int64} {g : Sg} {b Ln i : Nat} {xs : Nat → Int32} (C : CX l X V RL cL_law 4 wsL_law 20 106 7121 ret) (hz : V.2.2.2.2.2 = false) (hX : va_X b Ln xs X.2.2.2.2.1 X.2.2.2.2.1.heap) (hbl : b < X.2.2.2.2.1.heap.size) (hB : V.2.2.1 = X.2.2.2.2.1.heap.size) (hL : Ln ≤ 3072) (hi : i + 6 ≤ Ln) (hC : AbC I L g) (hM : AbM I L g) (ok : okG g)
    (NX : ∀ I' L' g', AbC I' L' g' → AbM I' L' g' → okG g' → J X V Q 4 106 106 7121 1136 [(0, .ref b), (1, .ref (ad V 0)), (2, .ref (ad V 85)), (3, .int (nI i))] [] (mm V I' L')) : J X V Q 4 106 106 7121 740 [(0, .ref b), (1, .ref (ad V 0)), (2, .ref (ad V 85)), (3, .int (nI i))] [] (mm V I L) := by
  obtain ⟨o1, hx1⟩ := AG_ex (xs (i + 1))
  refine J.aload_n C dL_law_740 rfl ?_
  refine J.aload_n C dL_law_741 rfl ?_
  refine J.iload_n C dL_law_742 rfl ?_
  refine J.iconst C dL_law_743 (v := (nI 1)) (by decide) ?_
  first | refine J.iadd_n C dL_law_744 ?_ | refine J.iadd C dL_law_744 ?_
  refine J.sld C hX hbl hB rfl (by omega) hL dL_law_745 ?_
  refine J.cVGi (q := (RX5, TX5, 11)) (ci := 5) C (ok_X5_out l V  _ _ hx1 hz hC ok) gL_law_X5_out rfl mfX5_out rfl (by decide) (by decide) (by first | decide | omega) rfl rfl rfl rfl (Nat.le_of_ble_eq_true rfl) dL_law_746 (Nat.le_refl _) (Nat.le_refl _) (fun r746 I746 L746 h746 => ?_)
  obtain ⟨rfl, hC1, hfr, hfl⟩ := h746
  have hM1 := AbM_cg hM hfr hfl
  refine J.aload_n C dL_law_749 rfl ?_
  refine J.aload_n C dL_law_750 rfl ?_
  refine J.iload_n C dL_law_751 rfl ?_
  refine J.iconst C dL_law_752 (v := (nI 1)) (by decide) ?_
  first | refine J.iadd_n C dL_law_753 ?_ | refine J.iadd C dL_law_753 ?_
  refine J.sld C hX hbl hB rfl (by omega) hL dL_law_754 ?_
  refine J.cVDi (q := (RX6, TX6, 25)) (ci := 6) C (ok_X6_out l V  _ _ hx1 hM1.nm ok.1) gL_law_X6_out rfl mfX6_out rfl (by decide) (by decide) (by first | decide | omega) rfl rfl rfl rfl (Nat.le_of_ble_eq_true rfl) dL_law_755 (Nat.le_refl _) (Nat.le_refl _) ?_
  have hM2 := AbM_fin (b := (sp_out g.1 o1).2) hM1
  have hC2 := AbC_cg hC1 (frm_fin (b := (sp_out g.1 o1).2)) frmL_rfl
  refine J.icmp_eq C dL_law_758 (tgt := 1136) (by decide) (fun _ => ?_) (fun c758 => absurd c758 (fun q => q rfl))
  exact NX _ _ _ hC2 hM2 (kG_gX ok)
set_option maxHeartbeats 4000000 in
set_option maxRecDepth 100000 in
theorem lc_16 {l : Launch} {X : Cx} {V : Vx} {Q : State → Prop} {I : Nat → Nat → Int32} {L : Nat → Nat → Int64} {g : Sg} {b Ln i : Nat} {xs : Nat → Int32} (C : CX l X V RL cL_law 4 wsL_law 20 106 7121 ret) (hz : V.2.2.2.2.2 = false) (hX : va_X b Ln xs X.2.2.2.2.1 X.2.2.2.2.1.heap) (hbl : b < X.2.2.2.2.1.heap.size) (hB : V.2.2.1 = X.2.2.2.2.1.heap.size) (hL : Ln ≤ 3072) (hi : i + 6 ≤ Ln) (hC : AbC I L g) (hM : AbM I L g) (ok : okG g)
    (NX : ∀ I' L' g', AbC I' L' g' → AbM I' L' g' → okG g' → J X V Q 4 106 106 7121 1136 [(0, .ref b), (1, .ref (ad V 0)), (2, .ref (ad V 85)), (3, .int (nI i))] [] (mm V I' L')) : J X V Q 4 106 106 7121 763 [(0, .ref b), (1, .ref (ad V 0)), (2, .ref (ad V 85)), (3, .int (nI i))] [] (mm V I L) := by
  refine J.aload_n C dL_law_763 rfl ?_
  refine J.cVGi (q := (RX5, TX5, 11)) (ci := 5) C (ok_X5_sorts l V  _ _  hz hC ok) gL_law_X5_sorts rfl mfX5_sorts rfl (by decide) (by decide) (by first | decide | omega) rfl rfl rfl rfl (Nat.le_of_ble_eq_true rfl) dL_law_764 (Nat.le_refl _) (Nat.le_refl _) (fun r764 I764 L764 h764 => ?_)
  obtain ⟨rfl, hC1, hfr, hfl⟩ := h764
  have hM1 := AbM_cg hM hfr hfl
  refine J.aload_n C dL_law_767 rfl ?_
  refine J.cVDi (q := (RX6, TX6, 25)) (ci := 6) C (ok_X6_sorts l V _ _ hM1.nm ok.1) gL_law_X6_sorts rfl mfX6_sorts rfl (by decide) (by decide) (by first | decide | omega) rfl rfl rfl rfl (Nat.le_of_ble_eq_true rfl) dL_law_768 (Nat.le_refl _) (Nat.le_refl _) ?_
  have hM2 := hM1
  have hC2 := hC1
  refine J.icmp_eq C dL_law_771 (tgt := 1136) (by decide) (fun _ => ?_) (fun c771 => absurd c771 (fun q => q rfl))
  exact NX _ _ _ hC2 hM2 ok
set_option maxHeartbeats 4000000 in
set_option maxRecDepth 100000 in
theorem lc_17 {l : Launch} {X : Cx} {V : Vx} {Q : State → Prop} {I : Nat → Nat → Int32} {L : Nat → Nat → Int64} {g : Sg} {b Ln i : Nat} {xs : Nat → Int32} (C : CX l X V RL cL_law 4 wsL_law 20 106 7121 ret) (hz : V.2.2.2.2.2 = false) (hX : va_X b Ln xs X.2.2.2.2.1 X.2.2.2.2.1.heap) (hbl : b < X.2.2.2.2.1.heap.size) (hB : V.2.2.1 = X.2.2.2.2.1.heap.size) (hL : Ln ≤ 3072) (hi : i + 6 ≤ Ln) (hC : AbC I L g) (hM : AbM I L g) (ok : okG g)
    (NX : ∀ I' L' g', AbC I' L' g' → AbM I' L' g' → okG g' → J X V Q 4 106 106 7121 1136 [(0, .ref b), (1, .ref (ad V 0)), (2, .ref (ad V 85)), (3, .int (nI i))] [] (mm V I' L')) : J X V Q 4 106 106 7121 776 [(0, .ref b), (1, .ref (ad V 0)), (2, .ref (ad V 85)), (3, .int (nI i))] [] (mm V I L) := by
  by_cases hq : xs (i + 1) = 0
  · refine J.aload_n C dL_law_776 rfl ?_
    refine J.aload_n C dL_law_777 rfl ?_
    refine J.iload_n C dL_law_778 rfl ?_
    refine J.iconst C dL_law_779 (v := (nI 1)) (by decide) ?_
    first | refine J.iadd_n C dL_law_780 ?_ | refine J.iadd C dL_law_780 ?_
    refine J.sld C hX hbl hB rfl (by omega) hL dL_law_781 ?_
    refine J.if_eq C dL_law_782 (tgt := 789) (by decide) (fun _ => ?_) (fun c782 => absurd c782 (fun q => q hq))
    refine J.iconst C dL_law_789 (v := (nI 0)) (by decide) ?_
    refine J.cVGi (q := (RX5, TX5, 11)) (ci := 5) C (ok_X5_fails l V false _ _  hz hC ok) gL_law_X5_fails rfl mfX5_fails rfl (by decide) (by decide) (by first | decide | omega) rfl rfl rfl rfl (Nat.le_of_ble_eq_true rfl) dL_law_790 (Nat.le_refl _) (Nat.le_refl _) (fun r790 I790 L790 h790 => ?_)
    obtain ⟨rfl, hC1, hfr, hfl⟩ := h790
    have hM1 := AbM_cg hM hfr hfl
    refine J.aload_n C dL_law_793 rfl ?_
    refine J.aload_n C dL_law_794 rfl ?_
    refine J.iload_n C dL_law_795 rfl ?_
    refine J.iconst C dL_law_796 (v := (nI 1)) (by decide) ?_
    first | refine J.iadd_n C dL_law_797 ?_ | refine J.iadd C dL_law_797 ?_
    refine J.sld C hX hbl hB rfl (by omega) hL dL_law_798 ?_
    refine J.if_eq C dL_law_799 (tgt := 806) (by decide) (fun _ => ?_) (fun c799 => absurd c799 (fun q => q hq))
    refine J.iconst C dL_law_806 (v := (nI 0)) (by decide) ?_
    refine J.cVDi (q := (RX6, TX6, 25)) (ci := 6) C (ok_X6_fails l V false _ _  hM1.nm ok.1) gL_law_X6_fails rfl mfX6_fails rfl (by decide) (by decide) (by first | decide | omega) rfl rfl rfl rfl (Nat.le_of_ble_eq_true rfl) dL_law_807 (Nat.le_refl _) (Nat.le_refl _) ?_
    have hM2 := AbM_fin (b := (sp_fails g.1 false).2) hM1
    have hC2 := AbC_cg hC1 (frm_fin (b := (sp_fails g.1 false).2)) frmL_rfl
    refine J.icmp_eq C dL_law_810 (tgt := 1136) (by decide) (fun _ => ?_) (fun c810 => absurd c810 (fun q => q rfl))
    exact NX _ _ _ hC2 hM2 (kG_gX ok)
  · refine J.aload_n C dL_law_776 rfl ?_
    refine J.aload_n C dL_law_777 rfl ?_
    refine J.iload_n C dL_law_778 rfl ?_
    refine J.iconst C dL_law_779 (v := (nI 1)) (by decide) ?_
    first | refine J.iadd_n C dL_law_780 ?_ | refine J.iadd C dL_law_780 ?_
    refine J.sld C hX hbl hB rfl (by omega) hL dL_law_781 ?_
    refine J.if_eq C dL_law_782 (tgt := 789) (by decide) (fun c782 => absurd c782 hq) (fun _ => ?_)
    refine J.iconst C dL_law_785 (v := (nI 1)) (by decide) ?_
    refine J.goto C dL_law_786 (tgt := 790) (by decide) ?_
    refine J.cVGi (q := (RX5, TX5, 11)) (ci := 5) C (ok_X5_fails l V true _ _  hz hC ok) gL_law_X5_fails rfl mfX5_fails rfl (by decide) (by decide) (by first | decide | omega) rfl rfl rfl rfl (Nat.le_of_ble_eq_true rfl) dL_law_790 (Nat.le_refl _) (Nat.le_refl _) (fun r790 I790 L790 h790 => ?_)
    obtain ⟨rfl, hC1, hfr, hfl⟩ := h790
    have hM1 := AbM_cg hM hfr hfl
    refine J.aload_n C dL_law_793 rfl ?_
    refine J.aload_n C dL_law_794 rfl ?_
    refine J.iload_n C dL_law_795 rfl ?_
    refine J.iconst C dL_law_796 (v := (nI 1)) (by decide) ?_
    first | refine J.iadd_n C dL_law_797 ?_ | refine J.iadd C dL_law_797 ?_
    refine J.sld C hX hbl hB rfl (by omega) hL dL_law_798 ?_
    refine J.if_eq C dL_law_799 (tgt := 806) (by decide) (fun c799 => absurd c799 hq) (fun _ => ?_)
    refine J.iconst C dL_law_802 (v := (nI 1)) (by decide) ?_
    refine J.goto C dL_law_803 (tgt := 807) (by decide) ?_
    refine J.cVDi (q := (RX6, TX6, 25)) (ci := 6) C (ok_X6_fails l V true _ _  hM1.nm ok.1) gL_law_X6_fails rfl mfX6_fails rfl (by decide) (by decide) (by first | decide | omega) rfl rfl rfl rfl (Nat.le_of_ble_eq_true rfl) dL_law_807 (Nat.le_refl _) (Nat.le_refl _) ?_
    have hM2 := AbM_fin (b := (sp_fails g.1 true).2) hM1
    have hC2 := AbC_cg hC1 (frm_fin (b := (sp_fails g.1 true).2)) frmL_rfl
    refine J.icmp_eq C dL_law_810 (tgt := 1136) (by decide) (fun _ => ?_) (fun c810 => absurd c810 (fun q => q rfl))
    exact NX _ _ _ hC2 hM2 (kG_gX ok)
set_option maxHeartbeats 4000000 in
set_option maxRecDepth 100000 in
theorem lc_18 {l : Launch} {X : Cx} {V : Vx} {Q : State → Prop} {I : Nat → Nat → Int32} {L : Nat → Nat → Int64} {g : Sg} {b Ln i : Nat} {xs : Nat → Int32} (C : CX l X V RL cL_law 4 wsL_law 20 106 7121 ret) (hz : V.2.2.2.2.2 = false) (hX : va_X b Ln xs X.2.2.2.2.1 X.2.2.2.2.1.heap) (hbl : b < X.2.2.2.2.1.heap.size) (hB : V.2.2.1 = X.2.2.2.2.1.heap.size) (hL : Ln ≤ 3072) (hi : i + 6 ≤ Ln) (hC : AbC I L g) (hM : AbM I L g) (ok : okG g)
    (NX : ∀ I' L' g', AbC I' L' g' → AbM I' L' g' → okG g' → J X V Q 4 106 106 7121 1136 [(0, .ref b), (1, .ref (ad V 0)), (2, .ref (ad V 85)), (3, .int (nI i))] [] (mm V I' L')) : J X V Q 4 106 106 7121 815 [(0, .ref b), (1, .ref (ad V 0)), (2, .ref (ad V 85)), (3, .int (nI i))] [] (mm V I L) := by
  obtain ⟨o1, hx1⟩ := AG_ex (xs (i + 1))
  refine J.aload_n C dL_law_815 rfl ?_
  refine J.aload_n C dL_law_816 rfl ?_
  refine J.iload_n C dL_law_817 rfl ?_
  refine J.iconst C dL_law_818 (v := (nI 1)) (by decide) ?_
  first | refine J.iadd_n C dL_law_819 ?_ | refine J.iadd C dL_law_819 ?_
  refine J.sld C hX hbl hB rfl (by omega) hL dL_law_820 ?_
  refine J.cVGi (q := (RX5, TX5, 11)) (ci := 5) C (ok_X5_merges l V  _ _ hx1 hz hC ok) gL_law_X5_merges rfl mfX5_merges rfl (by decide) (by decide) (by first | decide | omega) rfl rfl rfl rfl (Nat.le_of_ble_eq_true rfl) dL_law_821 (Nat.le_refl _) (Nat.le_refl _) (fun r821 I821 L821 h821 => ?_)
  obtain ⟨rfl, hC1, hfr, hfl⟩ := h821
  have hM1 := AbM_cg hM hfr hfl
  refine J.aload_n C dL_law_824 rfl ?_
  refine J.aload_n C dL_law_825 rfl ?_
  refine J.iload_n C dL_law_826 rfl ?_
  refine J.iconst C dL_law_827 (v := (nI 1)) (by decide) ?_
  first | refine J.iadd_n C dL_law_828 ?_ | refine J.iadd C dL_law_828 ?_
  refine J.sld C hX hbl hB rfl (by omega) hL dL_law_829 ?_
  refine J.cVDi (q := (RX6, TX6, 25)) (ci := 6) C (ok_X6_merges l V  _ _ hx1 hM1.nm ok.1) gL_law_X6_merges rfl mfX6_merges rfl (by decide) (by decide) (by first | decide | omega) rfl rfl rfl rfl (Nat.le_of_ble_eq_true rfl) dL_law_830 (Nat.le_refl _) (Nat.le_refl _) ?_
  have hM2 := AbM_fin (b := (sp_merges g.1 o1).2) hM1
  have hC2 := AbC_cg hC1 (frm_fin (b := (sp_merges g.1 o1).2)) frmL_rfl
  refine J.icmp_eq C dL_law_833 (tgt := 1136) (by decide) (fun _ => ?_) (fun c833 => absurd c833 (fun q => q rfl))
  exact NX _ _ _ hC2 hM2 (kG_gX ok)
set_option maxHeartbeats 4000000 in
set_option maxRecDepth 100000 in
theorem lc_19 {l : Launch} {X : Cx} {V : Vx} {Q : State → Prop} {I : Nat → Nat → Int32} {L : Nat → Nat → Int64} {g : Sg} {b Ln i : Nat} {xs : Nat → Int32} (C : CX l X V RL cL_law 4 wsL_law 20 106 7121 ret) (hz : V.2.2.2.2.2 = false) (hX : va_X b Ln xs X.2.2.2.2.1 X.2.2.2.2.1.heap) (hbl : b < X.2.2.2.2.1.heap.size) (hB : V.2.2.1 = X.2.2.2.2.1.heap.size) (hL : Ln ≤ 3072) (hi : i + 6 ≤ Ln) (hC : AbC I L g) (hM : AbM I L g) (ok : okG g)
    (NX : ∀ I' L' g', AbC I' L' g' → AbM I' L' g' → okG g' → J X V Q 4 106 106 7121 1136 [(0, .ref b), (1, .ref (ad V 0)), (2, .ref (ad V 85)), (3, .int (nI i))] [] (mm V I' L')) : J X V Q 4 106 106 7121 838 [(0, .ref b), (1, .ref (ad V 0)), (2, .ref (ad V 85)), (3, .int (nI i))] [] (mm V I L) := by
  obtain ⟨o1, hx1⟩ := AG_ex (xs (i + 1))
  refine J.aload_n C dL_law_838 rfl ?_
  refine J.aload_n C dL_law_839 rfl ?_
  refine J.iload_n C dL_law_840 rfl ?_
  refine J.iconst C dL_law_841 (v := (nI 1)) (by decide) ?_
  first | refine J.iadd_n C dL_law_842 ?_ | refine J.iadd C dL_law_842 ?_
  refine J.sld C hX hbl hB rfl (by omega) hL dL_law_843 ?_
  refine J.cVGi (q := (RX5, TX5, 11)) (ci := 5) C (ok_X5_idle l V  _ _ hx1 hz hC ok) gL_law_X5_idle rfl mfX5_idle rfl (by decide) (by decide) (by first | decide | omega) rfl rfl rfl rfl (Nat.le_of_ble_eq_true rfl) dL_law_844 (Nat.le_refl _) (Nat.le_refl _) (fun r844 I844 L844 h844 => ?_)
  obtain ⟨rfl, hC1, hfr, hfl⟩ := h844
  have hM1 := AbM_cg hM hfr hfl
  refine J.aload_n C dL_law_847 rfl ?_
  refine J.aload_n C dL_law_848 rfl ?_
  refine J.iload_n C dL_law_849 rfl ?_
  refine J.iconst C dL_law_850 (v := (nI 1)) (by decide) ?_
  first | refine J.iadd_n C dL_law_851 ?_ | refine J.iadd C dL_law_851 ?_
  refine J.sld C hX hbl hB rfl (by omega) hL dL_law_852 ?_
  refine J.cVDi (q := (RX6, TX6, 25)) (ci := 6) C (ok_X6_idle l V  _ _ hx1 hM1.nm ok.1) gL_law_X6_idle rfl mfX6_idle rfl (by decide) (by decide) (by first | decide | omega) rfl rfl rfl rfl (Nat.le_of_ble_eq_true rfl) dL_law_853 (Nat.le_refl _) (Nat.le_refl _) ?_
  have hM2 := AbM_fin (b := (sp_idle g.1 o1).2) hM1
  have hC2 := AbC_cg hC1 (frm_fin (b := (sp_idle g.1 o1).2)) frmL_rfl
  refine J.icmp_eq C dL_law_856 (tgt := 1136) (by decide) (fun _ => ?_) (fun c856 => absurd c856 (fun q => q rfl))
  exact NX _ _ _ hC2 hM2 (kG_gX ok)
set_option maxHeartbeats 4000000 in
set_option maxRecDepth 100000 in
theorem lc_20 {l : Launch} {X : Cx} {V : Vx} {Q : State → Prop} {I : Nat → Nat → Int32} {L : Nat → Nat → Int64} {g : Sg} {b Ln i : Nat} {xs : Nat → Int32} (C : CX l X V RL cL_law 4 wsL_law 20 106 7121 ret) (hz : V.2.2.2.2.2 = false) (hX : va_X b Ln xs X.2.2.2.2.1 X.2.2.2.2.1.heap) (hbl : b < X.2.2.2.2.1.heap.size) (hB : V.2.2.1 = X.2.2.2.2.1.heap.size) (hL : Ln ≤ 3072) (hi : i + 6 ≤ Ln) (hC : AbC I L g) (hM : AbM I L g) (ok : okG g)
    (NX : ∀ I' L' g', AbC I' L' g' → AbM I' L' g' → okG g' → J X V Q 4 106 106 7121 1136 [(0, .ref b), (1, .ref (ad V 0)), (2, .ref (ad V 85)), (3, .int (nI i))] [] (mm V I' L')) : J X V Q 4 106 106 7121 861 [(0, .ref b), (1, .ref (ad V 0)), (2, .ref (ad V 85)), (3, .int (nI i))] [] (mm V I L) := by
  refine J.aload_n C dL_law_861 rfl ?_
  refine J.cVGi (q := (RX5, TX5, 11)) (ci := 5) C (ok_X5_drop l V  _ _  hz hC ok) gL_law_X5_drop rfl mfX5_drop rfl (by decide) (by decide) (by first | decide | omega) rfl rfl rfl rfl (Nat.le_of_ble_eq_true rfl) dL_law_862 (Nat.le_refl _) (Nat.le_refl _) (fun r862 I862 L862 h862 => ?_)
  obtain ⟨rfl, hC1, hfr, hfl⟩ := h862
  have hM1 := AbM_cg hM hfr hfl
  refine J.aload_n C dL_law_865 rfl ?_
  refine J.cVGi (q := (RX6, TX6, 25)) (ci := 6) C (ok_X6_drop l V  _ _  hM1 ok) gL_law_X6_drop rfl mfX6_drop rfl (by decide) (by decide) (by first | decide | omega) rfl rfl rfl rfl (Nat.le_of_ble_eq_true rfl) dL_law_866 (Nat.le_refl _) (Nat.le_refl _) (fun r866 I866 L866 h866 => ?_)
  obtain ⟨rfl, hM2, hfr2, hfl2⟩ := h866
  have hC2 := AbC_cg hC1 hfr2 hfl2
  refine J.icmp_eq C dL_law_869 (tgt := 1136) (by decide) (fun _ => ?_) (fun c869 => absurd c869 (fun q => q rfl))
  exact NX _ _ _ hC2 hM2 (kG_drop ok)
