/-! THE LAW: the calls, one by one -/
set_option maxHeartbeats 4000000 in
set_option maxRecDepth 100000 in
theorem lc_21 {l : Launch} {X : Cx} {V : Vx} {Q : State → Prop} {I : Nat → Nat → Int32} {L : Nat → Nat → Int64} {g : Sg} {b Ln i : Nat} {xs : Nat → Int32} (C : CX l X V RL cL_law 4 wsL_law 20 106 7121 ret) (hz : V.2.2.2.2.2 = false) (hX : va_X b Ln xs X.2.2.2.2.1 X.2.2.2.2.1.heap) (hbl : b < X.2.2.2.2.1.heap.size) (hB : V.2.2.1 = X.2.2.2.2.1.heap.size) (hL : Ln ≤ 3072) (hi : i + 6 ≤ Ln) (hC : AbC I L g) (hM : AbM I L g) (ok : okG g)
    (NX : ∀ I' L' g', AbC I' L' g' → AbM I' L' g' → okG g' → J X V Q 4 106 106 7121 1136 [(0, .ref b), (1, .ref (ad V 0)), (2, .ref (ad V 85)), (3, .int (nI i))] [] (mm V I' L')) : J X V Q 4 106 106 7121 874 [(0, .ref b), (1, .ref (ad V 0)), (2, .ref (ad V 85)), (3, .int (nI i))] [] (mm V I L) := by
  refine J.aload_n C dL_law_874 rfl ?_
  refine J.cVGi (q := (RX5, TX5, 11)) (ci := 5) C (ok_X5_turn l V  _ _  hz hC ok) gL_law_X5_turn rfl mfX5_turn rfl (by decide) (by decide) (by first | decide | omega) rfl rfl rfl rfl (Nat.le_of_ble_eq_true rfl) dL_law_875 (Nat.le_refl _) (Nat.le_refl _) (fun r875 I875 L875 h875 => ?_)
  obtain ⟨rfl, hC1, hfr, hfl⟩ := h875
  have hM1 := AbM_cg hM hfr hfl
  refine J.aload_n C dL_law_878 rfl ?_
  refine J.cVGi (q := (RX6, TX6, 25)) (ci := 6) C (ok_X6_turn l V  _ _  hM1 ok) gL_law_X6_turn rfl mfX6_turn rfl (by decide) (by decide) (by first | decide | omega) rfl rfl rfl rfl (Nat.le_of_ble_eq_true rfl) dL_law_879 (Nat.le_refl _) (Nat.le_refl _) (fun r879 I879 L879 h879 => ?_)
  obtain ⟨rfl, hM2, hfr2, hfl2⟩ := h879
  have hC2 := AbC_cg hC1 hfr2 hfl2
  refine J.icmp_eq C dL_law_882 (tgt := 1136) (by decide) (fun _ => ?_) (fun c882 => absurd c882 (fun q => q rfl))
  exact NX _ _ _ hC2 hM2 (kG_turn ok)
set_option maxHeartbeats 4000000 in
set_option maxRecDepth 100000 in
theorem lc_22 {l : Launch} {X : Cx} {V : Vx} {Q : State → Prop} {I : Nat → Nat → Int32} {L : Nat → Nat → Int64} {g : Sg} {b Ln i : Nat} {xs : Nat → Int32} (C : CX l X V RL cL_law 4 wsL_law 20 106 7121 ret) (hz : V.2.2.2.2.2 = false) (hX : va_X b Ln xs X.2.2.2.2.1 X.2.2.2.2.1.heap) (hbl : b < X.2.2.2.2.1.heap.size) (hB : V.2.2.1 = X.2.2.2.2.1.heap.size) (hL : Ln ≤ 3072) (hi : i + 6 ≤ Ln) (hC : AbC I L g) (hM : AbM I L g) (ok : okG g)
    (NX : ∀ I' L' g', AbC I' L' g' → AbM I' L' g' → okG g' → J X V Q 4 106 106 7121 1136 [(0, .ref b), (1, .ref (ad V 0)), (2, .ref (ad V 85)), (3, .int (nI i))] [] (mm V I' L')) : J X V Q 4 106 106 7121 887 [(0, .ref b), (1, .ref (ad V 0)), (2, .ref (ad V 85)), (3, .int (nI i))] [] (mm V I L) := by
  refine J.aload_n C dL_law_887 rfl ?_
  refine J.cVGi (q := (RX5, TX5, 11)) (ci := 5) C (ok_X5_mirror l V  _ _  hz hC ok) gL_law_X5_mirror rfl mfX5_mirror rfl (by decide) (by decide) (by first | decide | omega) rfl rfl rfl rfl (Nat.le_of_ble_eq_true rfl) dL_law_888 (Nat.le_refl _) (Nat.le_refl _) (fun r888 I888 L888 h888 => ?_)
  obtain ⟨rfl, hC1, hfr, hfl⟩ := h888
  have hM1 := AbM_cg hM hfr hfl
  refine J.aload_n C dL_law_891 rfl ?_
  refine J.cVGi (q := (RX6, TX6, 25)) (ci := 6) C (ok_X6_mirror l V  _ _  hM1 ok) gL_law_X6_mirror rfl mfX6_mirror rfl (by decide) (by decide) (by first | decide | omega) rfl rfl rfl rfl (Nat.le_of_ble_eq_true rfl) dL_law_892 (Nat.le_refl _) (Nat.le_refl _) (fun r892 I892 L892 h892 => ?_)
  obtain ⟨rfl, hM2, hfr2, hfl2⟩ := h892
  have hC2 := AbC_cg hC1 hfr2 hfl2
  refine J.icmp_eq C dL_law_895 (tgt := 1136) (by decide) (fun _ => ?_) (fun c895 => absurd c895 (fun q => q rfl))
  exact NX _ _ _ hC2 hM2 (kG_mirror ok)
set_option maxHeartbeats 4000000 in
set_option maxRecDepth 100000 in
theorem lc_23 {l : Launch} {X : Cx} {V : Vx} {Q : State → Prop} {I : Nat → Nat → Int32} {L : Nat → Nat → Int64} {g : Sg} {b Ln i : Nat} {xs : Nat → Int32} (C : CX l X V RL cL_law 4 wsL_law 20 106 7121 ret) (hz : V.2.2.2.2.2 = false) (hX : va_X b Ln xs X.2.2.2.2.1 X.2.2.2.2.1.heap) (hbl : b < X.2.2.2.2.1.heap.size) (hB : V.2.2.1 = X.2.2.2.2.1.heap.size) (hL : Ln ≤ 3072) (hi : i + 6 ≤ Ln) (hC : AbC I L g) (hM : AbM I L g) (ok : okG g)
    (NX : ∀ I' L' g', AbC I' L' g' → AbM I' L' g' → okG g' → J X V Q 4 106 106 7121 1136 [(0, .ref b), (1, .ref (ad V 0)), (2, .ref (ad V 85)), (3, .int (nI i))] [] (mm V I' L')) : J X V Q 4 106 106 7121 900 [(0, .ref b), (1, .ref (ad V 0)), (2, .ref (ad V 85)), (3, .int (nI i))] [] (mm V I L) := by
  refine J.aload_n C dL_law_900 rfl ?_
  refine J.cVGi (q := (RX5, TX5, 11)) (ci := 5) C (ok_X5_missing l V  _ _  hz hC ok) gL_law_X5_missing rfl mfX5_missing rfl (by decide) (by decide) (by first | decide | omega) rfl rfl rfl rfl (Nat.le_of_ble_eq_true rfl) dL_law_901 (Nat.le_refl _) (Nat.le_refl _) (fun r901 I901 L901 h901 => ?_)
  obtain ⟨rfl, hC1, hfr, hfl⟩ := h901
  have hM1 := AbM_cg hM hfr hfl
  refine J.aload_n C dL_law_904 rfl ?_
  refine J.cVGi (q := (RX6, TX6, 25)) (ci := 6) C (ok_X6_missing l V  _ _  hM1 ok) gL_law_X6_missing rfl mfX6_missing rfl (by decide) (by decide) (by first | decide | omega) rfl rfl rfl rfl (Nat.le_of_ble_eq_true rfl) dL_law_905 (Nat.le_refl _) (Nat.le_refl _) (fun r905 I905 L905 h905 => ?_)
  obtain ⟨rfl, hM2, hfr2, hfl2⟩ := h905
  have hC2 := AbC_cg hC1 hfr2 hfl2
  refine J.icmp_eq C dL_law_908 (tgt := 1136) (by decide) (fun _ => ?_) (fun c908 => absurd c908 (fun q => q rfl))
  exact NX _ _ _ hC2 hM2 (kG_missing ok)
set_option maxHeartbeats 4000000 in
set_option maxRecDepth 100000 in
theorem lc_24 {l : Launch} {X : Cx} {V : Vx} {Q : State → Prop} {I : Nat → Nat → Int32} {L : Nat → Nat → Int64} {g : Sg} {b Ln i : Nat} {xs : Nat → Int32} (C : CX l X V RL cL_law 4 wsL_law 20 106 7121 ret) (hz : V.2.2.2.2.2 = false) (hX : va_X b Ln xs X.2.2.2.2.1 X.2.2.2.2.1.heap) (hbl : b < X.2.2.2.2.1.heap.size) (hB : V.2.2.1 = X.2.2.2.2.1.heap.size) (hL : Ln ≤ 3072) (hi : i + 6 ≤ Ln) (hC : AbC I L g) (hM : AbM I L g) (ok : okG g)
    (NX : ∀ I' L' g', AbC I' L' g' → AbM I' L' g' → okG g' → J X V Q 4 106 106 7121 1136 [(0, .ref b), (1, .ref (ad V 0)), (2, .ref (ad V 85)), (3, .int (nI i))] [] (mm V I' L')) : J X V Q 4 106 106 7121 913 [(0, .ref b), (1, .ref (ad V 0)), (2, .ref (ad V 85)), (3, .int (nI i))] [] (mm V I L) := by
  obtain ⟨o1, hx1⟩ := AG_ex (xs (i + 1))
  refine J.aload_n C dL_law_913 rfl ?_
  refine J.aload_n C dL_law_914 rfl ?_
  refine J.iload_n C dL_law_915 rfl ?_
  refine J.iconst C dL_law_916 (v := (nI 1)) (by decide) ?_
  first | refine J.iadd_n C dL_law_917 ?_ | refine J.iadd C dL_law_917 ?_
  refine J.sld C hX hbl hB rfl (by omega) hL dL_law_918 ?_
  refine J.cVGi (q := (RX5, TX5, 11)) (ci := 5) C (ok_X5_next l V  _ _ hx1 hz hC ok) gL_law_X5_next rfl mfX5_next rfl (by decide) (by decide) (by first | decide | omega) rfl rfl rfl rfl (Nat.le_of_ble_eq_true rfl) dL_law_919 (Nat.le_refl _) (Nat.le_refl _) (fun r919 I919 L919 h919 => ?_)
  obtain ⟨rfl, hC1, hfr, hfl⟩ := h919
  have hM1 := AbM_cg hM hfr hfl
  refine J.aload_n C dL_law_922 rfl ?_
  refine J.aload_n C dL_law_923 rfl ?_
  refine J.iload_n C dL_law_924 rfl ?_
  refine J.iconst C dL_law_925 (v := (nI 1)) (by decide) ?_
  first | refine J.iadd_n C dL_law_926 ?_ | refine J.iadd C dL_law_926 ?_
  refine J.sld C hX hbl hB rfl (by omega) hL dL_law_927 ?_
  refine J.cVGi (q := (RX6, TX6, 25)) (ci := 6) C (ok_X6_next l V  _ _ hx1 hM1 ok) gL_law_X6_next rfl mfX6_next rfl (by decide) (by decide) (by first | decide | omega) rfl rfl rfl rfl (Nat.le_of_ble_eq_true rfl) dL_law_928 (Nat.le_refl _) (Nat.le_refl _) (fun r928 I928 L928 h928 => ?_)
  obtain ⟨rfl, hM2, hfr2, hfl2⟩ := h928
  have hC2 := AbC_cg hC1 hfr2 hfl2
  refine J.icmp_eq C dL_law_931 (tgt := 1136) (by decide) (fun _ => ?_) (fun c931 => absurd c931 (fun q => q rfl))
  exact NX _ _ _ hC2 hM2 (kG_next ok)
set_option maxHeartbeats 4000000 in
set_option maxRecDepth 100000 in
theorem lc_25 {l : Launch} {X : Cx} {V : Vx} {Q : State → Prop} {I : Nat → Nat → Int32} {L : Nat → Nat → Int64} {g : Sg} {b Ln i : Nat} {xs : Nat → Int32} (C : CX l X V RL cL_law 4 wsL_law 20 106 7121 ret) (hz : V.2.2.2.2.2 = false) (hX : va_X b Ln xs X.2.2.2.2.1 X.2.2.2.2.1.heap) (hbl : b < X.2.2.2.2.1.heap.size) (hB : V.2.2.1 = X.2.2.2.2.1.heap.size) (hL : Ln ≤ 3072) (hi : i + 6 ≤ Ln) (hC : AbC I L g) (hM : AbM I L g) (ok : okG g)
    (NX : ∀ I' L' g', AbC I' L' g' → AbM I' L' g' → okG g' → J X V Q 4 106 106 7121 1136 [(0, .ref b), (1, .ref (ad V 0)), (2, .ref (ad V 85)), (3, .int (nI i))] [] (mm V I' L')) : J X V Q 4 106 106 7121 936 [(0, .ref b), (1, .ref (ad V 0)), (2, .ref (ad V 85)), (3, .int (nI i))] [] (mm V I L) := by
  refine J.aload_n C dL_law_936 rfl ?_
  refine J.cVGi (q := (RX5, TX5, 11)) (ci := 5) C (ok_X5_bears l V  _ _  hz hC ok) gL_law_X5_bears rfl mfX5_bears rfl (by decide) (by decide) (by first | decide | omega) rfl rfl rfl rfl (Nat.le_of_ble_eq_true rfl) dL_law_937 (Nat.le_refl _) (Nat.le_refl _) (fun r937 I937 L937 h937 => ?_)
  obtain ⟨rfl, hC1, hfr, hfl⟩ := h937
  have hM1 := AbM_cg hM hfr hfl
  refine J.aload_n C dL_law_940 rfl ?_
  refine J.cVDi (q := (RX6, TX6, 25)) (ci := 6) C (ok_X6_bears l V _ _ hM1.nm ok.1) gL_law_X6_bears rfl mfX6_bears rfl (by decide) (by decide) (by first | decide | omega) rfl rfl rfl rfl (Nat.le_of_ble_eq_true rfl) dL_law_941 (Nat.le_refl _) (Nat.le_refl _) ?_
  have hM2 := hM1
  have hC2 := hC1
  refine J.icmp_eq C dL_law_944 (tgt := 1136) (by decide) (fun _ => ?_) (fun c944 => absurd c944 (fun q => q rfl))
  exact NX _ _ _ hC2 hM2 ok
set_option maxHeartbeats 4000000 in
set_option maxRecDepth 100000 in
theorem lc_26 {l : Launch} {X : Cx} {V : Vx} {Q : State → Prop} {I : Nat → Nat → Int32} {L : Nat → Nat → Int64} {g : Sg} {b Ln i : Nat} {xs : Nat → Int32} (C : CX l X V RL cL_law 4 wsL_law 20 106 7121 ret) (hz : V.2.2.2.2.2 = false) (hX : va_X b Ln xs X.2.2.2.2.1 X.2.2.2.2.1.heap) (hbl : b < X.2.2.2.2.1.heap.size) (hB : V.2.2.1 = X.2.2.2.2.1.heap.size) (hL : Ln ≤ 3072) (hi : i + 6 ≤ Ln) (hC : AbC I L g) (hM : AbM I L g) (ok : okG g)
    (NX : ∀ I' L' g', AbC I' L' g' → AbM I' L' g' → okG g' → J X V Q 4 106 106 7121 1136 [(0, .ref b), (1, .ref (ad V 0)), (2, .ref (ad V 85)), (3, .int (nI i))] [] (mm V I' L')) : J X V Q 4 106 106 7121 949 [(0, .ref b), (1, .ref (ad V 0)), (2, .ref (ad V 85)), (3, .int (nI i))] [] (mm V I L) := by
  obtain ⟨o1, hx1⟩ := AG_ex (xs (i + 1))
  refine J.aload_n C dL_law_949 rfl ?_
  refine J.aload_n C dL_law_950 rfl ?_
  refine J.iload_n C dL_law_951 rfl ?_
  refine J.iconst C dL_law_952 (v := (nI 1)) (by decide) ?_
  first | refine J.iadd_n C dL_law_953 ?_ | refine J.iadd C dL_law_953 ?_
  refine J.sld C hX hbl hB rfl (by omega) hL dL_law_954 ?_
  refine J.cVGi (q := (RX5, TX5, 11)) (ci := 5) C (ok_X5_weak l V  _ _ hx1 hz hC ok) gL_law_X5_weak rfl mfX5_weak rfl (by decide) (by decide) (by first | decide | omega) rfl rfl rfl rfl (Nat.le_of_ble_eq_true rfl) dL_law_955 (Nat.le_refl _) (Nat.le_refl _) (fun r955 I955 L955 h955 => ?_)
  obtain ⟨rfl, hC1, hfr, hfl⟩ := h955
  have hM1 := AbM_cg hM hfr hfl
  refine J.aload_n C dL_law_958 rfl ?_
  refine J.aload_n C dL_law_959 rfl ?_
  refine J.iload_n C dL_law_960 rfl ?_
  refine J.iconst C dL_law_961 (v := (nI 1)) (by decide) ?_
  first | refine J.iadd_n C dL_law_962 ?_ | refine J.iadd C dL_law_962 ?_
  refine J.sld C hX hbl hB rfl (by omega) hL dL_law_963 ?_
  refine J.cVDi (q := (RX6, TX6, 25)) (ci := 6) C (ok_X6_weak l V  _ _ hx1 hM1.nm ok.1) gL_law_X6_weak rfl mfX6_weak rfl (by decide) (by decide) (by first | decide | omega) rfl rfl rfl rfl (Nat.le_of_ble_eq_true rfl) dL_law_964 (Nat.le_refl _) (Nat.le_refl _) ?_
  have hM2 := AbM_fin (b := (sp_weak g.1 o1).2) hM1
  have hC2 := AbC_cg hC1 (frm_fin (b := (sp_weak g.1 o1).2)) frmL_rfl
  refine J.icmp_eq C dL_law_967 (tgt := 1136) (by decide) (fun _ => ?_) (fun c967 => absurd c967 (fun q => q rfl))
  exact NX _ _ _ hC2 hM2 (kG_gX ok)
set_option maxHeartbeats 4000000 in
set_option maxRecDepth 100000 in
theorem lc_27 {l : Launch} {X : Cx} {V : Vx} {Q : State → Prop} {I : Nat → Nat → Int32} {L : Nat → Nat → Int64} {g : Sg} {b Ln i : Nat} {xs : Nat → Int32} (C : CX l X V RL cL_law 4 wsL_law 20 106 7121 ret) (hz : V.2.2.2.2.2 = false) (hX : va_X b Ln xs X.2.2.2.2.1 X.2.2.2.2.1.heap) (hbl : b < X.2.2.2.2.1.heap.size) (hB : V.2.2.1 = X.2.2.2.2.1.heap.size) (hL : Ln ≤ 3072) (hi : i + 6 ≤ Ln) (hC : AbC I L g) (hM : AbM I L g) (ok : okG g)
    (NX : ∀ I' L' g', AbC I' L' g' → AbM I' L' g' → okG g' → J X V Q 4 106 106 7121 1136 [(0, .ref b), (1, .ref (ad V 0)), (2, .ref (ad V 85)), (3, .int (nI i))] [] (mm V I' L')) : J X V Q 4 106 106 7121 972 [(0, .ref b), (1, .ref (ad V 0)), (2, .ref (ad V 85)), (3, .int (nI i))] [] (mm V I L) := by
  obtain ⟨o1, hx1⟩ := AG_ex (xs (i + 1))
  refine J.aload_n C dL_law_972 rfl ?_
  refine J.aload_n C dL_law_973 rfl ?_
  refine J.iload_n C dL_law_974 rfl ?_
  refine J.iconst C dL_law_975 (v := (nI 1)) (by decide) ?_
  first | refine J.iadd_n C dL_law_976 ?_ | refine J.iadd C dL_law_976 ?_
  refine J.sld C hX hbl hB rfl (by omega) hL dL_law_977 ?_
  refine J.cVGi (q := (RX5, TX5, 11)) (ci := 5) C (ok_X5_keep l V  _ _ hx1 hz hC ok) gL_law_X5_keep rfl mfX5_keep rfl (by decide) (by decide) (by first | decide | omega) rfl rfl rfl rfl (Nat.le_of_ble_eq_true rfl) dL_law_978 (Nat.le_refl _) (Nat.le_refl _) (fun r978 I978 L978 h978 => ?_)
  obtain ⟨rfl, hC1, hfr, hfl⟩ := h978
  have hM1 := AbM_cg hM hfr hfl
  refine J.aload_n C dL_law_981 rfl ?_
  refine J.aload_n C dL_law_982 rfl ?_
  refine J.iload_n C dL_law_983 rfl ?_
  refine J.iconst C dL_law_984 (v := (nI 1)) (by decide) ?_
  first | refine J.iadd_n C dL_law_985 ?_ | refine J.iadd C dL_law_985 ?_
  refine J.sld C hX hbl hB rfl (by omega) hL dL_law_986 ?_
  refine J.cVGi (q := (RX6, TX6, 25)) (ci := 6) C (ok_X6_keep l V  _ _ hx1 hM1 ok) gL_law_X6_keep rfl mfX6_keep rfl (by decide) (by decide) (by first | decide | omega) rfl rfl rfl rfl (Nat.le_of_ble_eq_true rfl) dL_law_987 (Nat.le_refl _) (Nat.le_refl _) (fun r987 I987 L987 h987 => ?_)
  obtain ⟨rfl, hM2, hfr2, hfl2⟩ := h987
  have hC2 := AbC_cg hC1 hfr2 hfl2
  refine J.icmp_eq C dL_law_990 (tgt := 1136) (by decide) (fun _ => ?_) (fun c990 => absurd c990 (fun q => q rfl))
  exact NX _ _ _ hC2 hM2 (kG_keep ok)
