/-! THE LAW: the calls, one by one -/
set_option maxHeartbeats 4000000 in
set_option maxRecDepth 100000 in
theorem lc_28 {l : Launch} {X : Cx} {V : Vx} {Q : State → Prop} {I : Nat → Nat → Int32} {L : Nat → Nat → Int64} {g : Sg} {b Ln i : Nat} {xs : Nat → Int32} (C : CX l X V RL cL_law 4 wsL_law 20 106 7121 ret) (hz : V.2.2.2.2.2 = false) (hX : va_X b Ln xs X.2.2.2.2.1 X.2.2.2.2.1.heap) (hbl : b < X.2.2.2.2.1.heap.size) (hB : V.2.2.1 = X.2.2.2.2.1.heap.size) (hL : Ln ≤ 3072) (hi : i + 6 ≤ Ln) (hC : AbC I L g) (hM : AbM I L g) (ok : okG g)
    (NX : ∀ I' L' g', AbC I' L' g' → AbM I' L' g' → okG g' → J X V Q 4 106 106 7121 1136 [(0, .ref b), (1, .ref (ad V 0)), (2, .ref (ad V 85)), (3, .int (nI i))] [] (mm V I' L')) : J X V Q 4 106 106 7121 995 [(0, .ref b), (1, .ref (ad V 0)), (2, .ref (ad V 85)), (3, .int (nI i))] [] (mm V I L) := by
  obtain ⟨o1, hx1⟩ := AG_ex (xs (i + 1))
  refine J.aload_n C dL_law_995 rfl ?_
  refine J.aload_n C dL_law_996 rfl ?_
  refine J.iload_n C dL_law_997 rfl ?_
  refine J.iconst C dL_law_998 (v := (nI 1)) (by decide) ?_
  first | refine J.iadd_n C dL_law_999 ?_ | refine J.iadd C dL_law_999 ?_
  refine J.sld C hX hbl hB rfl (by omega) hL dL_law_1000 ?_
  refine J.cVGi (q := (RX5, TX5, 11)) (ci := 5) C (ok_X5_bring l V  _ _ hx1 hz hC ok) gL_law_X5_bring rfl mfX5_bring rfl (by decide) (by decide) (by first | decide | omega) rfl rfl rfl rfl (Nat.le_of_ble_eq_true rfl) dL_law_1001 (Nat.le_refl _) (Nat.le_refl _) (fun r1001 I1001 L1001 h1001 => ?_)
  obtain ⟨rfl, hC1, hfr, hfl⟩ := h1001
  have hM1 := AbM_cg hM hfr hfl
  refine J.aload_n C dL_law_1004 rfl ?_
  refine J.aload_n C dL_law_1005 rfl ?_
  refine J.iload_n C dL_law_1006 rfl ?_
  refine J.iconst C dL_law_1007 (v := (nI 1)) (by decide) ?_
  first | refine J.iadd_n C dL_law_1008 ?_ | refine J.iadd C dL_law_1008 ?_
  refine J.sld C hX hbl hB rfl (by omega) hL dL_law_1009 ?_
  refine J.cVGi (q := (RX6, TX6, 25)) (ci := 6) C (ok_X6_bring l V  _ _ hx1 hM1 ok) gL_law_X6_bring rfl mfX6_bring rfl (by decide) (by decide) (by first | decide | omega) rfl rfl rfl rfl (Nat.le_of_ble_eq_true rfl) dL_law_1010 (Nat.le_refl _) (Nat.le_refl _) (fun r1010 I1010 L1010 h1010 => ?_)
  obtain ⟨rfl, hM2, hfr2, hfl2⟩ := h1010
  have hC2 := AbC_cg hC1 hfr2 hfl2
  refine J.icmp_eq C dL_law_1013 (tgt := 1136) (by decide) (fun _ => ?_) (fun c1013 => absurd c1013 (fun q => q rfl))
  exact NX _ _ _ hC2 hM2 (kG_bring ok)
set_option maxHeartbeats 4000000 in
set_option maxRecDepth 100000 in
theorem lc_29 {l : Launch} {X : Cx} {V : Vx} {Q : State → Prop} {I : Nat → Nat → Int32} {L : Nat → Nat → Int64} {g : Sg} {b Ln i : Nat} {xs : Nat → Int32} (C : CX l X V RL cL_law 4 wsL_law 20 106 7121 ret) (hz : V.2.2.2.2.2 = false) (hX : va_X b Ln xs X.2.2.2.2.1 X.2.2.2.2.1.heap) (hbl : b < X.2.2.2.2.1.heap.size) (hB : V.2.2.1 = X.2.2.2.2.1.heap.size) (hL : Ln ≤ 3072) (hi : i + 6 ≤ Ln) (hC : AbC I L g) (hM : AbM I L g) (ok : okG g)
    (NX : ∀ I' L' g', AbC I' L' g' → AbM I' L' g' → okG g' → J X V Q 4 106 106 7121 1136 [(0, .ref b), (1, .ref (ad V 0)), (2, .ref (ad V 85)), (3, .int (nI i))] [] (mm V I' L')) : J X V Q 4 106 106 7121 1018 [(0, .ref b), (1, .ref (ad V 0)), (2, .ref (ad V 85)), (3, .int (nI i))] [] (mm V I L) := by
  obtain ⟨o1, hx1⟩ := AG_ex (xs (i + 1))
  refine J.aload_n C dL_law_1018 rfl ?_
  refine J.aload_n C dL_law_1019 rfl ?_
  refine J.iload_n C dL_law_1020 rfl ?_
  refine J.iconst C dL_law_1021 (v := (nI 1)) (by decide) ?_
  first | refine J.iadd_n C dL_law_1022 ?_ | refine J.iadd C dL_law_1022 ?_
  refine J.sld C hX hbl hB rfl (by omega) hL dL_law_1023 ?_
  refine J.cVGi (q := (RX5, TX5, 11)) (ci := 5) C (ok_X5_follow l V  _ _ hx1 hz hC ok) gL_law_X5_follow rfl mfX5_follow rfl (by decide) (by decide) (by first | decide | omega) rfl rfl rfl rfl (Nat.le_of_ble_eq_true rfl) dL_law_1024 (Nat.le_refl _) (Nat.le_refl _) (fun r1024 I1024 L1024 h1024 => ?_)
  obtain ⟨rfl, hC1, hfr, hfl⟩ := h1024
  have hM1 := AbM_cg hM hfr hfl
  refine J.aload_n C dL_law_1027 rfl ?_
  refine J.aload_n C dL_law_1028 rfl ?_
  refine J.iload_n C dL_law_1029 rfl ?_
  refine J.iconst C dL_law_1030 (v := (nI 1)) (by decide) ?_
  first | refine J.iadd_n C dL_law_1031 ?_ | refine J.iadd C dL_law_1031 ?_
  refine J.sld C hX hbl hB rfl (by omega) hL dL_law_1032 ?_
  refine J.cVGi (q := (RX6, TX6, 25)) (ci := 6) C (ok_X6_follow l V  _ _ hx1 hM1 ok) gL_law_X6_follow rfl mfX6_follow rfl (by decide) (by decide) (by first | decide | omega) rfl rfl rfl rfl (Nat.le_of_ble_eq_true rfl) dL_law_1033 (Nat.le_refl _) (Nat.le_refl _) (fun r1033 I1033 L1033 h1033 => ?_)
  obtain ⟨rfl, hM2, hfr2, hfl2⟩ := h1033
  have hC2 := AbC_cg hC1 hfr2 hfl2
  refine J.icmp_eq C dL_law_1036 (tgt := 1136) (by decide) (fun _ => ?_) (fun c1036 => absurd c1036 (fun q => q rfl))
  exact NX _ _ _ hC2 hM2 (kG_follow ok)
set_option maxHeartbeats 4000000 in
set_option maxRecDepth 100000 in
theorem lc_30 {l : Launch} {X : Cx} {V : Vx} {Q : State → Prop} {I : Nat → Nat → Int32} {L : Nat → Nat → Int64} {g : Sg} {b Ln i : Nat} {xs : Nat → Int32} (C : CX l X V RL cL_law 4 wsL_law 20 106 7121 ret) (hz : V.2.2.2.2.2 = false) (hX : va_X b Ln xs X.2.2.2.2.1 X.2.2.2.2.1.heap) (hbl : b < X.2.2.2.2.1.heap.size) (hB : V.2.2.1 = X.2.2.2.2.1.heap.size) (hL : Ln ≤ 3072) (hi : i + 6 ≤ Ln) (hC : AbC I L g) (hM : AbM I L g) (ok : okG g)
    (NX : ∀ I' L' g', AbC I' L' g' → AbM I' L' g' → okG g' → J X V Q 4 106 106 7121 1136 [(0, .ref b), (1, .ref (ad V 0)), (2, .ref (ad V 85)), (3, .int (nI i))] [] (mm V I' L')) : J X V Q 4 106 106 7121 1041 [(0, .ref b), (1, .ref (ad V 0)), (2, .ref (ad V 85)), (3, .int (nI i))] [] (mm V I L) := by
  obtain ⟨o1, hx1⟩ := AG_ex (xs (i + 1))
  refine J.aload_n C dL_law_1041 rfl ?_
  refine J.aload_n C dL_law_1042 rfl ?_
  refine J.iload_n C dL_law_1043 rfl ?_
  refine J.iconst C dL_law_1044 (v := (nI 1)) (by decide) ?_
  first | refine J.iadd_n C dL_law_1045 ?_ | refine J.iadd C dL_law_1045 ?_
  refine J.sld C hX hbl hB rfl (by omega) hL dL_law_1046 ?_
  refine J.cVGi (q := (RX5, TX5, 11)) (ci := 5) C (ok_X5_unlike l V  _ _ hx1 hz hC ok) gL_law_X5_unlike rfl mfX5_unlike rfl (by decide) (by decide) (by first | decide | omega) rfl rfl rfl rfl (Nat.le_of_ble_eq_true rfl) dL_law_1047 (Nat.le_refl _) (Nat.le_refl _) (fun r1047 I1047 L1047 h1047 => ?_)
  obtain ⟨rfl, hC1, hfr, hfl⟩ := h1047
  have hM1 := AbM_cg hM hfr hfl
  refine J.aload_n C dL_law_1050 rfl ?_
  refine J.aload_n C dL_law_1051 rfl ?_
  refine J.iload_n C dL_law_1052 rfl ?_
  refine J.iconst C dL_law_1053 (v := (nI 1)) (by decide) ?_
  first | refine J.iadd_n C dL_law_1054 ?_ | refine J.iadd C dL_law_1054 ?_
  refine J.sld C hX hbl hB rfl (by omega) hL dL_law_1055 ?_
  refine J.cVGi (q := (RX6, TX6, 25)) (ci := 6) C (ok_X6_unlike l V  _ _ hx1 hM1 ok) gL_law_X6_unlike rfl mfX6_unlike rfl (by decide) (by decide) (by first | decide | omega) rfl rfl rfl rfl (Nat.le_of_ble_eq_true rfl) dL_law_1056 (Nat.le_refl _) (Nat.le_refl _) (fun r1056 I1056 L1056 h1056 => ?_)
  obtain ⟨rfl, hM2, hfr2, hfl2⟩ := h1056
  have hC2 := AbC_cg hC1 hfr2 hfl2
  refine J.icmp_eq C dL_law_1059 (tgt := 1136) (by decide) (fun _ => ?_) (fun c1059 => absurd c1059 (fun q => q rfl))
  exact NX _ _ _ hC2 hM2 (kG_unlike ok)
set_option maxHeartbeats 4000000 in
set_option maxRecDepth 100000 in
theorem lc_31 {l : Launch} {X : Cx} {V : Vx} {Q : State → Prop} {I : Nat → Nat → Int32} {L : Nat → Nat → Int64} {g : Sg} {b Ln i : Nat} {xs : Nat → Int32} (C : CX l X V RL cL_law 4 wsL_law 20 106 7121 ret) (hz : V.2.2.2.2.2 = false) (hX : va_X b Ln xs X.2.2.2.2.1 X.2.2.2.2.1.heap) (hbl : b < X.2.2.2.2.1.heap.size) (hB : V.2.2.1 = X.2.2.2.2.1.heap.size) (hL : Ln ≤ 3072) (hi : i + 6 ≤ Ln) (hC : AbC I L g) (hM : AbM I L g) (ok : okG g)
    (NX : ∀ I' L' g', AbC I' L' g' → AbM I' L' g' → okG g' → J X V Q 4 106 106 7121 1136 [(0, .ref b), (1, .ref (ad V 0)), (2, .ref (ad V 85)), (3, .int (nI i))] [] (mm V I' L')) : J X V Q 4 106 106 7121 1064 [(0, .ref b), (1, .ref (ad V 0)), (2, .ref (ad V 85)), (3, .int (nI i))] [] (mm V I L) := by
  refine J.aload_n C dL_law_1064 rfl ?_
  refine J.aload_n C dL_law_1065 rfl ?_
  refine J.iload_n C dL_law_1066 rfl ?_
  refine J.iconst C dL_law_1067 (v := (nI 1)) (by decide) ?_
  first | refine J.iadd_n C dL_law_1068 ?_ | refine J.iadd C dL_law_1068 ?_
  refine J.sld C hX hbl hB rfl (by omega) hL dL_law_1069 ?_
  refine J.cVGi (q := (RX5, TX5, 11)) (ci := 5) C (ok_X5_tell l V  _ _  hz hC ok) gL_law_X5_tell rfl mfX5_tell rfl (by decide) (by decide) (by first | decide | omega) rfl rfl rfl rfl (Nat.le_of_ble_eq_true rfl) dL_law_1070 (Nat.le_refl _) (Nat.le_refl _) (fun r1070 I1070 L1070 h1070 => ?_)
  obtain ⟨rfl, hC1, hfr, hfl⟩ := h1070
  have hM1 := AbM_cg hM hfr hfl
  refine J.aload_n C dL_law_1073 rfl ?_
  refine J.aload_n C dL_law_1074 rfl ?_
  refine J.iload_n C dL_law_1075 rfl ?_
  refine J.iconst C dL_law_1076 (v := (nI 1)) (by decide) ?_
  first | refine J.iadd_n C dL_law_1077 ?_ | refine J.iadd C dL_law_1077 ?_
  refine J.sld C hX hbl hB rfl (by omega) hL dL_law_1078 ?_
  refine J.cVGi (q := (RX6, TX6, 25)) (ci := 6) C (ok_X6_tell l V _ _ _  hM1 ok) gL_law_X6_tell rfl mfX6_tell rfl (by decide) (by decide) (by first | decide | omega) rfl rfl rfl rfl (Nat.le_of_ble_eq_true rfl) dL_law_1079 (Nat.le_refl _) (Nat.le_refl _) (fun r1079 I1079 L1079 h1079 => ?_)
  obtain ⟨rfl, hM2, hfr2, hfl2⟩ := h1079
  have hC2 := AbC_cg hC1 hfr2 hfl2
  refine J.icmp_eq C dL_law_1082 (tgt := 1136) (by decide) (fun _ => ?_) (fun c1082 => absurd c1082 (fun q => q rfl))
  exact NX _ _ _ hC2 hM2 (kG_tell ok)
set_option maxHeartbeats 4000000 in
set_option maxRecDepth 100000 in
theorem lc_32 {l : Launch} {X : Cx} {V : Vx} {Q : State → Prop} {I : Nat → Nat → Int32} {L : Nat → Nat → Int64} {g : Sg} {b Ln i : Nat} {xs : Nat → Int32} (C : CX l X V RL cL_law 4 wsL_law 20 106 7121 ret) (hz : V.2.2.2.2.2 = false) (hX : va_X b Ln xs X.2.2.2.2.1 X.2.2.2.2.1.heap) (hbl : b < X.2.2.2.2.1.heap.size) (hB : V.2.2.1 = X.2.2.2.2.1.heap.size) (hL : Ln ≤ 3072) (hi : i + 6 ≤ Ln) (hC : AbC I L g) (hM : AbM I L g) (ok : okG g)
    (NX : ∀ I' L' g', AbC I' L' g' → AbM I' L' g' → okG g' → J X V Q 4 106 106 7121 1136 [(0, .ref b), (1, .ref (ad V 0)), (2, .ref (ad V 85)), (3, .int (nI i))] [] (mm V I' L')) : J X V Q 4 106 106 7121 1087 [(0, .ref b), (1, .ref (ad V 0)), (2, .ref (ad V 85)), (3, .int (nI i))] [] (mm V I L) := by
  refine J.aload_n C dL_law_1087 rfl ?_
  refine J.cVGi (q := (RX5, TX5, 11)) (ci := 5) C (ok_X5_would l V  _ _  hz hC ok) gL_law_X5_would rfl mfX5_would rfl (by decide) (by decide) (by first | decide | omega) rfl rfl rfl rfl (Nat.le_of_ble_eq_true rfl) dL_law_1088 (Nat.le_refl _) (Nat.le_refl _) (fun r1088 I1088 L1088 h1088 => ?_)
  obtain ⟨rfl, hC1, hfr, hfl⟩ := h1088
  have hM1 := AbM_cg hM hfr hfl
  refine J.aload_n C dL_law_1091 rfl ?_
  refine J.cVGi (q := (RX6, TX6, 25)) (ci := 6) C (ok_X6_would l V  _ _  hM1 ok) gL_law_X6_would rfl mfX6_would rfl (by decide) (by decide) (by first | decide | omega) rfl rfl rfl rfl (Nat.le_of_ble_eq_true rfl) dL_law_1092 (Nat.le_refl _) (Nat.le_refl _) (fun r1092 I1092 L1092 h1092 => ?_)
  obtain ⟨rfl, hM2, hfr2, hfl2⟩ := h1092
  have hC2 := AbC_cg hC1 hfr2 hfl2
  refine J.icmp_eq C dL_law_1095 (tgt := 1136) (by decide) (fun _ => ?_) (fun c1095 => absurd c1095 (fun q => q rfl))
  exact NX _ _ _ hC2 hM2 (kG_would ok)
set_option maxHeartbeats 4000000 in
set_option maxRecDepth 100000 in
theorem lc_33 {l : Launch} {X : Cx} {V : Vx} {Q : State → Prop} {I : Nat → Nat → Int32} {L : Nat → Nat → Int64} {g : Sg} {b Ln i : Nat} {xs : Nat → Int32} (C : CX l X V RL cL_law 4 wsL_law 20 106 7121 ret) (hz : V.2.2.2.2.2 = false) (hX : va_X b Ln xs X.2.2.2.2.1 X.2.2.2.2.1.heap) (hbl : b < X.2.2.2.2.1.heap.size) (hB : V.2.2.1 = X.2.2.2.2.1.heap.size) (hL : Ln ≤ 3072) (hi : i + 6 ≤ Ln) (hC : AbC I L g) (hM : AbM I L g) (ok : okG g)
    (NX : ∀ I' L' g', AbC I' L' g' → AbM I' L' g' → okG g' → J X V Q 4 106 106 7121 1136 [(0, .ref b), (1, .ref (ad V 0)), (2, .ref (ad V 85)), (3, .int (nI i))] [] (mm V I' L')) : J X V Q 4 106 106 7121 1100 [(0, .ref b), (1, .ref (ad V 0)), (2, .ref (ad V 85)), (3, .int (nI i))] [] (mm V I L) := by
  refine J.aload_n C dL_law_1100 rfl ?_
  refine J.cVGi (q := (RX5, TX5, 11)) (ci := 5) C (ok_X5_undo l V  _ _  hz hC ok) gL_law_X5_undo rfl mfX5_undo rfl (by decide) (by decide) (by first | decide | omega) rfl rfl rfl rfl (Nat.le_of_ble_eq_true rfl) dL_law_1101 (Nat.le_refl _) (Nat.le_refl _) (fun r1101 I1101 L1101 h1101 => ?_)
  obtain ⟨rfl, hC1, hfr, hfl⟩ := h1101
  have hM1 := AbM_cg hM hfr hfl
  refine J.aload_n C dL_law_1104 rfl ?_
  refine J.cVGi (q := (RX6, TX6, 25)) (ci := 6) C (ok_X6_undo l V  _ _  hM1 ok) gL_law_X6_undo rfl mfX6_undo rfl (by decide) (by decide) (by first | decide | omega) rfl rfl rfl rfl (Nat.le_of_ble_eq_true rfl) dL_law_1105 (Nat.le_refl _) (Nat.le_refl _) (fun r1105 I1105 L1105 h1105 => ?_)
  obtain ⟨rfl, hM2, hfr2, hfl2⟩ := h1105
  have hC2 := AbC_cg hC1 hfr2 hfl2
  refine J.icmp_eq C dL_law_1108 (tgt := 1136) (by decide) (fun _ => ?_) (fun c1108 => absurd c1108 (fun q => q rfl))
  exact NX _ _ _ hC2 hM2 (kG_undo ok)
set_option maxHeartbeats 4000000 in
set_option maxRecDepth 100000 in
theorem lc_34 {l : Launch} {X : Cx} {V : Vx} {Q : State → Prop} {I : Nat → Nat → Int32} {L : Nat → Nat → Int64} {g : Sg} {b Ln i : Nat} {xs : Nat → Int32} (C : CX l X V RL cL_law 4 wsL_law 20 106 7121 ret) (hz : V.2.2.2.2.2 = false) (hX : va_X b Ln xs X.2.2.2.2.1 X.2.2.2.2.1.heap) (hbl : b < X.2.2.2.2.1.heap.size) (hB : V.2.2.1 = X.2.2.2.2.1.heap.size) (hL : Ln ≤ 3072) (hi : i + 6 ≤ Ln) (hC : AbC I L g) (hM : AbM I L g) (ok : okG g)
    (NX : ∀ I' L' g', AbC I' L' g' → AbM I' L' g' → okG g' → J X V Q 4 106 106 7121 1136 [(0, .ref b), (1, .ref (ad V 0)), (2, .ref (ad V 85)), (3, .int (nI i))] [] (mm V I' L')) : J X V Q 4 106 106 7121 1113 [(0, .ref b), (1, .ref (ad V 0)), (2, .ref (ad V 85)), (3, .int (nI i))] [] (mm V I L) := by
  obtain ⟨o1, hx1⟩ := AG_ex (xs (i + 1))
  refine J.aload_n C dL_law_1113 rfl ?_
  refine J.aload_n C dL_law_1114 rfl ?_
  refine J.iload_n C dL_law_1115 rfl ?_
  refine J.iconst C dL_law_1116 (v := (nI 1)) (by decide) ?_
  first | refine J.iadd_n C dL_law_1117 ?_ | refine J.iadd C dL_law_1117 ?_
  refine J.sld C hX hbl hB rfl (by omega) hL dL_law_1118 ?_
  refine J.cVGi (q := (RX5, TX5, 11)) (ci := 5) C (ok_X5_told l V  _ _ hx1 hz hC ok) gL_law_X5_told rfl mfX5_told rfl (by decide) (by decide) (by first | decide | omega) rfl rfl rfl rfl (Nat.le_of_ble_eq_true rfl) dL_law_1119 (Nat.le_refl _) (Nat.le_refl _) (fun r1119 I1119 L1119 h1119 => ?_)
  obtain ⟨rfl, hC1, hfr, hfl⟩ := h1119
  have hM1 := AbM_cg hM hfr hfl
  refine J.aload_n C dL_law_1122 rfl ?_
  refine J.aload_n C dL_law_1123 rfl ?_
  refine J.iload_n C dL_law_1124 rfl ?_
  refine J.iconst C dL_law_1125 (v := (nI 1)) (by decide) ?_
  first | refine J.iadd_n C dL_law_1126 ?_ | refine J.iadd C dL_law_1126 ?_
  refine J.sld C hX hbl hB rfl (by omega) hL dL_law_1127 ?_
  refine J.cVGi (q := (RX6, TX6, 25)) (ci := 6) C (ok_X6_told l V  _ _ hx1 hM1 ok) gL_law_X6_told rfl mfX6_told rfl (by decide) (by decide) (by first | decide | omega) rfl rfl rfl rfl (Nat.le_of_ble_eq_true rfl) dL_law_1128 (Nat.le_refl _) (Nat.le_refl _) (fun r1128 I1128 L1128 h1128 => ?_)
  obtain ⟨rfl, hM2, hfr2, hfl2⟩ := h1128
  have hC2 := AbC_cg hC1 hfr2 hfl2
  refine J.icmp_eq C dL_law_1131 (tgt := 1136) (by decide) (fun _ => ?_) (fun c1131 => absurd c1131 (fun q => q rfl))
  exact NX _ _ _ hC2 hM2 (kG_told ok)
