/-! the rules over the memory of 106 cells -/
abbrev E (X : Cx) (V : Vx) (P : Option Value → (Nat → va_E) → Prop) (nL pc : Nat) (ls : List (Nat × Value)) (st : List Value) (I : Nat → Nat → Int32) (L : Nat → Nat → Int64) : Prop := J X V (QX X V 106 0 0 P) nL 106 0 0 pc ls st (mm V I L)
def Di (l : Launch) (V : Vx) (y : MethodName) (ws : List Cond) (d : Nat) (av : List Value) (I : Nat → Nat → Int32) (L : Nat → Nat → Int64) (r : Int32) (I' : Nat → Nat → Int32) (L' : Nat → Nat → Int64) : Prop := Ok l V y ws d 106 106 0 0 av (mm V I L) (fun v M => v = some (.int r) ∧ M = mm V I' L')
def Dl (l : Launch) (V : Vx) (y : MethodName) (ws : List Cond) (d : Nat) (av : List Value) (I : Nat → Nat → Int32) (L : Nat → Nat → Int64) (r : Int64) (I' : Nat → Nat → Int32) (L' : Nat → Nat → Int64) : Prop := Ok l V y ws d 106 106 0 0 av (mm V I L) (fun v M => v = some (.long r) ∧ M = mm V I' L')
def Dv (l : Launch) (V : Vx) (y : MethodName) (ws : List Cond) (d : Nat) (av : List Value) (I : Nat → Nat → Int32) (L : Nat → Nat → Int64) (I' : Nat → Nat → Int32) (L' : Nat → Nat → Int64) : Prop := Ok l V y ws d 106 106 0 0 av (mm V I L) (fun v M => v = none ∧ M = mm V I' L')
def Gi (l : Launch) (V : Vx) (y : MethodName) (ws : List Cond) (d : Nat) (av : List Value) (I : Nat → Nat → Int32) (L : Nat → Nat → Int64) (post : Int32 → (Nat → Nat → Int32) → (Nat → Nat → Int64) → Prop) : Prop := Ok l V y ws d 106 106 0 0 av (mm V I L) (fun v M => ∃ r I' L', v = some (.int r) ∧ M = mm V I' L' ∧ post r I' L')
def Gl (l : Launch) (V : Vx) (y : MethodName) (ws : List Cond) (d : Nat) (av : List Value) (I : Nat → Nat → Int32) (L : Nat → Nat → Int64) (post : Int64 → (Nat → Nat → Int32) → (Nat → Nat → Int64) → Prop) : Prop := Ok l V y ws d 106 106 0 0 av (mm V I L) (fun v M => ∃ r I' L', v = some (.long r) ∧ M = mm V I' L' ∧ post r I' L')
def Gv (l : Launch) (V : Vx) (y : MethodName) (ws : List Cond) (d : Nat) (av : List Value) (I : Nat → Nat → Int32) (L : Nat → Nat → Int64) (post : (Nat → Nat → Int32) → (Nat → Nat → Int64) → Prop) : Prop := Ok l V y ws d 106 106 0 0 av (mm V I L) (fun v M => ∃ I' L', v = none ∧ M = mm V I' L' ∧ post I' L')
section
variable {l : Launch} {X : Cx} {V : Vx} {Q : State → Prop} {own : String} {cc : ByteArray} {nL cs sl pc d mc ms : Nat} {Ts : List Cond} {ret : Option FieldType} {ls ls' : List (Nat × Value)} {st : List Value} {I : Nat → Nat → Int32} {L : Nat → Nat → Int64} {k j : Nat}
theorem J.getI (C : CX l X V own cc nL Ts d mc ms ret) {index ci : Nat} {fs : List Value} {x y : Int32} (hF : FL Ts own index ci j) (hk : k < 106) (hM : mm V I L k = .inr (ci, fs)) (hv : fs[j]? = some (.int y)) (hx : y = x) (hd : decode cc pc = .ok (.getfield index, 3)) (kk : J X V Q nL 106 cs sl (pc + 3) ls (.int x :: st) (mm V I L)) : J X V Q nL 106 cs sl pc ls (.ref (ad V k) :: st) (mm V I L) := by
  subst hx
  exact J.get C hF hk hM hv hd kk
theorem J.getL (C : CX l X V own cc nL Ts d mc ms ret) {index ci : Nat} {fs : List Value} {x y : Int64} (hF : FL Ts own index ci j) (hk : k < 106) (hM : mm V I L k = .inr (ci, fs)) (hv : fs[j]? = some (.long y)) (hx : y = x) (hd : decode cc pc = .ok (.getfield index, 3)) (kk : J X V Q nL 106 cs sl (pc + 3) ls (.long x :: st) (mm V I L)) : J X V Q nL 106 cs sl pc ls (.ref (ad V k) :: st) (mm V I L) := by
  subst hx
  exact J.get C hF hk hM hv hd kk
theorem J.getR (C : CX l X V own cc nL Ts d mc ms ret) {index ci k' : Nat} {fs : List Value} (hF : FL Ts own index ci j) (hk : k < 106) (hM : mm V I L k = .inr (ci, fs)) (hv : fs[j]? = some (.ref (ad V k'))) (hd : decode cc pc = .ok (.getfield index, 3)) (kk : J X V Q nL 106 cs sl (pc + 3) ls (.ref (ad V k') :: st) (mm V I L)) : J X V Q nL 106 cs sl pc ls (.ref (ad V k) :: st) (mm V I L) := J.get C hF hk hM hv hd kk
theorem J.putI (C : CX l X V own cc nL Ts d mc ms ret) {index ci : Nat} {fs : List Value} {x : Int32} {I' : Nat → Nat → Int32} (hF : FP Ts own index ci j .int) (hk : k < 106) (hM : mm V I L k = .inr (ci, fs)) (hl : j < fs.length) (hs : va_up (mm V I L) k (.inr (ci, fs.set j (.int x))) = mm V I' L) (hd : decode cc pc = .ok (.putfield index, 3)) (kk : J X V Q nL 106 cs sl (pc + 3) ls st (mm V I' L)) : J X V Q nL 106 cs sl pc ls (.int x :: .ref (ad V k) :: st) (mm V I L) := J.put C hF hk hM hl rfl rfl hd (by rw [hs]; exact kk)
theorem J.putL (C : CX l X V own cc nL Ts d mc ms ret) {index ci : Nat} {fs : List Value} {x : Int64} {L' : Nat → Nat → Int64} (hF : FP Ts own index ci j .long) (hk : k < 106) (hM : mm V I L k = .inr (ci, fs)) (hl : j < fs.length) (hs : va_up (mm V I L) k (.inr (ci, fs.set j (.long x))) = mm V I L') (hd : decode cc pc = .ok (.putfield index, 3)) (kk : J X V Q nL 106 cs sl (pc + 3) ls st (mm V I L')) : J X V Q nL 106 cs sl pc ls (.long x :: .ref (ad V k) :: st) (mm V I L) := J.put C hF hk hM hl rfl rfl hd (by rw [hs]; exact kk)
theorem ix_in {x : Int32} (hx : x = nI j) (hj : j < ln k) : vp_in x (ln k) ∧ x.toNatClampNeg = j := by
  have := ln_le k
  subst hx
  exact ⟨vp_in_nI hj (by omega), nI_clamp (by omega)⟩
theorem J.ia (C : CX l X V own cc nL Ts d mc ms ret) {x v : Int32} (hk : kd k = 7) (hx : x = nI j) (hj : j < ln k) (hv : I k j = v) (hd : decode cc pc = .ok (.iaload, 1)) (kk : J X V Q nL 106 cs sl (pc + 1) ls (.int v :: st) (mm V I L)) : J X V Q nL 106 cs sl pc ls (.int x :: .ref (ad V k) :: st) (mm V I L) := by
  obtain ⟨h1, h2⟩ := ix_in hx hj
  exact J.iald C (kd_lt hk (by decide)) (mk_7 hk) h1 hd (by rw [h2, hv]; exact kk)
theorem J.za (C : CX l X V own cc nL Ts d mc ms ret) {x v : Int32} (hk : kd k = 9) (hx : x = nI j) (hj : j < ln k) (hv : I k j = v) (hd : decode cc pc = .ok (.baload, 1)) (kk : J X V Q nL 106 cs sl (pc + 1) ls (.int v :: st) (mm V I L)) : J X V Q nL 106 cs sl pc ls (.int x :: .ref (ad V k) :: st) (mm V I L) := by
  obtain ⟨h1, h2⟩ := ix_in hx hj
  exact J.zald C (kd_lt hk (by decide)) (mk_9 hk) h1 hd (by rw [h2, hv]; exact kk)
theorem J.la (C : CX l X V own cc nL Ts d mc ms ret) {x : Int32} {v : Int64} (hk : kd k = 8) (hx : x = nI j) (hj : j < ln k) (hv : L k j = v) (hd : decode cc pc = .ok (.laload, 1)) (kk : J X V Q nL 106 cs sl (pc + 1) ls (.long v :: st) (mm V I L)) : J X V Q nL 106 cs sl pc ls (.int x :: .ref (ad V k) :: st) (mm V I L) := by
  obtain ⟨h1, h2⟩ := ix_in hx hj
  exact J.lald C (kd_lt hk (by decide)) (mk_8 hk) h1 hd (by rw [h2, hv]; exact kk)
theorem J.aa (C : CX l X V own cc nL Ts d mc ms ret) {x : Int32} (hk : kd k = 10 ∨ kd k = 11) (hx : x = nI j) (hj : j < ln k) (hd : decode cc pc = .ok (.aaload, 1)) (kk : J X V Q nL 106 cs sl (pc + 1) ls (.ref (ad V (rid k j)) :: st) (mm V I L)) : J X V Q nL 106 cs sl pc ls (.int x :: .ref (ad V k) :: st) (mm V I L) := by
  obtain ⟨h1, h2⟩ := ix_in hx hj
  rcases hk with hk | hk
  · exact J.aald10 C (kd_lt hk (by decide)) (mk_10 hk) h1 (by rw [h2]) hd kk
  · exact J.aald11 C (kd_lt hk (by decide)) (mk_11 hk) h1 (by rw [h2]) hd kk
theorem J.ias (C : CX l X V own cc nL Ts d mc ms ret) {x v : Int32} (hk : kd k = 7) (hx : x = nI j) (hj : j < ln k) (hd : decode cc pc = .ok (.iastore, 1)) (kk : J X V Q nL 106 cs sl (pc + 1) ls st (mm V (up2 I k j v) L)) : J X V Q nL 106 cs sl pc ls (.int v :: .int x :: .ref (ad V k) :: st) (mm V I L) := by
  obtain ⟨h1, h2⟩ := ix_in hx hj
  exact J.iast C (kd_lt hk (by decide)) (mk_7 hk) h1 hd (by rw [h2, mp_7 hk]; exact kk)
theorem J.zas (C : CX l X V own cc nL Ts d mc ms ret) {x v : Int32} (hz : vp_nar .boolean v = v) (hk : kd k = 9) (hx : x = nI j) (hj : j < ln k) (hd : decode cc pc = .ok (.bastore, 1)) (kk : J X V Q nL 106 cs sl (pc + 1) ls st (mm V (up2 I k j v) L)) : J X V Q nL 106 cs sl pc ls (.int v :: .int x :: .ref (ad V k) :: st) (mm V I L) := by
  obtain ⟨h1, h2⟩ := ix_in hx hj
  exact J.zast C hz (kd_lt hk (by decide)) (mk_9 hk) h1 hd (by rw [h2, mp_9 hk]; exact kk)
theorem J.las (C : CX l X V own cc nL Ts d mc ms ret) {x : Int32} {v : Int64} (hk : kd k = 8) (hx : x = nI j) (hj : j < ln k) (hd : decode cc pc = .ok (.lastore, 1)) (kk : J X V Q nL 106 cs sl (pc + 1) ls st (mm V I (up3 L k j v))) : J X V Q nL 106 cs sl pc ls (.long v :: .int x :: .ref (ad V k) :: st) (mm V I L) := by
  obtain ⟨h1, h2⟩ := ix_in hx hj
  exact J.last C (kd_lt hk (by decide)) (mk_8 hk) h1 hd (by rw [h2, mp_8 hk]; exact kk)
theorem nm_b {b : Bool} : vp_nar .boolean (if b = true then 1 else 0) = (if b = true then 1 else 0) ∧ narrow .boolean (.int (if b = true then 1 else 0)) = .int (if b = true then 1 else 0) := by cases b <;> decide
-- static arrays
theorem J.ka (C : CX l X V own cc nL Ts d mc ms ret) {index : Nat} (hw : Cond.fieldLink own index "LaneNets" "KIND_ABOVE" "[I" ∈ Ts) (hd : decode cc pc = .ok (.getstatic index, 3)) (kk : J X V Q nL 106 cs sl (pc + 3) ls (.ref V.2.2.2.1 :: st) (mm V I L)) : J X V Q nL 106 cs sl pc ls st (mm V I L) := by
  obtain ⟨e1, eR, hx, hb, hml, ho, hts, hK, -⟩ := C
  intro H locs la h1 h2 h3 h4
  exact va_gets hx hb hK.2.1 h3 ho (hts _ hw) (fun _ h => h) hd (kk H locs la h1 h2 h3 h4)
theorem J.fc (C : CX l X V own cc nL Ts d mc ms ret) {index : Nat} (hw : Cond.fieldLink own index "LaneNets$Rows" "FIRST_COLUMNS" "[J" ∈ Ts) (hd : decode cc pc = .ok (.getstatic index, 3)) (kk : J X V Q nL 106 cs sl (pc + 3) ls (.ref V.2.2.2.2.1 :: st) (mm V I L)) : J X V Q nL 106 cs sl pc ls st (mm V I L) := by
  obtain ⟨e1, eR, hx, hb, hml, ho, hts, hK, -⟩ := C
  intro H locs la h1 h2 h3 h4
  exact va_gets hx hb hK.2.2.2.1 h3 ho (hts _ hw) (fun _ h => h) hd (kk H locs la h1 h2 h3 h4)
theorem J.kal (C : CX l X V own cc nL Ts d mc ms ret) {x v : Int32} (hx0 : x = nI j) (hj : j < 5) (hv : kaF j = .int v) (hd : decode cc pc = .ok (.iaload, 1)) (kk : J X V Q nL 106 cs sl (pc + 1) ls (.int v :: st) (mm V I L)) : J X V Q nL 106 cs sl pc ls (.int x :: .ref V.2.2.2.1 :: st) (mm V I L) := by
  obtain ⟨e1, eR, hx, hb, hml, ho, hts, hK, -⟩ := C
  intro H locs la h1 h2 h3 h4
  subst hx0
  obtain ⟨cell, g1, g2, g3, g4, g5, g6, g7⟩ := hK.2.2.1.kept (fun a g1 g2 => h3.2.1 a g1 g2)
  have hc : (nI j).toNatClampNeg = j := nI_clamp (by omega)
  exact W.iald (v := .int v) hx hb g1 g2 g3 (fun q => by rcases q with q | q; exact nI_pos (by omega) q; rw [hc] at q; omega) (by rw [hc, g6 j hj, hv]) rfl rfl hd (kk H locs la h1 h2 h3 h4)
theorem J.fcl (C : CX l X V own cc nL Ts d mc ms ret) {x : Int32} {v : Int64} (hx0 : x = nI j) (hj : j < 6) (hv : fcF j = .long v) (hd : decode cc pc = .ok (.laload, 1)) (kk : J X V Q nL 106 cs sl (pc + 1) ls (.long v :: st) (mm V I L)) : J X V Q nL 106 cs sl pc ls (.int x :: .ref V.2.2.2.2.1 :: st) (mm V I L) := by
  obtain ⟨e1, eR, hx, hb, hml, ho, hts, hK, -⟩ := C
  intro H locs la h1 h2 h3 h4
  subst hx0
  obtain ⟨cell, g1, g2, g3, g4, g5, g6, g7⟩ := hK.2.2.2.2.kept (fun a g1 g2 => h3.2.1 a g1 g2)
  have hc : (nI j).toNatClampNeg = j := nI_clamp (by omega)
  exact W.lald (v := .long v) hx hb g1 g2 g3 (fun q => by rcases q with q | q; exact nI_pos (by omega) q; rw [hc] at q; omega) (by rw [hc, g6 j hj, hv]) rfl rfl hd (kk H locs la h1 h2 h3 h4)
-- System.arraycopy of ints and of longs
theorem J.acpI (C : CX l X V own cc nL Ts d mc ms ret) (hz : V.2.2.2.2.2 = false) {index k0 k1 a b c : Nat} {x y z : Int32} (w1 : Cond.methodLink own index arraycopyName ∈ Ts) (w2 : Cond.native arraycopyName ∈ Ts) (w3 : Cond.static arraycopyName ∈ Ts) (w4 : Cond.initialized "java/lang/System" ∈ Ts) (hk0 : kd k0 = 7) (hk1 : kd k1 = 7) (hx0 : x = nI a) (hy0 : y = nI b) (hz0 : z = nI c) (ha : a + c ≤ ln k0) (hb1 : b + c ≤ ln k1) (hd1 : 1 ≤ d) (hr : (st.map fun v => v.category).sum ≤ 8) (hd : decode cc pc = .ok (.invokestatic index, 3))
    (kk : J X V Q nL 106 cs sl (pc + 3) ls st (mm V (va_up I k1 (va_cpy (I k0) (I k1) a b c)) L)) : J X V Q nL 106 cs sl pc ls (.int z :: .int y :: .ref (ad V k1) :: .int x :: .ref (ad V k0) :: st) (mm V I L) := by
  obtain ⟨e1, eR, hx, hb, hml, ho, hts, hK, -⟩ := C
  intro H locs la h1 h2 h3 h4
  subst hx0; subst hy0; subst hz0
  have l0 := ln_le k0
  have l1 := ln_le k1
  have hnw : nativeFrameWords "java/lang/System" "arraycopy" 5 + 11 ≤ 40 := by decide
  have ca : (nI a).toNatClampNeg = a := nI_clamp (by omega)
  have cb : (nI b).toNatClampNeg = b := nI_clamp (by omega)
  have cc' : (nI c).toNatClampNeg = c := nI_clamp (by omega)
  refine va_copyi hx hb (by rw [hml]; exact h4.1.symm) ho (hts _ w1) (hts _ w2) (hts _ w3) (hts _ w4) hK.1 h2 wl_D h3 k0 k1 0 0 (ty := .int) (by rw [wl_get (kd_lt hk0 (by decide)), mk_7 hk0]) (by rw [wl_get (kd_lt hk1 (by decide)), mk_7 hk1]) rfl rfl rfl (nI_pos (by omega)) (nI_pos (by omega)) (nI_pos (by omega)) (by rw [ca, cc']; exact ha) (by rw [cb, cc']; exact hb1) (fun _ _ => rfl) (by rw [eR]; exact hd1) (by rw [eR]; show _ ≤ 48 * d; omega) hd (fun H1 locs1 p1 _ s1 => ?_)
  rw [wl_set, ca, cb, cc'] at p1
  refine kk H1 locs1 la (fun q => by rw [hz] at q; cases q) ?_ s1 h4
  have e : va_up (mm V I L) k1 (.inl (V.2.1.1, ln k1, .inl (va_cpy (I k0) (I k1) a b c))) = mm V (va_up I k1 (va_cpy (I k0) (I k1) a b c)) L := by
    funext q
    by_cases hq : q = k1
    · subst hq
      simp [va_up, mm, hk1]
    · rw [va_up_ne _ _ hq]
      exact mm_ne V (va_up_ne _ _ hq).symm rfl
  rw [← e]
  exact p1
theorem J.acpL (C : CX l X V own cc nL Ts d mc ms ret) (hz : V.2.2.2.2.2 = false) {index k0 k1 a b c : Nat} {x y z : Int32} (w1 : Cond.methodLink own index arraycopyName ∈ Ts) (w2 : Cond.native arraycopyName ∈ Ts) (w3 : Cond.static arraycopyName ∈ Ts) (w4 : Cond.initialized "java/lang/System" ∈ Ts) (hk0 : kd k0 = 8) (hk1 : kd k1 = 8) (hx0 : x = nI a) (hy0 : y = nI b) (hz0 : z = nI c) (ha : a + c ≤ ln k0) (hb1 : b + c ≤ ln k1) (hd1 : 1 ≤ d) (hr : (st.map fun v => v.category).sum ≤ 8) (hd : decode cc pc = .ok (.invokestatic index, 3))
    (kk : J X V Q nL 106 cs sl (pc + 3) ls st (mm V I (va_up L k1 (va_cpy (L k0) (L k1) a b c)))) : J X V Q nL 106 cs sl pc ls (.int z :: .int y :: .ref (ad V k1) :: .int x :: .ref (ad V k0) :: st) (mm V I L) := by
  obtain ⟨e1, eR, hx, hb, hml, ho, hts, hK, -⟩ := C
  intro H locs la h1 h2 h3 h4
  subst hx0; subst hy0; subst hz0
  have l0 := ln_le k0
  have l1 := ln_le k1
  have hnw : nativeFrameWords "java/lang/System" "arraycopy" 5 + 11 ≤ 40 := by decide
  have ca : (nI a).toNatClampNeg = a := nI_clamp (by omega)
  have cb : (nI b).toNatClampNeg = b := nI_clamp (by omega)
  have cc' : (nI c).toNatClampNeg = c := nI_clamp (by omega)
  refine va_copyl hx hb (by rw [hml]; exact h4.1.symm) ho (hts _ w1) (hts _ w2) (hts _ w3) (hts _ w4) hK.1 h2 wl_D h3 k0 k1 1 1 (ty := .long) (by rw [wl_get (kd_lt hk0 (by decide)), mk_8 hk0]) (by rw [wl_get (kd_lt hk1 (by decide)), mk_8 hk1]) rfl rfl rfl (nI_pos (by omega)) (nI_pos (by omega)) (nI_pos (by omega)) (by rw [ca, cc']; exact ha) (by rw [cb, cc']; exact hb1) (fun _ _ => rfl) (by rw [eR]; exact hd1) (by rw [eR]; show _ ≤ 48 * d; omega) hd (fun H1 locs1 p1 _ s1 => ?_)
  rw [wl_set, ca, cb, cc'] at p1
  refine kk H1 locs1 la (fun q => by rw [hz] at q; cases q) ?_ s1 h4
  have e : va_up (mm V I L) k1 (.inl (V.2.1.2.1, ln k1, .inr (.inl (va_cpy (L k0) (L k1) a b c)))) = mm V I (va_up L k1 (va_cpy (L k0) (L k1) a b c)) := by
    funext q
    by_cases hq : q = k1
    · subst hq
      simp [va_up, mm, hk1]
    · rw [va_up_ne _ _ hq]
      exact mm_ne V rfl (va_up_ne _ _ hq).symm
  rw [← e]
  exact p1
end
section
variable {l : Launch} {X : Cx} {V : Vx} {Q : State → Prop} {own : String} {cc : ByteArray} {nL cs sl pc d mc ms : Nat} {Ts : List Cond} {ret : Option FieldType} {ls ls' : List (Nat × Value)} {st : List Value} {I I' : Nat → Nat → Int32} {L L' : Nat → Nat → Int64} {y : MethodName} {ws ws' : List Cond} {bytes : ByteArray} {maxL d' index na k ci : Nat} {q : vw_C} {fs : List Value} {ret' : Option FieldType} {As rest : List Value}
theorem J.cSDi (C : CX l X V own cc nL Ts d mc ms ret) {r : Int32} (hok : Di l V y ws d' As I L r I' L') (hG : GoodIn Ts (va_wsS own index y ws)) (hw : ws = Cond.code y bytes maxL ret' :: ws') (hmf : MF y na) (hd' : d' + 1 ≤ d) (hml : maxL ≤ 29) (hn : As.length = na) (hst : st = As.reverse ++ rest) (hrm : (rest.map fun v => v.category).sum ≤ 8) (hd : decode cc pc = .ok (.invokestatic index, 3)) (hc : cs ≤ mc) (hs : sl ≤ ms) (kk : J X V Q nL 106 cs sl (pc + 3) ls (.int r :: rest) (mm V I' L')) : J X V Q nL 106 cs sl pc ls st (mm V I L) := J.callS C hok hG hw hmf hd' hml hn hst hrm hd hc hs (fun v M' h => by obtain ⟨rfl, rfl⟩ := h; exact kk)
theorem J.cSGi (C : CX l X V own cc nL Ts d mc ms ret) {post : Int32 → (Nat → Nat → Int32) → (Nat → Nat → Int64) → Prop} (hok : Gi l V y ws d' As I L post) (hG : GoodIn Ts (va_wsS own index y ws)) (hw : ws = Cond.code y bytes maxL ret' :: ws') (hmf : MF y na) (hd' : d' + 1 ≤ d) (hml : maxL ≤ 29) (hn : As.length = na) (hst : st = As.reverse ++ rest) (hrm : (rest.map fun v => v.category).sum ≤ 8) (hd : decode cc pc = .ok (.invokestatic index, 3)) (hc : cs ≤ mc) (hs : sl ≤ ms) (kk : ∀ (r : Int32) I' L', post r I' L' → J X V Q nL 106 cs sl (pc + 3) ls (.int r :: rest) (mm V I' L')) : J X V Q nL 106 cs sl pc ls st (mm V I L) := J.callS C hok hG hw hmf hd' hml hn hst hrm hd hc hs (fun v M' h => by obtain ⟨r, I2, L2, rfl, rfl, h⟩ := h; exact kk r I2 L2 h)
theorem J.cSDl (C : CX l X V own cc nL Ts d mc ms ret) {r : Int64} (hok : Dl l V y ws d' As I L r I' L') (hG : GoodIn Ts (va_wsS own index y ws)) (hw : ws = Cond.code y bytes maxL ret' :: ws') (hmf : MF y na) (hd' : d' + 1 ≤ d) (hml : maxL ≤ 29) (hn : As.length = na) (hst : st = As.reverse ++ rest) (hrm : (rest.map fun v => v.category).sum ≤ 8) (hd : decode cc pc = .ok (.invokestatic index, 3)) (hc : cs ≤ mc) (hs : sl ≤ ms) (kk : J X V Q nL 106 cs sl (pc + 3) ls (.long r :: rest) (mm V I' L')) : J X V Q nL 106 cs sl pc ls st (mm V I L) := J.callS C hok hG hw hmf hd' hml hn hst hrm hd hc hs (fun v M' h => by obtain ⟨rfl, rfl⟩ := h; exact kk)
theorem J.cSGl (C : CX l X V own cc nL Ts d mc ms ret) {post : Int64 → (Nat → Nat → Int32) → (Nat → Nat → Int64) → Prop} (hok : Gl l V y ws d' As I L post) (hG : GoodIn Ts (va_wsS own index y ws)) (hw : ws = Cond.code y bytes maxL ret' :: ws') (hmf : MF y na) (hd' : d' + 1 ≤ d) (hml : maxL ≤ 29) (hn : As.length = na) (hst : st = As.reverse ++ rest) (hrm : (rest.map fun v => v.category).sum ≤ 8) (hd : decode cc pc = .ok (.invokestatic index, 3)) (hc : cs ≤ mc) (hs : sl ≤ ms) (kk : ∀ (r : Int64) I' L', post r I' L' → J X V Q nL 106 cs sl (pc + 3) ls (.long r :: rest) (mm V I' L')) : J X V Q nL 106 cs sl pc ls st (mm V I L) := J.callS C hok hG hw hmf hd' hml hn hst hrm hd hc hs (fun v M' h => by obtain ⟨r, I2, L2, rfl, rfl, h⟩ := h; exact kk r I2 L2 h)
theorem J.cSDv (C : CX l X V own cc nL Ts d mc ms ret) (hok : Dv l V y ws d' As I L I' L') (hG : GoodIn Ts (va_wsS own index y ws)) (hw : ws = Cond.code y bytes maxL ret' :: ws') (hmf : MF y na) (hd' : d' + 1 ≤ d) (hml : maxL ≤ 29) (hn : As.length = na) (hst : st = As.reverse ++ rest) (hrm : (rest.map fun v => v.category).sum ≤ 8) (hd : decode cc pc = .ok (.invokestatic index, 3)) (hc : cs ≤ mc) (hs : sl ≤ ms) (kk : J X V Q nL 106 cs sl (pc + 3) ls rest (mm V I' L')) : J X V Q nL 106 cs sl pc ls st (mm V I L) := J.callS C hok hG hw hmf hd' hml hn hst hrm hd hc hs (fun v M' h => by obtain ⟨rfl, rfl⟩ := h; exact kk)
theorem J.cSGv (C : CX l X V own cc nL Ts d mc ms ret) {post : (Nat → Nat → Int32) → (Nat → Nat → Int64) → Prop} (hok : Gv l V y ws d' As I L post) (hG : GoodIn Ts (va_wsS own index y ws)) (hw : ws = Cond.code y bytes maxL ret' :: ws') (hmf : MF y na) (hd' : d' + 1 ≤ d) (hml : maxL ≤ 29) (hn : As.length = na) (hst : st = As.reverse ++ rest) (hrm : (rest.map fun v => v.category).sum ≤ 8) (hd : decode cc pc = .ok (.invokestatic index, 3)) (hc : cs ≤ mc) (hs : sl ≤ ms) (kk : ∀ I' L', post I' L' → J X V Q nL 106 cs sl (pc + 3) ls rest (mm V I' L')) : J X V Q nL 106 cs sl pc ls st (mm V I L) := J.callS C hok hG hw hmf hd' hml hn hst hrm hd hc hs (fun v M' h => by obtain ⟨I2, L2, rfl, rfl, h⟩ := h; exact kk I2 L2 h)
theorem J.cVDi (C : CX l X V own cc nL Ts d mc ms ret) {r : Int32} (hok : Di l V y ws d' (.ref (ad V k) :: As) I L r I' L') (hG : GoodIn Ts (wsV own index q.1 y ws)) (hw : ws = Cond.code y bytes maxL ret' :: ws') (hmf : MF y na) (hcls : y.cls = q.1) (hd' : d' + 1 ≤ d) (hml : maxL ≤ 29) (hk : k < 106) (hM : mm V I L k = .inr (ci, fs)) (hcl : vwCl[ci]? = some q) (hn : As.length = na) (hst : st = As.reverse ++ .ref (ad V k) :: rest) (hrm : (rest.map fun v => v.category).sum ≤ 8) (hd : decode cc pc = .ok (.invokevirtual index, 3)) (hc : cs ≤ mc) (hs : sl ≤ ms) (kk : J X V Q nL 106 cs sl (pc + 3) ls (.int r :: rest) (mm V I' L')) : J X V Q nL 106 cs sl pc ls st (mm V I L) := J.callV C hok hG hw hmf hcls hd' hml hk hM hcl hn hst hrm hd hc hs (fun v M' h => by obtain ⟨rfl, rfl⟩ := h; exact kk)
theorem J.cVGi (C : CX l X V own cc nL Ts d mc ms ret) {post : Int32 → (Nat → Nat → Int32) → (Nat → Nat → Int64) → Prop} (hok : Gi l V y ws d' (.ref (ad V k) :: As) I L post) (hG : GoodIn Ts (wsV own index q.1 y ws)) (hw : ws = Cond.code y bytes maxL ret' :: ws') (hmf : MF y na) (hcls : y.cls = q.1) (hd' : d' + 1 ≤ d) (hml : maxL ≤ 29) (hk : k < 106) (hM : mm V I L k = .inr (ci, fs)) (hcl : vwCl[ci]? = some q) (hn : As.length = na) (hst : st = As.reverse ++ .ref (ad V k) :: rest) (hrm : (rest.map fun v => v.category).sum ≤ 8) (hd : decode cc pc = .ok (.invokevirtual index, 3)) (hc : cs ≤ mc) (hs : sl ≤ ms) (kk : ∀ (r : Int32) I' L', post r I' L' → J X V Q nL 106 cs sl (pc + 3) ls (.int r :: rest) (mm V I' L')) : J X V Q nL 106 cs sl pc ls st (mm V I L) := J.callV C hok hG hw hmf hcls hd' hml hk hM hcl hn hst hrm hd hc hs (fun v M' h => by obtain ⟨r, I2, L2, rfl, rfl, h⟩ := h; exact kk r I2 L2 h)
theorem J.cVDl (C : CX l X V own cc nL Ts d mc ms ret) {r : Int64} (hok : Dl l V y ws d' (.ref (ad V k) :: As) I L r I' L') (hG : GoodIn Ts (wsV own index q.1 y ws)) (hw : ws = Cond.code y bytes maxL ret' :: ws') (hmf : MF y na) (hcls : y.cls = q.1) (hd' : d' + 1 ≤ d) (hml : maxL ≤ 29) (hk : k < 106) (hM : mm V I L k = .inr (ci, fs)) (hcl : vwCl[ci]? = some q) (hn : As.length = na) (hst : st = As.reverse ++ .ref (ad V k) :: rest) (hrm : (rest.map fun v => v.category).sum ≤ 8) (hd : decode cc pc = .ok (.invokevirtual index, 3)) (hc : cs ≤ mc) (hs : sl ≤ ms) (kk : J X V Q nL 106 cs sl (pc + 3) ls (.long r :: rest) (mm V I' L')) : J X V Q nL 106 cs sl pc ls st (mm V I L) := J.callV C hok hG hw hmf hcls hd' hml hk hM hcl hn hst hrm hd hc hs (fun v M' h => by obtain ⟨rfl, rfl⟩ := h; exact kk)
theorem J.cVGl (C : CX l X V own cc nL Ts d mc ms ret) {post : Int64 → (Nat → Nat → Int32) → (Nat → Nat → Int64) → Prop} (hok : Gl l V y ws d' (.ref (ad V k) :: As) I L post) (hG : GoodIn Ts (wsV own index q.1 y ws)) (hw : ws = Cond.code y bytes maxL ret' :: ws') (hmf : MF y na) (hcls : y.cls = q.1) (hd' : d' + 1 ≤ d) (hml : maxL ≤ 29) (hk : k < 106) (hM : mm V I L k = .inr (ci, fs)) (hcl : vwCl[ci]? = some q) (hn : As.length = na) (hst : st = As.reverse ++ .ref (ad V k) :: rest) (hrm : (rest.map fun v => v.category).sum ≤ 8) (hd : decode cc pc = .ok (.invokevirtual index, 3)) (hc : cs ≤ mc) (hs : sl ≤ ms) (kk : ∀ (r : Int64) I' L', post r I' L' → J X V Q nL 106 cs sl (pc + 3) ls (.long r :: rest) (mm V I' L')) : J X V Q nL 106 cs sl pc ls st (mm V I L) := J.callV C hok hG hw hmf hcls hd' hml hk hM hcl hn hst hrm hd hc hs (fun v M' h => by obtain ⟨r, I2, L2, rfl, rfl, h⟩ := h; exact kk r I2 L2 h)
theorem J.cVDv (C : CX l X V own cc nL Ts d mc ms ret) (hok : Dv l V y ws d' (.ref (ad V k) :: As) I L I' L') (hG : GoodIn Ts (wsV own index q.1 y ws)) (hw : ws = Cond.code y bytes maxL ret' :: ws') (hmf : MF y na) (hcls : y.cls = q.1) (hd' : d' + 1 ≤ d) (hml : maxL ≤ 29) (hk : k < 106) (hM : mm V I L k = .inr (ci, fs)) (hcl : vwCl[ci]? = some q) (hn : As.length = na) (hst : st = As.reverse ++ .ref (ad V k) :: rest) (hrm : (rest.map fun v => v.category).sum ≤ 8) (hd : decode cc pc = .ok (.invokevirtual index, 3)) (hc : cs ≤ mc) (hs : sl ≤ ms) (kk : J X V Q nL 106 cs sl (pc + 3) ls rest (mm V I' L')) : J X V Q nL 106 cs sl pc ls st (mm V I L) := J.callV C hok hG hw hmf hcls hd' hml hk hM hcl hn hst hrm hd hc hs (fun v M' h => by obtain ⟨rfl, rfl⟩ := h; exact kk)
theorem J.cVGv (C : CX l X V own cc nL Ts d mc ms ret) {post : (Nat → Nat → Int32) → (Nat → Nat → Int64) → Prop} (hok : Gv l V y ws d' (.ref (ad V k) :: As) I L post) (hG : GoodIn Ts (wsV own index q.1 y ws)) (hw : ws = Cond.code y bytes maxL ret' :: ws') (hmf : MF y na) (hcls : y.cls = q.1) (hd' : d' + 1 ≤ d) (hml : maxL ≤ 29) (hk : k < 106) (hM : mm V I L k = .inr (ci, fs)) (hcl : vwCl[ci]? = some q) (hn : As.length = na) (hst : st = As.reverse ++ .ref (ad V k) :: rest) (hrm : (rest.map fun v => v.category).sum ≤ 8) (hd : decode cc pc = .ok (.invokevirtual index, 3)) (hc : cs ≤ mc) (hs : sl ≤ ms) (kk : ∀ I' L', post I' L' → J X V Q nL 106 cs sl (pc + 3) ls rest (mm V I' L')) : J X V Q nL 106 cs sl pc ls st (mm V I L) := J.callV C hok hG hw hmf hcls hd' hml hk hM hcl hn hst hrm hd hc hs (fun v M' h => by obtain ⟨I2, L2, rfl, rfl, h⟩ := h; exact kk I2 L2 h)
end
