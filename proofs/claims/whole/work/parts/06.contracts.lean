/-! contracts: from a memory, an answer and a memory -/
def RP (V : Vx) (n : Nat) (M : Nat → va_E) (U : State) : Prop := sz V n U.heap ∧ va_P V.1 vwCl (wl V n M) U.heap ∧ Kn V U U.heap ∧ V.2.2.1 ≤ U.heap.size
def QP (V : Vx) (n : Nat) (post : Option Value → (Nat → va_E) → Prop) : Array Value → State → Outcome → State → Prop := fun _ s oc t => ∃ (v : Option Value) (M : Nat → va_E), oc = .returned v ∧ post v M ∧ sz V n t.heap ∧ va_P V.1 vwCl (wl V n M) t.heap ∧ va_F (Ab V) s t
def Ok (l : Launch) (V : Vx) (y : MethodName) (ws : List Cond) (d n n' mc ms : Nat) (av : List Value) (M : Nat → va_E) (post : Option Value → (Nat → va_E) → Prop) : Prop := Met l y ws (rmd d mc ms) (va_Pc av (RP V n M)) (QP V n' post) mc ms (Ab V)
def QX (X : Cx) (V : Vx) (n mc ms : Nat) (post : Option Value → (Nat → va_E) → Prop) : State → Prop := MQ X.2.2.2.2.2.2.2.1 (QP V n post) X.2.2.2.2.2.2.1 X.2.2.2.2.1 mc ms (Ab V)
theorem RP_blind {V : Vx} {n : Nat} {M : Nat → va_E} {av : List Value} : FrameBlind (va_Pc av (RP V n M)) := by
  intro a U g mk h
  obtain ⟨h0, h1, h2, h3, h4⟩ := h
  exact ⟨h0, h1, h2, Kn.moved (u := U) (U := U.calling g mk a) (Vm.Alike.refl U.vm) h3, h4⟩
theorem Ok.of {l : Launch} {V : Vx} {y : MethodName} {ws ws' : List Cond} {d n n' mc ms maxL : Nat} {av : List Value} {M : Nat → va_E} {post : Option Value → (Nat → va_E) → Prop} {cc : ByteArray} {ret : Option FieldType}
    (hy : plainName y.cls = true) (hw : ws = Cond.code y cc maxL ret :: ws') (hlen : (lg_sl av).length ≤ maxL)
    (body : ∀ X : Cx, X.2.2.2.2.2.2.2.2.1.name = y.name → CX l X V y.cls cc maxL ws d mc ms ret → J X V (QX X V n' mc ms post) maxL n 0 0 0 (lv_args 0 av) [] M) : Ok l V y ws d n n' mc ms av M post := by
  refine Met.ofW (cc := cc) (maxL := maxL) (ret := ret) hy hw ?_
  intro p e s m args below meth c s₁ B hml hv
  obtain ⟨rfl, h1, h2, h3, h4⟩ := hv
  have hl := lv_entry av (n := maxL) hlen
  rw [lg_entry_eq]
  exact body (p, l, e, rmd d mc ms, s, m, av.toArray, below, meth, c) (name_of_methodNamed B.named B.method).1 ⟨rfl, rfl, B.exec, B.bytes, hml, findClass_of_methodNamed B.named, atoms_spec (ws := ws) B.pre, h3, h4, B.notSynchronized, B.returns⟩ s.heap [] _ h1 h2 va_S.rf hl
section
variable {l : Launch} {X : Cx} {V : Vx} {Q : State → Prop} {own : String} {cc : ByteArray} {nL n cs sl pc d mc ms : Nat} {Ts : List Cond} {ret : Option FieldType} {ls ls' : List (Nat × Value)} {st : List Value} {M : Nat → va_E} {post : Option Value → (Nat → va_E) → Prop}
theorem Q_of (C : CX l X V own cc nL Ts d mc ms ret) {v : Option Value} {H : Heap} {locs : List Loc} (hp : post v M) (h1 : sz V n H) (h2 : va_P V.1 vwCl (wl V n M) H) (h3 : va_S (Ab V) X.2.2.2.2.1.heap H locs) : ∀ t : State, t.heap = H → X.2.2.2.2.1.WarmedH t.vm → QP V n post X.2.2.2.2.2.2.1 X.2.2.2.2.1 (.returned v) t := by
  intro t ht _
  exact ⟨v, M, rfl, hp, by rw [ht]; exact h1, by rw [ht]; exact h2, h3.F ht⟩
theorem J.iret (C : CX l X V own cc nL Ts d mc ms (some .int)) {v : Int32} (hd : decode cc pc = .ok (.ireturn, 1)) (hp : post (some (.int v)) M) : J X V (QX X V n cs sl post) nL n cs sl pc ls [.int v] M :=
  fun H locs la h1 h2 h3 h4 => W.iret C.2.2.1 C.2.2.2.1 C.2.2.2.2.2.2.2.2.2.2 (Q_of C hp h1 h2 h3) h3.2.2 hd (hlocks := C.2.2.2.2.2.2.2.2.2.1)
theorem J.zret (C : CX l X V own cc nL Ts d mc ms (some .boolean)) {v : Int32} (hd : decode cc pc = .ok (.ireturn, 1)) (hz : narrow .boolean (.int v) = .int v) (hp : post (some (.int v)) M) : J X V (QX X V n cs sl post) nL n cs sl pc ls [.int v] M :=
  fun H locs la h1 h2 h3 h4 => W.zret C.2.2.1 C.2.2.2.1 C.2.2.2.2.2.2.2.2.2.2 hz (Q_of C hp h1 h2 h3) h3.2.2 hd (hlocks := C.2.2.2.2.2.2.2.2.2.1)
theorem J.lret (C : CX l X V own cc nL Ts d mc ms (some .long)) {v : Int64} (hd : decode cc pc = .ok (.lreturn, 1)) (hp : post (some (.long v)) M) : J X V (QX X V n cs sl post) nL n cs sl pc ls [.long v] M :=
  fun H locs la h1 h2 h3 h4 => W.lret C.2.2.1 C.2.2.2.1 C.2.2.2.2.2.2.2.2.2.2 (Q_of C hp h1 h2 h3) h3.2.2 hd (hlocks := C.2.2.2.2.2.2.2.2.2.1)
theorem J.vret (C : CX l X V own cc nL Ts d mc ms none) (hd : decode cc pc = .ok (.return_, 1)) (hp : post none M) : J X V (QX X V n cs sl post) nL n cs sl pc ls [] M :=
  fun H locs la h1 h2 h3 h4 => W.vret C.2.2.1 C.2.2.2.1 C.2.2.2.2.2.2.2.2.2.2 (Q_of C hp h1 h2 h3) h3.2.2 hd (hlocks := C.2.2.2.2.2.2.2.2.2.1)
theorem J_call {n' mc' ms' : Nat} {H : Heap} {locs : List Loc} {la : Array Slot} {st0 rest : List Value} {a : Array Value} (hr : va_Run X.1 X.2.1 X.2.2.1 X.2.2.2.1 X.2.2.2.2.1 X.2.2.2.2.2.1 X.2.2.2.2.2.2.1 X.2.2.2.2.2.2.2.1 X.2.2.2.2.2.2.2.2.1 X.2.2.2.2.2.2.2.2.2 H locs cs sl mc' ms' (F0 X.2.2.2.2.2.1 pc la st0) rest (QP V n' post a) (Ab V)) (h3 : va_S (Ab V) X.2.2.2.2.1.heap H locs) (h4 : lv_has la nL ls)
    (kk : ∀ v M', post v M' → J X V Q nL n' (cs + mc') (sl + ms') (pc + 3) ls (v.toList ++ rest) M') : W X.1 X.2.1 X.2.2.1 X.2.2.2.1 X.2.2.2.2.1 X.2.2.2.2.2.1 X.2.2.2.2.2.2.1 X.2.2.2.2.2.2.2.1 X.2.2.2.2.2.2.2.2.1 X.2.2.2.2.2.2.2.2.2 H locs cs sl Q (F0 X.2.2.2.2.2.1 pc la st0) := by
  intro T hT Xs
  obtain ⟨v, st₀, t, T', L, h0, X', hL, e1, e2, hq, stp⟩ := hr T hT Xs
  obtain ⟨v', M', hv, hp, hz, hP, hF1, hF2⟩ := hq
  cases hv
  rw [h0] at hF1 hF2
  obtain ⟨t2, a1, b1⟩ := kk v M' hp T'.heap (locs ++ L) la (by rw [e1]; exact hz) (by rw [e1]; exact hP)
    ⟨Nat.le_trans h3.1 (by rw [e1]; exact hF1), fun q g1 g2 => by rw [e1, hF2 q (Nat.lt_of_lt_of_le g1 h3.1) g2]; exact h3.2.1 q g1 g2, fun q hq => by
      rcases List.mem_append.mp hq with h | h
      · exact h3.2.2 q h
      · exact hL q h⟩ h4 T' rfl X'
  exact ⟨t2, stp t2 a1, b1⟩
theorem RP_at (C : CX l X V own cc nL Ts d mc ms ret) {H : Heap} {locs : List Loc} (h1 : sz V n H) (h2 : va_P V.1 vwCl (wl V n M) H) (h3 : va_S (Ab V) X.2.2.2.2.1.heap H locs) {av : List Value} : ∀ U : State, U.heap = H → X.2.2.2.2.1.WarmedH U.vm → va_Pc av (RP V n M) av.toArray U := by
  intro U hU hW
  obtain ⟨-, -, -, -, -, -, -, hK, hB, -⟩ := C
  subst hU
  exact ⟨rfl, h1, h2, Kn.moved hW.alike (hK.kept fun a g1 g2 => h3.2.1 a g1 g2), Nat.le_trans hB h3.1⟩
/-- what a program decides of a callee -/
def MF (y : MethodName) (n : Nat) : Prop := y.cls ≠ "java/lang/invoke/MethodHandle" ∧ y.cls ≠ "java/lang/invoke/VarHandle" ∧ (parseMethodDescriptor y.desc).map (fun q => q.parameters.length) = some n
theorem J.callS (C : CX l X V own cc nL Ts d mc ms ret) {y : MethodName} {ws ws' : List Cond} {bytes : ByteArray} {maxL d' n' mc' ms' index na : Nat} {ret' : Option FieldType} {As : List Value} (hok : Ok l V y ws d' n n' mc' ms' As M post) (hG : GoodIn Ts (va_wsS own index y ws)) (hw : ws = Cond.code y bytes maxL ret' :: ws') (hmf : MF y na) (hd' : d' + 1 ≤ d) (hml : maxL ≤ 29) (hn : As.length = na) {rest : List Value} (hst : st = As.reverse ++ rest) (hrm : (rest.map fun v => v.category).sum ≤ 8) (hd : decode cc pc = .ok (.invokestatic index, 3)) (hc : cs + mc' ≤ mc) (hs : sl + ms' ≤ ms)
    (kk : ∀ v M', post v M' → J X V Q nL n' (cs + mc') (sl + ms') (pc + 3) ls (v.toList ++ rest) M') : J X V Q nL n cs sl pc ls st M := by
  have C' := C
  obtain ⟨e1, eR, hx, hb, hmx, ho, hts, hK, hB, -⟩ := C
  intro H locs la h1 h2 h3 h4
  subst e1
  refine J_call (va_runS (As := As) (rest := rest) ⟨hx, hb, hmx, ho, hts⟩ hok (va_cwS na hts hG hw rfl rfl hmf ⟨by rw [eR]; exact hd', by rw [eR]; show 8 + (maxL + 11) + 48 * d' ≤ 48 * d; omega⟩) ⟨RP_blind, RP_at C' h1 h2 h3⟩ rfl hn h4.1 hst (lv_room hrm) hd ⟨by rw [eR]; exact hc, by rw [eR]; exact hs⟩) h3 h4 kk
theorem J.callV (C : CX l X V own cc nL Ts d mc ms ret) {y : MethodName} {ws ws' : List Cond} {bytes : ByteArray} {maxL d' n' mc' ms' index na k ci : Nat} {q : vw_C} {fs : List Value} {ret' : Option FieldType} {As : List Value} (hok : Ok l V y ws d' n n' mc' ms' (.ref (ad V k) :: As) M post) (hG : GoodIn Ts (wsV own index q.1 y ws)) (hw : ws = Cond.code y bytes maxL ret' :: ws') (hmf : MF y na) (hcls : y.cls = q.1) (hd' : d' + 1 ≤ d) (hml : maxL ≤ 29) (hk : k < n) (hM : M k = .inr (ci, fs)) (hcl : vwCl[ci]? = some q) (hn : As.length = na) {rest : List Value} (hst : st = As.reverse ++ .ref (ad V k) :: rest) (hrm : (rest.map fun v => v.category).sum ≤ 8) (hd : decode cc pc = .ok (.invokevirtual index, 3)) (hc : cs + mc' ≤ mc) (hs : sl + ms' ≤ ms)
    (kk : ∀ v M', post v M' → J X V Q nL n' (cs + mc') (sl + ms') (pc + 3) ls (v.toList ++ rest) M') : J X V Q nL n cs sl pc ls st M := by
  have C' := C
  obtain ⟨e1, eR, hx, hb, hmx, ho, hts, hK, hB, -⟩ := C
  intro H locs la h1 h2 h3 h4
  subst e1
  refine J_call (va_runV (As := As) (rest := rest) ⟨hx, hb, hmx, ho, hts⟩ hok (cwV na hts hG hw rfl rfl ⟨hcls, hmf⟩ ⟨by rw [eR]; exact hd', by rw [eR]; show 8 + (maxL + 11) + 48 * d' ≤ 48 * d; omega⟩) ⟨RP_blind, va_recv hK.1 h2 hcl (by rw [wl_get hk, hM]), RP_at C' h1 h2 h3⟩ rfl hn h4.1 hst (lv_room hrm) hd ⟨by rw [eR]; exact hc, by rw [eR]; exact hs⟩) h3 h4 kk
end
