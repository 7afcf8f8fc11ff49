/-! CONSTRUCTORS: links between nest mates; calls of constructors; the small ones -/
def NW (U : State) : Prop := va_Nw (.methodLinkNest RX5 9 yX3_init "LaneNets") U ∧ va_Nw (.methodLinkNest RX2 24 yX3_init "LaneNets") U ∧ va_Nw (.methodLinkNest RX5 35 yX4_init "LaneNets") U ∧ va_Nw (.methodLinkNest RX5 45 yX0_init "LaneNets") U ∧ va_Nw (.methodLinkNest RX5 68 yX1_init "LaneNets") U ∧ va_AO "LaneNets$Net" U ∧ va_AO "LaneNets$Crate" U
theorem NW.warm {s U : State} (hW : s.WarmedH U.vm) (h : NW s) : NW U := ⟨va_Nw.warmM hW h.1, va_Nw.warmM hW h.2.1, va_Nw.warmM hW h.2.2.1, va_Nw.warmM hW h.2.2.2.1, va_Nw.warmM hW h.2.2.2.2.1, va_AO.moved hW.alike h.2.2.2.2.2.1, va_AO.moved hW.alike h.2.2.2.2.2.2⟩
theorem NW.same {u U : State} (e : u.vm = U.vm) (h : NW u) : NW U := ⟨va_Nw.same rfl e h.1, va_Nw.same rfl e h.2.1, va_Nw.same rfl e h.2.2.1, va_Nw.same rfl e h.2.2.2.1, va_Nw.same rfl e h.2.2.2.2.1, va_AO.moved (by rw [e]; exact Vm.Alike.refl _) h.2.2.2.2.2.1, va_AO.moved (by rw [e]; exact Vm.Alike.refl _) h.2.2.2.2.2.2⟩
def RN (V : Vx) (n : Nat) (M : Nat → va_E) (U : State) : Prop := RP V n M U ∧ NW U
def OkN (l : Launch) (V : Vx) (y : MethodName) (ws : List Cond) (d n n' mc ms : Nat) (av : List Value) (M : Nat → va_E) (post : Option Value → (Nat → va_E) → Prop) : Prop := Met l y ws (rmd d mc ms) (va_Pc av (RN V n M)) (QP V n' post) mc ms (Ab V)
theorem RN_blind {V : Vx} {n : Nat} {M : Nat → va_E} {av : List Value} : FrameBlind (va_Pc av (RN V n M)) := by
  intro a U g mk h
  obtain ⟨h0, ⟨h1, h2, h3, h4⟩, h5⟩ := h
  exact ⟨h0, ⟨h1, h2, Kn.moved (u := U) (U := U.calling g mk a) (Vm.Alike.refl U.vm) h3, h4⟩, NW.same (u := U) (U := U.calling g mk a) rfl h5⟩
theorem OkN.of {l : Launch} {V : Vx} {y : MethodName} {ws ws' : List Cond} {d n n' mc ms maxL : Nat} {av : List Value} {M : Nat → va_E} {post : Option Value → (Nat → va_E) → Prop} {cc : ByteArray} {ret : Option FieldType}
    (hy : plainName y.cls = true) (hw : ws = Cond.code y cc maxL ret :: ws') (hlen : (lg_sl av).length ≤ maxL)
    (body : ∀ X : Cx, X.2.2.2.2.2.2.2.2.1.name = y.name → CX l X V y.cls cc maxL ws d mc ms ret → NW X.2.2.2.2.1 → J X V (QX X V n' mc ms post) maxL n 0 0 0 (lv_args 0 av) [] M) : OkN l V y ws d n n' mc ms av M post := by
  refine Met.ofW (cc := cc) (maxL := maxL) (ret := ret) hy hw ?_
  intro p e s m args below meth c s₁ B hml hv
  obtain ⟨rfl, ⟨h1, h2, h3, h4⟩, h5⟩ := hv
  have hl := lv_entry av (n := maxL) hlen
  rw [lg_entry_eq]
  exact body (p, l, e, rmd d mc ms, s, m, av.toArray, below, meth, c) (name_of_methodNamed B.named B.method).1 ⟨rfl, rfl, B.exec, B.bytes, hml, findClass_of_methodNamed B.named, atoms_spec (ws := ws) B.pre, h3, h4, B.notSynchronized, B.returns⟩ h5 s.heap [] _ h1 h2 va_S.rf hl
section
variable {l : Launch} {X : Cx} {V : Vx} {Q : State → Prop} {own : String} {cc : ByteArray} {nL n cs sl pc d mc ms : Nat} {Ts : List Cond} {ret : Option FieldType} {ls ls' : List (Nat × Value)} {st : List Value} {M : Nat → va_E} {post : Option Value → (Nat → va_E) → Prop}
theorem RN_at (C : CX l X V own cc nL Ts d mc ms ret) (hN : NW X.2.2.2.2.1) {H : Heap} {locs : List Loc} (h1 : sz V n H) (h2 : va_P V.1 vwCl (wl V n M) H) (h3 : va_S (Ab V) X.2.2.2.2.1.heap H locs) {av : List Value} : ∀ U : State, U.heap = H → X.2.2.2.2.1.WarmedH U.vm → va_Pc av (RN V n M) av.toArray U := fun U hU hW => by
  obtain ⟨q1, q2⟩ := RP_at C h1 h2 h3 (av := av) U hU hW
  exact ⟨q1, q2, NW.warm hW hN⟩
/-- a constructor of a nest mate -/
theorem J.callIN (C : CX l X V own cc nL Ts d mc ms ret) {y : MethodName} {ws ws' : List Cond} {bytes : ByteArray} {maxL d' n' mc' ms' index k : Nat} {host : String} (hok : Ok l V y ws d' n n' mc' ms' [.ref (ad V k)] M post) (hG : GoodIn Ts ws) (hw : ws = Cond.code y bytes maxL none :: ws') (hl : va_Nw (.methodLinkNest own index y host) X.2.2.2.2.1) (w1 : Cond.initialized y.cls ∈ Ts) (w2 : Cond.instanceMethod y ∈ Ts) (hy1 : y.name = "<init>") (hmf : MF y 0) (hd' : d' + 1 ≤ d) (hml : maxL ≤ 29) {rest : List Value} (hst : st = .ref (ad V k) :: rest) (hrm : (rest.map fun v => v.category).sum ≤ 8) (hd : decode cc pc = .ok (.invokespecial index, 3)) (hc : cs + mc' ≤ mc) (hs : sl + ms' ≤ ms)
    (kk : ∀ v M', post v M' → J X V Q nL n' (cs + mc') (sl + ms') (pc + 3) ls (v.toList ++ rest) M') : J X V Q nL n cs sl pc ls st M := by
  have C' := C
  obtain ⟨e1, eR, hx, hb, hmx, ho, hts, hK, hB, -⟩ := C
  intro H locs la h1 h2 h3 h4
  subst e1
  refine J_call (va_runIN (As := []) (rest := rest) (host := host) ⟨hx, hb, hmx, ho, hts⟩ hok ⟨va_cnB 0 hts hG hw rfl rfl hl (hts _ w1) hmf ⟨by rw [eR]; exact hd', by rw [eR]; show 8 + (maxL + 11) + 48 * d' ≤ 48 * d; omega⟩, hy1, hts _ w2⟩ ⟨RP_blind, RP_at C' h1 h2 h3⟩ rfl rfl h4.1 hst (lv_room hrm) hd ⟨by rw [eR]; exact hc, by rw [eR]; exact hs⟩) h3 h4 kk
/-- a constructor that needs the links, of a class that all see -/
theorem J.callI (C : CX l X V own cc nL Ts d mc ms ret) (hN : NW X.2.2.2.2.1) {y : MethodName} {ws ws' : List Cond} {bytes : ByteArray} {maxL d' n' mc' ms' index k : Nat} (hok : OkN l V y ws d' n n' mc' ms' [.ref (ad V k)] M post) (hG : GoodIn Ts ws) (hw : ws = Cond.code y bytes maxL none :: ws') (w0 : Cond.methodLink own index y ∈ Ts) (w1 : Cond.initialized y.cls ∈ Ts) (w2 : Cond.instanceMethod y ∈ Ts) (hy1 : y.name = "<init>") (hmf : MF y 0) (hd' : d' + 1 ≤ d) (hml : maxL ≤ 29) {rest : List Value} (hst : st = .ref (ad V k) :: rest) (hrm : (rest.map fun v => v.category).sum ≤ 8) (hd : decode cc pc = .ok (.invokespecial index, 3)) (hc : cs + mc' ≤ mc) (hs : sl + ms' ≤ ms)
    (kk : ∀ v M', post v M' → J X V Q nL n' (cs + mc') (sl + ms') (pc + 3) ls (v.toList ++ rest) M') : J X V Q nL n cs sl pc ls st M := by
  have C' := C
  obtain ⟨e1, eR, hx, hb, hmx, ho, hts, hK, hB, -⟩ := C
  intro H locs la h1 h2 h3 h4
  subst e1
  refine J_call (va_runI (As := []) (rest := rest) ⟨hx, hb, hmx, ho, hts⟩ hok (cwI 0 hts hG hw rfl rfl (hts _ w1) (hts _ w0) (hts _ w2) hy1 hmf ⟨by rw [eR]; exact hd', by rw [eR]; show 8 + (maxL + 11) + 48 * d' ≤ 48 * d; omega⟩) ⟨RN_blind, RN_at C' hN h1 h2 h3⟩ rfl rfl h4.1 hst (lv_room hrm) hd ⟨by rw [eR]; exact hc, by rw [eR]; exact hs⟩) h3 h4 kk
/-- the same, of one that needs no links -/
theorem J.callI0 (C : CX l X V own cc nL Ts d mc ms ret) {y : MethodName} {ws ws' : List Cond} {bytes : ByteArray} {maxL d' n' mc' ms' index k : Nat} (hok : Ok l V y ws d' n n' mc' ms' [.ref (ad V k)] M post) (hG : GoodIn Ts ws) (hw : ws = Cond.code y bytes maxL none :: ws') (w0 : Cond.methodLink own index y ∈ Ts) (w1 : Cond.initialized y.cls ∈ Ts) (w2 : Cond.instanceMethod y ∈ Ts) (hy1 : y.name = "<init>") (hmf : MF y 0) (hd' : d' + 1 ≤ d) (hml : maxL ≤ 29) {rest : List Value} (hst : st = .ref (ad V k) :: rest) (hrm : (rest.map fun v => v.category).sum ≤ 8) (hd : decode cc pc = .ok (.invokespecial index, 3)) (hc : cs + mc' ≤ mc) (hs : sl + ms' ≤ ms)
    (kk : ∀ v M', post v M' → J X V Q nL n' (cs + mc') (sl + ms') (pc + 3) ls (v.toList ++ rest) M') : J X V Q nL n cs sl pc ls st M := by
  have C' := C
  obtain ⟨e1, eR, hx, hb, hmx, ho, hts, hK, hB, -⟩ := C
  intro H locs la h1 h2 h3 h4
  subst e1
  refine J_call (va_runI (As := []) (rest := rest) ⟨hx, hb, hmx, ho, hts⟩ hok (cwI 0 hts hG hw rfl rfl (hts _ w1) (hts _ w0) (hts _ w2) hy1 hmf ⟨by rw [eR]; exact hd', by rw [eR]; show 8 + (maxL + 11) + 48 * d' ≤ 48 * d; omega⟩) ⟨RP_blind, RP_at C' h1 h2 h3⟩ rfl rfl h4.1 hst (lv_room hrm) hd ⟨by rw [eR]; exact hc, by rw [eR]; exact hs⟩) h3 h4 kk
end
def Iz : Nat → Nat → Int32 := fun _ _ => 0
def Lz : Nat → Nat → Int64 := fun _ _ => 0
/-- an object and its row, both new -/
def upc (V : Vx) (M : Nat → va_E) (k : Nat) : Nat → va_E := va_up (va_up M k (mm V Iz Lz k)) (k + 1) (mm V Iz Lz (k + 1))
theorem upc_id {V : Vx} {M : Nat → va_E} {k : Nat} {e : va_E} (h1 : M k = mm V Iz Lz k) (h2 : M (k + 1) = mm V Iz Lz (k + 1)) : upc V (va_up M k e) k = M := by
  funext q
  unfold upc
  by_cases a : q = k + 1
  · subst a; rw [va_up_self, h2]
  · rw [va_up_ne _ _ a]
    by_cases b : q = k
    · subst b; rw [va_up_self, h1]
    · rw [va_up_ne _ _ b, va_up_ne _ _ b]
theorem up_id {M : Nat → va_E} {k : Nat} {e : va_E} (h : M k = e) : va_up M k e = M := by
  funext q
  by_cases a : q = k
  · subst a; rw [va_up_self, h]
  · rw [va_up_ne _ _ a]
theorem up_up {M : Nat → va_E} {k : Nat} {e e' : va_E} : va_up (va_up M k e) k e' = va_up M k e' := by
  funext q
  by_cases a : q = k
  · subst a; rw [va_up_self, va_up_self]
  · rw [va_up_ne _ _ a, va_up_ne _ _ a, va_up_ne _ _ a]
theorem up_cm {M : Nat → va_E} {j k : Nat} {e e' : va_E} (h : j ≠ k) : va_up (va_up M j e) k e' = va_up (va_up M k e') j e := by
  funext q
  by_cases a : q = k
  · subst a; rw [va_up_self, va_up_ne _ _ (fun z => h z.symm), va_up_self]
  · rw [va_up_ne _ _ a]
    by_cases b : q = j
    · subst b; rw [va_up_self, va_up_self]
    · rw [va_up_ne _ _ b, va_up_ne _ _ b, va_up_ne _ _ a]
theorem kdn {k : Nat} (h : kd k = 3 ∨ kd k = 1 ∨ kd k = 4 ∨ kd k = 0) : (kd k = 3 → kd (k + 1) = 7 ∧ ln (k + 1) = 40) ∧ (kd k = 1 → kd (k + 1) = 8 ∧ ln (k + 1) = 12) ∧ (kd k = 4 → kd (k + 1) = 8 ∧ ln (k + 1) = 8) ∧ (kd k = 0 → kd (k + 1) = 7 ∧ ln (k + 1) = 5) := by
  have key : ∀ k, k < 106 → (kd k = 3 → kd (k + 1) = 7 ∧ ln (k + 1) = 40) ∧ (kd k = 1 → kd (k + 1) = 8 ∧ ln (k + 1) = 12) ∧ (kd k = 4 → kd (k + 1) = 8 ∧ ln (k + 1) = 8) ∧ (kd k = 0 → kd (k + 1) = 7 ∧ ln (k + 1) = 5) := by decide +kernel
  refine key k ?_
  rcases h with h | h | h | h <;> exact kd_lt h (by decide)
theorem ffX3_init_18 : FF wsX3_init RX3 18 3 2 (.array .int) := ⟨RX3, TX3, 3, tyX3, rfl, hin_X3_init_3, by decide, by decide +kernel, rfl, tyX3_ok, nmX3, rfl, by decide +kernel, rfl⟩
theorem ffX1_init_18 : FF wsX1_init RX1 18 1 2 (.array .long) := ⟨RX1, TX1, 3, tyX1, rfl, hin_X1_init_1, by decide, by decide +kernel, rfl, tyX1_ok, nmX1, rfl, by decide +kernel, rfl⟩
theorem ffX4_init_9 : FF wsX4_init RX4 9 4 0 (.array .long) := ⟨RX4, TX4, 2, tyX4, rfl, hin_X4_init_4, by decide, by decide +kernel, rfl, tyX4_ok, nmX4, rfl, by decide +kernel, rfl⟩
theorem ffX0_init_9 : FF wsX0_init RX0 9 0 0 (.array .int) := ⟨RX0, TX0, 4, tyX0, rfl, hin_X0_init_0, by decide, by decide +kernel, rfl, tyX0_ok, nmX0, rfl, by decide +kernel, rfl⟩
theorem ffX2_init_11 : FF wsX2_init RX2 11 2 0 (.array (.object "LaneNets$Net")) := ⟨RX2, TX2, 3, tyX2, rfl, hin_X2_init_2, by decide, by decide +kernel, rfl, tyX2_ok, nmX2, rfl, by decide +kernel, rfl⟩
theorem ffX5_init_10 : FF wsX5_init RX5 10 5 0 (.object "LaneNets$Net") := ⟨RX5, TX5, 11, tyX5, rfl, hin_X5_init_5, by decide, by decide +kernel, rfl, tyX5_ok, nmX5, rfl, by decide +kernel, rfl⟩
theorem ffX5_init_16 : FF wsX5_init RX5 16 5 1 (.array (.object "LaneNets$Net")) := ⟨RX5, TX5, 11, tyX5, rfl, hin_X5_init_5, by decide, by decide +kernel, rfl, tyX5_ok, nmX5, rfl, by decide +kernel, rfl⟩
theorem ffX5_init_23 : FF wsX5_init RX5 23 5 2 (.object "LaneNets$History") := ⟨RX5, TX5, 11, tyX5, rfl, hin_X5_init_5, by decide, by decide +kernel, rfl, tyX5_ok, nmX5, rfl, by decide +kernel, rfl⟩
theorem ffX5_init_29 : FF wsX5_init RX5 29 5 3 (.array (.object "LaneNets$Crate")) := ⟨RX5, TX5, 11, tyX5, rfl, hin_X5_init_5, by decide, by decide +kernel, rfl, tyX5_ok, nmX5, rfl, by decide +kernel, rfl⟩
theorem ffX5_init_36 : FF wsX5_init RX5 36 5 4 (.object "LaneNets$Rows") := ⟨RX5, TX5, 11, tyX5, rfl, hin_X5_init_5, by decide, by decide +kernel, rfl, tyX5_ok, nmX5, rfl, by decide +kernel, rfl⟩
theorem ffX5_init_40 : FF wsX5_init RX5 40 5 5 (.object "LaneNets$Rows") := ⟨RX5, TX5, 11, tyX5, rfl, hin_X5_init_5, by decide, by decide +kernel, rfl, tyX5_ok, nmX5, rfl, by decide +kernel, rfl⟩
theorem ffX5_init_46 : FF wsX5_init RX5 46 5 6 (.object "LaneNets$Completion") := ⟨RX5, TX5, 11, tyX5, rfl, hin_X5_init_5, by decide, by decide +kernel, rfl, tyX5_ok, nmX5, rfl, by decide +kernel, rfl⟩
theorem ffX5_init_50 : FF wsX5_init RX5 50 5 7 (.array .int) := ⟨RX5, TX5, 11, tyX5, rfl, hin_X5_init_5, by decide, by decide +kernel, rfl, tyX5_ok, nmX5, rfl, by decide +kernel, rfl⟩
theorem ffX5_init_54 : FF wsX5_init RX5 54 5 8 (.array .int) := ⟨RX5, TX5, 11, tyX5, rfl, hin_X5_init_5, by decide, by decide +kernel, rfl, tyX5_ok, nmX5, rfl, by decide +kernel, rfl⟩
theorem ffX6_init_13 : FF wsX6_init RX6 13 6 2 (.array .int) := ⟨RX6, TX6, 25, tyX6, rfl, hin_X6_init_6, by decide, by decide +kernel, rfl, tyX6_ok, nmX6, rfl, by decide +kernel, rfl⟩
theorem ffX6_init_17 : FF wsX6_init RX6 17 6 3 (.array .int) := ⟨RX6, TX6, 25, tyX6, rfl, hin_X6_init_6, by decide, by decide +kernel, rfl, tyX6_ok, nmX6, rfl, by decide +kernel, rfl⟩
theorem ffX6_init_20 : FF wsX6_init RX6 20 6 4 (.array .int) := ⟨RX6, TX6, 25, tyX6, rfl, hin_X6_init_6, by decide, by decide +kernel, rfl, tyX6_ok, nmX6, rfl, by decide +kernel, rfl⟩
theorem ffX6_init_23 : FF wsX6_init RX6 23 6 5 (.array .boolean) := ⟨RX6, TX6, 25, tyX6, rfl, hin_X6_init_6, by decide, by decide +kernel, rfl, tyX6_ok, nmX6, rfl, by decide +kernel, rfl⟩
theorem ffX6_init_27 : FF wsX6_init RX6 27 6 6 (.array .int) := ⟨RX6, TX6, 25, tyX6, rfl, hin_X6_init_6, by decide, by decide +kernel, rfl, tyX6_ok, nmX6, rfl, by decide +kernel, rfl⟩
theorem ffX6_init_30 : FF wsX6_init RX6 30 6 7 (.array .int) := ⟨RX6, TX6, 25, tyX6, rfl, hin_X6_init_6, by decide, by decide +kernel, rfl, tyX6_ok, nmX6, rfl, by decide +kernel, rfl⟩
theorem ffX6_init_33 : FF wsX6_init RX6 33 6 8 (.array .int) := ⟨RX6, TX6, 25, tyX6, rfl, hin_X6_init_6, by decide, by decide +kernel, rfl, tyX6_ok, nmX6, rfl, by decide +kernel, rfl⟩
theorem ffX6_init_36 : FF wsX6_init RX6 36 6 9 (.array .int) := ⟨RX6, TX6, 25, tyX6, rfl, hin_X6_init_6, by decide, by decide +kernel, rfl, tyX6_ok, nmX6, rfl, by decide +kernel, rfl⟩
theorem ffX6_init_39 : FF wsX6_init RX6 39 6 10 (.array .int) := ⟨RX6, TX6, 25, tyX6, rfl, hin_X6_init_6, by decide, by decide +kernel, rfl, tyX6_ok, nmX6, rfl, by decide +kernel, rfl⟩
theorem ffX6_init_42 : FF wsX6_init RX6 42 6 11 (.array .boolean) := ⟨RX6, TX6, 25, tyX6, rfl, hin_X6_init_6, by decide, by decide +kernel, rfl, tyX6_ok, nmX6, rfl, by decide +kernel, rfl⟩
theorem ffX6_init_45 : FF wsX6_init RX6 45 6 13 (.array .int) := ⟨RX6, TX6, 25, tyX6, rfl, hin_X6_init_6, by decide, by decide +kernel, rfl, tyX6_ok, nmX6, rfl, by decide +kernel, rfl⟩
theorem ffX6_init_48 : FF wsX6_init RX6 48 6 14 (.array .int) := ⟨RX6, TX6, 25, tyX6, rfl, hin_X6_init_6, by decide, by decide +kernel, rfl, tyX6_ok, nmX6, rfl, by decide +kernel, rfl⟩
theorem ffX6_init_51 : FF wsX6_init RX6 51 6 15 (.array .long) := ⟨RX6, TX6, 25, tyX6, rfl, hin_X6_init_6, by decide, by decide +kernel, rfl, tyX6_ok, nmX6, rfl, by decide +kernel, rfl⟩
theorem ffX6_init_55 : FF wsX6_init RX6 55 6 16 (.array .int) := ⟨RX6, TX6, 25, tyX6, rfl, hin_X6_init_6, by decide, by decide +kernel, rfl, tyX6_ok, nmX6, rfl, by decide +kernel, rfl⟩
theorem ffX6_init_58 : FF wsX6_init RX6 58 6 19 (.array .int) := ⟨RX6, TX6, 25, tyX6, rfl, hin_X6_init_6, by decide, by decide +kernel, rfl, tyX6_ok, nmX6, rfl, by decide +kernel, rfl⟩
theorem ffX6_init_61 : FF wsX6_init RX6 61 6 20 (.array .long) := ⟨RX6, TX6, 25, tyX6, rfl, hin_X6_init_6, by decide, by decide +kernel, rfl, tyX6_ok, nmX6, rfl, by decide +kernel, rfl⟩
theorem ffX6_init_64 : FF wsX6_init RX6 64 6 21 (.array .boolean) := ⟨RX6, TX6, 25, tyX6, rfl, hin_X6_init_6, by decide, by decide +kernel, rfl, tyX6_ok, nmX6, rfl, by decide +kernel, rfl⟩
theorem ffX6_init_67 : FF wsX6_init RX6 67 6 22 (.array .int) := ⟨RX6, TX6, 25, tyX6, rfl, hin_X6_init_6, by decide, by decide +kernel, rfl, tyX6_ok, nmX6, rfl, by decide +kernel, rfl⟩
theorem ffX6_init_70 : FF wsX6_init RX6 70 6 23 (.array .int) := ⟨RX6, TX6, 25, tyX6, rfl, hin_X6_init_6, by decide, by decide +kernel, rfl, tyX6_ok, nmX6, rfl, by decide +kernel, rfl⟩
theorem ffX6_init_73 : FF wsX6_init RX6 73 6 24 (.array .int) := ⟨RX6, TX6, 25, tyX6, rfl, hin_X6_init_6, by decide, by decide +kernel, rfl, tyX6_ok, nmX6, rfl, by decide +kernel, rfl⟩
