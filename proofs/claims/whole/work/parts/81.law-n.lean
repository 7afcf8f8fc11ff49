/-! THE LAW: the world at its entry -/
theorem mi_0 : Cond.instantiable RX0 4 ∈ lw_tbl := by decide +kernel
theorem mi_1 : Cond.instantiable RX1 3 ∈ lw_tbl := by decide +kernel
theorem mi_2 : Cond.instantiable RX2 3 ∈ lw_tbl := by decide +kernel
theorem mi_3 : Cond.instantiable RX3 3 ∈ lw_tbl := by decide +kernel
theorem mi_4 : Cond.instantiable RX4 2 ∈ lw_tbl := by decide +kernel
theorem mi_5 : Cond.instantiable RX5 11 ∈ lw_tbl := by decide +kernel
theorem mi_6 : Cond.instantiable RX6 25 ∈ lw_tbl := by decide +kernel
theorem ma_int : Cond.arrayClass .int ∈ lw_tbl := by decide +kernel
theorem ma_long : Cond.arrayClass .long ∈ lw_tbl := by decide +kernel
theorem ma_boolean : Cond.arrayClass .boolean ∈ lw_tbl := by decide +kernel
theorem mo_Crate : Cond.arrayOver (.object "LaneNets$Crate") ∈ lw_tbl := by decide +kernel
theorem mo_Net : Cond.arrayOver (.object "LaneNets$Net") ∈ lw_tbl := by decide +kernel
theorem mn_0 : Cond.methodLinkNest RX5 9 yX3_init "LaneNets" ∈ lw_tbl := by decide +kernel
theorem mn_1 : Cond.methodLinkNest RX2 24 yX3_init "LaneNets" ∈ lw_tbl := by decide +kernel
theorem mn_2 : Cond.methodLinkNest RX5 35 yX4_init "LaneNets" ∈ lw_tbl := by decide +kernel
theorem mn_3 : Cond.methodLinkNest RX5 45 yX0_init "LaneNets" ∈ lw_tbl := by decide +kernel
theorem mn_4 : Cond.methodLinkNest RX5 68 yX1_init "LaneNets" ∈ lw_tbl := by decide +kernel
theorem ms_0 : Cond.laysStatic "LaneNets" "KIND_ABOVE" "[I" ∈ lw_tbl := by decide +kernel
theorem mj_0 : Cond.initialized "LaneNets" ∈ lw_tbl := by decide +kernel
theorem ms_1 : Cond.laysStatic "LaneNets$Rows" "FIRST_COLUMNS" "[J" ∈ lw_tbl := by decide +kernel
theorem mj_1 : Cond.initialized "LaneNets$Rows" ∈ lw_tbl := by decide +kernel
theorem law_T {args : Array Value} {s : State} (hgv : (Jvm.Cond.and given_1 narrow_1).before args s = true) (A : Nat → Prop) (hA : ∀ a : Nat, a < s.heap.size → ¬ A a) : (∃ t : Nat, (Term.static "LaneNets" "KIND_ABOVE" "[I").eval args s none [] s = some (.ref t) ∧ va_T .int t 5 kaF A s s.heap) ∧ ∃ t : Nat, (Term.static "LaneNets$Rows" "FIRST_COLUMNS" "[J").eval args s none [] s = some (.ref t) ∧ va_T .long t 6 fcF A s s.heap := by
  have hf := flat_of_before _ hgv
  refine ⟨va_Tof (by decide) (hf _ (by decide +kernel)) (va_eqt (z := 5) (hf _ (by decide +kernel))) (fun j hj => ?_) hA, va_Tof (by decide) (hf _ (by decide +kernel)) (va_eqt (z := 6) (hf _ (by decide +kernel))) (fun j hj => ?_) hA⟩
  · rcases (show j = 0 ∨ j = 1 ∨ j = 2 ∨ j = 3 ∨ j = 4 by omega) with e | e | e | e | e <;> subst e
    · exact va_eqt (z := -1) (hf _ (by decide +kernel))
    · exact va_eqt (z := 0) (hf _ (by decide +kernel))
    · exact va_eqt (z := 0) (hf _ (by decide +kernel))
    · exact va_eqt (z := 1) (hf _ (by decide +kernel))
    · exact va_eqt (z := 2) (hf _ (by decide +kernel))
  · rcases (show j = 0 ∨ j = 1 ∨ j = 2 ∨ j = 3 ∨ j = 4 ∨ j = 5 by omega) with e | e | e | e | e | e <;> subst e
    · exact va_eqtl (z := -6148914691236517206) (hf _ (by decide +kernel))
    · exact va_eqtl (z := -3689348814741910324) (hf _ (by decide +kernel))
    · exact va_eqtl (z := -1085102592571150096) (hf _ (by decide +kernel))
    · exact va_eqtl (z := -71777214294589696) (hf _ (by decide +kernel))
    · exact va_eqtl (z := -281470681808896) (hf _ (by decide +kernel))
    · exact va_eqtl (z := -4294967296) (hf _ (by decide +kernel))
theorem arr_of {args : Array Value} {s : State} {ty : FieldType} (h : (Cond.arrayClass ty).before args s = true) : ∃ c : ClassId, ArrOfT s c ty ∧ s.vm.findClass ("[" ++ ty.toString) = some c := by
  obtain ⟨c, k, comp, h1, h2, h3⟩ := Cond.arrayClass_spec h
  exact ⟨c, fun n z => ⟨fun k h => (by cases h), k, h2, comp, h3⟩, h1⟩
theorem arr_ov {args : Array Value} {s : State} {C : String} (h : (Cond.arrayOver (.object C)).before args s = true) : ∃ c : ClassId, ArrOfT s c (.object C) ∧ va_RA s c (.object C) := by
  obtain ⟨comp, c, k, h1, h2, h3, h4, h5⟩ := Cond.arrayOver_spec h
  exact ⟨c, fun n z => ⟨fun k h => (by cases h), k, h3, comp, h4⟩, k, comp, h3, h4, h1, h5⟩
theorem law_K {p : Program} {s : State} {m : MethodId} {meth : Method} {c : Code} {b L : Nat} {xs : Nat → Int32} (C0 : lw_At p s m meth c b L xs) : ∃ V : Vx, V.2.2.1 = s.heap.size ∧ V.2.2.2.2.2 = true ∧ Kn V s s.heap := by
  obtain ⟨hx, hb, hr, hml, hown, hts, hX, hbl, hlocks, hgv⟩ := C0
  have hA : ∀ a : Nat, a < s.heap.size → ¬ (fun q : Nat => s.heap.size ≤ q) a := fun a h => Nat.not_le.mpr h
  obtain ⟨⟨t0, e0, T0⟩, t1, e1, T1⟩ := law_T hgv (fun q : Nat => s.heap.size ≤ q) hA
  obtain ⟨c0, i0, k0⟩ := u_known (C := RX0) (T := TX0) (N := 4) (n := 4) hts wx_0 (hts _ mi_0)
  obtain ⟨c1, i1, k1⟩ := u_known (C := RX1) (T := TX1) (N := 3) (n := 3) hts wx_1 (hts _ mi_1)
  obtain ⟨c2, i2, k2⟩ := u_known (C := RX2) (T := TX2) (N := 3) (n := 3) hts wx_2 (hts _ mi_2)
  obtain ⟨c3, i3, k3⟩ := u_known (C := RX3) (T := TX3) (N := 3) (n := 3) hts wx_3 (hts _ mi_3)
  obtain ⟨c4, i4, k4⟩ := u_known (C := RX4) (T := TX4) (N := 2) (n := 2) hts wx_4 (hts _ mi_4)
  obtain ⟨c5, i5, k5⟩ := u_known (C := RX5) (T := TX5) (N := 11) (n := 11) hts wx_5 (hts _ mi_5)
  obtain ⟨c6, i6, k6⟩ := u_known (C := RX6) (T := TX6) (N := 25) (n := 25) hts wx_6 (hts _ mi_6)
  obtain ⟨a0, p0, q0⟩ := arr_of (hts _ ma_int)
  obtain ⟨a1, p1, q1⟩ := arr_of (hts _ ma_long)
  obtain ⟨a2, p2, q2⟩ := arr_of (hts _ ma_boolean)
  obtain ⟨a3, p3, q3⟩ := arr_ov (hts _ mo_Crate)
  obtain ⟨a4, p4, q4⟩ := arr_ov (hts _ mo_Net)
  refine ⟨((fun k => match k with | 0 => c0 | 1 => c1 | 2 => c2 | 3 => c3 | 4 => c4 | 5 => c5 | _ => c6, fun k => match k with | 0 => i0 | 1 => i1 | 2 => i2 | 3 => i3 | 4 => i4 | 5 => i5 | _ => i6), (a0, a1, a2, a3, a4), s.heap.size, t0, t1, true), rfl, rfl, ⟨fun k q hq => ?_, fun k q hq => ?_⟩, va_Zof (hts _ ms_0) (hts _ mj_0) e0 hA, T0, va_Zof (hts _ ms_1) (hts _ mj_1) e1 hA, T1⟩
  · match k, hq with
    | 0, hq => cases hq; exact k0
    | 1, hq => cases hq; exact k1
    | 2, hq => cases hq; exact k2
    | 3, hq => cases hq; exact k3
    | 4, hq => cases hq; exact k4
    | 5, hq => cases hq; exact k5
    | 6, hq => cases hq; exact k6
    | k + 7, hq => simp [vwCl] at hq
  · match k, hq with
    | 0, hq => cases hq; exact ⟨p0, q0⟩
    | 1, hq => cases hq; exact ⟨p1, q1⟩
    | 2, hq => cases hq; exact ⟨p2, q2⟩
    | 3, hq => cases hq; exact ⟨p3, q3⟩
    | 4, hq => cases hq; exact ⟨p4, q4⟩
    | k + 5, hq => simp [tyV] at hq
theorem law_N {p : Program} {s : State} {m : MethodId} {meth : Method} {c : Code} {b L : Nat} {xs : Nat → Int32} (C0 : lw_At p s m meth c b L xs) : NW s := by
  obtain ⟨hx, hb, hr, hml, hown, hts, hX, hbl, hlocks, hgv⟩ := C0
  exact ⟨va_Nw.of rfl (hts _ mn_0), va_Nw.of rfl (hts _ mn_1), va_Nw.of rfl (hts _ mn_2), va_Nw.of rfl (hts _ mn_3), va_Nw.of rfl (hts _ mn_4), va_AO.of (hts _ mo_Net), va_AO.of (hts _ mo_Crate)⟩
