/-! THE CLAIM OUT OF ONE WALK OF THE LAW'S BODY. Your part is whole_start (and what it stands on); all else here is the same for every law, but numbers. -/
def R_law : String := "LaneNetsLaw"
def lw_P (b : Addr) (xs : List Int32) (args : Array Value) (s : State) : Prop := args = #[.ref b] ∧ s.IntsAt b xs ∧ xs.length ≤ 3072 ∧ (Jvm.Cond.and given_1 narrow_1).before args s = true
def lw_Q (_ : Array Value) (s : State) (o : Outcome) (t : State) : Prop := o = .returned (some (.int 1)) ∧ Framed s o t [] 600000 7302250
def lw_Z (below : List Frame) (a : Array Value) (s : State) : State → Prop := fun t => ∃ o, t.status = .running ∧ Ended t below o ∧ lw_Q a s o t
/-- the law's own end, with 1 on the stack, nothing written that was there before, its room as the claim has it -/
theorem lw_ret {p : Program} {l : Launch} {e : Env} {s : State} {m : MethodId} {below : List Frame} {meth : Method} {c : Code} {b : Nat} (hx : p.tables.exec = Jvm.exec) (hb : c.code = code) (hr : meth.sig.returnType = ret) (hlocks : meth.locks = false) {pc : Nat} {H : Heap} {ls : Array Slot} (hdg : decode code pc = .ok (.ireturn, 1)) : W p l e room_1 s m #[Value.ref b] below meth c H [] 600000 7302250 (lw_Z below #[Value.ref b] s) (F0 m pc ls [.int 1]) := by
  intro T hT X
  obtain ⟨fs, hret, hrun, hended, hW, hframe⟩ := X.leave (v := some (.int 1)) (hlocks := hlocks) (fun h => by rw [hr] at h; cases h)
  have hmeth' : T.vm.method? m = some meth := X.method'
  refine ⟨T.setFrames fs, ?_, .returned (some (.int 1)), hrun, hended, rfl, ⟨_, rfl⟩, hW, hframe⟩
  jvm_step X.here [X.here.top, hx, hb, hdg, hmeth', hr, ret, narrow_b1]
  (try refine ⟨rfl, ?_⟩); (try refine ⟨rfl, ?_⟩)
  first | (intro acts; rw [hret _ acts rfl rfl rfl]) | rw [hret _ _ rfl rfl rfl]
  exact Steps.refl _
/-- what holds at the law's entry: the machine, the code, the tables' words (any of lw_tbl by 'hts w (by decide +kernel)'), the script of L ints xs at the cell b, what the Statement gives of the start (any of its parts by flat_of_before) -/
def lw_At (p : Program) (s : State) (m : MethodId) (meth : Method) (c : Code) (b L : Nat) (xs : Nat → Int32) : Prop :=
  p.tables.exec = Jvm.exec ∧ c.code = code ∧ meth.sig.returnType = ret ∧ c.maxLocals = 4 ∧ s.vm.findClass R_law = some m.cls ∧ (∀ w ∈ lw_tbl, w.before #[Value.ref b] s = true) ∧ va_X b L xs s s.heap ∧ b < s.heap.size ∧ meth.locks = false ∧ (Jvm.Cond.and given_1 narrow_1).before #[Value.ref b] s = true
theorem lw_retR {p : Program} {l : Launch} {e : Env} {s : State} {m : MethodId} {below : List Frame} {meth : Method} {c : Code} {b : Nat} {R : Room} (hx : p.tables.exec = Jvm.exec) (hb : c.code = code) (hr : meth.sig.returnType = ret) (hlocks : meth.locks = false) {pc : Nat} {H : Heap} {ls : Array Slot} (hdg : decode code pc = .ok (.ireturn, 1)) : W p l e R s m #[Value.ref b] below meth c H [] 600000 7302250 (lw_Z below #[Value.ref b] s) (F0 m pc ls [.int 1]) := by
  intro T hT X
  obtain ⟨fs, hret, hrun, hended, hW, hframe⟩ := X.leave (v := some (.int 1)) (hlocks := hlocks) (fun h => by rw [hr] at h; cases h)
  have hmeth' : T.vm.method? m = some meth := X.method'
  refine ⟨T.setFrames fs, ?_, .returned (some (.int 1)), hrun, hended, rfl, ⟨_, rfl⟩, hW, hframe⟩
  jvm_step X.here [X.here.top, hx, hb, hdg, hmeth', hr, ret, narrow_b1]
  (try refine ⟨rfl, ?_⟩); (try refine ⟨rfl, ?_⟩)
  first | (intro acts; rw [hret _ acts rfl rfl rfl]) | rw [hret _ _ rfl rfl rfl]
  exact Steps.refl _
theorem rm_less {s : State} {pl : Platform} {big small : Room} (h : s.hasRoom pl big = true) (d : small.frames ≤ big.frames ∧ small.locals ≤ big.locals ∧ small.cells ≤ big.cells ∧ small.slots ≤ big.slots) : s.hasRoom pl small = true :=
  have k := State.hasRoom_stack h
  have q := State.hasRoom_heap h
  have up : ∀ {x y z : Nat} (w : Nat), x ≤ y → w + y ≤ z → w + x ≤ z := fun w o u => Nat.le_trans (Nat.add_le_add_left o w) u
  State.hasRoom_of (State.hasRoom_plain h) (up _ d.1 k.1) (up _ d.2.1 k.2.2.1) (up _ d.2.2.1 q.1) (up _ d.2.2.2 q.2) (Bool.and_eq_true_iff.mp h).2
    (Nat.le_trans (Nat.add_le_add_right (Nat.add_le_add_left d.2.1 _) _) (State.hasRoom_real h))
theorem W_dn {p : Program} {l : Launch} {e : Env} {R R' : Room} {s : State} {m : MethodId} {args : Array Value} {below : List Frame} {meth : Method} {c : Code} {H : Heap} {locs : List Loc} {cells slots : Nat} {Q : State → Prop} {g : JFrame} (hf : R'.frames ≤ R.frames) (hl : R'.locals ≤ R.locals) (hc : R'.cells ≤ R.cells) (hs : R'.slots ≤ R.slots) (k : W p l e R' s m args below meth c H locs cells slots Q g) : W p l e R s m args below meth c H locs cells slots Q g := fun T hT X => k T hT { X with room := rm_less X.room ⟨hf, hl, hc, hs⟩ }
section
variable {l : Launch} {X : Cx} {V : Vx} {Q : State → Prop} {own : String} {cc : ByteArray} {nL n cs sl pc d mc ms : Nat} {Ts : List Cond} {ret : Option FieldType} {ls : List (Nat × Value)} {st : List Value} {M : Nat → va_E}
theorem J.sld (C : CX l X V own cc nL Ts d mc ms ret) {b Ln j : Nat} {xs : Nat → Int32} {x : Int32} (hX : va_X b Ln xs X.2.2.2.2.1 X.2.2.2.2.1.heap) (hbl : b < X.2.2.2.2.1.heap.size) (hB : V.2.2.1 = X.2.2.2.2.1.heap.size) (hx0 : x = nI j) (hj : j < Ln) (hL : Ln ≤ 3072) (hd : decode cc pc = .ok (.iaload, 1)) (kk : J X V Q nL n cs sl (pc + 1) ls (.int (xs j) :: st) M) : J X V Q nL n cs sl pc ls (.int x :: .ref b :: st) M := by
  obtain ⟨e1, eR, hx, hb, hml, ho, hts, hK, -⟩ := C
  intro H locs la h1 h2 h3 h4
  subst hx0
  have hc : (nI j).toNatClampNeg = j := nI_clamp (by omega)
  have hbA : ¬ Ab V b := by show ¬ V.2.2.1 ≤ b; omega
  exact va_sld hx hb hX hbl hbA h3 (vp_in_nI hj (by omega)) hd (by rw [hc]; exact kk H locs la h1 h2 h3 h4)
theorem J.slen (C : CX l X V own cc nL Ts d mc ms ret) {b Ln : Nat} {xs : Nat → Int32} (hX : va_X b Ln xs X.2.2.2.2.1 X.2.2.2.2.1.heap) (hbl : b < X.2.2.2.2.1.heap.size) (hB : V.2.2.1 = X.2.2.2.2.1.heap.size) (hd : decode cc pc = .ok (.arraylength, 1)) (kk : J X V Q nL n cs sl (pc + 1) ls (.int (nI Ln) :: st) M) : J X V Q nL n cs sl pc ls (.ref b :: st) M := by
  obtain ⟨e1, eR, hx, hb, hml, ho, hts, hK, -⟩ := C
  intro H locs la h1 h2 h3 h4
  have hbA : ¬ Ab V b := by show ¬ V.2.2.1 ≤ b; omega
  exact va_slen hx hb hX hbl hbA h3 hd (kk H locs la h1 h2 h3 h4)
end
/-- the same world, the count of its cells no longer watched -/
def fV (V : Vx) : Vx := (V.1, V.2.1, V.2.2.1, V.2.2.2.1, V.2.2.2.2.1, false)
theorem mm_fV (V : Vx) : mm (fV V) = mm V := by
  obtain ⟨a, b, c, d, e, f⟩ := V
  rfl
theorem J_flag {X : Cx} {V : Vx} {Q : State → Prop} {nL n cs sl pc : Nat} {ls : List (Nat × Value)} {st : List Value} {I : Nat → Nat → Int32} {L : Nat → Nat → Int64} (kk : J X (fV V) Q nL n cs sl pc ls st (mm (fV V) I L)) : J X V Q nL n cs sl pc ls st (mm V I L) := by
  rw [mm_fV] at kk
  obtain ⟨a, b, c, d, e, f⟩ := V
  exact fun H locs la h1 h2 h3 h4 => kk H locs la (fun q => by cases q) h2 h3 h4
theorem Kn_fV {V : Vx} {U : State} {H : Heap} (h : Kn V U H) : Kn (fV V) U H := by
  obtain ⟨a, b, c, d, e, f⟩ := V
  exact h
-- what the calls leave as it was
theorem AbM_cg {I I' : Nat → Nat → Int32} {L L' : Nat → Nat → Int64} {g : Sg} (h : AbM I L g) (e : frC I I') (e2 : frCL L L') : AbM I' L' g := AbM_scr h (fun k a _ => e k a) (e2 98 (by decide))
theorem AbC_cg {I I' : Nat → Nat → Int32} {L L' : Nat → Nat → Int64} {g : Sg} (h : AbC I L g) (e : frm I I') (e2 : frmL L L') : AbC I' L' g := AbC_fr h (fun k a _ _ => e k a) (fun k a _ => e2 k a)
theorem AbM_fin {I : Nat → Nat → Int32} {L : Nat → Nat → Int64} {g : Sg} {b : Bool} (h : AbM I L g) : AbM (finM b I) L (gX b g g) := by
  cases b
  · exact h
  · exact AbM_F h
theorem frm_fin {I : Nat → Nat → Int32} {b : Bool} : frm I (finM b I) := by
  cases b
  · exact fun _ _ => rfl
  · exact fun k hk => up2_n _ _ _ (by omega)
-- the acts that leave the state, or add a finding
theorem kG_c {g g1 g2 : Sg} {b : Bool} {x y : Int32} (h1 : okG g1) (h2 : okG g2) : okG (cond b (x, g1) (y, g2)).2 := by cases b <;> assumption
theorem kG_of {g : Sg} {i o : Option Nat} (ok : okG g) : okG (op_of g i o).2 := by
  unfold op_of
  cases tb (inO i g.1.2.1 ∧ inO o 5)
  · exact ok
  · show okG (match o.getD 0 with | 0 => _ | 1 => _ | 2 => _ | 3 => _ | _ => _ : Int32 × Sg).2
    split <;> exact ok
theorem kG_rounds {g : Sg} (ok : okG g) : okG (op_rounds g).2 := ok
theorem kG_load {g : Sg} {c i : Option Nat} (ok : okG g) : okG (op_load g c i).2 := by
  unfold op_load
  cases tb (lkO g c i = nI 0) <;> exact ok
theorem kG_rises {g : Sg} {c : Option Nat} (ok : okG g) : okG (op_rises g c).2 := by
  unfold op_rises
  cases tb (inO c 6)
  · exact ok
  · cases tb ((g.2.2.2.1 (c.getD 0)).1 = 0) <;> exact ok
theorem kG_order {g : Sg} {c i j : Option Nat} (ok : okG g) : okG (op_order g c i j).2 := by
  unfold op_order
  cases tb (lkO g c i = nI 0)
  · exact ok
  · cases tb (lkO g c j = nI 0) <;> exact ok
theorem kG_unlike {g : Sg} {o : Option Nat} (ok : okG g) : okG (op_unlike g o).2 := by
  unfold op_unlike
  cases tb (inO o 4)
  · exact ok
  · show okG (match g.2.2.1 (o.getD 0) with | some t => _ | none => _ : Int32 × Sg).2
    split
    · rename_i t _
      cases tb (t.1 = g.1.1)
      · exact ok
      · show okG (match lst (2 ^ g.1.1) _ with | some r => _ | none => _ : Int32 × Sg).2
        split <;> exact ok
    · exact ok
theorem kG_missing {g : Sg} (ok : okG g) : okG (op_missing g).2 := by
  unfold op_missing
  cases tb (g.1.1 ≤ 4) <;> exact ok
theorem kG_next {g : Sg} {o : Option Nat} (ok : okG g) : okG (op_next g o).2 := by
  unfold op_next
  cases tb (g.1.1 ≤ 4)
  · exact ok
  · show okG (match lst 10 (misP g.1) with | some n => _ | none => _ : Int32 × Sg).2
    split
    · rename_i n _
      cases tb (inO o n) <;> exact ok
    · exact ok
-- the beginning
def g0 : Sg := ((2, 0, fun _ => (0, 0, 0, false)), [], fun _ => none, fun _ => (0, 0, fun _ => 0), (0, fun _ => 0), 0)
theorem okG_st : okG g0 := ⟨⟨Nat.le_refl 2, by show 2 ≤ 8; omega, Nat.zero_le 40, fun i hi => absurd hi (Nat.not_lt_zero i)⟩, fun t ht => absurd ht List.not_mem_nil, Nat.zero_le 25, fun k t hk h => (by cases h), fun k hk => ⟨Nat.zero_le 7, Nat.zero_le 12, fun h => (by cases h)⟩, Nat.zero_le 80⟩
theorem I2_z {k j : Nat} (h : k ≠ 1) (h2 : k ≠ 85) : I2 k j = 0 := by rw [I2_k h h2]
theorem I2_1 {k j : Nat} (h : j ≠ 0) : I2 k j = 0 := by
  unfold I2 I1
  rw [up2_v, if_neg (fun q => h q.2), up2_v, if_neg (fun q => h q.2)]
  rfl
theorem AbC_st : AbC I2 Lz g0 := by
  refine ⟨⟨rfl, rfl, fun i hi => absurd hi (Nat.not_lt_zero i)⟩, ⟨0, by decide, I2_1 (by decide), I2_1 (by decide), Nat.zero_le 25, fun j t h => by cases h⟩, fun k hk => I2_z (by omega) (by omega), fun k hk => ⟨I2_z (by omega) (by omega), I2_1 (by decide), fun i _ => rfl⟩, ⟨I2_1 (by decide), Nat.zero_le 80, fun i hi => absurd hi (Nat.not_lt_zero i)⟩, I2_1 (by decide), ⟨0, I2_1 (by decide), Or.inl rfl⟩⟩
theorem AbM_st : AbM I2 Lz g0 := by
  refine ⟨⟨rfl, I2_1 (by decide), fun i hi => absurd hi (Nat.not_lt_zero i)⟩, ⟨I2_1 (by decide), Nat.zero_le 25, fun j t h => by cases h⟩, fun k hk => I2_z (by decide) (by decide), fun k hk => ⟨I2_z (by decide) (by decide), I2_z (by decide) (by decide), fun i _ => rfl⟩, ⟨I2_1 (by decide), Nat.zero_le 80, fun i hi => absurd hi (Nat.not_lt_zero i)⟩, I2_1 (by decide)⟩
