/-! CONSTRUCTORS: rules over a memory that grows -/
theorem wl_new {V : Vx} {n : Nat} {M : Nat → va_E} {e : va_E} {H H1 : Heap} (h2 : va_P V.1 vwCl (wl V n M) H) (hs : H.size = ad V n) (he : va_at V.1 vwCl (ad V n, e) H1) (o1 : ∀ q, q < ad V n → H1[q]? = H[q]?) : va_P V.1 vwCl (wl V (n + 1) (va_up M n e)) H1 := by
  rw [← wl_push]
  refine (h2.kept (fun k x hx => o1 x.1 (by rw [← hs]; exact (h2 k x hx).lt))).app (fun k x hx => ?_)
  have hk : k < 1 := (List.getElem?_eq_some_iff.mp hx).1
  rw [show k = 0 by omega] at hx
  cases hx
  exact he
theorem S_new {V : Vx} {n : Nat} {H0 H H1 : Heap} {locs : List Loc} (h3 : va_S (Ab V) H0 H locs) (hs : H.size = ad V n) (z1 : H1.size = ad V n + 1) (o1 : ∀ q, q < ad V n → H1[q]? = H[q]?) : va_S (Ab V) H0 H1 locs := ⟨Nat.le_trans h3.1 (by omega), fun x g1 g2 => (o1 x (by rw [← hs]; exact Nat.lt_of_lt_of_le g1 h3.1)).trans (h3.2.1 x g1 g2), h3.2.2⟩
theorem sz_new {V : Vx} {n : Nat} {H1 : Heap} (z1 : H1.size = ad V n + 1) : sz V (n + 1) H1 := fun _ => z1
abbrev rf (f : Nat → Option Nat) : (Nat → Int32) ⊕ (Nat → Int64) ⊕ (Nat → UInt32) ⊕ (Nat → UInt64) ⊕ (Nat → Option Nat) := .inr (.inr (.inr (.inr f)))
/-- two arrays of references that are alike as far as they reach -/
def eqA (e e' : va_E) : Prop := e = e' ∨ ∃ (cA : ClassId) (N : Nat) (f f' : Nat → Option Nat), e = .inl (cA, N, rf f) ∧ e' = .inl (cA, N, rf f') ∧ ∀ j, j < N → f j = f' j
theorem arrV_cg {cA : ClassId} {N : Nat} {f f' : Nat → Value} (h : ∀ j, j < N → f j = f' j) : arrV cA N f = arrV cA N f' := by
  unfold arrV
  congr 1
  apply Array.ext
  · simp
  · intro i h1 h2
    simp at h1
    simp [h i (by omega)]
theorem eqA_at {D : va_G} {cl : List vw_C} {a : Nat} {e e' : va_E} {H : Heap} (h : eqA e e') (w : va_at D cl (a, e) H) : va_at D cl (a, e') H := by
  rcases h with h | ⟨cA, N, f, f', h1, h2, h3⟩
  · rw [← h]; exact w
  · subst h1; subst h2
    have w : H[a]? = some (vp_cell cA (N, rf f)) := w
    show H[a]? = some (vp_cell cA (N, rf f'))
    rw [w, vp_cell_q, vp_cell_q, arrV_cg (fun j hj => by rw [h3 j hj])]
section
variable {l : Launch} {X : Cx} {V : Vx} {Q : State → Prop} {own : String} {cc : ByteArray} {nL n cs sl pc d mc ms : Nat} {Ts : List Cond} {ret : Option FieldType} {ls ls' : List (Nat × Value)} {st : List Value} {M M' : Nat → va_E}
theorem J.eqA (h : ∀ k, k < n → eqA (M k) (M' k)) (kk : J X V Q nL n cs sl pc ls st M') : J X V Q nL n cs sl pc ls st M := fun H locs la h1 h2 h3 h4 => kk H locs la h1 (fun k q hq => by
  obtain ⟨hk, e⟩ := wl_at hq
  subst e
  exact eqA_at (h k hk) (h2 k _ (wl_get hk))) h3 h4
theorem J.mem (e : M = M') (kk : J X V Q nL n cs sl pc ls st M') : J X V Q nL n cs sl pc ls st M := by rw [e]; exact kk
theorem J.cnt {n' cs' sl' : Nat} (e1 : n = n') (e2 : cs = cs') (e3 : sl = sl') (kk : J X V Q nL n' cs' sl' pc ls st M) : J X V Q nL n cs sl pc ls st M := by subst e1; subst e2; subst e3; exact kk
theorem J.new (C : CX l X V own cc nL Ts d mc ms ret) (hz : V.2.2.2.2.2 = true) {index ci N : Nat} {Cn : String} {T : u_T} (ty : Nat → FieldType) (fs : List Value) (hc : vwCl[ci]? = some (Cn, T, N)) (hin : ∀ w ∈ u_ws Cn T N, w ∈ Ts) (hty : ∀ k, k < N → parseFieldDescriptor (T k).2.2.1 = some (ty k)) (w1 : Cond.classLink own index Cn ∈ Ts) (w2 : Cond.instantiable Cn N ∈ Ts) (w3 : Cond.initialized Cn ∈ Ts) (hfs : ∀ j, j < N → defaultValue (ty j) = vp_V fs j) (hcs : cs + 1 ≤ mc) (hsl : sl + N ≤ ms) (hd : decode cc pc = .ok (.new index, 3)) (kk : J X V Q nL (n + 1) (cs + 1) (sl + N) (pc + 3) ls (.ref (ad V n) :: st) (va_up M n (.inr (ci, fs)))) : J X V Q nL n cs sl pc ls st M := by
  obtain ⟨e1, eR, hx, hb, hml, ho, hts, hK, hB, -⟩ := C
  intro H locs la h1 h2 h3 h4
  have hH : H.size = ad V n := h1 hz
  have hKn := hK.1.1 ci _ hc
  refine W.newcK hx hb ho (hts _ w1) (hts _ w2) (hts _ w3) rfl hd (by rw [eR]; exact hcs) (by rw [eR]; exact hsl) hKn.2.1 hH fun H1 kC hkC e1 z1 o1 => ?_
  exact kk H1 locs la (sz_new z1) (wl_new h2 hH ⟨_, hc, (u_born ty hts hin hKn hkC e1 hty).to hfs⟩ o1) (S_new h3 hH z1 o1) h4
theorem J.newI (C : CX l X V own cc nL Ts d mc ms ret) (hz : V.2.2.2.2.2 = true) {x : Int32} (N : Nat) (w : Cond.arrayClass .int ∈ Ts) (hx0 : x = nI N) (hN : N ≤ 2000) (hcs : cs + 1 ≤ mc) (hsl : sl + N ≤ ms) (hd : decode cc pc = .ok (.newarray .int, 2)) (kk : J X V Q nL (n + 1) (cs + 1) (sl + N) (pc + 2) ls (.ref (ad V n) :: st) (va_up M n (.inl (V.2.1.1, N, .inl (fun _ => 0))))) : J X V Q nL n cs sl pc ls (.int x :: st) M := by
  obtain ⟨e1, eR, hx, hb, hml, ho, hts, hK, hB, -⟩ := C
  intro H locs la h1 h2 h3 h4
  subst hx0
  have hH : H.size = ad V n := h1 hz
  refine va_newaK (atype := .int) hx hb (hts _ w) rfl hd rfl (nI_pos (by omega)) (nI_clamp (by omega)) (by show N * 4 ≤ _; omega) (by rw [eR]; exact hcs) (by rw [eR]; exact hsl) hH fun H1 cA e1 z1 o1 hAr hNm => ?_
  have hq : X.2.2.2.2.1.vm.findClass ("[" ++ (newarray.typeOf .int).toString) = some V.2.1.1 := (hK.1.2 0 _ rfl).2
  obtain rfl : cA = V.2.1.1 := Option.some.inj (hNm.symm.trans hq)
  exact kk H1 locs la (sz_new z1) (wl_new h2 hH e1 o1) (S_new h3 hH z1 o1) h4
theorem J.newL (C : CX l X V own cc nL Ts d mc ms ret) (hz : V.2.2.2.2.2 = true) {x : Int32} (N : Nat) (w : Cond.arrayClass .long ∈ Ts) (hx0 : x = nI N) (hN : N ≤ 2000) (hcs : cs + 1 ≤ mc) (hsl : sl + N ≤ ms) (hd : decode cc pc = .ok (.newarray .long, 2)) (kk : J X V Q nL (n + 1) (cs + 1) (sl + N) (pc + 2) ls (.ref (ad V n) :: st) (va_up M n (.inl (V.2.1.2.1, N, .inr (.inl (fun _ => 0)))))) : J X V Q nL n cs sl pc ls (.int x :: st) M := by
  obtain ⟨e1, eR, hx, hb, hml, ho, hts, hK, hB, -⟩ := C
  intro H locs la h1 h2 h3 h4
  subst hx0
  have hH : H.size = ad V n := h1 hz
  refine va_newaK (atype := .long) hx hb (hts _ w) rfl hd rfl (nI_pos (by omega)) (nI_clamp (by omega)) (by show N * 8 ≤ _; omega) (by rw [eR]; exact hcs) (by rw [eR]; exact hsl) hH fun H1 cA e1 z1 o1 hAr hNm => ?_
  have hq : X.2.2.2.2.1.vm.findClass ("[" ++ (newarray.typeOf .long).toString) = some V.2.1.2.1 := (hK.1.2 1 _ rfl).2
  obtain rfl : cA = V.2.1.2.1 := Option.some.inj (hNm.symm.trans hq)
  exact kk H1 locs la (sz_new z1) (wl_new h2 hH e1 o1) (S_new h3 hH z1 o1) h4
theorem J.newZ (C : CX l X V own cc nL Ts d mc ms ret) (hz : V.2.2.2.2.2 = true) {x : Int32} (N : Nat) (w : Cond.arrayClass .boolean ∈ Ts) (hx0 : x = nI N) (hN : N ≤ 2000) (hcs : cs + 1 ≤ mc) (hsl : sl + N ≤ ms) (hd : decode cc pc = .ok (.newarray .boolean, 2)) (kk : J X V Q nL (n + 1) (cs + 1) (sl + N) (pc + 2) ls (.ref (ad V n) :: st) (va_up M n (.inl (V.2.1.2.2.1, N, .inl (fun _ => 0))))) : J X V Q nL n cs sl pc ls (.int x :: st) M := by
  obtain ⟨e1, eR, hx, hb, hml, ho, hts, hK, hB, -⟩ := C
  intro H locs la h1 h2 h3 h4
  subst hx0
  have hH : H.size = ad V n := h1 hz
  refine va_newaK (atype := .boolean) hx hb (hts _ w) rfl hd rfl (nI_pos (by omega)) (nI_clamp (by omega)) (by show N * 1 ≤ _; omega) (by rw [eR]; exact hcs) (by rw [eR]; exact hsl) hH fun H1 cA e1 z1 o1 hAr hNm => ?_
  have hq : X.2.2.2.2.1.vm.findClass ("[" ++ (newarray.typeOf .boolean).toString) = some V.2.1.2.2.1 := (hK.1.2 2 _ rfl).2
  obtain rfl : cA = V.2.1.2.2.1 := Option.some.inj (hNm.symm.trans hq)
  exact kk H1 locs la (sz_new z1) (wl_new h2 hH e1 o1) (S_new h3 hH z1 o1) h4
theorem J.anew (C : CX l X V own cc nL Ts d mc ms ret) (hz : V.2.2.2.2.2 = true) {index t : Nat} {Cn : String} {cA : ClassId} {x : Int32} (N : Nat) (ht : (tyV V)[t]? = some (cA, .object Cn)) (w1 : Cond.classLink own index Cn ∈ Ts) (w2 : va_AO Cn X.2.2.2.2.1) (hx0 : x = nI N) (hN : N ≤ 2000) (hcs : cs + 1 ≤ mc) (hsl : sl + N ≤ ms) (hd : decode cc pc = .ok (.anewarray index, 3)) (kk : J X V Q nL (n + 1) (cs + 1) (sl + N) (pc + 3) ls (.ref (ad V n) :: st) (va_up M n (.inl (cA, N, rf (fun _ => none))))) : J X V Q nL n cs sl pc ls (.int x :: st) M := by
  obtain ⟨e1, eR, hx, hb, hml, ho, hts, hK, hB, -⟩ := C
  intro H locs la h1 h2 h3 h4
  subst hx0
  have hH : H.size = ad V n := h1 hz
  have hc : (nI N).toNatClampNeg = N := nI_clamp (by omega)
  refine W.anew hx hb ho (hts _ w1) (va_AO.use w2) rfl hd rfl (nI_pos (by omega)) (by rw [hc]; omega) (by rw [eR]; exact hcs) (by rw [eR, hc]; exact hsl) fun cA' kA comp g1 g2 g3 g4 => ?_
  obtain ⟨kA', comp', q1, q2, q3, q4⟩ := (hK.1.2 t _ ht).2
  obtain rfl : cA' = cA := Option.some.inj (g1.symm.trans q4)
  rw [hc, hH]
  refine kk _ locs la (sz_new (by simp [hH])) (wl_new h2 hH ?_ (fun q hq => by rw [Array.getElem?_push, if_neg (by omega)])) (S_new h3 hH (by simp [hH]) (fun q hq => by rw [Array.getElem?_push, if_neg (by omega)])) h4
  show (H.push _)[ad V n]? = some (vp_cell _ _)
  rw [vp_cell_q, ← hH, Array.getElem?_push, if_pos rfl]
  exact congrArg some (arrV_new _ _ _)
theorem J.obj (C : CX l X V own cc nL Ts d mc ms ret) {index a : Nat} (w1 : Cond.methodLink own index Lib.objectInit ∈ Ts) (w2 : Cond.instanceMethod Lib.objectInit ∈ Ts) (w3 : Cond.code Lib.objectInit ⟨#[0xb1]⟩ 1 none ∈ Ts) (hd1 : 1 ≤ d) (hr : (st.map fun v => v.category).sum + 12 ≤ 48) (hd : decode cc pc = .ok (.invokespecial index, 3)) (kk : J X V Q nL n cs sl (pc + 3) ls st M) : J X V Q nL n cs sl pc ls (.ref a :: st) M := by
  obtain ⟨e1, eR, hx, hb, hml, ho, hts, hK, hB, -⟩ := C
  intro H locs la h1 h2 h3 h4
  exact W.objInit hx hb ho (hts _ w1) (hts _ w2) (hts _ w3) rfl (by rw [hml]; exact h4.1) rfl hd (by rw [eR]; exact hd1) (by rw [eR]; show 2 * 0 + _ + 12 ≤ 48 * d; omega) (kk H locs la h1 h2 h3 h4)
/-- a field that is final, in its constructor -/
def FF (Ts : List Cond) (own : String) (index ci j : Nat) (ty : FieldType) : Prop := ∃ (Cn : String) (T : u_T) (N : Nat) (ty0 : Nat → FieldType), vwCl[ci]? = some (Cn, T, N) ∧ (∀ w ∈ u_ws Cn T N, w ∈ Ts) ∧ j < N ∧ Cond.fieldLink own index Cn (T j).2.1 (T j).2.2.1 ∈ Ts ∧ (T j).1 = Cn ∧ (∀ k, k < N → parseFieldDescriptor (T k).2.2.1 = some (ty0 k)) ∧ (∀ a, a < N → ∀ b, b < N → a ≠ b → (T a).2.1 ≠ (T b).2.1) ∧ (T j).2.2.2 = true ∧ parseFieldDescriptor (T j).2.2.1 = some ty ∧ own = Cn
theorem J.putF (C : CX l X V own cc nL Ts d mc ms ret) (hnm : X.2.2.2.2.2.2.2.2.1.name = "<init>") {index ci j k : Nat} {fs : List Value} {v : Value} {ty : FieldType} (hF : FF Ts own index ci j ty) (hk : k < n) (hM : M k = .inr (ci, fs)) (hl : j < fs.length) (hn : narrow ty v = v) (hfit : fits ty v = true) (hd : decode cc pc = .ok (.putfield index, 3)) (kk : J X V Q nL n cs sl (pc + 3) ls st (va_up M k (.inr (ci, fs.set j v)))) : J X V Q nL n cs sl pc ls (v :: .ref (ad V k) :: st) M := by
  obtain ⟨Cn, T, N, ty0, g1, g2, g3, g4, g5, g6, g7, g8, g9, g10⟩ := hF
  obtain ⟨e1, eR, hx, hb, hml, ho, hts, hK, -⟩ := C
  intro H locs la h1 h2 h3 h4
  subst g10
  have hap := va_apart (own := own) hts g2 ty0 g6 g7 hK.1 g1
  have hw := h2 k _ (wl_get hk)
  rw [hM] at hw
  obtain ⟨r, r1, cell, q1, q2, q3, q4⟩ := hw
  have hr : r = (own, T, N) := Option.some.inj (r1.symm.trans g1)
  subst hr
  obtain ⟨hS, hfc, kC, hkC, hkind⟩ := hK.1.1 ci _ g1
  obtain ⟨cf, kf, fi, f, hi, hsl⟩ := hS j g3
  have hlay := hts _ (g2 _ (u_in_lay g3))
  unfold u_lay at hlay
  rw [if_pos g8] at hlay
  have hst := (u_facts hfc hkC (u_lays hts g2 g3) hi).1
  have hcf : X.2.2.2.2.2.1.cls = cf := by
    obtain ⟨_, _, c', _, _, _, -, -, hf', -, -, -, hown2, -⟩ := Cond.laysFinal_spec hlay
    have e1 : c' = cf := by have := hi.symm.trans hf'; simp at this; exact this.1.symm
    rw [g5] at hown2
    rw [← e1]; exact Option.some.inj (ho.symm.trans hown2)
  have h6 := u_fits hfc hkC hkind (Or.inr hlay) hi g9 hn hfit
  rw [g5] at hi
  refine W.putFinK hx hb ho (hts _ g4) hi hst hcf hnm (by rw [q2]; exact h6) q1 q3 (by rw [hsl]; exact k2_hasslot (q4 j g3)) rfl rfl hd fun H' e1 e2 e3 => ?_
  rw [hsl] at e1 ⊢
  exact kk H' _ la (sz_put h1 e2) (wl_put h2 hk ⟨_, g1, t_OB.to (V := updV (vp_V fs) j v) ⟨_, e1, q2, q3, t_set q4 hap g3 v⟩ (fun i _ => vp_updV_set hl v i)⟩ e3) (S_put h3 e2 e3) h4
theorem J.aas (C : CX l X V own cc nL Ts d mc ms ret) (hz : V.2.2.2.2.2 = true) {k kv t ci N j : Nat} {cA : ClassId} {r : vw_C} {vs : List Value} {f : Nat → Option Nat} {i : Int32} (hk : k < n) (hM : M k = .inl (cA, N, rf f)) (ht : (tyV V)[t]? = some (cA, .object r.1)) (hkv : kv < n) (hMv : M kv = .inr (ci, vs)) (hc : vwCl[ci]? = some r) (hi : i = nI j) (hj : j < N) (hN : N ≤ 2000) (hd : decode cc pc = .ok (.aastore, 1)) (kk : J X V Q nL n cs sl (pc + 1) ls st (va_up M k (.inl (cA, N, rf (va_up f j (some (ad V kv))))))) : J X V Q nL n cs sl pc ls (.ref (ad V kv) :: .int i :: .ref (ad V k) :: st) M := by
  obtain ⟨e1, eR, hx, hb, hml, ho, hts, hK, -⟩ := C
  intro H locs la h1 h2 h3 h4
  subst hi
  have hcl : (nI j).toNatClampNeg = j := nI_clamp (by omega)
  have hlt := hcl
  obtain ⟨r', hr', cellV, g1, g2, g3, -⟩ := by
    have w := h2 kv _ (wl_get hkv)
    rw [hMv] at w
    exact w
  have hcls := (hK.1.1 ci r hc).2
  obtain ⟨kA, comp, k1, k2, k3, -⟩ := (hK.1.2 t _ ht).2
  have hcomp : comp = V.1.1 ci := Option.some.inj (k3.symm.trans hcls.1)
  subst hcomp
  obtain ⟨kC, hkC, -⟩ := hcls.2
  have hw := h2 k _ (wl_get hk)
  rw [hM] at hw
  refine W.aast hx hb hw (fun q h => by cases h) (fun h => by cases h) k1 k2 rfl hkC ⟨nI_pos (by omega), by show _ < (arrV _ _ _).slots.size; rw [arrV_size, hcl]; exact hj⟩ g1 (fun q h => by rw [g3] at h; cases h) (by rw [g2]; exact hkC) (by rw [g2]; exact va_assign hcls) rfl rfl hd fun H1 e z oq => ?_
  refine kk H1 _ la (sz_put h1 z) (wl_put h2 hk ?_ oq) (S_put h3 z oq) h4
  show H1[_]? = some (vp_cell _ _)
  rw [e, vp_cell_q, vp_cell_q, arrV_store, hcl]
  congr 2
  funext q
  by_cases hq : q = j
  · subst hq
    simp [updV, va_up, va_rf]
  · simp [updV, va_up, hq]
end
