/-! fields, arrays, contracts and calls over a memory -/
def FL (Ts : List Cond) (own : String) (index ci j : Nat) : Prop := ∃ (Cn : String) (T : u_T) (N : Nat), vwCl[ci]? = some (Cn, T, N) ∧ (∀ w ∈ u_ws Cn T N, w ∈ Ts) ∧ j < N ∧ Cond.fieldLink own index Cn (T j).2.1 (T j).2.2.1 ∈ Ts ∧ (T j).1 = Cn
def FP (Ts : List Cond) (own : String) (index ci j : Nat) (ty : FieldType) : Prop := ∃ (Cn : String) (T : u_T) (N : Nat) (ty0 : Nat → FieldType), vwCl[ci]? = some (Cn, T, N) ∧ (∀ w ∈ u_ws Cn T N, w ∈ Ts) ∧ j < N ∧ Cond.fieldLink own index Cn (T j).2.1 (T j).2.2.1 ∈ Ts ∧ (T j).1 = Cn ∧ (∀ k, k < N → parseFieldDescriptor (T k).2.2.1 = some (ty0 k)) ∧ (∀ a, a < N → ∀ b, b < N → a ≠ b → (T a).2.1 ≠ (T b).2.1) ∧ (T j).2.2.2 = false ∧ parseFieldDescriptor (T j).2.2.1 = some ty
theorem wl_put {V : Vx} {n k : Nat} {M : Nat → va_E} {e : va_E} {H H1 : Heap} (h2 : va_P V.1 vwCl (wl V n M) H) (hk : k < n) (he : va_at V.1 vwCl (ad V k, e) H1) (oq : ∀ q, q ≠ ad V k → H1[q]? = H[q]?) : va_P V.1 vwCl (wl V n (va_up M k e)) H1 := by
  rw [← wl_set]
  exact h2.set wl_D (wl_get hk) he oq
theorem S_put {V : Vx} {k j : Nat} {H0 H H1 : Heap} {locs : List Loc} (h3 : va_S (Ab V) H0 H locs) (z : H1.size = H.size) (oq : ∀ q, q ≠ ad V k → H1[q]? = H[q]?) : va_S (Ab V) H0 H1 (locs ++ [⟨ad V k, j⟩]) := h3.put z oq (Nat.le_add_right _ _)
theorem sz_put {V : Vx} {n : Nat} {H H1 : Heap} (h : sz V n H) (z : H1.size = H.size) : sz V n H1 := fun q => z.trans (h q)
theorem ln_le (k : Nat) : ln k ≤ 1200 := by
  rcases Nat.lt_or_ge k 106 with q | q
  · have h : ∀ k, k < 106 → ln k ≤ 1200 := by decide +kernel
    exact h k q
  · unfold ln
    rw [List.getD_eq_getElem?_getD, List.getElem?_eq_none (by simpa using q)]
    exact Nat.zero_le _
section
variable {l : Launch} {X : Cx} {V : Vx} {Q : State → Prop} {own : String} {cc : ByteArray} {nL n cs sl pc d mc ms : Nat} {Ts : List Cond} {ret : Option FieldType} {ls ls' : List (Nat × Value)} {st : List Value} {M : Nat → va_E}
theorem J.get (C : CX l X V own cc nL Ts d mc ms ret) {index ci j k : Nat} {fs : List Value} {v : Value} (hF : FL Ts own index ci j) (hk : k < n) (hM : M k = .inr (ci, fs)) (hv : fs[j]? = some v) (hd : decode cc pc = .ok (.getfield index, 3)) (kk : J X V Q nL n cs sl (pc + 3) ls (v :: st) M) : J X V Q nL n cs sl pc ls (.ref (ad V k) :: st) M := by
  obtain ⟨Cn, T, N, g1, g2, g3, g4, g5⟩ := hF
  obtain ⟨e1, eR, hx, hb, hml, ho, hts, hK, -⟩ := C
  intro H locs la h1 h2 h3 h4
  exact va_get hx hb hts g2 ho hK.1 h2 k (by rw [wl_get hk, hM]) g1 j g3 (hts _ g4) (fun x h => by rw [g5] at h; exact h) hv hd (kk H locs la h1 h2 h3 h4)
theorem J.put (C : CX l X V own cc nL Ts d mc ms ret) {index ci j k : Nat} {fs : List Value} {v : Value} {ty : FieldType} (hF : FP Ts own index ci j ty) (hk : k < n) (hM : M k = .inr (ci, fs)) (hl : j < fs.length) (hn : narrow ty v = v) (hfit : fits ty v = true) (hd : decode cc pc = .ok (.putfield index, 3)) (kk : J X V Q nL n cs sl (pc + 3) ls st (va_up M k (.inr (ci, fs.set j v)))) : J X V Q nL n cs sl pc ls (v :: .ref (ad V k) :: st) M := by
  obtain ⟨Cn, T, N, ty0, g1, g2, g3, g4, g5, g6, g7, g8, g9⟩ := hF
  obtain ⟨e1, eR, hx, hb, hml, ho, hts, hK, -⟩ := C
  intro H locs la h1 h2 h3 h4
  have hap := va_apart (own := own) hts g2 ty0 g6 g7 hK.1 g1
  have hw := h2 k _ (wl_get hk)
  rw [hM] at hw
  obtain ⟨r, r1, cell, q1, q2, q3, q4⟩ := hw
  have hr : r = (Cn, T, N) := Option.some.inj (r1.symm.trans g1)
  subst hr
  obtain ⟨hS, hfc, kC, hkC, hkind⟩ := hK.1.1 ci _ g1
  obtain ⟨cf, kf, fi, f, hi, hsl⟩ := hS j g3
  have hlay := hts _ (g2 _ (u_in_lay g3))
  unfold u_lay at hlay
  rw [if_neg (by rw [g8]; decide)] at hlay
  have hst := (u_facts hfc hkC (u_lays hts g2 g3) hi).1
  have h6 := u_store hfc hkC hkind hlay hi g9 hn hfit
  refine W.putK hx hb (f := f) ⟨ho, hts _ g4, ⟨_, _, _, by rw [g5] at hi; exact hi⟩, hst⟩ (by rw [q2]; exact h6) q1 q3 (by rw [hsl]; exact k2_hasslot (q4 j g3)) rfl rfl hd fun H' e1 e2 e3 => ?_
  rw [hsl] at e1 ⊢
  exact kk H' _ la (sz_put h1 e2) (wl_put h2 hk ⟨_, g1, t_OB.to (V := updV (vp_V fs) j v) ⟨_, e1, q2, q3, t_set q4 hap g3 v⟩ (fun i _ => vp_updV_set hl v i)⟩ e3) (S_put h3 e2 e3) h4
theorem J.iald (C : CX l X V own cc nL Ts d mc ms ret) {k N : Nat} {f : Nat → Int32} {i : Int32} (hk : k < n) (hM : M k = .inl (V.2.1.1, N, .inl f)) (hin : vp_in i N) (hd : decode cc pc = .ok (.iaload, 1)) (kk : J X V Q nL n cs sl (pc + 1) ls (.int (f i.toNatClampNeg) :: st) M) : J X V Q nL n cs sl pc ls (.int i :: .ref (ad V k) :: st) M := by
  obtain ⟨e1, eR, hx, hb, hml, ho, hts, hK, -⟩ := C
  intro H locs la h1 h2 h3 h4
  exact va_iald hx hb hK.1 h2 k 0 (by rw [wl_get hk, hM]) rfl hin hd (kk H locs la h1 h2 h3 h4)
theorem J.zald (C : CX l X V own cc nL Ts d mc ms ret) {k N : Nat} {f : Nat → Int32} {i : Int32} (hk : k < n) (hM : M k = .inl (V.2.1.2.2.1, N, .inl f)) (hin : vp_in i N) (hd : decode cc pc = .ok (.baload, 1)) (kk : J X V Q nL n cs sl (pc + 1) ls (.int (f i.toNatClampNeg) :: st) M) : J X V Q nL n cs sl pc ls (.int i :: .ref (ad V k) :: st) M := by
  obtain ⟨e1, eR, hx, hb, hml, ho, hts, hK, -⟩ := C
  intro H locs la h1 h2 h3 h4
  exact va_zald hx hb hK.1 h2 k 2 (by rw [wl_get hk, hM]) rfl hin hd (kk H locs la h1 h2 h3 h4)
theorem J.lald (C : CX l X V own cc nL Ts d mc ms ret) {k N : Nat} {f : Nat → Int64} {i : Int32} (hk : k < n) (hM : M k = .inl (V.2.1.2.1, N, .inr (.inl f))) (hin : vp_in i N) (hd : decode cc pc = .ok (.laload, 1)) (kk : J X V Q nL n cs sl (pc + 1) ls (.long (f i.toNatClampNeg) :: st) M) : J X V Q nL n cs sl pc ls (.int i :: .ref (ad V k) :: st) M := by
  obtain ⟨e1, eR, hx, hb, hml, ho, hts, hK, -⟩ := C
  intro H locs la h1 h2 h3 h4
  exact va_lald hx hb hK.1 h2 k 1 (by rw [wl_get hk, hM]) rfl hin hd (kk H locs la h1 h2 h3 h4)
theorem J.aald10 (C : CX l X V own cc nL Ts d mc ms ret) {k N a : Nat} {f : Nat → Option Nat} {i : Int32} (hk : k < n) (hM : M k = .inl (V.2.1.2.2.2.1, N, .inr (.inr (.inr (.inr f))))) (hin : vp_in i N) (hv : f i.toNatClampNeg = some a) (hd : decode cc pc = .ok (.aaload, 1)) (kk : J X V Q nL n cs sl (pc + 1) ls (.ref a :: st) M) : J X V Q nL n cs sl pc ls (.int i :: .ref (ad V k) :: st) M := by
  obtain ⟨e1, eR, hx, hb, hml, ho, hts, hK, -⟩ := C
  intro H locs la h1 h2 h3 h4
  exact va_aldq hx hb hK.1 h2 k 3 (by rw [wl_get hk, hM]) rfl hin hd (by rw [hv]; exact kk H locs la h1 h2 h3 h4)
theorem J.aald11 (C : CX l X V own cc nL Ts d mc ms ret) {k N a : Nat} {f : Nat → Option Nat} {i : Int32} (hk : k < n) (hM : M k = .inl (V.2.1.2.2.2.2, N, .inr (.inr (.inr (.inr f))))) (hin : vp_in i N) (hv : f i.toNatClampNeg = some a) (hd : decode cc pc = .ok (.aaload, 1)) (kk : J X V Q nL n cs sl (pc + 1) ls (.ref a :: st) M) : J X V Q nL n cs sl pc ls (.int i :: .ref (ad V k) :: st) M := by
  obtain ⟨e1, eR, hx, hb, hml, ho, hts, hK, -⟩ := C
  intro H locs la h1 h2 h3 h4
  exact va_aldq hx hb hK.1 h2 k 4 (by rw [wl_get hk, hM]) rfl hin hd (by rw [hv]; exact kk H locs la h1 h2 h3 h4)
theorem J.iast (C : CX l X V own cc nL Ts d mc ms ret) {k N : Nat} {f : Nat → Int32} {i x : Int32} (hk : k < n) (hM : M k = .inl (V.2.1.1, N, .inl f)) (hin : vp_in i N) (hd : decode cc pc = .ok (.iastore, 1)) (kk : J X V Q nL n cs sl (pc + 1) ls st (va_up M k (.inl (V.2.1.1, N, .inl (upd f i.toNatClampNeg x))))) : J X V Q nL n cs sl pc ls (.int x :: .int i :: .ref (ad V k) :: st) M := by
  obtain ⟨e1, eR, hx, hb, hml, ho, hts, hK, -⟩ := C
  intro H locs la h1 h2 h3 h4
  have hw := h2 k _ (wl_get hk)
  rw [hM] at hw
  refine W.iast hx hb hw ((hK.1.2 0 _ rfl).1 N (fun j => .int (f j))) (fun q => by cases q) (by show ¬ (i < 0 ∨ (arrV _ _ _).slots.size ≤ _); rw [arrV_size]; exact hin) rfl rfl hd fun H1 e z oq => ?_
  refine kk H1 _ la (sz_put h1 z) (wl_put h2 hk ?_ oq) (S_put h3 z oq) h4
  show H1[_]? = some (vp_cell _ _)
  rw [e, vp_cell_i, vp_cell_i, arrV_store]
  congr 2
  funext q
  by_cases hq : q = i.toNatClampNeg <;> simp [updV, upd, hq]
theorem J.zast (C : CX l X V own cc nL Ts d mc ms ret) {k N : Nat} {f : Nat → Int32} {i x : Int32} (hz : vp_nar .boolean x = x) (hk : k < n) (hM : M k = .inl (V.2.1.2.2.1, N, .inl f)) (hin : vp_in i N) (hd : decode cc pc = .ok (.bastore, 1)) (kk : J X V Q nL n cs sl (pc + 1) ls st (va_up M k (.inl (V.2.1.2.2.1, N, .inl (upd f i.toNatClampNeg x))))) : J X V Q nL n cs sl pc ls (.int x :: .int i :: .ref (ad V k) :: st) M := by
  obtain ⟨e1, eR, hx, hb, hml, ho, hts, hK, -⟩ := C
  intro H locs la h1 h2 h3 h4
  have hw := h2 k _ (wl_get hk)
  rw [hM] at hw
  refine W.zast hx hb hw ((hK.1.2 2 _ rfl).1 N (fun j => .int (f j))) (fun q => by cases q) (by show ¬ (i < 0 ∨ (arrV _ _ _).slots.size ≤ _); rw [arrV_size]; exact hin) rfl rfl hd fun H1 e z oq => ?_
  refine kk H1 _ la (sz_put h1 z) (wl_put h2 hk ?_ oq) (S_put h3 z oq) h4
  show H1[_]? = some (vp_cell _ _)
  rw [e, vp_cell_i, vp_cell_i, arrV_store]
  congr 2
  funext q
  by_cases hq : q = i.toNatClampNeg
  · subst hq
    conv => rhs; rw [← hz]
    simp [updV, upd, vp_nar]
    try rfl
  · simp [updV, upd, hq]
theorem J.last (C : CX l X V own cc nL Ts d mc ms ret) {k N : Nat} {f : Nat → Int64} {i : Int32} {x : Int64} (hk : k < n) (hM : M k = .inl (V.2.1.2.1, N, .inr (.inl f))) (hin : vp_in i N) (hd : decode cc pc = .ok (.lastore, 1)) (kk : J X V Q nL n cs sl (pc + 1) ls st (va_up M k (.inl (V.2.1.2.1, N, .inr (.inl (vp_updL f i.toNatClampNeg x)))))) : J X V Q nL n cs sl pc ls (.long x :: .int i :: .ref (ad V k) :: st) M := by
  obtain ⟨e1, eR, hx, hb, hml, ho, hts, hK, -⟩ := C
  intro H locs la h1 h2 h3 h4
  have hw := h2 k _ (wl_get hk)
  rw [hM] at hw
  refine W.last hx hb hw ((hK.1.2 1 _ rfl).1 N (fun j => .long (f j))) (fun q => by cases q) (by show ¬ (i < 0 ∨ (arrV _ _ _).slots.size ≤ _); rw [arrV_size]; exact hin) rfl rfl hd fun H1 e z oq => ?_
  refine kk H1 _ la (sz_put h1 z) (wl_put h2 hk ?_ oq) (S_put h3 z oq) h4
  show H1[_]? = some (vp_cell _ _)
  rw [e, vp_cell_l, vp_cell_l, arrV_store]
  congr 2
  funext q
  by_cases hq : q = i.toNatClampNeg <;> simp [updV, vp_updL, hq]
end
