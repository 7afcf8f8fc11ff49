/-! MY LAYER over the kit: one world of cells at B, B + 1, .., a memory as a function of the cell's number, and rows that speak of nothing else -/
abbrev Cx : Type := Program × Launch × Env × Room × State × MethodId × Array Value × List Frame × Method × Code
abbrev Vx : Type := va_G × (ClassId × ClassId × ClassId × ClassId × ClassId) × Nat × Nat × Nat × Bool
def ad (V : Vx) (k : Nat) : Nat := V.2.2.1 + k
def Ab (V : Vx) : Nat → Prop := fun q => V.2.2.1 ≤ q
def wl (V : Vx) (n : Nat) (M : Nat → va_E) : va_W := (List.range n).map (fun k => (ad V k, M k))
def tyV (V : Vx) : List (ClassId × FieldType) := [(V.2.1.1, .int), (V.2.1.2.1, .long), (V.2.1.2.2.1, .boolean), (V.2.1.2.2.2.1, .object "LaneNets$Crate"), (V.2.1.2.2.2.2, .object "LaneNets$Net")]
def kaF : Nat → Value := fun j => match j with
  | 0 => .int (-1)
  | 1 => .int 0
  | 2 => .int 0
  | 3 => .int 1
  | _ => .int 2
def fcF : Nat → Value := fun j => match j with
  | 0 => .long (-6148914691236517206)
  | 1 => .long (-3689348814741910324)
  | 2 => .long (-1085102592571150096)
  | 3 => .long (-71777214294589696)
  | 4 => .long (-281470681808896)
  | _ => .long (-4294967296)
def Kn (V : Vx) (U : State) (H : Heap) : Prop := va_K V.1 vwCl (tyV V) U ∧ va_Z "LaneNets" "KIND_ABOVE" "[I" (.ref V.2.2.2.1) (Ab V) U H ∧ va_T .int V.2.2.2.1 5 kaF (Ab V) U H ∧ va_Z "LaneNets$Rows" "FIRST_COLUMNS" "[J" (.ref V.2.2.2.2.1) (Ab V) U H ∧ va_T .long V.2.2.2.2.1 6 fcF (Ab V) U H
theorem Kn.moved {V : Vx} {u U : State} {H : Heap} (hvm : u.vm.Alike U.vm) (h : Kn V u H) : Kn V U H := ⟨va_K.moved hvm h.1, va_Z.moved hvm h.2.1, va_T.moved hvm h.2.2.1, va_Z.moved hvm h.2.2.2.1, va_T.moved hvm h.2.2.2.2⟩
theorem Kn.kept {V : Vx} {U : State} {H H1 : Heap} (h : Kn V U H) (hq : ∀ a : Nat, a < H.size → ¬ Ab V a → H1[a]? = H[a]?) : Kn V U H1 := ⟨h.1, va_Z.kept h.2.1 hq, va_T.kept h.2.2.1 hq, va_Z.kept h.2.2.2.1 hq, va_T.kept h.2.2.2.2 hq⟩
def sz (V : Vx) (n : Nat) (H : Heap) : Prop := V.2.2.2.2.2 = true → H.size = V.2.2.1 + n
def rmd (d mc ms : Nat) : Room := { frames := d, cells := mc, slots := ms, locals := 48 * d }
def CX (l : Launch) (X : Cx) (V : Vx) (own : String) (cc : ByteArray) (nL : Nat) (Ts : List Cond) (d mc ms : Nat) (ret : Option FieldType) : Prop :=
  X.2.1 = l ∧ X.2.2.2.1 = rmd d mc ms ∧ X.1.tables.exec = Jvm.exec ∧ X.2.2.2.2.2.2.2.2.2.code = cc ∧ X.2.2.2.2.2.2.2.2.2.maxLocals = nL ∧ X.2.2.2.2.1.vm.findClass own = some X.2.2.2.2.2.1.cls ∧ (∀ w ∈ Ts, w.before X.2.2.2.2.2.2.1 X.2.2.2.2.1 = true) ∧ Kn V X.2.2.2.2.1 X.2.2.2.2.1.heap ∧ V.2.2.1 ≤ X.2.2.2.2.1.heap.size ∧ X.2.2.2.2.2.2.2.2.1.locks = false ∧ X.2.2.2.2.2.2.2.2.1.sig.returnType = ret
def J (X : Cx) (V : Vx) (Q : State → Prop) (nL n cs sl pc : Nat) (ls : List (Nat × Value)) (st : List Value) (M : Nat → va_E) : Prop :=
  ∀ (H : Heap) (locs : List Loc) (la : Array Slot), sz V n H → va_P V.1 vwCl (wl V n M) H → va_S (Ab V) X.2.2.2.2.1.heap H locs → lv_has la nL ls → W X.1 X.2.1 X.2.2.1 X.2.2.2.1 X.2.2.2.2.1 X.2.2.2.2.2.1 X.2.2.2.2.2.2.1 X.2.2.2.2.2.2.2.1 X.2.2.2.2.2.2.2.2.1 X.2.2.2.2.2.2.2.2.2 H locs cs sl Q (F0 X.2.2.2.2.2.1 pc la st)
-- locals: looked up by their number, written in their place
def lk : List (Nat × Value) → Nat → Option Value
  | [], _ => none
  | (j, v) :: r, i => match Nat.beq i j with
    | true => some v
    | false => lk r i
theorem lk_mem : ∀ {l : List (Nat × Value)} {i : Nat} {v : Value}, lk l i = some v → (i, v) ∈ l
  | (j, w) :: r, i, v, h => by
    unfold lk at h
    cases hb : Nat.beq i j with
    | true =>
      rw [hb] at h
      have e : i = j := Nat.eq_of_beq_eq_true hb
      cases h
      rw [e]
      exact List.mem_cons_self
    | false =>
      rw [hb] at h
      exact List.mem_cons_of_mem _ (lk_mem h)
theorem lv_lk {la : Array Slot} {nL : Nat} {ls : List (Nat × Value)} (h : lv_has la nL ls) {i : Nat} {v : Value} (e : lk ls i = some v) : la[i]? = some (.val v) := h.2.2 (i, v) (lk_mem e)
theorem lv_of {la : Array Slot} {nL : Nat} {l l' : List (Nat × Value)} (h : lv_has la nL l) (hs : ∀ q ∈ l', q ∈ l) : lv_has la nL l' := ⟨h.1, h.2.1, fun q hq => h.2.2 q (hs q hq)⟩
-- a store of a word of category 1 at i: what overlaps goes
def ls1 (i : Nat) (v : Value) : List (Nat × Value) → Bool → List (Nat × Value)
  | [], true => []
  | [], false => [(i, v)]
  | (j, w) :: r, b => match Nat.beq j i with
    | true => match b with
      | true => ls1 i v r true
      | false => (i, v) :: ls1 i v r true
    | false => match Nat.beq (j + 1) i && Nat.beq w.category 2 with
      | true => ls1 i v r b
      | false => (j, w) :: ls1 i v r b
theorem ls1_mem (i : Nat) (v : Value) : ∀ (l : List (Nat × Value)) (b : Bool) (q : Nat × Value), q ∈ ls1 i v l b → q = (i, v) ∨ (q ∈ l ∧ q.1 ≠ i ∧ ¬ (q.1 + 1 = i ∧ q.2.category = 2))
  | [], true, q, h => by simp [ls1] at h
  | [], false, q, h => by simp [ls1] at h; exact Or.inl h
  | (j, w) :: r, b, q, h => by
    unfold ls1 at h
    cases h1 : Nat.beq j i with
    | true =>
      rw [h1] at h
      cases b with
      | true =>
        rcases ls1_mem i v r true q h with e | ⟨e, e2⟩
        · exact Or.inl e
        · exact Or.inr ⟨List.mem_cons_of_mem _ e, e2⟩
      | false =>
        rcases List.mem_cons.mp h with e | h
        · exact Or.inl e
        · rcases ls1_mem i v r true q h with e | ⟨e, e2⟩
          · exact Or.inl e
          · exact Or.inr ⟨List.mem_cons_of_mem _ e, e2⟩
    | false =>
      rw [h1] at h
      cases h2 : (Nat.beq (j + 1) i && Nat.beq w.category 2) with
      | true =>
        rw [h2] at h
        rcases ls1_mem i v r b q h with e | ⟨e, e2⟩
        · exact Or.inl e
        · exact Or.inr ⟨List.mem_cons_of_mem _ e, e2⟩
      | false =>
        rw [h2] at h
        rcases List.mem_cons.mp h with e | h
        · refine Or.inr ⟨by rw [e]; exact List.mem_cons_self, ?_, ?_⟩
          · rw [e]; exact Nat.ne_of_beq_eq_false h1
          · rw [e]
            intro hz
            rw [Bool.and_eq_false_iff] at h2
            rcases h2 with h2 | h2
            · exact Nat.ne_of_beq_eq_false h2 hz.1
            · exact Nat.ne_of_beq_eq_false h2 hz.2
        · rcases ls1_mem i v r b q h with e | ⟨e, e2⟩
          · exact Or.inl e
          · exact Or.inr ⟨List.mem_cons_of_mem _ e, e2⟩
-- a store of a word of category 2 at i, i + 1
def ls2 (i : Nat) (v : Value) : List (Nat × Value) → Bool → List (Nat × Value)
  | [], true => []
  | [], false => [(i, v)]
  | (j, w) :: r, b => match Nat.beq j i with
    | true => match b with
      | true => ls2 i v r true
      | false => (i, v) :: ls2 i v r true
    | false => match Nat.beq j (i + 1) || (Nat.beq (j + 1) i && Nat.beq w.category 2) with
      | true => ls2 i v r b
      | false => (j, w) :: ls2 i v r b
theorem ls2_mem (i : Nat) (v : Value) : ∀ (l : List (Nat × Value)) (b : Bool) (q : Nat × Value), q ∈ ls2 i v l b → q = (i, v) ∨ (q ∈ l ∧ q.1 ≠ i ∧ q.1 ≠ i + 1 ∧ ¬ (q.1 + 1 = i ∧ q.2.category = 2))
  | [], true, q, h => by simp [ls2] at h
  | [], false, q, h => by simp [ls2] at h; exact Or.inl h
  | (j, w) :: r, b, q, h => by
    unfold ls2 at h
    cases h1 : Nat.beq j i with
    | true =>
      rw [h1] at h
      cases b with
      | true =>
        rcases ls2_mem i v r true q h with e | ⟨e, e2⟩
        · exact Or.inl e
        · exact Or.inr ⟨List.mem_cons_of_mem _ e, e2⟩
      | false =>
        rcases List.mem_cons.mp h with e | h
        · exact Or.inl e
        · rcases ls2_mem i v r true q h with e | ⟨e, e2⟩
          · exact Or.inl e
          · exact Or.inr ⟨List.mem_cons_of_mem _ e, e2⟩
    | false =>
      rw [h1] at h
      cases h2 : (Nat.beq j (i + 1) || (Nat.beq (j + 1) i && Nat.beq w.category 2)) with
      | true =>
        rw [h2] at h
        rcases ls2_mem i v r b q h with e | ⟨e, e2⟩
        · exact Or.inl e
        · exact Or.inr ⟨List.mem_cons_of_mem _ e, e2⟩
      | false =>
        rw [h2] at h
        rw [Bool.or_eq_false_iff] at h2
        rcases List.mem_cons.mp h with e | h
        · refine Or.inr ⟨by rw [e]; exact List.mem_cons_self, ?_, ?_, ?_⟩
          · rw [e]; exact Nat.ne_of_beq_eq_false h1
          · rw [e]; exact Nat.ne_of_beq_eq_false h2.1
          · rw [e]
            intro hz
            have h3 := h2.2
            rw [Bool.and_eq_false_iff] at h3
            rcases h3 with h3 | h3
            · exact Nat.ne_of_beq_eq_false h3 hz.1
            · exact Nat.ne_of_beq_eq_false h3 hz.2
        · rcases ls2_mem i v r b q h with e | ⟨e, e2⟩
          · exact Or.inl e
          · exact Or.inr ⟨List.mem_cons_of_mem _ e, e2⟩
theorem ls1_ok {i : Nat} {v : Value} {l : List (Nat × Value)} {la : Array Slot} {nL : Nat} (h : lv_has la nL ((i, v) :: l.filter (fun q => !(q.1 == i) && !(q.1 + 1 == i && q.2.category == 2)))) : lv_has la nL (ls1 i v l false) := by
  refine lv_of h fun q hq => ?_
  rcases ls1_mem i v l false q hq with e | ⟨e, e1, e2⟩
  · rw [e]; exact List.mem_cons_self
  · refine List.mem_cons_of_mem _ (List.mem_filter.mpr ⟨e, ?_⟩)
    simp only [Bool.and_eq_true, Bool.not_eq_true', beq_eq_false_iff_ne, Bool.and_eq_false_iff]
    refine ⟨e1, ?_⟩
    by_cases h1 : q.1 + 1 = i
    · exact Or.inr fun h2 => e2 ⟨h1, h2⟩
    · exact Or.inl h1
theorem ls2_ok {i : Nat} {v : Value} {l : List (Nat × Value)} {la : Array Slot} {nL : Nat} (h : lv_has la nL ((i, v) :: l.filter (fun q => !(q.1 == i) && (!(q.1 == i + 1) && !(q.1 + 1 == i && q.2.category == 2))))) : lv_has la nL (ls2 i v l false) := by
  refine lv_of h fun q hq => ?_
  rcases ls2_mem i v l false q hq with e | ⟨e, e1, e3, e2⟩
  · rw [e]; exact List.mem_cons_self
  · refine List.mem_cons_of_mem _ (List.mem_filter.mpr ⟨e, ?_⟩)
    simp only [Bool.and_eq_true, Bool.not_eq_true', beq_eq_false_iff_ne, Bool.and_eq_false_iff]
    refine ⟨e1, e3, ?_⟩
    by_cases h1 : q.1 + 1 = i
    · exact Or.inr fun h2 => e2 ⟨h1, h2⟩
    · exact Or.inl h1
-- the world
theorem wl_get {V : Vx} {n k : Nat} {M : Nat → va_E} (h : k < n) : (wl V n M)[k]? = some (ad V k, M k) := by
  unfold wl
  rw [List.getElem?_map, List.getElem?_range h]
  rfl
theorem wl_len {V : Vx} {n : Nat} {M : Nat → va_E} : (wl V n M).length = n := by simp [wl]
theorem wl_at {V : Vx} {n k : Nat} {M : Nat → va_E} {q : Nat × va_E} (h : (wl V n M)[k]? = some q) : k < n ∧ q = (ad V k, M k) := by
  have hk : k < n := by
    have := (List.getElem?_eq_some_iff.mp h).1
    rwa [wl_len] at this
  rw [wl_get hk] at h
  exact ⟨hk, (Option.some.inj h).symm⟩
theorem wl_D {V : Vx} {n : Nat} {M : Nat → va_E} : va_D (Ab V) (wl V n M) := by
  refine ⟨fun i j p q hi hj e => ?_, fun k q hk => ?_⟩
  · obtain ⟨-, e1⟩ := wl_at hi
    obtain ⟨-, e2⟩ := wl_at hj
    subst e1; subst e2
    have e : V.2.2.1 + i = V.2.2.1 + j := e
    omega
  · obtain ⟨-, e⟩ := wl_at hk
    subst e
    exact Nat.le_add_right _ _
theorem wl_set {V : Vx} {n k : Nat} {M : Nat → va_E} {e : va_E} : (wl V n M).set k (ad V k, e) = wl V n (va_up M k e) := by
  refine List.ext_getElem? fun i => ?_
  by_cases hi : i < n
  · rw [wl_get hi]
    by_cases h : i = k
    · subst h
      rw [List.getElem?_set_self (by rw [wl_len]; exact hi)]
      simp [va_up]
    · rw [List.getElem?_set_ne (fun q => h q.symm), wl_get hi]
      simp [va_up, h]
  · rw [List.getElem?_eq_none (by rw [List.length_set, wl_len]; omega), List.getElem?_eq_none (by rw [wl_len]; omega)]
theorem wl_push {V : Vx} {n : Nat} {M : Nat → va_E} {e : va_E} : wl V n M ++ [(ad V n, e)] = wl V (n + 1) (va_up M n e) := by
  refine List.ext_getElem? fun i => ?_
  by_cases hi : i < n
  · rw [List.getElem?_append_left (by rw [wl_len]; exact hi), wl_get hi, wl_get (by omega)]
    simp [va_up, Nat.ne_of_lt hi]
  · rw [List.getElem?_append_right (by rw [wl_len]; omega), wl_len]
    by_cases h : i = n
    · subst h
      rw [wl_get (by omega)]
      simp [va_up]
    · rw [List.getElem?_eq_none (by simp; omega), List.getElem?_eq_none (by rw [wl_len]; omega)]
theorem wl_congr {V : Vx} {n : Nat} {M M' : Nat → va_E} (h : ∀ k, k < n → M k = M' k) : wl V n M = wl V n M' := by
  refine List.ext_getElem? fun i => ?_
  by_cases hi : i < n
  · rw [wl_get hi, wl_get hi, h i hi]
  · rw [List.getElem?_eq_none (by rw [wl_len]; omega), List.getElem?_eq_none (by rw [wl_len]; omega)]
