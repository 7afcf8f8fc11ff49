/-! THE MEMORY: 106 cells, whose references never change; I: the ints by cell and place, L: the longs -/
def kd (k : Nat) : Nat := ([5,3,7,11,2,11,3,7,3,7,3,7,3,7,3,7,3,7,3,7,3,7,3,7,3,7,3,7,3,7,3,7,3,7,3,7,3,7,3,7,3,7,3,7,3,7,3,7,3,7,3,7,3,7,3,7,10,4,8,4,8,0,7,7,7,3,7,3,7,3,7,3,7,1,8,1,8,1,8,1,8,1,8,1,8,6,7,7,7,9,7,7,7,7,7,9,7,7,8,7,7,8,9,7,7,7] : List Nat).getD k 12
def ln (k : Nat) : Nat := ([0,0,40,4,0,25,0,40,0,40,0,40,0,40,0,40,0,40,0,40,0,40,0,40,0,40,0,40,0,40,0,40,0,40,0,40,0,40,0,40,0,40,0,40,0,40,0,40,0,40,0,40,0,40,0,40,6,0,8,0,8,0,5,8,80,0,40,0,40,0,40,0,40,0,12,0,12,0,12,0,12,0,12,0,12,0,40,40,40,40,30,30,1200,1200,1200,1200,6,6,72,80,40,12,40,8,10,256] : List Nat).getD k 0
def rid (k i : Nat) : Nat := match k with
  | 3 => 65 + 2 * i
  | 5 => 6 + 2 * i
  | _ => 73 + 2 * i
def mm (V : Vx) (I : Nat → Nat → Int32) (L : Nat → Nat → Int64) (k : Nat) : va_E := match kd k with
  | 0 => .inr (0, [.ref (ad V (k + 1)), .int (I k 1), .int (I k 2), .long (L k 3)])
  | 1 => .inr (1, [.int (I k 0), .int (I k 1), .ref (ad V (k + 1))])
  | 2 => .inr (2, [.ref (ad V (k + 1)), .int (I k 1), .int (I k 2)])
  | 3 => .inr (3, [.int (I k 0), .int (I k 1), .ref (ad V (k + 1))])
  | 4 => .inr (4, [.ref (ad V (k + 1)), .long (L k 1)])
  | 5 => .inr (5, [.ref (ad V 1), .ref (ad V 3), .ref (ad V 4), .ref (ad V 56), .ref (ad V 57), .ref (ad V 59), .ref (ad V 61), .ref (ad V 63), .ref (ad V 64), .int (I k 9), .int (I k 10)])
  | 6 => .inr (6, [.int (I k 0), .int (I k 1), .ref (ad V 86), .ref (ad V 87), .ref (ad V 88), .ref (ad V 89), .ref (ad V 90), .ref (ad V 91), .ref (ad V 92), .ref (ad V 93), .ref (ad V 94), .ref (ad V 95), .int (I k 12), .ref (ad V 96), .ref (ad V 97), .ref (ad V 98), .ref (ad V 99), .int (I k 17), .int (I k 18), .ref (ad V 100), .ref (ad V 101), .ref (ad V 102), .ref (ad V 103), .ref (ad V 104), .ref (ad V 105)])
  | 7 => .inl (V.2.1.1, ln k, .inl (I k))
  | 8 => .inl (V.2.1.2.1, ln k, .inr (.inl (L k)))
  | 9 => .inl (V.2.1.2.2.1, ln k, .inl (I k))
  | 10 => .inl (V.2.1.2.2.2.1, ln k, .inr (.inr (.inr (.inr (fun i => some (ad V (rid k i)))))))
  | _ => .inl (V.2.1.2.2.2.2, ln k, .inr (.inr (.inr (.inr (fun i => some (ad V (rid k i)))))))
def up2 (I : Nat → Nat → Int32) (k j : Nat) (x : Int32) : Nat → Nat → Int32 := va_up I k (upd (I k) j x)
def up3 (L : Nat → Nat → Int64) (k j : Nat) (x : Int64) : Nat → Nat → Int64 := va_up L k (vp_updL (L k) j x)
theorem up2_k (I : Nat → Nat → Int32) (k j : Nat) (x : Int32) : up2 I k j x k = upd (I k) j x := va_up_self _ _ _
theorem up3_k (L : Nat → Nat → Int64) (k j : Nat) (x : Int64) : up3 L k j x k = vp_updL (L k) j x := va_up_self _ _ _
theorem up2_s (I : Nat → Nat → Int32) (k j : Nat) (x : Int32) : up2 I k j x k j = x := by rw [up2_k]; exact pk_us
theorem up3_s (L : Nat → Nat → Int64) (k j : Nat) (x : Int64) : up3 L k j x k j = x := by rw [up3_k]; exact pk_uLs
theorem up2_n (I : Nat → Nat → Int32) {k k' : Nat} (j : Nat) (x : Int32) (h : k' ≠ k) : up2 I k j x k' = I k' := va_up_ne _ _ h
theorem up3_n (L : Nat → Nat → Int64) {k k' : Nat} (j : Nat) (x : Int64) (h : k' ≠ k) : up3 L k j x k' = L k' := va_up_ne _ _ h
theorem up2_m (I : Nat → Nat → Int32) (k : Nat) {j j' : Nat} (x : Int32) (h : j' ≠ j) : up2 I k j x k j' = I k j' := by rw [up2_k]; exact pk_un h
theorem up3_m (L : Nat → Nat → Int64) (k : Nat) {j j' : Nat} (x : Int64) (h : j' ≠ j) : up3 L k j x k j' = L k j' := by rw [up3_k]; exact pk_uLn h
theorem up2_v (I : Nat → Nat → Int32) (k j k' j' : Nat) (x : Int32) : up2 I k j x k' j' = if k' = k ∧ j' = j then x else I k' j' := by
  by_cases h : k' = k
  · subst h
    by_cases h2 : j' = j
    · subst h2; rw [up2_s, if_pos ⟨rfl, rfl⟩]
    · rw [up2_m _ _ _ h2, if_neg (fun q => h2 q.2)]
  · rw [up2_n _ _ _ h, if_neg (fun q => h q.1)]
theorem up3_v (L : Nat → Nat → Int64) (k j k' j' : Nat) (x : Int64) : up3 L k j x k' j' = if k' = k ∧ j' = j then x else L k' j' := by
  by_cases h : k' = k
  · subst h
    by_cases h2 : j' = j
    · subst h2; rw [up3_s, if_pos ⟨rfl, rfl⟩]
    · rw [up3_m _ _ _ h2, if_neg (fun q => h2 q.2)]
  · rw [up3_n _ _ _ h, if_neg (fun q => h q.1)]
theorem mm_ne (V : Vx) {I I' : Nat → Nat → Int32} {L L' : Nat → Nat → Int64} {q : Nat} (h1 : I q = I' q) (h2 : L q = L' q) : mm V I L q = mm V I' L' q := by
  unfold mm
  rw [h1, h2]
theorem mp_0_1 {V : Vx} {I : Nat → Nat → Int32} {L : Nat → Nat → Int64} {k : Nat} {x : Int32} (h : kd k = 0) : va_up (mm V I L) k (.inr (0, [.ref (ad V (k + 1)), .int x, .int (I k 2), .long (L k 3)])) = mm V (up2 I k 1 x) L := by
  funext q
  by_cases hq : q = k
  · subst hq
    simp [va_up, mm, h, up2, upd]
  · rw [va_up_ne _ _ hq]
    exact mm_ne V (up2_n I 1 x hq).symm rfl
theorem mp_0_2 {V : Vx} {I : Nat → Nat → Int32} {L : Nat → Nat → Int64} {k : Nat} {x : Int32} (h : kd k = 0) : va_up (mm V I L) k (.inr (0, [.ref (ad V (k + 1)), .int (I k 1), .int x, .long (L k 3)])) = mm V (up2 I k 2 x) L := by
  funext q
  by_cases hq : q = k
  · subst hq
    simp [va_up, mm, h, up2, upd]
  · rw [va_up_ne _ _ hq]
    exact mm_ne V (up2_n I 2 x hq).symm rfl
theorem mp_1_0 {V : Vx} {I : Nat → Nat → Int32} {L : Nat → Nat → Int64} {k : Nat} {x : Int32} (h : kd k = 1) : va_up (mm V I L) k (.inr (1, [.int x, .int (I k 1), .ref (ad V (k + 1))])) = mm V (up2 I k 0 x) L := by
  funext q
  by_cases hq : q = k
  · subst hq
    simp [va_up, mm, h, up2, upd]
  · rw [va_up_ne _ _ hq]
    exact mm_ne V (up2_n I 0 x hq).symm rfl
theorem mp_1_1 {V : Vx} {I : Nat → Nat → Int32} {L : Nat → Nat → Int64} {k : Nat} {x : Int32} (h : kd k = 1) : va_up (mm V I L) k (.inr (1, [.int (I k 0), .int x, .ref (ad V (k + 1))])) = mm V (up2 I k 1 x) L := by
  funext q
  by_cases hq : q = k
  · subst hq
    simp [va_up, mm, h, up2, upd]
  · rw [va_up_ne _ _ hq]
    exact mm_ne V (up2_n I 1 x hq).symm rfl
theorem mp_2_1 {V : Vx} {I : Nat → Nat → Int32} {L : Nat → Nat → Int64} {k : Nat} {x : Int32} (h : kd k = 2) : va_up (mm V I L) k (.inr (2, [.ref (ad V (k + 1)), .int x, .int (I k 2)])) = mm V (up2 I k 1 x) L := by
  funext q
  by_cases hq : q = k
  · subst hq
    simp [va_up, mm, h, up2, upd]
  · rw [va_up_ne _ _ hq]
    exact mm_ne V (up2_n I 1 x hq).symm rfl
theorem mp_2_2 {V : Vx} {I : Nat → Nat → Int32} {L : Nat → Nat → Int64} {k : Nat} {x : Int32} (h : kd k = 2) : va_up (mm V I L) k (.inr (2, [.ref (ad V (k + 1)), .int (I k 1), .int x])) = mm V (up2 I k 2 x) L := by
  funext q
  by_cases hq : q = k
  · subst hq
    simp [va_up, mm, h, up2, upd]
  · rw [va_up_ne _ _ hq]
    exact mm_ne V (up2_n I 2 x hq).symm rfl
theorem mp_3_0 {V : Vx} {I : Nat → Nat → Int32} {L : Nat → Nat → Int64} {k : Nat} {x : Int32} (h : kd k = 3) : va_up (mm V I L) k (.inr (3, [.int x, .int (I k 1), .ref (ad V (k + 1))])) = mm V (up2 I k 0 x) L := by
  funext q
  by_cases hq : q = k
  · subst hq
    simp [va_up, mm, h, up2, upd]
  · rw [va_up_ne _ _ hq]
    exact mm_ne V (up2_n I 0 x hq).symm rfl
theorem mp_3_1 {V : Vx} {I : Nat → Nat → Int32} {L : Nat → Nat → Int64} {k : Nat} {x : Int32} (h : kd k = 3) : va_up (mm V I L) k (.inr (3, [.int (I k 0), .int x, .ref (ad V (k + 1))])) = mm V (up2 I k 1 x) L := by
  funext q
  by_cases hq : q = k
  · subst hq
    simp [va_up, mm, h, up2, upd]
  · rw [va_up_ne _ _ hq]
    exact mm_ne V (up2_n I 1 x hq).symm rfl
theorem mp_5_9 {V : Vx} {I : Nat → Nat → Int32} {L : Nat → Nat → Int64} {k : Nat} {x : Int32} (h : kd k = 5) : va_up (mm V I L) k (.inr (5, [.ref (ad V 1), .ref (ad V 3), .ref (ad V 4), .ref (ad V 56), .ref (ad V 57), .ref (ad V 59), .ref (ad V 61), .ref (ad V 63), .ref (ad V 64), .int x, .int (I k 10)])) = mm V (up2 I k 9 x) L := by
  funext q
  by_cases hq : q = k
  · subst hq
    simp [va_up, mm, h, up2, upd]
  · rw [va_up_ne _ _ hq]
    exact mm_ne V (up2_n I 9 x hq).symm rfl
theorem mp_5_10 {V : Vx} {I : Nat → Nat → Int32} {L : Nat → Nat → Int64} {k : Nat} {x : Int32} (h : kd k = 5) : va_up (mm V I L) k (.inr (5, [.ref (ad V 1), .ref (ad V 3), .ref (ad V 4), .ref (ad V 56), .ref (ad V 57), .ref (ad V 59), .ref (ad V 61), .ref (ad V 63), .ref (ad V 64), .int (I k 9), .int x])) = mm V (up2 I k 10 x) L := by
  funext q
  by_cases hq : q = k
  · subst hq
    simp [va_up, mm, h, up2, upd]
  · rw [va_up_ne _ _ hq]
    exact mm_ne V (up2_n I 10 x hq).symm rfl
theorem mp_6_0 {V : Vx} {I : Nat → Nat → Int32} {L : Nat → Nat → Int64} {k : Nat} {x : Int32} (h : kd k = 6) : va_up (mm V I L) k (.inr (6, [.int x, .int (I k 1), .ref (ad V 86), .ref (ad V 87), .ref (ad V 88), .ref (ad V 89), .ref (ad V 90), .ref (ad V 91), .ref (ad V 92), .ref (ad V 93), .ref (ad V 94), .ref (ad V 95), .int (I k 12), .ref (ad V 96), .ref (ad V 97), .ref (ad V 98), .ref (ad V 99), .int (I k 17), .int (I k 18), .ref (ad V 100), .ref (ad V 101), .ref (ad V 102), .ref (ad V 103), .ref (ad V 104), .ref (ad V 105)])) = mm V (up2 I k 0 x) L := by
  funext q
  by_cases hq : q = k
  · subst hq
    simp [va_up, mm, h, up2, upd]
  · rw [va_up_ne _ _ hq]
    exact mm_ne V (up2_n I 0 x hq).symm rfl
theorem mp_6_1 {V : Vx} {I : Nat → Nat → Int32} {L : Nat → Nat → Int64} {k : Nat} {x : Int32} (h : kd k = 6) : va_up (mm V I L) k (.inr (6, [.int (I k 0), .int x, .ref (ad V 86), .ref (ad V 87), .ref (ad V 88), .ref (ad V 89), .ref (ad V 90), .ref (ad V 91), .ref (ad V 92), .ref (ad V 93), .ref (ad V 94), .ref (ad V 95), .int (I k 12), .ref (ad V 96), .ref (ad V 97), .ref (ad V 98), .ref (ad V 99), .int (I k 17), .int (I k 18), .ref (ad V 100), .ref (ad V 101), .ref (ad V 102), .ref (ad V 103), .ref (ad V 104), .ref (ad V 105)])) = mm V (up2 I k 1 x) L := by
  funext q
  by_cases hq : q = k
  · subst hq
    simp [va_up, mm, h, up2, upd]
  · rw [va_up_ne _ _ hq]
    exact mm_ne V (up2_n I 1 x hq).symm rfl
theorem mp_6_12 {V : Vx} {I : Nat → Nat → Int32} {L : Nat → Nat → Int64} {k : Nat} {x : Int32} (h : kd k = 6) : va_up (mm V I L) k (.inr (6, [.int (I k 0), .int (I k 1), .ref (ad V 86), .ref (ad V 87), .ref (ad V 88), .ref (ad V 89), .ref (ad V 90), .ref (ad V 91), .ref (ad V 92), .ref (ad V 93), .ref (ad V 94), .ref (ad V 95), .int x, .ref (ad V 96), .ref (ad V 97), .ref (ad V 98), .ref (ad V 99), .int (I k 17), .int (I k 18), .ref (ad V 100), .ref (ad V 101), .ref (ad V 102), .ref (ad V 103), .ref (ad V 104), .ref (ad V 105)])) = mm V (up2 I k 12 x) L := by
  funext q
  by_cases hq : q = k
  · subst hq
    simp [va_up, mm, h, up2, upd]
  · rw [va_up_ne _ _ hq]
    exact mm_ne V (up2_n I 12 x hq).symm rfl
theorem mp_6_17 {V : Vx} {I : Nat → Nat → Int32} {L : Nat → Nat → Int64} {k : Nat} {x : Int32} (h : kd k = 6) : va_up (mm V I L) k (.inr (6, [.int (I k 0), .int (I k 1), .ref (ad V 86), .ref (ad V 87), .ref (ad V 88), .ref (ad V 89), .ref (ad V 90), .ref (ad V 91), .ref (ad V 92), .ref (ad V 93), .ref (ad V 94), .ref (ad V 95), .int (I k 12), .ref (ad V 96), .ref (ad V 97), .ref (ad V 98), .ref (ad V 99), .int x, .int (I k 18), .ref (ad V 100), .ref (ad V 101), .ref (ad V 102), .ref (ad V 103), .ref (ad V 104), .ref (ad V 105)])) = mm V (up2 I k 17 x) L := by
  funext q
  by_cases hq : q = k
  · subst hq
    simp [va_up, mm, h, up2, upd]
  · rw [va_up_ne _ _ hq]
    exact mm_ne V (up2_n I 17 x hq).symm rfl
theorem mp_6_18 {V : Vx} {I : Nat → Nat → Int32} {L : Nat → Nat → Int64} {k : Nat} {x : Int32} (h : kd k = 6) : va_up (mm V I L) k (.inr (6, [.int (I k 0), .int (I k 1), .ref (ad V 86), .ref (ad V 87), .ref (ad V 88), .ref (ad V 89), .ref (ad V 90), .ref (ad V 91), .ref (ad V 92), .ref (ad V 93), .ref (ad V 94), .ref (ad V 95), .int (I k 12), .ref (ad V 96), .ref (ad V 97), .ref (ad V 98), .ref (ad V 99), .int (I k 17), .int x, .ref (ad V 100), .ref (ad V 101), .ref (ad V 102), .ref (ad V 103), .ref (ad V 104), .ref (ad V 105)])) = mm V (up2 I k 18 x) L := by
  funext q
  by_cases hq : q = k
  · subst hq
    simp [va_up, mm, h, up2, upd]
  · rw [va_up_ne _ _ hq]
    exact mm_ne V (up2_n I 18 x hq).symm rfl
theorem mp_0_3 {V : Vx} {I : Nat → Nat → Int32} {L : Nat → Nat → Int64} {k : Nat} {x : Int64} (h : kd k = 0) : va_up (mm V I L) k (.inr (0, [.ref (ad V (k + 1)), .int (I k 1), .int (I k 2), .long x])) = mm V I (up3 L k 3 x) := by
  funext q
  by_cases hq : q = k
  · subst hq
    simp [va_up, mm, h, up3, vp_updL]
  · rw [va_up_ne _ _ hq]
    exact mm_ne V rfl (up3_n L 3 x hq).symm
theorem mp_4_1 {V : Vx} {I : Nat → Nat → Int32} {L : Nat → Nat → Int64} {k : Nat} {x : Int64} (h : kd k = 4) : va_up (mm V I L) k (.inr (4, [.ref (ad V (k + 1)), .long x])) = mm V I (up3 L k 1 x) := by
  funext q
  by_cases hq : q = k
  · subst hq
    simp [va_up, mm, h, up3, vp_updL]
  · rw [va_up_ne _ _ hq]
    exact mm_ne V rfl (up3_n L 1 x hq).symm
theorem mp_7 {V : Vx} {I : Nat → Nat → Int32} {L : Nat → Nat → Int64} {k j : Nat} {x : Int32} (h : kd k = 7) : va_up (mm V I L) k (.inl (V.2.1.1, ln k, .inl (upd (I k) j x))) = mm V (up2 I k j x) L := by
  funext q
  by_cases hq : q = k
  · subst hq
    simp [va_up, mm, h, up2]
  · rw [va_up_ne _ _ hq]
    exact mm_ne V (up2_n I j x hq).symm rfl
theorem mp_9 {V : Vx} {I : Nat → Nat → Int32} {L : Nat → Nat → Int64} {k j : Nat} {x : Int32} (h : kd k = 9) : va_up (mm V I L) k (.inl (V.2.1.2.2.1, ln k, .inl (upd (I k) j x))) = mm V (up2 I k j x) L := by
  funext q
  by_cases hq : q = k
  · subst hq
    simp [va_up, mm, h, up2]
  · rw [va_up_ne _ _ hq]
    exact mm_ne V (up2_n I j x hq).symm rfl
theorem mp_8 {V : Vx} {I : Nat → Nat → Int32} {L : Nat → Nat → Int64} {k j : Nat} {x : Int64} (h : kd k = 8) : va_up (mm V I L) k (.inl (V.2.1.2.1, ln k, .inr (.inl (vp_updL (L k) j x)))) = mm V I (up3 L k j x) := by
  funext q
  by_cases hq : q = k
  · subst hq
    simp [va_up, mm, h, up3]
  · rw [va_up_ne _ _ hq]
    exact mm_ne V rfl (up3_n L j x hq).symm
theorem mk_7 {V : Vx} {I : Nat → Nat → Int32} {L : Nat → Nat → Int64} {k : Nat} (h : kd k = 7) : mm V I L k = .inl (V.2.1.1, ln k, .inl (I k)) := by simp [mm, h]
theorem mk_8 {V : Vx} {I : Nat → Nat → Int32} {L : Nat → Nat → Int64} {k : Nat} (h : kd k = 8) : mm V I L k = .inl (V.2.1.2.1, ln k, .inr (.inl (L k))) := by simp [mm, h]
theorem mk_9 {V : Vx} {I : Nat → Nat → Int32} {L : Nat → Nat → Int64} {k : Nat} (h : kd k = 9) : mm V I L k = .inl (V.2.1.2.2.1, ln k, .inl (I k)) := by simp [mm, h]
theorem mk_10 {V : Vx} {I : Nat → Nat → Int32} {L : Nat → Nat → Int64} {k : Nat} (h : kd k = 10) : mm V I L k = .inl (V.2.1.2.2.2.1, ln k, .inr (.inr (.inr (.inr (fun i => some (ad V (rid k i))))))) := by simp [mm, h]
theorem mk_11 {V : Vx} {I : Nat → Nat → Int32} {L : Nat → Nat → Int64} {k : Nat} (h : kd k = 11) : mm V I L k = .inl (V.2.1.2.2.2.2, ln k, .inr (.inr (.inr (.inr (fun i => some (ad V (rid k i))))))) := by simp [mm, h]
theorem mk_3 {V : Vx} {I : Nat → Nat → Int32} {L : Nat → Nat → Int64} {k : Nat} (h : kd k = 3) : mm V I L k = .inr (3, [.int (I k 0), .int (I k 1), .ref (ad V (k + 1))]) := by simp [mm, h]
theorem mk_1 {V : Vx} {I : Nat → Nat → Int32} {L : Nat → Nat → Int64} {k : Nat} (h : kd k = 1) : mm V I L k = .inr (1, [.int (I k 0), .int (I k 1), .ref (ad V (k + 1))]) := by simp [mm, h]
theorem mk_4 {V : Vx} {I : Nat → Nat → Int32} {L : Nat → Nat → Int64} {k : Nat} (h : kd k = 4) : mm V I L k = .inr (4, [.ref (ad V (k + 1)), .long (L k 1)]) := by simp [mm, h]
theorem kd_lt {k c : Nat} (h : kd k = c) (hc : c ≠ 12) : k < 106 := by
  rcases Nat.lt_or_ge k 106 with q | q
  · exact q
  · refine absurd ?_ hc
    rw [← h]
    unfold kd
    rw [List.getD_eq_getElem?_getD, List.getElem?_eq_none (by simpa using q)]
    rfl
