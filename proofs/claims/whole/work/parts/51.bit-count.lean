/-! Long.bitCount -/
def rep (c : Nat) : Nat → Nat
  | 0 => 0
  | n + 1 => c + 256 * rep c n
theorem and_sp {a A m M : Nat} (ha : a < 256) (hm : m < 256) : (a + 256 * A) &&& (m + 256 * M) = (a &&& m) + 256 * (A &&& M) := by
  have h1 : ((a + 256 * A) &&& (m + 256 * M)) % 2 ^ 8 = a &&& m := by
    rw [Nat.and_mod_two_pow, show (a + 256 * A) % 2 ^ 8 = a by omega, show (m + 256 * M) % 2 ^ 8 = m by omega]
  have h2 : ((a + 256 * A) &&& (m + 256 * M)) / 2 ^ 8 = A &&& M := by
    rw [← Nat.shiftRight_eq_div_pow, Nat.shiftRight_and_distrib, Nat.shiftRight_eq_div_pow, Nat.shiftRight_eq_div_pow, show (a + 256 * A) / 2 ^ 8 = A by omega, show (m + 256 * M) / 2 ^ 8 = M by omega]
  omega
def s1 (n x : Nat) : Nat := x - ((x / 2) &&& rep 85 n)
def s2 (n x : Nat) : Nat := (x &&& rep 51 n) + ((x / 4) &&& rep 51 n)
def s3 (n x : Nat) : Nat := (x + x / 16) &&& rep 15 n
def p1 (a : Nat) : Nat := a - ((a / 2) &&& 85)
def p2 (a : Nat) : Nat := (a &&& 51) + ((a / 4) &&& 51)
def pcN (x : Nat) : Nat → Nat
  | 0 => 0
  | k + 1 => pcN x k + (x.testBit k).toNat
theorem s1_s {n a X : Nat} (ha : a < 256) : s1 (n + 1) (a + 256 * X) = p1 a + 256 * s1 n X := by
  have key : ∀ a, a < 256 → ∀ e, e < 2 → (a / 2 + 128 * e) &&& 85 = (a / 2) &&& 85 := by decide +kernel
  unfold s1 p1
  rw [show (a + 256 * X) / 2 = (a / 2 + 128 * (X % 2)) + 256 * (X / 2) by omega]
  show a + 256 * X - ((a / 2 + 128 * (X % 2)) + 256 * (X / 2) &&& (85 + 256 * rep 85 n)) = _
  rw [and_sp (by omega) (by decide), key a ha _ (by omega)]
  have u1 : (a / 2) &&& 85 ≤ a / 2 := Nat.and_le_left
  have u2 : (X / 2) &&& rep 85 n ≤ X / 2 := Nat.and_le_left
  omega
theorem s2_s {n a X : Nat} (ha : a < 256) : s2 (n + 1) (a + 256 * X) = p2 a + 256 * s2 n X := by
  have key : ∀ a, a < 256 → ∀ e, e < 4 → (a / 4 + 64 * e) &&& 51 = (a / 4) &&& 51 := by decide +kernel
  unfold s2 p2
  rw [show (a + 256 * X) / 4 = (a / 4 + 64 * (X % 4)) + 256 * (X / 4) by omega]
  show (a + 256 * X &&& (51 + 256 * rep 51 n)) + ((a / 4 + 64 * (X % 4)) + 256 * (X / 4) &&& (51 + 256 * rep 51 n)) = _
  rw [and_sp (by omega) (by decide), and_sp (by omega) (by decide), key a ha _ (by omega)]
  omega
theorem p1_lt {a : Nat} (h : a < 256) : p1 a < 256 := by unfold p1; omega
theorem s12_n {n X : Nat} : s2 n (s1 n X) % 16 ≤ 4 := by
  cases n with
  | zero => unfold s2; show ((_ &&& 0) + (_ &&& 0)) % 16 ≤ 4; rw [Nat.and_zero, Nat.and_zero]; omega
  | succ n =>
    have key : ∀ a, a < 256 → p2 (p1 a) % 16 ≤ 4 := by decide +kernel
    have e : X = X % 256 + 256 * (X / 256) := by omega
    rw [e, s1_s (by omega), s2_s (p1_lt (by omega))]
    have := key (X % 256) (by omega)
    omega
def pcv (n x : Nat) : Nat := s3 n (s2 n (s1 n x))
theorem pcv_s {n a X : Nat} (ha : a < 256) : pcv (n + 1) (a + 256 * X) = pcN a 8 + 256 * pcv n X := by
  have key : ∀ a, a < 256 → ∀ e, e < 5 → p2 (p1 a) + p2 (p1 a) / 16 + 16 * e < 256 ∧ (p2 (p1 a) + p2 (p1 a) / 16 + 16 * e) &&& 15 = pcN a 8 ∧ p2 (p1 a) < 256 := by decide +kernel
  have hn := s12_n (n := n) (X := X)
  unfold pcv
  rw [s1_s ha, s2_s (p1_lt ha)]
  generalize s2 n (s1 n X) = Z at hn
  obtain ⟨k1, k2, k3⟩ := key a ha (Z % 16) (by omega)
  unfold s3
  rw [show p2 (p1 a) + 256 * Z + (p2 (p1 a) + 256 * Z) / 16 = (p2 (p1 a) + p2 (p1 a) / 16 + 16 * (Z % 16)) + 256 * (Z + Z / 16) by omega]
  show ((p2 (p1 a) + p2 (p1 a) / 16 + 16 * (Z % 16)) + 256 * (Z + Z / 16)) &&& (15 + 256 * rep 15 n) = _
  rw [and_sp k1 (by decide), k2]
theorem pcN_lo {a X : Nat} (ha : a < 256) : ∀ k, k ≤ 8 → pcN (a + 256 * X) k = pcN a k
  | 0, _ => rfl
  | k + 1, hk => by
    unfold pcN
    rw [pcN_lo ha k (by omega)]
    have h := Nat.testBit_mod_two_pow (a + 256 * X) 8 k
    rw [show (a + 256 * X) % 2 ^ 8 = a by omega, decide_eq_true (show k < 8 by omega), Bool.true_and] at h
    rw [h]
theorem pcN_hi {a X : Nat} (ha : a < 256) : ∀ k, pcN (a + 256 * X) (8 + k) = pcN a 8 + pcN X k
  | 0 => pcN_lo ha 8 (Nat.le_refl _)
  | k + 1 => by
    show pcN (a + 256 * X) (8 + k) + ((a + 256 * X).testBit (8 + k)).toNat = pcN a 8 + (pcN X k + (X.testBit k).toNat)
    rw [pcN_hi ha k]
    have h : ((a + 256 * X) / 2 ^ 8).testBit k = (a + 256 * X).testBit (k + 8) := Nat.testBit_div_two_pow _ _
    rw [show (a + 256 * X) / 2 ^ 8 = X by omega] at h
    rw [show 8 + k = k + 8 by omega, ← h]
    omega
theorem pcN_le {a : Nat} : ∀ k, pcN a k ≤ k
  | 0 => Nat.le_refl _
  | k + 1 => by
    have := pcN_le (a := a) k
    have : (a.testBit k).toNat ≤ 1 := by cases a.testBit k <;> decide
    unfold pcN
    omega
theorem pcv_dig (k : Nat) {x : Nat} : ∃ d X, d ≤ 8 ∧ pcv (k + 1) x = d + 256 * pcv k X ∧ pcN x (8 + 8 * k) = d + pcN X (8 * k) := by
  have e : x = x % 256 + 256 * (x / 256) := by omega
  refine ⟨pcN (x % 256) 8, x / 256, pcN_le 8, ?_, ?_⟩
  · conv => lhs; rw [e]
    exact pcv_s (by omega)
  · conv => lhs; rw [e]
    exact pcN_hi (by omega) _
theorem pcv_8 (x : Nat) : ∃ a b c d e f g h, a ≤ 8 ∧ b ≤ 8 ∧ c ≤ 8 ∧ d ≤ 8 ∧ e ≤ 8 ∧ f ≤ 8 ∧ g ≤ 8 ∧ h ≤ 8 ∧ pcv 8 x = a + 256 * (b + 256 * (c + 256 * (d + 256 * (e + 256 * (f + 256 * (g + 256 * h)))))) ∧ pcN x 64 = a + b + c + d + e + f + g + h := by
  obtain ⟨a, X1, ha, e1, f1⟩ := pcv_dig 7 (x := x)
  obtain ⟨b, X2, hb, e2, f2⟩ := pcv_dig 6 (x := X1)
  obtain ⟨c, X3, hc, e3, f3⟩ := pcv_dig 5 (x := X2)
  obtain ⟨d, X4, hd, e4, f4⟩ := pcv_dig 4 (x := X3)
  obtain ⟨e, X5, he, e5, f5⟩ := pcv_dig 3 (x := X4)
  obtain ⟨f, X6, hf, e6, f6⟩ := pcv_dig 2 (x := X5)
  obtain ⟨g, X7, hg, e7, f7⟩ := pcv_dig 1 (x := X6)
  obtain ⟨h, X8, hh, e8, f8⟩ := pcv_dig 0 (x := X7)
  have z : pcv 0 X8 = 0 := by unfold pcv s3; exact Nat.and_zero _
  have z2 : pcN X8 (8 * 0) = 0 := rfl
  refine ⟨a, b, c, d, e, f, g, h, ha, hb, hc, hd, he, hf, hg, hh, ?_, ?_⟩
  · rw [e1, e2, e3, e4, e5, e6, e7, e8, z]; omega
  · have q1 : pcN x 64 = a + pcN X1 56 := f1
    have q2 : pcN X1 56 = b + pcN X2 48 := f2
    have q3 : pcN X2 48 = c + pcN X3 40 := f3
    have q4 : pcN X3 40 = d + pcN X4 32 := f4
    have q5 : pcN X4 32 = e + pcN X5 24 := f5
    have q6 : pcN X5 24 = f + pcN X6 16 := f6
    have q7 : pcN X6 16 = g + pcN X7 8 := f7
    have q8 : pcN X7 8 = h + pcN X8 0 := f8
    have q9 : pcN X8 0 = 0 := rfl
    omega
def us (x : Int64) (k : Nat) : Int64 := (x.toUInt64 >>> ((nI k).toInt64.toUInt64 &&& Int64.toUInt64 63)).toInt64
def tn (x : Int64) : Nat := x.toBitVec.toNat
theorem tn_lt (x : Int64) : tn x < 2 ^ 64 := x.toBitVec.isLt
theorem tn_us {x : Int64} {k : Nat} (hk : k < 64) : tn (us x k) = tn x / 2 ^ k := by
  have key : ∀ k, k < 64 → ((nI k).toInt64.toUInt64 &&& Int64.toUInt64 63).toNat % 64 = k := by decide +kernel
  show (x.toUInt64 >>> ((nI k).toInt64.toUInt64 &&& Int64.toUInt64 63)).toNat = _
  rw [UInt64.toNat_shiftRight, key k hk, Nat.shiftRight_eq_div_pow]
  rfl
theorem tn_add (x y : Int64) : tn (x + y) = (tn x + tn y) % 2 ^ 64 := by unfold tn; rw [Int64.toBitVec_add, BitVec.toNat_add]
theorem tn_sub (x y : Int64) : tn (x - y) = (2 ^ 64 - tn y + tn x) % 2 ^ 64 := by unfold tn; rw [Int64.toBitVec_sub, BitVec.toNat_sub]
theorem tn_and (x y : Int64) : tn (x &&& y) = tn x &&& tn y := by unfold tn; rw [Int64.toBitVec_and, BitVec.toNat_and]
def b1 (x : Int64) : Int64 := x - (us x 1 &&& 6148914691236517205)
def b2 (x : Int64) : Int64 := (x &&& 3689348814741910323) + (us x 2 &&& 3689348814741910323)
def b3 (x : Int64) : Int64 := (x + us x 4) &&& 1085102592571150095
def b4 (x : Int64) (k : Nat) : Int64 := x + us x k
def bcX (x : Int64) : Int32 := (b4 (b4 (b4 (b3 (b2 (b1 x))) 8) 16) 32).toInt32 &&& nI 127
theorem b1_n (x : Int64) : tn (b1 x) = s1 8 (tn x) := by
  unfold b1 s1
  rw [tn_sub, tn_and, tn_us (by decide)]
  show (2 ^ 64 - (tn x / 2 ^ 1 &&& rep 85 8) + tn x) % 2 ^ 64 = _
  have h : (tn x / 2 ^ 1 &&& rep 85 8) ≤ tn x / 2 ^ 1 := Nat.and_le_left
  have := tn_lt x
  show (2 ^ 64 - (tn x / 2 ^ 1 &&& rep 85 8) + tn x) % 2 ^ 64 = tn x - (tn x / 2 ^ 1 &&& rep 85 8)
  omega
theorem b2_n (x : Int64) : tn (b2 x) = s2 8 (tn x) := by
  unfold b2 s2
  rw [tn_add, tn_and, tn_and, tn_us (by decide)]
  show ((tn x &&& rep 51 8) + (tn x / 4 &&& rep 51 8)) % 2 ^ 64 = _
  have h1 : (tn x &&& rep 51 8) ≤ rep 51 8 := Nat.and_le_right
  have h2 : (tn x / 4 &&& rep 51 8) ≤ rep 51 8 := Nat.and_le_right
  have h3 : rep 51 8 = 3689348814741910323 := by decide +kernel
  omega
theorem b3_n {x : Int64} (h : tn x < 2 ^ 63) : tn (b3 x) = s3 8 (tn x) := by
  unfold b3 s3
  rw [tn_and, tn_add, tn_us (by decide)]
  show (tn x + tn x / 16) % 2 ^ 64 &&& rep 15 8 = _
  rw [Nat.mod_eq_of_lt (by omega)]
theorem s2_b (x : Nat) : s2 8 x < 2 ^ 63 := by
  unfold s2
  have h1 : (x &&& rep 51 8) ≤ rep 51 8 := Nat.and_le_right
  have h2 : (x / 4 &&& rep 51 8) ≤ rep 51 8 := Nat.and_le_right
  have h3 : rep 51 8 = 3689348814741910323 := by decide +kernel
  omega
theorem b4_n (x : Int64) {k : Nat} (hk : k < 64) : tn (b4 x k) = (tn x + tn x / 2 ^ k) % 2 ^ 64 := by
  unfold b4
  rw [tn_add, tn_us hk]
theorem bc_eq (x : Int64) : bcX x = nI (pcN (tn x) 64) := by
  have e0 : tn (b3 (b2 (b1 x))) = pcv 8 (tn x) := by
    unfold pcv
    rw [← b1_n, ← b2_n]
    exact b3_n (by rw [b2_n]; exact s2_b _)
  obtain ⟨a, b, c, d, e, f, g, h, ha, hb, hc, hd, he, hf, hg, hh, e1, e2⟩ := pcv_8 (tn x)
  rw [e1] at e0
  unfold bcX
  generalize b3 (b2 (b1 x)) = y at e0 ⊢
  have y1 : tn (b4 y 8) = (a + b) + 256 * ((b + c) + 256 * ((c + d) + 256 * ((d + e) + 256 * ((e + f) + 256 * ((f + g) + 256 * ((g + h) + 256 * h)))))) := by
    rw [b4_n y (by decide), e0]
    omega
  have dv : ∀ u lo hi : Nat, u = lo + 65536 * hi → lo < 65536 → u / 2 ^ 16 = hi := by omega
  have dv2 : ∀ u lo hi : Nat, u = lo + 4294967296 * hi → lo < 4294967296 → u / 2 ^ 32 = hi := by omega
  have fin : ∀ T S K : Nat, T = S + 256 * K → S < 128 → T < 2 ^ 64 → T % 2 ^ 64 % 2 ^ 32 % 128 = S := by omega
  have y2 : tn (b4 (b4 y 8) 16) = (a + b + c + d) + 256 * ((b + c + d + e) + 256 * ((c + d + e + f) + 256 * ((d + e + f + g) + 256 * ((e + f + g + h) + 256 * ((f + g + h) + 256 * ((g + h) + 256 * h)))))) := by
    rw [b4_n _ (by decide), y1, dv _ ((a + b) + 256 * (b + c)) ((c + d) + 256 * ((d + e) + 256 * ((e + f) + 256 * ((f + g) + 256 * ((g + h) + 256 * h))))) (by clear e0 e1 y1; omega) (by clear e0 e1 y1; omega), Nat.mod_eq_of_lt (by clear e0 e1 y1; omega)]
    clear e0 e1 y1
    omega
  have y3 : tn (b4 (b4 (b4 y 8) 16) 32) % 2 ^ 32 % 128 = a + b + c + d + e + f + g + h := by
    rw [b4_n _ (by decide), y2, dv2 _ ((a + b + c + d) + 256 * ((b + c + d + e) + 256 * ((c + d + e + f) + 256 * (d + e + f + g)))) ((e + f + g + h) + 256 * ((f + g + h) + 256 * ((g + h) + 256 * h))) (by clear e0 e1 y1 y2; omega) (by clear e0 e1 y1 y2; omega)]
    clear e0 e1 y1 y2
    exact fin _ _ ((b + c + d + e) + (f + g + h) + 256 * ((c + d + e + f) + (g + h) + 256 * ((d + e + f + g) + h + 256 * ((e + f + g + h) + 256 * ((f + g + h) + 256 * ((g + h) + 256 * h)))))) (by omega) (by omega) (by omega)
  generalize b4 (b4 (b4 y 8) 16) 32 = Z at y3 ⊢
  apply Int32.toBitVec_inj.mp
  apply BitVec.eq_of_toNat_eq
  rw [Int32.toBitVec_and, BitVec.toNat_and]
  show (Z.toBitVec.signExtend 32).toNat &&& (2 ^ 7 - 1) = (BitVec.ofNat 32 (pcN (tn x) 64)).toNat
  rw [BitVec.signExtend_eq_setWidth_of_le _ (by decide), BitVec.toNat_setWidth, Nat.and_two_pow_sub_one_eq_mod, BitVec.toNat_ofNat, e2]
  have y3 : Z.toBitVec.toNat % 2 ^ 32 % 128 = a + b + c + d + e + f + g + h := y3
  omega
set_option maxHeartbeats 4000000 in
set_option maxRecDepth 100000 in
theorem ok_J13_bitCount_95d88 (l : Launch) (V : Vx) (x : Int64) (I : Nat → Nat → Int32) (L : Nat → Nat → Int64) : Di l V yJ13_bitCount_95d88 wsJ13_bitCount_95d88 1 [.long x] I L (nI (pcN (tn x) 64)) I L := by
  rw [← bc_eq x]
  refine Ok.of (cc := cJ13_bitCount_95d88) (maxL := 2) (ret := (some .int)) (by decide) rfl (Nat.le_of_ble_eq_true rfl) (fun X hnm C => ?_)
  have C : CX l X V RJ13 cJ13_bitCount_95d88 2 wsJ13_bitCount_95d88 1 0 0 (some .int) := C
  refine J.cast (ls' := [(0, _)]) rfl rfl rfl rfl ?_
  refine J.lload_n C dJ13_bitCount_95d88_0 rfl ?_
  refine J.lload_n C dJ13_bitCount_95d88_1 rfl ?_
  refine J.iconst C dJ13_bitCount_95d88_2 (v := (nI 1)) (by decide) ?_
  refine J.lushr C dJ13_bitCount_95d88_3 ?_
  refine J.ldc2 C (v := 6148914691236517205) (by decide +kernel) dJ13_bitCount_95d88_4 ?_
  refine J.land C dJ13_bitCount_95d88_7 ?_
  refine J.lsub C dJ13_bitCount_95d88_8 ?_
  refine J.lstore_n (ls' := [(0, _)]) C dJ13_bitCount_95d88_9 (by decide) rfl ?_
  refine J.lload_n C dJ13_bitCount_95d88_10 rfl ?_
  refine J.ldc2 C (v := 3689348814741910323) (by decide +kernel) dJ13_bitCount_95d88_11 ?_
  refine J.land C dJ13_bitCount_95d88_14 ?_
  refine J.lload_n C dJ13_bitCount_95d88_15 rfl ?_
  refine J.iconst C dJ13_bitCount_95d88_16 (v := (nI 2)) (by decide) ?_
  refine J.lushr C dJ13_bitCount_95d88_17 ?_
  refine J.ldc2 C (v := 3689348814741910323) (by decide +kernel) dJ13_bitCount_95d88_18 ?_
  refine J.land C dJ13_bitCount_95d88_21 ?_
  refine J.ladd C dJ13_bitCount_95d88_22 ?_
  refine J.lstore_n (ls' := [(0, _)]) C dJ13_bitCount_95d88_23 (by decide) rfl ?_
  refine J.lload_n C dJ13_bitCount_95d88_24 rfl ?_
  refine J.lload_n C dJ13_bitCount_95d88_25 rfl ?_
  refine J.iconst C dJ13_bitCount_95d88_26 (v := (nI 4)) (by decide) ?_
  refine J.lushr C dJ13_bitCount_95d88_27 ?_
  refine J.ladd C dJ13_bitCount_95d88_28 ?_
  refine J.ldc2 C (v := 1085102592571150095) (by decide +kernel) dJ13_bitCount_95d88_29 ?_
  refine J.land C dJ13_bitCount_95d88_32 ?_
  refine J.lstore_n (ls' := [(0, _)]) C dJ13_bitCount_95d88_33 (by decide) rfl ?_
  refine J.lload_n C dJ13_bitCount_95d88_34 rfl ?_
  refine J.lload_n C dJ13_bitCount_95d88_35 rfl ?_
  refine J.bipush C dJ13_bitCount_95d88_36 (v := (nI 8)) (by decide) ?_
  refine J.lushr C dJ13_bitCount_95d88_38 ?_
  refine J.ladd C dJ13_bitCount_95d88_39 ?_
  refine J.lstore_n (ls' := [(0, _)]) C dJ13_bitCount_95d88_40 (by decide) rfl ?_
  refine J.lload_n C dJ13_bitCount_95d88_41 rfl ?_
  refine J.lload_n C dJ13_bitCount_95d88_42 rfl ?_
  refine J.bipush C dJ13_bitCount_95d88_43 (v := (nI 16)) (by decide) ?_
  refine J.lushr C dJ13_bitCount_95d88_45 ?_
  refine J.ladd C dJ13_bitCount_95d88_46 ?_
  refine J.lstore_n (ls' := [(0, _)]) C dJ13_bitCount_95d88_47 (by decide) rfl ?_
  refine J.lload_n C dJ13_bitCount_95d88_48 rfl ?_
  refine J.lload_n C dJ13_bitCount_95d88_49 rfl ?_
  refine J.bipush C dJ13_bitCount_95d88_50 (v := (nI 32)) (by decide) ?_
  refine J.lushr C dJ13_bitCount_95d88_52 ?_
  refine J.ladd C dJ13_bitCount_95d88_53 ?_
  refine J.lstore_n (ls' := [(0, _)]) C dJ13_bitCount_95d88_54 (by decide) rfl ?_
  refine J.lload_n C dJ13_bitCount_95d88_55 rfl ?_
  refine J.l2i C dJ13_bitCount_95d88_56 ?_
  refine J.bipush C dJ13_bitCount_95d88_57 (v := (nI 127)) (by decide) ?_
  refine J.iand C dJ13_bitCount_95d88_59 ?_
  exact J.iret C dJ13_bitCount_95d88_60 ⟨rfl, rfl⟩
