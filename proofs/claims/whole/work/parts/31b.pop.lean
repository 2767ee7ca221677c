/-! the JDK's bitCount counts the bits -/
theorem land_b {a b c e : Nat} (ha : a < 256) (hc : c < 256) : (256 * b + a) &&& (256 * e + c) = 256 * (b &&& e) + (a &&& c) := by
  have hac : a &&& c < 2 ^ 8 := Nat.lt_of_le_of_lt Nat.and_le_left ha
  apply Nat.eq_of_testBit_eq
  intro i
  rw [Nat.testBit_and, show (256 : Nat) = 2 ^ 8 from rfl, Nat.testBit_two_pow_mul_add b (show a < 2 ^ 8 from ha), Nat.testBit_two_pow_mul_add e (show c < 2 ^ 8 from hc), Nat.testBit_two_pow_mul_add _ hac]
  split
  · rw [Nat.testBit_and]
  · rw [Nat.testBit_and]
theorem bt_add (x k n : Nat) : bitct x (k + n) = bitct x k + bitct (x / 2 ^ k) n := by
  induction n with
  | zero => rfl
  | succ n ih => rw [show k + (n + 1) = (k + n) + 1 by omega, bitct, bitct, ih, Nat.testBit_div_two_pow, show n + k = k + n by omega]; omega
theorem bt_mod (x k : Nat) : bitct (x % 2 ^ k) k = bitct x k := by
  suffices h : ∀ n, n ≤ k → bitct (x % 2 ^ k) n = bitct x n from h k (Nat.le_refl k)
  intro n
  induction n with
  | zero => intro _; rfl
  | succ n ih => intro h; rw [bitct, bitct, ih (by omega), Nat.testBit_mod_two_pow]; simp [show n < k by omega]
def pb1 (b : Nat) : Nat := b - (b / 2 &&& 85)
def pb2 (b : Nat) : Nat := (pb1 b &&& 51) + (pb1 b / 4 &&& 51)
theorem pb_all : ∀ b : Nat, b < 256 → (b / 2 &&& 85) ≤ b ∧ pb1 b < 256 ∧ pb2 b ≤ 68 ∧ pb2 b % 16 ≤ 4 ∧ (pb2 b + pb2 b / 16) % 16 = bitct b 8 ∧ bitct b 8 ≤ 8 := by decide +kernel
theorem land_hi {a t : Nat} (ha : a < 128) (ht : t < 2) : (128 * t + a) &&& 85 = a &&& 85 := by
  apply Nat.eq_of_testBit_eq
  intro i
  rw [Nat.testBit_and, Nat.testBit_and, show (128 : Nat) = 2 ^ 7 from rfl, Nat.testBit_two_pow_mul_add t (show a < 2 ^ 7 from ha)]
  by_cases h : i < 7
  · rw [if_pos h]
  · have h2 : Nat.testBit 85 i = false := Nat.testBit_lt_two_pow (Nat.lt_of_lt_of_le (show 85 < 2 ^ 7 by decide) (Nat.pow_le_pow_right (by decide) (by omega)))
    rw [h2, Bool.and_false, Bool.and_false]
theorem land_hi3 {a t : Nat} (ha : a < 64) : (64 * t + a) &&& 51 = a &&& 51 := by
  apply Nat.eq_of_testBit_eq
  intro i
  rw [Nat.testBit_and, Nat.testBit_and, show (64 : Nat) = 2 ^ 6 from rfl, Nat.testBit_two_pow_mul_add t (show a < 2 ^ 6 from ha)]
  by_cases h : i < 6
  · rw [if_pos h]
  · have h2 : Nat.testBit 51 i = false := Nat.testBit_lt_two_pow (Nat.lt_of_lt_of_le (show 51 < 2 ^ 6 by decide) (Nat.pow_le_pow_right (by decide) (by omega)))
    rw [h2, Bool.and_false, Bool.and_false]
def wd (a b c e : Nat) : Nat := 256 * (256 * (256 * e + c) + b) + a
theorem land_w {a b c e x : Nat} (ha : a < 256) (hb : b < 256) (hc : c < 256) (hx : x < 256) : wd a b c e &&& wd x x x x = wd (a &&& x) (b &&& x) (c &&& x) (e &&& x) := by
  unfold wd
  rw [land_b ha hx, land_b hb hx, land_b hc hx]
theorem st_1 {a b c e : Nat} (ha : a < 256) (hb : b < 256) (hc : c < 256) (he : e < 256) : wd a b c e - (wd a b c e / 2 &&& 1431655765) = wd (pb1 a) (pb1 b) (pb1 c) (pb1 e) := by
  have h1 : wd a b c e / 2 = wd (128 * (b % 2) + a / 2) (128 * (c % 2) + b / 2) (128 * (e % 2) + c / 2) (e / 2) := by unfold wd; omega
  rw [h1, show (1431655765 : Nat) = wd 85 85 85 85 from rfl, land_w (by omega) (by omega) (by omega) (by omega), land_hi (by omega) (by omega), land_hi (by omega) (by omega), land_hi (by omega) (by omega)]
  have p1 := (pb_all a ha).1
  have p2 := (pb_all b hb).1
  have p3 := (pb_all c hc).1
  have p4 := (pb_all e he).1
  unfold wd pb1
  omega
theorem st_2 {a b c e : Nat} (ha : a < 256) (hb : b < 256) (hc : c < 256) (he : e < 256) : (wd (pb1 a) (pb1 b) (pb1 c) (pb1 e) &&& 858993459) + (wd (pb1 a) (pb1 b) (pb1 c) (pb1 e) / 4 &&& 858993459) = wd (pb2 a) (pb2 b) (pb2 c) (pb2 e) := by
  have q1 := (pb_all a ha).2.1
  have q2 := (pb_all b hb).2.1
  have q3 := (pb_all c hc).2.1
  have q4 := (pb_all e he).2.1
  have h1 : wd (pb1 a) (pb1 b) (pb1 c) (pb1 e) / 4 = wd (64 * (pb1 b % 4) + pb1 a / 4) (64 * (pb1 c % 4) + pb1 b / 4) (64 * (pb1 e % 4) + pb1 c / 4) (pb1 e / 4) := by unfold wd; omega
  rw [h1, show (858993459 : Nat) = wd 51 51 51 51 from rfl, land_w q1 q2 q3 (by omega), land_w (by omega) (by omega) (by omega) (by omega), land_hi3 (by omega), land_hi3 (by omega), land_hi3 (by omega)]
  unfold wd pb2
  omega
theorem land_15 (a : Nat) : a &&& 15 = a % 16 := Nat.and_two_pow_sub_one_eq_mod a 4
theorem st_3 {a b c e : Nat} (ha : a < 256) (hb : b < 256) (hc : c < 256) (he : e < 256) : (wd (pb2 a) (pb2 b) (pb2 c) (pb2 e) + wd (pb2 a) (pb2 b) (pb2 c) (pb2 e) / 16 &&& 252645135) = wd (bitct a 8) (bitct b 8) (bitct c 8) (bitct e 8) := by
  have q1 := (pb_all a ha).2.2
  have q2 := (pb_all b hb).2.2
  have q3 := (pb_all c hc).2.2
  have q4 := (pb_all e he).2.2
  have h1 : wd (pb2 a) (pb2 b) (pb2 c) (pb2 e) + wd (pb2 a) (pb2 b) (pb2 c) (pb2 e) / 16 = wd (16 * (pb2 b % 16) + (pb2 a + pb2 a / 16)) (16 * (pb2 c % 16) + (pb2 b + pb2 b / 16)) (16 * (pb2 e % 16) + (pb2 c + pb2 c / 16)) (pb2 e + pb2 e / 16) := by unfold wd; omega
  rw [h1, show (252645135 : Nat) = wd 15 15 15 15 from rfl, land_w (by omega) (by omega) (by omega) (by omega), land_15, land_15, land_15, land_15, Nat.mul_add_mod, Nat.mul_add_mod, Nat.mul_add_mod, q1.2.2.1, q2.2.2.1, q3.2.2.1, q4.2.2.1]
theorem us_N (y : Int32) (k : Int) (n : Nat) (hk : (((Int32.ofInt k).toUInt32 &&& Int32.toUInt32 31).toBitVec % 32).toNat = n) : (usI y k).toBitVec.toNat = y.toBitVec.toNat / 2 ^ n := pk_ushr y (Int32.ofInt k) n hk
theorem and_N (x y : Int32) : (x &&& y).toBitVec.toNat = x.toBitVec.toNat &&& y.toBitVec.toNat := by rw [Int32.toBitVec_and, BitVec.toNat_and]
theorem add_N (x y : Int32) : (x + y).toBitVec.toNat = (x.toBitVec.toNat + y.toBitVec.toNat) % 2 ^ 32 := by rw [Int32.toBitVec_add, BitVec.toNat_add]
theorem sub_N (x y : Int32) (h : y.toBitVec.toNat ≤ x.toBitVec.toNat) : (x - y).toBitVec.toNat = x.toBitVec.toNat - y.toBitVec.toNat := by
  rw [Int32.toBitVec_sub, BitVec.toNat_sub]
  have := x.toBitVec.isLt
  omega
theorem bcI_bits (x : Int) : bcI x = bitct ((Int32.ofInt x).toBitVec.toNat) 32 := by
  have hX := (Int32.ofInt x).toBitVec.isLt
  obtain ⟨X, hXe⟩ : ∃ X, (Int32.ofInt x).toBitVec.toNat = X := ⟨_, rfl⟩
  rw [hXe] at hX ⊢
  have ha : X % 256 < 256 := by omega
  have hb : X / 256 % 256 < 256 := by omega
  have hc : X / 65536 % 256 < 256 := by omega
  have he : X / 16777216 < 256 := by omega
  have hw : X = wd (X % 256) (X / 256 % 256) (X / 65536 % 256) (X / 16777216) := by unfold wd; omega
  generalize X % 256 = a at ha hw
  generalize X / 256 % 256 = b at hb hw
  generalize X / 65536 % 256 = c at hc hw
  generalize X / 16777216 = e at he hw
  have q1 := (pb_all a ha).2.2
  have q2 := (pb_all b hb).2.2
  have q3 := (pb_all c hc).2.2
  have q4 := (pb_all e he).2.2
  have n1 : (bc1 (Int32.ofInt x)).toBitVec.toNat = wd (pb1 a) (pb1 b) (pb1 c) (pb1 e) := by
    unfold bc1
    have h : (usI (Int32.ofInt x) 1 &&& 1431655765).toBitVec.toNat = X / 2 &&& 1431655765 := by
      rw [and_N, us_N _ _ 1 (by decide), hXe]; rfl
    rw [sub_N _ _ (by rw [h, hXe]; exact Nat.le_trans Nat.and_le_left (Nat.div_le_self X 2)), h, hXe, hw]
    exact st_1 ha hb hc he
  have n2 : (bc2 (bc1 (Int32.ofInt x))).toBitVec.toNat = wd (pb2 a) (pb2 b) (pb2 c) (pb2 e) := by
    unfold bc2
    rw [add_N, and_N, and_N, us_N _ _ 2 (by decide), n1]
    show ((_ &&& 858993459) + (_ / 4 &&& 858993459)) % 4294967296 = _
    rw [st_2 ha hb hc he]
    unfold wd
    omega
  have n3 : (bc3 (bc2 (bc1 (Int32.ofInt x)))).toBitVec.toNat = wd (bitct a 8) (bitct b 8) (bitct c 8) (bitct e 8) := by
    unfold bc3
    rw [and_N, add_N, us_N _ _ 4 (by decide), n2]
    show (_ + _ / 16) % 4294967296 &&& 252645135 = _
    rw [Nat.mod_eq_of_lt (by unfold wd; omega)]
    exact st_3 ha hb hc he
  generalize hpa : bitct a 8 = pa at q1 n3
  generalize hpb : bitct b 8 = pb at q2 n3
  generalize hpc : bitct c 8 = pc at q3 n3
  generalize hpe : bitct e 8 = pe at q4 n3
  have n4 : (bc4 (bc3 (bc2 (bc1 (Int32.ofInt x))))).toBitVec.toNat = wd (pa + pb) (pb + pc) (pc + pe) pe := by
    unfold bc4
    rw [add_N, us_N _ _ 8 (by decide), n3]
    have e1 : wd pa pb pc pe / 256 = 65536 * pe + 256 * pc + pb := by unfold wd; omega
    show (_ + _ / 256) % 4294967296 = _
    rw [e1, Nat.mod_eq_of_lt (by unfold wd; omega)]
    unfold wd
    omega
  have n5 : (bc5 (bc4 (bc3 (bc2 (bc1 (Int32.ofInt x)))))).toBitVec.toNat % 64 = pa + pb + pc + pe := by
    unfold bc5
    rw [add_N, us_N _ _ 16 (by decide), n4]
    have e1 : wd (pa + pb) (pb + pc) (pc + pe) pe / 65536 = 256 * pe + (pc + pe) := by unfold wd; omega
    show (_ + _ / 65536) % 4294967296 % 64 = _
    rw [e1, Nat.mod_eq_of_lt (b := 4294967296) (by unfold wd; omega)]
    unfold wd
    omega
  have hB : bitct X 32 = bitct a 8 + bitct b 8 + bitct c 8 + bitct e 8 := by
    clear n5 n4 n3 n2 n1 hpa hpb hpc hpe q1 q2 q3 q4
    rw [show 32 = 8 + 24 from rfl, bt_add, show 24 = 8 + 16 from rfl, bt_add, show 16 = 8 + 8 from rfl, bt_add, ← bt_mod X 8, ← bt_mod (X / 2 ^ 8) 8, ← bt_mod (X / 2 ^ 8 / 2 ^ 8) 8, ← bt_mod (X / 2 ^ 8 / 2 ^ 8 / 2 ^ 8) 8]
    have f1 : X / 2 ^ 8 = 256 * (256 * e + c) + b := by show X / 256 = _; rw [hw]; unfold wd; omega
    have f2 : (256 * (256 * e + c) + b) / 2 ^ 8 = 256 * e + c := by show _ / 256 = _; omega
    have f3 : (256 * e + c) / 2 ^ 8 = e := by show _ / 256 = _; omega
    have e1 : X % 2 ^ 8 = a := by show X % 256 = _; rw [hw]; unfold wd; omega
    have e2 : (256 * (256 * e + c) + b) % 2 ^ 8 = b := by show _ % 256 = _; omega
    have e3 : (256 * e + c) % 2 ^ 8 = c := by show _ % 256 = _; omega
    have e4 : e % 2 ^ 8 = e := by show _ % 256 = _; omega
    rw [f1, f2, f3, e1, e2, e3, e4]
    omega
  unfold bcI
  rw [pk_and _ (m := 63) 6 (by decide), nI_toInt (by omega), hB, hpa, hpb, hpc, hpe]
  exact congrArg Int.ofNat n5
