section GY
variable {l : Launch} {μ : MU} {Φ : Option AV → AS → VV → Prop} {c0 s0 : Nat} {S : AS} {pc : Nat} {ls : LL} {st : List AV} {v : VV}
theorem G_iaddW {x y : Int} (z : Int) (hd : decode μ.2.1 pc = .ok (.iadd, 1)) (hz : (Int32.ofInt x + Int32.ofInt y).toInt = z) (k : G l μ Φ c0 s0 S (pc+1) ls (ai z :: st) v) : G l μ Φ c0 s0 S (pc) ls (ai y :: ai x :: st) v := by
  intro p en s m args below meth c H locs D T ea A ad ad0 n0 lsC hC hS
  subst hz
  refine lv_iadd hC.1 hC.2.1 hd ?_
  have k2 := k p en s m args below meth c _ _ D T ea A _ ad0 n0 _ hC (hS.stk fun h => RAs_cons.mpr ⟨iR_of _, (RAs_cons.mp (RAs_cons.mp h).2).2⟩)
  rwa [List.map_cons, show tr ad ea (ai (Int32.ofInt x + Int32.ofInt y).toInt) = .int (Int32.ofInt x + Int32.ofInt y) from congrArg Value.int (Int32.ofInt_toInt _)] at k2
theorem G_isubW {x y : Int} (z : Int) (hd : decode μ.2.1 pc = .ok (.isub, 1)) (hz : (Int32.ofInt x - Int32.ofInt y).toInt = z) (k : G l μ Φ c0 s0 S (pc+1) ls (ai z :: st) v) : G l μ Φ c0 s0 S (pc) ls (ai y :: ai x :: st) v := by
  intro p en s m args below meth c H locs D T ea A ad ad0 n0 lsC hC hS
  subst hz
  refine lv_isub hC.1 hC.2.1 hd ?_
  have k2 := k p en s m args below meth c _ _ D T ea A _ ad0 n0 _ hC (hS.stk fun h => RAs_cons.mpr ⟨iR_of _, (RAs_cons.mp (RAs_cons.mp h).2).2⟩)
  rwa [List.map_cons, show tr ad ea (ai (Int32.ofInt x - Int32.ofInt y).toInt) = .int (Int32.ofInt x - Int32.ofInt y) from congrArg Value.int (Int32.ofInt_toInt _)] at k2
theorem G_ineg {x : Int} (hd : decode μ.2.1 pc = .ok (.ineg, 1)) (hr : iR (-x)) (k : G l μ Φ c0 s0 S (pc+1) ls (ai (-x) :: st) v) : G l μ Φ c0 s0 S (pc) ls (ai x :: st) v := by
  intro p en s m args below meth c H locs D T ea A ad ad0 n0 lsC hC hS
  refine lv_ineg hC.1 hC.2.1 hd ?_
  rw [← Int32.ofInt_neg]
  exact k p en s m args below meth c _ _ D T ea A _ ad0 n0 _ hC (hS.stk fun h => RAs_cons.mpr ⟨hr, (RAs_cons.mp h).2⟩)
theorem G_mabs {idx : Nat} {x : Int} (hd : decode μ.2.1 pc = .ok (.invokestatic idx, 3)) (hm : MS μ.1.cls idx yJ9_abs_0f7a4 cJ9_abs_0f7a4 (some .int) 1 1) (hx : -2147483648 < x ∧ x < 2147483648) (hdp : 1 ≤ μ.2.2.2.2.1) (hrm : Nat.ble (st.map acat).sum 8 = true) (hc : Nat.ble c0 μ.2.2.2.2.2.1 = true) (hs : Nat.ble s0 μ.2.2.2.2.2.2.1 = true) (k : G l μ Φ c0 s0 S (pc+3) ls (ai (if 0 ≤ x then x else -x) :: st) v) : G l μ Φ c0 s0 S (pc) ls (ai x :: st) v := by
  intro p en s m args below meth c H locs D T ea A ad ad0 n0 lsC hC hS
  have hrm := Nat.le_of_ble_eq_true hrm
  have hts := hC.2.2.2.2.2.2.2.1
  have hx9 : iR x := hS.top
  have e : (if 0 ≤ Int32.ofInt x then Int32.ofInt x else 0 - Int32.ofInt x) = Int32.ofInt (if 0 ≤ x then x else -x) := by
    have a : (0 : Int32) ≤ Int32.ofInt x ↔ 0 ≤ x := iR_le iR_0 hx9
    by_cases h : 0 ≤ x
    · rw [if_pos h, if_pos (a.mpr h)]
    · rw [if_neg h, if_neg (fun z => h (a.mp z)), show (0 : Int32) = Int32.ofInt 0 from rfl, ← Int32.ofInt_sub, Int.zero_sub]
  have hr : iR (if 0 ≤ x then x else -x) := by split <;> exact ⟨by omega, by omega⟩
  refine va_mabs hC.1 hC.2.1 (hC.2.2.1.trans hS.lr.1.symm) hC.2.2.2.2.2.2.1 (hts _ hm.1.1) (hts _ hm.1.2.1) (hts _ hm.1.2.2.1) (hts _ hm.1.2.2.2) hdp (by rw [acat_sum]; show _ ≤ 37 * _ + 11; omega) (Nat.le_of_ble_eq_true hc) (Nat.le_of_ble_eq_true hs) hd ?_
  have k2 := k p en s m args below meth c _ _ D T ea A _ ad0 n0 _ hC (hS.stk fun h => RAs_cons.mpr ⟨hr, (RAs_cons.mp h).2⟩)
  rw [e]
  exact k2
theorem G_mmin {idx : Nat} {x y : Int} (hd : decode μ.2.1 pc = .ok (.invokestatic idx, 3)) (hm : MS μ.1.cls idx yJ9_min_7cf53 cJ9_min_7cf53 (some .int) 2 2) (hdp : 1 ≤ μ.2.2.2.2.1) (hrm : Nat.ble (st.map acat).sum 8 = true) (hc : Nat.ble c0 μ.2.2.2.2.2.1 = true) (hs : Nat.ble s0 μ.2.2.2.2.2.2.1 = true) (k : G l μ Φ c0 s0 S (pc+3) ls (ai (if y < x then y else x) :: st) v) : G l μ Φ c0 s0 S (pc) ls (ai y :: ai x :: st) v := by
  intro p en s m args below meth c H locs D T ea A ad ad0 n0 lsC hC hS
  have hrm := Nat.le_of_ble_eq_true hrm
  have hts := hC.2.2.2.2.2.2.2.1
  have hy9 : iR y := hS.top
  have hx9 : iR x := hS.two
  have e : (if Int32.ofInt y < Int32.ofInt x then Int32.ofInt y else Int32.ofInt x) = Int32.ofInt (if y < x then y else x) := by
    have a := iR_lt hy9 hx9
    by_cases h : y < x
    · rw [if_pos h, if_pos (a.mpr h)]
    · rw [if_neg h, if_neg (fun z => h (a.mp z))]
  have hr : iR (if y < x then y else x) := by split; exact hy9; exact hx9
  refine va_mmin hC.1 hC.2.1 (hC.2.2.1.trans hS.lr.1.symm) hC.2.2.2.2.2.2.1 (hts _ hm.1.1) (hts _ hm.1.2.1) (hts _ hm.1.2.2.1) (hts _ hm.1.2.2.2) hdp (by rw [acat_sum]; show _ ≤ 37 * _ + 11; omega) (Nat.le_of_ble_eq_true hc) (Nat.le_of_ble_eq_true hs) hd ?_
  have k2 := k p en s m args below meth c _ _ D T ea A _ ad0 n0 _ hC (hS.stk fun h => RAs_cons.mpr ⟨hr, (RAs_cons.mp (RAs_cons.mp h).2).2⟩)
  rw [e]
  exact k2
theorem G_mmax {idx : Nat} {x y : Int} (hd : decode μ.2.1 pc = .ok (.invokestatic idx, 3)) (hm : MS μ.1.cls idx yJ9_max_7cf53 cJ9_max_7cf53 (some .int) 2 2) (hdp : 1 ≤ μ.2.2.2.2.1) (hrm : Nat.ble (st.map acat).sum 8 = true) (hc : Nat.ble c0 μ.2.2.2.2.2.1 = true) (hs : Nat.ble s0 μ.2.2.2.2.2.2.1 = true) (k : G l μ Φ c0 s0 S (pc+3) ls (ai (if x < y then y else x) :: st) v) : G l μ Φ c0 s0 S (pc) ls (ai y :: ai x :: st) v := by
  intro p en s m args below meth c H locs D T ea A ad ad0 n0 lsC hC hS
  have hrm := Nat.le_of_ble_eq_true hrm
  have hts := hC.2.2.2.2.2.2.2.1
  have hy9 : iR y := hS.top
  have hx9 : iR x := hS.two
  have e : (if Int32.ofInt x < Int32.ofInt y then Int32.ofInt y else Int32.ofInt x) = Int32.ofInt (if x < y then y else x) := by
    have a := iR_lt hx9 hy9
    by_cases h : x < y
    · rw [if_pos h, if_pos (a.mpr h)]
    · rw [if_neg h, if_neg (fun z => h (a.mp z))]
  have hr : iR (if x < y then y else x) := by split; exact hy9; exact hx9
  refine va_mmax hC.1 hC.2.1 (hC.2.2.1.trans hS.lr.1.symm) hC.2.2.2.2.2.2.1 (hts _ hm.1.1) (hts _ hm.1.2.1) (hts _ hm.1.2.2.1) (hts _ hm.1.2.2.2) hdp (by rw [acat_sum]; show _ ≤ 37 * _ + 11; omega) (Nat.le_of_ble_eq_true hc) (Nat.le_of_ble_eq_true hs) hd ?_
  have k2 := k p en s m args below meth c _ _ D T ea A _ ad0 n0 _ hC (hS.stk fun h => RAs_cons.mpr ⟨hr, (RAs_cons.mp (RAs_cons.mp h).2).2⟩)
  rw [e]
  exact k2
end GY
def usI (x : Int32) (k : Int) : Int32 := (x.toUInt32 >>> ((Int32.ofInt k).toUInt32 &&& Int32.toUInt32 31)).toInt32
def bc1 (x : Int32) : Int32 := x - (usI x 1 &&& 1431655765)
def bc2 (x : Int32) : Int32 := (x &&& 858993459) + (usI x 2 &&& 858993459)
def bc3 (x : Int32) : Int32 := (x + usI x 4) &&& 252645135
def bc4 (x : Int32) : Int32 := x + usI x 8
def bc5 (x : Int32) : Int32 := x + usI x 16
def bcI (x : Int) : Int := (bc5 (bc4 (bc3 (bc2 (bc1 (Int32.ofInt x))))) &&& 63).toInt
set_option maxRecDepth 20000 in
set_option maxHeartbeats 1000000 in
theorem c_J6_bitCount_0f7a4 (l : Launch) (d nu : Nat) (v : VV) (x : Int) : Ct l yJ6_bitCount_0f7a4 cJ6_bitCount_0f7a4 (some .int) 1 (d + 0) 0 0 [ai x] (SG nu) v (rI (SG nu) (bcI x) v) := by
  refine Ct_of_G [some (ai x)] (by decide) rfl rfl ?_
  refine G_iload_n dJ6_bitCount_0f7a4_0 rfl ?_
  refine G_iload_n dJ6_bitCount_0f7a4_1 rfl ?_
  refine G_iconst (n := 1) dJ6_bitCount_0f7a4_2 ⟨by decide, by decide⟩ ?_
  refine G_iushr (usI (Int32.ofInt x) 1).toInt dJ6_bitCount_0f7a4_3 rfl ?_
  refine G_ldcw (n := 1431655765) dJ6_bitCount_0f7a4_4 (show Cond.constant RJ6 265 (Int32.ofInt 1431655765) ∈ lw_good by decide +kernel) ⟨by decide, by decide⟩ ?_
  refine G_iand (usI (Int32.ofInt x) 1 &&& 1431655765).toInt dJ6_bitCount_0f7a4_7 (by simp only [Int32.ofInt_toInt]; rfl) ?_
  refine G_isubW (bc1 (Int32.ofInt x)).toInt dJ6_bitCount_0f7a4_8 (by simp only [Int32.ofInt_toInt]; rfl) ?_
  refine G_istore_n dJ6_bitCount_0f7a4_9 rfl rfl ?_
  refine G_iload_n dJ6_bitCount_0f7a4_10 rfl ?_
  refine G_ldcw (n := 858993459) dJ6_bitCount_0f7a4_11 (show Cond.constant RJ6 266 (Int32.ofInt 858993459) ∈ lw_good by decide +kernel) ⟨by decide, by decide⟩ ?_
  refine G_iand ((bc1 (Int32.ofInt x)) &&& 858993459).toInt dJ6_bitCount_0f7a4_14 (by simp only [Int32.ofInt_toInt]; rfl) ?_
  refine G_iload_n dJ6_bitCount_0f7a4_15 rfl ?_
  refine G_iconst (n := 2) dJ6_bitCount_0f7a4_16 ⟨by decide, by decide⟩ ?_
  refine G_iushr (usI (bc1 (Int32.ofInt x)) 2).toInt dJ6_bitCount_0f7a4_17 (by simp only [Int32.ofInt_toInt]; rfl) ?_
  refine G_ldcw (n := 858993459) dJ6_bitCount_0f7a4_18 (show Cond.constant RJ6 266 (Int32.ofInt 858993459) ∈ lw_good by decide +kernel) ⟨by decide, by decide⟩ ?_
  refine G_iand (usI (bc1 (Int32.ofInt x)) 2 &&& 858993459).toInt dJ6_bitCount_0f7a4_21 (by simp only [Int32.ofInt_toInt]; rfl) ?_
  refine G_iaddW (bc2 (bc1 (Int32.ofInt x))).toInt dJ6_bitCount_0f7a4_22 (by simp only [Int32.ofInt_toInt]; rfl) ?_
  refine G_istore_n dJ6_bitCount_0f7a4_23 rfl rfl ?_
  refine G_iload_n dJ6_bitCount_0f7a4_24 rfl ?_
  refine G_iload_n dJ6_bitCount_0f7a4_25 rfl ?_
  refine G_iconst (n := 4) dJ6_bitCount_0f7a4_26 ⟨by decide, by decide⟩ ?_
  refine G_iushr (usI (bc2 (bc1 (Int32.ofInt x))) 4).toInt dJ6_bitCount_0f7a4_27 (by simp only [Int32.ofInt_toInt]; rfl) ?_
  refine G_iaddW ((bc2 (bc1 (Int32.ofInt x))) + usI (bc2 (bc1 (Int32.ofInt x))) 4).toInt dJ6_bitCount_0f7a4_28 (by simp only [Int32.ofInt_toInt]) ?_
  refine G_ldcw (n := 252645135) dJ6_bitCount_0f7a4_29 (show Cond.constant RJ6 267 (Int32.ofInt 252645135) ∈ lw_good by decide +kernel) ⟨by decide, by decide⟩ ?_
  refine G_iand (bc3 (bc2 (bc1 (Int32.ofInt x)))).toInt dJ6_bitCount_0f7a4_32 (by simp only [Int32.ofInt_toInt]; rfl) ?_
  refine G_istore_n dJ6_bitCount_0f7a4_33 rfl rfl ?_
  refine G_iload_n dJ6_bitCount_0f7a4_34 rfl ?_
  refine G_iload_n dJ6_bitCount_0f7a4_35 rfl ?_
  refine G_bipush (n := 8) dJ6_bitCount_0f7a4_36 (by decide) ⟨by decide, by decide⟩ ?_
  refine G_iushr (usI (bc3 (bc2 (bc1 (Int32.ofInt x)))) 8).toInt dJ6_bitCount_0f7a4_38 (by simp only [Int32.ofInt_toInt]; rfl) ?_
  refine G_iaddW (bc4 (bc3 (bc2 (bc1 (Int32.ofInt x))))).toInt dJ6_bitCount_0f7a4_39 (by simp only [Int32.ofInt_toInt]; rfl) ?_
  refine G_istore_n dJ6_bitCount_0f7a4_40 rfl rfl ?_
  refine G_iload_n dJ6_bitCount_0f7a4_41 rfl ?_
  refine G_iload_n dJ6_bitCount_0f7a4_42 rfl ?_
  refine G_bipush (n := 16) dJ6_bitCount_0f7a4_43 (by decide) ⟨by decide, by decide⟩ ?_
  refine G_iushr (usI (bc4 (bc3 (bc2 (bc1 (Int32.ofInt x))))) 16).toInt dJ6_bitCount_0f7a4_45 (by simp only [Int32.ofInt_toInt]; rfl) ?_
  refine G_iaddW (bc5 (bc4 (bc3 (bc2 (bc1 (Int32.ofInt x)))))).toInt dJ6_bitCount_0f7a4_46 (by simp only [Int32.ofInt_toInt]; rfl) ?_
  refine G_istore_n dJ6_bitCount_0f7a4_47 rfl rfl ?_
  refine G_iload_n dJ6_bitCount_0f7a4_48 rfl ?_
  refine G_bipush (n := 63) dJ6_bitCount_0f7a4_49 (by decide) ⟨by decide, by decide⟩ ?_
  refine G_iand (bcI x) dJ6_bitCount_0f7a4_51 (by simp only [Int32.ofInt_toInt]; rfl) ?_
  exact G_iret dJ6_bitCount_0f7a4_52 rfl rfl rfl ⟨rfl, rfl, rfl⟩
