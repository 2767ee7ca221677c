section GW
variable {l : Launch} {μ : MU} {Φ : Option AV → AS → VV → Prop} {c0 s0 : Nat} {S : AS} {pc : Nat} {ls : LL} {st : List AV} {v : VV}
theorem G_cVi {idx : Nat} {y : MethodName} {cc : ByteArray} {ret : Option FieldType} {maxL d2 mc2 ms2 n k ci : Nat} {as stk : List AV} {S2 : AS} {v2 : VV} {x : Int} (hd : decode μ.2.1 pc = .ok (.invokevirtual idx, 3)) (hs : (S.2.1 k).1 = 16 + ci) (hci : ci < 7) (hR : Rof ci = y.cls) (h2 : Ct l y cc ret maxL d2 mc2 ms2 (ar (some k) :: as) S v (rI S2 x v2)) (hm : MV μ.1.cls idx y cc ret maxL n) (hn : as.length = n) (hst : stk = as.reverse ++ ar (some k) :: st) (hdp : d2 + 1 ≤ μ.2.2.2.2.1) (hmx : Nat.ble maxL 18 = true) (hrm : Nat.ble (st.map acat).sum 8 = true) (hcl : c0 + mc2 ≤ μ.2.2.2.2.2.1) (hsl : s0 + ms2 ≤ μ.2.2.2.2.2.2.1) (kk : G l μ Φ (c0 + mc2) (s0 + ms2) S2 (pc + 3) ls (ai x :: st) v2) : G l μ Φ c0 s0 S pc ls stk v := by
  subst hn
  exact G_callV hd hm hs hci hR h2 hst hdp hmx hrm hcl hsl (rI_k (F := fun r S2 v2 => G l μ Φ (c0 + mc2) (s0 + ms2) S2 (pc + 3) ls (r.toList ++ st) v2) kk)
theorem G_cSi {idx : Nat} {y : MethodName} {cc : ByteArray} {ret : Option FieldType} {maxL d2 mc2 ms2 n : Nat} {as stk : List AV} {S2 : AS} {v2 : VV} {x : Int} (hd : decode μ.2.1 pc = .ok (.invokestatic idx, 3)) (h2 : Ct l y cc ret maxL d2 mc2 ms2 (as) S v (rI S2 x v2)) (hm : MS μ.1.cls idx y cc ret maxL n) (hn : as.length = n) (hst : stk = as.reverse ++ st) (hdp : d2 + 1 ≤ μ.2.2.2.2.1) (hmx : Nat.ble maxL 18 = true) (hrm : Nat.ble (st.map acat).sum 8 = true) (hcl : c0 + mc2 ≤ μ.2.2.2.2.2.1) (hsl : s0 + ms2 ≤ μ.2.2.2.2.2.2.1) (kk : G l μ Φ (c0 + mc2) (s0 + ms2) S2 (pc + 3) ls (ai x :: st) v2) : G l μ Φ c0 s0 S pc ls stk v := by
  subst hn
  exact G_callS hd hm h2 hst hdp hmx hrm hcl hsl (rI_k (F := fun r S2 v2 => G l μ Φ (c0 + mc2) (s0 + ms2) S2 (pc + 3) ls (r.toList ++ st) v2) kk)
theorem G_cVa {idx : Nat} {y : MethodName} {cc : ByteArray} {ret : Option FieldType} {maxL d2 mc2 ms2 n k ci : Nat} {as stk : List AV} {S2 : AS} {v2 : VV} {x : Option Nat} (hd : decode μ.2.1 pc = .ok (.invokevirtual idx, 3)) (hs : (S.2.1 k).1 = 16 + ci) (hci : ci < 7) (hR : Rof ci = y.cls) (h2 : Ct l y cc ret maxL d2 mc2 ms2 (ar (some k) :: as) S v (rA S2 x v2)) (hm : MV μ.1.cls idx y cc ret maxL n) (hn : as.length = n) (hst : stk = as.reverse ++ ar (some k) :: st) (hdp : d2 + 1 ≤ μ.2.2.2.2.1) (hmx : Nat.ble maxL 18 = true) (hrm : Nat.ble (st.map acat).sum 8 = true) (hcl : c0 + mc2 ≤ μ.2.2.2.2.2.1) (hsl : s0 + ms2 ≤ μ.2.2.2.2.2.2.1) (kk : G l μ Φ (c0 + mc2) (s0 + ms2) S2 (pc + 3) ls (ar x :: st) v2) : G l μ Φ c0 s0 S pc ls stk v := by
  subst hn
  exact G_callV hd hm hs hci hR h2 hst hdp hmx hrm hcl hsl (rA_k (F := fun r S2 v2 => G l μ Φ (c0 + mc2) (s0 + ms2) S2 (pc + 3) ls (r.toList ++ st) v2) kk)
theorem G_cSa {idx : Nat} {y : MethodName} {cc : ByteArray} {ret : Option FieldType} {maxL d2 mc2 ms2 n : Nat} {as stk : List AV} {S2 : AS} {v2 : VV} {x : Option Nat} (hd : decode μ.2.1 pc = .ok (.invokestatic idx, 3)) (h2 : Ct l y cc ret maxL d2 mc2 ms2 (as) S v (rA S2 x v2)) (hm : MS μ.1.cls idx y cc ret maxL n) (hn : as.length = n) (hst : stk = as.reverse ++ st) (hdp : d2 + 1 ≤ μ.2.2.2.2.1) (hmx : Nat.ble maxL 18 = true) (hrm : Nat.ble (st.map acat).sum 8 = true) (hcl : c0 + mc2 ≤ μ.2.2.2.2.2.1) (hsl : s0 + ms2 ≤ μ.2.2.2.2.2.2.1) (kk : G l μ Φ (c0 + mc2) (s0 + ms2) S2 (pc + 3) ls (ar x :: st) v2) : G l μ Φ c0 s0 S pc ls stk v := by
  subst hn
  exact G_callS hd hm h2 hst hdp hmx hrm hcl hsl (rA_k (F := fun r S2 v2 => G l μ Φ (c0 + mc2) (s0 + ms2) S2 (pc + 3) ls (r.toList ++ st) v2) kk)
theorem G_cVv {idx : Nat} {y : MethodName} {cc : ByteArray} {ret : Option FieldType} {maxL d2 mc2 ms2 n k ci : Nat} {as stk : List AV} {S2 : AS} {v2 : VV} (hd : decode μ.2.1 pc = .ok (.invokevirtual idx, 3)) (hs : (S.2.1 k).1 = 16 + ci) (hci : ci < 7) (hR : Rof ci = y.cls) (h2 : Ct l y cc ret maxL d2 mc2 ms2 (ar (some k) :: as) S v (rV S2 v2)) (hm : MV μ.1.cls idx y cc ret maxL n) (hn : as.length = n) (hst : stk = as.reverse ++ ar (some k) :: st) (hdp : d2 + 1 ≤ μ.2.2.2.2.1) (hmx : Nat.ble maxL 18 = true) (hrm : Nat.ble (st.map acat).sum 8 = true) (hcl : c0 + mc2 ≤ μ.2.2.2.2.2.1) (hsl : s0 + ms2 ≤ μ.2.2.2.2.2.2.1) (kk : G l μ Φ (c0 + mc2) (s0 + ms2) S2 (pc + 3) ls (st) v2) : G l μ Φ c0 s0 S pc ls stk v := by
  subst hn
  exact G_callV hd hm hs hci hR h2 hst hdp hmx hrm hcl hsl (rV_k (F := fun r S2 v2 => G l μ Φ (c0 + mc2) (s0 + ms2) S2 (pc + 3) ls (r.toList ++ st) v2) kk)
theorem G_cSv {idx : Nat} {y : MethodName} {cc : ByteArray} {ret : Option FieldType} {maxL d2 mc2 ms2 n : Nat} {as stk : List AV} {S2 : AS} {v2 : VV} (hd : decode μ.2.1 pc = .ok (.invokestatic idx, 3)) (h2 : Ct l y cc ret maxL d2 mc2 ms2 (as) S v (rV S2 v2)) (hm : MS μ.1.cls idx y cc ret maxL n) (hn : as.length = n) (hst : stk = as.reverse ++ st) (hdp : d2 + 1 ≤ μ.2.2.2.2.1) (hmx : Nat.ble maxL 18 = true) (hrm : Nat.ble (st.map acat).sum 8 = true) (hcl : c0 + mc2 ≤ μ.2.2.2.2.2.1) (hsl : s0 + ms2 ≤ μ.2.2.2.2.2.2.1) (kk : G l μ Φ (c0 + mc2) (s0 + ms2) S2 (pc + 3) ls (st) v2) : G l μ Φ c0 s0 S pc ls stk v := by
  subst hn
  exact G_callS hd hm h2 hst hdp hmx hrm hcl hsl (rV_k (F := fun r S2 v2 => G l μ Φ (c0 + mc2) (s0 + ms2) S2 (pc + 3) ls (r.toList ++ st) v2) kk)
theorem G_cIv {idx : Nat} {y : MethodName} {cc : ByteArray} {maxL d2 mc2 ms2 n k : Nat} {as stk : List AV} {S2 : AS} {v2 : VV} (hd : decode μ.2.1 pc = .ok (.invokespecial idx, 3)) (h2 : Ct l y cc none maxL d2 mc2 ms2 (ar (some k) :: as) S v (rV S2 v2)) (hm : MI μ.1.cls idx y cc maxL n) (hn : as.length = n) (hst : stk = as.reverse ++ ar (some k) :: st) (hdp : d2 + 1 ≤ μ.2.2.2.2.1) (hmx : Nat.ble maxL 18 = true) (hrm : Nat.ble (st.map acat).sum 8 = true) (hcl : c0 + mc2 ≤ μ.2.2.2.2.2.1) (hsl : s0 + ms2 ≤ μ.2.2.2.2.2.2.1) (kk : G l μ Φ (c0 + mc2) (s0 + ms2) S2 (pc + 3) ls (st) v2) : G l μ Φ c0 s0 S pc ls stk v := by
  subst hn
  exact G_callI hd hm h2 hst hdp hmx hrm hcl hsl (rV_k (F := fun r S2 v2 => G l μ Φ (c0 + mc2) (s0 + ms2) S2 (pc + 3) ls (r.toList ++ st) v2) kk)
theorem G_cNv {idx : Nat} {y : MethodName} {cc : ByteArray} {maxL d2 mc2 ms2 n k : Nat} {as stk : List AV} {S2 : AS} {v2 : VV} (hd : decode μ.2.1 pc = .ok (.invokespecial idx, 3)) (h2 : Ct l y cc none maxL d2 mc2 ms2 (ar (some k) :: as) S v (rV S2 v2)) (hm : MIN μ.1.cls idx y cc maxL n) (hn : as.length = n) (hst : stk = as.reverse ++ ar (some k) :: st) (hdp : d2 + 1 ≤ μ.2.2.2.2.1) (hmx : Nat.ble maxL 18 = true) (hrm : Nat.ble (st.map acat).sum 8 = true) (hcl : c0 + mc2 ≤ μ.2.2.2.2.2.1) (hsl : s0 + ms2 ≤ μ.2.2.2.2.2.2.1) (kk : G l μ Φ (c0 + mc2) (s0 + ms2) S2 (pc + 3) ls (st) v2) : G l μ Φ c0 s0 S pc ls stk v := by
  subst hn
  exact G_callIN hd hm h2 hst hdp hmx hrm hcl hsl (rV_k (F := fun r S2 v2 => G l μ Φ (c0 + mc2) (s0 + ms2) S2 (pc + 3) ls (r.toList ++ st) v2) kk)
theorem G_cVq {idx : Nat} {y : MethodName} {cc : ByteArray} {ret : Option FieldType} {maxL d2 mc2 ms2 n k ci : Nat} {as stk : List AV} {Φ2 : Option AV → AS → VV → Prop} (hd : decode μ.2.1 pc = .ok (.invokevirtual idx, 3)) (hs : (S.2.1 k).1 = 16 + ci) (hci : ci < 7) (hR : Rof ci = y.cls) (h2 : Ct l y cc ret maxL d2 mc2 ms2 (ar (some k) :: as) S v (Φ2)) (hm : MV μ.1.cls idx y cc ret maxL n) (hn : as.length = n) (hst : stk = as.reverse ++ ar (some k) :: st) (hdp : d2 + 1 ≤ μ.2.2.2.2.1) (hmx : Nat.ble maxL 18 = true) (hrm : Nat.ble (st.map acat).sum 8 = true) (hcl : c0 + mc2 ≤ μ.2.2.2.2.2.1) (hsl : s0 + ms2 ≤ μ.2.2.2.2.2.2.1) (kk : ∀ (r : Option AV) (S2 : AS) (v2 : VV), Φ2 r S2 v2 → G l μ Φ (c0 + mc2) (s0 + ms2) S2 (pc + 3) ls (r.toList ++ st) v2) : G l μ Φ c0 s0 S pc ls stk v := by
  subst hn
  exact G_callV hd hm hs hci hR h2 hst hdp hmx hrm hcl hsl kk
theorem G_cSq {idx : Nat} {y : MethodName} {cc : ByteArray} {ret : Option FieldType} {maxL d2 mc2 ms2 n : Nat} {as stk : List AV} {Φ2 : Option AV → AS → VV → Prop} (hd : decode μ.2.1 pc = .ok (.invokestatic idx, 3)) (h2 : Ct l y cc ret maxL d2 mc2 ms2 (as) S v (Φ2)) (hm : MS μ.1.cls idx y cc ret maxL n) (hn : as.length = n) (hst : stk = as.reverse ++ st) (hdp : d2 + 1 ≤ μ.2.2.2.2.1) (hmx : Nat.ble maxL 18 = true) (hrm : Nat.ble (st.map acat).sum 8 = true) (hcl : c0 + mc2 ≤ μ.2.2.2.2.2.1) (hsl : s0 + ms2 ≤ μ.2.2.2.2.2.2.1) (kk : ∀ (r : Option AV) (S2 : AS) (v2 : VV), Φ2 r S2 v2 → G l μ Φ (c0 + mc2) (s0 + ms2) S2 (pc + 3) ls (r.toList ++ st) v2) : G l μ Φ c0 s0 S pc ls stk v := by
  subst hn
  exact G_callS hd hm h2 hst hdp hmx hrm hcl hsl kk
theorem G_cIq {idx : Nat} {y : MethodName} {cc : ByteArray} {maxL d2 mc2 ms2 n k : Nat} {as stk : List AV} {Φ2 : Option AV → AS → VV → Prop} (hd : decode μ.2.1 pc = .ok (.invokespecial idx, 3)) (h2 : Ct l y cc none maxL d2 mc2 ms2 (ar (some k) :: as) S v (Φ2)) (hm : MI μ.1.cls idx y cc maxL n) (hn : as.length = n) (hst : stk = as.reverse ++ ar (some k) :: st) (hdp : d2 + 1 ≤ μ.2.2.2.2.1) (hmx : Nat.ble maxL 18 = true) (hrm : Nat.ble (st.map acat).sum 8 = true) (hcl : c0 + mc2 ≤ μ.2.2.2.2.2.1) (hsl : s0 + ms2 ≤ μ.2.2.2.2.2.2.1) (kk : ∀ (r : Option AV) (S2 : AS) (v2 : VV), Φ2 r S2 v2 → G l μ Φ (c0 + mc2) (s0 + ms2) S2 (pc + 3) ls (r.toList ++ st) v2) : G l μ Φ c0 s0 S pc ls stk v := by
  subst hn
  exact G_callI hd hm h2 hst hdp hmx hrm hcl hsl kk
theorem G_cNq {idx : Nat} {y : MethodName} {cc : ByteArray} {maxL d2 mc2 ms2 n k : Nat} {as stk : List AV} {Φ2 : Option AV → AS → VV → Prop} (hd : decode μ.2.1 pc = .ok (.invokespecial idx, 3)) (h2 : Ct l y cc none maxL d2 mc2 ms2 (ar (some k) :: as) S v (Φ2)) (hm : MIN μ.1.cls idx y cc maxL n) (hn : as.length = n) (hst : stk = as.reverse ++ ar (some k) :: st) (hdp : d2 + 1 ≤ μ.2.2.2.2.1) (hmx : Nat.ble maxL 18 = true) (hrm : Nat.ble (st.map acat).sum 8 = true) (hcl : c0 + mc2 ≤ μ.2.2.2.2.2.1) (hsl : s0 + ms2 ≤ μ.2.2.2.2.2.2.1) (kk : ∀ (r : Option AV) (S2 : AS) (v2 : VV), Φ2 r S2 v2 → G l μ Φ (c0 + mc2) (s0 + ms2) S2 (pc + 3) ls (r.toList ++ st) v2) : G l μ Φ c0 s0 S pc ls stk v := by
  subst hn
  exact G_callIN hd hm h2 hst hdp hmx hrm hcl hsl kk
theorem GI_eq {S2 : AS} {v2 : VV} {x y : Int} (h : x = y) (k : G l μ (rI S2 x v2) c0 s0 S pc ls st v) : G l μ (rI S2 y v2) c0 s0 S pc ls st v := h ▸ k
theorem GV_eq {S2 : AS} {v2 v3 : VV} (h : v2 = v3) (k : G l μ (rV S2 v2) c0 s0 S pc ls st v) : G l μ (rV S2 v3) c0 s0 S pc ls st v := h ▸ k
theorem G_at {v2 : VV} (h : v2 = v) (k : G l μ Φ c0 s0 S pc ls st v2) : G l μ Φ c0 s0 S pc ls st v := h ▸ k
theorem G_ls {ls2 : LL} (h : ls2 = ls) (k : G l μ Φ c0 s0 S pc ls2 st v) : G l μ Φ c0 s0 S pc ls st v := h ▸ k
theorem G_st {st2 : List AV} (h : st2 = st) (k : G l μ Φ c0 s0 S pc ls st2 v) : G l μ Φ c0 s0 S pc ls st v := h ▸ k
theorem G_mono {Φ2 : Option AV → AS → VV → Prop} (h : ∀ r S2 v2, Φ2 r S2 v2 → Φ r S2 v2) (k : G l μ Φ2 c0 s0 S pc ls st v) : G l μ Φ c0 s0 S pc ls st v := by
  intro p en s m args below meth c H locs D T ea A ad ad0 n0 lsC hC hS T2 hT X
  obtain ⟨t, a, o, b1, b2, ⟨⟨r, S2, v2, ad2, q1, q2, q3⟩, q4⟩, b4⟩ := k p en s m args below meth c H locs D T ea A ad ad0 n0 lsC hC hS T2 hT X
  exact ⟨t, a, o, b1, b2, ⟨⟨r, S2, v2, ad2, q1, h r S2 v2 q2, q3⟩, q4⟩, b4⟩
end GW
theorem up_get (v : VV) (k a : Nat) (j x b : Int) : up v k j x a b = if a = k ∧ b = j then x else v a b := rfl
def sumF (f : Int → Int) : Nat → Int → Int
  | 0, _ => 0
  | n + 1, i => f i + sumF f n (i + 1)
theorem sumF_bd {f : Int → Int} {lo hi : Int} (h : ∀ i, lo ≤ f i ∧ f i ≤ hi) (n : Nat) : ∀ i, n * lo ≤ sumF f n i ∧ sumF f n i ≤ n * hi := by
  induction n with
  | zero => intro i; simp [sumF]
  | succ n ih =>
    intro i
    have h1 := ih (i + 1)
    have h2 := h i
    rw [sumF]
    have e : ((n + 1 : Nat) : Int) = (n : Int) + 1 := by omega
    rw [e, Int.add_mul, Int.add_mul]
    omega
