/-! the law's script, and its call of its own about -/
section GLW
variable {l : Launch} {μ : MU} {Φ : Option AV → AS → VV → Prop} {c0 s0 : Nat} {S : AS} {pc : Nat} {ls : LL} {st : List AV} {v : VV}
def scI (xs : Nat → Int32) (i : Int) : Int := (xs i.toNat).toInt
theorem scI_R (xs : Nat → Int32) (i : Int) : iR (scI xs i) := iR_of _
theorem G_sld {L : Nat} {xs : Nat → Int32} {i : Int} (hsc : μ.2.2.2.2.2.2.2 = some (L, xs)) (hd : decode μ.2.1 pc = .ok (.iaload, 1)) (h0 : 0 ≤ i) (h1 : i < (L : Int)) (k : G l μ Φ c0 s0 S (pc + 1) ls (ai (scI xs i) :: st) v) : G l μ Φ c0 s0 S pc ls (ai i :: ax 0 :: st) v := by
  intro p en s m args below meth c H locs D T ea A ad ad0 n0 lsC hC hS
  have hi : iR i := hS.top
  have hE := hC.2.2.2.2.2.2.2.2.2.1.2
  rw [hsc] at hE
  obtain ⟨hX, hA⟩ : va_X (ea 0) L xs s s.heap ∧ ¬ A (ea 0) := hE
  have hbl : ea 0 < s.heap.size := by
    obtain ⟨scr, h1, -⟩ := hX
    exact (Array.getElem?_eq_some_iff.mp h1).1
  refine va_sld hC.1 hC.2.1 hX hbl hA hS.2.2.2.2.2.2.2.1 (in_I hi h0 h1) hd ?_
  have k2 := k p en s m args below meth c _ _ D T ea A _ ad0 n0 _ hC (hS.stk fun h => RAs_cons.mpr ⟨scI_R xs i, (RAs_cons.mp (RAs_cons.mp h).2).2⟩)
  have e : xs (Int32.ofInt i).toNatClampNeg = Int32.ofInt (scI xs i) := by
    unfold scI
    rw [clampI hi, Int32.ofInt_toInt]
  rw [e]
  exact k2
theorem G_slen {L : Nat} {xs : Nat → Int32} (hL : L ≤ 3072) (hsc : μ.2.2.2.2.2.2.2 = some (L, xs)) (hd : decode μ.2.1 pc = .ok (.arraylength, 1)) (k : G l μ Φ c0 s0 S (pc + 1) ls (ai (L : Int) :: st) v) : G l μ Φ c0 s0 S pc ls (ax 0 :: st) v := by
  intro p en s m args below meth c H locs D T ea A ad ad0 n0 lsC hC hS
  have hE := hC.2.2.2.2.2.2.2.2.2.1.2
  rw [hsc] at hE
  obtain ⟨hX, hA⟩ : va_X (ea 0) L xs s s.heap ∧ ¬ A (ea 0) := hE
  have hbl : ea 0 < s.heap.size := by
    obtain ⟨scr, h1, -⟩ := hX
    exact (Array.getElem?_eq_some_iff.mp h1).1
  refine va_slen hC.1 hC.2.1 hX hbl hA hS.2.2.2.2.2.2.2.1 hd ?_
  have k2 := k p en s m args below meth c _ _ D T ea A _ ad0 n0 _ hC (hS.stk fun h => RAs_cons.mpr ⟨⟨by omega, by omega⟩, (RAs_cons.mp h).2⟩)
  exact k2
theorem G_callSW {idx : Nat} {y : MethodName} {cc : ByteArray} {ret : Option FieldType} {hh : List (Nat × Nat × Nat × Nat)} {maxL d2 mc2 ms2 : Nat} {as stk : List AV} {Φ2 : Option AV → AS → VV → Prop} (hd : decode μ.2.1 pc = .ok (.invokestatic idx, 3)) (hm : (Cond.methodLink μ.1.cls idx y ∈ lw_good ∧ Cond.static y ∈ lw_good ∧ Cond.initialized y.cls ∈ lw_good ∧ Cond.codeWith y cc maxL ret hh ∈ lw_good) ∧ (y.cls ≠ "java/lang/invoke/MethodHandle" ∧ y.cls ≠ "java/lang/invoke/VarHandle" ∧ (parseMethodDescriptor y.desc).map (fun d => d.parameters.length) = some as.length)) (h2 : CtW l y cc ret maxL hh d2 mc2 ms2 (as) S v Φ2) (hst : stk = as.reverse ++ st) (hdp : d2 + 1 ≤ μ.2.2.2.2.1) (hmx : Nat.ble maxL 18 = true) (hrm : Nat.ble (st.map acat).sum 8 = true) (hcl : c0 + mc2 ≤ μ.2.2.2.2.2.1) (hsl : s0 + ms2 ≤ μ.2.2.2.2.2.2.1) (kk : ∀ (r : Option AV) (S2 : AS) (v2 : VV), Φ2 r S2 v2 → G l μ Φ (c0 + mc2) (s0 + ms2) S2 (pc + 3) ls (r.toList ++ st) v2) : G l μ Φ c0 s0 S pc ls stk v := by
  intro p en s m args below meth c H locs D T ea A ad ad0 n0 lsC hC hS
  subst hst
  have hmx := Nat.le_of_ble_eq_true hmx
  have hrm := Nat.le_of_ble_eq_true hrm
  have hall : RAs S.1 (as.reverse ++ st) := hS.2.2.2.1
  have hst9 : RAs S.1 st := fun b hb => hall b (List.mem_append_right _ (hb))
  have has : RAs S.1 (as) := fun b hb => hall b (List.mem_append_left _ (List.mem_reverse.mpr hb))
  have hts := hC.2.2.2.2.2.2.2.1
  have hrun := vx_runSX (hh := hh) (As := as.map (tr ad ea)) (rest := st.map (tr ad ea)) (e := en) (below := below) (meth := meth) (locs := locs) (cells := c0) (slots := s0) (R := rmd μ.2.2.2.2.1 μ.2.2.2.2.2.1 μ.2.2.2.2.2.2.1) (g := F0 m pc lsC ((as.reverse ++ st).map (tr ad ea))) (nL := μ.2.2.2.1) (Ts := lw_good) (own := μ.1.cls) ⟨hC.1, hC.2.1, hC.2.2.1, hC.2.2.2.2.2.2.1, hts⟩ (h2 has hS.2.1 hS.vr D T ea ad H.size) (vx_cwSW as.length hts (good_cons hm.1.1 (good_cons hm.1.2.1 (good_cons hm.1.2.2.1 (good_cons hm.1.2.2.2 lw_good_in)))) rfl rfl rfl hm.2 ⟨hdp, by show 8 + (maxL + 11) + (37 * d2 + 11) ≤ 37 * _ + 11; have := Nat.mul_le_mul_left 37 hdp; omega⟩) ⟨pre_Pc, pre_in (vs := as.map (tr ad ea)) hC hS⟩ rfl (by rw [List.length_map]) hS.lr.1 (by show (as.reverse ++ st).map (tr ad ea) = _; rw [List.map_append, List.map_reverse]) (by rw [acat_sum]; show 2 * 0 + _ ≤ _; omega) hd ⟨hcl, hsl⟩
  refine call_QQ (a := (as.map (tr ad ea)).toArray) hC hS hst9 (fun Tt hT X => ?_) kk
  rcases hrun Tt hT X with h | h
  · exact h
  · obtain ⟨q, st0, t, T', L, E, ce, h00, X', hL, e1, e2, hx, -⟩ := h
    exact hx.elim
end GLW
theorem mw_87 : (Cond.methodLink RL 87 yL_about ∈ lw_good ∧ Cond.static yL_about ∈ lw_good ∧ Cond.initialized yL_about.cls ∈ lw_good ∧ Cond.codeWith yL_about cL_about 5 (some .int) hhL ∈ lw_good) ∧ (yL_about.cls ≠ "java/lang/invoke/MethodHandle" ∧ yL_about.cls ≠ "java/lang/invoke/VarHandle" ∧ (parseMethodDescriptor yL_about.desc).map (fun d => d.parameters.length) = some 4) := ⟨⟨by decide +kernel, by decide +kernel, by decide +kernel, by decide +kernel⟩, by decide +kernel, by decide +kernel, by decide +kernel⟩
