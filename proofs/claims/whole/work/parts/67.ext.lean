section VCT
variable {p : Program} {l : Launch} {e : Env} {R : Room} {s : State} {m : MethodId} {args : Array Value} {below : List Frame} {meth : Method} {c : Code} {H : Heap} {locs : List Loc} {cells slots : Nat} {Q : State → Prop}
variable {cc : ByteArray} {pc : Nat} {ls : Array Slot} {rest : List Value} {D : va_G} {cl : List vw_C} {A : Nat → Prop} {a : Nat} {tys : List (ClassId × FieldType)} {ws : va_W} {H0 : Heap}
theorem va_copyT (hexec : p.tables.exec = Jvm.exec) (hb : c.code = cc) (hml : c.maxLocals = ls.size) {own : String} {index : Nat} (hown : s.vm.findClass own = some m.cls) (hlink : (Cond.methodLink own index arraycopyName).before args s = true) (hnat : (Cond.native arraycopyName).before args s = true) (hstat : (Cond.static arraycopyName).before args s = true) (hini : (Cond.initialized "java/lang/System").before args s = true)
    (hK : va_K D cl tys s) (hP : va_P D cl ws H) (hD : va_D A ws) (hS : va_S A s.heap H locs) {b0 n0 : Nat} {f : Nat → Int32} (hX : va_T .int b0 n0 (fun j => .int (f j)) A s s.heap) (q1 t1 : Nat) {c1 : ClassId} {n1 : Nat} {g : Nat → Int32} (ha1 : ws[q1]? = some (a, .inl (c1, n1, .inl g))) (ht1 : tys[t1]? = some (c1, .int))
    {sp dp n : Int32} (h1 : ¬ sp < 0) (h2 : ¬ dp < 0) (h3 : ¬ n < 0) (h4 : sp.toNatClampNeg + n.toNatClampNeg ≤ n0) (h5 : dp.toNatClampNeg + n.toNatClampNeg ≤ n1) (hfit : ∀ i : Nat, i < n.toNatClampNeg → fits .int (.int (f (sp.toNatClampNeg + i))) = true)
    (hframes : 1 ≤ R.frames) (hlocals : (rest.map fun v => v.category).sum + (nativeFrameWords "java/lang/System" "arraycopy" 5 + 11) ≤ R.locals) (hdg : decode cc pc = .ok (.invokestatic index, 3))
    (kk : ∀ (H1 : Heap) (locs1 : List Loc), va_P D cl (ws.set q1 (a, .inl (c1, n1, .inl (va_cpy f g sp.toNatClampNeg dp.toNatClampNeg n.toNatClampNeg)))) H1 → va_D A (ws.set q1 (a, .inl (c1, n1, .inl (va_cpy f g sp.toNatClampNeg dp.toNatClampNeg n.toNatClampNeg)))) → va_S A s.heap H1 locs1 → W p l e R s m args below meth c H1 locs1 cells slots Q (F0 m (pc + 3) ls rest)) : W p l e R s m args below meth c H locs cells slots Q (F0 m pc ls (.int n :: .int dp :: .ref a :: .int sp :: .ref b0 :: rest)) := by
  have nn : ∀ z : Int32, ¬ z < 0 → z.toInt = (z.toNatClampNeg : Int) := by
    intro z hz
    have hz0 : (0 : Int) ≤ z.toInt := by
      have := Int32.not_lt.mp hz
      simpa using Int32.le_iff_toInt_le.mp this
    show z.toInt = ((z.toInt.toNat : Nat) : Int)
    omega
  intro T hT X
  obtain ⟨scr, hs1, hs2, hs3, hs4, -, hs5, hs7⟩ := hX
  have hc0 : H[b0]? = some scr := by rw [hS.2.1 b0 (Array.getElem?_eq_some_iff.mp hs1).1 hs7]; exact hs1
  have hc1 : H[a]? = some (vp_cell c1 (n1, .inl g)) := hP q1 _ ha1
  obtain ⟨hs6, k0, hk0, cm0, hkk0⟩ := hs2
  obtain ⟨-, k1, hk1, cm1, hkk1⟩ := (hK.2 t1 _ ht1).1 n1 (fun j => .int (g j))
  obtain ⟨vm', X', step⟩ := X.arraycopy hexec hown hlink hnat hstat hini (src := b0) (dst := a) (cs := scr) (cd := vp_cell c1 (n1, .inl g)) (srcPos := sp) (destPos := dp) (n := n) (by rw [hT]; exact hc0) (by rw [hT]; exact hc1)
    hs6 (fun _ h => by cases h) hs3 (fun h => by cases h) hk0 hk1 hkk0 hkk1 (by simp [refKind]) h1 h2 h3
    (by rw [nn sp h1, nn n h3]; omega)
    (by rw [nn dp h2, nn n h3]; show ¬ _ > ((arrV c1 n1 (fun j => .int (g j))).slots.size : Int); rw [arrV_size]; omega)
    (fun vm₁ _ i hi => by
      have e : scr.slots.getD (sp.toNatClampNeg + i) .null = .int (f (sp.toNatClampNeg + i)) := by
        rw [Array.getD_eq_getD_getElem?, hs5 _ (by omega)]
        rfl
      refine ⟨?_, ?_⟩
      · rw [e]
        exact hfit i hi
      · rw [e]
        exact trivial)
    (g := F0 m pc ls (.int n :: .int dp :: .ref a :: .int sp :: .ref b0 :: rest)) rfl (by rw [hml]) (rest := rest) rfl (by rw [hb]; exact hdg) hframes (by show 2 * 0 + _ + _ ≤ _; omega)
  have e1 : copied scr (vp_cell c1 (n1, .inl g)) sp dp n = vp_cell c1 (n1, .inl (va_cpy f g sp.toNatClampNeg dp.toNatClampNeg n.toNatClampNeg)) := va_copiedX (fun z => .int z) scr c1 f g hs5 h4
  rw [e1] at X' step
  have hl : a < H.size := (Array.getElem?_eq_some_iff.mp hc1).1
  have hheap : ((T.setVm vm').setCell a (vp_cell c1 (n1, .inl (va_cpy f g sp.toNatClampNeg dp.toNatClampNeg n.toNatClampNeg)))).heap = H.setIfInBounds a (vp_cell c1 (n1, .inl (va_cpy f g sp.toNatClampNeg dp.toNatClampNeg n.toNatClampNeg))) := by rw [← hT]; rfl
  have oq : ∀ q : Nat, q ≠ a → (H.setIfInBounds a (vp_cell c1 (n1, .inl (va_cpy f g sp.toNatClampNeg dp.toNatClampNeg n.toNatClampNeg))))[q]? = H[q]? := fun q hq => by simp [Array.getElem?_setIfInBounds, Ne.symm hq]
  obtain ⟨t, a1, b1⟩ := kk _ _ (hP.set hD ha1 (show (H.setIfInBounds a _)[a]? = some _ by simp [Array.getElem?_setIfInBounds, hl]) oq) (hD.set ha1) ⟨by simp; exact hS.1, fun q g1 g2 => by
      rw [oq q (fun e => g2 (by rw [e]; exact hD.2 q1 _ ha1))]
      exact hS.2.1 q g1 g2, fun q hq => by
      rcases List.mem_append.mp hq with h | h
      · exact hS.2.2 q h
      · obtain ⟨z, -, hz⟩ := List.mem_map.mp h
        rw [← hz]
        exact hD.2 q1 _ ha1⟩ _ hheap X'
  exact ⟨t, step t a1, b1⟩
end VCT
section GE
variable {l : Launch} {μ : MU} {Φ : Option AV → AS → VV → Prop} {c0 s0 : Nat} {S : AS} {pc : Nat} {ls : LL} {st : List AV} {v : VV}
def xT (e : Nat) : List Int := match e with
  | 1 => xUs
  | 2 => xLe
  | _ => xMo
def nT (e : Nat) : String := match e with
  | 1 => "USUAL"
  | 2 => "LEAST"
  | _ => "MOST"
theorem ext_T {ea : Nat → Nat} {A : Nat → Prop} {s : State} (h : EXA ea A s) {e : Nat} (he : e = 1 ∨ e = 2 ∨ e = 3) : EXt (nT e) (ea e) (xT e) A s := by
  rcases he with rfl | rfl | rfl
  · exact h.1
  · exact h.2.1
  · exact h.2.2.1
theorem G_getsT {idx e : Nat} (hd : decode μ.2.1 pc = .ok (.getstatic idx, 3)) (he : e = 1 ∨ e = 2 ∨ e = 3) (hl : Cond.fieldLink μ.1.cls idx RX1 (nT e) "[I" ∈ lw_good) (k : G l μ Φ c0 s0 S (pc + 3) ls (ax e :: st) v) : G l μ Φ c0 s0 S pc ls st v := by
  intro p en s m args below meth c H locs D T ea A ad ad0 n0 lsC hC hS
  exact va_gets hC.1 hC.2.1 (ext_T hC.2.2.2.2.2.2.2.2.2.1.1 he).1 hS.2.2.2.2.2.2.2.1 hC.2.2.2.2.2.2.1 (hC.2.2.2.2.2.2.2.1 _ hl) (fun _ h => h) hd (k p en s m args below meth c _ _ D T ea A _ ad0 n0 _ hC (hS.stk fun h => RAs_cons.mpr ⟨trivial, h⟩))
theorem xT_iR : ∀ e j : Nat, iR ((xT e).getD j 0) := by
  intro e j
  have h : ∀ xs : List Int, (∀ x ∈ xs, 0 ≤ x ∧ x ≤ 200) → iR (xs.getD j 0) := fun xs hx => by
    rw [List.getD_eq_getElem?_getD]
    cases hj : xs[j]? with
    | none => exact iR_0
    | some x =>
      have := hx x (List.mem_of_getElem? hj)
      exact ⟨by show _ ≤ x; omega, by show x < _; omega⟩
  match e with
  | 1 => exact h xUs (by decide)
  | 2 => exact h xLe (by decide)
  | 0 => exact h xMo (by decide)
  | (n + 3) => exact h xMo (by decide)
theorem G_ialdX {e : Nat} {i : Int} (hd : decode μ.2.1 pc = .ok (.iaload, 1)) (he : e = 1 ∨ e = 2 ∨ e = 3) (h0 : 0 ≤ i) (h1 : i < 9) (k : G l μ Φ c0 s0 S (pc + 1) ls (ai ((xT e).getD i.toNat 0) :: st) v) : G l μ Φ c0 s0 S pc ls (ai i :: ax e :: st) v := by
  intro p en s m args below meth c H locs D T ea A ad ad0 n0 lsC hC hS
  have hi : iR i := hS.top
  exact va_ti (v := .int (Int32.ofInt ((xT e).getD i.toNat 0))) hC.1 hC.2.1 (ext_T hC.2.2.2.2.2.2.2.2.2.1.1 he).2 hS.2.2.2.2.2.2.2.1 (in_I (n := 9) hi h0 h1) (by rw [clampI hi]) hd (k p en s m args below meth c _ _ D T ea A _ ad0 n0 _ hC (hS.stk fun h => RAs_cons.mpr ⟨xT_iR e _, (RAs_cons.mp (RAs_cons.mp h).2).2⟩))
def cpX (v : VV) (k : Nat) (xs : List Int) : VV := fun a b => if a = k ∧ 0 ≤ b ∧ b < 9 then xs.getD b.toNat 0 else v a b
def cpW (v : VV) (k k1 : Nat) : VV := fun a b => if a = k ∧ 0 ≤ b ∧ b < 9 then v k1 b else v a b
def AC (own : String) (idx : Nat) : Prop := Cond.methodLink own idx arraycopyName ∈ lw_good ∧ Cond.native arraycopyName ∈ lw_good ∧ Cond.static arraycopyName ∈ lw_good ∧ Cond.initialized "java/lang/System" ∈ lw_good
theorem ac_62 : AC RX1 62 := by unfold AC; decide +kernel
theorem RV_cp {S : AS} {v v2 : VV} {k : Nat} (h : RV S v) (hs : S.2.1 k = (0, 9)) (h2 : ∀ a b, v2 a b = v a b ∨ (a = k ∧ iR (v2 a b))) : RV S v2 := by
  intro a ha j
  rcases h2 a j with e | ⟨e, g⟩
  · rw [e]; exact h a ha j
  · unfold skd
    rw [e, hs]
    rw [e] at g
    exact g
theorem cp_cell {T : Nat → ClassId} {ad : Nat → Nat} {S : AS} {v : VV} {k : Nat} (hs : S.2.1 k = (0, 9)) : cellE T ad (S.2.1 k) (S.2.2 k) (v k) = .inl (T 0, 9, .inl (fun j : Nat => Int32.ofInt (v k (j : Int)))) := by
  rw [cell_arr hs rfl]
  rfl
theorem cat5 {st : List AV} {ad ea : Nat → Nat} {d : Nat} (hrm : (st.map acat).sum ≤ 8) (hd : 1 ≤ d) : ((st.map (tr ad ea)).map fun v => v.category).sum + (nativeFrameWords "java/lang/System" "arraycopy" 5 + 11) ≤ 37 * d + 11 := by
  rw [acat_sum]
  have : nativeFrameWords "java/lang/System" "arraycopy" 5 ≤ 20 := by decide
  omega
theorem G_cpyX {idx k : Nat} (hd : decode μ.2.1 pc = .ok (.invokestatic idx, 3)) (hm : AC μ.1.cls idx) (hs : S.2.1 k = (0, 9)) (hdp : 1 ≤ μ.2.2.2.2.1) (hrm : Nat.ble (st.map acat).sum 8 = true) (kk : G l μ Φ c0 s0 S (pc + 3) ls st (cpX v k xUs)) : G l μ Φ c0 s0 S pc ls (ai 9 :: ai 0 :: ar (some k) :: ai 0 :: ax 1 :: st) v := by
  intro p en s m args below meth c H locs D T ea A ad ad0 n0 lsC hC hS
  have hk : k < S.1 := hS.three
  have hts := hC.2.2.2.2.2.2.2.1
  have hst : RAs S.1 st := (RAs_cons.mp (RAs_cons.mp (RAs_cons.mp (RAs_cons.mp (RAs_cons.mp hS.2.2.2.1).2).2).2).2).2
  have he := wl_get (T := T) (ad := ad) (v := v) hk
  rw [cp_cell hs] at he
  refine va_copyT (index := idx) (own := μ.1.cls) hC.1 hC.2.1 (hC.2.2.1.trans hS.lr.1.symm) hC.2.2.2.2.2.2.1 (hts _ hm.1) (hts _ hm.2.1) (hts _ hm.2.2.1) (hts _ hm.2.2.2) hC.2.2.2.2.2.2.2.2.1 hS.2.2.2.2.2.1 hS.2.2.2.2.2.2.1 hS.2.2.2.2.2.2.2.1 (b0 := ea 1) (n0 := 9) (f := fun j => Int32.ofInt (xUs.getD j 0)) (hC.2.2.2.2.2.2.2.2.2.1.1.1).2 k 0 he rfl (sp := Int32.ofInt 0) (dp := Int32.ofInt 0) (n := Int32.ofInt 9) (by decide) (by decide) (by decide) (by decide) (by decide) (fun i _ => rfl) hdp (cat5 (Nat.le_of_ble_eq_true hrm) hdp) hd (fun H1 locs1 h1 h2 h3 => ?_)
  have e : (wl T ad S v).set k (ad k, .inl (T 0, 9, .inl (va_cpy (fun j => Int32.ofInt (xUs.getD j 0)) (fun j : Nat => Int32.ofInt (v k (j : Int))) (Int32.ofInt 0).toNatClampNeg (Int32.ofInt 0).toNatClampNeg (Int32.ofInt 9).toNatClampNeg))) = wl T ad S (cpX v k xUs) := by
    rw [← wl_set (T := T) (ad := ad) (S := S) (S2 := S) (v := v) (v2 := cpX v k xUs) (k := k) rfl rfl (fun _ _ => rfl) (fun a ha => by funext b; exact if_neg (fun z => ha z.1)), cp_cell hs]
    congr 5
    refine congrArg Sum.inl ?_
    funext j
    unfold va_cpy cpX
    show (if 0 ≤ j ∧ j < 0 + 9 then Int32.ofInt (xUs.getD (0 + (j - 0)) 0) else Int32.ofInt (v k (j : Int))) = Int32.ofInt (if k = k ∧ 0 ≤ (j : Int) ∧ (j : Int) < 9 then xUs.getD (j : Int).toNat 0 else v k (j : Int))
    by_cases g : j < 9
    · rw [if_pos (by omega), if_pos ⟨rfl, by omega, by omega⟩]
      congr 2
      omega
    · rw [if_neg (by omega), if_neg (by omega)]
  rw [e] at h1 h2
  refine kk p en s m args below meth c H1 locs1 D T ea A ad ad0 n0 lsC hC ⟨hS.1, hS.2.1, RV_cp hS.vr hs (fun a b => ?_), hst, hS.2.2.2.2.1, h1, h2, h3, hS.lr⟩
  unfold cpX
  by_cases g : a = k ∧ 0 ≤ b ∧ b < 9
  · rw [if_pos g]; exact Or.inr ⟨g.1, xT_iR 1 _⟩
  · rw [if_neg g]; exact Or.inl rfl
theorem G_cpyW {idx k k1 : Nat} (hd : decode μ.2.1 pc = .ok (.invokestatic idx, 3)) (hm : AC μ.1.cls idx) (hs : S.2.1 k = (0, 9)) (hs1 : S.2.1 k1 = (0, 9)) (hdp : 1 ≤ μ.2.2.2.2.1) (hrm : Nat.ble (st.map acat).sum 8 = true) (kk : G l μ Φ c0 s0 S (pc + 3) ls st (cpW v k k1)) : G l μ Φ c0 s0 S pc ls (ai 9 :: ai 0 :: ar (some k) :: ai 0 :: ar (some k1) :: st) v := by
  intro p en s m args below meth c H locs D T ea A ad ad0 n0 lsC hC hS
  have hk : k < S.1 := hS.three
  have h5 := RAs_cons.mp (RAs_cons.mp (RAs_cons.mp (RAs_cons.mp (RAs_cons.mp hS.2.2.2.1).2).2).2).2
  have hk1 : k1 < S.1 := h5.1
  have hts := hC.2.2.2.2.2.2.2.1
  have he := wl_get (T := T) (ad := ad) (v := v) hk
  have he1 := wl_get (T := T) (ad := ad) (v := v) hk1
  rw [cp_cell hs] at he
  rw [cp_cell hs1] at he1
  refine va_copyi (index := idx) (own := μ.1.cls) hC.1 hC.2.1 (hC.2.2.1.trans hS.lr.1.symm) hC.2.2.2.2.2.2.1 (hts _ hm.1) (hts _ hm.2.1) (hts _ hm.2.2.1) (hts _ hm.2.2.2) hC.2.2.2.2.2.2.2.2.1 hS.2.2.2.2.2.1 hS.2.2.2.2.2.2.1 hS.2.2.2.2.2.2.2.1 k1 k 0 0 he1 he rfl rfl rfl (sp := Int32.ofInt 0) (dp := Int32.ofInt 0) (n := Int32.ofInt 9) (by decide) (by decide) (by decide) (by decide) (by decide) (fun i _ => rfl) hdp (cat5 (Nat.le_of_ble_eq_true hrm) hdp) hd (fun H1 locs1 h1 h2 h3 => ?_)
  have e : (wl T ad S v).set k (ad k, .inl (T 0, 9, .inl (va_cpy (fun j : Nat => Int32.ofInt (v k1 (j : Int))) (fun j : Nat => Int32.ofInt (v k (j : Int))) (Int32.ofInt 0).toNatClampNeg (Int32.ofInt 0).toNatClampNeg (Int32.ofInt 9).toNatClampNeg))) = wl T ad S (cpW v k k1) := by
    rw [← wl_set (T := T) (ad := ad) (S := S) (S2 := S) (v := v) (v2 := cpW v k k1) (k := k) rfl rfl (fun _ _ => rfl) (fun a ha => by funext b; exact if_neg (fun z => ha z.1)), cp_cell hs]
    congr 5
    refine congrArg Sum.inl ?_
    funext j
    unfold va_cpy cpW
    show (if 0 ≤ j ∧ j < 0 + 9 then Int32.ofInt (v k1 ((0 + (j - 0) : Nat) : Int)) else Int32.ofInt (v k (j : Int))) = Int32.ofInt (if k = k ∧ 0 ≤ (j : Int) ∧ (j : Int) < 9 then v k1 (j : Int) else v k (j : Int))
    by_cases g : j < 9
    · rw [if_pos (by omega), if_pos ⟨rfl, by omega, by omega⟩]
      congr 2
      omega
    · rw [if_neg (by omega), if_neg (by omega)]
  rw [e] at h1 h2
  refine kk p en s m args below meth c H1 locs1 D T ea A ad ad0 n0 lsC hC ⟨hS.1, hS.2.1, RV_cp hS.vr hs (fun a b => ?_), h5.2, hS.2.2.2.2.1, h1, h2, h3, hS.lr⟩
  unfold cpW
  by_cases g : a = k ∧ 0 ≤ b ∧ b < 9
  · rw [if_pos g]
    refine Or.inr ⟨g.1, ?_⟩
    have := hS.vr k1 hk1 b
    unfold skd at this
    rw [hs1] at this
    exact this
  · rw [if_neg g]; exact Or.inl rfl
/-! String constants -/
theorem ext_S {ea : Nat → Nat} {A : Nat → Prop} {s : State} (h : EXA ea A s) : EXR ea A s := h.2.2.2.2.1
theorem G_ldcS {i : Nat} (hi : i < 9) (hc : μ.1.cls = RX1) (hd : decode μ.2.1 pc = .ok (.ldc (sIx.getD i 0), 2)) (k : G l μ Φ c0 s0 S (pc + 2) ls (ax (10 + i) :: st) v) : G l μ Φ c0 s0 S pc ls st v := by
  intro p en s m args below meth c H locs D T ea A ad ad0 n0 lsC hC hS
  exact va_ldcS (own := RX1) hC.1 hC.2.1 (by rw [← hc]; exact hC.2.2.2.2.2.2.1) ((ext_S hC.2.2.2.2.2.2.2.2.2.1.1).2.1 i hi) hd (k p en s m args below meth c _ _ D T ea A _ ad0 n0 _ hC (hS.stk fun h => RAs_cons.mpr ⟨trivial, h⟩))
theorem G_aretX {x : Nat} {rt : FieldType} (hd : decode μ.2.1 pc = .ok (.areturn, 1)) (hr : μ.2.2.1 = some rt) (hrt : (∃ n, rt = .object n) ∨ ∃ t, rt = .array t) (h1 : Nat.ble c0 μ.2.2.2.2.2.1 = true) (h2 : Nat.ble s0 μ.2.2.2.2.2.2.1 = true) (hq : Φ (some (ax x)) S v) : G l μ Φ c0 s0 S pc ls [ax x] v := by
  intro p en s m args below meth c H locs D T ea A ad ad0 n0 lsC hC hS
  refine W.widen (k := μ.2.2.2.2.2.1) (n := μ.2.2.2.2.2.2.1) (Nat.le_of_ble_eq_true h1) (Nat.le_of_ble_eq_true h2) ?_
  exact W.aret hC.1 hC.2.1 (hC.2.2.2.1.trans hr) hrt (Or.inr ⟨_, rfl⟩) (fun t ht hW => ⟨⟨some (ax x), S, v, ad, rfl, hq, hS.1.1, hS.1.2, (fun a ha => by cases ha; exact trivial), hS.2.1, hS.vr, by rw [ht]; exact hS.2.2.2.2.2.1, va_K.moved hW.alike hC.2.2.2.2.2.2.2.2.1, hS.2.2.2.2.2.2.1⟩, hS.2.2.2.2.2.2.2.1.F ht⟩) hS.2.2.2.2.2.2.2.1.2.2 hd hC.2.2.2.2.1
theorem G_nret {x : Int} {ty : FieldType} (hd : decode μ.2.1 pc = .ok (.ireturn, 1)) (hr : μ.2.2.1 = some ty) (hn : narrow ty (.int (Int32.ofInt x)) = .int (Int32.ofInt x)) (h1 : Nat.ble c0 μ.2.2.2.2.2.1 = true) (h2 : Nat.ble s0 μ.2.2.2.2.2.2.1 = true) (hq : Φ (some (ai x)) S v) : G l μ Φ c0 s0 S pc ls [ai x] v := by
  intro p en s m args below meth c H locs D T ea A ad ad0 n0 lsC hC hS
  refine W.widen (k := μ.2.2.2.2.2.1) (n := μ.2.2.2.2.2.2.1) (Nat.le_of_ble_eq_true h1) (Nat.le_of_ble_eq_true h2) ?_
  exact W.zret hC.1 hC.2.1 (hC.2.2.2.1.trans hr) hn (fun t ht hW => ⟨⟨some (ai x), S, v, ad, rfl, hq, hS.1.1, hS.1.2, (fun a ha => by cases ha; exact hS.top), hS.2.1, hS.vr, by rw [ht]; exact hS.2.2.2.2.2.1, va_K.moved hW.alike hC.2.2.2.2.2.2.2.2.1, hS.2.2.2.2.2.2.1⟩, hS.2.2.2.2.2.2.2.1.F ht⟩) hS.2.2.2.2.2.2.2.1.2.2 hd hC.2.2.2.2.1
theorem G_compact {idx : Nat} (hd : decode μ.2.1 pc = .ok (.getstatic idx, 3)) (hl : Cond.fieldLink μ.1.cls idx RJ0 "COMPACT_STRINGS" "Z" ∈ lw_good) (k : G l μ Φ c0 s0 S (pc + 3) ls (ai 1 :: st) v) : G l μ Φ c0 s0 S pc ls st v := by
  intro p en s m args below meth c H locs D T ea A ad ad0 n0 lsC hC hS
  exact va_gets hC.1 hC.2.1 (ext_S hC.2.2.2.2.2.2.2.2.2.1.1).2.2.1 hS.2.2.2.2.2.2.2.1 hC.2.2.2.2.2.2.1 (hC.2.2.2.2.2.2.2.1 _ hl) (fun _ h => h) hd (k p en s m args below meth c _ _ D T ea A _ ad0 n0 _ hC (hS.stk fun h => RAs_cons.mpr ⟨⟨by decide, by decide⟩, h⟩))
theorem G_coderX {idx i : Nat} (hi : i < 9) (hd : decode μ.2.1 pc = .ok (.getfield idx, 3)) (hl : Cond.fieldLink μ.1.cls idx RJ0 "coder" "B" ∈ lw_good) (k : G l μ Φ c0 s0 S (pc + 3) ls (ai 0 :: st) v) : G l μ Φ c0 s0 S pc ls (ax (10 + i) :: st) v := by
  intro p en s m args below meth c H locs D T ea A ad ad0 n0 lsC hC hS
  exact vk_getf hC.1 hC.2.1 ((ext_S hC.2.2.2.2.2.2.2.2.2.1.1).1.1 i hi).2.1 hS.2.2.2.2.2.2.2.1 hC.2.2.2.2.2.2.1 (hC.2.2.2.2.2.2.2.1 _ hl) (fun _ h => h) hd (k p en s m args below meth c _ _ D T ea A _ ad0 n0 _ hC (hS.stk fun h => RAs_cons.mpr ⟨iR_0, (RAs_cons.mp h).2⟩))
theorem G_valueX {idx i : Nat} (hi : i < 9) (hd : decode μ.2.1 pc = .ok (.getfield idx, 3)) (hl : Cond.fieldLink μ.1.cls idx RJ0 "value" "[B" ∈ lw_good) (k : G l μ Φ c0 s0 S (pc + 3) ls (ax (30 + i) :: st) v) : G l μ Φ c0 s0 S pc ls (ax (10 + i) :: st) v := by
  intro p en s m args below meth c H locs D T ea A ad ad0 n0 lsC hC hS
  exact vk_getf hC.1 hC.2.1 ((ext_S hC.2.2.2.2.2.2.2.2.2.1.1).1.1 i hi).2.2.1 hS.2.2.2.2.2.2.2.1 hC.2.2.2.2.2.2.1 (hC.2.2.2.2.2.2.2.1 _ hl) (fun _ h => h) hd (k p en s m args below meth c _ _ D T ea A _ ad0 n0 _ hC (hS.stk fun h => RAs_cons.mpr ⟨trivial, (RAs_cons.mp h).2⟩))
theorem sLn_bd : ∀ i, i < 9 → sLn.getD i 0 ≤ 5 := by decide
theorem G_alenX {i : Nat} (hi : i < 9) (hd : decode μ.2.1 pc = .ok (.arraylength, 1)) (k : G l μ Φ c0 s0 S (pc + 1) ls (ai ((sLn.getD i 0 : Nat) : Int) :: st) v) : G l μ Φ c0 s0 S pc ls (ax (30 + i) :: st) v := by
  intro p en s m args below meth c H locs D T ea A ad ad0 n0 lsC hC hS
  have hb := sLn_bd i hi
  exact va_tlen hC.1 hC.2.1 ((ext_S hC.2.2.2.2.2.2.2.2.2.1.1).1.1 i hi).2.2.2 hS.2.2.2.2.2.2.2.1 (v := Int32.ofInt ((sLn.getD i 0 : Nat) : Int)) rfl hd (k p en s m args below meth c _ _ D T ea A _ ad0 n0 _ hC (hS.stk fun h => RAs_cons.mpr ⟨⟨by omega, by omega⟩, (RAs_cons.mp h).2⟩))
def sCh (i : Nat) (j : Int) : Int := ((sBy.getD i []).getD j.toNat 0).toInt
theorem G_baldX {i : Nat} {j : Int} (hi : i < 9) (h0 : 0 ≤ j) (h1 : j < ((sLn.getD i 0 : Nat) : Int)) (hd : decode μ.2.1 pc = .ok (.baload, 1)) (k : G l μ Φ c0 s0 S (pc + 1) ls (ai (sCh i j) :: st) v) : G l μ Φ c0 s0 S pc ls (ai j :: ax (30 + i) :: st) v := by
  intro p en s m args below meth c H locs D T ea A ad ad0 n0 lsC hC hS
  have hj : iR j := hS.top
  have k2 := k p en s m args below meth c _ _ D T ea A _ ad0 n0 _ hC (hS.stk fun h => RAs_cons.mpr ⟨iR_of _, (RAs_cons.mp (RAs_cons.mp h).2).2⟩)
  rw [List.map_cons, show tr ad ea (ai (sCh i j)) = .int ((sBy.getD i []).getD j.toNat 0) from congrArg Value.int (Int32.ofInt_toInt _)] at k2
  exact va_tb (v := .int ((sBy.getD i []).getD j.toNat 0)) hC.1 hC.2.1 ((ext_S hC.2.2.2.2.2.2.2.2.2.1.1).1.1 i hi).2.2.2 hS.2.2.2.2.2.2.2.1 (in_I hj h0 h1) (by rw [clampI hj]) hd k2
theorem G_i2c {x : Int} (z : Int) (hd : decode μ.2.1 pc = .ok (.i2c, 1)) (hz : ((Int32.ofInt x).toUInt32 % 65536).toInt32 = Int32.ofInt z) (hr : iR z) (k : G l μ Φ c0 s0 S (pc + 1) ls (ai z :: st) v) : G l μ Φ c0 s0 S pc ls (ai x :: st) v := by
  intro p en s m args below meth c H locs D T ea A ad ad0 n0 lsC hC hS
  exact lv_i2c hC.1 hC.2.1 hd hz (k p en s m args below meth c _ _ D T ea A _ ad0 n0 _ hC (hS.stk fun h => RAs_cons.mpr ⟨hr, (RAs_cons.mp h).2⟩))
theorem G_callVX {idx n : Nat} {y : MethodName} {cc : ByteArray} {ret : Option FieldType} {maxL d2 i : Nat} {as stk : List AV} {Φ2 : Option AV → AS → VV → Prop} (hi : i < 9) (hd : decode μ.2.1 pc = .ok (.invokevirtual idx, 3)) (hR : RJ0 = y.cls) (h2 : Ct l y cc ret maxL d2 0 0 (ax (10 + i) :: as) S v Φ2) (hm : MV μ.1.cls idx y cc ret maxL n) (hn : as.length = n) (hst : stk = as.reverse ++ ax (10 + i) :: st) (hdp : d2 + 1 ≤ μ.2.2.2.2.1) (hmx : Nat.ble maxL 18 = true) (hrm : Nat.ble (st.map acat).sum 8 = true) (hcl : c0 + 0 ≤ μ.2.2.2.2.2.1) (hsl : s0 + 0 ≤ μ.2.2.2.2.2.2.1) (kk : ∀ (r : Option AV) (S2 : AS) (v2 : VV), Φ2 r S2 v2 → G l μ Φ (c0 + 0) (s0 + 0) S2 (pc + 3) ls (r.toList ++ st) v2) : G l μ Φ c0 s0 S pc ls stk v := by
  intro p en s m args below meth c H locs D T ea A ad ad0 n0 lsC hC hS
  subst hst
  subst hn
  have hmx := Nat.le_of_ble_eq_true hmx
  have hrm := Nat.le_of_ble_eq_true hrm
  have hall : RAs S.1 (as.reverse ++ ax (10 + i) :: st) := hS.2.2.2.1
  have hst9 : RAs S.1 st := fun b hb => hall b (List.mem_append_right _ (List.mem_cons_of_mem _ hb))
  have has : RAs S.1 (ax (10 + i) :: as) := RAs_cons.mpr ⟨trivial, fun b hb => hall b (List.mem_append_left _ (List.mem_reverse.mpr hb))⟩
  have hts := hC.2.2.2.2.2.2.2.1
  have hrec := vk_recv (i := i) (ext_S hC.2.2.2.2.2.2.2.2.2.1.1).1 hi hS.2.2.2.2.2.2.2.1
  refine call_QQ hC hS hst9 (va_runV (As := as.map (tr ad ea)) (nL := μ.2.2.2.1) (Ts := lw_good) (own := μ.1.cls) ⟨hC.1, hC.2.1, hC.2.2.1, hC.2.2.2.2.2.2.1, hts⟩ (h2 has hS.2.1 hS.vr D T ea ad H.size) (cwV as.length hts (good_cons hm.1.1 (good_cons hm.1.2.1 (good_cons hm.1.2.2.1 (good_cons hm.1.2.2.2.1 (good_cons hm.1.2.2.2.2 lw_good_in))))) rfl rfl rfl ⟨rfl, hm.2⟩ ⟨hdp, by show 8 + (maxL + 11) + (37 * d2 + 11) ≤ 37 * _ + 11; have := Nat.mul_le_mul_left 37 hdp; omega⟩) ⟨pre_Pc, by rw [← hR]; exact hrec, pre_in (vs := (ax (10 + i) :: as).map (tr ad ea)) hC hS⟩ rfl (by rw [List.length_map]) hS.lr.1 ?_ (by rw [acat_sum]; show 2 * 0 + _ ≤ _; omega) hd ⟨hcl, hsl⟩) kk
  show (as.reverse ++ ax (10 + i) :: st).map (tr ad ea) = _
  rw [List.map_append, List.map_reverse]
  rfl
/-- a static that holds null, or something that is named by ea 9 from here on -/
theorem EXA_9 {ea : Nat → Nat} {A : Nat → Prop} {s : State} (h : EXA ea A s) (t : Nat) : EXA (fun x => if x = 9 then t else ea x) A s := by
  obtain ⟨r1, r2, r3, r4⟩ := h.2.2.2.2.1
  refine ⟨h.1, h.2.1, h.2.2.1, h.2.2.2.1, ⟨?_, fun i hi => ?_, r3, r4⟩, h.2.2.2.2.2⟩
  · have e1 : (fun i : Nat => if 10 + i = 9 then t else ea (10 + i)) = fun i => ea (10 + i) := funext fun i => if_neg (by omega)
    have e2 : (fun i : Nat => if 30 + i = 9 then t else ea (30 + i)) = fun i => ea (30 + i) := funext fun i => if_neg (by omega)
    show vk_S 9 sLn sBy (fun i => if 10 + i = 9 then t else ea (10 + i)) (fun i => if 30 + i = 9 then t else ea (30 + i)) A s s.heap
    rw [e1, e2]; exact r1
  · show vk_R RX1 (sIx.getD i 0) (sTx.getD i "") (if 10 + i = 9 then t else ea (10 + i)) s
    rw [if_neg (by omega)]; exact r2 i hi
def no9 (a : AV) : Prop := a ≠ ax 9
theorem tr_9 {ad ea : Nat → Nat} {t : Nat} {a : AV} (h : no9 a) : tr ad (fun x => if x = 9 then t else ea x) a = tr ad ea a := by
  rcases a with (_ | k) | x | y | e
  · rfl
  · rfl
  · rfl
  · rfl
  · show Value.ref (if e = 9 then t else ea e) = Value.ref (ea e)
    rw [if_neg (fun g => h (by rw [g]))]
theorem G_getsQ {idx : Nat} (hd : decode μ.2.1 pc = .ok (.getstatic idx, 3)) (hl : Cond.fieldLink μ.1.cls idx RJ3 "SIOOBE_FORMATTER" "Ljava/util/function/BiFunction;" ∈ lw_good) (hsc : μ.2.2.2.2.2.2.2 = none) (hΦ : ∀ r S2 v2, Φ r S2 v2 → r = none) (hls : ∀ (i : Nat) (a : AV), ls[i]? = some (some a) → no9 a) (hst : ∀ a ∈ st, no9 a) (k1 : G l μ Φ c0 s0 S (pc + 3) ls (ar none :: st) v) (k2 : G l μ Φ c0 s0 S (pc + 3) ls (ax 9 :: st) v) : G l μ Φ c0 s0 S pc ls st v := by
  intro p en s m args below meth c H locs D T ea A ad ad0 n0 lsC hC hS
  rcases (ext_S hC.2.2.2.2.2.2.2.2.2.1.1).2.2.2 with hZ | ⟨t, hZ⟩
  · exact va_gets hC.1 hC.2.1 hZ hS.2.2.2.2.2.2.2.1 hC.2.2.2.2.2.2.1 (hC.2.2.2.2.2.2.2.1 _ hl) (fun _ h => h) hd (k1 p en s m args below meth c _ _ D T ea A _ ad0 n0 _ hC (hS.stk fun h => RAs_cons.mpr ⟨trivial, h⟩))
  · have hC2 : Cx l μ p s m args meth c D T (fun x => if x = 9 then t else ea x) A := by
      obtain ⟨a1, a2, a3, a4, a5, a6, a7, a8, a9, ⟨b1, b2⟩, a11⟩ := hC
      exact ⟨a1, a2, a3, a4, a5, a6, a7, a8, a9, ⟨EXA_9 b1 t, by unfold EXS; rw [hsc]; trivial⟩, a11⟩
    have hS2 : Sx μ s D T (fun x => if x = 9 then t else ea x) A ad0 n0 S ls (ax 9 :: st) v H locs ad lsC := by
      obtain ⟨a1, a2, a3, a4, a5, a6, a7, a8, b1, b2, b3⟩ := hS
      exact ⟨a1, a2, a3, RAs_cons.mpr ⟨trivial, a4⟩, a5, a6, a7, a8, b1, b2, fun i a h => by rw [tr_9 (hls i a h)]; exact b3 i a h⟩
    have k3 := k2 p en s m args below meth c H locs D T (fun x => if x = 9 then t else ea x) A ad ad0 n0 lsC hC2 hS2
    have e : (ax 9 :: st).map (tr ad (fun x => if x = 9 then t else ea x)) = Value.ref t :: st.map (tr ad ea) := by
      rw [List.map_cons]
      congr 1
      exact List.map_congr_left fun a ha => tr_9 (hst a ha)
    rw [e] at k3
    refine va_gets hC.1 hC.2.1 hZ hS.2.2.2.2.2.2.2.1 hC.2.2.2.2.2.2.1 (hC.2.2.2.2.2.2.2.1 _ hl) (fun _ h => h) hd ?_
    intro T2 hT X
    obtain ⟨t2, a, o, b1, b2, ⟨⟨r, S2, v2, ad2, q1, q2, q3⟩, q4⟩, b4⟩ := k3 T2 hT X
    have hr := hΦ r S2 v2 q2
    subst hr
    exact ⟨t2, a, o, b1, b2, ⟨⟨none, S2, v2, ad2, q1, q2, q3.1, q3.2.1, (fun a ha => by cases ha), q3.2.2.2⟩, q4⟩, b4⟩
end GE
