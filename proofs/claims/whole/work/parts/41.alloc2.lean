section GN2
variable {l : Launch} {μ : MU} {Φ : Option AV → AS → VV → Prop} {c0 s0 : Nat} {S : AS} {pc : Nat} {ls : LL} {st : List AV} {v : VV}
theorem G_newa_int {N : Nat} {n : Int} (hd : decode μ.2.1 pc = .ok (.newarray .int, 2)) (hw : Cond.arrayClass .int ∈ lw_good) (hn : (N : Int) = n) (hb : N ≤ 10000) (hc : c0 + 1 ≤ μ.2.2.2.2.2.1) (hs : s0 + N ≤ μ.2.2.2.2.2.2.1) (k : G l μ Φ (c0 + 1) (s0 + N) (nS S 0 N) (pc + 2) ls (ar (some S.1) :: st) (nV v S.1)) : G l μ Φ c0 s0 S pc ls (ai n :: st) v := by
  intro p en s m args below meth c H locs D T ea A ad ad0 n0 lsC hC hS
  subst hn
  have hts := hC.2.2.2.2.2.2.2.1
  have hnR : iR (N : Int) := hS.top
  have hst : RAs S.1 st := (RAs_cons.mp hS.2.2.2.1).2
  have hK := hC.2.2.2.2.2.2.2.2.1
  refine va_newa (atype := .int) (ty := .int) (N' := N) (a0 := arrc ad 0 N (fun _ => none) (fun _ => 0)) hC.1 hC.2.1 (hts _ hw) rfl hK hS.2.2.2.2.2.1 hS.2.2.2.2.2.2.1 hS.2.2.2.2.2.2.2.1 hC.2.2.2.2.2.2.2.2.2.2 (fun cA => rfl) (fun h => by have := (iR_lt hnR iR_0).mp h; omega) (by rw [clampI hnR]; omega) (by show N * _ ≤ _; simp [componentBytes]; omega) hc hs hd (fun q cA H1 hK2 h1 h2 h3 => ?_)
  have e1 : s.vm.findClass ("[" ++ (FieldType.int).toString) = some (T 0) := (hK.2 0 (T 0, .int) rfl).2
  have e2 : s.vm.findClass ("[" ++ (FieldType.int).toString) = some cA := (hK2.2 6 (cA, .int) rfl).2
  have e3 : cA = T 0 := Option.some.inj (e2.symm.trans e1)
  subst e3
  have e : wl T ad S v ++ [(q, .inl (T 0, arrc ad 0 N (fun _ => none) (fun _ => 0)))] = wl T (nA ad S.1 q) (nS S 0 N) (nV v S.1) := by
    rw [wl_new hS.2.1, cell_arr (t := 0) (len := N) rfl rfl, arrc_agree (ad2 := nA ad S.1 q) (ad := ad) (fun j r hr => by cases hr)]
  rw [e] at h1 h2
  have hst2 : st.map (tr (nA ad S.1 q) ea) = st.map (tr ad ea) := List.map_congr_left fun b hb => tr_agree (fun k hk => nA_lt hk) (hst b hb)
  have k2 := k p en s m args below meth c H1 locs D T ea A (nA ad S.1 q) ad0 n0 lsC hC (hS.new hst h1 h2 h3)
  rw [List.map_cons, hst2, show tr (nA ad S.1 q) ea (ar (some S.1)) = .ref q from congrArg Value.ref (if_pos rfl)] at k2
  exact k2
theorem G_newa_byte {N : Nat} {n : Int} (hd : decode μ.2.1 pc = .ok (.newarray .byte, 2)) (hw : Cond.arrayClass .byte ∈ lw_good) (hn : (N : Int) = n) (hb : N ≤ 10000) (hc : c0 + 1 ≤ μ.2.2.2.2.2.1) (hs : s0 + N ≤ μ.2.2.2.2.2.2.1) (k : G l μ Φ (c0 + 1) (s0 + N) (nS S 1 N) (pc + 2) ls (ar (some S.1) :: st) (nV v S.1)) : G l μ Φ c0 s0 S pc ls (ai n :: st) v := by
  intro p en s m args below meth c H locs D T ea A ad ad0 n0 lsC hC hS
  subst hn
  have hts := hC.2.2.2.2.2.2.2.1
  have hnR : iR (N : Int) := hS.top
  have hst : RAs S.1 st := (RAs_cons.mp hS.2.2.2.1).2
  have hK := hC.2.2.2.2.2.2.2.2.1
  refine va_newa (atype := .byte) (ty := .byte) (N' := N) (a0 := arrc ad 1 N (fun _ => none) (fun _ => 0)) hC.1 hC.2.1 (hts _ hw) rfl hK hS.2.2.2.2.2.1 hS.2.2.2.2.2.2.1 hS.2.2.2.2.2.2.2.1 hC.2.2.2.2.2.2.2.2.2.2 (fun cA => rfl) (fun h => by have := (iR_lt hnR iR_0).mp h; omega) (by rw [clampI hnR]; omega) (by show N * _ ≤ _; simp [componentBytes]; omega) hc hs hd (fun q cA H1 hK2 h1 h2 h3 => ?_)
  have e1 : s.vm.findClass ("[" ++ (FieldType.byte).toString) = some (T 1) := (hK.2 1 (T 1, .byte) rfl).2
  have e2 : s.vm.findClass ("[" ++ (FieldType.byte).toString) = some cA := (hK2.2 6 (cA, .byte) rfl).2
  have e3 : cA = T 1 := Option.some.inj (e2.symm.trans e1)
  subst e3
  have e : wl T ad S v ++ [(q, .inl (T 1, arrc ad 1 N (fun _ => none) (fun _ => 0)))] = wl T (nA ad S.1 q) (nS S 1 N) (nV v S.1) := by
    rw [wl_new hS.2.1, cell_arr (t := 1) (len := N) rfl rfl, arrc_agree (ad2 := nA ad S.1 q) (ad := ad) (fun j r hr => by cases hr)]
  rw [e] at h1 h2
  have hst2 : st.map (tr (nA ad S.1 q) ea) = st.map (tr ad ea) := List.map_congr_left fun b hb => tr_agree (fun k hk => nA_lt hk) (hst b hb)
  have k2 := k p en s m args below meth c H1 locs D T ea A (nA ad S.1 q) ad0 n0 lsC hC (hS.new hst h1 h2 h3)
  rw [List.map_cons, hst2, show tr (nA ad S.1 q) ea (ar (some S.1)) = .ref q from congrArg Value.ref (if_pos rfl)] at k2
  exact k2
theorem G_newa_boolean {N : Nat} {n : Int} (hd : decode μ.2.1 pc = .ok (.newarray .boolean, 2)) (hw : Cond.arrayClass .boolean ∈ lw_good) (hn : (N : Int) = n) (hb : N ≤ 10000) (hc : c0 + 1 ≤ μ.2.2.2.2.2.1) (hs : s0 + N ≤ μ.2.2.2.2.2.2.1) (k : G l μ Φ (c0 + 1) (s0 + N) (nS S 2 N) (pc + 2) ls (ar (some S.1) :: st) (nV v S.1)) : G l μ Φ c0 s0 S pc ls (ai n :: st) v := by
  intro p en s m args below meth c H locs D T ea A ad ad0 n0 lsC hC hS
  subst hn
  have hts := hC.2.2.2.2.2.2.2.1
  have hnR : iR (N : Int) := hS.top
  have hst : RAs S.1 st := (RAs_cons.mp hS.2.2.2.1).2
  have hK := hC.2.2.2.2.2.2.2.2.1
  refine va_newa (atype := .boolean) (ty := .boolean) (N' := N) (a0 := arrc ad 2 N (fun _ => none) (fun _ => 0)) hC.1 hC.2.1 (hts _ hw) rfl hK hS.2.2.2.2.2.1 hS.2.2.2.2.2.2.1 hS.2.2.2.2.2.2.2.1 hC.2.2.2.2.2.2.2.2.2.2 (fun cA => rfl) (fun h => by have := (iR_lt hnR iR_0).mp h; omega) (by rw [clampI hnR]; omega) (by show N * _ ≤ _; simp [componentBytes]; omega) hc hs hd (fun q cA H1 hK2 h1 h2 h3 => ?_)
  have e1 : s.vm.findClass ("[" ++ (FieldType.boolean).toString) = some (T 2) := (hK.2 2 (T 2, .boolean) rfl).2
  have e2 : s.vm.findClass ("[" ++ (FieldType.boolean).toString) = some cA := (hK2.2 6 (cA, .boolean) rfl).2
  have e3 : cA = T 2 := Option.some.inj (e2.symm.trans e1)
  subst e3
  have e : wl T ad S v ++ [(q, .inl (T 2, arrc ad 2 N (fun _ => none) (fun _ => 0)))] = wl T (nA ad S.1 q) (nS S 2 N) (nV v S.1) := by
    rw [wl_new hS.2.1, cell_arr (t := 2) (len := N) rfl rfl, arrc_agree (ad2 := nA ad S.1 q) (ad := ad) (fun j r hr => by cases hr)]
  rw [e] at h1 h2
  have hst2 : st.map (tr (nA ad S.1 q) ea) = st.map (tr ad ea) := List.map_congr_left fun b hb => tr_agree (fun k hk => nA_lt hk) (hst b hb)
  have k2 := k p en s m args below meth c H1 locs D T ea A (nA ad S.1 q) ad0 n0 lsC hC (hS.new hst h1 h2 h3)
  rw [List.map_cons, hst2, show tr (nA ad S.1 q) ea (ar (some S.1)) = .ref q from congrArg Value.ref (if_pos rfl)] at k2
  exact k2
theorem G_newa_long {N : Nat} {n : Int} (hd : decode μ.2.1 pc = .ok (.newarray .long, 2)) (hw : Cond.arrayClass .long ∈ lw_good) (hn : (N : Int) = n) (hb : N ≤ 10000) (hc : c0 + 1 ≤ μ.2.2.2.2.2.1) (hs : s0 + N ≤ μ.2.2.2.2.2.2.1) (k : G l μ Φ (c0 + 1) (s0 + N) (nS S 5 N) (pc + 2) ls (ar (some S.1) :: st) (nV v S.1)) : G l μ Φ c0 s0 S pc ls (ai n :: st) v := by
  intro p en s m args below meth c H locs D T ea A ad ad0 n0 lsC hC hS
  subst hn
  have hts := hC.2.2.2.2.2.2.2.1
  have hnR : iR (N : Int) := hS.top
  have hst : RAs S.1 st := (RAs_cons.mp hS.2.2.2.1).2
  have hK := hC.2.2.2.2.2.2.2.2.1
  refine va_newa (atype := .long) (ty := .long) (N' := N) (a0 := arrc ad 5 N (fun _ => none) (fun _ => 0)) hC.1 hC.2.1 (hts _ hw) rfl hK hS.2.2.2.2.2.1 hS.2.2.2.2.2.2.1 hS.2.2.2.2.2.2.2.1 hC.2.2.2.2.2.2.2.2.2.2 (fun cA => rfl) (fun h => by have := (iR_lt hnR iR_0).mp h; omega) (by rw [clampI hnR]; omega) (by show N * _ ≤ _; simp [componentBytes]; omega) hc hs hd (fun q cA H1 hK2 h1 h2 h3 => ?_)
  have e1 : s.vm.findClass ("[" ++ (FieldType.long).toString) = some (T 5) := (hK.2 5 (T 5, .long) rfl).2
  have e2 : s.vm.findClass ("[" ++ (FieldType.long).toString) = some cA := (hK2.2 6 (cA, .long) rfl).2
  have e3 : cA = T 5 := Option.some.inj (e2.symm.trans e1)
  subst e3
  have e : wl T ad S v ++ [(q, .inl (T 5, arrc ad 5 N (fun _ => none) (fun _ => 0)))] = wl T (nA ad S.1 q) (nS S 5 N) (nV v S.1) := by
    rw [wl_new hS.2.1, cell_arr (t := 5) (len := N) rfl rfl, arrc_agree (ad2 := nA ad S.1 q) (ad := ad) (fun j r hr => by cases hr)]
  rw [e] at h1 h2
  have hst2 : st.map (tr (nA ad S.1 q) ea) = st.map (tr ad ea) := List.map_congr_left fun b hb => tr_agree (fun k hk => nA_lt hk) (hst b hb)
  have k2 := k p en s m args below meth c H1 locs D T ea A (nA ad S.1 q) ad0 n0 lsC hC (hS.new hst h1 h2 h3)
  rw [List.map_cons, hst2, show tr (nA ad S.1 q) ea (ar (some S.1)) = .ref q from congrArg Value.ref (if_pos rfl)] at k2
  exact k2
theorem G_objInit {idx k : Nat} (hd : decode μ.2.1 pc = .ok (.invokespecial idx, 3)) (hm : Cond.methodLink μ.1.cls idx Lib.objectInit ∈ lw_good) (hi : Cond.instanceMethod Lib.objectInit ∈ lw_good) (hc : Cond.code Lib.objectInit ⟨#[0xb1]⟩ 1 none ∈ lw_good) (hf : 1 ≤ μ.2.2.2.2.1) (hr : Nat.ble (st.map acat).sum 8 = true) (kk : G l μ Φ c0 s0 S (pc + 3) ls st v) : G l μ Φ c0 s0 S pc ls (ar (some k) :: st) v := by
  intro p en s m args below meth c H locs D T ea A ad ad0 n0 lsC hC hS
  have hts := hC.2.2.2.2.2.2.2.1
  have hr := Nat.le_of_ble_eq_true hr
  refine W.objInit (rest := st.map (tr ad ea)) (a := ad k) hC.1 hC.2.1 hC.2.2.2.2.2.2.1 (hts _ hm) (hts _ hi) (hts _ hc) rfl (hS.lr.1.trans hC.2.2.1.symm) rfl hd hf (by rw [acat_sum]; show 2 * 0 + _ + 12 ≤ 37 * _ + 11; omega) (kk p en s m args below meth c _ _ D T ea A _ ad0 n0 _ hC (hS.stk fun h => (RAs_cons.mp h).2))
end GN2
