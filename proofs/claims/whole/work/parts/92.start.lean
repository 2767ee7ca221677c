theorem cls_inst {ci : Nat} (h : ci < 7) : Cond.instantiable (Rof ci) (nf ci) ∈ lw_good := by
  match ci, h with
  | 0, _ => exact (show Cond.instantiable (Rof 0) (nf 0) ∈ lw_good by decide +kernel)
  | 1, _ => exact (show Cond.instantiable (Rof 1) (nf 1) ∈ lw_good by decide +kernel)
  | 2, _ => exact (show Cond.instantiable (Rof 2) (nf 2) ∈ lw_good by decide +kernel)
  | 3, _ => exact (show Cond.instantiable (Rof 3) (nf 3) ∈ lw_good by decide +kernel)
  | 4, _ => exact (show Cond.instantiable (Rof 4) (nf 4) ∈ lw_good by decide +kernel)
  | 5, _ => exact (show Cond.instantiable (Rof 5) (nf 5) ∈ lw_good by decide +kernel)
  | 6, _ => exact (show Cond.instantiable (Rof 6) (nf 6) ∈ lw_good by decide +kernel)
theorem st_arr {args : Array Value} {s : State} {ty : FieldType} (hty : ∀ C, ty ≠ .object C) (h : (Cond.arrayClass ty).before args s = true) : ∃ cA : ClassId, ArrOfT s cA ty ∧ va_RA s cA ty := by
  obtain ⟨cA, kA, comp, h1, h2, h3⟩ := Cond.arrayClass_spec h
  refine ⟨cA, fun n z => ⟨fun k h => (by cases h), kA, h2, comp, h3⟩, ?_⟩
  cases ty with
  | object C => exact absurd rfl (hty C)
  | _ => exact h1
theorem st_aro {args : Array Value} {s : State} {C : String} (h : (Cond.arrayOver (.object C)).before args s = true) : ∃ cA : ClassId, ArrOfT s cA (.object C) ∧ va_RA s cA (.object C) := by
  obtain ⟨comp, c, k, h1, h2, h3, h4, h5⟩ := Cond.arrayOver_spec h
  exact ⟨c, fun n z => ⟨fun k h => (by cases h), k, h3, comp, h4⟩, k, comp, h3, h4, h1, h5⟩
theorem start_K {args : Array Value} {s : State} (hts : ∀ w ∈ lw_tbl, w.before args s = true) : ∃ (D : va_G) (T : Nat → ClassId), va_K D classes (tyl T) s := by
  have hg : ∀ w ∈ lw_good, w.before args s = true := fun w h => hts w (List.mem_filter.mp h).1
  have hc : ∀ ci : Nat, ∃ q : ClassId × (Nat → Nat), ci < 7 → u_Kn s (Rof ci) (Tof ci) (nf ci) q.1 q.2 := by
    intro ci
    by_cases h : ci < 7
    · obtain ⟨a, b, hk⟩ := u_known (C := Rof ci) (T := Tof ci) (N := nf ci) (n := nf ci) hg (cls_in h) (hg _ (cls_inst h))
      exact ⟨(a, b), fun _ => hk⟩
    · obtain ⟨a, b, hk⟩ := u_known (C := Rof 0) (T := Tof 0) (N := nf 0) (n := nf 0) hg (cls_in (by decide)) (hg _ (cls_inst (by decide)))
      exact ⟨(a, b), fun q => absurd q h⟩
  obtain ⟨f, hf⟩ := Classical.axiomOfChoice hc
  obtain ⟨t0, a0⟩ := st_arr (ty := .int) (fun _ h => by cases h) (hts (.arrayClass .int) (by decide +kernel))
  obtain ⟨t1, a1⟩ := st_arr (ty := .byte) (fun _ h => by cases h) (hts (.arrayClass .byte) (by decide +kernel))
  obtain ⟨t2, a2⟩ := st_arr (ty := .boolean) (fun _ h => by cases h) (hts (.arrayClass .boolean) (by decide +kernel))
  obtain ⟨t3, a3⟩ := st_aro (hts (.arrayOver (.object "WicketBoard$Umpire")) (by decide +kernel))
  obtain ⟨t4, a4⟩ := st_aro (hts (.arrayOver (.object "WicketBoard$Game")) (by decide +kernel))
  obtain ⟨t5, a5⟩ := st_arr (ty := .long) (fun _ h => by cases h) (hts (.arrayClass .long) (by decide +kernel))
  refine ⟨(fun k => (f k).1, fun k => (f k).2), fun k => match k with | 0 => t0 | 1 => t1 | 2 => t2 | 3 => t3 | 4 => t4 | _ => t5, ?_, ?_⟩
  · intro k q hq
    have hk : k < 7 := (List.getElem?_eq_some_iff.mp hq).1
    rw [cls_at hk] at hq
    cases hq
    exact hf k hk
  · intro k q hq
    match k, hq with
    | 0, hq => cases hq; exact a0
    | 1, hq => cases hq; exact a1
    | 2, hq => cases hq; exact a2
    | 3, hq => cases hq; exact a3
    | 4, hq => cases hq; exact a4
    | 5, hq => cases hq; exact a5
    | k + 6, hq => simp at hq
def gvl : List Cond := flatC (Jvm.Cond.and given_1 narrow_1)
def tbl_T (n : String) (xs : List Int) : Prop := Cond.arrayOf (.static RX1 n "[I") .int ∈ gvl ∧ Cond.eq (.length (.static RX1 n "[I")) (.int (Int32.ofNat 9)) ∈ gvl ∧ ∀ j : Nat, j < 9 → Cond.eq (.elem (.static RX1 n "[I") (.int (Int32.ofNat j))) (.int (Int32.ofInt (xs.getD j 0))) ∈ gvl
theorem tbl_U : tbl_T "USUAL" xUs := ⟨by decide +kernel, by decide +kernel, by decide +kernel⟩
theorem tbl_L : tbl_T "LEAST" xLe := ⟨by decide +kernel, by decide +kernel, by decide +kernel⟩
theorem tbl_M : tbl_T "MOST" xMo := ⟨by decide +kernel, by decide +kernel, by decide +kernel⟩
theorem st_tab {args : Array Value} {s : State} {n : String} {xs : List Int} {A : Nat → Prop} (hts : ∀ w ∈ lw_tbl, w.before args s = true) (hs : ∀ w ∈ gvl, w.before args s = true) (hA : ∀ a : Nat, a < s.heap.size → ¬ A a) (hl : Cond.laysStatic RX1 n "[I" ∈ lw_tbl) (h : tbl_T n xs) : ∃ t : Nat, EXt n t xs A s := by
  obtain ⟨t, ht, hT⟩ := va_Tof (tm := .static RX1 n "[I") (N := 9) (f := fun j => .int (Int32.ofInt (xs.getD j 0))) (A := A) (by decide) (hs _ h.1) (va_eqt (hs _ h.2.1)) (fun j hj => va_eqt (hs _ (h.2.2 j hj))) hA
  exact ⟨t, va_Zof (hts _ hl) (hts (.initialized RX1) (by decide +kernel)) ht hA, hT⟩
def stm (i : Nat) : Term := .string RX1 (sIx.getD i 0)
theorem str_1 : ∀ i : Nat, i < 9 → Cond.exactly (stm i) "java/lang/String" ∈ gvl ∧ Cond.eq (.field (stm i) "java/lang/String" "coder" "B") (.int 0) ∈ gvl ∧ Cond.arrayOf (.field (stm i) "java/lang/String" "value" "[B") .byte ∈ gvl ∧ Cond.eq (.length (.field (stm i) "java/lang/String" "value" "[B")) (.int (Int32.ofNat (sLn.getD i 0))) ∈ gvl := by decide +kernel
theorem str_2 : ∀ i : Nat, i < 9 → ∀ j : Nat, j < sLn.getD i 0 → Cond.eq (.elem (.field (stm i) "java/lang/String" "value" "[B") (.int (Int32.ofNat j))) (.int ((sBy.getD i []).getD j 0)) ∈ gvl := by decide +kernel
theorem str_3 : ∀ i : Nat, i < 9 → ∀ j : Nat, j < 9 → i ≠ j → Cond.not (Cond.eq (stm i) (stm j)) ∈ gvl ∨ Cond.not (Cond.eq (stm j) (stm i)) ∈ gvl := by decide +kernel
theorem str_4 : ∀ i : Nat, i < 9 → Cond.stringRef RX1 (sIx.getD i 0) (sTx.getD i "") ∈ lw_tbl := by decide +kernel
theorem str_5 : Cond.stringRef RX5 168 "no such umpire" ∈ lw_tbl ∧ Cond.stringRef RX5 188 "nothing of that number is told" ∈ lw_tbl ∧ Cond.exactly (.string RX5 168) "java/lang/String" ∈ gvl ∧ Cond.exactly (.string RX5 188) "java/lang/String" ∈ gvl := by decide +kernel
theorem nest_in : ∀ w ∈ nestw, w ∈ lw_tbl := by decide +kernel
theorem st_vkR {args : Array Value} {s : State} {k : Nat} {tx : String} (h : (Cond.stringRef RX5 k tx).before args s = true) (hx : (Cond.exactly (.string RX5 k) "java/lang/String").before args s = true) : ∃ a, vk_R RX5 k tx a s := by
  obtain ⟨a, c, cA, kA, q1, -⟩ := Cond.exactly_spec (args := args) (first := s) (o := none) (s := s) (idx := []) (t := .string RX5 k) (cls := "java/lang/String") hx
  exact ⟨a, vk_R.of h q1⟩
theorem st_N {args : Array Value} {s : State} (hts : ∀ w ∈ lw_tbl, w.before args s = true) : EXN s := by
  intro w hm
  have h1 := hts w (nest_in w hm)
  unfold nestw at hm
  simp only [List.mem_cons, List.not_mem_nil, or_false] at hm
  rcases hm with rfl | rfl | rfl | rfl | rfl | rfl | rfl | rfl | rfl <;> exact h1
theorem start_E {args : Array Value} {s : State} (b : Nat) (hts : ∀ w ∈ lw_tbl, w.before args s = true) (hgv : (Jvm.Cond.and given_1 narrow_1).before args s = true) : ∃ ea : Nat → Nat, ea 0 = b ∧ EXA ea (fun q : Nat => s.heap.size ≤ q) s := by
  have hs : ∀ w ∈ gvl, w.before args s = true := flat_of_before _ hgv
  have hA : ∀ a : Nat, a < s.heap.size → ¬ (fun q : Nat => s.heap.size ≤ q) a := fun a h => Nat.not_le.mpr h
  obtain ⟨t1, h1⟩ := st_tab hts hs hA (by decide +kernel) tbl_U
  obtain ⟨t2, h2⟩ := st_tab hts hs hA (by decide +kernel) tbl_L
  obtain ⟨t3, h3⟩ := st_tab hts hs hA (by decide +kernel) tbl_M
  obtain ⟨adK, adV, hS, hev⟩ := vk_Sof (args := args) (s := s) (N := 9) (tm := stm) (len := sLn) (byt := sBy) (A := fun q : Nat => s.heap.size ≤ q) (by decide) (fun i hi => hs _ (str_1 i hi).1) (fun i hi => hs _ (str_1 i hi).2.1) (fun i hi => hs _ (str_1 i hi).2.2.1) (fun i hi => hs _ (str_1 i hi).2.2.2) (fun i hi j hj => hs _ (str_2 i hi j hj)) (fun i j hi hj hn => (str_3 i hi j hj hn).imp (hs _) (hs _)) hA
  obtain ⟨ea, e0, e1, e2, e3, eK, eV⟩ : ∃ ea : Nat → Nat, ea 0 = b ∧ ea 1 = t1 ∧ ea 2 = t2 ∧ ea 3 = t3 ∧ (∀ i, i < 9 → ea (10 + i) = adK i) ∧ ∀ i, ea (30 + i) = adV i := by
    refine ⟨fun k => if k = 0 then b else if k = 1 then t1 else if k = 2 then t2 else if k = 3 then t3 else if k < 30 then adK (k - 10) else adV (k - 30), rfl, rfl, rfl, rfl, fun i hi => ?_, fun i => ?_⟩
    · show (if 10 + i = 0 then b else if 10 + i = 1 then t1 else if 10 + i = 2 then t2 else if 10 + i = 3 then t3 else if 10 + i < 30 then adK (10 + i - 10) else adV (10 + i - 30)) = adK i
      rw [if_neg (by omega), if_neg (by omega), if_neg (by omega), if_neg (by omega), if_pos (by omega), Nat.add_sub_cancel_left]
    · show (if 30 + i = 0 then b else if 30 + i = 1 then t1 else if 30 + i = 2 then t2 else if 30 + i = 3 then t3 else if 30 + i < 30 then adK (30 + i - 10) else adV (30 + i - 30)) = adV i
      rw [if_neg (by omega), if_neg (by omega), if_neg (by omega), if_neg (by omega), if_neg (by omega), Nat.add_sub_cancel_left]
  subst e1
  subst e2
  subst e3
  refine ⟨ea, e0, h1, h2, h3, st_N hts, ⟨⟨fun i hi => ?_, fun i j hi hj e => ?_⟩, fun i hi => ?_, ?_, ?_⟩, ?_, ?_, ?_, ?_, ?_, ?_⟩
  · have q := hS.1 i hi
    rw [← eK i hi, ← eV i] at q
    exact q
  · refine hS.2 i j hi hj ?_
    have e : ea (10 + i) = ea (10 + j) := e
    rw [eK i hi, eK j hj] at e
    exact e
  · have q := hev i hi
    rw [← eK i hi] at q
    exact vk_R.of (hts _ (str_4 i hi)) q
  · exact va_Zof (hts (.laysStatic "java/lang/String" "COMPACT_STRINGS" "Z") (by decide +kernel)) (hts (.initialized "java/lang/String") (by decide +kernel)) (va_eqi (hs (.eq (.static "java/lang/String" "COMPACT_STRINGS" "Z") (.int 1)) (by decide +kernel))) hA
  · exact va_Zqof (hts (.laysStatic "jdk/internal/util/Preconditions" "SIOOBE_FORMATTER" "Ljava/util/function/BiFunction;") (by decide +kernel)) (hts (.initialized "jdk/internal/util/Preconditions") (by decide +kernel)) (hs (.isRef (.static "jdk/internal/util/Preconditions" "SIOOBE_FORMATTER" "Ljava/util/function/BiFunction;")) (by decide +kernel)) hA
  · exact st_vkR (hts _ str_5.1) (hs _ str_5.2.2.1)
  · exact st_vkR (hts _ str_5.2.1) (hs _ str_5.2.2.2)
  · exact vx_Zqof (hts (.laysStatic Bundle.tN "UNASSIGNED_STACK" Bundle.steD) (by decide +kernel)) (hts (.initialized Bundle.tN) (by decide +kernel)) (hs (.isRef (.static Bundle.tN "UNASSIGNED_STACK" Bundle.steD)) (by decide +kernel)) hA
  · exact vx_Zqof (hts (.laysStatic Bundle.tN "SUPPRESSED_SENTINEL" Bundle.listD) (by decide +kernel)) (hts (.initialized Bundle.tN) (by decide +kernel)) (hs (.isRef (.static Bundle.tN "SUPPRESSED_SENTINEL" Bundle.listD)) (by decide +kernel)) hA
  · exact va_AO.of (hts (.arrayOver (.object "WicketBoard$Umpire")) (by decide +kernel))
  · exact va_AO.of (hts (.arrayOver (.object "WicketBoard$Game")) (by decide +kernel))
