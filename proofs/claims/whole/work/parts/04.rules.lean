section GR
variable {l : Launch} {μ : MU} {Φ : Option AV → AS → VV → Prop} {c0 s0 : Nat} {S : AS} {pc : Nat} {ls : LL} {st : List AV} {v : VV}
theorem Sx.stk {s : State} {D : va_G} {T : Nat → ClassId} {ea : Nat → Nat} {A : Nat → Prop} {ad0 : Nat → Nat} {n0 : Nat} {H : Heap} {locs : List Loc} {ad : Nat → Nat} {lsC : Array Slot} {st2 : List AV} (h : Sx μ s D T ea A ad0 n0 S ls st v H locs ad lsC) (h2 : RAs S.1 st → RAs S.1 st2) : Sx μ s D T ea A ad0 n0 S ls st2 v H locs ad lsC := ⟨h.1, h.2.1, h.2.2.1, h2 h.2.2.2.1, h.2.2.2.2⟩
theorem Sx.top {s : State} {D : va_G} {T : Nat → ClassId} {ea : Nat → Nat} {A : Nat → Prop} {ad0 : Nat → Nat} {n0 : Nat} {H : Heap} {locs : List Loc} {ad : Nat → Nat} {lsC : Array Slot} {a : AV} (h : Sx μ s D T ea A ad0 n0 S ls (a :: st) v H locs ad lsC) : RA S.1 a := (RAs_cons.mp h.2.2.2.1).1
theorem Sx.two {s : State} {D : va_G} {T : Nat → ClassId} {ea : Nat → Nat} {A : Nat → Prop} {ad0 : Nat → Nat} {n0 : Nat} {H : Heap} {locs : List Loc} {ad : Nat → Nat} {lsC : Array Slot} {a b : AV} (h : Sx μ s D T ea A ad0 n0 S ls (a :: b :: st) v H locs ad lsC) : RA S.1 b := (RAs_cons.mp (RAs_cons.mp h.2.2.2.1).2).1
theorem Sx.three {s : State} {D : va_G} {T : Nat → ClassId} {ea : Nat → Nat} {A : Nat → Prop} {ad0 : Nat → Nat} {n0 : Nat} {H : Heap} {locs : List Loc} {ad : Nat → Nat} {lsC : Array Slot} {a b c : AV} (h : Sx μ s D T ea A ad0 n0 S ls (a :: b :: c :: st) v H locs ad lsC) : RA S.1 c := (RAs_cons.mp (RAs_cons.mp (RAs_cons.mp h.2.2.2.1).2).2).1
theorem Sx.lr {s : State} {D : va_G} {T : Nat → ClassId} {ea : Nat → Nat} {A : Nat → Prop} {ad0 : Nat → Nat} {n0 : Nat} {H : Heap} {locs : List Loc} {ad : Nat → Nat} {lsC : Array Slot} (h : Sx μ s D T ea A ad0 n0 S ls st v H locs ad lsC) : LR ad ea μ.2.2.2.1 lsC ls := h.2.2.2.2.2.2.2.2
theorem Sx.vr {s : State} {D : va_G} {T : Nat → ClassId} {ea : Nat → Nat} {A : Nat → Prop} {ad0 : Nat → Nat} {n0 : Nat} {H : Heap} {locs : List Loc} {ad : Nat → Nat} {lsC : Array Slot} (h : Sx μ s D T ea A ad0 n0 S ls st v H locs ad lsC) : RV S v := h.2.2.1
/-- facts that any state of the method has -/
theorem G_fact (k : WR S → RV S v → RAs S.1 st → RAl S.1 ls → G l μ Φ c0 s0 S pc ls st v) : G l μ Φ c0 s0 S pc ls st v := by
  intro p en s m args below meth c H locs D T ea A ad ad0 n0 lsC hC hS
  exact k hS.2.1 hS.2.2.1 hS.2.2.2.1 hS.2.2.2.2.1 p en s m args below meth c H locs D T ea A ad ad0 n0 lsC hC hS
theorem G_iconst {n : Int} (hd : decode μ.2.1 pc = .ok (.iconst n, 1)) (hr : iR n) (k : G l μ Φ c0 s0 S (pc+1) ls (ai n :: st) v) : G l μ Φ c0 s0 S (pc) ls (st) v := by
  intro p en s m args below meth c H locs D T ea A ad ad0 n0 lsC hC hS
  exact lv_iconst hC.1 hC.2.1 hd rfl (k p en s m args below meth c _ _ D T ea A _ ad0 n0 _ hC (hS.stk fun h => RAs_cons.mpr ⟨hr, h⟩))
theorem G_bipush {n : Int} (hd : decode μ.2.1 pc = .ok (.bipush n, 2)) (hv : (Int8.ofInt n).toInt32 = Int32.ofInt n) (hr : iR n) (k : G l μ Φ c0 s0 S (pc+2) ls (ai n :: st) v) : G l μ Φ c0 s0 S (pc) ls (st) v := by
  intro p en s m args below meth c H locs D T ea A ad ad0 n0 lsC hC hS
  exact lv_bipush hC.1 hC.2.1 hd hv (k p en s m args below meth c _ _ D T ea A _ ad0 n0 _ hC (hS.stk fun h => RAs_cons.mpr ⟨hr, h⟩))
theorem G_sipush {n : Int} (hd : decode μ.2.1 pc = .ok (.sipush n, 3)) (hv : (Int16.ofInt n).toInt32 = Int32.ofInt n) (hr : iR n) (k : G l μ Φ c0 s0 S (pc+3) ls (ai n :: st) v) : G l μ Φ c0 s0 S (pc) ls (st) v := by
  intro p en s m args below meth c H locs D T ea A ad ad0 n0 lsC hC hS
  exact lv_sipush hC.1 hC.2.1 hd hv (k p en s m args below meth c _ _ D T ea A _ ad0 n0 _ hC (hS.stk fun h => RAs_cons.mpr ⟨hr, h⟩))
theorem G_ldc {i : Nat} {n : Int} (hd : decode μ.2.1 pc = .ok (.ldc i, 2)) (hw : Cond.constant μ.1.cls i (Int32.ofInt n) ∈ lw_good) (hr : iR n) (k : G l μ Φ c0 s0 S (pc+2) ls (ai n :: st) v) : G l μ Φ c0 s0 S (pc) ls (st) v := by
  intro p en s m args below meth c H locs D T ea A ad ad0 n0 lsC hC hS
  exact lv_ldc hC.1 hC.2.1 hC.2.2.2.2.2.2.1 (hC.2.2.2.2.2.2.2.1 _ hw) hd (k p en s m args below meth c _ _ D T ea A _ ad0 n0 _ hC (hS.stk fun h => RAs_cons.mpr ⟨hr, h⟩))
theorem G_ldcw {i : Nat} {n : Int} (hd : decode μ.2.1 pc = .ok (.ldc_w i, 3)) (hw : Cond.constant μ.1.cls i (Int32.ofInt n) ∈ lw_good) (hr : iR n) (k : G l μ Φ c0 s0 S (pc+3) ls (ai n :: st) v) : G l μ Φ c0 s0 S (pc) ls (st) v := by
  intro p en s m args below meth c H locs D T ea A ad ad0 n0 lsC hC hS
  exact lv_ldcw hC.1 hC.2.1 hC.2.2.2.2.2.2.1 (hC.2.2.2.2.2.2.2.1 _ hw) hd (k p en s m args below meth c _ _ D T ea A _ ad0 n0 _ hC (hS.stk fun h => RAs_cons.mpr ⟨hr, h⟩))
theorem G_ldc2 {i : Nat} {n : Int} (hd : decode μ.2.1 pc = .ok (.ldc2_w i, 3)) (hw : Cond.constantLong μ.1.cls i (Int64.ofInt n) ∈ lw_good) (hr : lR n) (k : G l μ Φ c0 s0 S (pc+3) ls (al n :: st) v) : G l μ Φ c0 s0 S (pc) ls (st) v := by
  intro p en s m args below meth c H locs D T ea A ad ad0 n0 lsC hC hS
  exact lv_ldc2 hC.1 hC.2.1 hC.2.2.2.2.2.2.1 (hC.2.2.2.2.2.2.2.1 _ hw) hd (k p en s m args below meth c _ _ D T ea A _ ad0 n0 _ hC (hS.stk fun h => RAs_cons.mpr ⟨hr, h⟩))
theorem G_lconst0 (hd : decode μ.2.1 pc = .ok (.lconst 0, 1)) (k : G l μ Φ c0 s0 S (pc+1) ls (al 0 :: st) v) : G l μ Φ c0 s0 S (pc) ls (st) v := by
  intro p en s m args below meth c H locs D T ea A ad ad0 n0 lsC hC hS
  exact lv_lconst hC.1 hC.2.1 hd (by rfl) (k p en s m args below meth c _ _ D T ea A _ ad0 n0 _ hC (hS.stk fun h => RAs_cons.mpr ⟨⟨by decide, by decide⟩, h⟩))
theorem G_null (hd : decode μ.2.1 pc = .ok (.aconst_null, 1)) (k : G l μ Φ c0 s0 S (pc+1) ls (ar none :: st) v) : G l μ Φ c0 s0 S (pc) ls (st) v := by
  intro p en s m args below meth c H locs D T ea A ad ad0 n0 lsC hC hS
  exact lv_null hC.1 hC.2.1 hd (k p en s m args below meth c _ _ D T ea A _ ad0 n0 _ hC (hS.stk fun h => RAs_cons.mpr ⟨trivial, h⟩))
theorem G_iload_n {i : Fin 4} {x : Int} (hd : decode μ.2.1 pc = .ok (.iload_n i, 1)) (hl : ls[i.1]? = some (some (ai x))) (k : G l μ Φ c0 s0 S (pc+1) ls (ai x :: st) v) : G l μ Φ c0 s0 S (pc) ls (st) v := by
  intro p en s m args below meth c H locs D T ea A ad ad0 n0 lsC hC hS
  exact lv_iload_n hC.1 hC.2.1 hd rfl (hS.lr.2.2 _ _ hl) (k p en s m args below meth c _ _ D T ea A _ ad0 n0 _ hC (hS.stk fun h => RAs_cons.mpr ⟨hS.2.2.2.2.1 _ _ hl, h⟩))
theorem G_iload {i : Nat} {x : Int} (hd : decode μ.2.1 pc = .ok (.iload i, 2)) (hl : ls[i]? = some (some (ai x))) (k : G l μ Φ c0 s0 S (pc+2) ls (ai x :: st) v) : G l μ Φ c0 s0 S (pc) ls (st) v := by
  intro p en s m args below meth c H locs D T ea A ad ad0 n0 lsC hC hS
  exact lv_iload hC.1 hC.2.1 hd (hS.lr.2.2 _ _ hl) (k p en s m args below meth c _ _ D T ea A _ ad0 n0 _ hC (hS.stk fun h => RAs_cons.mpr ⟨hS.2.2.2.2.1 _ _ hl, h⟩))
theorem G_lload_n {i : Fin 4} {x : Int} (hd : decode μ.2.1 pc = .ok (.lload_n i, 1)) (hl : ls[i.1]? = some (some (al x))) (k : G l μ Φ c0 s0 S (pc+1) ls (al x :: st) v) : G l μ Φ c0 s0 S (pc) ls (st) v := by
  intro p en s m args below meth c H locs D T ea A ad ad0 n0 lsC hC hS
  exact lv_lload_n hC.1 hC.2.1 hd rfl (hS.lr.2.2 _ _ hl) (k p en s m args below meth c _ _ D T ea A _ ad0 n0 _ hC (hS.stk fun h => RAs_cons.mpr ⟨hS.2.2.2.2.1 _ _ hl, h⟩))
theorem G_lload {i : Nat} {x : Int} (hd : decode μ.2.1 pc = .ok (.lload i, 2)) (hl : ls[i]? = some (some (al x))) (k : G l μ Φ c0 s0 S (pc+2) ls (al x :: st) v) : G l μ Φ c0 s0 S (pc) ls (st) v := by
  intro p en s m args below meth c H locs D T ea A ad ad0 n0 lsC hC hS
  exact lv_lload hC.1 hC.2.1 hd (hS.lr.2.2 _ _ hl) (k p en s m args below meth c _ _ D T ea A _ ad0 n0 _ hC (hS.stk fun h => RAs_cons.mpr ⟨hS.2.2.2.2.1 _ _ hl, h⟩))
theorem G_aload_n {i : Fin 4} {r : Option Nat} (hd : decode μ.2.1 pc = .ok (.aload_n i, 1)) (hl : ls[i.1]? = some (some (ar r))) (k : G l μ Φ c0 s0 S (pc+1) ls (ar r :: st) v) : G l μ Φ c0 s0 S (pc) ls (st) v := by
  intro p en s m args below meth c H locs D T ea A ad ad0 n0 lsC hC hS
  have k2 := k p en s m args below meth c _ _ D T ea A _ ad0 n0 _ hC (hS.stk fun h => RAs_cons.mpr ⟨hS.2.2.2.2.1 _ _ hl, h⟩)
  cases r with
  | none => exact lv_aload_nN hC.1 hC.2.1 hd rfl (hS.lr.2.2 _ _ hl) k2
  | some x => exact lv_aload_n hC.1 hC.2.1 hd rfl (hS.lr.2.2 _ _ hl) k2
theorem G_aload {i : Nat} {r : Option Nat} (hd : decode μ.2.1 pc = .ok (.aload i, 2)) (hl : ls[i]? = some (some (ar r))) (k : G l μ Φ c0 s0 S (pc+2) ls (ar r :: st) v) : G l μ Φ c0 s0 S (pc) ls (st) v := by
  intro p en s m args below meth c H locs D T ea A ad ad0 n0 lsC hC hS
  have k2 := k p en s m args below meth c _ _ D T ea A _ ad0 n0 _ hC (hS.stk fun h => RAs_cons.mpr ⟨hS.2.2.2.2.1 _ _ hl, h⟩)
  cases r with
  | none => exact lv_aloadN hC.1 hC.2.1 hd (hS.lr.2.2 _ _ hl) k2
  | some x => exact lv_aload hC.1 hC.2.1 hd (hS.lr.2.2 _ _ hl) k2
theorem G_aload_nX {i : Fin 4} {x : Nat} (hd : decode μ.2.1 pc = .ok (.aload_n i, 1)) (hl : ls[i.1]? = some (some (ax x))) (k : G l μ Φ c0 s0 S (pc+1) ls (ax x :: st) v) : G l μ Φ c0 s0 S (pc) ls (st) v := by
  intro p en s m args below meth c H locs D T ea A ad ad0 n0 lsC hC hS
  exact lv_aload_n hC.1 hC.2.1 hd rfl (hS.lr.2.2 _ _ hl) (k p en s m args below meth c _ _ D T ea A _ ad0 n0 _ hC (hS.stk fun h => RAs_cons.mpr ⟨hS.2.2.2.2.1 _ _ hl, h⟩))
theorem G_aloadX {i : Nat} {x : Nat} (hd : decode μ.2.1 pc = .ok (.aload i, 2)) (hl : ls[i]? = some (some (ax x))) (k : G l μ Φ c0 s0 S (pc+2) ls (ax x :: st) v) : G l μ Φ c0 s0 S (pc) ls (st) v := by
  intro p en s m args below meth c H locs D T ea A ad ad0 n0 lsC hC hS
  exact lv_aload hC.1 hC.2.1 hd (hS.lr.2.2 _ _ hl) (k p en s m args below meth c _ _ D T ea A _ ad0 n0 _ hC (hS.stk fun h => RAs_cons.mpr ⟨hS.2.2.2.2.1 _ _ hl, h⟩))
theorem G_iadd {x y : Int} (hd : decode μ.2.1 pc = .ok (.iadd, 1)) (hr : iR (x + y)) (k : G l μ Φ c0 s0 S (pc+1) ls (ai (x + y) :: st) v) : G l μ Φ c0 s0 S (pc) ls (ai y :: ai x :: st) v := by
  intro p en s m args below meth c H locs D T ea A ad ad0 n0 lsC hC hS
  refine lv_iadd hC.1 hC.2.1 hd ?_
  rw [← Int32.ofInt_add]
  exact k p en s m args below meth c _ _ D T ea A _ ad0 n0 _ hC (hS.stk fun h => RAs_cons.mpr ⟨hr, (RAs_cons.mp (RAs_cons.mp h).2).2⟩)
theorem G_isub {x y : Int} (hd : decode μ.2.1 pc = .ok (.isub, 1)) (hr : iR (x - y)) (k : G l μ Φ c0 s0 S (pc+1) ls (ai (x - y) :: st) v) : G l μ Φ c0 s0 S (pc) ls (ai y :: ai x :: st) v := by
  intro p en s m args below meth c H locs D T ea A ad ad0 n0 lsC hC hS
  refine lv_isub hC.1 hC.2.1 hd ?_
  rw [← Int32.ofInt_sub]
  exact k p en s m args below meth c _ _ D T ea A _ ad0 n0 _ hC (hS.stk fun h => RAs_cons.mpr ⟨hr, (RAs_cons.mp (RAs_cons.mp h).2).2⟩)
theorem G_imul {x y : Int} (hd : decode μ.2.1 pc = .ok (.imul, 1)) (hr : iR (x * y)) (k : G l μ Φ c0 s0 S (pc+1) ls (ai (x * y) :: st) v) : G l μ Φ c0 s0 S (pc) ls (ai y :: ai x :: st) v := by
  intro p en s m args below meth c H locs D T ea A ad ad0 n0 lsC hC hS
  refine lv_imul hC.1 hC.2.1 hd ?_
  rw [← Int32.ofInt_mul]
  exact k p en s m args below meth c _ _ D T ea A _ ad0 n0 _ hC (hS.stk fun h => RAs_cons.mpr ⟨hr, (RAs_cons.mp (RAs_cons.mp h).2).2⟩)
theorem G_ladd {x y : Int} (hd : decode μ.2.1 pc = .ok (.ladd, 1)) (hr : lR (x + y)) (k : G l μ Φ c0 s0 S (pc+1) ls (al (x + y) :: st) v) : G l μ Φ c0 s0 S (pc) ls (al y :: al x :: st) v := by
  intro p en s m args below meth c H locs D T ea A ad ad0 n0 lsC hC hS
  refine lv_ladd hC.1 hC.2.1 hd ?_
  rw [← Int64.ofInt_add]
  exact k p en s m args below meth c _ _ D T ea A _ ad0 n0 _ hC (hS.stk fun h => RAs_cons.mpr ⟨hr, (RAs_cons.mp (RAs_cons.mp h).2).2⟩)
theorem G_lsub {x y : Int} (hd : decode μ.2.1 pc = .ok (.lsub, 1)) (hr : lR (x - y)) (k : G l μ Φ c0 s0 S (pc+1) ls (al (x - y) :: st) v) : G l μ Φ c0 s0 S (pc) ls (al y :: al x :: st) v := by
  intro p en s m args below meth c H locs D T ea A ad ad0 n0 lsC hC hS
  refine lv_lsub hC.1 hC.2.1 hd ?_
  rw [← Int64.ofInt_sub]
  exact k p en s m args below meth c _ _ D T ea A _ ad0 n0 _ hC (hS.stk fun h => RAs_cons.mpr ⟨hr, (RAs_cons.mp (RAs_cons.mp h).2).2⟩)
theorem G_lmul {x y : Int} (hd : decode μ.2.1 pc = .ok (.lmul, 1)) (hr : lR (x * y)) (k : G l μ Φ c0 s0 S (pc+1) ls (al (x * y) :: st) v) : G l μ Φ c0 s0 S (pc) ls (al y :: al x :: st) v := by
  intro p en s m args below meth c H locs D T ea A ad ad0 n0 lsC hC hS
  refine lv_lmul hC.1 hC.2.1 hd ?_
  rw [← Int64.ofInt_mul]
  exact k p en s m args below meth c _ _ D T ea A _ ad0 n0 _ hC (hS.stk fun h => RAs_cons.mpr ⟨hr, (RAs_cons.mp (RAs_cons.mp h).2).2⟩)
theorem G_iand {x y : Int} (z : Int) (hd : decode μ.2.1 pc = .ok (.iand, 1)) (hz : (Int32.ofInt x &&& Int32.ofInt y).toInt = z) (k : G l μ Φ c0 s0 S (pc+1) ls (ai z :: st) v) : G l μ Φ c0 s0 S (pc) ls (ai y :: ai x :: st) v := by
  intro p en s m args below meth c H locs D T ea A ad ad0 n0 lsC hC hS
  subst hz
  refine lv_iand hC.1 hC.2.1 hd ?_
  have k2 := k p en s m args below meth c _ _ D T ea A _ ad0 n0 _ hC (hS.stk fun h => RAs_cons.mpr ⟨iR_of _, (RAs_cons.mp (RAs_cons.mp h).2).2⟩)
  rwa [List.map_cons, show tr ad ea (ai (Int32.ofInt x &&& Int32.ofInt y).toInt) = .int (Int32.ofInt x &&& Int32.ofInt y) from congrArg Value.int (Int32.ofInt_toInt _)] at k2
theorem G_ior {x y : Int} (z : Int) (hd : decode μ.2.1 pc = .ok (.ior, 1)) (hz : (Int32.ofInt x ||| Int32.ofInt y).toInt = z) (k : G l μ Φ c0 s0 S (pc+1) ls (ai z :: st) v) : G l μ Φ c0 s0 S (pc) ls (ai y :: ai x :: st) v := by
  intro p en s m args below meth c H locs D T ea A ad ad0 n0 lsC hC hS
  subst hz
  refine lv_ior hC.1 hC.2.1 hd ?_
  have k2 := k p en s m args below meth c _ _ D T ea A _ ad0 n0 _ hC (hS.stk fun h => RAs_cons.mpr ⟨iR_of _, (RAs_cons.mp (RAs_cons.mp h).2).2⟩)
  rwa [List.map_cons, show tr ad ea (ai (Int32.ofInt x ||| Int32.ofInt y).toInt) = .int (Int32.ofInt x ||| Int32.ofInt y) from congrArg Value.int (Int32.ofInt_toInt _)] at k2
theorem G_ishl {x y : Int} (z : Int) (hd : decode μ.2.1 pc = .ok (.ishl, 1)) (hz : (Int32.ofInt x <<< (Int32.ofInt y &&& 31)).toInt = z) (k : G l μ Φ c0 s0 S (pc+1) ls (ai z :: st) v) : G l μ Φ c0 s0 S (pc) ls (ai y :: ai x :: st) v := by
  intro p en s m args below meth c H locs D T ea A ad ad0 n0 lsC hC hS
  subst hz
  refine lv_ishl hC.1 hC.2.1 hd ?_
  have k2 := k p en s m args below meth c _ _ D T ea A _ ad0 n0 _ hC (hS.stk fun h => RAs_cons.mpr ⟨iR_of _, (RAs_cons.mp (RAs_cons.mp h).2).2⟩)
  rwa [List.map_cons, show tr ad ea (ai (Int32.ofInt x <<< (Int32.ofInt y &&& 31)).toInt) = .int (Int32.ofInt x <<< (Int32.ofInt y &&& 31)) from congrArg Value.int (Int32.ofInt_toInt _)] at k2
theorem G_ishr {x y : Int} (z : Int) (hd : decode μ.2.1 pc = .ok (.ishr, 1)) (hz : (Int32.ofInt x >>> (Int32.ofInt y &&& 31)).toInt = z) (k : G l μ Φ c0 s0 S (pc+1) ls (ai z :: st) v) : G l μ Φ c0 s0 S (pc) ls (ai y :: ai x :: st) v := by
  intro p en s m args below meth c H locs D T ea A ad ad0 n0 lsC hC hS
  subst hz
  refine lv_ishr hC.1 hC.2.1 hd ?_
  have k2 := k p en s m args below meth c _ _ D T ea A _ ad0 n0 _ hC (hS.stk fun h => RAs_cons.mpr ⟨iR_of _, (RAs_cons.mp (RAs_cons.mp h).2).2⟩)
  rwa [List.map_cons, show tr ad ea (ai (Int32.ofInt x >>> (Int32.ofInt y &&& 31)).toInt) = .int (Int32.ofInt x >>> (Int32.ofInt y &&& 31)) from congrArg Value.int (Int32.ofInt_toInt _)] at k2
theorem G_iushr {x y : Int} (z : Int) (hd : decode μ.2.1 pc = .ok (.iushr, 1)) (hz : ((Int32.ofInt x).toUInt32 >>> ((Int32.ofInt y).toUInt32 &&& Int32.toUInt32 31)).toInt32.toInt = z) (k : G l μ Φ c0 s0 S (pc+1) ls (ai z :: st) v) : G l μ Φ c0 s0 S (pc) ls (ai y :: ai x :: st) v := by
  intro p en s m args below meth c H locs D T ea A ad ad0 n0 lsC hC hS
  subst hz
  refine lv_iushr hC.1 hC.2.1 hd rfl ?_
  have k2 := k p en s m args below meth c _ _ D T ea A _ ad0 n0 _ hC (hS.stk fun h => RAs_cons.mpr ⟨iR_of _, (RAs_cons.mp (RAs_cons.mp h).2).2⟩)
  rwa [List.map_cons, show tr ad ea (ai ((Int32.ofInt x).toUInt32 >>> ((Int32.ofInt y).toUInt32 &&& Int32.toUInt32 31)).toInt32.toInt) = .int ((Int32.ofInt x).toUInt32 >>> ((Int32.ofInt y).toUInt32 &&& Int32.toUInt32 31)).toInt32 from congrArg Value.int (Int32.ofInt_toInt _)] at k2
theorem G_i2b {x : Int} (z : Int) (hd : decode μ.2.1 pc = .ok (.i2b, 1)) (hz : (Int32.ofInt x).toInt8.toInt32.toInt = z) (k : G l μ Φ c0 s0 S (pc+1) ls (ai z :: st) v) : G l μ Φ c0 s0 S (pc) ls (ai x :: st) v := by
  intro p en s m args below meth c H locs D T ea A ad ad0 n0 lsC hC hS
  subst hz
  refine lv_i2b hC.1 hC.2.1 hd rfl ?_
  have k2 := k p en s m args below meth c _ _ D T ea A _ ad0 n0 _ hC (hS.stk fun h => RAs_cons.mpr ⟨iR_of _, (RAs_cons.mp h).2⟩)
  rwa [List.map_cons, show tr ad ea (ai (Int32.ofInt x).toInt8.toInt32.toInt) = .int (Int32.ofInt x).toInt8.toInt32 from congrArg Value.int (Int32.ofInt_toInt _)] at k2
theorem G_i2l {x : Int} (hd : decode μ.2.1 pc = .ok (.i2l, 1)) (k : G l μ Φ c0 s0 S (pc+1) ls (al x :: st) v) : G l μ Φ c0 s0 S (pc) ls (ai x :: st) v := by
  intro p en s m args below meth c H locs D T ea A ad ad0 n0 lsC hC hS
  have hx : iR x := hS.top
  have hx2 : lR x := ⟨by have := hx.1; omega, by have := hx.2; omega⟩
  refine lv_i2l hC.1 hC.2.1 hd (v := Int64.ofInt x) ?_ (k p en s m args below meth c _ _ D T ea A _ ad0 n0 _ hC (hS.stk fun h => RAs_cons.mpr ⟨hx2, (RAs_cons.mp h).2⟩))
  rw [← Int64.toInt_inj, lR_toInt hx2, Int32.toInt_toInt64, iR_toInt hx]
theorem G_lcmp {x y : Int} (hd : decode μ.2.1 pc = .ok (.lcmp, 1)) (k : G l μ Φ c0 s0 S (pc+1) ls (ai (if x < y then -1 else if x = y then 0 else 1) :: st) v) : G l μ Φ c0 s0 S (pc) ls (al y :: al x :: st) v := by
  intro p en s m args below meth c H locs D T ea A ad ad0 n0 lsC hC hS
  have hy : lR y := hS.top
  have hx : lR x := hS.two
  have hc : iR (if x < y then -1 else if x = y then 0 else 1) := by unfold iR; split <;> (try split) <;> omega
  refine W.lcmp hC.1 hC.2.1 hd ?_
  have k2 := k p en s m args below meth c _ _ D T ea A _ ad0 n0 _ hC (hS.stk fun h => RAs_cons.mpr ⟨hc, (RAs_cons.mp (RAs_cons.mp h).2).2⟩)
  have e : lg_cmp (Int64.ofInt x) (Int64.ofInt y) = Int32.ofInt (if x < y then -1 else if x = y then 0 else 1) := by
    unfold lg_cmp
    have a := lR_lt hy hx
    have b := lR_eq hx hy
    rcases Int.lt_trichotomy x y with h1 | h1 | h1
    · have n1 : ¬ y < x := by omega
      have n2 : ¬ x = y := by omega
      simp [a, b, h1, n1, n2]
    · subst h1
      simp [a]
    · have n1 : ¬ x < y := by omega
      have n2 : ¬ x = y := by omega
      simp [a, h1, n1, n2]
  rw [e]
  exact k2
theorem G_idiv {x y : Int} (hd : decode μ.2.1 pc = .ok (.idiv, 1)) (hx : 0 ≤ x) (hy : 0 < y) (k : G l μ Φ c0 s0 S (pc+1) ls (ai (x / y) :: st) v) : G l μ Φ c0 s0 S (pc) ls (ai y :: ai x :: st) v := by
  intro p en s m args below meth c H locs D T ea A ad ad0 n0 lsC hC hS
  have hyR : iR y := hS.top
  have hxR : iR x := hS.two
  have hq : 0 ≤ x / y := Int.ediv_nonneg hx (by omega)
  have hq2 : x / y ≤ x := Int.ediv_le_self y hx
  have hqR : iR (x / y) := ⟨by omega, by have := hxR.2; omega⟩
  refine lv_idiv hC.1 hC.2.1 hd (fun h => ?_) ?_
  · have := (iR_eq hyR iR_0).mp h
    omega
  have e : Int32.ofInt x / Int32.ofInt y = Int32.ofInt (x / y) := by
    rw [← Int32.toInt_inj, iR_toInt hqR, Int32.toInt_div_of_ne_right _ _ (fun h => by have := (iR_eq hyR (y := -1) ⟨by decide, by decide⟩).mp (h.trans (by decide)); omega), iR_toInt hxR, iR_toInt hyR, Int.tdiv_eq_ediv_of_nonneg hx]
  rw [e]
  exact k p en s m args below meth c _ _ D T ea A _ ad0 n0 _ hC (hS.stk fun h => RAs_cons.mpr ⟨hqR, (RAs_cons.mp (RAs_cons.mp h).2).2⟩)
theorem G_irem {x y : Int} (hd : decode μ.2.1 pc = .ok (.irem, 1)) (hx : 0 ≤ x) (hy : 0 < y) (k : G l μ Φ c0 s0 S (pc+1) ls (ai (x % y) :: st) v) : G l μ Φ c0 s0 S (pc) ls (ai y :: ai x :: st) v := by
  intro p en s m args below meth c H locs D T ea A ad ad0 n0 lsC hC hS
  have hyR : iR y := hS.top
  have hxR : iR x := hS.two
  have hq : 0 ≤ x % y := Int.emod_nonneg x (by omega)
  have hq2 : x % y < y := Int.emod_lt_of_pos x hy
  have hqR : iR (x % y) := ⟨by omega, by have := hyR.2; omega⟩
  refine lv_irem hC.1 hC.2.1 hd (fun h => ?_) ?_
  · have := (iR_eq hyR iR_0).mp h
    omega
  have e : Int32.ofInt x - Int32.ofInt x / Int32.ofInt y * Int32.ofInt y = Int32.ofInt (x % y) := by
    rw [← Int32.toInt_inj, iR_toInt hqR, rem_toInt, iR_toInt hxR, iR_toInt hyR, Int.tmod_eq_emod_of_nonneg hx]
  rw [e]
  exact k p en s m args below meth c _ _ D T ea A _ ad0 n0 _ hC (hS.stk fun h => RAs_cons.mpr ⟨hqR, (RAs_cons.mp (RAs_cons.mp h).2).2⟩)
theorem G_dup_i {x : Int} (hd : decode μ.2.1 pc = .ok (.dup, 1)) (k : G l μ Φ c0 s0 S (pc+1) ls (ai x :: ai x :: st) v) : G l μ Φ c0 s0 S (pc) ls (ai x :: st) v := by
  intro p en s m args below meth c H locs D T ea A ad ad0 n0 lsC hC hS
  exact lv_dup hC.1 hC.2.1 hd rfl (k p en s m args below meth c _ _ D T ea A _ ad0 n0 _ hC (hS.stk fun h => RAs_cons.mpr ⟨hS.top, h⟩))
theorem G_dup_a {r : Option Nat} (hd : decode μ.2.1 pc = .ok (.dup, 1)) (k : G l μ Φ c0 s0 S (pc+1) ls (ar r :: ar r :: st) v) : G l μ Φ c0 s0 S (pc) ls (ar r :: st) v := by
  intro p en s m args below meth c H locs D T ea A ad ad0 n0 lsC hC hS
  exact lv_dup hC.1 hC.2.1 hd (by cases r <;> rfl) (k p en s m args below meth c _ _ D T ea A _ ad0 n0 _ hC (hS.stk fun h => RAs_cons.mpr ⟨hS.top, h⟩))
theorem G_dup2 {x : Int} {r : Option Nat} (hd : decode μ.2.1 pc = .ok (.dup2, 1)) (k : G l μ Φ c0 s0 S (pc+1) ls (ai x :: ar r :: ai x :: ar r :: st) v) : G l μ Φ c0 s0 S (pc) ls (ai x :: ar r :: st) v := by
  intro p en s m args below meth c H locs D T ea A ad ad0 n0 lsC hC hS
  exact lv_dup2_11 hC.1 hC.2.1 hd rfl (by cases r <;> rfl) (k p en s m args below meth c _ _ D T ea A _ ad0 n0 _ hC (hS.stk fun h => RAs_cons.mpr ⟨hS.top, RAs_cons.mpr ⟨hS.two, h⟩⟩))
theorem G_pop_i {x : Int} (hd : decode μ.2.1 pc = .ok (.pop, 1)) (k : G l μ Φ c0 s0 S (pc+1) ls (st) v) : G l μ Φ c0 s0 S (pc) ls (ai x :: st) v := by
  intro p en s m args below meth c H locs D T ea A ad ad0 n0 lsC hC hS
  exact lv_pop hC.1 hC.2.1 hd rfl (k p en s m args below meth c _ _ D T ea A _ ad0 n0 _ hC (hS.stk fun h => (RAs_cons.mp h).2))
theorem G_goto {off : Int} (tgt : Nat) (hd : decode μ.2.1 pc = .ok (.goto off, 3)) (ht : (pc : Int) + off = (tgt : Int)) (k : G l μ Φ c0 s0 S (tgt) ls (st) v) : G l μ Φ c0 s0 S (pc) ls (st) v := by
  intro p en s m args below meth c H locs D T ea A ad ad0 n0 lsC hC hS
  exact lv_goto hC.1 hC.2.1 hd ht (k p en s m args below meth c _ _ D T ea A _ ad0 n0 _ hC hS)
theorem G_icmp_eq {x y off : Int} (tgt : Nat) (hd : decode μ.2.1 pc = .ok (.if_icmp .eq off, 3)) (ht : (pc : Int) + off = (tgt : Int)) (kt : x = y → G l μ Φ c0 s0 S (tgt) ls (st) v) (kf : ¬ (x = y) → G l μ Φ c0 s0 S (pc+3) ls (st) v) : G l μ Φ c0 s0 S (pc) ls (ai y :: ai x :: st) v := by
  intro p en s m args below meth c H locs D T ea A ad ad0 n0 lsC hC hS
  have hy : iR y := hS.top
  have hx : iR x := hS.two
  have e := iR_eq hx hy
  have hS2 := hS.stk fun h => (RAs_cons.mp (RAs_cons.mp h).2).2
  exact lv_icmp_eq hC.1 hC.2.1 hd ht (fun h => kt (e.mp h) p en s m args below meth c _ _ D T ea A _ ad0 n0 _ hC hS2) (fun h => kf (fun z => h (e.mpr z)) p en s m args below meth c _ _ D T ea A _ ad0 n0 _ hC hS2)
theorem G_if_eq {x off : Int} (tgt : Nat) (hd : decode μ.2.1 pc = .ok (.ifCond .eq off, 3)) (ht : (pc : Int) + off = (tgt : Int)) (kt : x = 0 → G l μ Φ c0 s0 S (tgt) ls (st) v) (kf : ¬ (x = 0) → G l μ Φ c0 s0 S (pc+3) ls (st) v) : G l μ Φ c0 s0 S (pc) ls (ai x :: st) v := by
  intro p en s m args below meth c H locs D T ea A ad ad0 n0 lsC hC hS
  have hx : iR x := hS.top
  have e := iR_eq hx iR_0
  have hS2 := hS.stk fun h => (RAs_cons.mp h).2
  exact lv_if_eq hC.1 hC.2.1 hd ht (fun h => kt (e.mp h) p en s m args below meth c _ _ D T ea A _ ad0 n0 _ hC hS2) (fun h => kf (fun z => h (e.mpr z)) p en s m args below meth c _ _ D T ea A _ ad0 n0 _ hC hS2)
theorem G_icmp_ne {x y off : Int} (tgt : Nat) (hd : decode μ.2.1 pc = .ok (.if_icmp .ne off, 3)) (ht : (pc : Int) + off = (tgt : Int)) (kt : ¬ x = y → G l μ Φ c0 s0 S (tgt) ls (st) v) (kf : x = y → G l μ Φ c0 s0 S (pc+3) ls (st) v) : G l μ Φ c0 s0 S (pc) ls (ai y :: ai x :: st) v := by
  intro p en s m args below meth c H locs D T ea A ad ad0 n0 lsC hC hS
  have hy : iR y := hS.top
  have hx : iR x := hS.two
  have e := not_congr (iR_eq hx hy)
  have hS2 := hS.stk fun h => (RAs_cons.mp (RAs_cons.mp h).2).2
  exact lv_icmp_ne hC.1 hC.2.1 hd ht (fun h => kt (e.mp h) p en s m args below meth c _ _ D T ea A _ ad0 n0 _ hC hS2) (fun h => kf ((iR_eq hx hy).mp h) p en s m args below meth c _ _ D T ea A _ ad0 n0 _ hC hS2)
theorem G_if_ne {x off : Int} (tgt : Nat) (hd : decode μ.2.1 pc = .ok (.ifCond .ne off, 3)) (ht : (pc : Int) + off = (tgt : Int)) (kt : ¬ x = 0 → G l μ Φ c0 s0 S (tgt) ls (st) v) (kf : x = 0 → G l μ Φ c0 s0 S (pc+3) ls (st) v) : G l μ Φ c0 s0 S (pc) ls (ai x :: st) v := by
  intro p en s m args below meth c H locs D T ea A ad ad0 n0 lsC hC hS
  have hx : iR x := hS.top
  have e := not_congr (iR_eq hx iR_0)
  have hS2 := hS.stk fun h => (RAs_cons.mp h).2
  exact lv_if_ne hC.1 hC.2.1 hd ht (fun h => kt (e.mp h) p en s m args below meth c _ _ D T ea A _ ad0 n0 _ hC hS2) (fun h => kf ((iR_eq hx iR_0).mp h) p en s m args below meth c _ _ D T ea A _ ad0 n0 _ hC hS2)
theorem G_icmp_lt {x y off : Int} (tgt : Nat) (hd : decode μ.2.1 pc = .ok (.if_icmp .lt off, 3)) (ht : (pc : Int) + off = (tgt : Int)) (kt : x < y → G l μ Φ c0 s0 S (tgt) ls (st) v) (kf : ¬ (x < y) → G l μ Φ c0 s0 S (pc+3) ls (st) v) : G l μ Φ c0 s0 S (pc) ls (ai y :: ai x :: st) v := by
  intro p en s m args below meth c H locs D T ea A ad ad0 n0 lsC hC hS
  have hy : iR y := hS.top
  have hx : iR x := hS.two
  have e := iR_lt hx hy
  have hS2 := hS.stk fun h => (RAs_cons.mp (RAs_cons.mp h).2).2
  exact lv_icmp_lt hC.1 hC.2.1 hd ht (fun h => kt (e.mp h) p en s m args below meth c _ _ D T ea A _ ad0 n0 _ hC hS2) (fun h => kf (fun z => h (e.mpr z)) p en s m args below meth c _ _ D T ea A _ ad0 n0 _ hC hS2)
theorem G_if_lt {x off : Int} (tgt : Nat) (hd : decode μ.2.1 pc = .ok (.ifCond .lt off, 3)) (ht : (pc : Int) + off = (tgt : Int)) (kt : x < 0 → G l μ Φ c0 s0 S (tgt) ls (st) v) (kf : ¬ (x < 0) → G l μ Φ c0 s0 S (pc+3) ls (st) v) : G l μ Φ c0 s0 S (pc) ls (ai x :: st) v := by
  intro p en s m args below meth c H locs D T ea A ad ad0 n0 lsC hC hS
  have hx : iR x := hS.top
  have e := iR_lt hx iR_0
  have hS2 := hS.stk fun h => (RAs_cons.mp h).2
  exact lv_if_lt hC.1 hC.2.1 hd ht (fun h => kt (e.mp h) p en s m args below meth c _ _ D T ea A _ ad0 n0 _ hC hS2) (fun h => kf (fun z => h (e.mpr z)) p en s m args below meth c _ _ D T ea A _ ad0 n0 _ hC hS2)
theorem G_icmp_ge {x y off : Int} (tgt : Nat) (hd : decode μ.2.1 pc = .ok (.if_icmp .ge off, 3)) (ht : (pc : Int) + off = (tgt : Int)) (kt : y ≤ x → G l μ Φ c0 s0 S (tgt) ls (st) v) (kf : ¬ (y ≤ x) → G l μ Φ c0 s0 S (pc+3) ls (st) v) : G l μ Φ c0 s0 S (pc) ls (ai y :: ai x :: st) v := by
  intro p en s m args below meth c H locs D T ea A ad ad0 n0 lsC hC hS
  have hy : iR y := hS.top
  have hx : iR x := hS.two
  have e := iR_le hy hx
  have hS2 := hS.stk fun h => (RAs_cons.mp (RAs_cons.mp h).2).2
  exact lv_icmp_ge hC.1 hC.2.1 hd ht (fun h => kt (e.mp h) p en s m args below meth c _ _ D T ea A _ ad0 n0 _ hC hS2) (fun h => kf (fun z => h (e.mpr z)) p en s m args below meth c _ _ D T ea A _ ad0 n0 _ hC hS2)
theorem G_if_ge {x off : Int} (tgt : Nat) (hd : decode μ.2.1 pc = .ok (.ifCond .ge off, 3)) (ht : (pc : Int) + off = (tgt : Int)) (kt : 0 ≤ x → G l μ Φ c0 s0 S (tgt) ls (st) v) (kf : ¬ (0 ≤ x) → G l μ Φ c0 s0 S (pc+3) ls (st) v) : G l μ Φ c0 s0 S (pc) ls (ai x :: st) v := by
  intro p en s m args below meth c H locs D T ea A ad ad0 n0 lsC hC hS
  have hx : iR x := hS.top
  have e := iR_le iR_0 hx
  have hS2 := hS.stk fun h => (RAs_cons.mp h).2
  exact lv_if_ge hC.1 hC.2.1 hd ht (fun h => kt (e.mp h) p en s m args below meth c _ _ D T ea A _ ad0 n0 _ hC hS2) (fun h => kf (fun z => h (e.mpr z)) p en s m args below meth c _ _ D T ea A _ ad0 n0 _ hC hS2)
theorem G_icmp_gt {x y off : Int} (tgt : Nat) (hd : decode μ.2.1 pc = .ok (.if_icmp .gt off, 3)) (ht : (pc : Int) + off = (tgt : Int)) (kt : y < x → G l μ Φ c0 s0 S (tgt) ls (st) v) (kf : ¬ (y < x) → G l μ Φ c0 s0 S (pc+3) ls (st) v) : G l μ Φ c0 s0 S (pc) ls (ai y :: ai x :: st) v := by
  intro p en s m args below meth c H locs D T ea A ad ad0 n0 lsC hC hS
  have hy : iR y := hS.top
  have hx : iR x := hS.two
  have e := iR_lt hy hx
  have hS2 := hS.stk fun h => (RAs_cons.mp (RAs_cons.mp h).2).2
  exact lv_icmp_gt hC.1 hC.2.1 hd ht (fun h => kt (e.mp h) p en s m args below meth c _ _ D T ea A _ ad0 n0 _ hC hS2) (fun h => kf (fun z => h (e.mpr z)) p en s m args below meth c _ _ D T ea A _ ad0 n0 _ hC hS2)
theorem G_if_gt {x off : Int} (tgt : Nat) (hd : decode μ.2.1 pc = .ok (.ifCond .gt off, 3)) (ht : (pc : Int) + off = (tgt : Int)) (kt : 0 < x → G l μ Φ c0 s0 S (tgt) ls (st) v) (kf : ¬ (0 < x) → G l μ Φ c0 s0 S (pc+3) ls (st) v) : G l μ Φ c0 s0 S (pc) ls (ai x :: st) v := by
  intro p en s m args below meth c H locs D T ea A ad ad0 n0 lsC hC hS
  have hx : iR x := hS.top
  have e := iR_lt iR_0 hx
  have hS2 := hS.stk fun h => (RAs_cons.mp h).2
  exact lv_if_gt hC.1 hC.2.1 hd ht (fun h => kt (e.mp h) p en s m args below meth c _ _ D T ea A _ ad0 n0 _ hC hS2) (fun h => kf (fun z => h (e.mpr z)) p en s m args below meth c _ _ D T ea A _ ad0 n0 _ hC hS2)
theorem G_icmp_le {x y off : Int} (tgt : Nat) (hd : decode μ.2.1 pc = .ok (.if_icmp .le off, 3)) (ht : (pc : Int) + off = (tgt : Int)) (kt : x ≤ y → G l μ Φ c0 s0 S (tgt) ls (st) v) (kf : ¬ (x ≤ y) → G l μ Φ c0 s0 S (pc+3) ls (st) v) : G l μ Φ c0 s0 S (pc) ls (ai y :: ai x :: st) v := by
  intro p en s m args below meth c H locs D T ea A ad ad0 n0 lsC hC hS
  have hy : iR y := hS.top
  have hx : iR x := hS.two
  have e := iR_le hx hy
  have hS2 := hS.stk fun h => (RAs_cons.mp (RAs_cons.mp h).2).2
  exact lv_icmp_le hC.1 hC.2.1 hd ht (fun h => kt (e.mp h) p en s m args below meth c _ _ D T ea A _ ad0 n0 _ hC hS2) (fun h => kf (fun z => h (e.mpr z)) p en s m args below meth c _ _ D T ea A _ ad0 n0 _ hC hS2)
theorem G_if_le {x off : Int} (tgt : Nat) (hd : decode μ.2.1 pc = .ok (.ifCond .le off, 3)) (ht : (pc : Int) + off = (tgt : Int)) (kt : x ≤ 0 → G l μ Φ c0 s0 S (tgt) ls (st) v) (kf : ¬ (x ≤ 0) → G l μ Φ c0 s0 S (pc+3) ls (st) v) : G l μ Φ c0 s0 S (pc) ls (ai x :: st) v := by
  intro p en s m args below meth c H locs D T ea A ad ad0 n0 lsC hC hS
  have hx : iR x := hS.top
  have e := iR_le hx iR_0
  have hS2 := hS.stk fun h => (RAs_cons.mp h).2
  exact lv_if_le hC.1 hC.2.1 hd ht (fun h => kt (e.mp h) p en s m args below meth c _ _ D T ea A _ ad0 n0 _ hC hS2) (fun h => kf (fun z => h (e.mpr z)) p en s m args below meth c _ _ D T ea A _ ad0 n0 _ hC hS2)
theorem G_ifnullS {k : Nat} {off : Int} (hd : decode μ.2.1 pc = .ok (.ifnull off, 3)) (kk : G l μ Φ c0 s0 S (pc+3) ls (st) v) : G l μ Φ c0 s0 S (pc) ls (ar (some k) :: st) v := by
  intro p en s m args below meth c H locs D T ea A ad ad0 n0 lsC hC hS
  exact lv_ifnull hC.1 hC.2.1 hd (kk p en s m args below meth c _ _ D T ea A _ ad0 n0 _ hC (hS.stk fun h => (RAs_cons.mp h).2))
theorem G_ifnullN {off : Int} (tgt : Nat) (hd : decode μ.2.1 pc = .ok (.ifnull off, 3)) (ht : (pc : Int) + off = (tgt : Int)) (kk : G l μ Φ c0 s0 S (tgt) ls (st) v) : G l μ Φ c0 s0 S (pc) ls (ar none :: st) v := by
  intro p en s m args below meth c H locs D T ea A ad ad0 n0 lsC hC hS
  exact lv_ifnullN hC.1 hC.2.1 hd ht (kk p en s m args below meth c _ _ D T ea A _ ad0 n0 _ hC (hS.stk fun h => (RAs_cons.mp h).2))
theorem G_ifnonnullS {k : Nat} {off : Int} (tgt : Nat) (hd : decode μ.2.1 pc = .ok (.ifnonnull off, 3)) (ht : (pc : Int) + off = (tgt : Int)) (kk : G l μ Φ c0 s0 S (tgt) ls (st) v) : G l μ Φ c0 s0 S (pc) ls (ar (some k) :: st) v := by
  intro p en s m args below meth c H locs D T ea A ad ad0 n0 lsC hC hS
  exact lv_ifnonnull hC.1 hC.2.1 hd ht (kk p en s m args below meth c _ _ D T ea A _ ad0 n0 _ hC (hS.stk fun h => (RAs_cons.mp h).2))
theorem G_ifnonnullN {off : Int} (hd : decode μ.2.1 pc = .ok (.ifnonnull off, 3)) (kk : G l μ Φ c0 s0 S (pc+3) ls (st) v) : G l μ Φ c0 s0 S (pc) ls (ar none :: st) v := by
  intro p en s m args below meth c H locs D T ea A ad ad0 n0 lsC hC hS
  exact lv_ifnonnullN hC.1 hC.2.1 hd (kk p en s m args below meth c _ _ D T ea A _ ad0 n0 _ hC (hS.stk fun h => (RAs_cons.mp h).2))
theorem G_tableIn {dflt lo hi : Int} {offs : Array Int} {len : Nat} {x off : Int} (tgt : Nat) (hd : decode μ.2.1 pc = .ok (.tableswitch dflt lo hi offs, len)) (h1 : lo ≤ x) (h2 : x ≤ hi) (ho : offs[(x - lo).toNat]? = some off) (ht : (pc : Int) + off = (tgt : Int)) (kk : G l μ Φ c0 s0 S (tgt) ls (st) v) : G l μ Φ c0 s0 S (pc) ls (ai x :: st) v := by
  intro p en s m args below meth c H locs D T ea A ad ad0 n0 lsC hC hS
  have hx : iR x := hS.top
  have e := iR_toInt hx
  exact lv_tableIn hC.1 hC.2.1 hd (by rw [e]; omega) (by rw [e]; omega) (by rw [e]; exact ho) ht (kk p en s m args below meth c _ _ D T ea A _ ad0 n0 _ hC (hS.stk fun h => (RAs_cons.mp h).2))
theorem G_tableOut {dflt lo hi : Int} {offs : Array Int} {len : Nat} {x : Int} (tgt : Nat) (hd : decode μ.2.1 pc = .ok (.tableswitch dflt lo hi offs, len)) (h1 : x < lo ∨ hi < x) (ht : (pc : Int) + dflt = (tgt : Int)) (kk : G l μ Φ c0 s0 S (tgt) ls (st) v) : G l μ Φ c0 s0 S (pc) ls (ai x :: st) v := by
  intro p en s m args below meth c H locs D T ea A ad ad0 n0 lsC hC hS
  have hx : iR x := hS.top
  have e := iR_toInt hx
  exact lv_tableOut hC.1 hC.2.1 hd (by rw [e]; omega) ht (kk p en s m args below meth c _ _ D T ea A _ ad0 n0 _ hC (hS.stk fun h => (RAs_cons.mp h).2))
def lg1 (ls : LL) (i : Nat) : Bool := match i with
  | 0 => true
  | i + 1 => match ls[i]? with
    | some (some (.inr (.inr (.inl _)))) => false
    | _ => true
def lpair (ad ea : Nat → Nat) (ls : LL) : List (Nat × Value) := (List.range ls.length).filterMap fun j => match ls[j]? with
  | some (some a) => some (j, tr ad ea a)
  | _ => none
theorem lpair_mem {ad ea : Nat → Nat} {ls : LL} {j : Nat} {a : AV} (h : ls[j]? = some (some a)) : (j, tr ad ea a) ∈ lpair ad ea ls := by
  refine List.mem_filterMap.mpr ⟨j, List.mem_range.mpr (List.getElem?_eq_some_iff.mp h).1, ?_⟩
  rw [h]
theorem lpair_has {ad ea : Nat → Nat} {nL : Nat} {lsC : Array Slot} {ls : LL} (h : LR ad ea nL lsC ls) : lv_has lsC nL (lpair ad ea ls) := by
  refine ⟨h.1, h.2.1, fun q hq => ?_⟩
  obtain ⟨j, -, hj⟩ := List.mem_filterMap.mp hq
  split at hj
  · rename_i a ha
    cases hj
    exact h.2.2 _ _ ha
  · cases hj
theorem lpair_cat {a : AV} {ad ea : Nat → Nat} (h : (tr ad ea a).category = 2) : ∃ y, a = al y := by
  match a with
  | .inl none => cases h
  | .inl (some k) => cases h
  | .inr (.inl x) => cases h
  | .inr (.inr (.inl y)) => exact ⟨y, rfl⟩
  | .inr (.inr (.inr e)) => cases h
theorem lset_LR {ad ea : Nat → Nat} {nL i : Nat} {lsC lsD : Array Slot} {ls : LL} {a : AV} (hg : lg1 ls i = true) (h2 : lv_has lsD nL ((i, tr ad ea a) :: (lpair ad ea ls).filter (fun q => !(q.1 == i) && !(q.1 + 1 == i && q.2.category == 2)))) : LR ad ea nL lsD (ls.set i (some a)) := by
  refine ⟨h2.1, h2.2.1, fun j b hj => ?_⟩
  rw [List.getElem?_set] at hj
  split at hj
  · rename_i hij
    subst hij
    split at hj
    · cases hj
      exact h2.2.2 _ List.mem_cons_self
    · cases hj
  · rename_i hij
    refine h2.2.2 (j, tr ad ea b) (List.mem_cons_of_mem _ (List.mem_filter.mpr ⟨lpair_mem hj, ?_⟩))
    simp only [Bool.and_eq_true, Bool.not_eq_true', Bool.and_eq_false_iff, beq_eq_false_iff_ne, ne_eq]
    refine ⟨fun h => hij h.symm, ?_⟩
    by_cases h1 : j + 1 = i
    · right
      intro hc
      obtain ⟨y, rfl⟩ := lpair_cat (a := b) (ad := ad) (ea := ea) (by simpa using hc)
      subst h1
      simp [lg1, hj] at hg
    · exact Or.inl h1
theorem RAl_set {n i : Nat} {ls : LL} {a : AV} (h : RAl n ls) (ha : RA n a) : RAl n (ls.set i (some a)) := by
  intro j b hj
  rw [List.getElem?_set] at hj
  split at hj
  · split at hj
    · cases hj; exact ha
    · cases hj
  · exact h j b hj
theorem Sx.loc {s : State} {D : va_G} {T : Nat → ClassId} {ea : Nat → Nat} {A : Nat → Prop} {ad0 : Nat → Nat} {n0 : Nat} {H : Heap} {locs : List Loc} {ad : Nat → Nat} {lsC lsD : Array Slot} {ls2 : LL} (h : Sx μ s D T ea A ad0 n0 S ls st v H locs ad lsC) (h1 : RAl S.1 ls2) (h2 : LR ad ea μ.2.2.2.1 lsD ls2) : Sx μ s D T ea A ad0 n0 S ls2 st v H locs ad lsD := ⟨h.1, h.2.1, h.2.2.1, h.2.2.2.1, h1, h.2.2.2.2.2.1, h.2.2.2.2.2.2.1, h.2.2.2.2.2.2.2.1, h2⟩
theorem G_istore_n {i : Fin 4} {x : Int} (hd : decode μ.2.1 pc = .ok (.istore_n i, 1)) (hn : Nat.blt i.1 μ.2.2.2.1 = true) (hg : lg1 ls i.1 = true) (k : G l μ Φ c0 s0 S (pc+1) (ls.set i.1 (some (ai x))) (st) v) : G l μ Φ c0 s0 S (pc) ls (ai x :: st) v := by
  intro p en s m args below meth c H locs D T ea A ad ad0 n0 lsC hC hS
  exact lv_istore_n hC.1 hC.2.1 hd rfl (lpair_has hS.lr) (by simpa using hn) rfl (fun lsD hl => k p en s m args below meth c _ _ D T ea A _ ad0 n0 _ hC ((hS.stk fun h => (RAs_cons.mp h).2).loc (RAl_set hS.2.2.2.2.1 hS.top) (lset_LR (lsC := lsC) (a := ai x) hg hl)))
theorem G_istore {i : Nat} {x : Int} (hd : decode μ.2.1 pc = .ok (.istore i, 2)) (hn : Nat.blt i μ.2.2.2.1 = true) (hg : lg1 ls i = true) (k : G l μ Φ c0 s0 S (pc+2) (ls.set i (some (ai x))) (st) v) : G l μ Φ c0 s0 S (pc) ls (ai x :: st) v := by
  intro p en s m args below meth c H locs D T ea A ad ad0 n0 lsC hC hS
  exact lv_istore hC.1 hC.2.1 hd (lpair_has hS.lr) (by simpa using hn) rfl (fun lsD hl => k p en s m args below meth c _ _ D T ea A _ ad0 n0 _ hC ((hS.stk fun h => (RAs_cons.mp h).2).loc (RAl_set hS.2.2.2.2.1 hS.top) (lset_LR (lsC := lsC) (a := ai x) hg hl)))
theorem G_astore_n {i : Fin 4} {r : Option Nat} (hd : decode μ.2.1 pc = .ok (.astore_n i, 1)) (hn : Nat.blt i.1 μ.2.2.2.1 = true) (hg : lg1 ls i.1 = true) (k : G l μ Φ c0 s0 S (pc+1) (ls.set i.1 (some (ar r))) (st) v) : G l μ Φ c0 s0 S (pc) ls (ar r :: st) v := by
  intro p en s m args below meth c H locs D T ea A ad ad0 n0 lsC hC hS
  cases r with
  | none => exact lv_astore_nN hC.1 hC.2.1 hd rfl (lpair_has hS.lr) (by simpa using hn) rfl (fun lsD hl => k p en s m args below meth c _ _ D T ea A _ ad0 n0 _ hC ((hS.stk fun h => (RAs_cons.mp h).2).loc (RAl_set hS.2.2.2.2.1 hS.top) (lset_LR (lsC := lsC) (a := ar none) hg hl)))
  | some x => exact lv_astore_n hC.1 hC.2.1 hd rfl (lpair_has hS.lr) (by simpa using hn) rfl (fun lsD hl => k p en s m args below meth c _ _ D T ea A _ ad0 n0 _ hC ((hS.stk fun h => (RAs_cons.mp h).2).loc (RAl_set hS.2.2.2.2.1 hS.top) (lset_LR (lsC := lsC) (a := ar (some x)) hg hl)))
theorem G_astore {i : Nat} {r : Option Nat} (hd : decode μ.2.1 pc = .ok (.astore i, 2)) (hn : Nat.blt i μ.2.2.2.1 = true) (hg : lg1 ls i = true) (k : G l μ Φ c0 s0 S (pc+2) (ls.set i (some (ar r))) (st) v) : G l μ Φ c0 s0 S (pc) ls (ar r :: st) v := by
  intro p en s m args below meth c H locs D T ea A ad ad0 n0 lsC hC hS
  cases r with
  | none => exact lv_astoreN hC.1 hC.2.1 hd (lpair_has hS.lr) (by simpa using hn) rfl (fun lsD hl => k p en s m args below meth c _ _ D T ea A _ ad0 n0 _ hC ((hS.stk fun h => (RAs_cons.mp h).2).loc (RAl_set hS.2.2.2.2.1 hS.top) (lset_LR (lsC := lsC) (a := ar none) hg hl)))
  | some x => exact lv_astore hC.1 hC.2.1 hd (lpair_has hS.lr) (by simpa using hn) rfl (fun lsD hl => k p en s m args below meth c _ _ D T ea A _ ad0 n0 _ hC ((hS.stk fun h => (RAs_cons.mp h).2).loc (RAl_set hS.2.2.2.2.1 hS.top) (lset_LR (lsC := lsC) (a := ar (some x)) hg hl)))
theorem G_iinc {i : Nat} {n x : Int} (hd : decode μ.2.1 pc = .ok (.iinc i n, 3)) (hl : ls[i]? = some (some (ai x))) (hr : iR (x + n)) (hn : Nat.blt i μ.2.2.2.1 = true) (hg : lg1 ls i = true) (k : G l μ Φ c0 s0 S (pc+3) (ls.set i (some (ai (x + n)))) (st) v) : G l μ Φ c0 s0 S (pc) ls (st) v := by
  intro p en s m args below meth c H locs D T ea A ad ad0 n0 lsC hC hS
  obtain ⟨q, hq⟩ := List.getElem?_of_mem (lpair_mem (ad := ad) (ea := ea) hl)
  exact lv_iinc (v := Int32.ofInt (x + n)) hC.1 hC.2.1 hd (lpair_has hS.lr) hq (Int32.ofInt_add x n).symm (by simpa using hn) rfl (fun lsD h2 => k p en s m args below meth c _ _ D T ea A _ ad0 n0 _ hC (hS.loc (RAl_set hS.2.2.2.2.1 hr) (lset_LR (lsC := lsC) (a := ai (x + n)) hg h2)))
end GR
