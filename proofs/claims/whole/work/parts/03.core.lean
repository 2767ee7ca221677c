def lw_good : List Cond := lw_tbl.filter goodWord
theorem lg_mem {w : Cond} (i : Nat) (h : lw_tbl[i]? = some w) (hg : goodWord w = true) : w ∈ lw_good := List.mem_filter.mpr ⟨List.mem_of_getElem? h, hg⟩
theorem lw_good_in : GoodIn lw_good lw_good := fun w h => ⟨h, good_of_word (List.mem_filter.mp h).2⟩
/-! THE A-LOGIC: cells are named by their place in the world; numbers are Int -/
abbrev classes : List vw_C := [(RX0, TX0, 4), (RX1, TX1, 7), (RX2, TX2, 12), (RX3, TX3, 2), (RX4, TX4, 11), (RX5, TX5, 10), (RX6, TX6, 46)]
abbrev AV : Type := (Option Nat) ⊕ (Int ⊕ (Int ⊕ Nat))
abbrev ar (r : Option Nat) : AV := .inl r
abbrev ai (x : Int) : AV := .inr (.inl x)
abbrev al (x : Int) : AV := .inr (.inr (.inl x))
abbrev ax (e : Nat) : AV := .inr (.inr (.inr e))
def tr (ad ea : Nat → Nat) : AV → Value
  | .inl none => .null
  | .inl (some k) => .ref (ad k)
  | .inr (.inl x) => .int (Int32.ofInt x)
  | .inr (.inr (.inl y)) => .long (Int64.ofInt y)
  | .inr (.inr (.inr e)) => .ref (ea e)
abbrev VV : Type := Nat → Int → Int
abbrev AS : Type := Nat × (Nat → Nat × Nat) × (Nat → Int → Option Nat)
def kd : FieldType → Nat
  | .int => 0
  | .byte => 1
  | .boolean => 2
  | .long => 5
  | _ => 3
def tyof (ci : Nat) : Nat → FieldType := match ci with
  | 0 => tyX0
  | 1 => tyX1
  | 2 => tyX2
  | 3 => tyX3
  | 4 => tyX4
  | 5 => tyX5
  | _ => tyX6
def fk (ci j : Nat) : Nat := kd (tyof ci j)
def nf (ci : Nat) : Nat := match ci with
  | 0 => 4
  | 1 => 7
  | 2 => 12
  | 3 => 2
  | 4 => 11
  | 5 => 10
  | _ => 46
def ek (t : Nat) : Nat := match t with
  | 0 => 0
  | 1 => 1
  | 2 => 2
  | 5 => 5
  | _ => 3
abbrev tyl (T : Nat → ClassId) : List (ClassId × FieldType) := [(T 0, .int), (T 1, .byte), (T 2, .boolean), (T 3, .object "WicketBoard$Umpire"), (T 4, .object "WicketBoard$Game"), (T 5, .long)]
def vlk (kind : Nat) (ad : Nat → Nat) (r : Option Nat) (x : Int) : Value := match kind with
  | 3 => va_rf (r.map ad)
  | 5 => .long (Int64.ofInt x)
  | _ => .int (Int32.ofInt x)
def flds (ad : Nat → Nat) (ci : Nat) (rk : Int → Option Nat) (vk : Int → Int) : List Value := (List.range (nf ci)).map fun (j : Nat) => vlk (fk ci j) ad (rk (j : Int)) (vk (j : Int))
def arrc (ad : Nat → Nat) (t len : Nat) (rk : Int → Option Nat) (vk : Int → Int) : vp_A := match ek t with
  | 3 => (len, .inr (.inr (.inr (.inr fun (j : Nat) => (rk (j : Int)).map ad))))
  | 5 => (len, .inr (.inl fun (j : Nat) => Int64.ofInt (vk (j : Int))))
  | _ => (len, .inl fun (j : Nat) => Int32.ofInt (vk (j : Int)))
def cellE (T : Nat → ClassId) (ad : Nat → Nat) (sh : Nat × Nat) (rk : Int → Option Nat) (vk : Int → Int) : va_E :=
  if sh.1 < 16 then .inl (T sh.1, arrc ad sh.1 sh.2 rk vk) else .inr (sh.1 - 16, flds ad (sh.1 - 16) rk vk)
def wl (T : Nat → ClassId) (ad : Nat → Nat) (S : AS) (v : VV) : va_W := (List.range S.1).map fun k => (ad k, cellE T ad (S.2.1 k) (S.2.2 k) (v k))
def iR (x : Int) : Prop := -2147483648 ≤ x ∧ x < 2147483648
def lR (x : Int) : Prop := -9223372036854775808 ≤ x ∧ x < 9223372036854775808
def kr (kind : Nat) (x : Int) : Prop := match kind with
  | 0 => iR x
  | 1 => -128 ≤ x ∧ x < 128
  | 2 => x = 0 ∨ x = 1
  | 5 => lR x
  | _ => True
def skd (sh : Nat × Nat) (j : Int) : Nat := if sh.1 < 16 then ek sh.1 else fk (sh.1 - 16) j.toNat
def RV (S : AS) (v : VV) : Prop := ∀ k, k < S.1 → ∀ j : Int, kr (skd (S.2.1 k) j) (v k j)
def WR (S : AS) : Prop := ∀ k, k < S.1 → ∀ (j : Int) (r : Nat), S.2.2 k j = some r → r < S.1
def RA (n : Nat) : AV → Prop
  | .inl none => True
  | .inl (some k) => k < n
  | .inr (.inl x) => iR x
  | .inr (.inr (.inl y)) => lR y
  | .inr (.inr (.inr _)) => True
abbrev LL : Type := List (Option AV)
def RAs (n : Nat) (st : List AV) : Prop := ∀ a ∈ st, RA n a
def RAl (n : Nat) (ls : LL) : Prop := ∀ (i : Nat) (a : AV), ls[i]? = some (some a) → RA n a
def LR (ad ea : Nat → Nat) (nL : Nat) (lsC : Array Slot) (ls : LL) : Prop := lsC.size = nL ∧ lv_wf lsC ∧ ∀ (i : Nat) (a : AV), ls[i]? = some (some a) → lsC[i]? = some (.val (tr ad ea a))
abbrev MU : Type := MethodName × ByteArray × Option FieldType × Nat × Nat × Nat × Nat × Option (Nat × (Nat → Int32))
def rmd (d mc ms : Nat) : Room := { frames := d, cells := mc, slots := ms, locals := 37 * d + 11 }
-- what lies outside the world and is only read: 0 the script; 1, 2, 3 RuleBook's tables
def xUs : List Int := [3, 1, 60, 5, 2, 1, 80, 30, 4]
def xLe : List Int := [1, 0, 0, 0, 0, 0, 1, 0, 1]
def xMo : List Int := [9, 9, 200, 50, 9, 9, 101, 100, 20]
def EXS (sc : Option (Nat × (Nat → Int32))) (ea : Nat → Nat) (A : Nat → Prop) (U : State) : Prop := match sc with
  | none => True
  | some q => va_X (ea 0) q.1 q.2 U U.heap ∧ ¬ A (ea 0)
def EXt (n : String) (t : Nat) (xs : List Int) (A : Nat → Prop) (U : State) : Prop := va_Z RX1 n "[I" (.ref t) A U U.heap ∧ va_T .int t 9 (fun j => .int (Int32.ofInt (xs.getD j 0))) A U U.heap
def nestw : List Cond := [.fieldLinkNest RX5 208 RX0 "clubs" "I" RX5, .fieldLinkNest RX5 211 RX0 "level" "I" RX5, .methodLinkNest RX5 9 yX3_init RX5, .methodLinkNest RX5 35 yX0_init RX5, .methodLinkNest RX5 42 yX2_init RX5, .castable "java/util/NoSuchElementException" "java/util/NoSuchElementException", .declares ⟨"java/lang/RuntimeException", "<init>", "(Ljava/lang/String;)V"⟩, .declares ⟨"java/lang/Exception", "<init>", "(Ljava/lang/String;)V"⟩, .declares ⟨"java/lang/Throwable", "<init>", "(Ljava/lang/String;)V"⟩]
def EXN (U : State) : Prop := ∀ w ∈ nestw, va_Nw w U
theorem EXN.to {s U : State} (h : EXN s) (hw : s.WarmedH U.vm) : EXN U := by
  intro w hm
  have h1 := h w hm
  unfold nestw at hm
  simp only [List.mem_cons, List.not_mem_nil, or_false] at hm
  rcases hm with rfl | rfl | rfl | rfl | rfl | rfl | rfl | rfl | rfl
  · exact va_Nw.warmF hw h1
  · exact va_Nw.warmF hw h1
  · exact va_Nw.warmM hw h1
  · exact va_Nw.warmM hw h1
  · exact va_Nw.warmM hw h1
  · exact va_Nw.warmC hw h1
  · exact va_Nw.warmD hw h1
  · exact va_Nw.warmD hw h1
  · exact va_Nw.warmD hw h1
-- String constants: text i lies at ea (10 + i), its bytes at ea (30 + i)
def sTx : List String := ["row", "again", "far", "fair", "won", "lost", "up", "down", "of"]
def sIx : List Nat := [126, 128, 130, 132, 134, 136, 138, 140, 142]
def sLn : List Nat := [3, 5, 3, 4, 3, 4, 2, 4, 2]
def sBy : List (List Int32) := [[114, 111, 119], [97, 103, 97, 105, 110], [102, 97, 114], [102, 97, 105, 114], [119, 111, 110], [108, 111, 115, 116], [117, 112], [100, 111, 119, 110], [111, 102]]
def EXR (ea : Nat → Nat) (A : Nat → Prop) (U : State) : Prop := vk_S 9 sLn sBy (fun i => ea (10 + i)) (fun i => ea (30 + i)) A U U.heap ∧ (∀ i : Nat, i < 9 → vk_R RX1 (sIx.getD i 0) (sTx.getD i "") (ea (10 + i)) U) ∧ va_Z "java/lang/String" "COMPACT_STRINGS" "Z" (.int 1) A U U.heap ∧ va_Zq "jdk/internal/util/Preconditions" "SIOOBE_FORMATTER" "Ljava/util/function/BiFunction;" A U U.heap
theorem EXR.to {ea : Nat → Nat} {A A2 : Nat → Prop} {s U : State} (h : EXR ea A s) (hw : s.WarmedH U.vm) (hq : ∀ q : Nat, q < s.heap.size → ¬ A q → U.heap[q]? = s.heap[q]?) (hAA : ∀ q, A2 q → A q) : EXR ea A2 U :=
  ⟨(vk_S.moved hw.alike (h.1.kept hq)).narrow hAA, fun i hi => vk_R.warm hw (h.2.1 i hi), (va_Z.moved hw.alike (h.2.2.1.kept hq)).narrow hAA, (va_Zq.moved hw.alike (h.2.2.2.kept hq)).narrow hAA⟩
def EXQ (A : Nat → Prop) (U : State) : Prop := (∃ a, vk_R RX5 168 "no such umpire" a U) ∧ (∃ a, vk_R RX5 188 "nothing of that number is told" a U) ∧ vx_Zq Bundle.tN "UNASSIGNED_STACK" Bundle.steD A U U.heap ∧ vx_Zq Bundle.tN "SUPPRESSED_SENTINEL" Bundle.listD A U U.heap ∧ va_AO "WicketBoard$Umpire" U ∧ va_AO "WicketBoard$Game" U
theorem EXQ.to {A A2 : Nat → Prop} {s U : State} (h : EXQ A s) (hw : s.WarmedH U.vm) (hq : ∀ q : Nat, q < s.heap.size → ¬ A q → U.heap[q]? = s.heap[q]?) (hAA : ∀ q, A2 q → A q) : EXQ A2 U :=
  ⟨h.1.elim fun a e => ⟨a, vk_R.warm hw e⟩, h.2.1.elim fun a e => ⟨a, vk_R.warm hw e⟩, (vx_Zq.moved hw.alike (h.2.2.1.kept hq)).narrow hAA, (vx_Zq.moved hw.alike (h.2.2.2.1.kept hq)).narrow hAA, va_AO.moved hw.alike h.2.2.2.2.1, va_AO.moved hw.alike h.2.2.2.2.2⟩
def EXA (ea : Nat → Nat) (A : Nat → Prop) (U : State) : Prop := EXt "USUAL" (ea 1) xUs A U ∧ EXt "LEAST" (ea 2) xLe A U ∧ EXt "MOST" (ea 3) xMo A U ∧ EXN U ∧ EXR ea A U ∧ EXQ A U
def EXT (sc : Option (Nat × (Nat → Int32))) (ea : Nat → Nat) (A : Nat → Prop) (U : State) : Prop := EXA ea A U ∧ EXS sc ea A U
theorem EXt.to {n : String} {t : Nat} {xs : List Int} {A A2 : Nat → Prop} {s U : State} (h : EXt n t xs A s) (hvm : s.vm.Alike U.vm) (hq : ∀ q : Nat, q < s.heap.size → ¬ A q → U.heap[q]? = s.heap[q]?) (hAA : ∀ q, A2 q → A q) : EXt n t xs A2 U :=
  ⟨((h.1.kept hq).moved hvm).narrow hAA, ((h.2.kept hq).moved hvm).narrow hAA⟩
theorem EXA.to {ea : Nat → Nat} {A A2 : Nat → Prop} {s U : State} (h : EXA ea A s) (hw : s.WarmedH U.vm) (hq : ∀ q : Nat, q < s.heap.size → ¬ A q → U.heap[q]? = s.heap[q]?) (hAA : ∀ q, A2 q → A q) : EXA ea A2 U :=
  ⟨h.1.to hw.alike hq hAA, h.2.1.to hw.alike hq hAA, h.2.2.1.to hw.alike hq hAA, h.2.2.2.1.to hw, h.2.2.2.2.1.to hw hq hAA, h.2.2.2.2.2.to hw hq hAA⟩
/-- the end of a method -/
def QQ (D : va_G) (T : Nat → ClassId) (ea : Nat → Nat) (A : Nat → Prop) (ad0 : Nat → Nat) (n0 : Nat) (Φ : Option AV → AS → VV → Prop) : Array Value → State → Outcome → State → Prop := fun _ st oc t =>
  (∃ (r : Option AV) (S : AS) (v : VV) (ad : Nat → Nat), oc = .returned (r.map (tr ad ea)) ∧ Φ r S v ∧ n0 ≤ S.1 ∧ (∀ k, k < n0 → ad k = ad0 k) ∧ (∀ a, r = some a → RA S.1 a) ∧ WR S ∧ RV S v ∧ va_P D classes (wl T ad S v) t.heap ∧ va_K D classes (tyl T) t ∧ va_D A (wl T ad S v)) ∧ va_F A st t
/-- a contract -/
def Ct (l : Launch) (y : MethodName) (cc : ByteArray) (ret : Option FieldType) (maxL d mc ms : Nat) (as : List AV) (S : AS) (v : VV) (Φ : Option AV → AS → VV → Prop) : Prop :=
  RAs S.1 as → WR S → RV S v → ∀ (D : va_G) (T : Nat → ClassId) (ea ad : Nat → Nat) (sz : Nat),
    Met l y (Cond.code y cc maxL ret :: lw_good) (rmd d mc ms) (va_Pc (as.map (tr ad ea)) (fun U => U.heap.size = sz ∧ va_P D classes (wl T ad S v) U.heap ∧ va_K D classes (tyl T) U ∧ va_D (fun _ => True) (wl T ad S v) ∧ EXA ea (va_A (wl T ad S v) sz) U)) (QQ D T ea (va_A (wl T ad S v) sz) ad S.1 Φ) mc ms (va_A (wl T ad S v) sz)
/-- the machine's side of a method at work -/
def Cx (l : Launch) (μ : MU) (p : Program) (s : State) (m : MethodId) (args : Array Value) (meth : Method) (c : Code) (D : va_G) (T : Nat → ClassId) (ea : Nat → Nat) (A : Nat → Prop) : Prop :=
  p.tables.exec = Jvm.exec ∧ c.code = μ.2.1 ∧ c.maxLocals = μ.2.2.2.1 ∧ meth.sig.returnType = μ.2.2.1 ∧ meth.locks = false ∧ meth.name = μ.1.name ∧ s.vm.findClass μ.1.cls = some m.cls ∧ (∀ w ∈ lw_good, w.before args s = true) ∧ va_K D classes (tyl T) s ∧ EXT μ.2.2.2.2.2.2.2 ea A s ∧ ∀ q : Nat, s.heap.size ≤ q → A q
def Sx (μ : MU) (s : State) (D : va_G) (T : Nat → ClassId) (ea : Nat → Nat) (A : Nat → Prop) (ad0 : Nat → Nat) (n0 : Nat) (S : AS) (ls : LL) (st : List AV) (v : VV) (H : Heap) (locs : List Loc) (ad : Nat → Nat) (lsC : Array Slot) : Prop :=
  (n0 ≤ S.1 ∧ ∀ k, k < n0 → ad k = ad0 k) ∧ WR S ∧ RV S v ∧ RAs S.1 st ∧ RAl S.1 ls ∧ va_P D classes (wl T ad S v) H ∧ va_D A (wl T ad S v) ∧ va_S A s.heap H locs ∧ LR ad ea μ.2.2.2.1 lsC ls
/-- a method at work: from here it comes to its end, with Φ -/
def G (l : Launch) (μ : MU) (Φ : Option AV → AS → VV → Prop) (c0 s0 : Nat) (S : AS) (pc : Nat) (ls : LL) (st : List AV) (v : VV) : Prop :=
  ∀ (p : Program) (e : Env) (s : State) (m : MethodId) (args : Array Value) (below : List Frame) (meth : Method) (c : Code) (H : Heap) (locs : List Loc) (D : va_G) (T : Nat → ClassId) (ea : Nat → Nat) (A : Nat → Prop) (ad ad0 : Nat → Nat) (n0 : Nat) (lsC : Array Slot),
    Cx l μ p s m args meth c D T ea A → Sx μ s D T ea A ad0 n0 S ls st v H locs ad lsC →
    W p l e (rmd μ.2.2.2.2.1 μ.2.2.2.2.2.1 μ.2.2.2.2.2.2.1) s m args below meth c H locs c0 s0 (MQ below (QQ D T ea A ad0 n0 Φ) args s μ.2.2.2.2.2.1 μ.2.2.2.2.2.2.1 A) (F0 m pc lsC (st.map (tr ad ea)))
/-! numbers -/
theorem iR_toInt {x : Int} (h : iR x) : (Int32.ofInt x).toInt = x := by
  rw [Int32.toInt_ofInt]
  exact Int.bmod_eq_of_le (by have := h.1; simp; omega) (by have := h.2; simp; omega)
theorem iR_lt {x y : Int} (hx : iR x) (hy : iR y) : Int32.ofInt x < Int32.ofInt y ↔ x < y := by
  rw [Int32.lt_iff_toInt_lt, iR_toInt hx, iR_toInt hy]
theorem iR_le {x y : Int} (hx : iR x) (hy : iR y) : Int32.ofInt x ≤ Int32.ofInt y ↔ x ≤ y := by
  rw [Int32.le_iff_toInt_le, iR_toInt hx, iR_toInt hy]
theorem iR_eq {x y : Int} (hx : iR x) (hy : iR y) : Int32.ofInt x = Int32.ofInt y ↔ x = y := by
  rw [← Int32.toInt_inj, iR_toInt hx, iR_toInt hy]
theorem iR_0 : iR 0 := by unfold iR; omega
theorem iR_of (x : Int32) : iR x.toInt := ⟨Int32.le_toInt x, Int32.toInt_lt x⟩
theorem lR_toInt {x : Int} (h : lR x) : (Int64.ofInt x).toInt = x := by
  rw [Int64.toInt_ofInt]
  exact Int.bmod_eq_of_le (by have := h.1; simp; omega) (by have := h.2; simp; omega)
theorem lR_eq {x y : Int} (hx : lR x) (hy : lR y) : Int64.ofInt x = Int64.ofInt y ↔ x = y := by
  rw [← Int64.toInt_inj, lR_toInt hx, lR_toInt hy]
theorem lR_lt {x y : Int} (hx : lR x) (hy : lR y) : Int64.ofInt x < Int64.ofInt y ↔ x < y := by
  rw [Int64.lt_iff_toInt_lt, lR_toInt hx, lR_toInt hy]
theorem RAs_cons {n : Nat} {a : AV} {st : List AV} : RAs n (a :: st) ↔ RA n a ∧ RAs n st := List.forall_mem_cons
