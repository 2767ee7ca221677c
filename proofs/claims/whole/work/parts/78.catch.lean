section NCA
variable {e : Env} {S : State} {f : JFrame} {a : Addr}
/-- the search in a table whose first row takes the exception; its class link may be cold -/
theorem n_find {meth : Method} {code : Code} {x : ExceptionTableEntry} {t : List ExceptionTableEntry} {c : ClassId} {cell : Cell} (hm : S.vm.method? f.method = some meth) (hc : meth.code = some code) (htab : code.exceptionTable.toList = x :: t) (hx : covers x f.pc = true) (h0 : x.catchType ≠ 0)
    (hl : S.vm.ClassLinks e.platform f.method.cls x.catchType c) (hcell : S.heap[a]? = some cell) (hobj : ∀ k, cell.vm ≠ .statics k) (hk : ∃ k, S.vm.classes[cell.cls]? = some k) (hk2 : ∃ k, S.vm.classes[c]? = some k) (hfit : S.vm.assignable cell.cls c = true) (Q : Handler → Pre) (E : CtlPost) (d : Bool) (acts : List Action) :
    wp (findHandler f a) Q E e d acts S ↔ Q (.found x.handlerPc) d acts (S.setVm (S.vm.noted f.method.cls x.catchType (.cls c))) := by
  rw [W.findHandler_eq hm hc, htab]
  simp only [covers] at hx
  obtain ⟨ha, ht⟩ := (resolveClass_links e.toSetting hl).op (op := VmOp.resolveClass f.method.cls x.catchType) rfl
  have hal : S.vm.Alike (S.vm.noted f.method.cls x.catchType (.cls c)) := (Vm.Alike.refl S.vm).noted _ _ _
  obtain ⟨k1, hk1⟩ := hk
  obtain ⟨k2, hk2⟩ := hk2
  obtain ⟨k3, hk3, -⟩ := hal.2.2 _ _ hk1
  obtain ⟨k4, hk4, -⟩ := hal.2.2 _ _ hk2
  have hf2 : (S.vm.noted f.method.cls x.catchType (.cls c)).assignable cell.cls c = true := by rw [hal.assignable]; exact hfit
  simp [findHandler.go, hx, h0, ha, ht, hcell, hobj, hk3, hk4, hf2, VmOp.dirties, VmOp.acts]
theorem n_step {r : List Frame} {pc : Nat} {vm2 : Vm} (hfind : ∀ (Q : Handler → Pre) (E : CtlPost) (d : Bool) (acts : List Action), wp (findHandler f a) Q E e d acts S ↔ Q (.found pc) d acts (S.setVm vm2)) :
    (stepThrowing e S a (.java f :: r)).Is ((S.setVm vm2).setFrames (.java { f with pc := pc, stack := [.ref a] } :: r)) [] := by
  simp only [stepThrowing, searchFrame, vmDo]
  generalize hr : Sem.go _ e false [] S = res
  obtain ⟨as, rfl, ha⟩ := Sem.eq_ok_of hr (a := Handler.found pc) (s' := S.setVm vm2) (acts' := []) (by simp [hfind _ _ _ _])
  exact ⟨rfl, ha⟩
theorem n_caught {tb : Tables} {s target : State} {c : Code} {below : List Frame} (h : At s f.method c below) {pc : Nat} {vm2 : Vm}
    (hfind : ∀ (Q : Handler → Pre) (E : CtlPost) (d : Bool) (acts : List Action), wp (findHandler f a) Q E e d acts ((s.setTop f).pushFrame (.throwing a)) ↔ Q (.found pc) d acts (((s.setTop f).pushFrame (.throwing a)).setVm vm2))
    (hrest : Steps tb e below ((s.setVm vm2).setTop { f with pc := pc, stack := [.ref a] }) target) : Steps tb e below ((s.setTop f).pushFrame (.throwing a)) target := by
  have sw : ∀ (u : State) (F K : List Frame), ((u.setFrames F).setVm vm2).setFrames K = (u.setVm vm2).setFrames K := fun u F K => by
    rw [show (u.setFrames F).setVm vm2 = (u.setVm vm2).setFrames F from rfl, State.setFrames_setFrames]
  obtain ⟨hgo, hw⟩ := h.throwing a
  refine Steps.head hgo hw ?_
  rw [stepThread_throwing (frames_entered h.top _), (n_step (S := (s.setTop f).pushFrame (.throwing a)) hfind).1]
  obtain ⟨g0, hg⟩ := Option.isSome_iff_exists.mp h.top
  obtain ⟨r, hr⟩ := State.topJava?_eq_some.mp hg
  have hr2 : (s.setVm vm2).frames = .java g0 :: r := hr
  rw [State.setTop_of_frames _ hr2] at hrest
  rw [hr, List.tail_cons, State.pushFrame, sw, State.setTop_of_frames _ hr, sw]
  exact hrest
end NCA
section NCW
variable {p : Program} {l : Launch} {e : Env} {R : Room} {s : State} {m : MethodId} {args : Array Value} {below : List Frame} {meth : Method} {c : Code} {H : Heap} {locs : List Loc} {cells slots : Nat} {Q : State → Prop} {pc : Nat} {ls : Array Slot} {rest : List Value}
theorem n_catch {own name E : String} {ce : Cell} {q : Addr} {x : ExceptionTableEntry} {t : List ExceptionTableEntry} (hown : s.vm.findClass own = some m.cls) (htab : c.exceptionTable.toList = x :: t) (hx : covers x pc = true) (h0 : x.catchType ≠ 0)
    (hlink : (Cond.classLink own x.catchType name).before args s = true) (hcast : (Cond.castable E name).before args s = true) (hcell : H[q]? = some ce) (hv : ce.vm = .none) (hcl : s.vm.findClass E = some ce.cls)
    (kk : W p l e R s m args below meth c H locs cells slots Q (F0 m x.handlerPc ls [.ref q])) : vx_W p l e R s m args below meth c H locs cells slots Q (F0 m pc ls rest) q := by
  intro T hT X
  have hpl : e.platform.magicAccessors = ({} : Platform).magicAccessors := by rw [X.admits.platform]
  obtain ⟨c3, c4, hc3, hc4, hasg⟩ := Cond.castable_spec hcast
  cases Option.some.inj (hc3.symm.trans hcl)
  obtain ⟨c5, hc5, hcl5⟩ := Cond.classLink_spec hown hlink e.platform hpl
  cases Option.some.inj (hc4.symm.trans hc5)
  have hW := X.warmed
  obtain ⟨dk, _, _, kt, hd, _, _, _, _, hkt, _, hopen⟩ := hcl5.here
  obtain ⟨k9, hk9, -⟩ := Vm.findClass_spec hcl
  obtain ⟨k1, hk1, -⟩ := hW.alike.2.2 _ _ hk9
  obtain ⟨k2, hk2, -⟩ := hW.alike.2.2 _ _ hkt
  have hW2 : s.WarmedH (T.vm.noted m.cls x.catchType (.cls c4)) := hW.noted hd hopen (State.rightAt_cls hcl5)
  obtain ⟨t2, a1, b1⟩ := kk (T.setVm (T.vm.noted m.cls x.catchType (.cls c4))) hT (X.noted hW2)
  refine ⟨t2, ?_, b1⟩
  refine n_caught (f := F0 m pc ls rest) X.here (n_find (f := F0 m pc ls rest) (meth := meth) (code := c) X.method' X.code htab hx h0 (hW.classLinks hcl5) (cell := ce) (by show T.heap[q]? = some ce; rw [hT]; exact hcell) (fun k h => by rw [hv] at h; cases h) ⟨k1, hk1⟩ ⟨k2, hk2⟩ (by show T.vm.assignable _ _ = true; rw [hW.alike.assignable]; exact hasg)) a1
end NCW
section GLA
variable {l : Launch} {μ : MU} {Φ : Option AV → AS → VV → Prop} {c0 s0 : Nat} {S : AS} {pc : Nat} {ls : LL} {st : List AV} {v : VV}
theorem G_lald {k len : Nat} {i : Int} (hd : decode μ.2.1 pc = .ok (.laload, 1)) (hs : S.2.1 k = (5, len)) (h0 : 0 ≤ i) (h1 : i < (len : Int)) (kk : G l μ Φ c0 s0 S (pc+1) ls (al (v k i) :: st) v) : G l μ Φ c0 s0 S (pc) ls (ai i :: ar (some k) :: st) v := by
  intro p en s m args below meth c H locs D T ea A ad ad0 n0 lsC hC hS
  have hk : k < S.1 := hS.two
  have hi : iR i := hS.top
  have he := wl_get (T := T) (ad := ad) (v := v) hk
  rw [cell_arr hs rfl] at he
  refine va_lald hC.1 hC.2.1 hC.2.2.2.2.2.2.2.2.1 hS.2.2.2.2.2.1 k 5 he rfl (in_I hi h0 h1) hd ?_
  have hr : lR (v k i) := by
    have h9 := hS.vr k hk i
    unfold skd at h9
    rw [hs] at h9
    exact h9
  have k2 := kk p en s m args below meth c _ _ D T ea A _ ad0 n0 _ hC (hS.stk fun h => RAs_cons.mpr ⟨hr, (RAs_cons.mp (RAs_cons.mp h).2).2⟩)
  have e : Int64.ofInt (v k ((Int32.ofInt i).toNatClampNeg : Nat)) = Int64.ofInt (v k i) := by rw [clampI hi, Int.toNat_of_nonneg h0]
  show W p l en _ s m args below meth c H locs c0 s0 _ (F0 m (pc + 1) lsC (Value.long (Int64.ofInt (v k ((Int32.ofInt i).toNatClampNeg : Nat))) :: st.map (tr ad ea)))
  rw [e]
  exact k2
theorem upd_L {f : Int → Int} {i x : Int} (h0 : 0 ≤ i) : vp_updL (fun (j : Nat) => Int64.ofInt (f j)) i.toNat (Int64.ofInt x) = fun (j : Nat) => Int64.ofInt ((fun b => if b = i then x else f b) (j : Int)) := by
  funext j
  unfold vp_updL
  by_cases g : j = i.toNat
  · have g2 : (j : Int) = i := by omega
    rw [if_pos g]
    simp only [g2, if_true]
  · have g2 : ¬ ((j : Int) = i) := by omega
    rw [if_neg g]
    simp only [g2, if_false]
theorem G_last {k len : Nat} {i x : Int} (hd : decode μ.2.1 pc = .ok (.lastore, 1)) (hs : S.2.1 k = (5, len)) (h0 : 0 ≤ i) (h1 : i < (len : Int)) (kk : G l μ Φ c0 s0 S (pc+1) ls (st) (up v k i x)) : G l μ Φ c0 s0 S (pc) ls (al x :: ai i :: ar (some k) :: st) v := by
  intro p en s m args below meth c H locs D T ea A ad ad0 n0 lsC hC hS
  have hk : k < S.1 := hS.three
  have hi : iR i := hS.two
  have he := wl_get (T := T) (ad := ad) (v := v) hk
  rw [cell_arr hs rfl] at he
  refine va_last hC.1 hC.2.1 hC.2.2.2.2.2.2.2.2.1 hS.2.2.2.2.2.1 hS.2.2.2.2.2.2.1 hS.2.2.2.2.2.2.2.1 k 5 he rfl (in_I hi h0 h1) hd (fun H1 locs1 g1 g2 g3 => ?_)
  have e : (wl T ad S v).set k (ad k, .inl (T 5, len, .inr (.inl (vp_updL (fun (j : Nat) => Int64.ofInt (v k (j : Int))) (Int32.ofInt i).toNatClampNeg (Int64.ofInt x))))) = wl T ad S (up v k i x) := by
    have h9 := wl_set (T := T) (ad := ad) (S := S) (S2 := S) (v := v) (v2 := up v k i x) (k := k) rfl rfl (fun _ _ => rfl) (fun a ha => up_ne ha)
    rw [cell_arr hs rfl, up_at] at h9
    rw [← h9, clampI hi, upd_L h0]
    rfl
  rw [e] at g1 g2
  exact kk p en s m args below meth c _ _ D T ea A _ ad0 n0 _ hC ((hS.stk fun h => (RAs_cons.mp (RAs_cons.mp (RAs_cons.mp h).2).2).2).hp hS.2.1 (RV_up hS.vr (by unfold skd; rw [hs]; exact hS.top)) g1 g2 g3)
end GLA
/-! a method with an exception table at work -/
def QT (below : List Frame) (c : Code) (tab : List ExceptionTableEntry) (Qc : Array Value → State → Outcome → State → Prop) (a : Array Value) (s : State) (mc ms : Nat) (A : Nat → Prop) : State → Prop := fun t => c.exceptionTable.toList = tab → MQ below Qc a s mc ms A t
def GT (l : Launch) (μ : MU) (Φ : Option AV → AS → VV → Prop) (tab : List ExceptionTableEntry) (c0 s0 : Nat) (S : AS) (pc : Nat) (ls : LL) (st : List AV) (v : VV) : Prop :=
  ∀ (p : Program) (e : Env) (s : State) (m : MethodId) (args : Array Value) (below : List Frame) (meth : Method) (c : Code) (H : Heap) (locs : List Loc) (D : va_G) (T : Nat → ClassId) (ea : Nat → Nat) (A : Nat → Prop) (ad ad0 : Nat → Nat) (n0 : Nat) (lsC : Array Slot),
    Cx l μ p s m args meth c D T ea A → Sx μ s D T ea A ad0 n0 S ls st v H locs ad lsC →
    W p l e (rmd μ.2.2.2.2.1 μ.2.2.2.2.2.1 μ.2.2.2.2.2.2.1) s m args below meth c H locs c0 s0 (QT below c tab (QQ D T ea A ad0 n0 Φ) args s μ.2.2.2.2.2.1 μ.2.2.2.2.2.2.1 A) (F0 m pc lsC (st.map (tr ad ea)))
section GTS
variable {l : Launch} {μ : MU} {Φ : Option AV → AS → VV → Prop} {tab : List ExceptionTableEntry} {c0 s0 : Nat} {S : AS} {pc : Nat} {ls : LL} {st : List AV} {v : VV}
theorem GT_of_G (k : G l μ Φ c0 s0 S pc ls st v) : GT l μ Φ tab c0 s0 S pc ls st v := by
  intro p en s m args below meth c H locs D T ea A ad ad0 n0 lsC hC hS Tt hT X
  obtain ⟨t, a1, b1⟩ := k p en s m args below meth c H locs D T ea A ad ad0 n0 lsC hC hS Tt hT X
  exact ⟨t, a1, fun _ => b1⟩
theorem GT_aload_n {i : Fin 4} {r : Option Nat} (hd : decode μ.2.1 pc = .ok (.aload_n i, 1)) (hl : ls[i.1]? = some (some (ar r))) (k : GT l μ Φ tab c0 s0 S (pc+1) ls (ar r :: st) v) : GT l μ Φ tab c0 s0 S (pc) ls (st) v := by
  intro p en s m args below meth c H locs D T ea A ad ad0 n0 lsC hC hS
  have k2 := k p en s m args below meth c _ _ D T ea A _ ad0 n0 _ hC (hS.stk fun h => RAs_cons.mpr ⟨hS.2.2.2.2.1 _ _ hl, h⟩)
  cases r with
  | none => exact lv_aload_nN hC.1 hC.2.1 hd rfl (hS.lr.2.2 _ _ hl) k2
  | some x => exact lv_aload_n hC.1 hC.2.1 hd rfl (hS.lr.2.2 _ _ hl) k2
theorem GT_iload_n {i : Fin 4} {x : Int} (hd : decode μ.2.1 pc = .ok (.iload_n i, 1)) (hl : ls[i.1]? = some (some (ai x))) (k : GT l μ Φ tab c0 s0 S (pc+1) ls (ai x :: st) v) : GT l μ Φ tab c0 s0 S (pc) ls (st) v := by
  intro p en s m args below meth c H locs D T ea A ad ad0 n0 lsC hC hS
  exact lv_iload_n hC.1 hC.2.1 hd rfl (hS.lr.2.2 _ _ hl) (k p en s m args below meth c _ _ D T ea A _ ad0 n0 _ hC (hS.stk fun h => RAs_cons.mpr ⟨hS.2.2.2.2.1 _ _ hl, h⟩))
theorem GT_iconst {n : Int} (hd : decode μ.2.1 pc = .ok (.iconst n, 1)) (hr : iR n) (k : GT l μ Φ tab c0 s0 S (pc+1) ls (ai n :: st) v) : GT l μ Φ tab c0 s0 S (pc) ls (st) v := by
  intro p en s m args below meth c H locs D T ea A ad ad0 n0 lsC hC hS
  exact lv_iconst hC.1 hC.2.1 hd rfl (k p en s m args below meth c _ _ D T ea A _ ad0 n0 _ hC (hS.stk fun h => RAs_cons.mpr ⟨hr, h⟩))
theorem RAl_none {n i : Nat} {ls : LL} (h : RAl n ls) : RAl n (ls.set i none) := by
  intro j b hj
  rw [List.getElem?_set] at hj
  split at hj
  · split at hj
    · cases hj
    · cases hj
  · exact h j b hj
theorem lset_none {ad ea : Nat → Nat} {nL i : Nat} {lsC lsD : Array Slot} {ls : LL} {w : Value} (hg : lg1 ls i = true) (h2 : lv_has lsD nL ((i, w) :: (lpair ad ea ls).filter (fun q => !(q.1 == i) && !(q.1 + 1 == i && q.2.category == 2)))) : LR ad ea nL lsD (ls.set i none) := by
  refine ⟨h2.1, h2.2.1, fun j b hj => ?_⟩
  rw [List.getElem?_set] at hj
  split at hj
  · split at hj
    · cases hj
    · cases hj
  · rename_i hij
    refine h2.2.2 (j, tr ad ea b) (List.mem_cons_of_mem _ (List.mem_filter.mpr ⟨lpair_mem hj, ?_⟩))
    simp only [Bool.and_eq_true, Bool.not_eq_true', Bool.and_eq_false_iff, beq_eq_false_iff_ne, ne_eq]
    refine ⟨fun h => hij h.symm, ?_⟩
    by_cases h1 : j + 1 = i
    · right
      intro hc
      obtain ⟨y, rfl⟩ := lpair_cat (a := b) (ad := ad) (ea := ea) (by simpa using hc)
      subst h1
      simp [lg1, hj] at hg
    · exact Or.inl h1
/-- a call that throws, and its catching at hpc by astore i -/
theorem GT_callX {idx : Nat} {y : MethodName} {cc : ByteArray} {ret : Option FieldType} {maxL d2 mc2 ms2 k ci : Nat} {as stk : List AV} {Φ2 : Option AV → AS → VV → Prop} {x : ExceptionTableEntry} {tl : List ExceptionTableEntry} {i : Nat} (hd : decode μ.2.1 pc = .ok (.invokevirtual idx, 3)) (hm : MV μ.1.cls idx y cc ret maxL as.length) (hs : (S.2.1 k).1 = 16 + ci) (hci : ci < 7) (hR : Rof ci = y.cls) (h2 : CtX l y cc ret maxL d2 mc2 ms2 (ar (some k) :: as) S v Φ2) (hst : stk = as.reverse ++ ar (some k) :: st) (hdp : d2 + 1 ≤ μ.2.2.2.2.1) (hmx : Nat.ble maxL 18 = true) (hrm : Nat.ble (st.map acat).sum 8 = true) (hcl : c0 + mc2 ≤ μ.2.2.2.2.2.1) (hsl : s0 + ms2 ≤ μ.2.2.2.2.2.2.1)
    (htab : tab = x :: tl) (hx : covers x pc = true) (h0 : x.catchType ≠ 0) (hlink : Cond.classLink μ.1.cls x.catchType NSE ∈ lw_good) (hda : decode μ.2.1 x.handlerPc = .ok (.astore i, 2)) (hn : Nat.blt i μ.2.2.2.1 = true) (hg : lg1 ls i = true)
    (kk : ∀ (S2 : AS) (v2 : VV), Φ2 none S2 v2 → G l μ Φ (c0 + mc2) (s0 + ms2) S2 (x.handlerPc + 2) (ls.set i none) [] v2) : GT l μ Φ tab c0 s0 S pc ls stk v := by
  intro p en s m args below meth c H locs D T ea A ad ad0 n0 lsC hC hS
  subst hst
  have hmx := Nat.le_of_ble_eq_true hmx
  have hrm := Nat.le_of_ble_eq_true hrm
  have hall : RAs S.1 (as.reverse ++ ar (some k) :: st) := hS.2.2.2.1
  have has : RAs S.1 (ar (some k) :: as) := RAs_cons.mpr ⟨hall _ (List.mem_append_right _ List.mem_cons_self), fun b hb => hall b (List.mem_append_left _ (List.mem_reverse.mpr hb))⟩
  have hts := hC.2.2.2.2.2.2.2.1
  have hrun := vx_runV (As := as.map (tr ad ea)) (rest := st.map (tr ad ea)) (e := en) (below := below) (meth := meth) (locs := locs) (cells := c0) (slots := s0) (R := rmd μ.2.2.2.2.1 μ.2.2.2.2.2.1 μ.2.2.2.2.2.2.1) (g := F0 m pc lsC ((as.reverse ++ ar (some k) :: st).map (tr ad ea))) (nL := μ.2.2.2.1) (Ts := lw_good) (own := μ.1.cls) ⟨hC.1, hC.2.1, hC.2.2.1, hC.2.2.2.2.2.2.1, hts⟩ (h2 has hS.2.1 hS.vr D T ea ad H.size) (cwV as.length hts (good_cons hm.1.1 (good_cons hm.1.2.1 (good_cons hm.1.2.2.1 (good_cons hm.1.2.2.2.1 (good_cons hm.1.2.2.2.2 lw_good_in))))) rfl rfl rfl ⟨rfl, hm.2⟩ ⟨hdp, by show 8 + (maxL + 11) + (37 * d2 + 11) ≤ 37 * _ + 11; have := Nat.mul_le_mul_left 37 hdp; omega⟩) ⟨pre_Pc, by have hk : k < S.1 := (RAs_cons.mp has).1; have he := wl_get (T := T) (ad := ad) (v := v) hk; rw [cell_obj hs] at he; rw [← hR]; exact va_recv hC.2.2.2.2.2.2.2.2.1 hS.2.2.2.2.2.1 (cls_at hci) he, pre_in (vs := (ar (some k) :: as).map (tr ad ea)) hC hS⟩ rfl (by rw [List.length_map]) hS.lr.1 (by show (as.reverse ++ ar (some k) :: st).map (tr ad ea) = _; rw [List.map_append, List.map_reverse]; rfl) (by rw [acat_sum]; show 2 * 0 + _ ≤ _; omega) hd ⟨hcl, hsl⟩
  intro Tt hT X
  by_cases hct : c.exceptionTable.toList = tab
  · rcases hrun Tt hT X with ⟨vv, st0, t, T', L, h00, X', hL, e1, e2, hq, stp⟩ | ⟨q, st0, t, T', L, E, ce, h00, X', hL, e1, e2, ⟨hE, ⟨S2, v2, ad2, hq, hn2, had, hwr, hrv, hP2, hK2, hD2⟩, hz, hkp⟩, hce, hcv, hfc, stp⟩
    · exact hq.elim
    · subst hE
      have hA := hC.2.2.2.2.2.2.2.2.2.2
      have hD := hS.2.2.2.2.2.2.1
      have hVS := hS.2.2.2.2.2.2.2.1
      have hF : ∀ q, va_A (wl T ad S v) H.size q → A q := by
        intro q h
        rcases h with ⟨k, e, h⟩ | h
        · exact hD.2 k _ h
        · exact hA q (Nat.le_trans hVS.1 h)
      rw [h00] at hz hkp
      have hlr := hS.lr
      have hS2 : Sx μ s D T ea A ad0 n0 S2 ls [] v2 T'.heap (locs ++ L) ad2 lsC := ⟨⟨Nat.le_trans hS.1.1 hn2, fun k h => (had k (Nat.lt_of_lt_of_le h hS.1.1)).trans (hS.1.2 k h)⟩, hwr, hrv, (fun _ h => by cases h), fun i b hb => RA_mono hn2 (hS.2.2.2.2.1 i b hb), by rw [e1]; exact hP2, ⟨hD2.1, fun k q h => hF _ (hD2.2 k q h)⟩, ⟨Nat.le_trans hVS.1 (by rw [e1]; exact hz), fun q h1 h2 => by rw [e1, hkp q (Nat.lt_of_lt_of_le h1 hVS.1) (fun z => h2 (hF q z))]; exact hVS.2.1 q h1 h2, fun q hq => by
        rcases List.mem_append.mp hq with h | h
        · exact hVS.2.2 q h
        · exact hF _ (hL q h)⟩, ⟨hlr.1, hlr.2.1, fun i b hb => by rw [tr_agree had (hS.2.2.2.2.1 i b hb)]; exact hlr.2.2 i b hb⟩⟩
      have kc := n_catch (p := p) (l := l) (e := en) (R := rmd μ.2.2.2.2.1 μ.2.2.2.2.2.1 μ.2.2.2.2.2.2.1) (args := args) (below := below) (meth := meth) (cells := c0 + mc2) (slots := s0 + ms2) (locs := locs ++ L) (H := T'.heap) (Q := MQ below (QQ D T ea A ad0 n0 Φ) args s μ.2.2.2.2.2.1 μ.2.2.2.2.2.2.1 A) (pc := pc) (ls := lsC) (rest := st.map (tr ad ea)) (own := μ.1.cls) (name := NSE) (E := NSE) (q := q) (ce := ce) hC.2.2.2.2.2.2.1 (hct.trans htab) hx h0 (hts _ hlink) (hC.2.2.2.2.2.2.2.2.2.1.1.2.2.2.1 _ nw_6) (by rw [e1]; exact hce) hcv hfc
        (lv_astore hC.1 hC.2.1 hda (lpair_has hS2.lr) (by simpa using hn) rfl (fun lsD hl => kk S2 v2 hq p en s m args below meth c T'.heap (locs ++ L) D T ea A ad2 ad0 n0 lsD hC (hS2.loc (RAl_none hS2.2.2.2.2.1) (lset_none (lsC := lsC) hg hl))))
      obtain ⟨t2, a1, b1⟩ := kc T' rfl X'
      exact ⟨t2, stp.trans a1, fun _ => b1⟩
  · exact ⟨_, Steps.refl _, fun h => absurd h hct⟩
end GTS
