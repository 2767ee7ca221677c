/-- the end of a method by a NoSuchElementException -/
def XQ (D : va_G) (T : Nat → ClassId) (A : Nat → Prop) (ad0 : Nat → Nat) (n0 : Nat) (Φ : Option AV → AS → VV → Prop) : String → State → State → Prop := fun E st t =>
  E = NSE ∧ (∃ (S : AS) (v : VV) (ad : Nat → Nat), Φ none S v ∧ n0 ≤ S.1 ∧ (∀ k, k < n0 → ad k = ad0 k) ∧ WR S ∧ RV S v ∧ va_P D classes (wl T ad S v) t.heap ∧ va_K D classes (tyl T) t ∧ va_D A (wl T ad S v)) ∧ va_F A st t
def QX (below : List Frame) (c : Code) (XC : String → State → State → Prop) (a : Array Value) (s : State) (mc ms : Nat) (A : Nat → Prop) : State → Prop := fun t => (∀ x ∈ c.exceptionTable.toList, False) → vx_MQ below (fun _ _ _ _ => False) XC a s mc ms A t
/-- a method at work that will throw -/
def GX (l : Launch) (μ : MU) (Φ : Option AV → AS → VV → Prop) (c0 s0 : Nat) (S : AS) (pc : Nat) (ls : LL) (st : List AV) (v : VV) : Prop :=
  ∀ (p : Program) (e : Env) (s : State) (m : MethodId) (args : Array Value) (below : List Frame) (meth : Method) (c : Code) (H : Heap) (locs : List Loc) (D : va_G) (T : Nat → ClassId) (ea : Nat → Nat) (A : Nat → Prop) (ad ad0 : Nat → Nat) (n0 : Nat) (lsC : Array Slot),
    Cx l μ p s m args meth c D T ea A → Sx μ s D T ea A ad0 n0 S ls st v H locs ad lsC →
    W p l e (rmd μ.2.2.2.2.1 μ.2.2.2.2.2.1 μ.2.2.2.2.2.2.1) s m args below meth c H locs c0 s0 (QX below c (XQ D T A ad0 n0 Φ) args s μ.2.2.2.2.2.1 μ.2.2.2.2.2.2.1 A) (F0 m pc lsC (st.map (tr ad ea)))
section GXS
variable {l : Launch} {μ : MU} {Φ : Option AV → AS → VV → Prop} {c0 s0 : Nat} {S : AS} {pc : Nat} {ls : LL} {st : List AV} {v : VV}
theorem GX_aload_n {i : Fin 4} {r : Option Nat} (hd : decode μ.2.1 pc = .ok (.aload_n i, 1)) (hl : ls[i.1]? = some (some (ar r))) (k : GX l μ Φ c0 s0 S (pc+1) ls (ar r :: st) v) : GX l μ Φ c0 s0 S (pc) ls (st) v := by
  intro p en s m args below meth c H locs D T ea A ad ad0 n0 lsC hC hS
  have k2 := k p en s m args below meth c _ _ D T ea A _ ad0 n0 _ hC (hS.stk fun h => RAs_cons.mpr ⟨hS.2.2.2.2.1 _ _ hl, h⟩)
  cases r with
  | none => exact lv_aload_nN hC.1 hC.2.1 hd rfl (hS.lr.2.2 _ _ hl) k2
  | some x => exact lv_aload_n hC.1 hC.2.1 hd rfl (hS.lr.2.2 _ _ hl) k2
theorem GX_iload_n {i : Fin 4} {x : Int} (hd : decode μ.2.1 pc = .ok (.iload_n i, 1)) (hl : ls[i.1]? = some (some (ai x))) (k : GX l μ Φ c0 s0 S (pc+1) ls (ai x :: st) v) : GX l μ Φ c0 s0 S (pc) ls (st) v := by
  intro p en s m args below meth c H locs D T ea A ad ad0 n0 lsC hC hS
  exact lv_iload_n hC.1 hC.2.1 hd rfl (hS.lr.2.2 _ _ hl) (k p en s m args below meth c _ _ D T ea A _ ad0 n0 _ hC (hS.stk fun h => RAs_cons.mpr ⟨hS.2.2.2.2.1 _ _ hl, h⟩))
theorem GX_astore_n {i : Fin 4} {r : Option Nat} (hd : decode μ.2.1 pc = .ok (.astore_n i, 1)) (hn : Nat.blt i.1 μ.2.2.2.1 = true) (hg : lg1 ls i.1 = true) (k : GX l μ Φ c0 s0 S (pc+1) (ls.set i.1 (some (ar r))) (st) v) : GX l μ Φ c0 s0 S (pc) ls (ar r :: st) v := by
  intro p en s m args below meth c H locs D T ea A ad ad0 n0 lsC hC hS
  cases r with
  | none => exact lv_astore_nN hC.1 hC.2.1 hd rfl (lpair_has hS.lr) (by simpa using hn) rfl (fun lsD hl => k p en s m args below meth c _ _ D T ea A _ ad0 n0 _ hC ((hS.stk fun h => (RAs_cons.mp h).2).loc (RAl_set hS.2.2.2.2.1 hS.top) (lset_LR (lsC := lsC) (a := ar none) hg hl)))
  | some x => exact lv_astore_n hC.1 hC.2.1 hd rfl (lpair_has hS.lr) (by simpa using hn) rfl (fun lsD hl => k p en s m args below meth c _ _ D T ea A _ ad0 n0 _ hC ((hS.stk fun h => (RAs_cons.mp h).2).loc (RAl_set hS.2.2.2.2.1 hS.top) (lset_LR (lsC := lsC) (a := ar (some x)) hg hl)))
theorem GX_ifnonnullN {off : Int} (hd : decode μ.2.1 pc = .ok (.ifnonnull off, 3)) (kk : GX l μ Φ c0 s0 S (pc+3) ls (st) v) : GX l μ Φ c0 s0 S (pc) ls (ar none :: st) v := by
  intro p en s m args below meth c H locs D T ea A ad ad0 n0 lsC hC hS
  exact lv_ifnonnullN hC.1 hC.2.1 hd (kk p en s m args below meth c _ _ D T ea A _ ad0 n0 _ hC (hS.stk fun h => (RAs_cons.mp h).2))
theorem GX_ifnonnullS {k : Nat} {off : Int} (tgt : Nat) (hd : decode μ.2.1 pc = .ok (.ifnonnull off, 3)) (ht : (pc : Int) + off = (tgt : Int)) (kk : GX l μ Φ c0 s0 S (tgt) ls (st) v) : GX l μ Φ c0 s0 S (pc) ls (ar (some k) :: st) v := by
  intro p en s m args below meth c H locs D T ea A ad ad0 n0 lsC hC hS
  exact lv_ifnonnull hC.1 hC.2.1 hd ht (kk p en s m args below meth c _ _ D T ea A _ ad0 n0 _ hC (hS.stk fun h => (RAs_cons.mp h).2))
theorem GX_tableOut {dflt lo hi : Int} {offs : Array Int} {len : Nat} {x : Int} (tgt : Nat) (hd : decode μ.2.1 pc = .ok (.tableswitch dflt lo hi offs, len)) (h1 : x < lo ∨ hi < x) (ht : (pc : Int) + dflt = (tgt : Int)) (kk : GX l μ Φ c0 s0 S (tgt) ls (st) v) : GX l μ Φ c0 s0 S (pc) ls (ai x :: st) v := by
  intro p en s m args below meth c H locs D T ea A ad ad0 n0 lsC hC hS
  have hx : iR x := hS.top
  have e := iR_toInt hx
  exact lv_tableOut hC.1 hC.2.1 hd (by rw [e]; omega) ht (kk p en s m args below meth c _ _ D T ea A _ ad0 n0 _ hC (hS.stk fun h => (RAs_cons.mp h).2))
theorem call_QX {p : Program} {en : Env} {s : State} {m : MethodId} {args : Array Value} {below : List Frame} {meth : Method} {c : Code} {H : Heap} {locs : List Loc} {D : va_G} {T : Nat → ClassId} {ea : Nat → Nat} {A : Nat → Prop} {ad ad0 : Nat → Nat} {n0 : Nat} {lsC : Array Slot} {stk : List AV} {Φ2 : Option AV → AS → VV → Prop} {mc2 ms2 : Nat} {a : Array Value} (hC : Cx l μ p s m args meth c D T ea A) (hS : Sx μ s D T ea A ad0 n0 S ls stk v H locs ad lsC) (hst : RAs S.1 st)
    (hr : va_Run p l en (rmd μ.2.2.2.2.1 μ.2.2.2.2.2.1 μ.2.2.2.2.2.2.1) s m args below meth c H locs c0 s0 mc2 ms2 (F0 m pc lsC (stk.map (tr ad ea))) (st.map (tr ad ea)) (QQ D T ea (va_A (wl T ad S v) H.size) ad S.1 Φ2 a) (va_A (wl T ad S v) H.size))
    (kk : ∀ (r : Option AV) (S2 : AS) (v2 : VV), Φ2 r S2 v2 → GX l μ Φ (c0 + mc2) (s0 + ms2) S2 (pc + 3) ls (r.toList ++ st) v2) :
    W p l en (rmd μ.2.2.2.2.1 μ.2.2.2.2.2.1 μ.2.2.2.2.2.2.1) s m args below meth c H locs c0 s0 (QX below c (XQ D T A ad0 n0 Φ) args s μ.2.2.2.2.2.1 μ.2.2.2.2.2.2.1 A) (F0 m pc lsC (stk.map (tr ad ea))) := by
  intro Tt hT X
  obtain ⟨vv, st0, t, T', L, h0, X', hL, e1, e2, ⟨⟨r, S2, v2, ad2, hv, hq, hn, had, hra, hwr, hrv, hP2, hK2, hD2⟩, hz, hk⟩, stp⟩ := hr Tt hT X
  have hA := hC.2.2.2.2.2.2.2.2.2.2
  have hD := hS.2.2.2.2.2.2.1
  have hVS := hS.2.2.2.2.2.2.2.1
  have hF : ∀ q, va_A (wl T ad S v) H.size q → A q := by
    intro q h
    rcases h with ⟨k, e, h⟩ | h
    · exact hD.2 k _ h
    · exact hA q (Nat.le_trans hVS.1 h)
  have hvv : vv = r.map (tr ad2 ea) := by cases hv; rfl
  subst hvv
  rw [h0] at hz hk
  have hst2 : st.map (tr ad2 ea) = st.map (tr ad ea) := List.map_congr_left fun b hb => tr_agree had (hst b hb)
  have hlr := hS.lr
  have k2 := kk r S2 v2 hq p en s m args below meth c T'.heap (locs ++ L) D T ea A ad2 ad0 n0 lsC hC ⟨⟨Nat.le_trans hS.1.1 hn, fun k h => (had k (Nat.lt_of_lt_of_le h hS.1.1)).trans (hS.1.2 k h)⟩, hwr, hrv, ?_, fun i b hb => RA_mono hn (hS.2.2.2.2.1 i b hb), by rw [e1]; exact hP2, ⟨hD2.1, fun k q h => hF _ (hD2.2 k q h)⟩, ?_, ⟨hlr.1, hlr.2.1, fun i b hb => by rw [tr_agree had (hS.2.2.2.2.1 i b hb)]; exact hlr.2.2 i b hb⟩⟩
  · obtain ⟨t2, a1, b1⟩ := k2 T' rfl X'
    refine ⟨t2, stp t2 ?_, b1⟩
    have e : (r.toList ++ st).map (tr ad2 ea) = (r.map (tr ad2 ea)).toList ++ st.map (tr ad ea) := by
      rw [List.map_append, hst2]
      cases r <;> rfl
    rw [e] at a1
    exact a1
  · intro b hb
    rcases List.mem_append.mp hb with h | h
    · cases r with
      | none => cases h
      | some w =>
        have : b = w := by simpa using h
        rw [this]
        exact hra w rfl
    · exact RA_mono hn (hst b h)
  · exact ⟨Nat.le_trans hVS.1 (by rw [e1]; exact hz), fun q h1 h2 => by rw [e1, hk q (Nat.lt_of_lt_of_le h1 hVS.1) (fun z => h2 (hF q z))]; exact hVS.2.1 q h1 h2, fun q hq => by
      rcases List.mem_append.mp hq with h | h
      · exact hVS.2.2 q h
      · exact hF _ (hL q h)⟩
theorem GX_callV {idx : Nat} {y : MethodName} {cc : ByteArray} {ret : Option FieldType} {maxL d2 mc2 ms2 k ci : Nat} {as stk : List AV} {Φ2 : Option AV → AS → VV → Prop} (hd : decode μ.2.1 pc = .ok (.invokevirtual idx, 3)) (hm : MV μ.1.cls idx y cc ret maxL as.length) (hs : (S.2.1 k).1 = 16 + ci) (hci : ci < 7) (hR : Rof ci = y.cls) (h2 : Ct l y cc ret maxL d2 mc2 ms2 (ar (some k) :: as) S v Φ2) (hst : stk = as.reverse ++ ar (some k) :: st) (hdp : d2 + 1 ≤ μ.2.2.2.2.1) (hmx : Nat.ble maxL 18 = true) (hrm : Nat.ble (st.map acat).sum 8 = true) (hcl : c0 + mc2 ≤ μ.2.2.2.2.2.1) (hsl : s0 + ms2 ≤ μ.2.2.2.2.2.2.1) (kk : ∀ (r : Option AV) (S2 : AS) (v2 : VV), Φ2 r S2 v2 → GX l μ Φ (c0 + mc2) (s0 + ms2) S2 (pc + 3) ls (r.toList ++ st) v2) : GX l μ Φ c0 s0 S pc ls stk v := by
  intro p en s m args below meth c H locs D T ea A ad ad0 n0 lsC hC hS
  subst hst
  have hmx := Nat.le_of_ble_eq_true hmx
  have hrm := Nat.le_of_ble_eq_true hrm
  have hall : RAs S.1 (as.reverse ++ ar (some k) :: st) := hS.2.2.2.1
  have hst9 : RAs S.1 st := fun b hb => hall b (List.mem_append_right _ (List.mem_cons_of_mem _ hb))
  have has : RAs S.1 (ar (some k) :: as) := RAs_cons.mpr ⟨hall _ (List.mem_append_right _ List.mem_cons_self), fun b hb => hall b (List.mem_append_left _ (List.mem_reverse.mpr hb))⟩
  have hts := hC.2.2.2.2.2.2.2.1
  refine call_QX hC hS hst9 (va_runV (As := as.map (tr ad ea)) (nL := μ.2.2.2.1) (Ts := lw_good) (own := μ.1.cls) ⟨hC.1, hC.2.1, hC.2.2.1, hC.2.2.2.2.2.2.1, hts⟩ (h2 has hS.2.1 hS.vr D T ea ad H.size) (cwV as.length hts (good_cons hm.1.1 (good_cons hm.1.2.1 (good_cons hm.1.2.2.1 (good_cons hm.1.2.2.2.1 (good_cons hm.1.2.2.2.2 lw_good_in))))) rfl rfl rfl ⟨rfl, hm.2⟩ ⟨hdp, by show 8 + (maxL + 11) + (37 * d2 + 11) ≤ 37 * _ + 11; have := Nat.mul_le_mul_left 37 hdp; omega⟩) ⟨pre_Pc, by have hk : k < S.1 := (RAs_cons.mp has).1; have he := wl_get (T := T) (ad := ad) (v := v) hk; rw [cell_obj hs] at he; rw [← hR]; exact va_recv hC.2.2.2.2.2.2.2.2.1 hS.2.2.2.2.2.1 (cls_at hci) he, pre_in (vs := (ar (some k) :: as).map (tr ad ea)) hC hS⟩ rfl (by rw [List.length_map]) hS.lr.1 ?_ (by rw [acat_sum]; show 2 * 0 + _ ≤ _; omega) hd ⟨hcl, hsl⟩) kk
  show (as.reverse ++ ar (some k) :: st).map (tr ad ea) = _
  rw [List.map_append, List.map_reverse]
  rfl
abbrev nL : List Cond := nAtF RX5 170 NSE 13 prog_18_method_4_code "java/lang/RuntimeException" ["java/lang/Exception"]
theorem at_NSE : ∀ w ∈ nL, w ∈ lw_good ∨ w = .castable NSE NSE ∨ w = .declares ⟨"java/lang/RuntimeException", "<init>", "(Ljava/lang/String;)V"⟩ ∨ w = .declares ⟨"java/lang/Exception", "<init>", "(Ljava/lang/String;)V"⟩ ∨ w = .declares ⟨"java/lang/Throwable", "<init>", "(Ljava/lang/String;)V"⟩ := by decide +kernel
theorem ot_NSE : ∀ w ∈ Cond.classLink RX5 166 NSE :: Cond.initialized NSE :: nL, vx_ot w = true := by decide +kernel
theorem nw_6 : Cond.castable NSE NSE ∈ nestw := by unfold nestw; simp
theorem nw_7 : Cond.declares ⟨"java/lang/RuntimeException", "<init>", "(Ljava/lang/String;)V"⟩ ∈ nestw := by unfold nestw; simp
theorem nw_8 : Cond.declares ⟨"java/lang/Exception", "<init>", "(Ljava/lang/String;)V"⟩ ∈ nestw := by unfold nestw; simp
theorem nw_9 : Cond.declares ⟨"java/lang/Throwable", "<init>", "(Ljava/lang/String;)V"⟩ ∈ nestw := by unfold nestw; simp
theorem nL_at {args : Array Value} {s : State} (hts : ∀ w ∈ lw_good, w.before args s = true) (hN : EXN s) (w : Cond) (hw : w ∈ nL) : w.before args s = true := by
  rcases at_NSE w hw with h | rfl | rfl | rfl | rfl
  · exact hts w h
  · exact hN _ nw_6
  · exact hN _ nw_7
  · exact hN _ nw_8
  · exact hN _ nw_9
theorem GX_throw {is : Nat} (hl : l.stackTraces = false) (hcl : μ.1.cls = RX5) (his : is = 168 ∨ is = 188) (d0 : decode μ.2.1 pc = .ok (.new 166, 3)) (d3 : decode μ.2.1 (pc + 3) = .ok (.dup, 1)) (d4 : decode μ.2.1 (pc + 4) = .ok (.ldc is, 2)) (d6 : decode μ.2.1 (pc + 6) = .ok (.invokespecial 170, 3)) (d9 : decode μ.2.1 (pc + 9) = .ok (.athrow, 1)) (hf : 6 ≤ μ.2.2.2.2.1) (hc : c0 + 1 ≤ μ.2.2.2.2.2.1) (hs : s0 + 6 ≤ μ.2.2.2.2.2.2.1) (hq : Φ none S v) : GX l μ Φ c0 s0 S pc ls [] v := by
  intro p en s m args below meth c H locs D T ea A ad ad0 n0 lsC hC hS Tt hT X
  by_cases hx0 : ∀ x ∈ c.exceptionTable.toList, False
  · have hts := hC.2.2.2.2.2.2.2.1
    have hE := hC.2.2.2.2.2.2.2.2.2.1.1
    have hN := hE.2.2.2.1
    have hQ := hE.2.2.2.2.2
    have hVS := hS.2.2.2.2.2.2.2.1
    obtain ⟨sa, tx, hstr⟩ : ∃ (sa : Nat) (tx : String), vk_R RX5 is tx sa s := by
      rcases his with rfl | rfl
      · exact hQ.1.elim fun a h => ⟨a, _, h⟩
      · exact hQ.2.1.elim fun a h => ⟨a, _, h⟩
    have hown : s.vm.findClass RX5 = some m.cls := by rw [← hcl]; exact hC.2.2.2.2.2.2.1
    obtain ⟨t, a1, b1⟩ := n_throw (Qc := fun _ _ _ _ => False) (XC := XQ D T A ad0 n0 Φ) (free := A) (mc := μ.2.2.2.2.2.1) (ms := μ.2.2.2.2.2.2.1) (rest := []) (ls := lsC) hC.1 hC.2.1 hl (by decide +kernel) (by decide +kernel) (by decide +kernel) (by decide +kernel) hown (cls := NSE) (Y := "java/lang/RuntimeException") (names := ["java/lang/Exception"]) (rx := prog_18_method_4_code) (ix := 13) (by decide +kernel) (by decide +kernel) (by decide +kernel) (ik := 166) (ic := 170)
      (hts _ (by decide +kernel)) (hts _ (by decide +kernel)) hstr (nL_at hts hN) ot_NSE hQ.2.2.1 hQ.2.2.2.1 hVS (hS.lr.1.trans hC.2.2.1.symm) d0 d3 d4 d6 d9 (fun x hx => (hx0 x hx).elim)
      (by show 1 + 4 < _; exact hf) (by show 0 + (13 * (1 + 2) + 43) ≤ 37 * _ + 11; have := Nat.mul_le_mul_left 37 hf; omega) hc hs hC.2.2.2.2.1
      (fun t hal hsz hke => ⟨rfl, ⟨S, v, ad, hq, hS.1.1, hS.1.2, hS.2.1, hS.vr, hS.2.2.2.2.2.1.kept (fun k q hk => hke _ (hS.2.2.2.2.2.1 k q hk).lt), va_K.moved hal hC.2.2.2.2.2.2.2.2.1, hS.2.2.2.2.2.2.1⟩, Nat.le_trans hVS.1 hsz, fun q h1 h2 => (hke q (Nat.lt_of_lt_of_le h1 hVS.1)).trans (hVS.2.1 q h1 h2)⟩)
      hVS.2.2 hc hs Tt hT X
    exact ⟨t, a1, fun _ => b1⟩
  · exact ⟨_, Steps.refl _, fun h => absurd h hx0⟩
end GXS
/-- a contract of a method that throws -/
def CtX (l : Launch) (y : MethodName) (cc : ByteArray) (ret : Option FieldType) (maxL d mc ms : Nat) (as : List AV) (S : AS) (v : VV) (Φ : Option AV → AS → VV → Prop) : Prop :=
  RAs S.1 as → WR S → RV S v → ∀ (D : va_G) (T : Nat → ClassId) (ea ad : Nat → Nat) (sz : Nat),
    vx_Met l y (Cond.code y cc maxL ret :: lw_good) (rmd d mc ms) (va_Pc (as.map (tr ad ea)) (fun U => U.heap.size = sz ∧ va_P D classes (wl T ad S v) U.heap ∧ va_K D classes (tyl T) U ∧ va_D (fun _ => True) (wl T ad S v) ∧ EXA ea (va_A (wl T ad S v) sz) U)) (fun _ _ _ _ => False) (XQ D T (va_A (wl T ad S v) sz) ad S.1 Φ) mc ms (va_A (wl T ad S v) sz)
theorem CtX_of_G {l : Launch} {Φ : Option AV → AS → VV → Prop} {S : AS} {v : VV} {y : MethodName} {cc : ByteArray} {ret : Option FieldType} {maxL d mc ms : Nat} {as : List AV} (ls : LL) (hp : plainName y.cls = true) (hL : Nat.ble (largs as).length maxL = true) (hls : largs as ++ List.replicate (maxL - (largs as).length) none = ls) (k : GX l (y, cc, ret, maxL, d, mc, ms, none) Φ 0 0 S 0 ls [] v) : CtX l y cc ret maxL d mc ms as S v Φ := by
  intro hA hW hV D T ea ad sz
  have hL : (largs as).length ≤ maxL := Nat.le_of_ble_eq_true hL
  refine vx_ofW (cc := cc) (maxL := maxL) (ret := ret) hp rfl ?_
  intro p en s m args below meth c s1 B hml hx0 hv
  obtain ⟨rfl, hsz, hP, hK, hD0, hE⟩ := hv
  subst hsz
  have hts := atoms_spec (ws := Cond.code y cc maxL ret :: lw_good) B.pre
  rw [lg_entry_eq]
  have k2 := k p en s m _ below meth c s.heap [] D T ea (va_A (wl T ad S v) s.heap.size) ad ad S.1 _ ⟨B.exec, B.bytes, hml, B.returns, B.notSynchronized, (name_of_methodNamed B.named B.method).1, findClass_of_methodNamed B.named, fun w h => hts w (List.mem_cons_of_mem _ h), hK, ⟨hE, trivial⟩, fun q h => Or.inr h⟩ ⟨⟨Nat.le_refl _, fun _ _ => rfl⟩, hW, hV, (fun _ h => by cases h), hls ▸ RAl_args hA, hP, hD0.self, va_S.rf, LR_entry hL hls⟩
  intro Tt hT X
  obtain ⟨t, a1, b1⟩ := k2 Tt hT X
  exact ⟨t, a1, b1 hx0⟩
def abo (nu : Nat) (u w : Int) : Prop := (0 ≤ u ∧ u < nu) ∧ 0 ≤ w ∧ w ≤ 5
set_option maxRecDepth 20000 in
set_option maxHeartbeats 1000000 in
theorem x_X5_about (l : Launch) (hl : l.stackTraces = false) (d nu : Nat) (v : VV) (hu : v 0 6 = nu ∧ nu ≤ 20) (u w : Int) (hno : ¬ abo nu u w) : CtX l yX5_about cX5_about (some .int) 4 (d + 6) 1 6 [ar (some 0), ai u, ai w] (SG nu) v (fun _ S2 v2 => S2 = SG nu ∧ v2 = v) := by
  refine CtX_of_G [some (ar (some 0)), some (ai u), some (ai w), none] (by decide) rfl rfl ?_
  refine GX_aload_n dX5_about_0 rfl ?_
  refine GX_iload_n dX5_about_1 rfl ?_
  refine GX_callV (ci := 5) (as := [ai u]) (st := []) dX5_about_2 mcX5_87 rfl (by decide) rfl (c_X5_umpireAt l (d + 5) nu v hu u) rfl (by show _ ≤ d + 6; omega) rfl rfl (Nat.le_of_ble_eq_true rfl) (Nat.le_of_ble_eq_true rfl) (rA_k (F := fun r S2 v2 => GX l (yX5_about, cX5_about, some .int, 4, d + 6, 1, 6, none) _ _ _ S2 _ _ (r.toList ++ []) v2) ?_)
  show GX l (yX5_about, cX5_about, some .int, 4, d + 6, 1, 6, none) _ _ _ _ _ _ [ar (if 0 ≤ u ∧ u < nu then some (59 + 3 * u.toNat) else none)] v
  refine GX_astore_n dX5_about_5 rfl rfl ?_
  refine GX_aload_n dX5_about_6 rfl ?_
  by_cases h : 0 ≤ u ∧ u < nu
  · rw [if_pos h]
    refine GX_ifnonnullS 20 dX5_about_7 (by decide) ?_
    refine GX_iload_n dX5_about_20 rfl ?_
    refine GX_tableOut 90 dX5_about_21 (by unfold abo at hno; omega) (by decide) ?_
    exact GX_throw (is := 188) hl rfl (Or.inr rfl) dX5_about_90 dX5_about_93 dX5_about_94 dX5_about_96 dX5_about_99 (by show 6 ≤ d + 6; omega) (Nat.le_of_ble_eq_true rfl) (Nat.le_of_ble_eq_true rfl) ⟨rfl, rfl⟩
  · rw [if_neg h]
    refine GX_ifnonnullN dX5_about_7 ?_
    exact GX_throw (is := 168) hl rfl (Or.inl rfl) dX5_about_10 dX5_about_13 dX5_about_14 dX5_about_16 dX5_about_19 (by show 6 ≤ d + 6; omega) (Nat.le_of_ble_eq_true rfl) (Nat.le_of_ble_eq_true rfl) ⟨rfl, rfl⟩
