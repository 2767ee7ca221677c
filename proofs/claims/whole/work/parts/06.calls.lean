def acat (a : AV) : Nat := match a with
  | .inr (.inr (.inl _)) => 2
  | _ => 1
theorem acat_tr {ad ea : Nat → Nat} (a : AV) : (tr ad ea a).category = acat a := by
  match a with
  | .inl none => rfl
  | .inl (some _) => rfl
  | .inr (.inl _) => rfl
  | .inr (.inr (.inl _)) => rfl
  | .inr (.inr (.inr _)) => rfl
theorem acat_sum {ad ea : Nat → Nat} (st : List AV) : ((st.map (tr ad ea)).map fun v => v.category).sum = (st.map acat).sum := by
  rw [List.map_map]
  congr 1
  exact List.map_congr_left fun a _ => acat_tr a
theorem RA_mono {n n2 : Nat} (h : n ≤ n2) {a : AV} (ha : RA n a) : RA n2 a := by
  match a, ha with
  | .inl none, _ => trivial
  | .inl (some _), ha => exact Nat.lt_of_lt_of_le ha h
  | .inr (.inl _), ha => exact ha
  | .inr (.inr (.inl _)), ha => exact ha
  | .inr (.inr (.inr _)), _ => trivial
theorem tr_agree {n : Nat} {ad ad2 ea : Nat → Nat} (h : ∀ k, k < n → ad2 k = ad k) {a : AV} (ha : RA n a) : tr ad2 ea a = tr ad ea a := by
  match a, ha with
  | .inl none, _ => rfl
  | .inl (some k), ha => exact congrArg Value.ref (h k ha)
  | .inr (.inl _), _ => rfl
  | .inr (.inr (.inl _)), _ => rfl
  | .inr (.inr (.inr _)), _ => rfl
def largs (as : List AV) : LL := as.flatMap fun a => match a with
  | .inr (.inr (.inl _)) => [some a, none]
  | _ => [some a]
def slo (ad ea : Nat → Nat) (o : Option AV) : Slot := match o with
  | some a => .val (tr ad ea a)
  | none => .second
theorem largs_sl {ad ea : Nat → Nat} (as : List AV) : lg_sl (as.map (tr ad ea)) = (largs as).map (slo ad ea) := by
  induction as with
  | nil => rfl
  | cons a as ih =>
    have e1 : lg_sl ((a :: as).map (tr ad ea)) = lg_sl [tr ad ea a] ++ lg_sl (as.map (tr ad ea)) := by simp [lg_sl]
    have e2 : largs (a :: as) = largs [a] ++ largs as := by simp [largs]
    rw [e1, e2, List.map_append, ih]
    congr 1
    match a with
    | .inl none => rfl
    | .inl (some _) => rfl
    | .inr (.inl _) => rfl
    | .inr (.inr (.inl _)) => rfl
    | .inr (.inr (.inr _)) => rfl
theorem LR_entry {ad ea : Nat → Nat} {as : List AV} {maxL : Nat} {ls : LL} (hL : (largs as).length ≤ maxL) (hls : largs as ++ List.replicate (maxL - (largs as).length) none = ls) : LR ad ea maxL ((lg_sl (as.map (tr ad ea)) ++ List.replicate (maxL - (lg_sl (as.map (tr ad ea))).length) Slot.unset).toArray) ls := by
  subst hls
  have hlen : (lg_sl (as.map (tr ad ea))).length = (largs as).length := by rw [largs_sl, List.length_map]
  have h0 := lv_entry (as.map (tr ad ea)) (n := maxL) (by rw [hlen]; exact hL)
  refine ⟨h0.1, h0.2.1, fun i a hi => ?_⟩
  rw [List.getElem?_append] at hi
  split at hi
  · rename_i h1
    rw [List.getElem?_toArray, List.getElem?_append_left (by rw [hlen]; exact h1), largs_sl, List.getElem?_map, hi]
    rfl
  · rw [List.getElem?_replicate] at hi
    split at hi <;> cases hi
theorem RAl_args {n : Nat} {as : List AV} {k : Nat} (h : RAs n as) : RAl n (largs as ++ List.replicate k none) := by
  intro i a hi
  have hm : some a ∈ largs as ++ List.replicate k none := List.mem_of_getElem? hi
  rcases List.mem_append.mp hm with h1 | h1
  · obtain ⟨b, hb, hc⟩ := List.mem_flatMap.mp h1
    have : a = b := by
      match b, hc with
      | .inl none, hc => simpa using hc
      | .inl (some _), hc => simpa using hc
      | .inr (.inl _), hc => simpa using hc
      | .inr (.inr (.inl _)), hc => simpa using hc
      | .inr (.inr (.inr _)), hc => simpa using hc
    rw [this]
    exact h b hb
  · have := List.eq_of_mem_replicate h1
    cases this
section GC
variable {l : Launch} {μ : MU} {Φ : Option AV → AS → VV → Prop} {c0 s0 : Nat} {S : AS} {pc : Nat} {ls : LL} {st : List AV} {v : VV}
theorem Ct_of_G {y : MethodName} {cc : ByteArray} {ret : Option FieldType} {maxL d mc ms : Nat} {as : List AV} (ls : LL) (hp : plainName y.cls = true) (hL : Nat.ble (largs as).length maxL = true) (hls : largs as ++ List.replicate (maxL - (largs as).length) none = ls) (k : G l (y, cc, ret, maxL, d, mc, ms, none) Φ 0 0 S 0 ls [] v) : Ct l y cc ret maxL d mc ms as S v Φ := by
  intro hA hW hV D T ea ad sz
  have hL : (largs as).length ≤ maxL := Nat.le_of_ble_eq_true hL
  refine Met.ofW (cc := cc) (maxL := maxL) (ret := ret) hp rfl ?_
  intro p en s m args below meth c s1 B hml hv
  obtain ⟨rfl, hsz, hP, hK, hD0, hE⟩ := hv
  subst hsz
  have hts := atoms_spec (ws := Cond.code y cc maxL ret :: lw_good) B.pre
  rw [lg_entry_eq]
  exact k p en s m _ below meth c s.heap [] D T ea (va_A (wl T ad S v) s.heap.size) ad ad S.1 _ ⟨B.exec, B.bytes, hml, B.returns, B.notSynchronized, (name_of_methodNamed B.named B.method).1, findClass_of_methodNamed B.named, fun w h => hts w (List.mem_cons_of_mem _ h), hK, ⟨hE, trivial⟩, fun q h => Or.inr h⟩ ⟨⟨Nat.le_refl _, fun _ _ => rfl⟩, hW, hV, (fun _ h => by cases h), hls ▸ RAl_args hA, hP, hD0.self, va_S.rf, LR_entry hL hls⟩
theorem G_iret {x : Int} (hd : decode μ.2.1 pc = .ok (.ireturn, 1)) (hr : μ.2.2.1 = some .int) (h1 : Nat.ble c0 μ.2.2.2.2.2.1 = true) (h2 : Nat.ble s0 μ.2.2.2.2.2.2.1 = true) (hq : Φ (some (ai x)) S v) : G l μ Φ c0 s0 S pc ls [ai x] v := by
  intro p en s m args below meth c H locs D T ea A ad ad0 n0 lsC hC hS
  refine W.widen (k := μ.2.2.2.2.2.1) (n := μ.2.2.2.2.2.2.1) (Nat.le_of_ble_eq_true h1) (Nat.le_of_ble_eq_true h2) ?_
  exact W.iret hC.1 hC.2.1 (hC.2.2.2.1.trans hr) (fun t ht hW => ⟨⟨some (ai x), S, v, ad, rfl, hq, hS.1.1, hS.1.2, (fun a ha => by cases ha; exact hS.top), hS.2.1, hS.vr, by rw [ht]; exact hS.2.2.2.2.2.1, va_K.moved hW.alike hC.2.2.2.2.2.2.2.2.1, hS.2.2.2.2.2.2.1⟩, hS.2.2.2.2.2.2.2.1.F ht⟩) hS.2.2.2.2.2.2.2.1.2.2 hd hC.2.2.2.2.1
theorem G_zret {x : Int} (hd : decode μ.2.1 pc = .ok (.ireturn, 1)) (hr : μ.2.2.1 = some .boolean) (hz : x = 0 ∨ x = 1) (h1 : Nat.ble c0 μ.2.2.2.2.2.1 = true) (h2 : Nat.ble s0 μ.2.2.2.2.2.2.1 = true) (hq : Φ (some (ai x)) S v) : G l μ Φ c0 s0 S pc ls [ai x] v := by
  intro p en s m args below meth c H locs D T ea A ad ad0 n0 lsC hC hS
  refine W.widen (k := μ.2.2.2.2.2.1) (n := μ.2.2.2.2.2.2.1) (Nat.le_of_ble_eq_true h1) (Nat.le_of_ble_eq_true h2) ?_
  exact W.zret hC.1 hC.2.1 (hC.2.2.2.1.trans hr) (by rcases hz with rfl | rfl <;> rfl) (fun t ht hW => ⟨⟨some (ai x), S, v, ad, rfl, hq, hS.1.1, hS.1.2, (fun a ha => by cases ha; exact hS.top), hS.2.1, hS.vr, by rw [ht]; exact hS.2.2.2.2.2.1, va_K.moved hW.alike hC.2.2.2.2.2.2.2.2.1, hS.2.2.2.2.2.2.1⟩, hS.2.2.2.2.2.2.2.1.F ht⟩) hS.2.2.2.2.2.2.2.1.2.2 hd hC.2.2.2.2.1
theorem G_vret  (hd : decode μ.2.1 pc = .ok (.return_, 1)) (hr : μ.2.2.1 = none) (h1 : Nat.ble c0 μ.2.2.2.2.2.1 = true) (h2 : Nat.ble s0 μ.2.2.2.2.2.2.1 = true) (hq : Φ (none) S v) : G l μ Φ c0 s0 S pc ls [] v := by
  intro p en s m args below meth c H locs D T ea A ad ad0 n0 lsC hC hS
  refine W.widen (k := μ.2.2.2.2.2.1) (n := μ.2.2.2.2.2.2.1) (Nat.le_of_ble_eq_true h1) (Nat.le_of_ble_eq_true h2) ?_
  exact W.vret hC.1 hC.2.1 (hC.2.2.2.1.trans hr) (fun t ht hW => ⟨⟨none, S, v, ad, rfl, hq, hS.1.1, hS.1.2, (fun a ha => by cases ha), hS.2.1, hS.vr, by rw [ht]; exact hS.2.2.2.2.2.1, va_K.moved hW.alike hC.2.2.2.2.2.2.2.2.1, hS.2.2.2.2.2.2.1⟩, hS.2.2.2.2.2.2.2.1.F ht⟩) hS.2.2.2.2.2.2.2.1.2.2 hd hC.2.2.2.2.1
theorem G_lret {x : Int} (hd : decode μ.2.1 pc = .ok (.lreturn, 1)) (hr : μ.2.2.1 = some .long) (h1 : Nat.ble c0 μ.2.2.2.2.2.1 = true) (h2 : Nat.ble s0 μ.2.2.2.2.2.2.1 = true) (hq : Φ (some (al x)) S v) : G l μ Φ c0 s0 S pc ls [al x] v := by
  intro p en s m args below meth c H locs D T ea A ad ad0 n0 lsC hC hS
  refine W.widen (k := μ.2.2.2.2.2.1) (n := μ.2.2.2.2.2.2.1) (Nat.le_of_ble_eq_true h1) (Nat.le_of_ble_eq_true h2) ?_
  exact W.lret hC.1 hC.2.1 (hC.2.2.2.1.trans hr) (fun t ht hW => ⟨⟨some (al x), S, v, ad, rfl, hq, hS.1.1, hS.1.2, (fun a ha => by cases ha; exact hS.top), hS.2.1, hS.vr, by rw [ht]; exact hS.2.2.2.2.2.1, va_K.moved hW.alike hC.2.2.2.2.2.2.2.2.1, hS.2.2.2.2.2.2.1⟩, hS.2.2.2.2.2.2.2.1.F ht⟩) hS.2.2.2.2.2.2.2.1.2.2 hd hC.2.2.2.2.1
theorem G_aret {x : Option Nat} {rt : FieldType} (hd : decode μ.2.1 pc = .ok (.areturn, 1)) (hr : μ.2.2.1 = some rt) (hrt : (∃ n, rt = .object n) ∨ ∃ t, rt = .array t) (h1 : Nat.ble c0 μ.2.2.2.2.2.1 = true) (h2 : Nat.ble s0 μ.2.2.2.2.2.2.1 = true) (hq : Φ (some (ar x)) S v) : G l μ Φ c0 s0 S pc ls [ar x] v := by
  intro p en s m args below meth c H locs D T ea A ad ad0 n0 lsC hC hS
  refine W.widen (k := μ.2.2.2.2.2.1) (n := μ.2.2.2.2.2.2.1) (Nat.le_of_ble_eq_true h1) (Nat.le_of_ble_eq_true h2) ?_
  exact W.aret hC.1 hC.2.1 (hC.2.2.2.1.trans hr) hrt (by cases x; exact Or.inl rfl; exact Or.inr ⟨_, rfl⟩) (fun t ht hW => ⟨⟨some (ar x), S, v, ad, rfl, hq, hS.1.1, hS.1.2, (fun a ha => by cases ha; exact hS.top), hS.2.1, hS.vr, by rw [ht]; exact hS.2.2.2.2.2.1, va_K.moved hW.alike hC.2.2.2.2.2.2.2.2.1, hS.2.2.2.2.2.2.1⟩, hS.2.2.2.2.2.2.2.1.F ht⟩) hS.2.2.2.2.2.2.2.1.2.2 hd hC.2.2.2.2.1
/-- behind a call -/
theorem call_QQ {p : Program} {en : Env} {s : State} {m : MethodId} {args : Array Value} {below : List Frame} {meth : Method} {c : Code} {H : Heap} {locs : List Loc} {D : va_G} {T : Nat → ClassId} {ea : Nat → Nat} {A : Nat → Prop} {ad ad0 : Nat → Nat} {n0 : Nat} {lsC : Array Slot} {stk : List AV} {Φ2 : Option AV → AS → VV → Prop} {mc2 ms2 : Nat} {a : Array Value} (hC : Cx l μ p s m args meth c D T ea A) (hS : Sx μ s D T ea A ad0 n0 S ls stk v H locs ad lsC) (hst : RAs S.1 st)
    (hr : va_Run p l en (rmd μ.2.2.2.2.1 μ.2.2.2.2.2.1 μ.2.2.2.2.2.2.1) s m args below meth c H locs c0 s0 mc2 ms2 (F0 m pc lsC (stk.map (tr ad ea))) (st.map (tr ad ea)) (QQ D T ea (va_A (wl T ad S v) H.size) ad S.1 Φ2 a) (va_A (wl T ad S v) H.size))
    (kk : ∀ (r : Option AV) (S2 : AS) (v2 : VV), Φ2 r S2 v2 → G l μ Φ (c0 + mc2) (s0 + ms2) S2 (pc + 3) ls (r.toList ++ st) v2) :
    W p l en (rmd μ.2.2.2.2.1 μ.2.2.2.2.2.1 μ.2.2.2.2.2.2.1) s m args below meth c H locs c0 s0 (MQ below (QQ D T ea A ad0 n0 Φ) args s μ.2.2.2.2.2.1 μ.2.2.2.2.2.2.1 A) (F0 m pc lsC (stk.map (tr ad ea))) := by
  intro Tt hT X
  obtain ⟨vv, st0, t, T', L, h0, X', hL, e1, e2, ⟨⟨r, S2, v2, ad2, hv, hq, hn, had, hra, hwr, hrv, hP2, hK2, hD2⟩, hz, hk⟩, stp⟩ := hr Tt hT X
  have hA := hC.2.2.2.2.2.2.2.2.2.2
  have hD := hS.2.2.2.2.2.2.1
  have hVS := hS.2.2.2.2.2.2.2.1
  have hF : ∀ q, va_A (wl T ad S v) H.size q → A q := by
    intro q h
    rcases h with ⟨k, e, h⟩ | h
    · exact hD.2 k _ h
    · exact hA q (Nat.le_trans hVS.1 h)
  have hvv : vv = r.map (tr ad2 ea) := by cases hv; rfl
  subst hvv
  rw [h0] at hz hk
  have hst2 : st.map (tr ad2 ea) = st.map (tr ad ea) := List.map_congr_left fun b hb => tr_agree had (hst b hb)
  have hlr := hS.lr
  have k2 := kk r S2 v2 hq p en s m args below meth c T'.heap (locs ++ L) D T ea A ad2 ad0 n0 lsC hC ⟨⟨Nat.le_trans hS.1.1 hn, fun k h => (had k (Nat.lt_of_lt_of_le h hS.1.1)).trans (hS.1.2 k h)⟩, hwr, hrv, ?_, fun i b hb => RA_mono hn (hS.2.2.2.2.1 i b hb), by rw [e1]; exact hP2, ⟨hD2.1, fun k q h => hF _ (hD2.2 k q h)⟩, ?_, ⟨hlr.1, hlr.2.1, fun i b hb => by rw [tr_agree had (hS.2.2.2.2.1 i b hb)]; exact hlr.2.2 i b hb⟩⟩
  · obtain ⟨t2, a1, b1⟩ := k2 T' rfl X'
    refine ⟨t2, stp t2 ?_, b1⟩
    have e : (r.toList ++ st).map (tr ad2 ea) = (r.map (tr ad2 ea)).toList ++ st.map (tr ad ea) := by
      rw [List.map_append, hst2]
      cases r <;> rfl
    rw [e] at a1
    exact a1
  · intro b hb
    rcases List.mem_append.mp hb with h | h
    · cases r with
      | none => cases h
      | some w =>
        have : b = w := by simpa using h
        rw [this]
        exact hra w rfl
    · exact RA_mono hn (hst b h)
  · exact ⟨Nat.le_trans hVS.1 (by rw [e1]; exact hz), fun q h1 h2 => by rw [e1, hk q (Nat.lt_of_lt_of_le h1 hVS.1) (fun z => h2 (hF q z))]; exact hVS.2.1 q h1 h2, fun q hq => by
      rcases List.mem_append.mp hq with h | h
      · exact hVS.2.2 q h
      · exact hF _ (hL q h)⟩
theorem pre_Pc {D : va_G} {T : Nat → ClassId} {ea ad : Nat → Nat} {vs : List Value} {sz : Nat} : FrameBlind (va_Pc vs (fun U => U.heap.size = sz ∧ va_P D classes (wl T ad S v) U.heap ∧ va_K D classes (tyl T) U ∧ va_D (fun _ => True) (wl T ad S v) ∧ EXA ea (va_A (wl T ad S v) sz) U)) := by
  intro a U f mk q
  obtain ⟨q0, q1, q2, q3, q4, q5⟩ := q
  exact ⟨q0, q1, q2, va_K.moved (u := U) (U := U.calling f mk a) (Vm.Alike.refl U.vm) q3, q4, q5.to (U := U.calling f mk a) (State.WarmedH.refl U) (fun _ _ _ => rfl) (fun _ h => h)⟩
theorem pre_in {p : Program} {s : State} {m : MethodId} {args : Array Value} {meth : Method} {c : Code} {H : Heap} {locs : List Loc} {D : va_G} {T : Nat → ClassId} {ea : Nat → Nat} {A : Nat → Prop} {ad ad0 : Nat → Nat} {n0 : Nat} {lsC : Array Slot} {stk : List AV} {vs : List Value} (hC : Cx l μ p s m args meth c D T ea A) (hS : Sx μ s D T ea A ad0 n0 S ls stk v H locs ad lsC) : ∀ U : State, U.heap = H → s.WarmedH U.vm → va_Pc vs (fun U => U.heap.size = H.size ∧ va_P D classes (wl T ad S v) U.heap ∧ va_K D classes (tyl T) U ∧ va_D (fun _ => True) (wl T ad S v) ∧ EXA ea (va_A (wl T ad S v) H.size) U) vs.toArray U := by
  intro U hU hW
  have hA := hC.2.2.2.2.2.2.2.2.2.2
  have hD := hS.2.2.2.2.2.2.1
  have hVS := hS.2.2.2.2.2.2.2.1
  refine ⟨rfl, by rw [hU], by rw [hU]; exact hS.2.2.2.2.2.1, va_K.moved hW.alike hC.2.2.2.2.2.2.2.2.1, hD.weaken (fun _ _ _ _ => trivial), (hC.2.2.2.2.2.2.2.2.2.1.1).to hW (fun q h1 h2 => by rw [hU]; exact hVS.2.1 q h1 h2) ?_⟩
  intro q h
  rcases h with ⟨k, e, h⟩ | h
  · exact hD.2 k _ h
  · exact hA q (Nat.le_trans hVS.1 h)
def MV (own : String) (idx : Nat) (y : MethodName) (cc : ByteArray) (ret : Option FieldType) (maxL n : Nat) : Prop := (Cond.methodLink own idx y ∈ lw_good ∧ Cond.instanceMethod y ∈ lw_good ∧ Cond.selects y.cls y y ∈ lw_good ∧ Cond.initialized y.cls ∈ lw_good ∧ Cond.code y cc maxL ret ∈ lw_good) ∧ (y.cls ≠ "java/lang/invoke/MethodHandle" ∧ y.cls ≠ "java/lang/invoke/VarHandle" ∧ (parseMethodDescriptor y.desc).map (fun d => d.parameters.length) = some n)
def MS (own : String) (idx : Nat) (y : MethodName) (cc : ByteArray) (ret : Option FieldType) (maxL n : Nat) : Prop := (Cond.methodLink own idx y ∈ lw_good ∧ Cond.static y ∈ lw_good ∧ Cond.initialized y.cls ∈ lw_good ∧ Cond.code y cc maxL ret ∈ lw_good) ∧ (y.cls ≠ "java/lang/invoke/MethodHandle" ∧ y.cls ≠ "java/lang/invoke/VarHandle" ∧ (parseMethodDescriptor y.desc).map (fun d => d.parameters.length) = some n)
def MI (own : String) (idx : Nat) (y : MethodName) (cc : ByteArray) (maxL n : Nat) : Prop := (Cond.methodLink own idx y ∈ lw_good ∧ Cond.instanceMethod y ∈ lw_good ∧ Cond.initialized y.cls ∈ lw_good ∧ Cond.code y cc maxL none ∈ lw_good) ∧ y.name = "<init>" ∧ (y.cls ≠ "java/lang/invoke/MethodHandle" ∧ y.cls ≠ "java/lang/invoke/VarHandle" ∧ (parseMethodDescriptor y.desc).map (fun d => d.parameters.length) = some n)
def MIN (own : String) (idx : Nat) (y : MethodName) (cc : ByteArray) (maxL n : Nat) : Prop := (Cond.methodLinkNest own idx y RX5 ∈ nestw ∧ Cond.instanceMethod y ∈ lw_good ∧ Cond.initialized y.cls ∈ lw_good ∧ Cond.code y cc maxL none ∈ lw_good) ∧ y.name = "<init>" ∧ (y.cls ≠ "java/lang/invoke/MethodHandle" ∧ y.cls ≠ "java/lang/invoke/VarHandle" ∧ (parseMethodDescriptor y.desc).map (fun d => d.parameters.length) = some n)
theorem good_cons {w : Cond} {ws : List Cond} (h : w ∈ lw_good) (hs : GoodIn lw_good ws) : GoodIn lw_good (w :: ws) := fun x hx => (List.mem_cons.mp hx).elim (fun e => by rw [e]; exact lw_good_in w h) (hs x)
theorem G_callV {idx : Nat} {y : MethodName} {cc : ByteArray} {ret : Option FieldType} {maxL d2 mc2 ms2 k ci : Nat} {as stk : List AV} {Φ2 : Option AV → AS → VV → Prop} (hd : decode μ.2.1 pc = .ok (.invokevirtual idx, 3)) (hm : MV μ.1.cls idx y cc ret maxL as.length) (hs : (S.2.1 k).1 = 16 + ci) (hci : ci < 7) (hR : Rof ci = y.cls) (h2 : Ct l y cc ret maxL d2 mc2 ms2 (ar (some k) :: as) S v Φ2) (hst : stk = as.reverse ++ ar (some k) :: st) (hdp : d2 + 1 ≤ μ.2.2.2.2.1) (hmx : Nat.ble maxL 18 = true) (hrm : Nat.ble (st.map acat).sum 8 = true) (hcl : c0 + mc2 ≤ μ.2.2.2.2.2.1) (hsl : s0 + ms2 ≤ μ.2.2.2.2.2.2.1) (kk : ∀ (r : Option AV) (S2 : AS) (v2 : VV), Φ2 r S2 v2 → G l μ Φ (c0 + mc2) (s0 + ms2) S2 (pc + 3) ls (r.toList ++ st) v2) : G l μ Φ c0 s0 S pc ls stk v := by
  intro p en s m args below meth c H locs D T ea A ad ad0 n0 lsC hC hS
  subst hst
  have hmx := Nat.le_of_ble_eq_true hmx
  have hrm := Nat.le_of_ble_eq_true hrm
  have hall : RAs S.1 (as.reverse ++ ar (some k) :: st) := hS.2.2.2.1
  have hst9 : RAs S.1 st := fun b hb => hall b (List.mem_append_right _ (List.mem_cons_of_mem _ hb))
  have has : RAs S.1 (ar (some k) :: as) := RAs_cons.mpr ⟨hall _ (List.mem_append_right _ List.mem_cons_self), fun b hb => hall b (List.mem_append_left _ (List.mem_reverse.mpr hb))⟩
  have hts := hC.2.2.2.2.2.2.2.1
  refine call_QQ hC hS hst9 (va_runV (As := as.map (tr ad ea)) (nL := μ.2.2.2.1) (Ts := lw_good) (own := μ.1.cls) ⟨hC.1, hC.2.1, hC.2.2.1, hC.2.2.2.2.2.2.1, hts⟩ (h2 has hS.2.1 hS.vr D T ea ad H.size) (cwV as.length hts (good_cons hm.1.1 (good_cons hm.1.2.1 (good_cons hm.1.2.2.1 (good_cons hm.1.2.2.2.1 (good_cons hm.1.2.2.2.2 lw_good_in))))) rfl rfl rfl ⟨rfl, hm.2⟩ ⟨hdp, by show 8 + (maxL + 11) + (37 * d2 + 11) ≤ 37 * _ + 11; have := Nat.mul_le_mul_left 37 hdp; omega⟩) ⟨pre_Pc, by have hk : k < S.1 := (RAs_cons.mp has).1; have he := wl_get (T := T) (ad := ad) (v := v) hk; rw [cell_obj hs] at he; rw [← hR]; exact va_recv hC.2.2.2.2.2.2.2.2.1 hS.2.2.2.2.2.1 (cls_at hci) he, pre_in (vs := (ar (some k) :: as).map (tr ad ea)) hC hS⟩ rfl (by rw [List.length_map]) hS.lr.1 ?_ (by rw [acat_sum]; show 2 * 0 + _ ≤ _; omega) hd ⟨hcl, hsl⟩) kk
  show (as.reverse ++ ar (some k) :: st).map (tr ad ea) = _
  rw [List.map_append, List.map_reverse]
  rfl
theorem G_callS {idx : Nat} {y : MethodName} {cc : ByteArray} {ret : Option FieldType} {maxL d2 mc2 ms2 : Nat} {as stk : List AV} {Φ2 : Option AV → AS → VV → Prop} (hd : decode μ.2.1 pc = .ok (.invokestatic idx, 3)) (hm : MS μ.1.cls idx y cc ret maxL as.length) (h2 : Ct l y cc ret maxL d2 mc2 ms2 (as) S v Φ2) (hst : stk = as.reverse ++ st) (hdp : d2 + 1 ≤ μ.2.2.2.2.1) (hmx : Nat.ble maxL 18 = true) (hrm : Nat.ble (st.map acat).sum 8 = true) (hcl : c0 + mc2 ≤ μ.2.2.2.2.2.1) (hsl : s0 + ms2 ≤ μ.2.2.2.2.2.2.1) (kk : ∀ (r : Option AV) (S2 : AS) (v2 : VV), Φ2 r S2 v2 → G l μ Φ (c0 + mc2) (s0 + ms2) S2 (pc + 3) ls (r.toList ++ st) v2) : G l μ Φ c0 s0 S pc ls stk v := by
  intro p en s m args below meth c H locs D T ea A ad ad0 n0 lsC hC hS
  subst hst
  have hmx := Nat.le_of_ble_eq_true hmx
  have hrm := Nat.le_of_ble_eq_true hrm
  have hall : RAs S.1 (as.reverse ++ st) := hS.2.2.2.1
  have hst9 : RAs S.1 st := fun b hb => hall b (List.mem_append_right _ (hb))
  have has : RAs S.1 (as) := fun b hb => hall b (List.mem_append_left _ (List.mem_reverse.mpr hb))
  have hts := hC.2.2.2.2.2.2.2.1
  refine call_QQ hC hS hst9 (va_runS (As := as.map (tr ad ea)) (nL := μ.2.2.2.1) (Ts := lw_good) (own := μ.1.cls) ⟨hC.1, hC.2.1, hC.2.2.1, hC.2.2.2.2.2.2.1, hts⟩ (h2 has hS.2.1 hS.vr D T ea ad H.size) (va_cwS as.length hts (good_cons hm.1.1 (good_cons hm.1.2.1 (good_cons hm.1.2.2.1 (good_cons hm.1.2.2.2 lw_good_in)))) rfl rfl rfl hm.2 ⟨hdp, by show 8 + (maxL + 11) + (37 * d2 + 11) ≤ 37 * _ + 11; have := Nat.mul_le_mul_left 37 hdp; omega⟩) ⟨pre_Pc, pre_in (vs := as.map (tr ad ea)) hC hS⟩ rfl (by rw [List.length_map]) hS.lr.1 ?_ (by rw [acat_sum]; show 2 * 0 + _ ≤ _; omega) hd ⟨hcl, hsl⟩) kk
  show (as.reverse ++ st).map (tr ad ea) = _
  rw [List.map_append, List.map_reverse]
theorem G_callI {idx : Nat} {y : MethodName} {cc : ByteArray} {maxL d2 mc2 ms2 k : Nat} {as stk : List AV} {Φ2 : Option AV → AS → VV → Prop} (hd : decode μ.2.1 pc = .ok (.invokespecial idx, 3)) (hm : MI μ.1.cls idx y cc maxL as.length) (h2 : Ct l y cc none maxL d2 mc2 ms2 (ar (some k) :: as) S v Φ2) (hst : stk = as.reverse ++ ar (some k) :: st) (hdp : d2 + 1 ≤ μ.2.2.2.2.1) (hmx : Nat.ble maxL 18 = true) (hrm : Nat.ble (st.map acat).sum 8 = true) (hcl : c0 + mc2 ≤ μ.2.2.2.2.2.1) (hsl : s0 + ms2 ≤ μ.2.2.2.2.2.2.1) (kk : ∀ (r : Option AV) (S2 : AS) (v2 : VV), Φ2 r S2 v2 → G l μ Φ (c0 + mc2) (s0 + ms2) S2 (pc + 3) ls (r.toList ++ st) v2) : G l μ Φ c0 s0 S pc ls stk v := by
  intro p en s m args below meth c H locs D T ea A ad ad0 n0 lsC hC hS
  subst hst
  have hmx := Nat.le_of_ble_eq_true hmx
  have hrm := Nat.le_of_ble_eq_true hrm
  have hall : RAs S.1 (as.reverse ++ ar (some k) :: st) := hS.2.2.2.1
  have hst9 : RAs S.1 st := fun b hb => hall b (List.mem_append_right _ (List.mem_cons_of_mem _ hb))
  have has : RAs S.1 (ar (some k) :: as) := RAs_cons.mpr ⟨hall _ (List.mem_append_right _ List.mem_cons_self), fun b hb => hall b (List.mem_append_left _ (List.mem_reverse.mpr hb))⟩
  have hts := hC.2.2.2.2.2.2.2.1
  refine call_QQ hC hS hst9 (va_runI (As := as.map (tr ad ea)) (nL := μ.2.2.2.1) (Ts := lw_good) (own := μ.1.cls) ⟨hC.1, hC.2.1, hC.2.2.1, hC.2.2.2.2.2.2.1, hts⟩ (h2 has hS.2.1 hS.vr D T ea ad H.size) (cwI as.length hts (good_cons hm.1.2.2.2 lw_good_in) rfl rfl rfl (hts _ hm.1.2.2.1) (hts _ hm.1.1) (hts _ hm.1.2.1) hm.2.1 hm.2.2 ⟨hdp, by show 8 + (maxL + 11) + (37 * d2 + 11) ≤ 37 * _ + 11; have := Nat.mul_le_mul_left 37 hdp; omega⟩) ⟨pre_Pc, pre_in (vs := (ar (some k) :: as).map (tr ad ea)) hC hS⟩ rfl (by rw [List.length_map]) hS.lr.1 ?_ (by rw [acat_sum]; show 2 * 0 + _ ≤ _; omega) hd ⟨hcl, hsl⟩) kk
  show (as.reverse ++ ar (some k) :: st).map (tr ad ea) = _
  rw [List.map_append, List.map_reverse]
  rfl
theorem G_callIN {idx : Nat} {y : MethodName} {cc : ByteArray} {maxL d2 mc2 ms2 k : Nat} {as stk : List AV} {Φ2 : Option AV → AS → VV → Prop} (hd : decode μ.2.1 pc = .ok (.invokespecial idx, 3)) (hm : MIN μ.1.cls idx y cc maxL as.length) (h2 : Ct l y cc none maxL d2 mc2 ms2 (ar (some k) :: as) S v Φ2) (hst : stk = as.reverse ++ ar (some k) :: st) (hdp : d2 + 1 ≤ μ.2.2.2.2.1) (hmx : Nat.ble maxL 18 = true) (hrm : Nat.ble (st.map acat).sum 8 = true) (hcl : c0 + mc2 ≤ μ.2.2.2.2.2.1) (hsl : s0 + ms2 ≤ μ.2.2.2.2.2.2.1) (kk : ∀ (r : Option AV) (S2 : AS) (v2 : VV), Φ2 r S2 v2 → G l μ Φ (c0 + mc2) (s0 + ms2) S2 (pc + 3) ls (r.toList ++ st) v2) : G l μ Φ c0 s0 S pc ls stk v := by
  intro p en s m args below meth c H locs D T ea A ad ad0 n0 lsC hC hS
  subst hst
  have hmx := Nat.le_of_ble_eq_true hmx
  have hrm := Nat.le_of_ble_eq_true hrm
  have hall : RAs S.1 (as.reverse ++ ar (some k) :: st) := hS.2.2.2.1
  have hst9 : RAs S.1 st := fun b hb => hall b (List.mem_append_right _ (List.mem_cons_of_mem _ hb))
  have has : RAs S.1 (ar (some k) :: as) := RAs_cons.mpr ⟨hall _ (List.mem_append_right _ List.mem_cons_self), fun b hb => hall b (List.mem_append_left _ (List.mem_reverse.mpr hb))⟩
  have hts := hC.2.2.2.2.2.2.2.1
  refine call_QQ hC hS hst9 (va_runIN (As := as.map (tr ad ea)) (nL := μ.2.2.2.1) (Ts := lw_good) (own := μ.1.cls) ⟨hC.1, hC.2.1, hC.2.2.1, hC.2.2.2.2.2.2.1, hts⟩ (h2 has hS.2.1 hS.vr D T ea ad H.size) ⟨va_cnB as.length hts (good_cons hm.1.2.2.2 lw_good_in) rfl rfl rfl (hC.2.2.2.2.2.2.2.2.2.1.1.2.2.2.1 _ hm.1.1) (hts _ hm.1.2.2.1) hm.2.2 ⟨hdp, by show 8 + (maxL + 11) + (37 * d2 + 11) ≤ 37 * _ + 11; have := Nat.mul_le_mul_left 37 hdp; omega⟩, hm.2.1, hts _ hm.1.2.1⟩ ⟨pre_Pc, pre_in (vs := (ar (some k) :: as).map (tr ad ea)) hC hS⟩ rfl (by rw [List.length_map]) hS.lr.1 ?_ (by rw [acat_sum]; show 2 * 0 + _ ≤ _; omega) hd ⟨hcl, hsl⟩) kk
  show (as.reverse ++ ar (some k) :: st).map (tr ad ea) = _
  rw [List.map_append, List.map_reverse]
  rfl
end GC
