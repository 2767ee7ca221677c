/-! law.about: answers 1 where about throws, else 0 with the number in the row 58 -/
abbrev hhL : List (Nat × Nat × Nat × Nat) := [(0, 10, 13, 13)]
def CtW (l : Launch) (y : MethodName) (cc : ByteArray) (ret : Option FieldType) (maxL : Nat) (hh : List (Nat × Nat × Nat × Nat)) (d mc ms : Nat) (as : List AV) (S : AS) (v : VV) (Φ : Option AV → AS → VV → Prop) : Prop :=
  RAs S.1 as → WR S → RV S v → ∀ (D : va_G) (T : Nat → ClassId) (ea ad : Nat → Nat) (sz : Nat),
    vx_Met l y (Cond.codeWith y cc maxL ret hh :: lw_good) (rmd d mc ms) (va_Pc (as.map (tr ad ea)) (fun U => U.heap.size = sz ∧ va_P D classes (wl T ad S v) U.heap ∧ va_K D classes (tyl T) U ∧ va_D (fun _ => True) (wl T ad S v) ∧ EXA ea (va_A (wl T ad S v) sz) U)) (QQ D T ea (va_A (wl T ad S v) sz) ad S.1 Φ) (fun _ _ _ => False) mc ms (va_A (wl T ad S v) sz)
theorem CtW_of_GT {l : Launch} {Φ : Option AV → AS → VV → Prop} {S : AS} {v : VV} {y : MethodName} {cc : ByteArray} {ret : Option FieldType} {maxL d mc ms : Nat} {hh : List (Nat × Nat × Nat × Nat)} {as : List AV} (ls : LL) (hp : plainName y.cls = true) (hL : Nat.ble (largs as).length maxL = true) (hls : largs as ++ List.replicate (maxL - (largs as).length) none = ls) (k : GT l (y, cc, ret, maxL, d, mc, ms, none) Φ (tableOf hh) 0 0 S 0 ls [] v) : CtW l y cc ret maxL hh d mc ms as S v Φ := by
  intro hA hW hV D T ea ad sz
  have hL : (largs as).length ≤ maxL := Nat.le_of_ble_eq_true hL
  refine vx_ofWH (cc := cc) (maxL := maxL) (ret := ret) (hh := hh) hp rfl ?_
  intro p en s m args below meth c s1 B hml hv
  obtain ⟨rfl, hsz, hP, hK, hD0, hE⟩ := hv
  subst hsz
  have hts := atoms_spec (ws := Cond.codeWith y cc maxL ret hh :: lw_good) B.pre
  have htab := vx_table (x := y) B (hts _ List.mem_cons_self)
  rw [lg_entry_eq]
  have k2 := k p en s m _ below meth c s.heap [] D T ea (va_A (wl T ad S v) s.heap.size) ad ad S.1 _ ⟨B.exec, B.bytes, hml, B.returns, B.notSynchronized, (name_of_methodNamed B.named B.method).1, findClass_of_methodNamed B.named, fun w h => hts w (List.mem_cons_of_mem _ h), hK, ⟨hE, trivial⟩, fun q h => Or.inr h⟩ ⟨⟨Nat.le_refl _, fun _ _ => rfl⟩, hW, hV, (fun _ h => by cases h), hls ▸ RAl_args hA, hP, hD0.self, va_S.rf, LR_entry hL hls⟩
  refine vx_ret ?_
  intro Tt hT X
  obtain ⟨t, a1, b1⟩ := k2 Tt hT X
  exact ⟨t, a1, b1 htab⟩
def aboV (v : VV) (u w : Int) : Int := if w = 0 then v (59 + 3 * u.toNat) 3 else if w = 1 then v (59 + 3 * u.toNat) 4 else if w = 2 then v (59 + 3 * u.toNat) 5 else if w = 3 then v (59 + 3 * u.toNat) 6 else if w = 4 then v (59 + 3 * u.toNat) 7 else v (59 + 3 * u.toNat) 8
set_option maxRecDepth 20000 in
set_option maxHeartbeats 1000000 in
theorem c_X5_about (l : Launch) (d nu : Nat) (v : VV) (hu : v 0 6 = nu ∧ nu ≤ 20) (u w : Int) (h : abo nu u w) : Ct l yX5_about cX5_about (some .int) 4 (d + 1) 0 0 [ar (some 0), ai u, ai w] (SG nu) v (rI (SG nu) (aboV v u w) v) := by
  refine Ct_of_G [some (ar (some 0)), some (ai u), some (ai w), none] (by decide) rfl rfl ?_
  have hn : u.toNat < nu := by have := h.1; omega
  refine G_aload_n dX5_about_0 rfl ?_
  refine G_iload_n dX5_about_1 rfl ?_
  refine G_cVa (ci := 5) dX5_about_2 rfl (by decide) rfl (c_X5_umpireAt l (d + 0) nu v hu u) mcX5_87 rfl rfl (by show _ ≤ d + 1; omega) rfl rfl (Nat.le_refl _) (Nat.le_refl _) ?_
  rw [if_pos h.1]
  refine G_astore_n dX5_about_5 rfl rfl ?_
  refine G_aload_n dX5_about_6 rfl ?_
  refine G_ifnonnullS 20 dX5_about_7 (by decide) ?_
  refine G_iload_n dX5_about_20 rfl ?_
  rcases (show (w < 0 ∨ 5 < w) ∨ w = 0 ∨ w = 1 ∨ w = 2 ∨ w = 3 ∨ w = 4 ∨ w = 5 by omega) with hsw | hsw | hsw | hsw | hsw | hsw | hsw
  · refine G_tableOut 90 dX5_about_21 hsw (by decide) ?_
    exact absurd hsw (by have := h.2; omega)
  · refine G_tableIn 60 dX5_about_21 (by omega) (by omega) (by rw [hsw]; rfl) (by decide) ?_
    refine G_aload_n dX5_about_60 rfl ?_
    refine G_getI (jj := 3) dX5_about_61 flX5_173 rfl (by rw [sh_ump hn]) rfl ?_
    exact G_iret dX5_about_64 rfl rfl rfl ⟨by unfold aboV; simp [hsw], rfl, rfl⟩
  · refine G_tableIn 65 dX5_about_21 (by omega) (by omega) (by rw [hsw]; rfl) (by decide) ?_
    refine G_aload_n dX5_about_65 rfl ?_
    refine G_getI (jj := 4) dX5_about_66 flX5_94 rfl (by rw [sh_ump hn]) rfl ?_
    exact G_iret dX5_about_69 rfl rfl rfl ⟨by unfold aboV; simp [hsw], rfl, rfl⟩
  · refine G_tableIn 70 dX5_about_21 (by omega) (by omega) (by rw [hsw]; rfl) (by decide) ?_
    refine G_aload_n dX5_about_70 rfl ?_
    refine G_getI (jj := 5) dX5_about_71 flX5_176 rfl (by rw [sh_ump hn]) rfl ?_
    exact G_iret dX5_about_74 rfl rfl rfl ⟨by unfold aboV; simp [hsw], rfl, rfl⟩
  · refine G_tableIn 75 dX5_about_21 (by omega) (by omega) (by rw [hsw]; rfl) (by decide) ?_
    refine G_aload_n dX5_about_75 rfl ?_
    refine G_getI (jj := 6) dX5_about_76 flX5_179 rfl (by rw [sh_ump hn]) rfl ?_
    exact G_iret dX5_about_79 rfl rfl rfl ⟨by unfold aboV; simp [hsw], rfl, rfl⟩
  · refine G_tableIn 80 dX5_about_21 (by omega) (by omega) (by rw [hsw]; rfl) (by decide) ?_
    refine G_aload_n dX5_about_80 rfl ?_
    refine G_getI (jj := 7) dX5_about_81 flX5_182 rfl (by rw [sh_ump hn]) rfl ?_
    exact G_iret dX5_about_84 rfl rfl rfl ⟨by unfold aboV; simp [hsw], rfl, rfl⟩
  · refine G_tableIn 85 dX5_about_21 (by omega) (by omega) (by rw [hsw]; rfl) (by decide) ?_
    refine G_aload_n dX5_about_85 rfl ?_
    refine G_getI (jj := 8) dX5_about_86 flX5_185 rfl (by rw [sh_ump hn]) rfl ?_
    exact G_iret dX5_about_89 rfl rfl rfl ⟨by unfold aboV; simp [hsw], rfl, rfl⟩
theorem at_L13 : Cond.classLink RL 13 NSE ∈ lw_good := by decide +kernel
set_option maxRecDepth 20000 in
set_option maxHeartbeats 1000000 in
theorem c_L_about (l : Launch) (hl : l.stackTraces = false) (d nu : Nat) (v : VV) (hu : v 0 6 = nu ∧ nu ≤ 20) (u w : Int) : CtW l yL_about cL_about (some .int) 5 hhL (d + 7) 1 6 [ar (some 0), ai u, ai w, ar (some 58)] (SG nu) v (fun r S2 v2 => S2 = SG nu ∧ ((abo nu u w ∧ r = some (ai 0) ∧ v2 = up v 58 0 (aboV v u w)) ∨ (¬ abo nu u w ∧ r = some (ai 1) ∧ v2 = v))) := by
  refine CtW_of_GT [some (ar (some 0)), some (ai u), some (ai w), some (ar (some 58)), none] (by decide) rfl rfl ?_
  by_cases h : abo nu u w
  · refine GT_of_G ?_
    refine G_aload_n dL_about_0 rfl ?_
    refine G_iconst (n := 0) dL_about_1 ⟨by decide, by decide⟩ ?_
    refine G_aload_n dL_about_2 rfl ?_
    refine G_iload_n dL_about_3 rfl ?_
    refine G_iload_n dL_about_4 rfl ?_
    refine G_cVi (ci := 5) dL_about_5 rfl (by decide) rfl (c_X5_about l (d + 5) nu v hu u w h) mcL_7 rfl rfl (by show _ ≤ d + 7; omega) rfl rfl (Nat.le_of_ble_eq_true rfl) (Nat.le_of_ble_eq_true rfl) ?_
    refine G_i2l dL_about_8 ?_
    refine G_last (len := 1) dL_about_9 rfl (by omega) (by omega) ?_
    refine G_goto 17 dL_about_10 (by decide) ?_
    refine G_iconst (n := 0) dL_about_17 ⟨by decide, by decide⟩ ?_
    exact G_iret dL_about_18 rfl rfl rfl ⟨rfl, Or.inl ⟨h, rfl, rfl⟩⟩
  · refine GT_aload_n dL_about_0 rfl ?_
    refine GT_iconst (n := 0) dL_about_1 ⟨by decide, by decide⟩ ?_
    refine GT_aload_n dL_about_2 rfl ?_
    refine GT_iload_n dL_about_3 rfl ?_
    refine GT_iload_n dL_about_4 rfl ?_
    refine GT_callX (ci := 5) (as := [ai u, ai w]) (i := 4) dL_about_5 mcL_7 rfl (by decide) rfl (x_X5_about l hl d nu v hu u w h) rfl (by show _ ≤ d + 7; omega) rfl rfl (Nat.le_of_ble_eq_true rfl) (Nat.le_of_ble_eq_true rfl) (x := ⟨0, 10, 13, 13⟩) (tl := []) rfl rfl (by decide) at_L13 dL_about_13 rfl rfl (fun S2 v2 hq => ?_)
    obtain ⟨rfl, rfl⟩ := hq
    refine G_iconst (n := 1) dL_about_15 ⟨by decide, by decide⟩ ?_
    exact G_iret dL_about_16 rfl rfl rfl ⟨rfl, Or.inr ⟨h, rfl, rfl⟩⟩
