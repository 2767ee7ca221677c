def Rof (ci : Nat) : String := match ci with
  | 0 => RX0
  | 1 => RX1
  | 2 => RX2
  | 3 => RX3
  | 4 => RX4
  | 5 => RX5
  | _ => RX6
def Tof (ci : Nat) : u_T := match ci with
  | 0 => TX0
  | 1 => TX1
  | 2 => TX2
  | 3 => TX3
  | 4 => TX4
  | 5 => TX5
  | _ => TX6
theorem cin_0 : ∀ w ∈ u_ws RX0 TX0 4, w ∈ lw_good := by decide +kernel
theorem cin_1 : ∀ w ∈ u_ws RX1 TX1 7, w ∈ lw_good := by decide +kernel
theorem cin_2 : ∀ w ∈ u_ws RX2 TX2 12, w ∈ lw_good := by decide +kernel
theorem cin_3 : ∀ w ∈ u_ws RX3 TX3 2, w ∈ lw_good := by decide +kernel
theorem cin_4 : ∀ w ∈ u_ws RX4 TX4 11, w ∈ lw_good := by decide +kernel
theorem cin_5 : ∀ w ∈ u_ws RX5 TX5 10, w ∈ lw_good := by decide +kernel
theorem cin_6 : ∀ w ∈ u_ws RX6 TX6 46, w ∈ lw_good := by decide +kernel
theorem cls_at {ci : Nat} (h : ci < 7) : classes[ci]? = some (Rof ci, Tof ci, nf ci) := by
  match ci, h with
  | 0, _ => exact rfl
  | 1, _ => exact rfl
  | 2, _ => exact rfl
  | 3, _ => exact rfl
  | 4, _ => exact rfl
  | 5, _ => exact rfl
  | 6, _ => exact rfl
theorem cls_in {ci : Nat} (h : ci < 7) : ∀ w ∈ u_ws (Rof ci) (Tof ci) (nf ci), w ∈ lw_good := by
  match ci, h with
  | 0, _ => exact cin_0
  | 1, _ => exact cin_1
  | 2, _ => exact cin_2
  | 3, _ => exact cin_3
  | 4, _ => exact cin_4
  | 5, _ => exact cin_5
  | 6, _ => exact cin_6
theorem cls_ty {ci : Nat} (h : ci < 7) : ∀ k, k < nf ci → parseFieldDescriptor (Tof ci k).2.2.1 = some (tyof ci k) := by
  match ci, h with
  | 0, _ => exact tyX0_ok
  | 1, _ => exact tyX1_ok
  | 2, _ => exact tyX2_ok
  | 3, _ => exact tyX3_ok
  | 4, _ => exact tyX4_ok
  | 5, _ => exact tyX5_ok
  | 6, _ => exact tyX6_ok
theorem cls_nm {ci : Nat} (h : ci < 7) : ∀ a, a < nf ci → ∀ b, b < nf ci → a ≠ b → (Tof ci a).2.1 ≠ (Tof ci b).2.1 := by
  match ci, h with
  | 0, _ => exact nmX0
  | 1, _ => exact nmX1
  | 2, _ => exact nmX2
  | 3, _ => exact nmX3
  | 4, _ => exact nmX4
  | 5, _ => exact nmX5
  | 6, _ => exact nmX6
def FL (own : String) (idx ci j : Nat) : Prop := ci < 7 ∧ j < nf ci ∧ Cond.fieldLink own idx (Tof ci j).1 (Tof ci j).2.1 (Tof ci j).2.2.1 ∈ lw_good
def FLN (own : String) (idx ci j : Nat) : Prop := ci < 7 ∧ j < nf ci ∧ Cond.fieldLinkNest own idx (Tof ci j).1 (Tof ci j).2.1 (Tof ci j).2.2.1 RX5 ∈ nestw
def up (v : VV) (k : Nat) (j x : Int) : VV := fun a b => if a = k ∧ b = j then x else v a b
theorem up_at (v : VV) (k : Nat) (j x : Int) : up v k j x k = fun b => if b = j then x else v k b := by funext b; simp [up]
theorem up_self (v : VV) (k : Nat) (j x : Int) : up v k j x k j = x := by simp [up]
theorem up_ne {v : VV} {k a : Nat} {j x : Int} (h : a ≠ k) : up v k j x a = v a := by funext b; simp [up, h]
theorem up_nj {v : VV} {k a : Nat} {j b x : Int} (h : b ≠ j) : up v k j x a b = v a b := by simp [up, h]
theorem kr_iR {kind : Nat} {x : Int} (h : Nat.blt kind 3 = true) (hk : kr kind x) : iR x := by
  have : kind < 3 := by simpa using h
  match kind, this, hk with
  | 0, _, hk => exact hk
  | 1, _, hk => exact ⟨by have := hk.1; omega, by have := hk.2; omega⟩
  | 2, _, hk => rcases hk with rfl | rfl <;> exact ⟨by decide, by decide⟩
theorem skd_obj {sh : Nat × Nat} {ci j : Nat} (h : sh.1 = 16 + ci) : skd sh (j : Int) = fk ci j := by
  unfold skd
  rw [h, if_neg (by omega), show 16 + ci - 16 = ci by omega, Int.toNat_natCast]
theorem cell_obj {T : Nat → ClassId} {ad : Nat → Nat} {sh : Nat × Nat} {rk : Int → Option Nat} {vk : Int → Int} {ci : Nat} (h : sh.1 = 16 + ci) : cellE T ad sh rk vk = .inr (ci, flds ad ci rk vk) := by
  unfold cellE
  rw [h, if_neg (by omega), show 16 + ci - 16 = ci by omega]
theorem cell_arr {T : Nat → ClassId} {ad : Nat → Nat} {sh : Nat × Nat} {rk : Int → Option Nat} {vk : Int → Int} {t len : Nat} (h : sh = (t, len)) (ht : Nat.blt t 16 = true) : cellE T ad sh rk vk = .inl (T t, arrc ad t len rk vk) := by
  have : t < 16 := by simpa using ht
  subst h
  unfold cellE
  rw [if_pos this]
theorem wl_get {T : Nat → ClassId} {ad : Nat → Nat} {S : AS} {v : VV} {k : Nat} (hk : k < S.1) : (wl T ad S v)[k]? = some (ad k, cellE T ad (S.2.1 k) (S.2.2 k) (v k)) := by
  simp [wl, List.getElem?_map, List.getElem?_range hk]
theorem wl_set {T : Nat → ClassId} {ad : Nat → Nat} {S S2 : AS} {v v2 : VV} {k : Nat} (hn : S2.1 = S.1) (hsh : S2.2.1 = S.2.1) (hr : ∀ a, a ≠ k → S2.2.2 a = S.2.2 a) (h : ∀ a, a ≠ k → v2 a = v a) : (wl T ad S v).set k (ad k, cellE T ad (S2.2.1 k) (S2.2.2 k) (v2 k)) = wl T ad S2 v2 := by
  apply List.ext_getElem?
  intro i
  rw [List.getElem?_set]
  by_cases hi : i < S.1
  · rw [wl_get (S := S2) (by rw [hn]; exact hi)]
    by_cases hk : k = i
    · subst hk
      rw [if_pos rfl, if_pos (by simpa [wl] using hi)]
    · rw [if_neg hk, wl_get hi, h i (fun z => hk z.symm), hr i (fun z => hk z.symm), hsh]
  · have e1 : (wl T ad S v)[i]? = none := by simp [wl]; omega
    have e2 : (wl T ad S2 v2)[i]? = none := by simp [wl, hn]; omega
    rw [e1, e2]
    by_cases hk : k = i
    · subst hk
      rw [if_pos rfl, if_neg (by simpa [wl] using hi)]
    · rw [if_neg hk]
theorem flds_get {ad : Nat → Nat} {ci j : Nat} {rk : Int → Option Nat} {vk : Int → Int} (h : j < nf ci) : (flds ad ci rk vk)[j]? = some (vlk (fk ci j) ad (rk j) (vk j)) := by
  simp [flds, List.getElem?_map, List.getElem?_range h]
theorem flds_len {ad : Nat → Nat} {ci : Nat} {rk : Int → Option Nat} {vk : Int → Int} : (flds ad ci rk vk).length = nf ci := by simp [flds]
theorem flds_set {ad : Nat → Nat} {ci j : Nat} {rk : Int → Option Nat} {vk : Int → Int} (r : Option Nat) (x : Int) (hj : j < nf ci) : (flds ad ci rk vk).set j (vlk (fk ci j) ad r x) = flds ad ci (fun b => if b = (j : Int) then r else rk b) (fun b => if b = (j : Int) then x else vk b) := by
  apply List.ext_getElem?
  intro i
  rw [List.getElem?_set]
  by_cases hi : i < nf ci
  · have e2 := flds_get (ad := ad) (rk := fun b => if b = (j : Int) then r else rk b) (vk := fun b => if b = (j : Int) then x else vk b) hi
    rw [e2]
    by_cases h : j = i
    · subst h
      rw [if_pos rfl, if_pos (by rw [flds_len]; exact hi), if_pos rfl, if_pos rfl]
    · have h' : ¬ ((i : Int) = (j : Int)) := fun z => h (by omega)
      rw [if_neg h, flds_get hi, if_neg h', if_neg h']
  · rw [List.getElem?_eq_none (l := flds ad ci (fun b => if b = (j : Int) then r else rk b) _) (by rw [flds_len]; omega), if_neg (by omega), List.getElem?_eq_none (by rw [flds_len]; omega)]
theorem RV_up {S : AS} {v : VV} {k : Nat} {j x : Int} (h : RV S v) (hx : kr (skd (S.2.1 k) j) x) : RV S (up v k j x) := by
  intro a ha b
  unfold up
  split
  · rename_i hh
    rw [hh.1, hh.2]
    exact hx
  · exact h a ha b
theorem kd_0 {t : FieldType} (h : kd t = 0) : t = .int := by cases t <;> first | rfl | cases h
theorem kd_2 {t : FieldType} (h : kd t = 2) : t = .boolean := by cases t <;> first | rfl | cases h
theorem kd_5 {t : FieldType} (h : kd t = 5) : t = .long := by cases t <;> first | rfl | cases h
theorem kd_3 {t : FieldType} (h : kd t = 3) (r : Option Nat) (ad : Nat → Nat) (hp : ∃ n, t = .object n ∨ ∃ u, t = .array u) : narrow t (va_rf (r.map ad)) = va_rf (r.map ad) ∧ fits t (va_rf (r.map ad)) = true := by
  obtain ⟨n, rfl | ⟨u, rfl⟩⟩ := hp <;> cases r <;> exact ⟨rfl, rfl⟩
theorem tr_rf {ad ea : Nat → Nat} (r : Option Nat) : tr ad ea (ar r) = va_rf (r.map ad) := by cases r <;> rfl
theorem RA_rf {S : AS} (h : WR S) {k : Nat} (hk : k < S.1) (j : Int) : RA S.1 (ar (S.2.2 k j)) := by
  cases hr : S.2.2 k j with
  | none => trivial
  | some r => exact h k hk j r hr
theorem vlk_i {kind : Nat} {ad : Nat → Nat} {r : Option Nat} {x : Int} (h : Nat.blt kind 3 = true) : vlk kind ad r x = .int (Int32.ofInt x) := by
  have : kind < 3 := by simpa using h
  match kind, this with
  | 0, _ => rfl
  | 1, _ => rfl
  | 2, _ => rfl
theorem clampI {i : Int} (hi : iR i) : (Int32.ofInt i).toNatClampNeg = i.toNat := by
  show (Int32.ofInt i).toInt.toNat = i.toNat
  rw [iR_toInt hi]
theorem in_I {i : Int} {n : Nat} (hi : iR i) (h0 : 0 ≤ i) (h1 : i < n) : vp_in (Int32.ofInt i) n := vp_in_iff.mpr (by rw [iR_toInt hi]; exact ⟨h0, h1⟩)
theorem upd_I {f : Int → Int} {i x : Int} (h0 : 0 ≤ i) : upd (fun (j : Nat) => Int32.ofInt (f j)) i.toNat (Int32.ofInt x) = fun (j : Nat) => Int32.ofInt ((fun b => if b = i then x else f b) (j : Int)) := by
  funext j
  unfold upd
  by_cases h : j = i.toNat
  · have h2 : (j : Int) = i := by omega
    rw [if_pos h]
    exact congrArg Int32.ofInt (if_pos h2).symm
  · have h2 : ¬ ((j : Int) = i) := by omega
    rw [if_neg h]
    exact congrArg Int32.ofInt (if_neg h2).symm
theorem narB {x : Int} (hz : -128 ≤ x ∧ x < 128) : vp_nar .byte (Int32.ofInt x) = Int32.ofInt x := by
  rw [vp_nar_byte, ← Int32.toInt_inj, Int8.toInt_toInt32, Int32.toInt_toInt8, iR_toInt ⟨by omega, by omega⟩]
  exact Int.bmod_eq_of_le (by omega) (by omega)
theorem narZ {x : Int} (hz : x = 0 ∨ x = 1) : vp_nar .boolean (Int32.ofInt x) = Int32.ofInt x := by rcases hz with rfl | rfl <;> rfl
section GH
variable {l : Launch} {μ : MU} {Φ : Option AV → AS → VV → Prop} {c0 s0 : Nat} {S : AS} {pc : Nat} {ls : LL} {st : List AV} {v : VV}
theorem Sx.hp {s : State} {D : va_G} {T : Nat → ClassId} {ea : Nat → Nat} {A : Nat → Prop} {ad0 : Nat → Nat} {n0 : Nat} {H H1 : Heap} {locs locs1 : List Loc} {ad : Nat → Nat} {lsC : Array Slot} {v2 : VV} {r2 : Nat → Int → Option Nat} (h : Sx μ s D T ea A ad0 n0 S ls st v H locs ad lsC) (hw : WR (S.1, S.2.1, r2)) (hv : RV S v2) (h1 : va_P D classes (wl T ad (S.1, S.2.1, r2) v2) H1) (h2 : va_D A (wl T ad (S.1, S.2.1, r2) v2)) (h3 : va_S A s.heap H1 locs1) : Sx μ s D T ea A ad0 n0 (S.1, S.2.1, r2) ls st v2 H1 locs1 ad lsC := ⟨h.1, hw, hv, h.2.2.2.1, h.2.2.2.2.1, h1, h2, h3, h.2.2.2.2.2.2.2.2⟩
theorem G_getI {idx ci j k : Nat} (hd : decode μ.2.1 pc = .ok (.getfield idx, 3)) (hf : FL μ.1.cls idx ci j) {jj : Int} (hj : ((j : Nat) : Int) = jj) (hs : (S.2.1 k).1 = 16 + ci) (hi : Nat.blt (fk ci j) 3 = true) (kk : G l μ Φ c0 s0 S (pc+3) ls (ai (v k jj) :: st) v) : G l μ Φ c0 s0 S (pc) ls (ar (some k) :: st) v := by
  intro p en s m args below meth c H locs D T ea A ad ad0 n0 lsC hC hS
  subst hj
  have hk : k < S.1 := hS.top
  have he := wl_get (T := T) (ad := ad) (v := v) hk
  rw [cell_obj hs] at he
  refine va_get (own := μ.1.cls) (C := Rof ci) (T := Tof ci) (N := nf ci) (Ts := lw_good) hC.1 hC.2.1 hC.2.2.2.2.2.2.2.1 (cls_in hf.1) hC.2.2.2.2.2.2.1 hC.2.2.2.2.2.2.2.2.1 hS.2.2.2.2.2.1 k he (cls_at hf.1) j hf.2.1 (hC.2.2.2.2.2.2.2.1 _ hf.2.2) (fun _ h => h) (v := tr ad ea (ai (v k (j : Int)))) ?_ hd (kk p en s m args below meth c _ _ D T ea A _ ad0 n0 _ hC (hS.stk fun h => RAs_cons.mpr ⟨kr_iR hi (by have := hS.vr k hk (j : Int); rwa [skd_obj hs] at this), (RAs_cons.mp h).2⟩))
  rw [flds_get hf.2.1]
  exact congrArg some (vlk_i hi)
theorem G_getNI {idx ci j k : Nat} (hd : decode μ.2.1 pc = .ok (.getfield idx, 3)) (hf : FLN μ.1.cls idx ci j) {jj : Int} (hj : ((j : Nat) : Int) = jj) (hs : (S.2.1 k).1 = 16 + ci) (hi : Nat.blt (fk ci j) 3 = true) (kk : G l μ Φ c0 s0 S (pc+3) ls (ai (v k jj) :: st) v) : G l μ Φ c0 s0 S (pc) ls (ar (some k) :: st) v := by
  intro p en s m args below meth c H locs D T ea A ad ad0 n0 lsC hC hS
  subst hj
  have hk : k < S.1 := hS.top
  have he := wl_get (T := T) (ad := ad) (v := v) hk
  rw [cell_obj hs] at he
  refine va_getN (own := μ.1.cls) (C := Rof ci) (T := Tof ci) (N := nf ci) (Ts := lw_good) hC.1 hC.2.1 hC.2.2.2.2.2.2.2.1 (cls_in hf.1) hC.2.2.2.2.2.2.1 hC.2.2.2.2.2.2.2.2.1 hS.2.2.2.2.2.1 k he (cls_at hf.1) j hf.2.1 (va_Nw.use rfl (hC.2.2.2.2.2.2.2.2.2.1.1.2.2.2.1 _ hf.2.2)) (fun _ h => h) (v := tr ad ea (ai (v k (j : Int)))) ?_ hd (kk p en s m args below meth c _ _ D T ea A _ ad0 n0 _ hC (hS.stk fun h => RAs_cons.mpr ⟨kr_iR hi (by have := hS.vr k hk (j : Int); rwa [skd_obj hs] at this), (RAs_cons.mp h).2⟩))
  rw [flds_get hf.2.1]
  exact congrArg some (vlk_i hi)
theorem G_getR {idx ci j k : Nat} (hd : decode μ.2.1 pc = .ok (.getfield idx, 3)) (hf : FL μ.1.cls idx ci j) {jj : Int} (hj : ((j : Nat) : Int) = jj) (hs : (S.2.1 k).1 = 16 + ci) (hi : fk ci j = 3) (kk : G l μ Φ c0 s0 S (pc+3) ls (ar (S.2.2 k jj) :: st) v) : G l μ Φ c0 s0 S (pc) ls (ar (some k) :: st) v := by
  intro p en s m args below meth c H locs D T ea A ad ad0 n0 lsC hC hS
  subst hj
  have hk : k < S.1 := hS.top
  have he := wl_get (T := T) (ad := ad) (v := v) hk
  rw [cell_obj hs] at he
  refine va_get (own := μ.1.cls) (C := Rof ci) (T := Tof ci) (N := nf ci) (Ts := lw_good) hC.1 hC.2.1 hC.2.2.2.2.2.2.2.1 (cls_in hf.1) hC.2.2.2.2.2.2.1 hC.2.2.2.2.2.2.2.2.1 hS.2.2.2.2.2.1 k he (cls_at hf.1) j hf.2.1 (hC.2.2.2.2.2.2.2.1 _ hf.2.2) (fun _ h => h) (v := tr ad ea (ar (S.2.2 k (j : Int)))) ?_ hd (kk p en s m args below meth c _ _ D T ea A _ ad0 n0 _ hC (hS.stk fun h => RAs_cons.mpr ⟨RA_rf hS.2.1 hk _, (RAs_cons.mp h).2⟩))
  rw [flds_get hf.2.1]
  exact congrArg some (by rw [hi]; exact (tr_rf _).symm)
theorem G_getL {idx ci j k : Nat} (hd : decode μ.2.1 pc = .ok (.getfield idx, 3)) (hf : FL μ.1.cls idx ci j) {jj : Int} (hj : ((j : Nat) : Int) = jj) (hs : (S.2.1 k).1 = 16 + ci) (hi : fk ci j = 5) (kk : G l μ Φ c0 s0 S (pc+3) ls (al (v k jj) :: st) v) : G l μ Φ c0 s0 S (pc) ls (ar (some k) :: st) v := by
  intro p en s m args below meth c H locs D T ea A ad ad0 n0 lsC hC hS
  subst hj
  have hk : k < S.1 := hS.top
  have he := wl_get (T := T) (ad := ad) (v := v) hk
  rw [cell_obj hs] at he
  refine va_get (own := μ.1.cls) (C := Rof ci) (T := Tof ci) (N := nf ci) (Ts := lw_good) hC.1 hC.2.1 hC.2.2.2.2.2.2.2.1 (cls_in hf.1) hC.2.2.2.2.2.2.1 hC.2.2.2.2.2.2.2.2.1 hS.2.2.2.2.2.1 k he (cls_at hf.1) j hf.2.1 (hC.2.2.2.2.2.2.2.1 _ hf.2.2) (fun _ h => h) (v := tr ad ea (al (v k (j : Int)))) ?_ hd (kk p en s m args below meth c _ _ D T ea A _ ad0 n0 _ hC (hS.stk fun h => RAs_cons.mpr ⟨by have := hS.vr k hk (j : Int); rw [skd_obj hs, hi] at this; exact this, (RAs_cons.mp h).2⟩))
  rw [flds_get hf.2.1]
  exact congrArg some (by rw [hi]; rfl)
theorem G_putI {idx ci j k : Nat} {x : Int} (hd : decode μ.2.1 pc = .ok (.putfield idx, 3)) (hf : FL μ.1.cls idx ci j) (hfin : (Tof ci j).2.2.2 = false) {jj : Int} (hj : ((j : Nat) : Int) = jj) (hs : (S.2.1 k).1 = 16 + ci) (hi : fk ci j = 0) (kk : G l μ Φ c0 s0 S (pc+3) ls (st) (up v k jj x)) : G l μ Φ c0 s0 S (pc) ls (ai x :: ar (some k) :: st) v := by
  intro p en s m args below meth c H locs D T ea A ad ad0 n0 lsC hC hS
  subst hj
  have hk : k < S.1 := hS.two
  have hx : kr (fk ci j) x := by rw [hi]; exact hS.top
  have he := wl_get (T := T) (ad := ad) (v := v) hk
  rw [cell_obj hs] at he
  refine va_put (own := μ.1.cls) (C := Rof ci) (T := Tof ci) (N := nf ci) (Ts := lw_good) hC.1 hC.2.1 hC.2.2.2.2.2.2.2.1 (cls_in hf.1) (tyof ci) (cls_ty hf.1) (cls_nm hf.1) hC.2.2.2.2.2.2.1 hC.2.2.2.2.2.2.2.2.1 hS.2.2.2.2.2.1 hS.2.2.2.2.2.2.1 hS.2.2.2.2.2.2.2.1 k he (cls_at hf.1) j hf.2.1 (hC.2.2.2.2.2.2.2.1 _ hf.2.2) (fun _ h => h) hfin (ty := tyof ci j) (v := Value.int (Int32.ofInt x)) (cls_ty hf.1 j hf.2.1) (by rw [kd_0 hi]; rfl) (by rw [kd_0 hi]; rfl) (by rw [flds_len]; exact hf.2.1) hd (fun H1 locs1 h1 h2 h3 => ?_)
  have e : (wl T ad S v).set k (ad k, .inr (ci, (flds ad ci (S.2.2 k) (v k)).set j (Value.int (Int32.ofInt x)))) = wl T ad S (up v k j x) := by
    rw [show Value.int (Int32.ofInt x) = vlk (fk ci j) ad (S.2.2 k j) x from (vlk_i (by rw [hi]; rfl)).symm, flds_set (S.2.2 k j) x hf.2.1]
    have h9 := wl_set (T := T) (ad := ad) (S := S) (S2 := S) (v := v) (v2 := up v k j x) (k := k) rfl rfl (fun _ _ => rfl) (fun a ha => up_ne ha)
    rw [cell_obj (sh := (S).2.1 k) hs, up_at] at h9
    rw [← h9]
    have e3 : (fun b => if b = (j : Int) then S.2.2 k j else S.2.2 k b) = S.2.2 k := by
      funext b
      by_cases hb : b = (j : Int)
      · simp [hb]
      · simp [hb]
    rw [e3]
  rw [e] at h1 h2
  exact kk p en s m args below meth c _ _ D T ea A _ ad0 n0 _ hC ((hS.stk fun h => (RAs_cons.mp (RAs_cons.mp h).2).2).hp hS.2.1 (RV_up hS.vr (by rw [skd_obj hs]; exact hx)) h1 h2 h3)
theorem G_putZ {idx ci j k : Nat} {x : Int} (hd : decode μ.2.1 pc = .ok (.putfield idx, 3)) (hf : FL μ.1.cls idx ci j) (hfin : (Tof ci j).2.2.2 = false) {jj : Int} (hj : ((j : Nat) : Int) = jj) (hs : (S.2.1 k).1 = 16 + ci) (hi : fk ci j = 2) (hz : x = 0 ∨ x = 1) (kk : G l μ Φ c0 s0 S (pc+3) ls (st) (up v k jj x)) : G l μ Φ c0 s0 S (pc) ls (ai x :: ar (some k) :: st) v := by
  intro p en s m args below meth c H locs D T ea A ad ad0 n0 lsC hC hS
  subst hj
  have hk : k < S.1 := hS.two
  have hx : kr (fk ci j) x := by rw [hi]; exact hz
  have he := wl_get (T := T) (ad := ad) (v := v) hk
  rw [cell_obj hs] at he
  refine va_put (own := μ.1.cls) (C := Rof ci) (T := Tof ci) (N := nf ci) (Ts := lw_good) hC.1 hC.2.1 hC.2.2.2.2.2.2.2.1 (cls_in hf.1) (tyof ci) (cls_ty hf.1) (cls_nm hf.1) hC.2.2.2.2.2.2.1 hC.2.2.2.2.2.2.2.2.1 hS.2.2.2.2.2.1 hS.2.2.2.2.2.2.1 hS.2.2.2.2.2.2.2.1 k he (cls_at hf.1) j hf.2.1 (hC.2.2.2.2.2.2.2.1 _ hf.2.2) (fun _ h => h) hfin (ty := tyof ci j) (v := Value.int (Int32.ofInt x)) (cls_ty hf.1 j hf.2.1) (by rw [kd_2 hi]; rcases hz with rfl | rfl <;> rfl) (by rw [kd_2 hi]; rcases hz with rfl | rfl <;> rfl) (by rw [flds_len]; exact hf.2.1) hd (fun H1 locs1 h1 h2 h3 => ?_)
  have e : (wl T ad S v).set k (ad k, .inr (ci, (flds ad ci (S.2.2 k) (v k)).set j (Value.int (Int32.ofInt x)))) = wl T ad S (up v k j x) := by
    rw [show Value.int (Int32.ofInt x) = vlk (fk ci j) ad (S.2.2 k j) x from (vlk_i (by rw [hi]; rfl)).symm, flds_set (S.2.2 k j) x hf.2.1]
    have h9 := wl_set (T := T) (ad := ad) (S := S) (S2 := S) (v := v) (v2 := up v k j x) (k := k) rfl rfl (fun _ _ => rfl) (fun a ha => up_ne ha)
    rw [cell_obj (sh := (S).2.1 k) hs, up_at] at h9
    rw [← h9]
    have e3 : (fun b => if b = (j : Int) then S.2.2 k j else S.2.2 k b) = S.2.2 k := by
      funext b
      by_cases hb : b = (j : Int)
      · simp [hb]
      · simp [hb]
    rw [e3]
  rw [e] at h1 h2
  exact kk p en s m args below meth c _ _ D T ea A _ ad0 n0 _ hC ((hS.stk fun h => (RAs_cons.mp (RAs_cons.mp h).2).2).hp hS.2.1 (RV_up hS.vr (by rw [skd_obj hs]; exact hx)) h1 h2 h3)
theorem G_putIF {idx ci j k : Nat} {x : Int} (hd : decode μ.2.1 pc = .ok (.putfield idx, 3)) (hf : FL μ.1.cls idx ci j) (hfin : (Tof ci j).2.2.2 = true) {jj : Int} (hj : ((j : Nat) : Int) = jj) (hs : (S.2.1 k).1 = 16 + ci) (hi : fk ci j = 0) (hnm : μ.1.name = "<init>") (hdc : (Tof ci j).1 = μ.1.cls) (kk : G l μ Φ c0 s0 S (pc+3) ls (st) (up v k jj x)) : G l μ Φ c0 s0 S (pc) ls (ai x :: ar (some k) :: st) v := by
  intro p en s m args below meth c H locs D T ea A ad ad0 n0 lsC hC hS
  subst hj
  have hk : k < S.1 := hS.two
  have hx : kr (fk ci j) x := by rw [hi]; exact hS.top
  have he := wl_get (T := T) (ad := ad) (v := v) hk
  rw [cell_obj hs] at he
  refine va_putF (own := μ.1.cls) (C := Rof ci) (T := Tof ci) (N := nf ci) (Ts := lw_good) hC.1 hC.2.1 hC.2.2.2.2.2.2.2.1 (cls_in hf.1) (tyof ci) (cls_ty hf.1) (cls_nm hf.1) hC.2.2.2.2.2.2.1 hC.2.2.2.2.2.2.2.2.1 hS.2.2.2.2.2.1 hS.2.2.2.2.2.2.1 hS.2.2.2.2.2.2.2.1 k he (cls_at hf.1) j hf.2.1 (hC.2.2.2.2.2.2.2.1 _ hf.2.2) (fun _ h => h) hfin (hC.2.2.2.2.2.1.trans hnm) hdc (ty := tyof ci j) (v := Value.int (Int32.ofInt x)) (cls_ty hf.1 j hf.2.1) (by rw [kd_0 hi]; rfl) (by rw [kd_0 hi]; rfl) (by rw [flds_len]; exact hf.2.1) hd (fun H1 locs1 h1 h2 h3 => ?_)
  have e : (wl T ad S v).set k (ad k, .inr (ci, (flds ad ci (S.2.2 k) (v k)).set j (Value.int (Int32.ofInt x)))) = wl T ad S (up v k j x) := by
    rw [show Value.int (Int32.ofInt x) = vlk (fk ci j) ad (S.2.2 k j) x from (vlk_i (by rw [hi]; rfl)).symm, flds_set (S.2.2 k j) x hf.2.1]
    have h9 := wl_set (T := T) (ad := ad) (S := S) (S2 := S) (v := v) (v2 := up v k j x) (k := k) rfl rfl (fun _ _ => rfl) (fun a ha => up_ne ha)
    rw [cell_obj (sh := (S).2.1 k) hs, up_at] at h9
    rw [← h9]
    have e3 : (fun b => if b = (j : Int) then S.2.2 k j else S.2.2 k b) = S.2.2 k := by
      funext b
      by_cases hb : b = (j : Int)
      · simp [hb]
      · simp [hb]
    rw [e3]
  rw [e] at h1 h2
  exact kk p en s m args below meth c _ _ D T ea A _ ad0 n0 _ hC ((hS.stk fun h => (RAs_cons.mp (RAs_cons.mp h).2).2).hp hS.2.1 (RV_up hS.vr (by rw [skd_obj hs]; exact hx)) h1 h2 h3)
theorem G_putL {idx ci j k : Nat} {x : Int} (hd : decode μ.2.1 pc = .ok (.putfield idx, 3)) (hf : FL μ.1.cls idx ci j) (hfin : (Tof ci j).2.2.2 = false) {jj : Int} (hj : ((j : Nat) : Int) = jj) (hs : (S.2.1 k).1 = 16 + ci) (hi : fk ci j = 5) (kk : G l μ Φ c0 s0 S (pc+3) ls (st) (up v k jj x)) : G l μ Φ c0 s0 S (pc) ls (al x :: ar (some k) :: st) v := by
  intro p en s m args below meth c H locs D T ea A ad ad0 n0 lsC hC hS
  subst hj
  have hk : k < S.1 := hS.two
  have hx : kr (fk ci j) x := by rw [hi]; exact hS.top
  have he := wl_get (T := T) (ad := ad) (v := v) hk
  rw [cell_obj hs] at he
  refine va_put (own := μ.1.cls) (C := Rof ci) (T := Tof ci) (N := nf ci) (Ts := lw_good) hC.1 hC.2.1 hC.2.2.2.2.2.2.2.1 (cls_in hf.1) (tyof ci) (cls_ty hf.1) (cls_nm hf.1) hC.2.2.2.2.2.2.1 hC.2.2.2.2.2.2.2.2.1 hS.2.2.2.2.2.1 hS.2.2.2.2.2.2.1 hS.2.2.2.2.2.2.2.1 k he (cls_at hf.1) j hf.2.1 (hC.2.2.2.2.2.2.2.1 _ hf.2.2) (fun _ h => h) hfin (ty := tyof ci j) (v := Value.long (Int64.ofInt x)) (cls_ty hf.1 j hf.2.1) (by rw [kd_5 hi]; rfl) (by rw [kd_5 hi]; rfl) (by rw [flds_len]; exact hf.2.1) hd (fun H1 locs1 h1 h2 h3 => ?_)
  have e : (wl T ad S v).set k (ad k, .inr (ci, (flds ad ci (S.2.2 k) (v k)).set j (Value.long (Int64.ofInt x)))) = wl T ad S (up v k j x) := by
    rw [show Value.long (Int64.ofInt x) = vlk (fk ci j) ad (S.2.2 k j) x from (by rw [hi]; rfl), flds_set (S.2.2 k j) x hf.2.1]
    have h9 := wl_set (T := T) (ad := ad) (S := S) (S2 := S) (v := v) (v2 := up v k j x) (k := k) rfl rfl (fun _ _ => rfl) (fun a ha => up_ne ha)
    rw [cell_obj (sh := (S).2.1 k) hs, up_at] at h9
    rw [← h9]
    have e3 : (fun b => if b = (j : Int) then S.2.2 k j else S.2.2 k b) = S.2.2 k := by
      funext b
      by_cases hb : b = (j : Int)
      · simp [hb]
      · simp [hb]
    rw [e3]
  rw [e] at h1 h2
  exact kk p en s m args below meth c _ _ D T ea A _ ad0 n0 _ hC ((hS.stk fun h => (RAs_cons.mp (RAs_cons.mp h).2).2).hp hS.2.1 (RV_up hS.vr (by rw [skd_obj hs]; exact hx)) h1 h2 h3)
theorem G_iald {k len : Nat} {i : Int} (hd : decode μ.2.1 pc = .ok (.iaload, 1)) (hs : S.2.1 k = (0, len)) (h0 : 0 ≤ i) (h1 : i < (len : Int)) (kk : G l μ Φ c0 s0 S (pc+1) ls (ai (v k i) :: st) v) : G l μ Φ c0 s0 S (pc) ls (ai i :: ar (some k) :: st) v := by
  intro p en s m args below meth c H locs D T ea A ad ad0 n0 lsC hC hS
  have hk : k < S.1 := hS.two
  have hi : iR i := hS.top
  have he := wl_get (T := T) (ad := ad) (v := v) hk
  rw [cell_arr hs rfl] at he
  refine va_iald hC.1 hC.2.1 hC.2.2.2.2.2.2.2.2.1 hS.2.2.2.2.2.1 k 0 he rfl (in_I hi h0 h1) hd ?_
  have hr : iR (v k i) := kr_iR (kind := 0) rfl (by have := hS.vr k hk i; unfold skd at this; rw [hs] at this; exact this)
  have k2 := kk p en s m args below meth c _ _ D T ea A _ ad0 n0 _ hC (hS.stk fun h => RAs_cons.mpr ⟨hr, (RAs_cons.mp (RAs_cons.mp h).2).2⟩)
  have e : Int32.ofInt (v k ((Int32.ofInt i).toNatClampNeg : Nat)) = Int32.ofInt (v k i) := by rw [clampI hi, Int.toNat_of_nonneg h0]
  show W p l en _ s m args below meth c H locs c0 s0 _ (F0 m (pc + 1) lsC (Value.int (Int32.ofInt (v k ((Int32.ofInt i).toNatClampNeg : Nat))) :: st.map (tr ad ea)))
  rw [e]
  exact k2
theorem G_bald {k len : Nat} {i : Int} (hd : decode μ.2.1 pc = .ok (.baload, 1)) (hs : S.2.1 k = (1, len)) (h0 : 0 ≤ i) (h1 : i < (len : Int)) (kk : G l μ Φ c0 s0 S (pc+1) ls (ai (v k i) :: st) v) : G l μ Φ c0 s0 S (pc) ls (ai i :: ar (some k) :: st) v := by
  intro p en s m args below meth c H locs D T ea A ad ad0 n0 lsC hC hS
  have hk : k < S.1 := hS.two
  have hi : iR i := hS.top
  have he := wl_get (T := T) (ad := ad) (v := v) hk
  rw [cell_arr hs rfl] at he
  refine va_bald hC.1 hC.2.1 hC.2.2.2.2.2.2.2.2.1 hS.2.2.2.2.2.1 k 1 he rfl (in_I hi h0 h1) hd ?_
  have hr : iR (v k i) := kr_iR (kind := 1) rfl (by have := hS.vr k hk i; unfold skd at this; rw [hs] at this; exact this)
  have k2 := kk p en s m args below meth c _ _ D T ea A _ ad0 n0 _ hC (hS.stk fun h => RAs_cons.mpr ⟨hr, (RAs_cons.mp (RAs_cons.mp h).2).2⟩)
  have e : Int32.ofInt (v k ((Int32.ofInt i).toNatClampNeg : Nat)) = Int32.ofInt (v k i) := by rw [clampI hi, Int.toNat_of_nonneg h0]
  show W p l en _ s m args below meth c H locs c0 s0 _ (F0 m (pc + 1) lsC (Value.int (Int32.ofInt (v k ((Int32.ofInt i).toNatClampNeg : Nat))) :: st.map (tr ad ea)))
  rw [e]
  exact k2
theorem G_zald {k len : Nat} {i : Int} (hd : decode μ.2.1 pc = .ok (.baload, 1)) (hs : S.2.1 k = (2, len)) (h0 : 0 ≤ i) (h1 : i < (len : Int)) (kk : G l μ Φ c0 s0 S (pc+1) ls (ai (v k i) :: st) v) : G l μ Φ c0 s0 S (pc) ls (ai i :: ar (some k) :: st) v := by
  intro p en s m args below meth c H locs D T ea A ad ad0 n0 lsC hC hS
  have hk : k < S.1 := hS.two
  have hi : iR i := hS.top
  have he := wl_get (T := T) (ad := ad) (v := v) hk
  rw [cell_arr hs rfl] at he
  refine va_zald hC.1 hC.2.1 hC.2.2.2.2.2.2.2.2.1 hS.2.2.2.2.2.1 k 2 he rfl (in_I hi h0 h1) hd ?_
  have hr : iR (v k i) := kr_iR (kind := 2) rfl (by have := hS.vr k hk i; unfold skd at this; rw [hs] at this; exact this)
  have k2 := kk p en s m args below meth c _ _ D T ea A _ ad0 n0 _ hC (hS.stk fun h => RAs_cons.mpr ⟨hr, (RAs_cons.mp (RAs_cons.mp h).2).2⟩)
  have e : Int32.ofInt (v k ((Int32.ofInt i).toNatClampNeg : Nat)) = Int32.ofInt (v k i) := by rw [clampI hi, Int.toNat_of_nonneg h0]
  show W p l en _ s m args below meth c H locs c0 s0 _ (F0 m (pc + 1) lsC (Value.int (Int32.ofInt (v k ((Int32.ofInt i).toNatClampNeg : Nat))) :: st.map (tr ad ea)))
  rw [e]
  exact k2
theorem G_iast {k len : Nat} {i x : Int} (hd : decode μ.2.1 pc = .ok (.iastore, 1)) (hs : S.2.1 k = (0, len)) (h0 : 0 ≤ i) (h1 : i < (len : Int)) (kk : G l μ Φ c0 s0 S (pc+1) ls (st) (up v k i x)) : G l μ Φ c0 s0 S (pc) ls (ai x :: ai i :: ar (some k) :: st) v := by
  intro p en s m args below meth c H locs D T ea A ad ad0 n0 lsC hC hS
  have hk : k < S.1 := hS.three
  have hi : iR i := hS.two
  have he := wl_get (T := T) (ad := ad) (v := v) hk
  rw [cell_arr hs rfl] at he
  refine va_iast hC.1 hC.2.1 hC.2.2.2.2.2.2.2.2.1 hS.2.2.2.2.2.1 hS.2.2.2.2.2.2.1 hS.2.2.2.2.2.2.2.1 k 0 he rfl (in_I hi h0 h1) hd (fun H1 locs1 g1 g2 g3 => ?_)
  have e : (wl T ad S v).set k (ad k, .inl (T 0, len, .inl (upd (fun (j : Nat) => Int32.ofInt (v k (j : Int))) (Int32.ofInt i).toNatClampNeg (Int32.ofInt x)))) = wl T ad S (up v k i x) := by
    have h9 := wl_set (T := T) (ad := ad) (S := S) (S2 := S) (v := v) (v2 := up v k i x) (k := k) rfl rfl (fun _ _ => rfl) (fun a ha => up_ne ha)
    rw [cell_arr hs rfl, up_at] at h9
    rw [← h9, clampI hi]
    rw [upd_I h0]
    rfl
  rw [e] at g1 g2
  exact kk p en s m args below meth c _ _ D T ea A _ ad0 n0 _ hC ((hS.stk fun h => (RAs_cons.mp (RAs_cons.mp (RAs_cons.mp h).2).2).2).hp hS.2.1 (RV_up hS.vr (by unfold skd; rw [hs]; exact hS.top)) g1 g2 g3)
theorem G_bast {k len : Nat} {i x : Int} (hd : decode μ.2.1 pc = .ok (.bastore, 1)) (hs : S.2.1 k = (1, len)) (h0 : 0 ≤ i) (h1 : i < (len : Int)) (hz : -128 ≤ x ∧ x < 128) (kk : G l μ Φ c0 s0 S (pc+1) ls (st) (up v k i x)) : G l μ Φ c0 s0 S (pc) ls (ai x :: ai i :: ar (some k) :: st) v := by
  intro p en s m args below meth c H locs D T ea A ad ad0 n0 lsC hC hS
  have hk : k < S.1 := hS.three
  have hi : iR i := hS.two
  have he := wl_get (T := T) (ad := ad) (v := v) hk
  rw [cell_arr hs rfl] at he
  refine va_bast hC.1 hC.2.1 hC.2.2.2.2.2.2.2.2.1 hS.2.2.2.2.2.1 hS.2.2.2.2.2.2.1 hS.2.2.2.2.2.2.2.1 k 1 he rfl (in_I hi h0 h1) hd (fun H1 locs1 g1 g2 g3 => ?_)
  have e : (wl T ad S v).set k (ad k, .inl (T 1, len, .inl (upd (fun (j : Nat) => Int32.ofInt (v k (j : Int))) (Int32.ofInt i).toNatClampNeg (vp_nar .byte (Int32.ofInt x))))) = wl T ad S (up v k i x) := by
    have h9 := wl_set (T := T) (ad := ad) (S := S) (S2 := S) (v := v) (v2 := up v k i x) (k := k) rfl rfl (fun _ _ => rfl) (fun a ha => up_ne ha)
    rw [cell_arr hs rfl, up_at] at h9
    rw [← h9, clampI hi]
    rw [narB hz]
    rw [upd_I h0]
    rfl
  rw [e] at g1 g2
  exact kk p en s m args below meth c _ _ D T ea A _ ad0 n0 _ hC ((hS.stk fun h => (RAs_cons.mp (RAs_cons.mp (RAs_cons.mp h).2).2).2).hp hS.2.1 (RV_up hS.vr (by unfold skd; rw [hs]; exact hz)) g1 g2 g3)
theorem G_zast {k len : Nat} {i x : Int} (hd : decode μ.2.1 pc = .ok (.bastore, 1)) (hs : S.2.1 k = (2, len)) (h0 : 0 ≤ i) (h1 : i < (len : Int)) (hz : x = 0 ∨ x = 1) (kk : G l μ Φ c0 s0 S (pc+1) ls (st) (up v k i x)) : G l μ Φ c0 s0 S (pc) ls (ai x :: ai i :: ar (some k) :: st) v := by
  intro p en s m args below meth c H locs D T ea A ad ad0 n0 lsC hC hS
  have hk : k < S.1 := hS.three
  have hi : iR i := hS.two
  have he := wl_get (T := T) (ad := ad) (v := v) hk
  rw [cell_arr hs rfl] at he
  refine va_zast hC.1 hC.2.1 hC.2.2.2.2.2.2.2.2.1 hS.2.2.2.2.2.1 hS.2.2.2.2.2.2.1 hS.2.2.2.2.2.2.2.1 k 2 he rfl (in_I hi h0 h1) hd (fun H1 locs1 g1 g2 g3 => ?_)
  have e : (wl T ad S v).set k (ad k, .inl (T 2, len, .inl (upd (fun (j : Nat) => Int32.ofInt (v k (j : Int))) (Int32.ofInt i).toNatClampNeg (vp_nar .boolean (Int32.ofInt x))))) = wl T ad S (up v k i x) := by
    have h9 := wl_set (T := T) (ad := ad) (S := S) (S2 := S) (v := v) (v2 := up v k i x) (k := k) rfl rfl (fun _ _ => rfl) (fun a ha => up_ne ha)
    rw [cell_arr hs rfl, up_at] at h9
    rw [← h9, clampI hi]
    rw [narZ hz]
    rw [upd_I h0]
    rfl
  rw [e] at g1 g2
  exact kk p en s m args below meth c _ _ D T ea A _ ad0 n0 _ hC ((hS.stk fun h => (RAs_cons.mp (RAs_cons.mp (RAs_cons.mp h).2).2).2).hp hS.2.1 (RV_up hS.vr (by unfold skd; rw [hs]; exact hz)) g1 g2 g3)
theorem G_aald {k len t : Nat} {C : String} {i : Int} (hd : decode μ.2.1 pc = .ok (.aaload, 1)) (hs : S.2.1 k = (t, len)) (h0 : 0 ≤ i) (h1 : i < (len : Int)) (ht : (t = 3 ∧ C = "WicketBoard$Umpire") ∨ (t = 4 ∧ C = "WicketBoard$Game")) (kk : G l μ Φ c0 s0 S (pc+1) ls (ar (S.2.2 k i) :: st) v) : G l μ Φ c0 s0 S (pc) ls (ai i :: ar (some k) :: st) v := by
  intro p en s m args below meth c H locs D T ea A ad ad0 n0 lsC hC hS
  have hk : k < S.1 := hS.two
  have hi : iR i := hS.top
  have he := wl_get (T := T) (ad := ad) (v := v) hk
  have k2 := kk p en s m args below meth c _ _ D T ea A _ ad0 n0 _ hC (hS.stk fun h => RAs_cons.mpr ⟨RA_rf hS.2.1 hk i, (RAs_cons.mp (RAs_cons.mp h).2).2⟩)
  have e : va_rf ((S.2.2 k ((Int32.ofInt i).toNatClampNeg : Nat)).map ad) = tr ad ea (ar (S.2.2 k i)) := by rw [clampI hi, Int.toNat_of_nonneg h0, tr_rf]
  rcases ht with ⟨rfl, rfl⟩ | ⟨rfl, rfl⟩
  · rw [cell_arr hs rfl] at he
    refine va_aldq hC.1 hC.2.1 hC.2.2.2.2.2.2.2.2.1 hS.2.2.2.2.2.1 k 3 he rfl (in_I hi h0 h1) hd ?_
    show W p l en _ s m args below meth c H locs c0 s0 _ (F0 m (pc + 1) lsC (va_rf ((S.2.2 k ((Int32.ofInt i).toNatClampNeg : Nat)).map ad) :: st.map (tr ad ea)))
    rw [e]
    exact k2
  · rw [cell_arr hs rfl] at he
    refine va_aldq hC.1 hC.2.1 hC.2.2.2.2.2.2.2.2.1 hS.2.2.2.2.2.1 k 4 he rfl (in_I hi h0 h1) hd ?_
    show W p l en _ s m args below meth c H locs c0 s0 _ (F0 m (pc + 1) lsC (va_rf ((S.2.2 k ((Int32.ofInt i).toNatClampNeg : Nat)).map ad) :: st.map (tr ad ea)))
    rw [e]
    exact k2
theorem G_alen {k len : Nat} (hd : decode μ.2.1 pc = .ok (.arraylength, 1)) (hs : S.2.1 k = (0, len)) (hl : iR (len : Int)) (kk : G l μ Φ c0 s0 S (pc+1) ls (ai (len : Int) :: st) v) : G l μ Φ c0 s0 S (pc) ls (ar (some k) :: st) v := by
  intro p en s m args below meth c H locs D T ea A ad ad0 n0 lsC hC hS
  have hk : k < S.1 := hS.top
  have he := wl_get (T := T) (ad := ad) (v := v) hk
  rw [cell_arr hs rfl] at he
  exact va_alen hC.1 hC.2.1 hC.2.2.2.2.2.2.2.2.1 hS.2.2.2.2.2.1 k 0 he (ty := .int) rfl (v := Int32.ofInt (len : Int)) (Int32.ofInt_eq_ofNat).symm hd (kk p en s m args below meth c _ _ D T ea A _ ad0 n0 _ hC (hS.stk fun h => RAs_cons.mpr ⟨hl, (RAs_cons.mp h).2⟩))
end GH
