/-! NEW CELLS -/
def nS (S : AS) (c len : Nat) : AS := (S.1 + 1, fun k => if k = S.1 then (c, len) else S.2.1 k, fun k j => if k = S.1 then none else S.2.2 k j)
def nV (v : VV) (n : Nat) : VV := fun k j => if k = n then 0 else v k j
def nA (ad : Nat → Nat) (n q : Nat) : Nat → Nat := fun k => if k = n then q else ad k
theorem nA_lt {ad : Nat → Nat} {n q k : Nat} (h : k < n) : nA ad n q k = ad k := if_neg (by omega)
theorem flds_agree {ad ad2 : Nat → Nat} {ci : Nat} {rk : Int → Option Nat} {vk : Int → Int} (h : ∀ j r, rk j = some r → ad2 r = ad r) : flds ad2 ci rk vk = flds ad ci rk vk := by
  unfold flds
  apply List.map_congr_left
  intro j _
  have e : (rk (j : Int)).map ad2 = (rk (j : Int)).map ad := by
    cases hr : rk (j : Int) with
    | none => rfl
    | some r => exact congrArg some (h _ r hr)
  unfold vlk
  rw [e]
theorem arrc_agree {ad ad2 : Nat → Nat} {t len : Nat} {rk : Int → Option Nat} {vk : Int → Int} (h : ∀ j r, rk j = some r → ad2 r = ad r) : arrc ad2 t len rk vk = arrc ad t len rk vk := by
  have e : (fun (j : Nat) => (rk (j : Int)).map ad2) = fun (j : Nat) => (rk (j : Int)).map ad := by
    funext j
    cases hr : rk (j : Int) with
    | none => rfl
    | some r => exact congrArg some (h _ r hr)
  unfold arrc
  rw [e]
theorem cell_agree {T : Nat → ClassId} {ad ad2 : Nat → Nat} {sh : Nat × Nat} {rk : Int → Option Nat} {vk : Int → Int} (h : ∀ j r, rk j = some r → ad2 r = ad r) : cellE T ad2 sh rk vk = cellE T ad sh rk vk := by
  unfold cellE
  rw [flds_agree h, arrc_agree h]
theorem wl_new {T : Nat → ClassId} {ad : Nat → Nat} {S : AS} {v : VV} {c len q : Nat} (hw : WR S) : wl T (nA ad S.1 q) (nS S c len) (nV v S.1) = wl T ad S v ++ [(q, cellE T (nA ad S.1 q) (c, len) (fun _ => none) (fun _ => 0))] := by
  have e1 : wl T (nA ad S.1 q) (nS S c len) (nV v S.1) = (List.range (S.1 + 1)).map fun k => (nA ad S.1 q k, cellE T (nA ad S.1 q) ((nS S c len).2.1 k) ((nS S c len).2.2 k) (nV v S.1 k)) := rfl
  rw [e1, List.range_succ, List.map_append]
  congr 1
  · unfold wl
    apply List.map_congr_left
    intro k hk
    have hk : k < S.1 := List.mem_range.mp hk
    have e2 : (nS S c len).2.1 k = S.2.1 k := if_neg (by omega)
    have e3 : (nS S c len).2.2 k = S.2.2 k := by funext j; exact if_neg (by omega)
    have e4 : nV v S.1 k = v k := by funext j; exact if_neg (by omega)
    rw [nA_lt hk, e2, e3, e4, cell_agree (fun j r hr => nA_lt (hw k hk j r hr))]
  · have e2 : (nS S c len).2.1 S.1 = (c, len) := if_pos rfl
    have e3 : (nS S c len).2.2 S.1 = fun _ => none := by funext j; exact if_pos rfl
    have e4 : nV v S.1 S.1 = fun _ => 0 := by funext j; exact if_pos rfl
    simp only [List.map_cons, List.map_nil]
    rw [e2, e3, e4, show nA ad S.1 q S.1 = q from if_pos rfl]
theorem kr_zero (k : Nat) : kr k 0 := by
  match k with
  | 0 => exact ⟨by decide, by decide⟩
  | 1 => exact ⟨by decide, by decide⟩
  | 2 => exact Or.inl rfl
  | 3 => trivial
  | 4 => trivial
  | 5 => exact ⟨by decide, by decide⟩
  | k + 6 => trivial
theorem WR_new {S : AS} (h : WR S) (c len : Nat) : WR (nS S c len) := by
  intro k hk j r hr
  have hk : k < S.1 + 1 := hk
  have hr : (if k = S.1 then none else S.2.2 k j) = some r := hr
  show r < S.1 + 1
  by_cases e : k = S.1
  · rw [if_pos e] at hr; cases hr
  · rw [if_neg e] at hr
    have := h k (by omega) j r hr
    omega
theorem RV_new {S : AS} {v : VV} (h : RV S v) (c len : Nat) : RV (nS S c len) (nV v S.1) := by
  intro k hk j
  have hk : k < S.1 + 1 := hk
  show kr (skd (if k = S.1 then (c, len) else S.2.1 k) j) (if k = S.1 then 0 else v k j)
  by_cases e : k = S.1
  · rw [if_pos e, if_pos e]; exact kr_zero _
  · rw [if_neg e, if_neg e]; exact h k (by omega) j
section GN
variable {l : Launch} {μ : MU} {Φ : Option AV → AS → VV → Prop} {c0 s0 : Nat} {S : AS} {pc : Nat} {ls : LL} {st : List AV} {v : VV}
theorem Sx.new {s : State} {D : va_G} {T : Nat → ClassId} {ea : Nat → Nat} {A : Nat → Prop} {ad0 : Nat → Nat} {n0 : Nat} {H H1 : Heap} {locs : List Loc} {ad : Nat → Nat} {lsC : Array Slot} {stk : List AV} {c len q : Nat} (h : Sx μ s D T ea A ad0 n0 S ls stk v H locs ad lsC) (hst : RAs S.1 st) (h1 : va_P D classes (wl T (nA ad S.1 q) (nS S c len) (nV v S.1)) H1) (h2 : va_D A (wl T (nA ad S.1 q) (nS S c len) (nV v S.1))) (h3 : va_S A s.heap H1 locs) : Sx μ s D T ea A ad0 n0 (nS S c len) ls (ar (some S.1) :: st) (nV v S.1) H1 locs (nA ad S.1 q) lsC := by
  have hn : ∀ k, k < S.1 → nA ad S.1 q k = ad k := fun k hk => nA_lt hk
  refine ⟨⟨Nat.le_succ_of_le h.1.1, fun k hk => (hn k (Nat.lt_of_lt_of_le hk h.1.1)).trans (h.1.2 k hk)⟩, WR_new h.2.1 c len, RV_new h.2.2.1 c len, RAs_cons.mpr ⟨Nat.lt_succ_self _, fun b hb => RA_mono (Nat.le_succ _) (hst b hb)⟩, fun i b hb => RA_mono (Nat.le_succ _) (h.2.2.2.2.1 i b hb), h1, h2, h3, ⟨h.lr.1, h.lr.2.1, fun i b hb => ?_⟩⟩
  rw [tr_agree hn (h.2.2.2.2.1 i b hb)]
  exact h.lr.2.2 i b hb
def okT (t : FieldType) : Bool := match t with
  | .int => true
  | .byte => true
  | .boolean => true
  | .long => true
  | .object _ => true
  | .array _ => true
  | _ => false
theorem okT_all : ∀ ci : Nat, ci < 7 → ∀ j : Nat, j < nf ci → okT (tyof ci j) = true := by decide +kernel
theorem cls_def {ci : Nat} (h : ci < 7) (ad : Nat → Nat) : ∀ j, j < nf ci → defaultValue (tyof ci j) = vp_V (flds ad ci (fun _ => none) (fun _ => 0)) j := by
  intro j hj
  show _ = (flds ad ci (fun _ => none) (fun _ => 0)).getD j .null
  rw [List.getD_eq_getElem?_getD, flds_get hj]
  show _ = vlk (fk ci j) ad none 0
  have ho := okT_all ci h j hj
  unfold fk
  cases hty : tyof ci j <;> first | rfl | (rw [hty] at ho; cases ho)
theorem G_new {idx ci : Nat} (hd : decode μ.2.1 pc = .ok (.new idx, 3)) (hci : ci < 7) (hcl : Cond.classLink μ.1.cls idx (Rof ci) ∈ lw_good) (hin : Cond.instantiable (Rof ci) (nf ci) ∈ lw_good) (hini : Cond.initialized (Rof ci) ∈ lw_good) (hc : c0 + 1 ≤ μ.2.2.2.2.2.1) (hs : s0 + nf ci ≤ μ.2.2.2.2.2.2.1) (k : G l μ Φ (c0 + 1) (s0 + nf ci) (nS S (16 + ci) 0) (pc + 3) ls (ar (some S.1) :: st) (nV v S.1)) : G l μ Φ c0 s0 S pc ls st v := by
  intro p en s m args below meth c H locs D T ea A ad ad0 n0 lsC hC hS
  have hts := hC.2.2.2.2.2.2.2.1
  refine va_new (own := μ.1.cls) (C := Rof ci) (T := Tof ci) (N := nf ci) (Ts := lw_good) (fs := flds ad ci (fun _ => none) (fun _ => 0)) hC.1 hC.2.1 hts (cls_in hci) (tyof ci) (cls_ty hci) hC.2.2.2.2.2.2.1 (hts _ hcl) (hts _ hin) (hts _ hini) hC.2.2.2.2.2.2.2.2.1 hS.2.2.2.2.2.1 hS.2.2.2.2.2.2.1 hS.2.2.2.2.2.2.2.1 hC.2.2.2.2.2.2.2.2.2.2 (cls_at hci) (cls_def hci ad) hc hs hd (fun q H1 h1 h2 h3 => ?_)
  have e : wl T ad S v ++ [(q, .inr (ci, flds ad ci (fun _ => none) (fun _ => 0)))] = wl T (nA ad S.1 q) (nS S (16 + ci) 0) (nV v S.1) := by
    rw [wl_new hS.2.1, cell_obj (ci := ci) rfl, flds_agree (ad2 := nA ad S.1 q) (ad := ad) (fun j r hr => by cases hr)]
  rw [e] at h1 h2
  have hst2 : st.map (tr (nA ad S.1 q) ea) = st.map (tr ad ea) := List.map_congr_left fun b hb => tr_agree (fun k hk => nA_lt hk) (hS.2.2.2.1 b hb)
  have k2 := k p en s m args below meth c H1 locs D T ea A (nA ad S.1 q) ad0 n0 lsC hC (hS.new hS.2.2.2.1 h1 h2 h3)
  rw [List.map_cons, hst2, show tr (nA ad S.1 q) ea (ar (some S.1)) = .ref q from congrArg Value.ref (if_pos rfl)] at k2
  exact k2
end GN
