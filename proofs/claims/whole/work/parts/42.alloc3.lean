def upS (S : AS) (k : Nat) (j : Int) (r : Option Nat) : AS := (S.1, S.2.1, fun a b => if a = k ∧ b = j then r else S.2.2 a b)
theorem WR_up {S : AS} {k : Nat} {j : Int} {r : Option Nat} (h : WR S) (hr : RA S.1 (ar r)) : WR (upS S k j r) := by
  intro a ha b q hq
  have hq : (if a = k ∧ b = j then r else S.2.2 a b) = some q := hq
  show q < S.1
  split at hq
  · subst hq; exact hr
  · exact h a ha b q hq
theorem isref_ty {t : FieldType} (h : kd t = 3) (ho : okT t = true) : ∃ n, t = .object n ∨ ∃ u, t = .array u := by
  cases t <;> first | (cases h; done) | (cases ho; done) | exact ⟨_, Or.inl rfl⟩ | exact ⟨"", Or.inr ⟨_, rfl⟩⟩
section GN3
variable {l : Launch} {μ : MU} {Φ : Option AV → AS → VV → Prop} {c0 s0 : Nat} {S : AS} {pc : Nat} {ls : LL} {st : List AV} {v : VV}
theorem Sx.rf {s : State} {D : va_G} {T : Nat → ClassId} {ea : Nat → Nat} {A : Nat → Prop} {ad0 : Nat → Nat} {n0 : Nat} {H H1 : Heap} {locs locs1 : List Loc} {ad : Nat → Nat} {lsC : Array Slot} {S2 : AS} (h : Sx μ s D T ea A ad0 n0 S ls st v H locs ad lsC) (hn : S2.1 = S.1) (hsh : S2.2.1 = S.2.1) (hw : WR S2) (h1 : va_P D classes (wl T ad S2 v) H1) (h2 : va_D A (wl T ad S2 v)) (h3 : va_S A s.heap H1 locs1) : Sx μ s D T ea A ad0 n0 S2 ls st v H1 locs1 ad lsC := ⟨by rw [hn]; exact h.1, hw, fun k hk j => by rw [hn] at hk; rw [hsh]; exact h.2.2.1 k hk j, by rw [hn]; exact h.2.2.2.1, by rw [hn]; exact h.2.2.2.2.1, h1, h2, h3, h.2.2.2.2.2.2.2.2⟩
theorem G_putRF {idx ci j k : Nat} {r : Option Nat} (hd : decode μ.2.1 pc = .ok (.putfield idx, 3)) (hf : FL μ.1.cls idx ci j) (hfin : (Tof ci j).2.2.2 = true) {jj : Int} (hj : ((j : Nat) : Int) = jj) (hs : (S.2.1 k).1 = 16 + ci) (hi : fk ci j = 3) (hnm : μ.1.name = "<init>") (hdc : (Tof ci j).1 = μ.1.cls) (kk : G l μ Φ c0 s0 (upS S k jj r) (pc + 3) ls st v) : G l μ Φ c0 s0 S pc ls (ar r :: ar (some k) :: st) v := by
  intro p en s m args below meth c H locs D T ea A ad ad0 n0 lsC hC hS
  subst hj
  have hk : k < S.1 := hS.two
  have hr : RA S.1 (ar r) := hS.top
  have he := wl_get (T := T) (ad := ad) (v := v) hk
  rw [cell_obj hs] at he
  have hty := isref_ty hi (okT_all ci hf.1 j hf.2.1)
  have hnf := kd_3 hi r ad hty
  refine va_putF (own := μ.1.cls) (C := Rof ci) (T := Tof ci) (N := nf ci) (Ts := lw_good) hC.1 hC.2.1 hC.2.2.2.2.2.2.2.1 (cls_in hf.1) (tyof ci) (cls_ty hf.1) (cls_nm hf.1) hC.2.2.2.2.2.2.1 hC.2.2.2.2.2.2.2.2.1 hS.2.2.2.2.2.1 hS.2.2.2.2.2.2.1 hS.2.2.2.2.2.2.2.1 k he (cls_at hf.1) j hf.2.1 (hC.2.2.2.2.2.2.2.1 _ hf.2.2) (fun _ h => h) hfin (hC.2.2.2.2.2.1.trans hnm) hdc (ty := tyof ci j) (v := tr ad ea (ar r)) (cls_ty hf.1 j hf.2.1) (by rw [tr_rf]; exact hnf.1) (by rw [tr_rf]; exact hnf.2) (by rw [flds_len]; exact hf.2.1) hd (fun H1 locs1 h1 h2 h3 => ?_)
  have e : (wl T ad S v).set k (ad k, .inr (ci, (flds ad ci (S.2.2 k) (v k)).set j (tr ad ea (ar r)))) = wl T ad (upS S k j r) v := by
    rw [show tr ad ea (ar r) = vlk (fk ci j) ad r (v k j) from by rw [tr_rf, hi]; rfl, flds_set r (v k j) hf.2.1]
    have h9 := wl_set (T := T) (ad := ad) (S := S) (S2 := upS S k j r) (v := v) (v2 := v) (k := k) rfl rfl (fun a ha => by funext b; exact if_neg (fun q => ha q.1)) (fun _ _ => rfl)
    rw [cell_obj (sh := (upS S k j r).2.1 k) hs] at h9
    rw [← h9]
    have e3 : (fun b => if b = (j : Int) then v k j else v k b) = v k := by
      funext b
      by_cases hb : b = (j : Int)
      · simp [hb]
      · simp [hb]
    have e4 : (upS S k j r).2.2 k = fun b => if b = (j : Int) then r else S.2.2 k b := by
      funext b
      show (if k = k ∧ b = (j : Int) then r else S.2.2 k b) = _
      by_cases hb : b = (j : Int)
      · simp [hb]
      · simp [hb]
    rw [e3, e4]
  rw [e] at h1 h2
  exact kk p en s m args below meth c _ _ D T ea A _ ad0 n0 _ hC ((hS.stk fun h => (RAs_cons.mp (RAs_cons.mp h).2).2).rf rfl rfl (WR_up hS.2.1 hr) h1 h2 h3)
end GN3
