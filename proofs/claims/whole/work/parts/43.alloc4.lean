theorem va_up_I {f : Int → Option Nat} {ad : Nat → Nat} {i : Int} {x : Nat} (h0 : 0 ≤ i) : va_up (fun (j : Nat) => (f (j : Int)).map ad) i.toNat (some (ad x)) = fun (j : Nat) => ((fun b => if b = i then some x else f b) (j : Int)).map ad := by
  funext j
  unfold va_up
  by_cases h : j = i.toNat
  · have h2 : (j : Int) = i := by omega
    rw [if_pos h]
    simp only [h2, if_true]
    rfl
  · have h2 : ¬ ((j : Int) = i) := by omega
    rw [if_neg h]
    simp only [h2, if_false]
section GN4
variable {l : Launch} {μ : MU} {Φ : Option AV → AS → VV → Prop} {c0 s0 : Nat} {S : AS} {pc : Nat} {ls : LL} {st : List AV} {v : VV}
theorem G_aast_3 {k len x : Nat} {i : Int} (hd : decode μ.2.1 pc = .ok (.aastore, 1)) (hs : S.2.1 k = (3, len)) (hx : (S.2.1 x).1 = 16 + 4) (h0 : 0 ≤ i) (h1 : i < (len : Int)) (kk : G l μ Φ c0 s0 (upS S k i (some x)) (pc + 1) ls st v) : G l μ Φ c0 s0 S pc ls (ar (some x) :: ai i :: ar (some k) :: st) v := by
  intro p en s m args below meth c H locs D T ea A ad ad0 n0 lsC hC hS
  have hk : k < S.1 := hS.three
  have hi : iR i := hS.two
  have hxk : x < S.1 := hS.top
  have he := wl_get (T := T) (ad := ad) (v := v) hk
  rw [cell_arr hs rfl] at he
  have hv := wl_get (T := T) (ad := ad) (v := v) hxk
  rw [cell_obj hx] at hv
  refine va_astq (r := (Rof 4, Tof 4, nf 4)) hC.1 hC.2.1 hC.2.2.2.2.2.2.2.2.1 hS.2.2.2.2.2.1 hS.2.2.2.2.2.2.1 hS.2.2.2.2.2.2.2.1 k 3 x 4 he rfl hv rfl (in_I hi h0 h1) hd (fun H1 locs1 g1 g2 g3 => ?_)
  have e : (wl T ad S v).set k (ad k, .inl (T 3, len, .inr (.inr (.inr (.inr (va_up (fun (j : Nat) => (S.2.2 k (j : Int)).map ad) (Int32.ofInt i).toNatClampNeg (some (ad x)))))))) = wl T ad (upS S k i (some x)) v := by
    have h9 := wl_set (T := T) (ad := ad) (S := S) (S2 := upS S k i (some x)) (v := v) (v2 := v) (k := k) rfl rfl (fun a ha => by funext b; exact if_neg (fun q => ha q.1)) (fun _ _ => rfl)
    rw [cell_arr (sh := (upS S k i (some x)).2.1 k) hs rfl] at h9
    rw [← h9, clampI hi, va_up_I h0]
    have e4 : (upS S k i (some x)).2.2 k = fun b => if b = i then some x else S.2.2 k b := by
      funext b
      show (if k = k ∧ b = i then some x else S.2.2 k b) = _
      by_cases hb : b = i
      · simp [hb]
      · simp [hb]
    rw [e4]
    rfl
  rw [e] at g1 g2
  exact kk p en s m args below meth c _ _ D T ea A _ ad0 n0 _ hC ((hS.stk fun h => (RAs_cons.mp (RAs_cons.mp (RAs_cons.mp h).2).2).2).rf rfl rfl (WR_up hS.2.1 hxk) g1 g2 g3)
theorem G_aast_4 {k len x : Nat} {i : Int} (hd : decode μ.2.1 pc = .ok (.aastore, 1)) (hs : S.2.1 k = (4, len)) (hx : (S.2.1 x).1 = 16 + 0) (h0 : 0 ≤ i) (h1 : i < (len : Int)) (kk : G l μ Φ c0 s0 (upS S k i (some x)) (pc + 1) ls st v) : G l μ Φ c0 s0 S pc ls (ar (some x) :: ai i :: ar (some k) :: st) v := by
  intro p en s m args below meth c H locs D T ea A ad ad0 n0 lsC hC hS
  have hk : k < S.1 := hS.three
  have hi : iR i := hS.two
  have hxk : x < S.1 := hS.top
  have he := wl_get (T := T) (ad := ad) (v := v) hk
  rw [cell_arr hs rfl] at he
  have hv := wl_get (T := T) (ad := ad) (v := v) hxk
  rw [cell_obj hx] at hv
  refine va_astq (r := (Rof 0, Tof 0, nf 0)) hC.1 hC.2.1 hC.2.2.2.2.2.2.2.2.1 hS.2.2.2.2.2.1 hS.2.2.2.2.2.2.1 hS.2.2.2.2.2.2.2.1 k 4 x 0 he rfl hv rfl (in_I hi h0 h1) hd (fun H1 locs1 g1 g2 g3 => ?_)
  have e : (wl T ad S v).set k (ad k, .inl (T 4, len, .inr (.inr (.inr (.inr (va_up (fun (j : Nat) => (S.2.2 k (j : Int)).map ad) (Int32.ofInt i).toNatClampNeg (some (ad x)))))))) = wl T ad (upS S k i (some x)) v := by
    have h9 := wl_set (T := T) (ad := ad) (S := S) (S2 := upS S k i (some x)) (v := v) (v2 := v) (k := k) rfl rfl (fun a ha => by funext b; exact if_neg (fun q => ha q.1)) (fun _ _ => rfl)
    rw [cell_arr (sh := (upS S k i (some x)).2.1 k) hs rfl] at h9
    rw [← h9, clampI hi, va_up_I h0]
    have e4 : (upS S k i (some x)).2.2 k = fun b => if b = i then some x else S.2.2 k b := by
      funext b
      show (if k = k ∧ b = i then some x else S.2.2 k b) = _
      by_cases hb : b = i
      · simp [hb]
      · simp [hb]
    rw [e4]
    rfl
  rw [e] at g1 g2
  exact kk p en s m args below meth c _ _ D T ea A _ ad0 n0 _ hC ((hS.stk fun h => (RAs_cons.mp (RAs_cons.mp (RAs_cons.mp h).2).2).2).rf rfl rfl (WR_up hS.2.1 hxk) g1 g2 g3)
end GN4
