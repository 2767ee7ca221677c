section GNQ
variable {l : Launch} {μ : MU} {Φ : Option AV → AS → VV → Prop} {c0 s0 : Nat} {S : AS} {pc : Nat} {ls : LL} {st : List AV} {v : VV}
theorem G_newq_3 {idx N : Nat} {n : Int} (hd : decode μ.2.1 pc = .ok (.anewarray idx, 3)) (hcl : Cond.classLink μ.1.cls idx "WicketBoard$Umpire" ∈ lw_good) (hn : (N : Int) = n) (hb : N ≤ 10000) (hc : c0 + 1 ≤ μ.2.2.2.2.2.1) (hs : s0 + N ≤ μ.2.2.2.2.2.2.1) (k : G l μ Φ (c0 + 1) (s0 + N) (nS S 3 N) (pc + 3) ls (ar (some S.1) :: st) (nV v S.1)) : G l μ Φ c0 s0 S pc ls (ai n :: st) v := by
  intro p en s m args below meth c H locs D T ea A ad ad0 n0 lsC hC hS
  subst hn
  have hts := hC.2.2.2.2.2.2.2.1
  have hnR : iR (N : Int) := hS.top
  have hst : RAs S.1 st := (RAs_cons.mp hS.2.2.2.1).2
  have hK := hC.2.2.2.2.2.2.2.2.1
  have hAO : va_AO "WicketBoard$Umpire" s := hC.2.2.2.2.2.2.2.2.2.1.1.2.2.2.2.2.2.2.2.2.1
  refine va_newq (C := "WicketBoard$Umpire") (N' := N) hC.1 hC.2.1 hC.2.2.2.2.2.2.1 (hts _ hcl) hAO hK hS.2.2.2.2.2.1 hS.2.2.2.2.2.2.1 hS.2.2.2.2.2.2.2.1 hC.2.2.2.2.2.2.2.2.2.2 (fun h => by have := (iR_lt hnR iR_0).mp h; omega) (by rw [clampI hnR]; omega) (by omega) hc hs hd (fun q cA H1 hK2 h1 h2 h3 => ?_)
  obtain ⟨_, _, _, _, _, e1⟩ := (hK.2 3 (T 3, .object "WicketBoard$Umpire") rfl).2
  obtain ⟨_, _, _, _, _, e2⟩ := (hK2.2 6 (cA, .object "WicketBoard$Umpire") rfl).2
  have e3 : cA = T 3 := Option.some.inj (e2.symm.trans e1)
  subst e3
  have e : wl T ad S v ++ [(q, .inl (T 3, N, .inr (.inr (.inr (.inr (fun _ => none))))))] = wl T (nA ad S.1 q) (nS S 3 N) (nV v S.1) := by
    rw [wl_new hS.2.1, cell_arr (t := 3) (len := N) rfl rfl]
    rfl
  rw [e] at h1 h2
  have hst2 : st.map (tr (nA ad S.1 q) ea) = st.map (tr ad ea) := List.map_congr_left fun b hb => tr_agree (fun k hk => nA_lt hk) (hst b hb)
  have k2 := k p en s m args below meth c H1 locs D T ea A (nA ad S.1 q) ad0 n0 lsC hC (hS.new hst h1 h2 h3)
  rw [List.map_cons, hst2, show tr (nA ad S.1 q) ea (ar (some S.1)) = .ref q from congrArg Value.ref (if_pos rfl)] at k2
  exact k2
theorem G_newq_4 {idx N : Nat} {n : Int} (hd : decode μ.2.1 pc = .ok (.anewarray idx, 3)) (hcl : Cond.classLink μ.1.cls idx "WicketBoard$Game" ∈ lw_good) (hn : (N : Int) = n) (hb : N ≤ 10000) (hc : c0 + 1 ≤ μ.2.2.2.2.2.1) (hs : s0 + N ≤ μ.2.2.2.2.2.2.1) (k : G l μ Φ (c0 + 1) (s0 + N) (nS S 4 N) (pc + 3) ls (ar (some S.1) :: st) (nV v S.1)) : G l μ Φ c0 s0 S pc ls (ai n :: st) v := by
  intro p en s m args below meth c H locs D T ea A ad ad0 n0 lsC hC hS
  subst hn
  have hts := hC.2.2.2.2.2.2.2.1
  have hnR : iR (N : Int) := hS.top
  have hst : RAs S.1 st := (RAs_cons.mp hS.2.2.2.1).2
  have hK := hC.2.2.2.2.2.2.2.2.1
  have hAO : va_AO "WicketBoard$Game" s := hC.2.2.2.2.2.2.2.2.2.1.1.2.2.2.2.2.2.2.2.2.2
  refine va_newq (C := "WicketBoard$Game") (N' := N) hC.1 hC.2.1 hC.2.2.2.2.2.2.1 (hts _ hcl) hAO hK hS.2.2.2.2.2.1 hS.2.2.2.2.2.2.1 hS.2.2.2.2.2.2.2.1 hC.2.2.2.2.2.2.2.2.2.2 (fun h => by have := (iR_lt hnR iR_0).mp h; omega) (by rw [clampI hnR]; omega) (by omega) hc hs hd (fun q cA H1 hK2 h1 h2 h3 => ?_)
  obtain ⟨_, _, _, _, _, e1⟩ := (hK.2 4 (T 4, .object "WicketBoard$Game") rfl).2
  obtain ⟨_, _, _, _, _, e2⟩ := (hK2.2 6 (cA, .object "WicketBoard$Game") rfl).2
  have e3 : cA = T 4 := Option.some.inj (e2.symm.trans e1)
  subst e3
  have e : wl T ad S v ++ [(q, .inl (T 4, N, .inr (.inr (.inr (.inr (fun _ => none))))))] = wl T (nA ad S.1 q) (nS S 4 N) (nV v S.1) := by
    rw [wl_new hS.2.1, cell_arr (t := 4) (len := N) rfl rfl]
    rfl
  rw [e] at h1 h2
  have hst2 : st.map (tr (nA ad S.1 q) ea) = st.map (tr ad ea) := List.map_congr_left fun b hb => tr_agree (fun k hk => nA_lt hk) (hst b hb)
  have k2 := k p en s m args below meth c H1 locs D T ea A (nA ad S.1 q) ad0 n0 lsC hC (hS.new hst h1 h2 h3)
  rw [List.map_cons, hst2, show tr (nA ad S.1 q) ea (ar (some S.1)) = .ref q from congrArg Value.ref (if_pos rfl)] at k2
  exact k2
/-- another telling of the same world -/
theorem G_eqS {S2 : AS} (h1 : S2.1 = S.1) (h2 : ∀ k, k < S.1 → S2.2.1 k = S.2.1 k) (h3 : ∀ k, k < S.1 → ((S.2.1 k).1 < 16 → ∀ j : Nat, S2.2.2 k (j : Int) = S.2.2 k (j : Int)) ∧ (¬ (S.2.1 k).1 < 16 → ∀ j : Nat, j < nf ((S.2.1 k).1 - 16) → S2.2.2 k (j : Int) = S.2.2 k (j : Int))) (hw : WR S2) (k : G l μ Φ c0 s0 S2 pc ls st v) : G l μ Φ c0 s0 S pc ls st v := by
  intro p en s m args below meth c H locs D T ea A ad ad0 n0 lsC hC hS
  have e : wl T ad S2 v = wl T ad S v := by
    unfold wl
    rw [h1]
    refine List.map_congr_left fun a ha => ?_
    have hk := List.mem_range.mp ha
    obtain ⟨h4, h5⟩ := h3 a hk
    rw [h2 a hk]
    refine congrArg (fun x => (ad a, x)) ?_
    unfold cellE
    by_cases g : (S.2.1 a).1 < 16
    · rw [if_pos g, if_pos g]
      have h6 := h4 g
      refine congrArg (fun x => Sum.inl (T (S.2.1 a).1, x)) ?_
      unfold arrc
      split
      · refine congrArg (fun x => ((S.2.1 a).2, Sum.inr (Sum.inr (Sum.inr (Sum.inr x))))) (funext fun j => ?_)
        rw [h6 j]
      · rfl
      · rfl
    · rw [if_neg g, if_neg g]
      have h6 := h5 g
      refine congrArg (fun x => Sum.inr ((S.2.1 a).1 - 16, x)) ?_
      unfold flds
      refine List.map_congr_left fun j hj => ?_
      rw [h6 j (List.mem_range.mp hj)]
  obtain ⟨a1, a2, a3, a4, a5, a6, a7, a8, a9⟩ := hS
  refine k p en s m args below meth c H locs D T ea A ad ad0 n0 lsC hC ⟨by rw [h1]; exact a1, hw, fun x hx j => ?_, by rw [h1]; exact a4, by rw [h1]; exact a5, by rw [e]; exact a6, by rw [e]; exact a7, a8, a9⟩
  rw [h1] at hx
  rw [h2 x hx]
  exact a3 x hx j
end GNQ
theorem oi_X3 : Cond.methodLink RX3 1 Lib.objectInit ∈ lw_good := by decide +kernel
theorem oi_X1 : Cond.methodLink RX1 3 Lib.objectInit ∈ lw_good := by decide +kernel
theorem oi_X0 : Cond.methodLink RX0 1 Lib.objectInit ∈ lw_good := by decide +kernel
theorem oi_X2 : Cond.methodLink RX2 3 Lib.objectInit ∈ lw_good := by decide +kernel
theorem oi_X5 : Cond.methodLink RX5 1 Lib.objectInit ∈ lw_good := by decide +kernel
theorem ac_byte : Cond.arrayClass .byte ∈ lw_good := by decide +kernel
def Z0 : AS := (0, fun _ => (99, 0), fun _ _ => none)
def Wb1 : AS := nS Z0 21 0
def Wb2 : AS := nS Wb1 19 0
def Wb3 : AS := upS (nS Wb2 1 180) 1 0 (some 2)
def Wb4 : AS := upS Wb3 0 0 (some 1)
def Wb5 : AS := nS Wb4 17 0
def Wb6 : AS := upS (nS (upS (nS Wb5 0 9) 3 0 (some 4)) 0 9) 3 1 (some 5)
def Wb7 : AS := upS Wb6 0 1 (some 3)
def Wb8 : AS := upS (nS Wb7 3 20) 0 2 (some 6)
def Wb9 : AS := upS (nS Wb8 4 8) 0 3 (some 7)
def gW (S : AS) (g : Int) : AS := upS (nS S 16 0) 7 g (some S.1)
def WbA : AS := gW (gW (gW (gW (gW (gW (gW (gW Wb9 0) 1) 2) 3) 4) 5) 6) 7
def WbB : AS := upS (nS WbA 0 16) 0 4 (some 16)
def WbC : AS := nS WbB 18 0
def aW (S : AS) (t j : Nat) : AS := upS (nS S t (if j = 0 then 320 else 36)) 17 (j : Int) (some S.1)
def WbD_ : AS := aW (aW (aW (aW (aW (aW (aW (aW (aW WbC 0 0) 0 1) 0 2) 0 3) 0 4) 0 5) 0 6) 0 7) 2 8
def WbE : AS := upS WbD_ 0 5 (some 17)
theorem nv17 {w : VV} (hf : ∀ k j, k ≠ 4 → k ≠ 16 → k < 17 → w k j = 0) (k : Nat) (j : Int) (k4 : k ≠ 4) (k16 : k ≠ 16) (k27 : k < 27) : nV (nV (nV (nV (nV (nV (nV (nV (nV (nV w 17) 18) 19) 20) 21) 22) 23) 24) 25) 26 k j = 0 := by
  by_cases g : k < 17
  · unfold nV
    rw [if_neg (by omega), if_neg (by omega), if_neg (by omega), if_neg (by omega), if_neg (by omega), if_neg (by omega), if_neg (by omega), if_neg (by omega), if_neg (by omega), if_neg (by omega)]
    exact hf k j k4 k16 g
  · have hz : k = 17 ∨ k = 18 ∨ k = 19 ∨ k = 20 ∨ k = 21 ∨ k = 22 ∨ k = 23 ∨ k = 24 ∨ k = 25 ∨ k = 26 := by omega
    rcases hz with rfl | rfl | rfl | rfl | rfl | rfl | rfl | rfl | rfl | rfl <;> rfl
set_option maxRecDepth 20000 in
set_option maxHeartbeats 1000000 in
theorem c_X3_init (l : Launch) (d nu : Nat) (v : VV)  : Ct l yX3_init cX3_init none 1 (d + 1) 1 180 [ar (some 1)] Wb2 v (rV Wb3 (nV v 2)) := by
  refine Ct_of_G [some (ar (some 1))] (by decide) rfl rfl ?_
  refine G_aload_n dX3_init_0 rfl ?_
  refine G_objInit dX3_init_1 oi_X3 oi_im oi_co (by show 1 ≤ d + 1; omega) rfl ?_
  refine G_aload_n dX3_init_4 rfl ?_
  refine G_sipush (n := 180) dX3_init_5 (by decide) ⟨by decide, by decide⟩ ?_
  refine G_newa_byte (N := 180) dX3_init_8 ac_byte rfl (by decide) (Nat.le_of_ble_eq_true rfl) (Nat.le_of_ble_eq_true rfl) ?_
  refine G_putRF (jj := 0) dX3_init_10 flX3_9 rfl rfl rfl rfl rfl rfl ?_
  exact G_vret dX3_init_13 rfl rfl rfl ⟨rfl, rfl, rfl⟩
set_option maxRecDepth 20000 in
set_option maxHeartbeats 1000000 in
theorem c_X0_init (l : Launch) (d nu : Nat) (v : VV) (S : AS) (k : Nat) : Ct l yX0_init cX0_init none 1 (d + 1) 0 0 [ar (some k)] S v (rV S v) := by
  refine Ct_of_G [some (ar (some k))] (by decide) rfl rfl ?_
  refine G_aload_n dX0_init_0 rfl ?_
  refine G_objInit dX0_init_1 oi_X0 oi_im oi_co (by show 1 ≤ d + 1; omega) rfl ?_
  exact G_vret dX0_init_4 rfl rfl rfl ⟨rfl, rfl, rfl⟩
set_option maxRecDepth 20000 in
set_option maxHeartbeats 1000000 in
theorem c_X1_init (l : Launch) (d nu : Nat) (v : VV)  : Ct l yX1_init cX1_init none 2 (d + 1) 2 18 [ar (some 3)] Wb5 v (fun r S2 w => r = none ∧ S2 = Wb6 ∧ (∀ k, k ≠ 4 → w k = nV (nV v 4) 5 k) ∧ ∀ j : Int, 0 ≤ j → j < 9 → w 4 j = xUs.getD j.toNat 0) := by
  refine Ct_of_G [some (ar (some 3)), none] (by decide) rfl rfl ?_
  have loop : ∀ (N : Nat) (x : Int) (w : VV), 0 ≤ x → x + N = 9 → (∀ k, k ≠ 4 → w k = nV (nV v 4) 5 k) → (∀ j : Int, 0 ≤ j → j < x → w 4 j = xUs.getD j.toNat 0) → G l (yX1_init, cX1_init, none, 2, (d + 1), 2, 18, none) (fun r S2 w => r = none ∧ S2 = Wb6 ∧ (∀ k, k ≠ 4 → w k = nV (nV v 4) 5 k) ∧ ∀ j : Int, 0 ≤ j → j < 9 → w 4 j = xUs.getD j.toNat 0) 2 18 Wb6 22 [some (ar (some 3)), some (ai x)] [] w := by
    intro N
    induction N using Nat.strongRecOn with
    | ind N ih =>
    intro x w h0 h1 hf hp
    refine G_iload_n dX1_init_22 rfl ?_
    refine G_bipush (n := 9) dX1_init_23 (by decide) ⟨by decide, by decide⟩ ?_
    refine G_icmp_ge 45 dX1_init_25 (by decide) (fun h25 => ?_) (fun h25 => ?_)
    · exact G_vret dX1_init_45 rfl rfl rfl ⟨rfl, rfl, hf, fun j j0 j1 => hp j j0 (by omega)⟩
    · refine G_aload_n dX1_init_28 rfl ?_
      refine G_getR (jj := 0) dX1_init_29 flX1_11 rfl rfl rfl ?_
      refine G_iload_n dX1_init_32 rfl ?_
      refine G_getsT (e := 1) dX1_init_33 (by decide) (show Cond.fieldLink RX1 18 RX1 (nT 1) "[I" ∈ lw_good by decide +kernel) ?_
      refine G_iload_n dX1_init_36 rfl ?_
      refine G_ialdX (e := 1) dX1_init_37 (by decide) h0 (by omega) ?_
      rw [show xT 1 = xUs from rfl]
      refine G_iast dX1_init_38 rfl (by omega) (by omega) ?_
      refine G_iinc dX1_init_39 rfl (iRm (by omega) (by omega)) rfl rfl ?_
      refine G_goto 22 dX1_init_42 (by decide) ?_
      exact ih (N - 1) (by omega) (x + 1) _ (by omega) (by omega) (fun k k4 => by rw [up_ne k4]; exact hf k k4) (fun j j0 j1 => by by_cases g : j = x; (rw [g, up_self]); (rw [up_nj g]; exact hp j j0 (by omega)))
  refine G_aload_n dX1_init_0 rfl ?_
  refine G_objInit dX1_init_1 oi_X1 oi_im oi_co (by show 1 ≤ d + 1; omega) rfl ?_
  refine G_aload_n dX1_init_4 rfl ?_
  refine G_bipush (n := 9) dX1_init_5 (by decide) ⟨by decide, by decide⟩ ?_
  refine G_newa_int (N := 9) dX1_init_7 ac_int rfl (by decide) (Nat.le_of_ble_eq_true rfl) (Nat.le_of_ble_eq_true rfl) ?_
  refine G_putRF (jj := 0) dX1_init_9 flX1_11 rfl rfl rfl rfl rfl rfl ?_
  refine G_aload_n dX1_init_12 rfl ?_
  refine G_bipush (n := 9) dX1_init_13 (by decide) ⟨by decide, by decide⟩ ?_
  refine G_newa_int (N := 9) dX1_init_15 ac_int rfl (by decide) (Nat.le_of_ble_eq_true rfl) (Nat.le_of_ble_eq_true rfl) ?_
  refine G_putRF (jj := 1) dX1_init_17 flX1_15 rfl rfl rfl rfl rfl rfl ?_
  refine G_iconst (n := 0) dX1_init_20 ⟨by decide, by decide⟩ ?_
  refine G_istore_n dX1_init_21 rfl rfl ?_
  exact loop 9 0 _ (by omega) (by omega) (fun _ _ => rfl) (fun j j0 j1 => by omega)
set_option maxRecDepth 20000 in
set_option maxHeartbeats 1000000 in
theorem c_X2_init (l : Launch) (d nu : Nat) (v : VV)  : Ct l yX2_init cX2_init none 1 (d + 1) 9 608 [ar (some 17)] WbC v (rV WbD_ (nV (nV (nV (nV (nV (nV (nV (nV (nV v 18) 19) 20) 21) 22) 23) 24) 25) 26)) := by
  refine Ct_of_G [some (ar (some 17))] (by decide) rfl rfl ?_
  refine G_aload_n dX2_init_0 rfl ?_
  refine G_objInit dX2_init_1 oi_X2 oi_im oi_co (by show 1 ≤ d + 1; omega) rfl ?_
  refine G_aload_n dX2_init_4 rfl ?_
  refine G_sipush (n := 320) dX2_init_5 (by decide) ⟨by decide, by decide⟩ ?_
  refine G_newa_int (N := 320) dX2_init_8 ac_int rfl (by decide) (Nat.le_of_ble_eq_true rfl) (Nat.le_of_ble_eq_true rfl) ?_
  refine G_putRF (jj := 0) dX2_init_10 flX2_9 rfl rfl rfl rfl rfl rfl ?_
  refine G_aload_n dX2_init_13 rfl ?_
  refine G_bipush (n := 36) dX2_init_14 (by decide) ⟨by decide, by decide⟩ ?_
  refine G_newa_int (N := 36) dX2_init_16 ac_int rfl (by decide) (Nat.le_of_ble_eq_true rfl) (Nat.le_of_ble_eq_true rfl) ?_
  refine G_putRF (jj := 1) dX2_init_18 flX2_15 rfl rfl rfl rfl rfl rfl ?_
  refine G_aload_n dX2_init_21 rfl ?_
  refine G_bipush (n := 36) dX2_init_22 (by decide) ⟨by decide, by decide⟩ ?_
  refine G_newa_int (N := 36) dX2_init_24 ac_int rfl (by decide) (Nat.le_of_ble_eq_true rfl) (Nat.le_of_ble_eq_true rfl) ?_
  refine G_putRF (jj := 2) dX2_init_26 flX2_18 rfl rfl rfl rfl rfl rfl ?_
  refine G_aload_n dX2_init_29 rfl ?_
  refine G_bipush (n := 36) dX2_init_30 (by decide) ⟨by decide, by decide⟩ ?_
  refine G_newa_int (N := 36) dX2_init_32 ac_int rfl (by decide) (Nat.le_of_ble_eq_true rfl) (Nat.le_of_ble_eq_true rfl) ?_
  refine G_putRF (jj := 3) dX2_init_34 flX2_21 rfl rfl rfl rfl rfl rfl ?_
  refine G_aload_n dX2_init_37 rfl ?_
  refine G_bipush (n := 36) dX2_init_38 (by decide) ⟨by decide, by decide⟩ ?_
  refine G_newa_int (N := 36) dX2_init_40 ac_int rfl (by decide) (Nat.le_of_ble_eq_true rfl) (Nat.le_of_ble_eq_true rfl) ?_
  refine G_putRF (jj := 4) dX2_init_42 flX2_24 rfl rfl rfl rfl rfl rfl ?_
  refine G_aload_n dX2_init_45 rfl ?_
  refine G_bipush (n := 36) dX2_init_46 (by decide) ⟨by decide, by decide⟩ ?_
  refine G_newa_int (N := 36) dX2_init_48 ac_int rfl (by decide) (Nat.le_of_ble_eq_true rfl) (Nat.le_of_ble_eq_true rfl) ?_
  refine G_putRF (jj := 5) dX2_init_50 flX2_27 rfl rfl rfl rfl rfl rfl ?_
  refine G_aload_n dX2_init_53 rfl ?_
  refine G_bipush (n := 36) dX2_init_54 (by decide) ⟨by decide, by decide⟩ ?_
  refine G_newa_int (N := 36) dX2_init_56 ac_int rfl (by decide) (Nat.le_of_ble_eq_true rfl) (Nat.le_of_ble_eq_true rfl) ?_
  refine G_putRF (jj := 6) dX2_init_58 flX2_30 rfl rfl rfl rfl rfl rfl ?_
  refine G_aload_n dX2_init_61 rfl ?_
  refine G_bipush (n := 36) dX2_init_62 (by decide) ⟨by decide, by decide⟩ ?_
  refine G_newa_int (N := 36) dX2_init_64 ac_int rfl (by decide) (Nat.le_of_ble_eq_true rfl) (Nat.le_of_ble_eq_true rfl) ?_
  refine G_putRF (jj := 7) dX2_init_66 flX2_33 rfl rfl rfl rfl rfl rfl ?_
  refine G_aload_n dX2_init_69 rfl ?_
  refine G_bipush (n := 36) dX2_init_70 (by decide) ⟨by decide, by decide⟩ ?_
  refine G_newa_boolean (N := 36) dX2_init_72 ac_bool rfl (by decide) (Nat.le_of_ble_eq_true rfl) (Nat.le_of_ble_eq_true rfl) ?_
  refine G_putRF (jj := 8) dX2_init_74 flX2_36 rfl rfl rfl rfl rfl rfl ?_
  exact G_vret dX2_init_77 rfl rfl rfl ⟨rfl, rfl, rfl⟩
set_option maxRecDepth 20000 in
set_option maxHeartbeats 1000000 in
theorem c_X5_init (l : Launch) (d nu : Nat) (v : VV) (hv0 : ∀ j, v 0 j = 0) : Ct l yX5_init cX5_init none 2 (d + 2) 26 903 [ar (some 0)] Wb1 v (fun r S2 w => r = none ∧ S2 = WbE ∧ (∀ k j, k ≠ 4 → k ≠ 16 → k < 27 → w k j = 0) ∧ (∀ j : Int, 0 ≤ j → j < 9 → w 4 j = xUs.getD j.toNat 0) ∧ (∀ j : Int, 0 ≤ j → j < 16 → w 16 j = -1)) := by
  refine Ct_of_G [some (ar (some 0)), none] (by decide) rfl rfl ?_
  have loop2 : ∀ (N : Nat) (x : Int) (w : VV), 0 ≤ x → x + N = 16 → (∀ k j, k ≠ 4 → k ≠ 16 → k < 17 → w k j = 0) → (∀ j : Int, 0 ≤ j → j < 9 → w 4 j = xUs.getD j.toNat 0) → (∀ j : Int, 0 ≤ j → j < x → w 16 j = -1) → G l (yX5_init, cX5_init, none, 2, (d + 2), 26, 903, none) (fun r S2 w => r = none ∧ S2 = WbE ∧ (∀ k j, k ≠ 4 → k ≠ 16 → k < 27 → w k j = 0) ∧ (∀ j : Int, 0 ≤ j → j < 9 → w 4 j = xUs.getD j.toNat 0) ∧ (∀ j : Int, 0 ≤ j → j < 16 → w 16 j = -1)) 16 283 WbB 81 [some (ar (some 0)), some (ai x)] [] w := by
    intro N
    induction N using Nat.strongRecOn with
    | ind N ih =>
    intro x w h0 h1 hf h4 hp
    refine G_iload_n dX5_init_81 rfl ?_
    refine G_bipush (n := 16) dX5_init_82 (by decide) ⟨by decide, by decide⟩ ?_
    refine G_icmp_ge 100 dX5_init_84 (by decide) (fun h84 => ?_) (fun h84 => ?_)
    · refine G_aload_n dX5_init_100 rfl ?_
      refine G_new (ci := 2) dX5_init_101 (by decide) (show Cond.classLink RX5 40 (Rof 2) ∈ lw_good by decide +kernel) (show Cond.instantiable (Rof 2) (nf 2) ∈ lw_good by decide +kernel) (show Cond.initialized (Rof 2) ∈ lw_good by decide +kernel) (Nat.le_of_ble_eq_true rfl) (Nat.le_of_ble_eq_true rfl) ?_
      refine G_dup_a dX5_init_104 ?_
      refine G_cNv dX5_init_105 (c_X2_init l (d + 0) nu _) mcX5_42 rfl rfl (by show _ ≤ d + 2; omega) rfl rfl (Nat.le_of_ble_eq_true rfl) (Nat.le_of_ble_eq_true rfl) ?_
      refine G_putRF (jj := 5) dX5_init_108 flX5_43 rfl rfl rfl rfl rfl rfl ?_
      exact G_vret dX5_init_111 rfl rfl rfl ⟨rfl, rfl, nv17 hf, fun j j0 j1 => h4 j j0 j1, fun j j0 j1 => hp j j0 (by omega)⟩
    · refine G_aload_n dX5_init_87 rfl ?_
      refine G_getR (jj := 4) dX5_init_88 flX5_36 rfl rfl rfl ?_
      refine G_iload_n dX5_init_91 rfl ?_
      refine G_iconst (n := (-1)) dX5_init_92 ⟨by decide, by decide⟩ ?_
      refine G_iast dX5_init_93 rfl (by omega) (by omega) ?_
      refine G_iinc dX5_init_94 rfl (iRm (by omega) (by omega)) rfl rfl ?_
      refine G_goto 81 dX5_init_97 (by decide) ?_
      exact ih (N - 1) (by omega) (x + 1) _ (by omega) (by omega) (fun k j k4 k16 k27 => by rw [up_ne k16]; exact hf k j k4 k16 k27) (fun j j0 j1 => h4 j j0 j1) (fun j j0 j1 => by by_cases g : j = x; (rw [g, up_self]); (rw [up_nj g]; exact hp j j0 (by omega)))
  refine G_aload_n dX5_init_0 rfl ?_
  refine G_objInit dX5_init_1 oi_X5 oi_im oi_co (by show 1 ≤ d + 2; omega) rfl ?_
  refine G_aload_n dX5_init_4 rfl ?_
  refine G_new (ci := 3) dX5_init_5 (by decide) (show Cond.classLink RX5 7 (Rof 3) ∈ lw_good by decide +kernel) (show Cond.instantiable (Rof 3) (nf 3) ∈ lw_good by decide +kernel) (show Cond.initialized (Rof 3) ∈ lw_good by decide +kernel) (Nat.le_of_ble_eq_true rfl) (Nat.le_of_ble_eq_true rfl) ?_
  refine G_dup_a dX5_init_8 ?_
  refine G_cNv dX5_init_9 (c_X3_init l (d + 0) nu _) mcX5_9 rfl rfl (by show _ ≤ d + 2; omega) rfl rfl (Nat.le_of_ble_eq_true rfl) (Nat.le_of_ble_eq_true rfl) ?_
  refine G_putRF (jj := 0) dX5_init_12 flX5_10 rfl rfl rfl rfl rfl rfl ?_
  refine G_aload_n dX5_init_15 rfl ?_
  refine G_new (ci := 1) dX5_init_16 (by decide) (show Cond.classLink RX5 16 (Rof 1) ∈ lw_good by decide +kernel) (show Cond.instantiable (Rof 1) (nf 1) ∈ lw_good by decide +kernel) (show Cond.initialized (Rof 1) ∈ lw_good by decide +kernel) (Nat.le_of_ble_eq_true rfl) (Nat.le_of_ble_eq_true rfl) ?_
  refine G_dup_a dX5_init_19 ?_
  refine G_cIq dX5_init_20 (c_X1_init l (d + 0) nu _) mcX5_18 rfl rfl (by show _ ≤ d + 2; omega) rfl rfl (Nat.le_of_ble_eq_true rfl) (Nat.le_of_ble_eq_true rfl) (fun r S2 w9 hq9 => ?_)
  obtain ⟨rfl, rfl, hf9, hp9⟩ := hq9
  refine G_putRF (jj := 1) dX5_init_23 flX5_19 rfl rfl rfl rfl rfl rfl ?_
  refine G_aload_n dX5_init_26 rfl ?_
  refine G_bipush (n := 20) dX5_init_27 (by decide) ⟨by decide, by decide⟩ ?_
  refine G_newq_3 (N := 20) dX5_init_29 (show Cond.classLink RX5 23 "WicketBoard$Umpire" ∈ lw_good by decide +kernel) rfl (by decide) (Nat.le_of_ble_eq_true rfl) (Nat.le_of_ble_eq_true rfl) ?_
  refine G_putRF (jj := 2) dX5_init_32 flX5_25 rfl rfl rfl rfl rfl rfl ?_
  refine G_aload_n dX5_init_35 rfl ?_
  refine G_bipush (n := 8) dX5_init_36 (by decide) ⟨by decide, by decide⟩ ?_
  refine G_newq_4 (N := 8) dX5_init_38 (show Cond.classLink RX5 29 "WicketBoard$Game" ∈ lw_good by decide +kernel) rfl (by decide) (Nat.le_of_ble_eq_true rfl) (Nat.le_of_ble_eq_true rfl) ?_
  refine G_putRF (jj := 3) dX5_init_41 flX5_31 rfl rfl rfl rfl rfl rfl ?_
  refine G_iconst (n := 0) dX5_init_44 ⟨by decide, by decide⟩ ?_
  refine G_istore_n dX5_init_45 rfl rfl ?_
  refine G_iload_n dX5_init_46 rfl ?_
  refine G_bipush (n := 8) dX5_init_47 (by decide) ⟨by decide, by decide⟩ ?_
  refine G_icmp_ge 71 dX5_init_49 (by decide) (fun h49 => by omega) (fun h49 => ?_)
  refine G_aload_n dX5_init_52 rfl ?_
  refine G_getR (jj := 3) dX5_init_53 flX5_31 rfl rfl rfl ?_
  
  refine G_iload_n dX5_init_56 rfl ?_
  refine G_new (ci := 0) dX5_init_57 (by decide) (show Cond.classLink RX5 29 (Rof 0) ∈ lw_good by decide +kernel) (show Cond.instantiable (Rof 0) (nf 0) ∈ lw_good by decide +kernel) (show Cond.initialized (Rof 0) ∈ lw_good by decide +kernel) (Nat.le_of_ble_eq_true rfl) (Nat.le_of_ble_eq_true rfl) ?_
  refine G_dup_a dX5_init_60 ?_
  refine G_cNv dX5_init_61 (c_X0_init l (d + 0) nu _ _ _) mcX5_35 rfl rfl (by show _ ≤ d + 2; omega) rfl rfl (Nat.le_of_ble_eq_true rfl) (Nat.le_of_ble_eq_true rfl) ?_
  refine G_aast_4 dX5_init_64 rfl rfl (by omega) (by omega) ?_
  refine G_iinc dX5_init_65 rfl (iRm (by omega) (by omega)) rfl rfl ?_
  refine G_goto 46 dX5_init_68 (by decide) ?_
  refine G_iload_n dX5_init_46 rfl ?_
  refine G_bipush (n := 8) dX5_init_47 (by decide) ⟨by decide, by decide⟩ ?_
  refine G_icmp_ge 71 dX5_init_49 (by decide) (fun h49 => by omega) (fun h49 => ?_)
  refine G_aload_n dX5_init_52 rfl ?_
  refine G_getR (jj := 3) dX5_init_53 flX5_31 rfl rfl rfl ?_
  
  refine G_iload_n dX5_init_56 rfl ?_
  refine G_new (ci := 0) dX5_init_57 (by decide) (show Cond.classLink RX5 29 (Rof 0) ∈ lw_good by decide +kernel) (show Cond.instantiable (Rof 0) (nf 0) ∈ lw_good by decide +kernel) (show Cond.initialized (Rof 0) ∈ lw_good by decide +kernel) (Nat.le_of_ble_eq_true rfl) (Nat.le_of_ble_eq_true rfl) ?_
  refine G_dup_a dX5_init_60 ?_
  refine G_cNv dX5_init_61 (c_X0_init l (d + 0) nu _ _ _) mcX5_35 rfl rfl (by show _ ≤ d + 2; omega) rfl rfl (Nat.le_of_ble_eq_true rfl) (Nat.le_of_ble_eq_true rfl) ?_
  refine G_aast_4 dX5_init_64 rfl rfl (by omega) (by omega) ?_
  refine G_iinc dX5_init_65 rfl (iRm (by omega) (by omega)) rfl rfl ?_
  refine G_goto 46 dX5_init_68 (by decide) ?_
  refine G_iload_n dX5_init_46 rfl ?_
  refine G_bipush (n := 8) dX5_init_47 (by decide) ⟨by decide, by decide⟩ ?_
  refine G_icmp_ge 71 dX5_init_49 (by decide) (fun h49 => by omega) (fun h49 => ?_)
  refine G_aload_n dX5_init_52 rfl ?_
  refine G_getR (jj := 3) dX5_init_53 flX5_31 rfl rfl rfl ?_
  
  refine G_iload_n dX5_init_56 rfl ?_
  refine G_new (ci := 0) dX5_init_57 (by decide) (show Cond.classLink RX5 29 (Rof 0) ∈ lw_good by decide +kernel) (show Cond.instantiable (Rof 0) (nf 0) ∈ lw_good by decide +kernel) (show Cond.initialized (Rof 0) ∈ lw_good by decide +kernel) (Nat.le_of_ble_eq_true rfl) (Nat.le_of_ble_eq_true rfl) ?_
  refine G_dup_a dX5_init_60 ?_
  refine G_cNv dX5_init_61 (c_X0_init l (d + 0) nu _ _ _) mcX5_35 rfl rfl (by show _ ≤ d + 2; omega) rfl rfl (Nat.le_of_ble_eq_true rfl) (Nat.le_of_ble_eq_true rfl) ?_
  refine G_aast_4 dX5_init_64 rfl rfl (by omega) (by omega) ?_
  refine G_iinc dX5_init_65 rfl (iRm (by omega) (by omega)) rfl rfl ?_
  refine G_goto 46 dX5_init_68 (by decide) ?_
  refine G_iload_n dX5_init_46 rfl ?_
  refine G_bipush (n := 8) dX5_init_47 (by decide) ⟨by decide, by decide⟩ ?_
  refine G_icmp_ge 71 dX5_init_49 (by decide) (fun h49 => by omega) (fun h49 => ?_)
  refine G_aload_n dX5_init_52 rfl ?_
  refine G_getR (jj := 3) dX5_init_53 flX5_31 rfl rfl rfl ?_
  
  refine G_iload_n dX5_init_56 rfl ?_
  refine G_new (ci := 0) dX5_init_57 (by decide) (show Cond.classLink RX5 29 (Rof 0) ∈ lw_good by decide +kernel) (show Cond.instantiable (Rof 0) (nf 0) ∈ lw_good by decide +kernel) (show Cond.initialized (Rof 0) ∈ lw_good by decide +kernel) (Nat.le_of_ble_eq_true rfl) (Nat.le_of_ble_eq_true rfl) ?_
  refine G_dup_a dX5_init_60 ?_
  refine G_cNv dX5_init_61 (c_X0_init l (d + 0) nu _ _ _) mcX5_35 rfl rfl (by show _ ≤ d + 2; omega) rfl rfl (Nat.le_of_ble_eq_true rfl) (Nat.le_of_ble_eq_true rfl) ?_
  refine G_aast_4 dX5_init_64 rfl rfl (by omega) (by omega) ?_
  refine G_iinc dX5_init_65 rfl (iRm (by omega) (by omega)) rfl rfl ?_
  refine G_goto 46 dX5_init_68 (by decide) ?_
  refine G_iload_n dX5_init_46 rfl ?_
  refine G_bipush (n := 8) dX5_init_47 (by decide) ⟨by decide, by decide⟩ ?_
  refine G_icmp_ge 71 dX5_init_49 (by decide) (fun h49 => by omega) (fun h49 => ?_)
  refine G_aload_n dX5_init_52 rfl ?_
  refine G_getR (jj := 3) dX5_init_53 flX5_31 rfl rfl rfl ?_
  
  refine G_iload_n dX5_init_56 rfl ?_
  refine G_new (ci := 0) dX5_init_57 (by decide) (show Cond.classLink RX5 29 (Rof 0) ∈ lw_good by decide +kernel) (show Cond.instantiable (Rof 0) (nf 0) ∈ lw_good by decide +kernel) (show Cond.initialized (Rof 0) ∈ lw_good by decide +kernel) (Nat.le_of_ble_eq_true rfl) (Nat.le_of_ble_eq_true rfl) ?_
  refine G_dup_a dX5_init_60 ?_
  refine G_cNv dX5_init_61 (c_X0_init l (d + 0) nu _ _ _) mcX5_35 rfl rfl (by show _ ≤ d + 2; omega) rfl rfl (Nat.le_of_ble_eq_true rfl) (Nat.le_of_ble_eq_true rfl) ?_
  refine G_aast_4 dX5_init_64 rfl rfl (by omega) (by omega) ?_
  refine G_iinc dX5_init_65 rfl (iRm (by omega) (by omega)) rfl rfl ?_
  refine G_goto 46 dX5_init_68 (by decide) ?_
  refine G_iload_n dX5_init_46 rfl ?_
  refine G_bipush (n := 8) dX5_init_47 (by decide) ⟨by decide, by decide⟩ ?_
  refine G_icmp_ge 71 dX5_init_49 (by decide) (fun h49 => by omega) (fun h49 => ?_)
  refine G_aload_n dX5_init_52 rfl ?_
  refine G_getR (jj := 3) dX5_init_53 flX5_31 rfl rfl rfl ?_
  
  refine G_iload_n dX5_init_56 rfl ?_
  refine G_new (ci := 0) dX5_init_57 (by decide) (show Cond.classLink RX5 29 (Rof 0) ∈ lw_good by decide +kernel) (show Cond.instantiable (Rof 0) (nf 0) ∈ lw_good by decide +kernel) (show Cond.initialized (Rof 0) ∈ lw_good by decide +kernel) (Nat.le_of_ble_eq_true rfl) (Nat.le_of_ble_eq_true rfl) ?_
  refine G_dup_a dX5_init_60 ?_
  refine G_cNv dX5_init_61 (c_X0_init l (d + 0) nu _ _ _) mcX5_35 rfl rfl (by show _ ≤ d + 2; omega) rfl rfl (Nat.le_of_ble_eq_true rfl) (Nat.le_of_ble_eq_true rfl) ?_
  refine G_aast_4 dX5_init_64 rfl rfl (by omega) (by omega) ?_
  refine G_iinc dX5_init_65 rfl (iRm (by omega) (by omega)) rfl rfl ?_
  refine G_goto 46 dX5_init_68 (by decide) ?_
  refine G_iload_n dX5_init_46 rfl ?_
  refine G_bipush (n := 8) dX5_init_47 (by decide) ⟨by decide, by decide⟩ ?_
  refine G_icmp_ge 71 dX5_init_49 (by decide) (fun h49 => by omega) (fun h49 => ?_)
  refine G_aload_n dX5_init_52 rfl ?_
  refine G_getR (jj := 3) dX5_init_53 flX5_31 rfl rfl rfl ?_
  
  refine G_iload_n dX5_init_56 rfl ?_
  refine G_new (ci := 0) dX5_init_57 (by decide) (show Cond.classLink RX5 29 (Rof 0) ∈ lw_good by decide +kernel) (show Cond.instantiable (Rof 0) (nf 0) ∈ lw_good by decide +kernel) (show Cond.initialized (Rof 0) ∈ lw_good by decide +kernel) (Nat.le_of_ble_eq_true rfl) (Nat.le_of_ble_eq_true rfl) ?_
  refine G_dup_a dX5_init_60 ?_
  refine G_cNv dX5_init_61 (c_X0_init l (d + 0) nu _ _ _) mcX5_35 rfl rfl (by show _ ≤ d + 2; omega) rfl rfl (Nat.le_of_ble_eq_true rfl) (Nat.le_of_ble_eq_true rfl) ?_
  refine G_aast_4 dX5_init_64 rfl rfl (by omega) (by omega) ?_
  refine G_iinc dX5_init_65 rfl (iRm (by omega) (by omega)) rfl rfl ?_
  refine G_goto 46 dX5_init_68 (by decide) ?_
  refine G_iload_n dX5_init_46 rfl ?_
  refine G_bipush (n := 8) dX5_init_47 (by decide) ⟨by decide, by decide⟩ ?_
  refine G_icmp_ge 71 dX5_init_49 (by decide) (fun h49 => by omega) (fun h49 => ?_)
  refine G_aload_n dX5_init_52 rfl ?_
  refine G_getR (jj := 3) dX5_init_53 flX5_31 rfl rfl rfl ?_
  
  refine G_iload_n dX5_init_56 rfl ?_
  refine G_new (ci := 0) dX5_init_57 (by decide) (show Cond.classLink RX5 29 (Rof 0) ∈ lw_good by decide +kernel) (show Cond.instantiable (Rof 0) (nf 0) ∈ lw_good by decide +kernel) (show Cond.initialized (Rof 0) ∈ lw_good by decide +kernel) (Nat.le_of_ble_eq_true rfl) (Nat.le_of_ble_eq_true rfl) ?_
  refine G_dup_a dX5_init_60 ?_
  refine G_cNv dX5_init_61 (c_X0_init l (d + 0) nu _ _ _) mcX5_35 rfl rfl (by show _ ≤ d + 2; omega) rfl rfl (Nat.le_of_ble_eq_true rfl) (Nat.le_of_ble_eq_true rfl) ?_
  refine G_aast_4 dX5_init_64 rfl rfl (by omega) (by omega) ?_
  refine G_iinc dX5_init_65 rfl (iRm (by omega) (by omega)) rfl rfl ?_
  refine G_goto 46 dX5_init_68 (by decide) ?_
  refine G_iload_n dX5_init_46 rfl ?_
  refine G_bipush (n := 8) dX5_init_47 (by decide) ⟨by decide, by decide⟩ ?_
  refine G_icmp_ge 71 dX5_init_49 (by decide) (fun h49 => ?_) (fun h49 => by omega)
  refine G_aload_n dX5_init_71 rfl ?_
  refine G_bipush (n := 16) dX5_init_72 (by decide) ⟨by decide, by decide⟩ ?_
  refine G_newa_int (N := 16) dX5_init_74 ac_int rfl (by decide) (Nat.le_of_ble_eq_true rfl) (Nat.le_of_ble_eq_true rfl) ?_
  refine G_putRF (jj := 4) dX5_init_76 flX5_36 rfl rfl rfl rfl rfl rfl ?_
  refine G_iconst (n := 0) dX5_init_79 ⟨by decide, by decide⟩ ?_
  refine G_istore_n dX5_init_80 rfl rfl ?_
  refine loop2 16 0 _ (by omega) (by omega) (fun k j k4 k16 k27 => ?_) (fun j j0 j1 => hp9 j j0 j1) (fun j j0 j1 => by omega)
  have hz : k = 0 ∨ k = 1 ∨ k = 2 ∨ k = 3 ∨ k = 5 ∨ k = 6 ∨ k = 7 ∨ k = 8 ∨ k = 9 ∨ k = 10 ∨ k = 11 ∨ k = 12 ∨ k = 13 ∨ k = 14 ∨ k = 15 := by omega
  rcases hz with rfl | rfl | rfl | rfl | rfl | rfl | rfl | rfl | rfl | rfl | rfl | rfl | rfl | rfl | rfl
  · exact (congrFun (hf9 0 (by omega)) j).trans (hv0 j)
  · exact (congrFun (hf9 1 (by omega)) j).trans rfl
  · exact (congrFun (hf9 2 (by omega)) j).trans rfl
  · exact (congrFun (hf9 3 (by omega)) j).trans rfl
  · exact (congrFun (hf9 5 (by omega)) j).trans rfl
  all_goals rfl
