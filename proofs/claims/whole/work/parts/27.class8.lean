theorem shl_bit : ∀ k : Nat, k < 32 → (Int32.ofInt (shlI 1 (k : Int))).toBitVec.toNat = 2 ^ k := by decide +kernel
theorem borI_N (x y : Int) : (Int32.ofInt (borI x y)).toBitVec.toNat = (Int32.ofInt x).toBitVec.toNat ||| (Int32.ofInt y).toBitVec.toNat := by
  unfold borI
  rw [Int32.ofInt_toInt, Int32.toBitVec_or, BitVec.toNat_or]
theorem bandI_N (x y : Int) : bandI x y = 0 ↔ (Int32.ofInt x).toBitVec.toNat &&& (Int32.ofInt y).toBitVec.toNat = 0 := by
  unfold bandI
  rw [show (0 : Int) = (0 : Int32).toInt from rfl, Int32.toInt_inj, ← Int32.toBitVec_inj, ← BitVec.toNat_inj, Int32.toBitVec_and, BitVec.toNat_and]
  rfl
theorem and_pow (n k : Nat) : n &&& 2 ^ k = 0 ↔ n.testBit k = false := by
  constructor
  · intro h
    have := congrArg (fun x => x.testBit k) h
    simpa [Nat.testBit_and, Nat.testBit_two_pow_self] using this
  · intro h
    apply Nat.eq_of_testBit_eq
    intro i
    rw [Nat.testBit_and, Nat.zero_testBit, Nat.testBit_two_pow]
    by_cases e : k = i
    · subst e; simp [h]
    · simp [e]
theorem bitct_out {x k : Nat} (n : Nat) (h : n ≤ k) : bitct (x ||| 2 ^ k) n = bitct x n := by
  induction n with
  | zero => rfl
  | succ n ih =>
    rw [bitct, bitct, ih (by omega), Nat.testBit_or, Nat.testBit_two_pow_of_ne (by omega), Bool.or_false]
theorem bitct_set {x k : Nat} (hb : x.testBit k = false) (n : Nat) (h : k < n) : bitct (x ||| 2 ^ k) n = bitct x n + 1 := by
  induction n with
  | zero => omega
  | succ n ih =>
    rw [bitct, bitct]
    by_cases e : k = n
    · subst e
      rw [bitct_out k (Nat.le_refl k), Nat.testBit_or, Nat.testBit_two_pow_self, hb]
      simp
    · rw [ih (by omega), Nat.testBit_or, Nat.testBit_two_pow_of_ne e, Bool.or_false]
      omega
theorem mk_bits {x c e : Int} (hx : 0 ≤ x ∧ x ≤ 3) (hc : 0 ≤ c ∧ c ≤ 1) (he : 0 ≤ e ∧ e ≤ 1) : (0 ≤ borI x (shlI 1 c) ∧ borI x (shlI 1 c) ≤ 3) ∧ (bandI (shrI (borI x (shlI 1 c)) e) 1 = 1 ↔ (e = c ∨ bandI (shrI x e) 1 = 1)) := by
  have h1 : x = 0 ∨ x = 1 ∨ x = 2 ∨ x = 3 := by omega
  have h2 : c = 0 ∨ c = 1 := by omega
  have h3 : e = 0 ∨ e = 1 := by omega
  rcases h1 with rfl | rfl | rfl | rfl <;> rcases h2 with rfl | rfl <;> rcases h3 with rfl | rfl <;> decide +kernel
theorem gv_up {v : VV} (x : Int) : gvN (up v 0 9 x) = (Int32.ofInt x).toBitVec.toNat := by unfold gvN; rw [up_self]
/-- the MARKS' bits, one more of them -/
theorem SK_mark {v z : VV} (h : SK v z) (hg : 0 ≤ z 27 34 ∧ z 27 34 ≤ 8) {s c : Int} (hs : 0 ≤ s ∧ s < 2 * z 27 34) (hc : 0 ≤ c ∧ c ≤ 1) (hb : bandI (v 0 9) (shlI 1 (2 * s + c)) = 0) : SK (up v 0 9 (borI (v 0 9) (shlI 1 (2 * s + c)))) (up (up z 49 s (borI (z 49 s) (shlI 1 c))) 27 36 (z 27 36 + 1)) := by
  have hk : (2 * s + c).toNat < 32 := by omega
  have hkI : (((2 * s + c).toNat : Nat) : Int) = 2 * s + c := by omega
  have hsh := shl_bit (2 * s + c).toNat hk
  rw [hkI] at hsh
  have hbit : (gvN v).testBit (2 * s + c).toNat = false := by
    have := (bandI_N _ _).mp hb
    rw [hsh] at this
    exact (and_pow _ _).mp this
  have hgv : gvN (up v 0 9 (borI (v 0 9) (shlI 1 (2 * s + c)))) = gvN v ||| 2 ^ (2 * s + c).toNat := by rw [gv_up, borI_N, hsh]; rfl
  unfold SK
  rw [hgv]
  refine ⟨fun t t0 t1 => ?_, fun i hi => ?_, ?_⟩
  · have t1 : t < 2 * z 27 34 := t1
    have a := h.1 t t0 t1
    show (0 ≤ up z 49 s (borI (z 49 s) (shlI 1 c)) 49 t ∧ up z 49 s (borI (z 49 s) (shlI 1 c)) 49 t ≤ 3) ∧ ∀ e : Int, 0 ≤ e → e ≤ 1 → (_ ↔ bandI (shrI (up z 49 s (borI (z 49 s) (shlI 1 c)) 49 t) e) 1 = 1)
    by_cases e : t = s
    · subst e
      rw [up_self]
      refine ⟨(mk_bits a.1 hc hc).1, fun e e0 e1 => ?_⟩
      rw [(mk_bits a.1 hc ⟨e0, e1⟩).2, Nat.testBit_or, Bool.or_eq_true, a.2 e e0 e1]
      by_cases q : e = c
      · subst q; simp [Nat.testBit_two_pow_self]
      · rw [Nat.testBit_two_pow_of_ne (by omega)]; simp [q]
    · rw [up_nj e]
      refine ⟨a.1, fun e2 e0 e1 => ?_⟩
      rw [Nat.testBit_or, Nat.testBit_two_pow_of_ne (by omega), Bool.or_false]
      exact a.2 e2 e0 e1
  · have hi : 4 * z 27 34 ≤ i := hi
    rw [Nat.testBit_or, Nat.testBit_two_pow_of_ne (by omega), Bool.or_false]
    exact h.2.1 i hi
  · show z 27 36 + 1 = _
    rw [bitct_set hbit 32 hk, h.2.2]
    omega
theorem SK_test {v z : VV} (h : SK v z) {s c : Int} (hg : 0 ≤ z 27 34 ∧ z 27 34 ≤ 8) (hs : 0 ≤ s ∧ s < 2 * z 27 34) (hc : 0 ≤ c ∧ c ≤ 1) : bandI (v 0 9) (shlI 1 (2 * s + c)) = 0 ↔ ¬ bandI (shrI (z 49 s) c) 1 = 1 := by
  have hk : (2 * s + c).toNat < 32 := by omega
  have hkI : (((2 * s + c).toNat : Nat) : Int) = 2 * s + c := by omega
  have hsh := shl_bit (2 * s + c).toNat hk
  rw [hkI] at hsh
  rw [bandI_N, hsh, and_pow, ← (h.1 s hs.1 hs.2).2 c hc.1 hc.2]
  unfold gvN
  simp
theorem Simx_mark {nu : Nat} {b : Int} {v z : VV} (h : Simx nu b v z) {s c q t : Int} {n : Nat} (hn : n < nu) (hs : 0 ≤ s ∧ s < 2 * z 27 34) (hc : 0 ≤ c ∧ c ≤ 1) (hb : bandI (v 0 9) (shlI 1 (2 * s + c)) = 0) : Simx nu b (up (up (up (up v 0 9 (borI (v 0 9) (shlI 1 (2 * s + c)))) (59 + 3 * n) 6 (v (59 + 3 * n) 6 + 1)) (59 + 3 * n) 7 (v (59 + 3 * n) 7 + t)) (59 + 3 * n) 8 (v (59 + 3 * n) 8 + q * t)) (up (up (up (up (up z 49 s (borI (z 49 s) (shlI 1 c))) 38 n (z 38 n + 1)) 39 n (z 39 n + t)) 40 n (z 40 n + t * q)) 27 36 (z 27 36 + 1)) := by
  obtain ⟨hM, hC, hU, hW, hX, hH, hR, hT, hK⟩ := h
  have hK2 := SK_mark hK hM.2.1 hs hc hb
  refine ⟨⟨hM.1, hM.2.1, hM.2.2.1, hM.2.2.2.1, hM.2.2.2.2.1, hM.2.2.2.2.2.1, hM.2.2.2.2.2.2⟩, ?_, ?_, ?_, ?_, ⟨?_, ?_, hH.2.2⟩, ?_, ?_, ?_⟩
  · unfold SC
    simp only [up_c (show 0 ≠ 59 + 3 * n by omega), up_nj (show (6 : Int) ≠ 9 by decide), up_nj (show (7 : Int) ≠ 9 by decide), up_nj (show (8 : Int) ≠ 9 by decide)]
    exact hC
  · intro k hk
    have a := hU k hk
    have a0 := hU n hn
    simp only [up_get]
    by_cases e : k = n
    · subst e
      simp [a.1, a.2.1, a.2.2.1, a.2.2.2.1, a.2.2.2.2.1, a.2.2.2.2.2.1, a.2.2.2.2.2.2.1, a.2.2.2.2.2.2.2, Int.mul_comm]
    · have e2 : ¬ ((k : Int) = (n : Int)) := by omega
      have e3 : ¬ (59 + 3 * k = 59 + 3 * n) := by omega
      have e4 : ¬ (3 * k = 3 * n) := by omega
      simpa [e, e2, e3, e4] using a
  · intro k hk w w0 w1
    simp only [up_c (show 60 + 3 * k ≠ 59 + 3 * n by omega), up_c (show 61 + 3 * k ≠ 59 + 3 * n by omega), up_c (show 60 + 3 * k ≠ 0 by omega), up_c (show 61 + 3 * k ≠ 0 by omega)]
    exact hW k hk w w0 w1
  · intro g hg
    have g8 : (g : Int) < 8 := by have := hM.2.1; have hg : (g : Int) < z 27 34 := hg; omega
    simp only [up_c (show 8 + g ≠ 59 + 3 * n by omega), up_c (show 8 + g ≠ 0 by omega)]
    exact hX g hg
  · intro x x0 x1
    simp only [up_c (show 16 ≠ 59 + 3 * n by omega), up_c (show 16 ≠ 0 by omega)]
    exact hH.1 x x0 x1
  · intro k hk
    simp only [up_c (show 59 + 3 * k ≠ 0 by omega), up_nj (show (4 : Int) ≠ 6 by decide), up_nj (show (4 : Int) ≠ 7 by decide), up_nj (show (4 : Int) ≠ 8 by decide)]
    exact hH.2.1 k hk
  · intro k k0 k1
    simp only [up_c (show 4 ≠ 59 + 3 * n by omega), up_c (show 4 ≠ 0 by omega)]
    exact hR k k0 k1
  · unfold ST
    simp only [up_c (show 3 ≠ 59 + 3 * n by omega), up_c (show 3 ≠ 0 by omega), up_c (show 1 ≠ 59 + 3 * n by omega), up_c (show 1 ≠ 0 by omega), up_c (show 2 ≠ 59 + 3 * n by omega), up_c (show 2 ≠ 0 by omega)]
    exact hT
  · unfold SK gvN at hK2 ⊢
    simp only [up_c (show 0 ≠ 59 + 3 * n by omega)]
    exact hK2
set_option maxRecDepth 20000 in
set_option maxHeartbeats 1000000 in
theorem c_X5_mark (l : Launch) (d nu : Nat) (v : VV) (z : VV) (hS : Sim nu v z) (t : Int) (hcb : CB nu t z) (s c q b : Int) (hb : b = 0 ∨ b = 1) : Ct l yX5_mark cX5_mark (some .boolean) 7 (d + 3) 0 0 [ar (some 0), ai s, ai c, ai q, ai b] (SG nu) v (fun r S2 v2 => r = some (ai (if (0 ≤ s ∧ s < 2 * z 27 34) ∧ z 48 s ≠ -1 ∧ (0 ≤ c ∧ c ≤ 1) ∧ (0 ≤ q ∧ q ≤ 100) ∧ bandI (shrI (z 49 s) c) 1 ≠ 1 then 1 else 0)) ∧ S2 = SG nu ∧ Sim nu v2 (if (0 ≤ s ∧ s < 2 * z 27 34) ∧ z 48 s ≠ -1 ∧ (0 ≤ c ∧ c ≤ 1) ∧ (0 ≤ q ∧ q ≤ 100) ∧ bandI (shrI (z 49 s) c) 1 ≠ 1 then markV z s c q b else z) ∧ KM v v2) := by
  refine Ct_of_G [some (ar (some 0)), some (ai s), some (ai c), some (ai q), some (ai b), none, none] (by decide) rfl rfl ?_
  have hMB : MB nu z := hS.1
  have hnn := hMB.1
  have hgm := hMB.2.1
  have hwk := hMB.2.2.1
  have hc6 := hS.2.1.1
  have hc7 := hS.2.1.2.1
  have hc8 := hS.2.1.2.2
  have hg0 : 0 ≤ v 0 7 ∧ v 0 7 ≤ 8 := by omega
  have hu0 : v 0 6 = nu ∧ nu ≤ 20 := ⟨hc6, hnn.1⟩
  have hr4 := hMB.2.2.2.1.2.2.2.2.1
  have hr5 := hMB.2.2.2.1.2.2.2.2.2.1
  have ht := hcb.1
  refine G_aload_n dX5_mark_0 rfl ?_
  refine G_iload_n dX5_mark_1 rfl ?_
  refine G_cVa (ci := 5) dX5_mark_2 rfl (by decide) rfl (c_X5_holderOf l (d + 1) nu v hu0 hg0 s) mcX5_153 rfl rfl (by show _ ≤ d + 3; omega) rfl rfl (Nat.le_refl _) (Nat.le_refl _) ?_
  by_cases hsr : 0 ≤ s ∧ s < 2 * z 27 34
  · by_cases hw : z 48 s = -1
    · rw [(hold_none hS hsr.1 hsr.2 hw).2]
      refine G_astore dX5_mark_5 rfl rfl ?_
      refine G_aload dX5_mark_7 rfl ?_
      refine G_ifnullN 31 dX5_mark_9 (by decide) ?_
      refine G_iconst (n := 0) dX5_mark_31 ⟨by decide, by decide⟩ ?_
      exact G_zret dX5_mark_32 rfl (by omega) rfl rfl ⟨by rw [if_neg (by omega)], rfl, by rw [if_neg (by omega)]; exact hS, KM.rf⟩
    obtain ⟨hx1, hx2, hx3⟩ := hold_some hS hsr.1 hsr.2 hw
    rw [hx3]
    have hn : (z 48 s).toNat < nu := by omega
    have hzn : (((z 48 s).toNat : Nat) : Int) = z 48 s := by omega
    refine G_astore dX5_mark_5 rfl rfl ?_
    refine G_aload dX5_mark_7 rfl ?_
    refine G_ifnullS dX5_mark_9 ?_
    refine G_iload_n dX5_mark_12 rfl ?_
    refine G_if_lt 31 dX5_mark_13 (by decide) (fun h13 => ?_) (fun h13 => ?_)
    · refine G_iconst (n := 0) dX5_mark_31 ⟨by decide, by decide⟩ ?_
      exact G_zret dX5_mark_32 rfl (by omega) rfl rfl ⟨by rw [if_neg (by omega)], rfl, by rw [if_neg (by omega)]; exact hS, KM.rf⟩
    · refine G_iload_n dX5_mark_16 rfl ?_
      refine G_iconst (n := 1) dX5_mark_17 ⟨by decide, by decide⟩ ?_
      refine G_icmp_gt 31 dX5_mark_18 (by decide) (fun h18 => ?_) (fun h18 => ?_)
      · refine G_iconst (n := 0) dX5_mark_31 ⟨by decide, by decide⟩ ?_
        exact G_zret dX5_mark_32 rfl (by omega) rfl rfl ⟨by rw [if_neg (by omega)], rfl, by rw [if_neg (by omega)]; exact hS, KM.rf⟩
      · refine G_iload_n dX5_mark_21 rfl ?_
        refine G_if_lt 31 dX5_mark_22 (by decide) (fun h22 => ?_) (fun h22 => ?_)
        · refine G_iconst (n := 0) dX5_mark_31 ⟨by decide, by decide⟩ ?_
          exact G_zret dX5_mark_32 rfl (by omega) rfl rfl ⟨by rw [if_neg (by omega)], rfl, by rw [if_neg (by omega)]; exact hS, KM.rf⟩
        · refine G_iload_n dX5_mark_25 rfl ?_
          refine G_bipush (n := 100) dX5_mark_26 (by decide) ⟨by decide, by decide⟩ ?_
          refine G_icmp_le 33 dX5_mark_28 (by decide) (fun h28 => ?_) (fun h28 => ?_)
          · refine G_iconst (n := 1) dX5_mark_33 ⟨by decide, by decide⟩ ?_
            refine G_iconst (n := 2) dX5_mark_34 ⟨by decide, by decide⟩ ?_
            refine G_iload_n dX5_mark_35 rfl ?_
            refine G_imul dX5_mark_36 (iRm (by omega) (by omega)) ?_
            refine G_iload_n dX5_mark_37 rfl ?_
            refine G_iadd dX5_mark_38 (iRm (by omega) (by omega)) ?_
            refine G_ishl (shlI 1 (2 * s + c)) dX5_mark_39 rfl ?_
            refine G_istore dX5_mark_40 rfl rfl ?_
            refine G_aload_n dX5_mark_42 rfl ?_
            refine G_getI (jj := 9) dX5_mark_43 flX5_118 rfl rfl rfl ?_
            refine G_iload dX5_mark_46 rfl ?_
            refine G_iand (bandI (v 0 9) (shlI 1 (2 * s + c))) dX5_mark_48 rfl ?_
            refine G_if_eq 54 dX5_mark_49 (by decide) (fun h49 => ?_) (fun h49 => ?_)
            · have htb := (SK_test hS.2.2.2.2.2.2.2.2 hgm hsr (c := c) (by omega)).mp h49
              have hok : (0 ≤ s ∧ s < 2 * z 27 34) ∧ z 48 s ≠ -1 ∧ (0 ≤ c ∧ c ≤ 1) ∧ (0 ≤ q ∧ q ≤ 100) ∧ bandI (shrI (z 49 s) c) 1 ≠ 1 := by omega
              rw [if_pos hok, if_pos hok]
              refine G_aload_n dX5_mark_54 rfl ?_
              refine G_dup_a dX5_mark_55 ?_
              refine G_getI (jj := 9) dX5_mark_56 flX5_118 rfl rfl rfl ?_
              refine G_iload dX5_mark_59 rfl ?_
              refine G_ior (borI (v 0 9) (shlI 1 (2 * s + c))) dX5_mark_61 rfl ?_
              refine G_putI (jj := 9) dX5_mark_62 flX5_118 rfl rfl rfl rfl ?_
              refine G_aload dX5_mark_65 rfl ?_
              refine G_iload_n dX5_mark_67 rfl ?_
              refine G_aload_n dX5_mark_68 rfl ?_
              refine G_getR (jj := 1) dX5_mark_69 flX5_19 rfl rfl rfl ?_
              by_cases hb0 : b = 0
              · refine G_iload dX5_mark_72 rfl ?_
                refine G_if_eq 81 dX5_mark_74 (by decide) (fun h74 => ?_) (fun h74 => by omega)
                refine G_iconst (n := 5) dX5_mark_81 ⟨by decide, by decide⟩ ?_
                refine G_cVi (ci := 1) dX5_mark_82 rfl (by decide) rfl (c_X1_value l (d + 2) nu _ 5) mcX5_69 rfl rfl (by show _ ≤ d + 3; omega) rfl rfl (Nat.le_refl _) (Nat.le_refl _) ?_
                rw [if_pos (show (0:Int) ≤ 5 ∧ (5:Int) < 9 by decide)]
                rw [up_c (show 4 ≠ 0 by decide), hS.2.2.2.2.2.2.1 5 (by omega) (by omega)]
                have hN : z 29 5 = markN z b := by unfold markN; rw [if_pos hb0]
                rw [hN]
                have hN2 : 0 ≤ markN z b ∧ markN z b ≤ 9 := by rw [← hN]; exact hr5
                have hU := hS.2.2.1 (z 48 s).toNat hn
                rw [hzn] at hU
                have hct := hcb.2.2 (z 48 s) hx1.1 hx1.2
                refine G_cVv (ci := 4) dX5_mark_85 (by rw [sh_ump hn]) (by decide) rfl (c_X4_addMarks l (d + 2) nu _ (z 48 s).toNat hn q (markN z b) hok.2.2.2.1 hN2 (by rw [up_c (by omega)]; omega) (by rw [up_c (by omega)]; omega) (by rw [up_c (by omega)]; omega)) mcX5_156 rfl rfl (by show _ ≤ d + 3; omega) rfl rfl (Nat.le_refl _) (Nat.le_refl _) ?_
                refine G_iconst (n := 1) dX5_mark_88 ⟨by decide, by decide⟩ ?_
                exact G_zret dX5_mark_89 rfl (by omega) rfl rfl ⟨rfl, rfl, by have y := Simx_mark (q := q) (t := markN z b) hS hn hsr (c := c) (by omega) h49; rw [hzn] at y; simp only [up_c (show 59 + 3 * (z 48 s).toNat ≠ 0 by omega)]; exact y, fun k k1 k2 => by rw [up_ne (by omega), up_ne (by omega), up_ne (by omega), up_ne (by omega)]⟩
              · refine G_iload dX5_mark_72 rfl ?_
                refine G_if_eq 81 dX5_mark_74 (by decide) (fun h74 => by omega) (fun h74 => ?_)
                refine G_iconst (n := 4) dX5_mark_77 ⟨by decide, by decide⟩ ?_
                refine G_goto 82 dX5_mark_78 (by decide) ?_
                refine G_cVi (ci := 1) dX5_mark_82 rfl (by decide) rfl (c_X1_value l (d + 2) nu _ 4) mcX5_69 rfl rfl (by show _ ≤ d + 3; omega) rfl rfl (Nat.le_refl _) (Nat.le_refl _) ?_
                rw [if_pos (show (0:Int) ≤ 4 ∧ (4:Int) < 9 by decide)]
                rw [up_c (show 4 ≠ 0 by decide), hS.2.2.2.2.2.2.1 4 (by omega) (by omega)]
                have hN : z 29 4 = markN z b := by unfold markN; rw [if_neg hb0]
                rw [hN]
                have hN2 : 0 ≤ markN z b ∧ markN z b ≤ 9 := by rw [← hN]; exact hr4
                have hU := hS.2.2.1 (z 48 s).toNat hn
                rw [hzn] at hU
                have hct := hcb.2.2 (z 48 s) hx1.1 hx1.2
                refine G_cVv (ci := 4) dX5_mark_85 (by rw [sh_ump hn]) (by decide) rfl (c_X4_addMarks l (d + 2) nu _ (z 48 s).toNat hn q (markN z b) hok.2.2.2.1 hN2 (by rw [up_c (by omega)]; omega) (by rw [up_c (by omega)]; omega) (by rw [up_c (by omega)]; omega)) mcX5_156 rfl rfl (by show _ ≤ d + 3; omega) rfl rfl (Nat.le_refl _) (Nat.le_refl _) ?_
                refine G_iconst (n := 1) dX5_mark_88 ⟨by decide, by decide⟩ ?_
                exact G_zret dX5_mark_89 rfl (by omega) rfl rfl ⟨rfl, rfl, by have y := Simx_mark (q := q) (t := markN z b) hS hn hsr (c := c) (by omega) h49; rw [hzn] at y; simp only [up_c (show 59 + 3 * (z 48 s).toNat ≠ 0 by omega)]; exact y, fun k k1 k2 => by rw [up_ne (by omega), up_ne (by omega), up_ne (by omega), up_ne (by omega)]⟩
            · have htb := fun y => h49 ((SK_test hS.2.2.2.2.2.2.2.2 hgm hsr (c := c) (by omega)).mpr y)
              have htc : bandI (shrI (z 49 s) c) 1 = 1 := Decidable.not_not.mp htb
              refine G_iconst (n := 0) dX5_mark_52 ⟨by decide, by decide⟩ ?_
              exact G_zret dX5_mark_53 rfl (by omega) rfl rfl ⟨by rw [if_neg (fun y => y.2.2.2.2 htc)], rfl, by rw [if_neg (fun y => y.2.2.2.2 htc)]; exact hS, KM.rf⟩
          · refine G_iconst (n := 0) dX5_mark_31 ⟨by decide, by decide⟩ ?_
            exact G_zret dX5_mark_32 rfl (by omega) rfl rfl ⟨by rw [if_neg (by omega)], rfl, by rw [if_neg (by omega)]; exact hS, KM.rf⟩
  · rw [hold_out hS hsr]
    refine G_astore dX5_mark_5 rfl rfl ?_
    refine G_aload dX5_mark_7 rfl ?_
    refine G_ifnullN 31 dX5_mark_9 (by decide) ?_
    refine G_iconst (n := 0) dX5_mark_31 ⟨by decide, by decide⟩ ?_
    exact G_zret dX5_mark_32 rfl (by omega) rfl rfl ⟨by rw [if_neg (by omega)], rfl, by rw [if_neg (by omega)]; exact hS, KM.rf⟩
