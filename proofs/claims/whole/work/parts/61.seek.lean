/-! the model's send: 48 who, 50 comes, 51 takes, 52 cell, 53 holder, 54 fixed, 55 way, 56 whence, 57 mover -/
def Cl (v : VV) (s u : Int) : Int := v 52 (20 * s + u)
def py (v : VV) (t : Int) : Int := if v 48 t = -1 then 1000000 else v 52 (20 * t + v 48 t)
def ML (m n : Nat) (v : VV) : Prop := v 27 33 = n ∧ n ≤ 20 ∧ m ≤ 16 ∧ ∀ s u : Int, 0 ≤ s → s < m → 0 ≤ u → u < n → Cl v s u = 100000000 ∨ (0 ≤ Cl v s u ∧ Cl v s u ≤ 5148)
def WH (m n : Nat) (v : VV) : Prop := (∀ s : Int, 0 ≤ s → s < m → v 48 s = -1 ∨ ((0 ≤ v 48 s ∧ v 48 s < n) ∧ v 53 (v 48 s) = s ∧ Cl v s (v 48 s) ≠ 100000000)) ∧ ∀ u : Int, 0 ≤ u → u < n → v 53 u = -1 ∨ ((0 ≤ v 53 u ∧ v 53 u < m) ∧ v 48 (v 53 u) = u)
def FX1 (m : Nat) (k : Int) (v : VV) : Prop := ∀ s : Int, 0 ≤ s → s < m → v 54 s = (if s < k then 0 else 1) ∧ (k ≤ s → v 48 s = -1)
def hp (v : VV) (f : Int → Int) (u : Int) : Int := if v 53 u = -1 then 0 else f (v 53 u) - py v (v 53 u)
def PHI (m n : Nat) (k : Int) (v : VV) (ph : Int → Int) : Prop := (∀ s : Int, 0 ≤ s → s < k → 0 ≤ ph s ∧ ph s ≤ 1000000) ∧ (∀ s : Int, k ≤ s → s < m → ph s = 1000000) ∧ ∀ s u : Int, 0 ≤ s → s < k → 0 ≤ u → u < n → Cl v s u ≠ 100000000 → ph s ≤ Cl v s u + hp v ph u
def SI (m n : Nat) (k : Int) (v : VV) (ph : Int → Int) (tau : Int → Nat) (w : VV) : Prop := fr [50, 51] v w ∧ ∀ s : Int, 0 ≤ s → s < m → (k ≤ s → w 50 s = 1000000 ∧ w 51 s = -1) ∧ (s < k → (ph s ≤ w 50 s ∧ w 50 s ≤ 1000000) ∧ ((w 51 s = -1 ∧ w 50 s = 1000000) ∨
  ((0 ≤ w 51 s ∧ w 51 s < n) ∧ Cl v s (w 51 s) ≠ 100000000 ∧ w 51 s ≠ v 48 s ∧ Cl v s (w 51 s) + hp v (w 50) (w 51 s) ≤ w 50 s ∧ (v 53 (w 51 s) ≠ -1 → w 50 (v 53 (w 51 s)) - ph (v 53 (w 51 s)) = w 50 s - ph s → tau (v 53 (w 51 s)) < tau s))))
def REL (v w : VV) (s u : Int) : Prop := Cl v s u ≠ 100000000 → u ≠ v 48 s → w 50 s ≤ Cl v s u + hp v (w 50) u
theorem py_fr {v w : VV} {ks : List Nat} (hf : fr ks v w) (h1 : 48 ∉ ks) (h2 : 52 ∉ ks) (t : Int) : py w t = py v t := by
  unfold py
  rw [hf 48 h1, hf 52 h2]
theorem py_bd {m n : Nat} {v : VV} (hM : ML m n v) (hW : WH m n v) {t : Int} (t0 : 0 ≤ t) (t1 : t < m) : 0 ≤ py v t ∧ py v t ≤ 1000000 := by
  unfold py
  rcases hW.1 t t0 t1 with h | h
  · rw [if_pos h]; omega
  · rw [if_neg (by omega)]
    rcases hM.2.2.2 t (v 48 t) t0 t1 h.1.1 h.1.2 with g | g
    · exact absurd g h.2.2
    · unfold Cl at g; omega
theorem SI_le {m n : Nat} {k : Int} {v w : VV} {ph : Int → Int} {tau : Int → Nat} (h : SI m n k v ph tau w) (hP : PHI m n k v ph) (hk : k ≤ m) {s : Int} (s0 : 0 ≤ s) (s1 : s < m) : ph s ≤ w 50 s ∧ (0 ≤ w 50 s ∧ w 50 s ≤ 1000000) := by
  by_cases g : s < k
  · have q := ((h.2 s s0 s1).2 g).1
    have q2 := hP.1 s s0 g
    omega
  · have q := ((h.2 s s0 s1).1 (by omega)).1
    have q2 := hP.2.1 s (by omega) s1
    omega
theorem SI_upd {m n : Nat} {k : Int} {v w : VV} {ph : Int → Int} {tau : Int → Nat} (h : SI m n k v ph tau w) (hP : PHI m n k v ph) (hW : WH m n v) (hk : k ≤ m) {s u : Int} (s0 : 0 ≤ s) (s1 : s < k) (u0 : 0 ≤ u) (u1 : u < n) (hc : Cl v s u ≠ 100000000) (hu : u ≠ v 48 s) (c : Int) (hcd : Cl v s u + hp v (w 50) u = c) (hlt : c < w 50 s) (T : Nat) (hT : ∀ x, tau x < T) :
    SI m n k v ph (fun x => if x = s then T else tau x) (up (up w 50 s c) 51 s u) ∧ (∀ x, (if x = s then T else tau x) < T + 1) ∧ sg (fun x => up (up w 50 s c) 51 s u 50 x - ph x) m < sg (fun x => w 50 x - ph x) m := by
  have hts : ∀ y : Int, 0 ≤ y → y < n → v 53 y = s → v 48 s = y := fun y y0 y1 e => by
    rcases hW.2 y y0 y1 with g | g
    · omega
    · rw [e] at g; exact g.2
  have hne : v 53 u ≠ s := fun e => hu (hts u u0 u1 e).symm
  have e50 : ∀ x, up (up w 50 s c) 51 s u 50 x = if x = s then c else w 50 x := fun x => by
    rw [up_c (show 50 ≠ 51 by decide)]
    by_cases y : x = s
    · rw [y, up_self, if_pos rfl]
    · rw [up_nj y, if_neg y]
  have e51 : ∀ x, up (up w 50 s c) 51 s u 51 x = if x = s then u else w 51 x := fun x => by
    by_cases y : x = s
    · rw [y, up_self, if_pos rfl]
    · rw [up_nj y, if_neg y, up_c (show 51 ≠ 50 by decide)]
  -- hp of the new comes
  have ehp : ∀ y : Int, v 53 y ≠ s → hp v (up (up w 50 s c) 51 s u 50) y = hp v (w 50) y := fun y hy => by
    unfold hp
    rw [e50, if_neg hy]
  have hph : ph s ≤ c := by
    have q := hP.2.2 s u s0 s1 u0 u1 hc
    have : hp v ph u ≤ hp v (w 50) u := by
      unfold hp
      by_cases g : v 53 u = -1
      · rw [if_pos g, if_pos g]; exact Int.le_refl _
      · rw [if_neg g, if_neg g]
        rcases hW.2 u u0 u1 with g2 | g2
        · exact absurd g2 g
        · have := (SI_le h hP hk g2.1.1 g2.1.2).1
          omega
    omega
  refine ⟨⟨fr_up (fr_up h.1 (by decide) _ _) (by decide) _ _, fun x x0 x1 => ?_⟩, fun x => ?_, ?_⟩
  · obtain ⟨a1, a2⟩ := h.2 x x0 x1
    rw [e50, e51]
    by_cases y : x = s
    · subst y
      rw [if_pos rfl, if_pos rfl]
      refine ⟨fun g => by omega, fun _ => ⟨⟨hph, ?_⟩, Or.inr ⟨⟨u0, u1⟩, hc, hu, ?_, fun g1 g2 => ?_⟩⟩⟩
      · have := (a2 s1).1.2; omega
      · rw [ehp u hne, hcd]; exact Int.le_refl _
      · show (if v 53 u = x then T else tau (v 53 u)) < (if x = x then T else tau x)
        rw [if_neg hne, if_pos rfl]; exact hT _
    · rw [if_neg y, if_neg y]
      refine ⟨a1, fun g => ?_⟩
      obtain ⟨b1, b2⟩ := a2 g
      refine ⟨b1, ?_⟩
      rcases b2 with b2 | ⟨c1, c2, c3, c4, c5⟩
      · exact Or.inl b2
      · by_cases z : v 53 (w 51 x) = s
        · -- a pointer to s
          have hd : w 50 s - ph s ≤ w 50 x - ph x := by
            have q := hP.2.2 x (w 51 x) x0 g c1.1 c1.2 c2
            unfold hp at q c4
            rw [if_neg (by omega)] at q c4
            rw [z] at q c4
            omega
          refine Or.inr ⟨c1, c2, c3, ?_, fun g1 g2 => ?_⟩
          · have q : hp v (up (up w 50 s c) 51 s u 50) (w 51 x) ≤ hp v (w 50) (w 51 x) := by
              unfold hp
              rw [if_neg (by omega), if_neg (by omega), z, e50, if_pos rfl]
              omega
            omega
          · exfalso
            rw [z, e50, if_pos rfl] at g2
            omega
        · refine Or.inr ⟨c1, c2, c3, by rw [ehp _ z]; exact c4, fun g1 g2 => ?_⟩
          show (if v 53 (w 51 x) = s then T else tau (v 53 (w 51 x))) < (if x = s then T else tau x)
          rw [if_neg z, if_neg y]
          rw [e50, if_neg z] at g2
          exact c5 g1 g2
  · split
    · omega
    · have := hT x; omega
  · have e := sg_upd (fun x => w 50 x - ph x) s (c - ph s) m s0 (by omega)
    have e2 : sg (fun x => up (up w 50 s c) 51 s u 50 x - ph x) m = sg (fun x => if x = s then c - ph s else w 50 x - ph x) m := sg_congr m (fun x x0 x1 => by
      show up (up w 50 s c) 51 s u 50 x - ph x = if x = s then c - ph s else w 50 x - ph x
      rw [e50]
      by_cases y : x = s
      · rw [if_pos y, if_pos y, y]
      · rw [if_neg y, if_neg y])
    rw [e2, e]
    omega
def PRG (n : Nat) (k : Int) (v : VV) (M0 : Int) (ph : Int → Int) (m : Nat) (s u : Int) (mo : Int) (w : VV) : Prop := (mo = 1 ∧ sg (fun x => w 50 x - ph x) m < M0) ∨ (mo = 0 ∧ sg (fun x => w 50 x - ph x) m = M0 ∧ ∀ s2 u2 : Int, 0 ≤ s2 → s2 < k → 0 ≤ u2 → u2 < n → (s2 < s ∨ (s2 = s ∧ u2 < u)) → REL v w s2 u2)
theorem PRG_rel {n : Nat} {k : Int} {v : VV} {M0 : Int} {ph : Int → Int} {m : Nat} {s u mo : Int} {w : VV} (h : PRG n k v M0 ph m s u mo w) (hr : REL v w s u) : PRG n k v M0 ph m s (u + 1) mo w := by
  rcases h with h | ⟨h1, h2, h3⟩
  · exact Or.inl h
  · refine Or.inr ⟨h1, h2, fun s2 u2 a1 a2 a3 a4 a5 => ?_⟩
    by_cases y : s2 = s ∧ u2 = u
    · rw [y.1, y.2]; exact hr
    · exact h3 s2 u2 a1 a2 a3 a4 (by omega)
theorem PRG_row {n : Nat} {k : Int} {v : VV} {M0 : Int} {ph : Int → Int} {m : Nat} {s u mo : Int} {w : VV} (h : PRG n k v M0 ph m s u mo w) (hu : (n : Int) ≤ u ∨ k ≤ s) : PRG n k v M0 ph m (s + 1) 0 mo w := by
  rcases h with h | ⟨h1, h2, h3⟩
  · exact Or.inl h
  · exact Or.inr ⟨h1, h2, fun s2 u2 a1 a2 a3 a4 a5 => h3 s2 u2 a1 a2 a3 a4 (by omega)⟩
theorem PRG_upd {n : Nat} {k : Int} {v : VV} {M0 : Int} {ph : Int → Int} {m : Nat} {s u mo : Int} {w w2 : VV} (h : PRG n k v M0 ph m s u mo w) (hl : sg (fun x => w2 50 x - ph x) m < sg (fun x => w 50 x - ph x) m) : PRG n k v M0 ph m s (u + 1) 1 w2 := by
  refine Or.inl ⟨rfl, ?_⟩
  rcases h with h | ⟨h1, h2, h3⟩ <;> omega
set_option maxRecDepth 20000 in
set_option maxHeartbeats 1000000 in
theorem c_X6_seek (l : Launch) (d nu : Nat) (v : VV) (m n : Nat) (k : Int) (hk : k ≤ m) (ph : Int → Int) (hM : ML m n v) (hW : WH m n v) (hF : FX1 m k v) (hP : PHI m n k v ph) : Ct l yX6_seek cX6_seek none 7 (d + 1) 0 0 [ar (some 27), ai (m : Int)] (SG nu) v (fun r S2 w => r = none ∧ S2 = SG nu ∧ ∃ (tau : Int → Nat) (T : Nat), (∀ x, tau x < T) ∧ SI m n k v ph tau w ∧ ∀ s u : Int, 0 ≤ s → s < k → 0 ≤ u → u < n → REL v w s u) := by
  refine Ct_of_G [some (ar (some 27)), some (ai (m : Int)), none, none, none, none, none] (by decide) rfl rfl ?_
  have ul : ∀ (M0 s : Int), (0 ≤ s ∧ s < m) → ∀ (N : Nat) (u mo : Int) (w : VV) (tau : Int → Nat) (T : Nat) (Z5 Z6 : Option AV), 0 ≤ u → u + N = n → SI m n k v ph tau w → (∀ x, tau x < T) → (mo = 0 ∨ mo = 1) → PRG n k v M0 ph m s u mo w → (∀ (u2 mo2 : Int) (w2 : VV) (tau2 : Int → Nat) (T2 : Nat) (Y5 Y6 : Option AV), SI m n k v ph tau2 w2 → (∀ x, tau2 x < T2) → (mo2 = 0 ∨ mo2 = 1) → PRG n k v M0 ph m (s + 1) 0 mo2 w2 → G l (yX6_seek, cX6_seek, none, 7, (d + 1), 0, 0, none) (fun r S2 w => r = none ∧ S2 = SG nu ∧ ∃ (tau : Int → Nat) (T : Nat), (∀ x, tau x < T) ∧ SI m n k v ph tau w ∧ ∀ s u : Int, 0 ≤ s → s < k → 0 ≤ u → u < n → REL v w s u) 0 0 (SG nu) 181 [some (ar (some 27)), some (ai (m : Int)), some (ai mo2), some (ai s), some (ai u2), Y5, Y6] [] w2) → G l (yX6_seek, cX6_seek, none, 7, (d + 1), 0, 0, none) (fun r S2 w => r = none ∧ S2 = SG nu ∧ ∃ (tau : Int → Nat) (T : Nat), (∀ x, tau x < T) ∧ SI m n k v ph tau w ∧ ∀ s u : Int, 0 ≤ s → s < k → 0 ≤ u → u < n → REL v w s u) 0 0 (SG nu) 46 [some (ar (some 27)), some (ai (m : Int)), some (ai mo), some (ai s), some (ai u), Z5, Z6] [] w := by
    intro M0 s hs N
    induction N using Nat.strongRecOn with
    | ind N ih =>
    intro u mo w tau T Z5 Z6 h0 h1 hI hT hmo hG K
    have hm16 := hM.2.2.1
    have hn20 := hM.2.1
    have hf := hI.1
    have e33 : w 27 33 = n := by rw [hf 27 (by decide)]; exact hM.1
    refine G_iload dX6_seek_46 rfl ?_
    refine G_aload_n dX6_seek_48 rfl ?_
    refine G_getIv ((n : Int)) (jj := 33) dX6_seek_49 flX6_181 rfl rfl rfl e33 ?_
    refine G_icmp_ge 181 dX6_seek_52 (by decide) (fun h52 => ?_) (fun h52 => ?_)
    · exact K u mo w tau T _ _ hI hT hmo (PRG_row hG (by omega))
    · refine G_aload_n dX6_seek_55 rfl ?_
      refine G_getR (jj := 41) dX6_seek_56 flX6_89 rfl rfl rfl ?_
      refine G_iload_n dX6_seek_59 rfl ?_
      refine G_zaldv ((if s < k then 0 else 1)) dX6_seek_60 rfl (by omega) (by omega) (by rw [hf 54 (by decide)]; exact (hF s hs.1 hs.2).1) ?_
      refine G_if_ne 181 dX6_seek_61 (by decide) (fun h61 => ?_) (fun h61 => ?_)
      · have hsk : ¬ s < k := fun q => h61 (if_pos q)
        exact K u mo w tau T _ _ hI hT hmo (PRG_row hG (by omega))
      · have hsk : s < k := by
          apply Classical.byContradiction
          intro q
          rw [if_neg q] at h61
          omega
        have hcl := hM.2.2.2 s u hs.1 hs.2 h0 (by omega)
        have hws := SI_le hI hP hk hs.1 hs.2
        refine G_aload_n dX6_seek_64 rfl ?_
        refine G_getR (jj := 39) dX6_seek_65 flX6_83 rfl rfl rfl ?_
        refine G_bipush (n := 20) dX6_seek_68 (by decide) ⟨by decide, by decide⟩ ?_
        refine G_iload_n dX6_seek_70 rfl ?_
        refine G_imul dX6_seek_71 (iRm (by omega) (by omega)) ?_
        refine G_iload dX6_seek_72 rfl ?_
        refine G_iadd dX6_seek_74 (iRm (by omega) (by omega)) ?_
        refine G_ialdv (Cl v s u) dX6_seek_75 rfl (by omega) (by omega) (by unfold Cl; rw [hf 52 (by decide)]) ?_
        refine G_ldc (n := 100000000) dX6_seek_76 (show Cond.constant RX6 218 (Int32.ofInt 100000000) ∈ lw_good by decide +kernel) ⟨by decide, by decide⟩ ?_
        refine G_icmp_eq 175 dX6_seek_78 (by decide) (fun h78 => ?_) (fun h78 => ?_)
        · refine G_iinc dX6_seek_175 rfl (iRm (by omega) (by omega)) rfl rfl ?_
          refine G_goto 46 dX6_seek_178 (by decide) ?_
          exact ih (N - 1) (by omega) (u + 1) mo w tau T _ _ (by omega) (by omega) hI hT hmo (PRG_rel hG (fun q => absurd h78 q)) K
        · refine G_aload_n dX6_seek_81 rfl ?_
          refine G_getR (jj := 31) dX6_seek_82 flX6_71 rfl rfl rfl ?_
          refine G_iload_n dX6_seek_85 rfl ?_
          refine G_ialdv (v 48 s) dX6_seek_86 rfl (by omega) (by omega) (by rw [hf 48 (by decide)]) ?_
          refine G_iload dX6_seek_87 rfl ?_
          refine G_icmp_ne 95 dX6_seek_89 (by decide) (fun h89 => ?_) (fun h89 => ?_)
          · refine G_aload_n dX6_seek_95 rfl ?_
            refine G_getR (jj := 40) dX6_seek_96 flX6_86 rfl rfl rfl ?_
            refine G_iload dX6_seek_99 rfl ?_
            refine G_ialdv (v 53 u) dX6_seek_101 rfl (by omega) (by omega) (by rw [hf 53 (by decide)]) ?_
            refine G_istore dX6_seek_102 rfl rfl ?_
            refine G_aload_n dX6_seek_104 rfl ?_
            refine G_getR (jj := 39) dX6_seek_105 flX6_83 rfl rfl rfl ?_
            refine G_bipush (n := 20) dX6_seek_108 (by decide) ⟨by decide, by decide⟩ ?_
            refine G_iload_n dX6_seek_110 rfl ?_
            refine G_imul dX6_seek_111 (iRm (by omega) (by omega)) ?_
            refine G_iload dX6_seek_112 rfl ?_
            refine G_iadd dX6_seek_114 (iRm (by omega) (by omega)) ?_
            refine G_ialdv (Cl v s u) dX6_seek_115 rfl (by omega) (by omega) (by unfold Cl; rw [hf 52 (by decide)]) ?_
            refine G_iload dX6_seek_116 rfl ?_
            refine G_iconst (n := (-1)) dX6_seek_118 ⟨by decide, by decide⟩ ?_
            refine G_icmp_ne 126 dX6_seek_119 (by decide) (fun h119 => ?_) (fun h119 => ?_)
            · have ht : (0 ≤ v 53 u ∧ v 53 u < m) := by rcases hW.2 u h0 (by omega) with q | q; exact absurd q h119; exact q.1
              have hpy := py_bd hM hW ht.1 ht.2
              have hwt := SI_le hI hP hk ht.1 ht.2
              refine G_aload_n dX6_seek_126 rfl ?_
              refine G_getR (jj := 37) dX6_seek_127 flX6_77 rfl rfl rfl ?_
              refine G_iload dX6_seek_130 rfl ?_
              refine G_iald dX6_seek_132 rfl (by omega) (by omega) ?_
              refine G_aload_n dX6_seek_133 rfl ?_
              refine G_iload dX6_seek_134 rfl ?_
              refine G_cVi (ci := 6) dX6_seek_136 rfl (by decide) rfl (c_X6_pays l (d + 0) nu w (v 53 u) ⟨ht.1, by have := hM.2.2.1; omega⟩ (by rw [hf 48 (by decide)]; have := hM.2.1; rcases hW.1 (v 53 u) ht.1 ht.2 with q | q <;> omega)) mcX6_219 rfl rfl (by show _ ≤ d + 1; omega) rfl rfl (Nat.le_refl _) (Nat.le_refl _) ?_
              rw [show (if w 48 (v 53 u) = -1 then (1000000 : Int) else w 52 (20 * v 53 u + w 48 (v 53 u))) = py v (v 53 u) from py_fr hf (by decide) (by decide) _]
              refine G_isub dX6_seek_139 (iRm (by omega) (by omega)) ?_
              refine G_iadd dX6_seek_140 (iRm (by omega) (by omega)) ?_
              refine G_istore dX6_seek_141 rfl rfl ?_
              refine G_iload dX6_seek_143 rfl ?_
              refine G_aload_n dX6_seek_145 rfl ?_
              refine G_getR (jj := 37) dX6_seek_146 flX6_77 rfl rfl rfl ?_
              refine G_iload_n dX6_seek_149 rfl ?_
              refine G_iald dX6_seek_150 rfl (by omega) (by omega) ?_
              refine G_icmp_lt 157 dX6_seek_151 (by decide) (fun h151 => ?_) (fun h151 => ?_)
              · refine G_aload_n dX6_seek_157 rfl ?_
                refine G_getR (jj := 37) dX6_seek_158 flX6_77 rfl rfl rfl ?_
                refine G_iload_n dX6_seek_161 rfl ?_
                refine G_iload dX6_seek_162 rfl ?_
                refine G_iast dX6_seek_164 rfl (by omega) (by omega) ?_
                refine G_aload_n dX6_seek_165 rfl ?_
                refine G_getR (jj := 38) dX6_seek_166 flX6_80 rfl rfl rfl ?_
                refine G_iload_n dX6_seek_169 rfl ?_
                refine G_iload dX6_seek_170 rfl ?_
                refine G_iast dX6_seek_172 rfl (by omega) (by omega) ?_
                refine G_iconst (n := 1) dX6_seek_173 ⟨by decide, by decide⟩ ?_
                refine G_istore_n dX6_seek_174 rfl rfl ?_
                refine G_iinc dX6_seek_175 rfl (iRm (by omega) (by omega)) rfl rfl ?_
                refine G_goto 46 dX6_seek_178 (by decide) ?_
                have ehp : hp v (w 50) u = w 50 (v 53 u) - py v (v 53 u) := if_neg h119
                obtain ⟨q1, q2, q3⟩ := SI_upd hI hP hW hk hs.1 hsk h0 (by omega) h78 (fun e => h89 e.symm) _ (by rw [ehp]) h151 T hT
                exact ih (N - 1) (by omega) (u + 1) 1 _ _ (T + 1) _ _ (by omega) (by omega) q1 q2 (Or.inr rfl) (PRG_upd hG q3) K
              · refine G_goto 175 dX6_seek_154 (by decide) ?_
                refine G_iinc dX6_seek_175 rfl (iRm (by omega) (by omega)) rfl rfl ?_
                refine G_goto 46 dX6_seek_178 (by decide) ?_
                have ehp : hp v (w 50) u = w 50 (v 53 u) - py v (v 53 u) := if_neg h119
                exact ih (N - 1) (by omega) (u + 1) mo w tau T _ _ (by omega) (by omega) hI hT hmo (PRG_rel hG (fun _ _ => by rw [ehp]; omega)) K
            · refine G_iconst (n := 0) dX6_seek_122 ⟨by decide, by decide⟩ ?_
              refine G_goto 140 dX6_seek_123 (by decide) ?_
              refine G_iadd dX6_seek_140 (iRm (by omega) (by omega)) ?_
              refine G_istore dX6_seek_141 rfl rfl ?_
              refine G_iload dX6_seek_143 rfl ?_
              refine G_aload_n dX6_seek_145 rfl ?_
              refine G_getR (jj := 37) dX6_seek_146 flX6_77 rfl rfl rfl ?_
              refine G_iload_n dX6_seek_149 rfl ?_
              refine G_iald dX6_seek_150 rfl (by omega) (by omega) ?_
              refine G_icmp_lt 157 dX6_seek_151 (by decide) (fun h151 => ?_) (fun h151 => ?_)
              · refine G_aload_n dX6_seek_157 rfl ?_
                refine G_getR (jj := 37) dX6_seek_158 flX6_77 rfl rfl rfl ?_
                refine G_iload_n dX6_seek_161 rfl ?_
                refine G_iload dX6_seek_162 rfl ?_
                refine G_iast dX6_seek_164 rfl (by omega) (by omega) ?_
                refine G_aload_n dX6_seek_165 rfl ?_
                refine G_getR (jj := 38) dX6_seek_166 flX6_80 rfl rfl rfl ?_
                refine G_iload_n dX6_seek_169 rfl ?_
                refine G_iload dX6_seek_170 rfl ?_
                refine G_iast dX6_seek_172 rfl (by omega) (by omega) ?_
                refine G_iconst (n := 1) dX6_seek_173 ⟨by decide, by decide⟩ ?_
                refine G_istore_n dX6_seek_174 rfl rfl ?_
                refine G_iinc dX6_seek_175 rfl (iRm (by omega) (by omega)) rfl rfl ?_
                refine G_goto 46 dX6_seek_178 (by decide) ?_
                have ehp : hp v (w 50) u = 0 := if_pos h119
                obtain ⟨q1, q2, q3⟩ := SI_upd hI hP hW hk hs.1 hsk h0 (by omega) h78 (fun e => h89 e.symm) _ (by rw [ehp]) h151 T hT
                exact ih (N - 1) (by omega) (u + 1) 1 _ _ (T + 1) _ _ (by omega) (by omega) q1 q2 (Or.inr rfl) (PRG_upd hG q3) K
              · refine G_goto 175 dX6_seek_154 (by decide) ?_
                refine G_iinc dX6_seek_175 rfl (iRm (by omega) (by omega)) rfl rfl ?_
                refine G_goto 46 dX6_seek_178 (by decide) ?_
                have ehp : hp v (w 50) u = 0 := if_pos h119
                exact ih (N - 1) (by omega) (u + 1) mo w tau T _ _ (by omega) (by omega) hI hT hmo (PRG_rel hG (fun _ _ => by rw [ehp]; omega)) K
          · refine G_goto 175 dX6_seek_92 (by decide) ?_
            refine G_iinc dX6_seek_175 rfl (iRm (by omega) (by omega)) rfl rfl ?_
            refine G_goto 46 dX6_seek_178 (by decide) ?_
            exact ih (N - 1) (by omega) (u + 1) mo w tau T _ _ (by omega) (by omega) hI hT hmo (PRG_rel hG (fun _ q => absurd h89.symm q)) K
  have sl : ∀ (M0 : Int) (N : Nat) (s mo : Int) (w : VV) (tau : Int → Nat) (T : Nat) (Z4 Z5 Z6 : Option AV), 0 ≤ s → s + N = m → SI m n k v ph tau w → (∀ x, tau x < T) → (mo = 0 ∨ mo = 1) → PRG n k v M0 ph m s 0 mo w → (∀ (mo2 : Int) (w2 : VV) (tau2 : Int → Nat) (T2 : Nat) (Y3 Y4 Y5 Y6 : Option AV), SI m n k v ph tau2 w2 → (∀ x, tau2 x < T2) → (mo2 = 0 ∨ mo2 = 1) → PRG n k v M0 ph m m 0 mo2 w2 → G l (yX6_seek, cX6_seek, none, 7, (d + 1), 0, 0, none) (fun r S2 w => r = none ∧ S2 = SG nu ∧ ∃ (tau : Int → Nat) (T : Nat), (∀ x, tau x < T) ∧ SI m n k v ph tau w ∧ ∀ s u : Int, 0 ≤ s → s < k → 0 ≤ u → u < n → REL v w s u) 0 0 (SG nu) 187 [some (ar (some 27)), some (ai (m : Int)), some (ai mo2), Y3, Y4, Y5, Y6] [] w2) → G l (yX6_seek, cX6_seek, none, 7, (d + 1), 0, 0, none) (fun r S2 w => r = none ∧ S2 = SG nu ∧ ∃ (tau : Int → Nat) (T : Nat), (∀ x, tau x < T) ∧ SI m n k v ph tau w ∧ ∀ s u : Int, 0 ≤ s → s < k → 0 ≤ u → u < n → REL v w s u) 0 0 (SG nu) 38 [some (ar (some 27)), some (ai (m : Int)), some (ai mo), some (ai s), Z4, Z5, Z6] [] w := by
    intro M0 N
    induction N using Nat.strongRecOn with
    | ind N ih =>
    intro s mo w tau T Z4 Z5 Z6 h0 h1 hI hT hmo hG K
    have hm16 := hM.2.2.1
    refine G_iload_n dX6_seek_38 rfl ?_
    refine G_iload_n dX6_seek_39 rfl ?_
    refine G_icmp_ge 187 dX6_seek_40 (by decide) (fun h40 => ?_) (fun h40 => ?_)
    · obtain rfl : s = m := by omega
      exact K mo w tau T _ _ _ _ hI hT hmo hG
    · refine G_iconst (n := 0) dX6_seek_43 ⟨by decide, by decide⟩ ?_
      refine G_istore dX6_seek_44 rfl rfl ?_
      refine ul M0 s ⟨h0, by omega⟩ n 0 mo w tau T _ _ (by omega) (by omega) hI hT hmo hG (fun u2 mo2 w2 tau2 T2 Y5 Y6 k1 k2 k3 k4 => ?_)
      refine G_iinc dX6_seek_181 rfl (iRm (by omega) (by omega)) rfl rfl ?_
      refine G_goto 38 dX6_seek_184 (by decide) ?_
      exact ih (N - 1) (by omega) (s + 1) mo2 w2 tau2 T2 _ _ _ (by omega) (by omega) k1 k2 k3 k4 K
  have fin : ∀ (mo : Int) (w : VV) (tau : Int → Nat) (T : Nat) (Z3 Z4 Z5 Z6 : Option AV), SI m n k v ph tau w → (∀ x, tau x < T) → mo = 0 → (∀ s u : Int, 0 ≤ s → s < k → 0 ≤ u → u < n → REL v w s u) → G l (yX6_seek, cX6_seek, none, 7, (d + 1), 0, 0, none) (fun r S2 w => r = none ∧ S2 = SG nu ∧ ∃ (tau : Int → Nat) (T : Nat), (∀ x, tau x < T) ∧ SI m n k v ph tau w ∧ ∀ s u : Int, 0 ≤ s → s < k → 0 ≤ u → u < n → REL v w s u) 0 0 (SG nu) 30 [some (ar (some 27)), some (ai (m : Int)), some (ai mo), Z3, Z4, Z5, Z6] [] w := by
    intro mo w tau T Z3 Z4 Z5 Z6 hI hT hmo hR
    refine G_iload_n dX6_seek_30 rfl ?_
    refine G_if_eq 190 dX6_seek_31 (by decide) (fun h31 => ?_) (fun h31 => by omega)
    exact G_vret dX6_seek_190 rfl rfl rfl ⟨rfl, rfl, tau, T, hT, hI, hR⟩
  have whl : ∀ (N : Nat) (mo : Int) (w : VV) (tau : Int → Nat) (T : Nat) (Z3 Z4 Z5 Z6 : Option AV), SI m n k v ph tau w → (∀ x, tau x < T) → (mo = 1 ∨ (mo = 0 ∧ ∀ s u : Int, 0 ≤ s → s < k → 0 ≤ u → u < n → REL v w s u)) → sg (fun x => w 50 x - ph x) m < N → G l (yX6_seek, cX6_seek, none, 7, (d + 1), 0, 0, none) (fun r S2 w => r = none ∧ S2 = SG nu ∧ ∃ (tau : Int → Nat) (T : Nat), (∀ x, tau x < T) ∧ SI m n k v ph tau w ∧ ∀ s u : Int, 0 ≤ s → s < k → 0 ≤ u → u < n → REL v w s u) 0 0 (SG nu) 30 [some (ar (some 27)), some (ai (m : Int)), some (ai mo), Z3, Z4, Z5, Z6] [] w := by
    intro N
    induction N using Nat.strongRecOn with
    | ind N ih =>
    intro mo w tau T Z3 Z4 Z5 Z6 hI hT hmo hN
    refine G_iload_n dX6_seek_30 rfl ?_
    refine G_if_eq 190 dX6_seek_31 (by decide) (fun h31 => ?_) (fun h31 => ?_)
    · exact G_vret dX6_seek_190 rfl rfl rfl ⟨rfl, rfl, tau, T, hT, hI, by rcases hmo with q | q; omega; exact q.2⟩
    · refine G_iconst (n := 0) dX6_seek_34 ⟨by decide, by decide⟩ ?_
      refine G_istore_n dX6_seek_35 rfl rfl ?_
      refine G_iconst (n := 0) dX6_seek_36 ⟨by decide, by decide⟩ ?_
      refine G_istore_n dX6_seek_37 rfl rfl ?_
      refine sl (sg (fun x => w 50 x - ph x) m) m 0 0 w tau T _ _ _ (by omega) (by omega) hI hT (Or.inl rfl) (Or.inr ⟨rfl, rfl, fun s2 u2 a1 a2 a3 a4 a5 => by omega⟩) (fun mo2 w2 tau2 T2 Y3 Y4 Y5 Y6 k1 k2 k3 k4 => ?_)
      refine G_goto 30 dX6_seek_187 (by decide) ?_
      rcases k4 with k4 | ⟨k4, k5, k6⟩
      · have nn : 0 ≤ sg (fun x => w2 50 x - ph x) m := sg_nn m (fun x x0 x1 => by show 0 ≤ w2 50 x - ph x; have := (SI_le k1 hP hk x0 x1).1; omega)
        exact ih (sg (fun x => w 50 x - ph x) m).toNat (by omega) mo2 w2 tau2 T2 _ _ _ _ k1 k2 (Or.inl k4.1) (by omega)
      · exact fin mo2 w2 tau2 T2 _ _ _ _ k1 k2 k4 (fun s u a1 a2 a3 a4 => k6 s u a1 a2 a3 a4 (by omega))
  have ini : ∀ (N : Nat) (s : Int) (w : VV), 0 ≤ s → s + N = m → fr [50, 51] v w → (∀ x : Int, 0 ≤ x → x < s → w 50 x = 1000000 ∧ w 51 x = -1) → G l (yX6_seek, cX6_seek, none, 7, (d + 1), 0, 0, none) (fun r S2 w => r = none ∧ S2 = SG nu ∧ ∃ (tau : Int → Nat) (T : Nat), (∀ x, tau x < T) ∧ SI m n k v ph tau w ∧ ∀ s u : Int, 0 ≤ s → s < k → 0 ≤ u → u < n → REL v w s u) 0 0 (SG nu) 2 [some (ar (some 27)), some (ai (m : Int)), some (ai s), none, none, none, none] [] w := by
    intro N
    induction N using Nat.strongRecOn with
    | ind N ih =>
    intro s w h0 h1 hf hp9
    have hm16 := hM.2.2.1
    refine G_iload_n dX6_seek_2 rfl ?_
    refine G_iload_n dX6_seek_3 rfl ?_
    refine G_icmp_ge 28 dX6_seek_4 (by decide) (fun h4 => ?_) (fun h4 => ?_)
    · refine G_iconst (n := 1) dX6_seek_28 ⟨by decide, by decide⟩ ?_
      refine G_istore_n dX6_seek_29 rfl rfl ?_
      have hI : SI m n k v ph (fun _ => 0) w := ⟨hf, fun x x0 x1 => ⟨fun _ => hp9 x x0 (by omega), fun g => ⟨by have := (hp9 x x0 (by omega)).1; have := (hP.1 x x0 g).2; omega, Or.inl ⟨(hp9 x x0 (by omega)).2, (hp9 x x0 (by omega)).1⟩⟩⟩⟩
      exact whl ((sg (fun x => w 50 x - ph x) m).toNat + 1) 1 w (fun _ => 0) 1 _ _ _ _ hI (fun _ => by omega) (Or.inl rfl) (by omega)
    · refine G_aload_n dX6_seek_7 rfl ?_
      refine G_getR (jj := 37) dX6_seek_8 flX6_77 rfl rfl rfl ?_
      refine G_iload_n dX6_seek_11 rfl ?_
      refine G_ldc (n := 1000000) dX6_seek_12 (show Cond.constant RX6 217 (Int32.ofInt 1000000) ∈ lw_good by decide +kernel) ⟨by decide, by decide⟩ ?_
      refine G_iast dX6_seek_14 rfl (by omega) (by omega) ?_
      refine G_aload_n dX6_seek_15 rfl ?_
      refine G_getR (jj := 38) dX6_seek_16 flX6_80 rfl rfl rfl ?_
      refine G_iload_n dX6_seek_19 rfl ?_
      refine G_iconst (n := (-1)) dX6_seek_20 ⟨by decide, by decide⟩ ?_
      refine G_iast dX6_seek_21 rfl (by omega) (by omega) ?_
      refine G_iinc dX6_seek_22 rfl (iRm (by omega) (by omega)) rfl rfl ?_
      refine G_goto 2 dX6_seek_25 (by decide) ?_
      exact ih (N - 1) (by omega) (s + 1) _ (by omega) (by omega) (fr_up (fr_up hf (by decide) _ _) (by decide) _ _) (fun c c0 c1 => by by_cases y : c = s; (subst y; simp [up_get]); (have := hp9 c c0 (by omega); simp [up_get, y]; exact this))
  refine G_iconst (n := 0) dX6_seek_0 ⟨by decide, by decide⟩ ?_
  refine G_istore_n dX6_seek_1 rfl rfl ?_
  exact ini m 0 v (by omega) (by omega) fr_rf (fun x x0 x1 => by omega)
