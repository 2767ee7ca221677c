def DR (f : Int → Int) : Prop := ∀ j, 0 ≤ j → j < 9 → xLe.getD j.toNat 0 ≤ f j ∧ f j ≤ xMo.getD j.toNat 0
def CS (t : Int → Int) (n : Int) (lo hi f0 : Int → Int) (a bh : Int) (w : VV) : Prop := w 3 5 = 0 ∧ (0 ≤ bh ∧ bh ≤ n) ∧ (∀ j, bh ≤ j → j < a → isB (t j)) ∧ (0 ≤ w 3 4 ∧ w 3 4 < 512) ∧ DR (w 5) ∧ ∃ mc,
  ((w 3 2 = 0 ∧ pcI (w 3 4) = mc ∧ ∀ E P mm f2, RW t n lo hi bh (w 3 4) (w 5) mc E P mm f2 → RW t n lo hi 0 0 f0 0 E P mm f2) ∨
   (w 3 2 = 1 ∧ (0 ≤ w 3 3 ∧ w 3 3 < 9) ∧ pcI (w 3 4) = mc + 1 ∧ ∀ E P mm f2, RN t n lo hi bh (w 3 3) (w 3 4) (w 5) mc E P mm f2 → RW t n lo hi 0 0 f0 0 E P mm f2) ∨
   (w 3 2 = 2 ∧ pcI (w 3 4) = mc + 1 ∧ ∀ E P mm f2, RS t n lo hi bh (w 3 4) (w 5) mc E P mm f2 → RW t n lo hi 0 0 f0 0 E P mm f2))
def CF (t : Int → Int) (n : Int) (lo hi f0 : Int → Int) (w : VV) : Prop := (w 3 5 = 1 ∨ w 3 5 = 2 ∨ w 3 5 = 3) ∧ (0 ≤ w 3 6 ∧ w 3 6 ≤ 180) ∧ ∀ mm f2, RW t n lo hi 0 0 f0 0 (w 3 5) (w 3 6) mm f2
theorem CF_fail {t : Int → Int} {n : Int} {lo hi f0 : Int → Int} {w : VV} {c a : Int} (hc : c = 1 ∨ c = 2 ∨ c = 3) (ha : 0 ≤ a ∧ a ≤ 180) (h : ∀ mm f2, RW t n lo hi 0 0 f0 0 c a mm f2) : CF t n lo hi f0 (failV w c a) := by
  have e5 : failV w c a 3 5 = c := by unfold failV; rw [up_nj (by decide), up_self]
  have e6 : failV w c a 3 6 = a := by unfold failV; rw [up_self]
  unfold CF
  rw [e5, e6]
  exact ⟨hc, ha, h⟩
theorem hr10_nn {t : Int → Int} {a : Int} (L : Nat) (h : ∀ j, a ≤ j → j < a + L → isD (t j)) : 0 ≤ hr10 t a L := by
  induction L with
  | zero => exact Int.le_refl _
  | succ L ih =>
    have h1 := ih (fun j j0 j1 => h j j0 (by omega))
    have h2 := h (a + L) (by omega) (by omega)
    unfold isD at h2
    rw [hr10_s t a (a + L) L (by omega)]
    omega
theorem CS_take {t : Int → Int} {n : Int} {lo hi f0 : Int → Int} {a bh e : Int} {w w2 : VV} (hn : 0 ≤ n ∧ n ≤ 180) (hlo : ∀ r, 0 ≤ r → r < 9 → lo r = xLe.getD r.toNat 0) (hhi : ∀ r, 0 ≤ r → r < 9 → hi r = xMo.getD r.toNat 0) (h : CS t n lo hi f0 a bh w) (hb : bh ≤ a) (ha : a < n) (hl : ¬ (160 < n ∧ 160 ≤ a)) (hnb : ¬ isB (t a)) (he1 : (isL (t a) ∨ isD (t a)) → TKN t n a e) (he2 : ¬ (isL (t a) ∨ isD (t a)) → e = a + 1) (hT : TKP t a e w w2) : CS t n lo hi f0 (a + 1) e w2 ∨ CF t n lo hi f0 w2 := by
  obtain ⟨h5, h6, h7, h8, h9, mc, hs⟩ := h
  have hsk : SKP t n bh a := ⟨hb, by omega, h7, Or.inr hnb⟩
  have LD : ¬ (isL (t a) ∧ isD (t a)) := by unfold isL isD; omega
  have ha' : 0 ≤ a ∧ a ≤ 180 := by omega
  rcases hT with ⟨g1, g2, k, hk, hT⟩ | ⟨g1, g2, x, hx, hT⟩ | ⟨g1, g2, g3⟩ | ⟨g1, g2, g3, g4⟩
  · -- a WORD
    have hTK := he1 (Or.inl g1)
    have hae := hTK.1
    obtain ⟨K, U, hg, -, hK⟩ := go_tok hsk hl hTK
    obtain ⟨hs1, hs2⟩ : pcI (w 3 4) = mc ∧ ∀ E P mm f2, RW t n lo hi bh (w 3 4) (w 5) mc E P mm f2 → RW t n lo hi 0 0 f0 0 E P mm f2 := by
      rcases hs with hs | hs | hs
      · exact hs.2
      · omega
      · omega
    have hK0 : K ≠ 0 := by rcases hK with y | y | y | y <;> omega
    rcases hT with ⟨i1, i2⟩ | hT
    · right
      rw [i2]
      refine CF_fail (Or.inl rfl) ha' (fun mm f2 => hs2 _ _ _ _ (RW_bad hg hK0 ?_))
      by_cases y : K = 2
      · have hL : ∀ j, a ≤ j → j < e → isL (t j) := fun j j0 j1 => by
          rcases hK with z | z | z | z
          · omega
          · exact (z.1 j j0 j1).mpr z.2.1
          · omega
          · omega
        rw [y, rah_word hae hL hk, i1]
      · exact rah_no y
    · have i1 : k ≠ -1 := by
        rcases hT with y | y
        · exact y.1
        · exact y.1
      have hk2 : (0 ≤ k ∧ k < 9) ∧ WD t a e k.toNat := by
        rcases hk with y | y
        · exact y
        · exact absurd y.1 i1
      have hL : ∀ j, a ≤ j → j < e → isL (t j) := fun j j0 j1 => by
        have q := hk2.2.2 (j - a) (by omega) (by have := hk2.2.1; omega)
        rw [show a + (j - a) = j by omega] at q
        have q2 := (ch_at (i := k.toNat) (by omega) (j := j - a) (by omega) (by have := hk2.2.1; omega)).2.2
        unfold isL
        omega
      have hK2 : K = 2 := by
        rcases hK with z | z | z | z
        · exact absurd (fun j j0 j1 => ⟨fun _ => g1, fun _ => hL j j0 j1⟩) z.1
        · exact z.2.2
        · exact absurd g1 z.2.1
        · exact absurd g1 z.2.1
      have hr : rahS K (Wd t a e) = k := by rw [hK2]; exact rah_word hae hL hk
      have hbit := bit9' h8 hk2.1
      rcases hT with ⟨-, j1, j2⟩ | ⟨-, j1, j2⟩
      · right
        rw [j2]
        refine CF_fail (Or.inr (Or.inr rfl)) ha' (fun mm f2 => hs2 _ _ _ _ (RW_twice hg hK0 (by rw [hr]; exact i1) ?_))
        rw [hr]
        apply Classical.byContradiction
        intro q
        exact j1 (hbit.1.mpr q)
      · left
        rw [j2]
        have f4 : up (up (up w 3 4 (borI (w 3 4) (shlI 1 k))) 3 3 k) 3 2 1 3 4 = borI (w 3 4) (shlI 1 k) := by rw [up_nj (by decide), up_nj (by decide), up_self]
        have f3 : up (up (up w 3 4 (borI (w 3 4) (shlI 1 k))) 3 3 k) 3 2 1 3 3 = k := by rw [up_nj (by decide), up_self]
        have f2 : up (up (up w 3 4 (borI (w 3 4) (shlI 1 k))) 3 3 k) 3 2 1 3 2 = 1 := by rw [up_self]
        have f5 : up (up (up w 3 4 (borI (w 3 4) (shlI 1 k))) 3 3 k) 3 2 1 3 5 = 0 := by rw [up_nj (by decide), up_nj (by decide), up_nj (by decide)]; exact h5
        have fd : up (up (up w 3 4 (borI (w 3 4) (shlI 1 k))) 3 3 k) 3 2 1 5 = w 5 := by rw [up_ne (by decide), up_ne (by decide), up_ne (by decide)]
        unfold CS
        rw [f4, f3, f2, f5, fd]
        refine ⟨rfl, ⟨by omega, hTK.2.1⟩, fun j j0 j1 => by omega, hbit.2, h9, mc, Or.inr (Or.inl ⟨rfl, hk2.1, by rw [pcI_set hk2.1 j1, hs1], fun E P mm f2 hN => hs2 _ _ _ _ (RW_word hg hK0 hr i1 (hbit.1.mp j1) hN)⟩)⟩
  · -- a NUMBER
    have hTK := he1 (Or.inr g1)
    have hae := hTK.1
    have hnL : ¬ isL (t a) := fun q => LD ⟨q, g1⟩
    obtain ⟨K, U, hg, hU, hK⟩ := go_tok hsk hl hTK
    obtain ⟨hc, hs1, hs2⟩ : (0 ≤ w 3 3 ∧ w 3 3 < 9) ∧ pcI (w 3 4) = mc + 1 ∧ ∀ E P mm f2, RN t n lo hi bh (w 3 3) (w 3 4) (w 5) mc E P mm f2 → RW t n lo hi 0 0 f0 0 E P mm f2 := by
      rcases hs with hs | hs | hs
      · omega
      · exact hs.2
      · omega
    by_cases hD : e - a ≤ 3 ∧ ∀ j, a ≤ j → j < e → isD (t j)
    · have hxe : x = hr10 t a (e - a).toNat := by
        rcases hx with y | y
        · exact y.2
        · exact absurd hD y.1
      have hx0 : 0 ≤ x := by
        rw [hxe]
        exact hr10_nn _ (fun j j0 j1 => hD.2 j j0 (by omega))
      have hK3 : K = 3 := by
        rcases hK with z | z | z | z
        · refine absurd (fun j j0 j1 => ⟨fun q => ?_, fun q => absurd q hnL⟩) z.1
          have := hD.2 j j0 j1
          unfold isL isD at *
          omega
        · exact absurd z.2.1 hnL
        · exact z.2.2.2
        · omega
      have hUx : U = x := by rw [hU, if_pos hD.1, hxe]
      rcases hT with ⟨i1, -⟩ | ⟨-, i1, i2⟩ | ⟨-, i1, i2⟩
      · omega
      · right
        rw [i2]
        refine CF_fail (Or.inr (Or.inl rfl)) ha' (fun mm f2 => hs2 _ _ _ _ ⟨K, a, e, _, U, hg, Or.inr ⟨hK3, Or.inl ⟨?_, rfl, rfl⟩⟩⟩)
        rw [hlo _ hc.1 hc.2, hhi _ hc.1 hc.2, hUx]; exact i1
      · left
        rw [i2]
        have f4 : up (up w 5 (w 3 3) x) 3 2 2 3 4 = w 3 4 := by rw [up_nj (by decide), up_c (show 3 ≠ 5 by decide)]
        have f3 : up (up w 5 (w 3 3) x) 3 2 2 3 3 = w 3 3 := by rw [up_nj (by decide), up_c (show 3 ≠ 5 by decide)]
        have f2 : up (up w 5 (w 3 3) x) 3 2 2 3 2 = 2 := by rw [up_self]
        have f5 : up (up w 5 (w 3 3) x) 3 2 2 3 5 = 0 := by rw [up_nj (by decide), up_c (show 3 ≠ 5 by decide)]; exact h5
        have fd : up (up w 5 (w 3 3) x) 3 2 2 5 = fun j => if j = w 3 3 then x else w 5 j := by rw [up_ne (by decide), up_at]
        unfold CS
        rw [f4, f3, f2, f5, fd]
        refine ⟨rfl, ⟨by omega, hTK.2.1⟩, fun j j0 j1 => by omega, h8, fun j j0 j1 => ?_, mc, Or.inr (Or.inr ⟨rfl, hs1, fun E P mm f2 hS => hs2 _ _ _ _ ⟨K, a, e, _, U, hg, Or.inr ⟨hK3, Or.inr ⟨?_, ?_⟩⟩⟩⟩)⟩
        · show xLe.getD j.toNat 0 ≤ (if j = w 3 3 then x else w 5 j) ∧ (if j = w 3 3 then x else w 5 j) ≤ xMo.getD j.toNat 0
          by_cases y : j = w 3 3
          · rw [if_pos y, y]; exact i1
          · rw [if_neg y]; exact h9 j j0 j1
        · rw [hlo _ hc.1 hc.2, hhi _ hc.1 hc.2, hUx]; exact i1
        · rw [hUx]; exact hS
    · have hx1 : x = -1 := by
        rcases hx with y | y
        · exact absurd y.1 hD
        · exact y.2
      have hKn : K ≠ 3 := fun q => by
        rcases hK with z | z | z | z
        · omega
        · omega
        · refine hD ⟨z.2.2.1, fun j j0 j1 => ?_⟩
          rcases hTK.2.2.1 j j0 j1 with y | y
          · exact absurd ((z.1 j j0 j1).mp y) hnL
          · exact y
        · omega
      rcases hT with ⟨-, i2⟩ | ⟨i1, -⟩ | ⟨i1, -⟩
      · right
        rw [i2]
        exact CF_fail (Or.inl rfl) ha' (fun mm f2 => hs2 _ _ _ _ ⟨K, a, e, _, U, hg, Or.inl ⟨hKn, rfl, rfl⟩⟩)
      · exact absurd hx1 i1
      · exact absurd hx1 i1
  · -- a stop
    have hno : ¬ (isL (t a) ∨ isD (t a)) := by unfold isL isD; omega
    have hea := he2 hno
    obtain ⟨K, hg, hK⟩ := go_sign hsk ha hl (fun q => hno (Or.inl q)) (fun q => hno (Or.inr q))
    obtain ⟨hs1, hs2⟩ : pcI (w 3 4) = mc + 1 ∧ ∀ E P mm f2, RS t n lo hi bh (w 3 4) (w 5) mc E P mm f2 → RW t n lo hi 0 0 f0 0 E P mm f2 := by
      rcases hs with hs | hs | hs
      · omega
      · omega
      · exact hs.2
    left
    rw [g3]
    have f4 : up w 3 2 0 3 4 = w 3 4 := up_nj (by decide)
    have f2 : up w 3 2 0 3 2 = 0 := by rw [up_self]
    have f5 : up w 3 2 0 3 5 = 0 := by rw [up_nj (by decide)]; exact h5
    have fd : up w 3 2 0 5 = w 5 := up_ne (by decide)
    unfold CS
    rw [f4, f2, f5, fd]
    refine ⟨rfl, by omega, fun j j0 j1 => by omega, h8, h9, mc + 1, Or.inl ⟨rfl, hs1, fun E P mm f2 hW => hs2 _ _ _ _ ⟨K, a, a + 1, 0, 0, hg, Or.inr ⟨by omega, ?_⟩⟩⟩⟩
    rw [← hea]; exact hW
  · right
    rw [g4]
    refine CF_fail (Or.inl rfl) ha' (fun mm f2 => ?_)
    -- the TOKEN that comes
    have tok : ∃ K F T W U, GoP t n bh K F T W U ∧ F = a ∧ ((isL (t a) ∧ (K = 1 ∨ K = 2)) ∨ (isD (t a) ∧ (K = 1 ∨ K = 3)) ∨ (¬ isL (t a) ∧ ¬ isD (t a) ∧ ((t a = 59 ∧ K = 4) ∨ (t a ≠ 59 ∧ K = 1)))) := by
      by_cases q : isL (t a) ∨ isD (t a)
      · obtain ⟨K, U, hg, -, hK⟩ := go_tok hsk hl (he1 q)
        refine ⟨K, a, e, _, U, hg, rfl, ?_⟩
        rcases q with q | q
        · refine Or.inl ⟨q, ?_⟩
          rcases hK with z | z | z | z
          · exact Or.inl z.2
          · exact Or.inr z.2.2
          · exact absurd q z.2.1
          · exact absurd q z.2.1
        · refine Or.inr (Or.inl ⟨q, ?_⟩)
          rcases hK with z | z | z | z
          · exact Or.inl z.2
          · exact absurd ⟨z.2.1, q⟩ LD
          · exact Or.inr z.2.2.2
          · exact Or.inl z.2.2.2
      · obtain ⟨K, hg, hK⟩ := go_sign hsk ha hl (fun z => q (Or.inl z)) (fun z => q (Or.inr z))
        exact ⟨K, a, a + 1, 0, 0, hg, rfl, Or.inr (Or.inr ⟨fun z => q (Or.inl z), fun z => q (Or.inr z), hK⟩)⟩
    obtain ⟨K, F, T, W, U, hg, hF, hK⟩ := tok
    subst hF
    rcases hs with hs | hs | hs
    · refine hs.2.2 _ _ _ _ (RW_bad hg (by rcases hK with z | z | z <;> omega) (rah_no (fun q => ?_)))
      rcases hK with z | z | z
      · exact g1 ⟨z.1, hs.1⟩
      · omega
      · omega
    · refine hs.2.2.2 _ _ _ _ ⟨K, F, T, W, U, hg, Or.inl ⟨fun q => ?_, rfl, rfl⟩⟩
      rcases hK with z | z | z
      · omega
      · exact g2 ⟨z.1, hs.1⟩
      · omega
    · refine hs.2.2 _ _ _ _ ⟨K, F, T, W, U, hg, Or.inl ⟨fun q => ?_, rfl, rfl⟩⟩
      rcases hK with z | z | z
      · omega
      · omega
      · rcases z.2.2 with y | y
        · exact g3 ⟨y.1, hs.1⟩
        · omega
theorem CS_skip {t : Int → Int} {n : Int} {lo hi f0 : Int → Int} {a bh : Int} {w : VV} (h : CS t n lo hi f0 a bh w) (hs : a < bh ∨ isB (t a)) : CS t n lo hi f0 (a + 1) bh w := by
  refine ⟨h.1, h.2.1, fun j j0 j1 => ?_, h.2.2.2⟩
  by_cases y : j = a
  · rcases hs with z | z
    · omega
    · rw [y]; exact z
  · exact h.2.2.1 j j0 (by omega)
theorem CS_end {t : Int → Int} {n : Int} {lo hi f0 : Int → Int} {bh : Int} {w : VV} (hn : 0 ≤ n ∧ n ≤ 180) (h : CS t n lo hi f0 (if 160 < n then 160 else n) bh w) : ((160 < n ∨ w 3 2 ≠ 0) → ∀ mm f2, RW t n lo hi 0 0 f0 0 1 (if 160 < n then 160 else n) mm f2) ∧ (n ≤ 160 → w 3 2 = 0 → RW t n lo hi 0 0 f0 0 0 0 (pcI (w 3 4)) (w 5)) := by
  obtain ⟨-, h6, h7, -, -, mc, hs⟩ := h
  obtain ⟨p, hp⟩ := SKP_ex (t := t) (n := n) (n - bh).toNat bh (by omega)
  by_cases h160 : 160 < n
  · rw [if_pos h160] at h7 ⊢
    have hp160 : 160 ≤ p := by
      apply Classical.byContradiction
      intro q
      rcases hp.2.2.2 with y | y
      · omega
      · exact y (h7 p hp.1 (by omega))
    have hg : GoP t n bh 1 160 p 0 0 := ⟨p, hp, Or.inl ⟨h160, hp160, rfl, rfl, rfl⟩⟩
    refine ⟨fun _ mm f2 => ?_, fun q => by omega⟩
    rcases hs with hs | hs | hs
    · exact hs.2.2 _ _ _ _ (RW_bad hg (by omega) (rah_no (by omega)))
    · exact hs.2.2.2 _ _ _ _ ⟨1, 160, p, 0, 0, hg, Or.inl ⟨by omega, rfl, rfl⟩⟩
    · exact hs.2.2 _ _ _ _ ⟨1, 160, p, 0, 0, hg, Or.inl ⟨by omega, rfl, rfl⟩⟩
  · rw [if_neg h160] at h7 ⊢
    have hpn : p = n := by
      rcases hp.2.2.2 with y | y
      · exact y
      · have := hp.2.1
        by_cases z : p = n
        · exact z
        · exact absurd (h7 p hp.1 (by omega)) y
    subst hpn
    have hg : GoP t p bh 0 p p 0 0 := ⟨p, hp, Or.inr ⟨by omega, Or.inl ⟨rfl, rfl, rfl, rfl⟩⟩⟩
    refine ⟨fun q mm f2 => ?_, fun _ q => ?_⟩
    · rcases hs with hs | hs | hs
      · omega
      · exact hs.2.2.2 _ _ _ _ ⟨0, p, p, 0, 0, hg, Or.inl ⟨by omega, rfl, rfl⟩⟩
      · exact hs.2.2 _ _ _ _ ⟨0, p, p, 0, 0, hg, Or.inl ⟨by omega, rfl, rfl⟩⟩
    · rcases hs with hs | hs | hs
      · exact hs.2.2 _ _ _ _ ⟨0, p, p, 0, 0, 1, hg, Or.inl ⟨rfl, rfl, hs.2.1, rfl⟩⟩
      · omega
      · omega
def f35 (v w : VV) : Prop := ∀ k, k ≠ 3 → k ≠ 5 → w k = v k
theorem TKP_f35 {t : Int → Int} {a e : Int} {v w : VV} (h : TKP t a e v w) : f35 v w := by
  intro k k3 k5
  have hf : ∀ c x, failV v c x k = v k := fun c x => by unfold failV; rw [up_ne k3, up_ne k3]
  rcases h with ⟨-, -, q, -, h⟩ | ⟨-, -, q, -, h⟩ | ⟨-, -, h⟩ | ⟨-, -, -, h⟩
  · rcases h with ⟨-, h⟩ | ⟨-, -, h⟩ | ⟨-, -, h⟩
    · rw [h]; exact hf _ _
    · rw [h]; exact hf _ _
    · rw [h, up_ne k3, up_ne k3, up_ne k3]
  · rcases h with ⟨-, h⟩ | ⟨-, -, h⟩ | ⟨-, -, h⟩
    · rw [h]; exact hf _ _
    · rw [h]; exact hf _ _
    · rw [h, up_ne k3, up_ne k5]
  · rw [h, up_ne k3]
  · rw [h]; exact hf _ _
set_option maxRecDepth 20000 in
set_option maxHeartbeats 1000000 in
theorem c_X1_read (l : Launch) (d nu : Nat) (v : VV) (n : Int) (t : Int → Int) (hn : v 1 1 = n ∧ 0 ≤ n ∧ n ≤ 180) (ht : ∀ i, 0 ≤ t i ∧ t i ≤ 255) (hb : ∀ i, 0 ≤ i → i < n → v 2 i = if t i < 128 then t i else t i - 256) (lo hi : Int → Int) (hlo : ∀ r, 0 ≤ r → r < 9 → lo r = xLe.getD r.toNat 0) (hhi : ∀ r, 0 ≤ r → r < 9 → hi r = xMo.getD r.toNat 0) : Ct l yX1_read cX1_read (some .int) 5 (d + 8) 0 0 [ar (some 3), ar (some 1)] (SG nu) v (fun r S2 w => ∃ x E P mm f2, r = some (ai x) ∧ S2 = SG nu ∧ RW t n lo hi 0 0 (fun j => if 0 ≤ j ∧ j < 9 then xUs.getD j.toNat 0 else v 5 j) 0 E P mm f2 ∧ x = (if E = 0 then mm else -1 - P) ∧ w 3 5 = E ∧ (∀ k, k ≠ 3 → k ≠ 4 → k ≠ 5 → w k = v k) ∧ w 4 = (fun j => if E = 0 ∧ 0 ≤ j ∧ j < 9 then f2 j else v 4 j) ∧ (E = 0 → DR f2)) := by
  refine Ct_of_G [some (ar (some 3)), some (ar (some 1)), none, none, none] (by decide) rfl rfl ?_
  have fin2F : ∀ (w : VV) (Z3 Z4 : Option AV), f35 v w → CF t n lo hi (fun j => if 0 ≤ j ∧ j < 9 then xUs.getD j.toNat 0 else v 5 j) w → G l (yX1_read, cX1_read, (some .int), 5, (d + 8), 0, 0, none) (fun r S2 w => ∃ x E P mm f2, r = some (ai x) ∧ S2 = SG nu ∧ RW t n lo hi 0 0 (fun j => if 0 ≤ j ∧ j < 9 then xUs.getD j.toNat 0 else v 5 j) 0 E P mm f2 ∧ x = (if E = 0 then mm else -1 - P) ∧ w 3 5 = E ∧ (∀ k, k ≠ 3 → k ≠ 4 → k ≠ 5 → w k = v k) ∧ w 4 = (fun j => if E = 0 ∧ 0 ≤ j ∧ j < 9 then f2 j else v 4 j) ∧ (E = 0 → DR f2)) 0 0 (SG nu) 99 [some (ar (some 3)), some (ar (some 1)), some (ai (if 160 < n then 160 else n)), Z3, Z4] [] w := by
    intro w Z3 Z4 hf hF
    have hk5 := hF.1
    have hk6 := hF.2.1
    refine G_aload_n dX1_read_99 rfl ?_
    refine G_getI (jj := 5) dX1_read_100 flX1_21 rfl rfl rfl ?_
    refine G_if_eq 113 dX1_read_103 (by decide) (fun h103 => by omega) (fun h103 => ?_)
    refine G_iconst (n := (-1)) dX1_read_106 ⟨by decide, by decide⟩ ?_
    refine G_aload_n dX1_read_107 rfl ?_
    refine G_getI (jj := 6) dX1_read_108 flX1_59 rfl rfl rfl ?_
    refine G_isub dX1_read_111 (iRm (by omega) (by omega)) ?_
    exact G_iret dX1_read_112 rfl rfl rfl ⟨_, w 3 5, w 3 6, 0, fun _ => 0, rfl, rfl, hF.2.2 _ _, by rw [if_neg (by omega)], rfl, fun k k1 k2 k3 => hf k k1 k3, by rw [hf 4 (by decide) (by decide)]; funext j; rw [if_neg (by omega)], fun q => by omega⟩
  have fin2S : ∀ (w : VV) (Z3 Z4 : Option AV), f35 v w → w 3 5 = 0 → DR (w 5) → RW t n lo hi 0 0 (fun j => if 0 ≤ j ∧ j < 9 then xUs.getD j.toNat 0 else v 5 j) 0 0 0 (pcI (w 3 4)) (w 5) → G l (yX1_read, cX1_read, (some .int), 5, (d + 8), 0, 0, none) (fun r S2 w => ∃ x E P mm f2, r = some (ai x) ∧ S2 = SG nu ∧ RW t n lo hi 0 0 (fun j => if 0 ≤ j ∧ j < 9 then xUs.getD j.toNat 0 else v 5 j) 0 E P mm f2 ∧ x = (if E = 0 then mm else -1 - P) ∧ w 3 5 = E ∧ (∀ k, k ≠ 3 → k ≠ 4 → k ≠ 5 → w k = v k) ∧ w 4 = (fun j => if E = 0 ∧ 0 ≤ j ∧ j < 9 then f2 j else v 4 j) ∧ (E = 0 → DR f2)) 0 0 (SG nu) 99 [some (ar (some 3)), some (ar (some 1)), some (ai (if 160 < n then 160 else n)), Z3, Z4] [] w := by
    intro w Z3 Z4 hf h5 hDR hR
    refine G_aload_n dX1_read_99 rfl ?_
    refine G_getI (jj := 5) dX1_read_100 flX1_21 rfl rfl rfl ?_
    refine G_if_eq 113 dX1_read_103 (by decide) (fun h103 => ?_) (fun h103 => by omega)
    refine G_aload_n dX1_read_113 rfl ?_
    refine G_getR (jj := 1) dX1_read_114 flX1_15 rfl rfl rfl ?_
    refine G_iconst (n := 0) dX1_read_117 ⟨by decide, by decide⟩ ?_
    refine G_aload_n dX1_read_118 rfl ?_
    refine G_getR (jj := 0) dX1_read_119 flX1_11 rfl rfl rfl ?_
    refine G_iconst (n := 0) dX1_read_122 ⟨by decide, by decide⟩ ?_
    refine G_bipush (n := 9) dX1_read_123 (by decide) ⟨by decide, by decide⟩ ?_
    refine G_cpyW dX1_read_125 ac_62 rfl rfl (by show 1 ≤ d + 8; omega) rfl ?_
    refine G_aload_n dX1_read_128 rfl ?_
    refine G_getI (jj := 4) dX1_read_129 flX1_68 rfl rfl rfl ?_
    refine G_cSi dX1_read_132 (c_J6_bitCount_0f7a4 l (d + 7) nu (cpW w 4 5) (cpW w 4 5 3 4)) mcX1_71 rfl rfl (by show _ ≤ d + 8; omega) rfl rfl (Nat.le_refl _) (Nat.le_refl _) ?_
    exact G_iret dX1_read_135 rfl rfl rfl ⟨_, 0, 0, pcI (w 3 4), w 5, rfl, rfl, hR, by rw [if_pos rfl, bcI_bits]; rfl, by show cpW w 4 5 3 5 = 0; unfold cpW; rw [if_neg (by omega)]; exact h5, fun k k1 k2 k3 => by
         funext j
         unfold cpW
         rw [if_neg (fun q => k2 q.1), hf k k1 k3], by
         funext j
         unfold cpW
         by_cases q : 0 ≤ j ∧ j < 9
         · rw [if_pos ⟨rfl, q⟩, if_pos ⟨rfl, q⟩]
         · rw [if_neg (fun z => q z.2), if_neg (fun z => q z.2), hf 4 (by decide) (by decide)], fun _ => hDR⟩
  have finS : ∀ (w : VV) (bh : Int) (Z4 : Option AV), f35 v w → CS t n lo hi (fun j => if 0 ≤ j ∧ j < 9 then xUs.getD j.toNat 0 else v 5 j) (if 160 < n then 160 else n) bh w → G l (yX1_read, cX1_read, (some .int), 5, (d + 8), 0, 0, none) (fun r S2 w => ∃ x E P mm f2, r = some (ai x) ∧ S2 = SG nu ∧ RW t n lo hi 0 0 (fun j => if 0 ≤ j ∧ j < 9 then xUs.getD j.toNat 0 else v 5 j) 0 E P mm f2 ∧ x = (if E = 0 then mm else -1 - P) ∧ w 3 5 = E ∧ (∀ k, k ≠ 3 → k ≠ 4 → k ≠ 5 → w k = v k) ∧ w 4 = (fun j => if E = 0 ∧ 0 ≤ j ∧ j < 9 then f2 j else v 4 j) ∧ (E = 0 → DR f2)) 0 0 (SG nu) 69 [some (ar (some 3)), some (ar (some 1)), some (ai (if 160 < n then 160 else n)), some (ai bh), Z4] [] w := by
    intro w bh Z4 hf hC
    obtain ⟨e1, e2⟩ := CS_end hn.2 hC
    have h5 := hC.1
    have hlim : 0 ≤ (if 160 < n then 160 else n) ∧ (if 160 < n then 160 else n) ≤ 180 := by split <;> omega
    refine G_aload_n dX1_read_69 rfl ?_
    refine G_getI (jj := 5) dX1_read_70 flX1_21 rfl rfl rfl ?_
    refine G_if_ne 99 dX1_read_73 (by decide) (fun h73 => absurd h5 h73) (fun h73 => ?_)
    refine G_aload_n dX1_read_76 rfl ?_
    refine G_cVi (ci := 3) dX1_read_77 rfl (by decide) rfl (c_X3_length l (d + 7) nu w) mcX1_28 rfl rfl (by show _ ≤ d + 8; omega) rfl rfl (Nat.le_refl _) (Nat.le_refl _) ?_
    rw [show w 1 1 = n from by rw [hf 1 (by decide) (by decide)]; exact hn.1]
    refine G_sipush (n := 160) dX1_read_80 (by decide) ⟨by decide, by decide⟩ ?_
    refine G_icmp_gt 93 dX1_read_83 (by decide) (fun h83 => ?_) (fun h83 => ?_)
    · refine G_aload_n dX1_read_93 rfl ?_
      refine G_iconst (n := 1) dX1_read_94 ⟨by decide, by decide⟩ ?_
      refine G_iload_n dX1_read_95 rfl ?_
      refine G_cVv (ci := 1) dX1_read_96 rfl (by decide) rfl (c_X1_fail l (d + 7) nu w 1 (if 160 < n then 160 else n)) mcX1_55 rfl rfl (by show _ ≤ d + 8; omega) rfl rfl (Nat.le_refl _) (Nat.le_refl _) ?_
      have hF : CF t n lo hi (fun j => if 0 ≤ j ∧ j < 9 then xUs.getD j.toNat 0 else v 5 j) (up (up w 3 5 1) 3 6 (if 160 < n then 160 else n)) := CF_fail (Or.inl rfl) hlim (e1 (by first | (exact Or.inl h83) | (exact Or.inr h90)))
      have hf2 : f35 v (up (up w 3 5 1) 3 6 (if 160 < n then 160 else n)) := fun k k1 k2 => by rw [up_ne k1, up_ne k1]; exact hf k k1 k2
      exact fin2F _ _ _ hf2 hF
    · refine G_aload_n dX1_read_86 rfl ?_
      refine G_getI (jj := 2) dX1_read_87 flX1_52 rfl rfl rfl ?_
      refine G_if_eq 99 dX1_read_90 (by decide) (fun h90 => ?_) (fun h90 => ?_)
      · exact fin2S w _ _ hf h5 hC.2.2.2.2.1 (e2 (by omega) h90)
      · refine G_aload_n dX1_read_93 rfl ?_
        refine G_iconst (n := 1) dX1_read_94 ⟨by decide, by decide⟩ ?_
        refine G_iload_n dX1_read_95 rfl ?_
        refine G_cVv (ci := 1) dX1_read_96 rfl (by decide) rfl (c_X1_fail l (d + 7) nu w 1 (if 160 < n then 160 else n)) mcX1_55 rfl rfl (by show _ ≤ d + 8; omega) rfl rfl (Nat.le_refl _) (Nat.le_refl _) ?_
        have hF : CF t n lo hi (fun j => if 0 ≤ j ∧ j < 9 then xUs.getD j.toNat 0 else v 5 j) (up (up w 3 5 1) 3 6 (if 160 < n then 160 else n)) := CF_fail (Or.inl rfl) hlim (e1 (by first | (exact Or.inl h83) | (exact Or.inr h90)))
        have hf2 : f35 v (up (up w 3 5 1) 3 6 (if 160 < n then 160 else n)) := fun k k1 k2 => by rw [up_ne k1, up_ne k1]; exact hf k k1 k2
        exact fin2F _ _ _ hf2 hF
  have finF : ∀ (w : VV) (Z3 Z4 : Option AV), f35 v w → CF t n lo hi (fun j => if 0 ≤ j ∧ j < 9 then xUs.getD j.toNat 0 else v 5 j) w → G l (yX1_read, cX1_read, (some .int), 5, (d + 8), 0, 0, none) (fun r S2 w => ∃ x E P mm f2, r = some (ai x) ∧ S2 = SG nu ∧ RW t n lo hi 0 0 (fun j => if 0 ≤ j ∧ j < 9 then xUs.getD j.toNat 0 else v 5 j) 0 E P mm f2 ∧ x = (if E = 0 then mm else -1 - P) ∧ w 3 5 = E ∧ (∀ k, k ≠ 3 → k ≠ 4 → k ≠ 5 → w k = v k) ∧ w 4 = (fun j => if E = 0 ∧ 0 ≤ j ∧ j < 9 then f2 j else v 4 j) ∧ (E = 0 → DR f2)) 0 0 (SG nu) 69 [some (ar (some 3)), some (ar (some 1)), some (ai (if 160 < n then 160 else n)), Z3, Z4] [] w := by
    intro w Z3 Z4 hf hF
    have hk5 := hF.1
    refine G_aload_n dX1_read_69 rfl ?_
    refine G_getI (jj := 5) dX1_read_70 flX1_21 rfl rfl rfl ?_
    refine G_if_ne 99 dX1_read_73 (by decide) (fun h73 => ?_) (fun h73 => by omega)
    exact fin2F w _ _ hf hF
  have loop : ∀ (N : Nat) (a bh : Int) (w : VV), 0 ≤ a → a + N = (if 160 < n then 160 else n) → f35 v w → (CS t n lo hi (fun j => if 0 ≤ j ∧ j < 9 then xUs.getD j.toNat 0 else v 5 j) a bh w ∨ CF t n lo hi (fun j => if 0 ≤ j ∧ j < 9 then xUs.getD j.toNat 0 else v 5 j) w) → G l (yX1_read, cX1_read, (some .int), 5, (d + 8), 0, 0, none) (fun r S2 w => ∃ x E P mm f2, r = some (ai x) ∧ S2 = SG nu ∧ RW t n lo hi 0 0 (fun j => if 0 ≤ j ∧ j < 9 then xUs.getD j.toNat 0 else v 5 j) 0 E P mm f2 ∧ x = (if E = 0 then mm else -1 - P) ∧ w 3 5 = E ∧ (∀ k, k ≠ 3 → k ≠ 4 → k ≠ 5 → w k = v k) ∧ w 4 = (fun j => if E = 0 ∧ 0 ≤ j ∧ j < 9 then f2 j else v 4 j) ∧ (E = 0 → DR f2)) 0 0 (SG nu) 20 [some (ar (some 3)), some (ar (some 1)), some (ai (if 160 < n then 160 else n)), some (ai bh), some (ai a)] [] w := by
    intro N
    induction N using Nat.strongRecOn with
    | ind N ih =>
    intro a bh w h0 h1 hf hI
    have hlim : (if 160 < n then 160 else n) ≤ 160 ∧ (if 160 < n then 160 else n) ≤ n := by split <;> omega
    have hnw : w 1 1 = n ∧ 0 ≤ n ∧ n ≤ 180 := ⟨by rw [hf 1 (by decide) (by decide)]; exact hn.1, hn.2⟩
    have hbw : ∀ i, 0 ≤ i → i < n → w 2 i = if t i < 128 then t i else t i - 256 := fun i i0 i1 => by rw [hf 2 (by decide) (by decide)]; exact hb i i0 i1
    rcases hI with hI | hI
    · have h5 := hI.1
      refine G_iload dX1_read_20 rfl ?_
      refine G_iload_n dX1_read_22 rfl ?_
      refine G_icmp_ge 69 dX1_read_23 (by decide) (fun h23 => ?_) (fun h23 => ?_)
      · obtain rfl : a = (if 160 < n then 160 else n) := by omega
        exact finS w bh _ hf hI
      · refine G_aload_n dX1_read_26 rfl ?_
        refine G_getI (jj := 5) dX1_read_27 flX1_21 rfl rfl rfl ?_
        refine G_if_ne 69 dX1_read_30 (by decide) (fun h30 => absurd h5 h30) (fun h30 => ?_)
        refine G_iload dX1_read_33 rfl ?_
        refine G_iload_n dX1_read_35 rfl ?_
        refine G_icmp_lt 63 dX1_read_36 (by decide) (fun h36 => ?_) (fun h36 => ?_)
        · refine G_iinc dX1_read_63 rfl (iRm (by omega) (by omega)) rfl rfl ?_
          refine G_goto 20 dX1_read_66 (by decide) ?_
          exact ih (N - 1) (by omega) (a + 1) bh w (by omega) (by omega) hf (Or.inl (CS_skip hI (Or.inl h36)))
        · refine G_aload_n dX1_read_39 rfl ?_
          refine G_iload dX1_read_40 rfl ?_
          refine G_cVi (ci := 3) dX1_read_42 rfl (by decide) rfl (c_X3_isBlank l (d + 6) nu w n t hnw ht hbw a) mcX1_40 rfl rfl (by show _ ≤ d + 8; omega) rfl rfl (Nat.le_refl _) (Nat.le_refl _) ?_
          refine G_if_ne 63 dX1_read_45 (by decide) (fun h45 => ?_) (fun h45 => ?_)
          · have hbl : isB (t a) := by
              apply Classical.byContradiction
              intro q
              rw [if_neg (fun z => q z.2)] at h45
              exact h45 rfl
            refine G_iinc dX1_read_63 rfl (iRm (by omega) (by omega)) rfl rfl ?_
            refine G_goto 20 dX1_read_66 (by decide) ?_
            exact ih (N - 1) (by omega) (a + 1) bh w (by omega) (by omega) hf (Or.inl (CS_skip hI (Or.inr hbl)))
          · have hnb : ¬ isB (t a) := fun q => by rw [if_pos ⟨⟨h0, by omega⟩, q⟩] at h45; omega
            refine G_aload_n dX1_read_48 rfl ?_
            refine G_iload dX1_read_49 rfl ?_
            refine G_cSq dX1_read_51 (c_X1_endOfToken l (d + 4) nu w n t hnw ht hbw a ⟨h0, by omega⟩) mcX1_44 rfl rfl (by show _ ≤ d + 8; omega) rfl rfl (Nat.le_refl _) (Nat.le_refl _) (fun r S2 w9 hq9 => ?_)
            obtain ⟨e, rfl, he, rfl, rfl⟩ := hq9
            have hae : a < e ∧ e ≤ n := by
              by_cases q : isL (t a) ∨ isD (t a)
              · exact ⟨(he.1 q).1, (he.1 q).2.1⟩
              · have := he.2 q; omega
            refine G_istore_n dX1_read_54 rfl rfl ?_
            refine G_aload_n dX1_read_55 rfl ?_
            refine G_aload_n dX1_read_56 rfl ?_
            refine G_iload dX1_read_57 rfl ?_
            refine G_iload_n dX1_read_59 rfl ?_
            refine G_cVq (ci := 1) dX1_read_60 rfl (by decide) rfl (c_X1_take l (d + 0) nu w9 n t hnw ht hbw a e ⟨h0, hae⟩ (fun q => by obtain ⟨-, -, -, -, -, mc, hs⟩ := hI; rcases hs with hs | hs | hs; omega; exact hs.2.1; omega)) mcX1_48 rfl rfl (by show _ ≤ d + 8; omega) rfl rfl (Nat.le_refl _) (Nat.le_refl _) (fun r S2 w8 hq9 => ?_)
            obtain ⟨rfl, rfl, hTK⟩ := hq9
            have hf8 : f35 v w8 := fun k k1 k2 => (TKP_f35 hTK k k1 k2).trans (hf k k1 k2)
            refine G_iinc dX1_read_63 rfl (iRm (by omega) (by omega)) rfl rfl ?_
            refine G_goto 20 dX1_read_66 (by decide) ?_
            exact ih (N - 1) (by omega) (a + 1) e w8 (by omega) (by omega) hf8 (CS_take hn.2 hlo hhi hI (by omega) (by omega) (by omega) hnb he.1 he.2 hTK)
    · have hk5 := hI.1
      refine G_iload dX1_read_20 rfl ?_
      refine G_iload_n dX1_read_22 rfl ?_
      refine G_icmp_ge 69 dX1_read_23 (by decide) (fun h23 => ?_) (fun h23 => ?_)
      · exact finF w _ _ hf hI
      · refine G_aload_n dX1_read_26 rfl ?_
        refine G_getI (jj := 5) dX1_read_27 flX1_21 rfl rfl rfl ?_
        refine G_if_ne 69 dX1_read_30 (by decide) (fun h30 => ?_) (fun h30 => by omega)
        exact finF w _ _ hf hI
  refine G_aload_n dX1_read_0 rfl ?_
  refine G_cVv (ci := 1) dX1_read_1 rfl (by decide) rfl (c_X1_begin l (d + 6) nu v) mcX1_25 rfl rfl (by show _ ≤ d + 8; omega) rfl rfl (Nat.le_refl _) (Nat.le_refl _) ?_
  generalize hw0 : up (up (up (up (up (cpX v 5 xUs) 3 2 0) 3 3 0) 3 4 0) 3 5 0) 3 6 0 = w0
  refine G_aload_n dX1_read_4 rfl ?_
  refine G_cVi (ci := 3) dX1_read_5 rfl (by decide) rfl (c_X3_length l (d + 7) nu w0) mcX1_28 rfl rfl (by show _ ≤ d + 8; omega) rfl rfl (Nat.le_refl _) (Nat.le_refl _) ?_
  have hf0 : f35 v w0 := fun k k1 k2 => by
    rw [← hw0, up_ne k1, up_ne k1, up_ne k1, up_ne k1, up_ne k1]
    funext j
    unfold cpX
    rw [if_neg (fun q => k2 q.1)]
  rw [show w0 1 1 = n from by rw [hf0 1 (by decide) (by decide)]; exact hn.1]
  refine G_sipush (n := 160) dX1_read_8 (by decide) ⟨by decide, by decide⟩ ?_
  refine G_mmin dX1_read_11 mcX1_34 (by show 1 ≤ d + _; omega) rfl rfl rfl ?_
  refine G_istore_n dX1_read_14 rfl rfl ?_
  refine G_iconst (n := 0) dX1_read_15 ⟨by decide, by decide⟩ ?_
  refine G_istore_n dX1_read_16 rfl rfl ?_
  refine G_iconst (n := 0) dX1_read_17 ⟨by decide, by decide⟩ ?_
  refine G_istore dX1_read_18 rfl rfl ?_
  have e5 : w0 5 = (fun j => if 0 ≤ j ∧ j < 9 then xUs.getD j.toNat 0 else v 5 j) := by
    rw [← hw0, up_ne (by decide), up_ne (by decide), up_ne (by decide), up_ne (by decide), up_ne (by decide)]
    funext j
    unfold cpX
    by_cases q : 0 ≤ j ∧ j < 9
    · rw [if_pos ⟨rfl, q⟩, if_pos q]
    · rw [if_neg (fun z => q z.2), if_neg q]
  have c2 : w0 3 2 = 0 := by rw [← hw0, up_nj (by decide), up_nj (by decide), up_nj (by decide), up_nj (by decide), up_self]
  have c4 : w0 3 4 = 0 := by rw [← hw0, up_nj (by decide), up_nj (by decide), up_self]
  have c5 : w0 3 5 = 0 := by rw [← hw0, up_nj (by decide), up_self]
  refine loop ((if 160 < n then 160 else n)).toNat 0 0 w0 (by omega) (by split <;> omega) hf0 (Or.inl ⟨c5, by omega, fun j j0 j1 => by omega, by omega, ?_, 0, Or.inl ⟨c2, by rw [c4]; decide, fun E P mm f2 h => ?_⟩⟩)
  · rw [e5]
    intro j j0 j1
    have h9 : ∀ k : Nat, k < 9 → xLe.getD k 0 ≤ xUs.getD k 0 ∧ xUs.getD k 0 ≤ xMo.getD k 0 := by decide
    show xLe.getD j.toNat 0 ≤ (if 0 ≤ j ∧ j < 9 then xUs.getD j.toNat 0 else v 5 j) ∧ (if 0 ≤ j ∧ j < 9 then xUs.getD j.toNat 0 else v 5 j) ≤ xMo.getD j.toNat 0
    rw [if_pos ⟨j0, j1⟩]
    exact h9 j.toNat (by omega)
  · rw [c4, e5] at h
    exact h
