/-! the reader of the class follows the model's reading -/
theorem bit9 : ∀ a : Nat, a < 512 → ∀ k : Nat, k < 9 → (bandI (a : Int) (shlI 1 (k : Int)) = 0 ↔ ¬ bandI (shrI (a : Int) (k : Int)) 1 = 1) ∧ (0 ≤ borI (a : Int) (shlI 1 (k : Int)) ∧ borI (a : Int) (shlI 1 (k : Int)) < 512) := by decide +kernel
theorem bit9' {a k : Int} (ha : 0 ≤ a ∧ a < 512) (hk : 0 ≤ k ∧ k < 9) : (bandI a (shlI 1 k) = 0 ↔ ¬ bandI (shrI a k) 1 = 1) ∧ (0 ≤ borI a (shlI 1 k) ∧ borI a (shlI 1 k) < 512) := by
  have h := bit9 a.toNat (by omega) k.toNat (by omega)
  rwa [show ((a.toNat : Nat) : Int) = a by omega, show ((k.toNat : Nat) : Int) = k by omega] at h
def pcI (x : Int) : Int := ((bitct (Int32.ofInt x).toBitVec.toNat 32 : Nat) : Int)
theorem pcI_set {a k : Int} (hk : 0 ≤ k ∧ k < 9) (h : bandI a (shlI 1 k) = 0) : pcI (borI a (shlI 1 k)) = pcI a + 1 := by
  have e := shl_bit k.toNat (by omega)
  rw [show ((k.toNat : Nat) : Int) = k by omega] at e
  rw [bandI_N, e, and_pow] at h
  unfold pcI
  rw [borI_N, e, bitct_set h 32 (by omega)]
  omega
/-- WORDS and the model's numbers of them -/
def cdW : List Int := [13550, 670208, 4419, 119088, 17186, 247664, 583, 90302, 411]
theorem SKP_ex {t : Int → Int} {n : Int} : ∀ (N : Nat) (i : Int), i + N = n → ∃ p, SKP t n i p := by
  intro N
  induction N with
  | zero => intro i h; exact ⟨i, by omega, by omega, fun j _ _ => by omega, Or.inl (by omega)⟩
  | succ N ih =>
    intro i h
    by_cases hb : isB (t i)
    · obtain ⟨p, h1, h2, h3, h4⟩ := ih (i + 1) (by omega)
      refine ⟨p, by omega, h2, fun j j1 j2 => ?_, h4⟩
      by_cases e : j = i
      · rw [e]; exact hb
      · exact h3 j (by omega) j2
    · exact ⟨i, by omega, by omega, fun j _ _ => by omega, Or.inr hb⟩
theorem hrn_1 (t : Int → Int) (p : Int) : hrn t p 1 = t p - 96 := by simp [hrn]
theorem hrn_2 (t : Int → Int) (p : Int) : hrn t p 2 = 27 * (t p - 96) + t (p + 1) - 96 := by rw [show (2 : Nat) = 1 + 1 from rfl, hrn, hrn_1]; rfl
theorem hrn_3 (t : Int → Int) (p : Int) : hrn t p 3 = 27 * (27 * (t p - 96) + t (p + 1) - 96) + t (p + 2) - 96 := by rw [show (3 : Nat) = 2 + 1 from rfl, hrn, hrn_2]; rfl
theorem hrn_4 (t : Int → Int) (p : Int) : hrn t p 4 = 27 * (27 * (27 * (t p - 96) + t (p + 1) - 96) + t (p + 2) - 96) + t (p + 3) - 96 := by rw [show (4 : Nat) = 3 + 1 from rfl, hrn, hrn_3]; rfl
theorem hrn_5 (t : Int → Int) (p : Int) : hrn t p 5 = 27 * (27 * (27 * (27 * (t p - 96) + t (p + 1) - 96) + t (p + 2) - 96) + t (p + 3) - 96) + t (p + 4) - 96 := by rw [show (5 : Nat) = 4 + 1 from rfl, hrn, hrn_4]; rfl
theorem hrn_6 (t : Int → Int) (p : Int) : hrn t p 6 = 27 * (27 * (27 * (27 * (27 * (t p - 96) + t (p + 1) - 96) + t (p + 2) - 96) + t (p + 3) - 96) + t (p + 4) - 96) + t (p + 5) - 96 := by rw [show (6 : Nat) = 5 + 1 from rfl, hrn, hrn_5]; rfl
/-- a WORD by its signs -/
theorem WD_3 {t : Int → Int} {a e : Int} {k : Nat} (hl : sLn.getD k 0 = 3) : WD t a e k ↔ e - a = 3 ∧ t a = sCh k 0 ∧ t (a + 1) = sCh k 1 ∧ t (a + 2) = sCh k 2 := by
  unfold WD
  rw [hl]
  constructor
  · rintro ⟨h1, h2⟩
    have g := h2 0 (by omega) (by omega)
    rw [Int.add_zero] at g
    exact ⟨h1, g, h2 1 (by omega) (by omega), h2 2 (by omega) (by omega)⟩
  · rintro ⟨h1, h2, h3, h4⟩
    refine ⟨h1, fun j j0 j1 => ?_⟩
    have : j = 0 ∨ j = 1 ∨ j = 2 := by omega
    rcases this with rfl | rfl | rfl
    · rw [Int.add_zero]; exact h2
    · exact h3
    · exact h4
theorem WD_2 {t : Int → Int} {a e : Int} {k : Nat} (hl : sLn.getD k 0 = 2) : WD t a e k ↔ e - a = 2 ∧ t a = sCh k 0 ∧ t (a + 1) = sCh k 1 := by
  unfold WD
  rw [hl]
  constructor
  · rintro ⟨h1, h2⟩
    have g := h2 0 (by omega) (by omega)
    rw [Int.add_zero] at g
    exact ⟨h1, g, h2 1 (by omega) (by omega)⟩
  · rintro ⟨h1, h2, h3⟩
    refine ⟨h1, fun j j0 j1 => ?_⟩
    have : j = 0 ∨ j = 1 := by omega
    rcases this with rfl | rfl
    · rw [Int.add_zero]; exact h2
    · exact h3
theorem WD_4 {t : Int → Int} {a e : Int} {k : Nat} (hl : sLn.getD k 0 = 4) : WD t a e k ↔ e - a = 4 ∧ t a = sCh k 0 ∧ t (a + 1) = sCh k 1 ∧ t (a + 2) = sCh k 2 ∧ t (a + 3) = sCh k 3 := by
  unfold WD
  rw [hl]
  constructor
  · rintro ⟨h1, h2⟩
    have g := h2 0 (by omega) (by omega)
    rw [Int.add_zero] at g
    exact ⟨h1, g, h2 1 (by omega) (by omega), h2 2 (by omega) (by omega), h2 3 (by omega) (by omega)⟩
  · rintro ⟨h1, h2, h3, h4, h5⟩
    refine ⟨h1, fun j j0 j1 => ?_⟩
    have : j = 0 ∨ j = 1 ∨ j = 2 ∨ j = 3 := by omega
    rcases this with rfl | rfl | rfl | rfl
    · rw [Int.add_zero]; exact h2
    · exact h3
    · exact h4
    · exact h5
theorem WD_5 {t : Int → Int} {a e : Int} {k : Nat} (hl : sLn.getD k 0 = 5) : WD t a e k ↔ e - a = 5 ∧ t a = sCh k 0 ∧ t (a + 1) = sCh k 1 ∧ t (a + 2) = sCh k 2 ∧ t (a + 3) = sCh k 3 ∧ t (a + 4) = sCh k 4 := by
  unfold WD
  rw [hl]
  constructor
  · rintro ⟨h1, h2⟩
    have g := h2 0 (by omega) (by omega)
    rw [Int.add_zero] at g
    exact ⟨h1, g, h2 1 (by omega) (by omega), h2 2 (by omega) (by omega), h2 3 (by omega) (by omega), h2 4 (by omega) (by omega)⟩
  · rintro ⟨h1, h2, h3, h4, h5, h6⟩
    refine ⟨h1, fun j j0 j1 => ?_⟩
    have : j = 0 ∨ j = 1 ∨ j = 2 ∨ j = 3 ∨ j = 4 := by omega
    rcases this with rfl | rfl | rfl | rfl | rfl
    · rw [Int.add_zero]; exact h2
    · exact h3
    · exact h4
    · exact h5
    · exact h6
theorem cs0 : sCh 0 0 = 114 ∧ sCh 0 1 = 111 ∧ sCh 0 2 = 119 := by decide +kernel
theorem cs1 : sCh 1 0 = 97 ∧ sCh 1 1 = 103 ∧ sCh 1 2 = 97 ∧ sCh 1 3 = 105 ∧ sCh 1 4 = 110 := by decide +kernel
theorem cs2 : sCh 2 0 = 102 ∧ sCh 2 1 = 97 ∧ sCh 2 2 = 114 := by decide +kernel
theorem cs3 : sCh 3 0 = 102 ∧ sCh 3 1 = 97 ∧ sCh 3 2 = 105 ∧ sCh 3 3 = 114 := by decide +kernel
theorem cs4 : sCh 4 0 = 119 ∧ sCh 4 1 = 111 ∧ sCh 4 2 = 110 := by decide +kernel
theorem cs5 : sCh 5 0 = 108 ∧ sCh 5 1 = 111 ∧ sCh 5 2 = 115 ∧ sCh 5 3 = 116 := by decide +kernel
theorem cs6 : sCh 6 0 = 117 ∧ sCh 6 1 = 112 := by decide +kernel
theorem cs7 : sCh 7 0 = 100 ∧ sCh 7 1 = 111 ∧ sCh 7 2 = 119 ∧ sCh 7 3 = 110 := by decide +kernel
theorem cs8 : sCh 8 0 = 111 ∧ sCh 8 1 = 102 := by decide +kernel
def Wd (t : Int → Int) (a e : Int) : Int := if e - a ≤ 6 then hrn t a (e - a).toNat else -1
/-- the signs of a TOKEN of letters, and its number -/
theorem Wd_cases {t : Int → Int} {a e : Int} (ha : a < e) (hL : ∀ j, a ≤ j → j < e → isL (t j)) :
    (e - a = 1 ∧ isL (t a) ∧ Wd t a e = t a - 96) ∨
    (e - a = 2 ∧ (isL (t a) ∧ isL (t (a + 1))) ∧ Wd t a e = 27 * (t a - 96) + t (a + 1) - 96) ∨
    (e - a = 3 ∧ (isL (t a) ∧ isL (t (a + 1)) ∧ isL (t (a + 2))) ∧ Wd t a e = 27 * (27 * (t a - 96) + t (a + 1) - 96) + t (a + 2) - 96) ∨
    (e - a = 4 ∧ (isL (t a) ∧ isL (t (a + 1)) ∧ isL (t (a + 2)) ∧ isL (t (a + 3))) ∧ Wd t a e = 27 * (27 * (27 * (t a - 96) + t (a + 1) - 96) + t (a + 2) - 96) + t (a + 3) - 96) ∨
    (e - a = 5 ∧ (isL (t a) ∧ isL (t (a + 1)) ∧ isL (t (a + 2)) ∧ isL (t (a + 3)) ∧ isL (t (a + 4))) ∧ Wd t a e = 27 * (27 * (27 * (27 * (t a - 96) + t (a + 1) - 96) + t (a + 2) - 96) + t (a + 3) - 96) + t (a + 4) - 96) ∨
    (e - a = 6 ∧ (isL (t a) ∧ isL (t (a + 1)) ∧ isL (t (a + 2)) ∧ isL (t (a + 3)) ∧ isL (t (a + 4)) ∧ isL (t (a + 5))) ∧ Wd t a e = 27 * (27 * (27 * (27 * (27 * (t a - 96) + t (a + 1) - 96) + t (a + 2) - 96) + t (a + 3) - 96) + t (a + 4) - 96) + t (a + 5) - 96) ∨
    (6 < e - a ∧ Wd t a e = -1) := by
  have w : e - a ≤ 6 → Wd t a e = hrn t a (e - a).toNat := fun h => if_pos h
  have g0 := hL a (by omega) (by omega)
  by_cases h1 : e - a = 1
  · refine Or.inl ⟨h1, g0, ?_⟩
    rw [w (by omega), h1, ← hrn_1]; rfl
  · have g1 := hL (a + 1) (by omega) (by omega)
    by_cases h2 : e - a = 2
    · refine Or.inr (Or.inl ⟨h2, ⟨g0, g1⟩, ?_⟩)
      rw [w (by omega), h2, ← hrn_2]; rfl
    · have g2 := hL (a + 2) (by omega) (by omega)
      by_cases h3 : e - a = 3
      · refine Or.inr (Or.inr (Or.inl ⟨h3, ⟨g0, g1, g2⟩, ?_⟩))
        rw [w (by omega), h3, ← hrn_3]; rfl
      · have g3 := hL (a + 3) (by omega) (by omega)
        by_cases h4 : e - a = 4
        · refine Or.inr (Or.inr (Or.inr (Or.inl ⟨h4, ⟨g0, g1, g2, g3⟩, ?_⟩)))
          rw [w (by omega), h4, ← hrn_4]; rfl
        · have g4 := hL (a + 4) (by omega) (by omega)
          by_cases h5 : e - a = 5
          · refine Or.inr (Or.inr (Or.inr (Or.inr (Or.inl ⟨h5, ⟨g0, g1, g2, g3, g4⟩, ?_⟩))))
            rw [w (by omega), h5, ← hrn_5]; rfl
          · have g5 := hL (a + 5) (by omega) (by omega)
            by_cases h6 : e - a = 6
            · refine Or.inr (Or.inr (Or.inr (Or.inr (Or.inr (Or.inl ⟨h6, ⟨g0, g1, g2, g3, g4, g5⟩, ?_⟩)))))
              rw [w (by omega), h6, ← hrn_6]; rfl
            · exact Or.inr (Or.inr (Or.inr (Or.inr (Or.inr (Or.inr ⟨by omega, if_neg (by omega)⟩)))))
theorem WD_code {t : Int → Int} {a e : Int} (ha : a < e) (hL : ∀ j, a ≤ j → j < e → isL (t j)) : (Wd t a e = 13550 ↔ WD t a e 0) ∧ (Wd t a e = 670208 ↔ WD t a e 1) ∧ (Wd t a e = 4419 ↔ WD t a e 2) ∧ (Wd t a e = 119088 ↔ WD t a e 3) ∧ (Wd t a e = 17186 ↔ WD t a e 4) ∧ (Wd t a e = 247664 ↔ WD t a e 5) ∧ (Wd t a e = 583 ↔ WD t a e 6) ∧ (Wd t a e = 90302 ↔ WD t a e 7) ∧ (Wd t a e = 411 ↔ WD t a e 8) := by
  rw [WD_3 (k := 0) rfl, WD_5 (k := 1) rfl, WD_3 (k := 2) rfl, WD_4 (k := 3) rfl, WD_3 (k := 4) rfl, WD_4 (k := 5) rfl, WD_2 (k := 6) rfl, WD_4 (k := 7) rfl, WD_2 (k := 8) rfl]
  rw [cs0.1, cs0.2.1, cs0.2.2, cs1.1, cs1.2.1, cs1.2.2.1, cs1.2.2.2.1, cs1.2.2.2.2, cs2.1, cs2.2.1, cs2.2.2, cs3.1, cs3.2.1, cs3.2.2.1, cs3.2.2.2, cs4.1, cs4.2.1, cs4.2.2, cs5.1, cs5.2.1, cs5.2.2.1, cs5.2.2.2, cs6.1, cs6.2, cs7.1, cs7.2.1, cs7.2.2.1, cs7.2.2.2, cs8.1, cs8.2]
  have hc := Wd_cases ha hL
  generalize Wd t a e = W at hc
  unfold isL at hc
  rcases hc with h | h | h | h | h | h | h <;> refine ⟨?_, ?_, ?_, ?_, ?_, ?_, ?_, ?_, ?_⟩ <;> constructor <;> intro g <;> omega
theorem rah_word {t : Int → Int} {a e k : Int} (ha : a < e) (hL : ∀ j, a ≤ j → j < e → isL (t j)) (hk : KW t a e k) : rahS 2 (Wd t a e) = k := by
  obtain ⟨c0, c1, c2, c3, c4, c5, c6, c7, c8⟩ := WD_code ha hL
  unfold rahS
  rw [if_neg (by omega)]
  rcases hk with ⟨h1, h2⟩ | ⟨h1, h2⟩
  · have : k = 0 ∨ k = 1 ∨ k = 2 ∨ k = 3 ∨ k = 4 ∨ k = 5 ∨ k = 6 ∨ k = 7 ∨ k = 8 := by omega
    rcases this with rfl | rfl | rfl | rfl | rfl | rfl | rfl | rfl | rfl
    · rw [c0.mpr h2]; rfl
    · rw [c1.mpr h2]; rfl
    · rw [c2.mpr h2]; rfl
    · rw [c3.mpr h2]; rfl
    · rw [c4.mpr h2]; rfl
    · rw [c5.mpr h2]; rfl
    · rw [c6.mpr h2]; rfl
    · rw [c7.mpr h2]; rfl
    · rw [c8.mpr h2]; rfl
  · rw [if_neg (fun g => h2 0 (by omega) (c0.mp g)), if_neg (fun g => h2 1 (by omega) (c1.mp g)), if_neg (fun g => h2 2 (by omega) (c2.mp g)), if_neg (fun g => h2 3 (by omega) (c3.mp g)), if_neg (fun g => h2 4 (by omega) (c4.mp g)), if_neg (fun g => h2 5 (by omega) (c5.mp g)), if_neg (fun g => h2 6 (by omega) (c6.mp g)), if_neg (fun g => h2 7 (by omega) (c7.mp g)), if_neg (fun g => h2 8 (by omega) (c8.mp g)), h1]
theorem rah_no {K W : Int} (h : K ≠ 2) : rahS K W = -1 := if_pos h
section RD
variable (t : Int → Int) (n : Int) (lo hi : Int → Int)
/-- what is left to read, where a WORD, a NUMBER, a ; is awaited -/
def RW (i told : Int) (f : Int → Int) (mc E P mm : Int) (f2 : Int → Int) : Prop := ∃ K F T W U k, GoP t n i K F T W U ∧ PRL t n lo hi k K F T W told f mc E P mm f2
def RS (i told : Int) (f : Int → Int) (mc E P mm : Int) (f2 : Int → Int) : Prop := ∃ K F T W U, GoP t n i K F T W U ∧ ((K ≠ 4 ∧ E = 1 ∧ P = F) ∨ (K = 4 ∧ RW t n lo hi T told f (mc + 1) E P mm f2))
def RN (i r told : Int) (f : Int → Int) (mc E P mm : Int) (f2 : Int → Int) : Prop := ∃ K F T W U, GoP t n i K F T W U ∧ ((K ≠ 3 ∧ E = 1 ∧ P = F) ∨ (K = 3 ∧ ((¬ (lo r ≤ U ∧ U ≤ hi r) ∧ E = 2 ∧ P = F) ∨ ((lo r ≤ U ∧ U ≤ hi r) ∧ RS t n lo hi T told (fun j => if j = r then U else f j) mc E P mm f2))))
end RD
theorem go_tok {t : Int → Int} {n i a e : Int} (hs : SKP t n i a) (hl : ¬ (160 < n ∧ 160 ≤ a)) (hT : TKN t n a e) : ∃ K U, GoP t n i K a e (Wd t a e) U ∧ U = hr10 t a (if e - a ≤ 3 then (e - a).toNat else 3) ∧ ((¬ GOOD t a e ∧ K = 1) ∨ (GOOD t a e ∧ isL (t a) ∧ K = 2) ∨ (GOOD t a e ∧ ¬ isL (t a) ∧ e - a ≤ 3 ∧ K = 3) ∨ (GOOD t a e ∧ ¬ isL (t a) ∧ 3 < e - a ∧ K = 1)) := by
  have key : ∃ K, (¬ GOOD t a e ∧ K = 1) ∨ (GOOD t a e ∧ isL (t a) ∧ K = 2) ∨ (GOOD t a e ∧ ¬ isL (t a) ∧ e - a ≤ 3 ∧ K = 3) ∨ (GOOD t a e ∧ ¬ isL (t a) ∧ 3 < e - a ∧ K = (1 : Int)) := by
    by_cases h1 : GOOD t a e
    · by_cases h2 : isL (t a)
      · exact ⟨2, Or.inr (Or.inl ⟨h1, h2, rfl⟩)⟩
      · by_cases h3 : e - a ≤ 3
        · exact ⟨3, Or.inr (Or.inr (Or.inl ⟨h1, h2, h3, rfl⟩))⟩
        · exact ⟨1, Or.inr (Or.inr (Or.inr ⟨h1, h2, by omega, rfl⟩))⟩
    · exact ⟨1, Or.inl ⟨h1, rfl⟩⟩
  obtain ⟨K, hK⟩ := key
  refine ⟨K, _, ⟨a, hs, Or.inr ⟨hl, Or.inr ⟨?_, rfl, Or.inr ⟨hT, rfl, rfl, hK⟩⟩⟩⟩, rfl, hK⟩
  have := hT.1
  have := hT.2.1
  omega
theorem go_sign {t : Int → Int} {n i a : Int} (hs : SKP t n i a) (ha : a < n) (hl : ¬ (160 < n ∧ 160 ≤ a)) (h1 : ¬ isL (t a)) (h2 : ¬ isD (t a)) : ∃ K, GoP t n i K a (a + 1) 0 0 ∧ ((t a = 59 ∧ K = 4) ∨ (t a ≠ 59 ∧ K = 1)) := by
  by_cases h : t a = 59
  · exact ⟨4, ⟨a, hs, Or.inr ⟨hl, Or.inr ⟨ha, rfl, Or.inl ⟨h1, h2, rfl, Or.inl ⟨h, rfl⟩⟩⟩⟩⟩, Or.inl ⟨h, rfl⟩⟩
  · exact ⟨1, ⟨a, hs, Or.inr ⟨hl, Or.inr ⟨ha, rfl, Or.inl ⟨h1, h2, rfl, Or.inr ⟨h, rfl⟩⟩⟩⟩⟩, Or.inr ⟨h, rfl⟩⟩
/-- a WORD is awaited: no good TOKEN comes -/
theorem RW_bad {t : Int → Int} {n : Int} {lo hi : Int → Int} {i told : Int} {f : Int → Int} {mc mm K F T W U : Int} {f2 : Int → Int} (hg : GoP t n i K F T W U) (h0 : K ≠ 0) (hr : rahS K W = -1) : RW t n lo hi i told f mc 1 F mm f2 :=
  ⟨K, F, T, W, U, 1, hg, Or.inr ⟨h0, 0, told, f, T, 1, F, Or.inl ⟨hr, rfl, rfl, rfl⟩, Or.inl ⟨rfl, rfl, rfl⟩⟩⟩
theorem RW_twice {t : Int → Int} {n : Int} {lo hi : Int → Int} {i told : Int} {f : Int → Int} {mc mm K F T W U : Int} {f2 : Int → Int} (hg : GoP t n i K F T W U) (h0 : K ≠ 0) (hr : rahS K W ≠ -1) (hb : bandI (shrI told (rahS K W)) 1 = 1) : RW t n lo hi i told f mc 3 F mm f2 :=
  ⟨K, F, T, W, U, 1, hg, Or.inr ⟨h0, 0, told, f, T, 3, F, Or.inr ⟨hr, Or.inl ⟨hb, rfl, rfl, rfl⟩⟩, Or.inl ⟨rfl, rfl, rfl⟩⟩⟩
theorem RW_word {t : Int → Int} {n : Int} {lo hi : Int → Int} {i told : Int} {f : Int → Int} {mc E P mm K F T W U r : Int} {f2 : Int → Int} (hg : GoP t n i K F T W U) (h0 : K ≠ 0) (hr : rahS K W = r) (hr1 : r ≠ -1) (hb : bandI (shrI told r) 1 ≠ 1) (hN : RN t n lo hi T r (borI told (shlI 1 r)) f mc E P mm f2) : RW t n lo hi i told f mc E P mm f2 := by
  subst hr
  obtain ⟨K2, F2, T3, W2, U2, g2, h⟩ := hN
  rcases h with ⟨h1, h2, h3⟩ | ⟨h1, ⟨h2, h3, h4⟩ | ⟨h2, K3, F3, T4, W3, U3, g3, h⟩⟩
  · exact ⟨K, F, T, W, U, 1, hg, Or.inr ⟨h0, 0, told, f, T, 1, F2, Or.inr ⟨hr1, Or.inr ⟨hb, K2, F2, T3, W2, U2, g2, Or.inl ⟨h1, rfl, rfl, rfl⟩⟩⟩, Or.inl ⟨rfl, h2, h3⟩⟩⟩
  · exact ⟨K, F, T, W, U, 1, hg, Or.inr ⟨h0, 0, told, f, T, 2, F2, Or.inr ⟨hr1, Or.inr ⟨hb, K2, F2, T3, W2, U2, g2, Or.inr ⟨h1, Or.inl ⟨h2, rfl, rfl, rfl⟩⟩⟩⟩, Or.inl ⟨rfl, h3, h4⟩⟩⟩
  · rcases h with ⟨a1, a2, a3⟩ | ⟨a1, K5, F5, T5, W5, U5, k5, g5, p5⟩
    · exact ⟨K, F, T, W, U, 1, hg, Or.inr ⟨h0, 0, told, f, T4, 1, F3, Or.inr ⟨hr1, Or.inr ⟨hb, K2, F2, T3, W2, U2, g2, Or.inr ⟨h1, Or.inr ⟨h2, K3, F3, W3, U3, g3, Or.inl ⟨a1, rfl, rfl, rfl⟩⟩⟩⟩⟩, Or.inl ⟨rfl, a2, a3⟩⟩⟩
    · exact ⟨K, F, T, W, U, k5 + 1, hg, Or.inr ⟨h0, 1, borI told (shlI 1 (rahS K W)), (fun j => if j = rahS K W then U2 else f j), T4, 0, 0, Or.inr ⟨hr1, Or.inr ⟨hb, K2, F2, T3, W2, U2, g2, Or.inr ⟨h1, Or.inr ⟨h2, K3, F3, W3, U3, g3, Or.inr ⟨a1, rfl, rfl, rfl⟩⟩⟩⟩⟩, Or.inr ⟨rfl, K5, F5, T5, W5, U5, g5, p5⟩⟩⟩
/-! one reading -/
def EQ9 (f g : Int → Int) : Prop := ∀ j, 0 ≤ j → j < 9 → f j = g j
theorem RRP_one {t : Int → Int} {n : Int} {lo hi : Int → Int} {K F T W W' told : Int} {f g : Int → Int} {x x' told2 told2' T2 T2' E E' P P' : Int} {f2 g2 : Int → Int} (hW : K = 2 → W = W') (h : RRP t n lo hi K F T W told f x told2 f2 T2 E P) (h' : RRP t n lo hi K F T W' told g x' told2' g2 T2' E' P') (hfg : EQ9 f g) : x = x' ∧ (x = 0 → E = E' ∧ P = P') ∧ (x = 1 → told2 = told2' ∧ T2 = T2' ∧ EQ9 f2 g2) := by
  have hr : rahS K W = rahS K W' := by
    by_cases e : K = 2
    · rw [hW e]
    · rw [rah_no e, rah_no e]
  rcases h with ⟨a1, a2, a3, a4⟩ | ⟨a1, h⟩
  · rcases h' with ⟨b1, b2, b3, b4⟩ | ⟨b1, -⟩
    · omega
    · exact absurd (hr.symm.trans a1) b1
  · rcases h' with ⟨b1, -⟩ | ⟨b1, h'⟩
    · exact absurd (hr.trans b1) a1
    · rw [← hr] at h'
      rcases h with ⟨c1, c2, c3, c4⟩ | ⟨c1, K2, F2, T3, W2, U2, gg, h⟩
      · rcases h' with ⟨d1, d2, d3, d4⟩ | ⟨d1, -⟩
        · omega
        · exact absurd c1 d1
      · rcases h' with ⟨d1, -⟩ | ⟨d1, K2', F2', T3', W2', U2', gg', h'⟩
        · exact absurd d1 c1
        · obtain ⟨e1, e2, e3, e4, e5⟩ := GoP_one gg gg'
          subst e1; subst e2; subst e3
          rcases h with ⟨i1, i2, i3, i4⟩ | ⟨i1, h⟩
          · rcases h' with ⟨j1, j2, j3, j4⟩ | ⟨j1, -⟩
            · omega
            · exact absurd j1 i1
          · rcases h' with ⟨j1, -⟩ | ⟨j1, h'⟩
            · exact absurd i1 j1
            · have eU := e5 i1
              subst eU
              rcases h with ⟨k1, k2, k3, k4⟩ | ⟨k1, K3, F3, W3, U3, g3, h⟩
              · rcases h' with ⟨l1, l2, l3, l4⟩ | ⟨l1, -⟩
                · omega
                · exact absurd l1 k1
              · rcases h' with ⟨l1, -⟩ | ⟨l1, K3', F3', W3', U3', g3', h'⟩
                · exact absurd k1 l1
                · obtain ⟨q1, q2, q3, -, -⟩ := GoP_one g3 g3'
                  subst q1; subst q2; subst q3
                  rcases h with ⟨m1, m2, m3, m4⟩ | ⟨m1, m2, m3, m4⟩
                  · rcases h' with ⟨n1, n2, n3, n4⟩ | ⟨n1, -⟩
                    · omega
                    · exact absurd n1 m1
                  · rcases h' with ⟨n1, -⟩ | ⟨n1, n2, n3, n4⟩
                    · exact absurd m1 n1
                    · refine ⟨by omega, fun z => by omega, fun _ => ⟨by rw [m3, n3], rfl, fun j j0 j1 => ?_⟩⟩
                      rw [m4, n4]
                      show (if j = rahS K W then U2 else f j) = (if j = rahS K W then U2 else g j)
                      rw [hfg j j0 j1]
theorem PRL_one {t : Int → Int} {n : Int} {lo hi : Int → Int} : ∀ (k : Nat) {k' : Nat} {K F T W W' told : Int} {f g : Int → Int} {mc E E' P P' mm mm' : Int} {f2 g2 : Int → Int}, (K = 2 → W = W') → PRL t n lo hi k K F T W told f mc E P mm f2 → PRL t n lo hi k' K F T W' told g mc E' P' mm' g2 → EQ9 f g → E = E' ∧ (E ≠ 0 → P = P') ∧ (E = 0 → mm = mm' ∧ EQ9 f2 g2) := by
  intro k
  induction k with
  | zero => intro k' K F T W W' told f g mc E E' P P' mm mm' f2 g2 hW h; exact absurd h (by exact fun z => z)
  | succ k ih =>
    intro k' K F T W W' told f g mc E E' P P' mm mm' f2 g2 hW h h' hfg
    cases k' with
    | zero => exact absurd h' (by exact fun z => z)
    | succ k' =>
      rcases h with ⟨a1, a2, a3, a4⟩ | ⟨a1, x, told2, f3, T2, E2, P2, hr, h⟩
      · rcases h' with ⟨b1, b2, b3, b4⟩ | ⟨b1, -⟩
        · refine ⟨by omega, fun z => absurd a2 z, fun _ => ⟨by omega, ?_⟩⟩
          rw [a4, b4]; exact hfg
        · exact absurd a1 b1
      · rcases h' with ⟨b1, -⟩ | ⟨b1, x', told2', f3', T2', E2', P2', hr', h'⟩
        · exact absurd b1 a1
        · obtain ⟨q1, q2, q3⟩ := RRP_one hW hr hr' hfg
          have e0 := RRP_E hr
          rcases h with ⟨c1, c2, c3⟩ | ⟨c1, K2, F2, T3, W2, U2, g2', h⟩
          · rcases h' with ⟨d1, d2, d3⟩ | ⟨d1, -⟩
            · have := q2 c1
              refine ⟨by omega, fun _ => by omega, fun z => by omega⟩
            · omega
          · rcases h' with ⟨d1, -⟩ | ⟨d1, K2', F2', T3', W2', U2', g2'', h'⟩
            · omega
            · obtain ⟨r1, r2, r3⟩ := q3 c1
              subst r1; subst r2
              obtain ⟨s1, s2, s3, s4, -⟩ := GoP_one g2' g2''
              subst s1; subst s2; subst s3
              exact ih s4 h h' r3
theorem RW_one {t : Int → Int} {n : Int} {lo hi : Int → Int} {i told : Int} {f g : Int → Int} {mc E E' P P' mm mm' : Int} {f2 g2 : Int → Int} (h : RW t n lo hi i told f mc E P mm f2) (h' : RW t n lo hi i told g mc E' P' mm' g2) (hfg : EQ9 f g) : E = E' ∧ (E ≠ 0 → P = P') ∧ (E = 0 → mm = mm' ∧ EQ9 f2 g2) := by
  obtain ⟨K, F, T, W, U, k, h1, h2⟩ := h
  obtain ⟨K', F', T', W', U', k', h1', h2'⟩ := h'
  obtain ⟨s1, s2, s3, s4, -⟩ := GoP_one h1 h1'
  subst s1; subst s2; subst s3
  exact PRL_one k s4 h2 h2' hfg
