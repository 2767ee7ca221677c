/-! a text has one reading -/
theorem SKP_one {t : Int → Int} {n i p q : Int} (h : SKP t n i p) (h2 : SKP t n i q) : p = q := by
  obtain ⟨a1, a2, a3, a4⟩ := h
  obtain ⟨b1, b2, b3, b4⟩ := h2
  by_cases h1 : p < q
  · rcases a4 with e | e
    · omega
    · exact absurd (b3 p a1 h1) e
  · by_cases h3 : q < p
    · rcases b4 with e | e
      · omega
      · exact absurd (a3 q b1 h3) e
    · omega
theorem TKN_one {t : Int → Int} {n p e q : Int} (h : TKN t n p e) (h2 : TKN t n p q) : e = q := by
  obtain ⟨a1, a2, a3, a4⟩ := h
  obtain ⟨b1, b2, b3, b4⟩ := h2
  by_cases h1 : e < q
  · rcases a4 with y | y
    · omega
    · exact absurd (b3 e (by omega) h1) y
  · by_cases h3 : q < e
    · rcases b4 with y | y
      · omega
      · exact absurd (a3 q (by omega) h3) y
    · omega
theorem GoP_one {t : Int → Int} {n i K F T W U K2 F2 T2 W2 U2 : Int} (h : GoP t n i K F T W U) (h2 : GoP t n i K2 F2 T2 W2 U2) : K = K2 ∧ F = F2 ∧ T = T2 ∧ (K = 2 → W = W2) ∧ (K = 3 → U = U2) := by
  obtain ⟨p, hs, h⟩ := h
  obtain ⟨q, hs2, h2⟩ := h2
  have e := SKP_one hs hs2
  subst e
  rcases h with ⟨a1, a2, a3, a4, a5⟩ | ⟨a1, h⟩
  · rcases h2 with ⟨b1, b2, b3, b4, b5⟩ | ⟨b1, -⟩
    · omega
    · exact absurd ⟨a1, a2⟩ b1
  · rcases h2 with ⟨b1, b2, -⟩ | ⟨b1, h2⟩
    · exact absurd ⟨b1, b2⟩ a1
    · rcases h with ⟨c1, c2, c3, c4⟩ | ⟨c1, c2, h⟩
      · rcases h2 with ⟨e1, e2, e3, e4⟩ | ⟨e1, -⟩
        · omega
        · omega
      · rcases h2 with ⟨e1, -⟩ | ⟨e1, e2, h2⟩
        · omega
        · rcases h with ⟨f1, f2, f3, f4⟩ | ⟨f1, f2, f3, f4⟩
          · rcases h2 with ⟨g1, g2, g3, g4⟩ | ⟨g1, -⟩
            · omega
            · rcases g1.2.2.1 p (by omega) g1.1 with y | y
              · exact absurd y f1
              · exact absurd y f2
          · rcases h2 with ⟨g1, g2, -⟩ | ⟨g1, g2, g3, g4⟩
            · rcases f1.2.2.1 p (by omega) f1.1 with y | y
              · exact absurd y g1
              · exact absurd y g2
            · have eT := TKN_one f1 g1
              subst eT
              refine ⟨?_, by omega, rfl, fun _ => by rw [f2, g2], fun _ => by rw [f3, g3]⟩
              rcases f4 with ⟨x1, x2⟩ | ⟨x1, x2, x3⟩ | ⟨x1, x2, x3, x4⟩ | ⟨x1, x2, x3, x4⟩ <;> rcases g4 with ⟨y1, y2⟩ | ⟨y1, y2, y3⟩ | ⟨y1, y2, y3, y4⟩ | ⟨y1, y2, y3, y4⟩ <;> first | omega | (exact absurd x1 y1) | (exact absurd y1 x1) | (exact absurd x2 y2) | (exact absurd y2 x2)
