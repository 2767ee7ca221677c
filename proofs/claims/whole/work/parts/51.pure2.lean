/-! SENT: assignments, the best, the first of them -/
def Val (m n : Nat) (ok : Int → Int → Prop) (w : Int → Int) : Prop := (∀ s : Int, 0 ≤ s → s < m → w s = -1 ∨ ((0 ≤ w s ∧ w s < n) ∧ ok s (w s))) ∧ ∀ s t : Int, 0 ≤ s → s < m → 0 ≤ t → t < m → w s = w t → w s ≠ -1 → s = t
def cE (E : Int) (c : Int → Int → Int) (w : Int → Int) (m : Nat) : Int := sg (fun s => if w s = -1 then E else c s (w s)) m
def Opt (E : Int) (m n : Nat) (ok : Int → Int → Prop) (c : Int → Int → Int) (w : Int → Int) : Prop := Val m n ok w ∧ ∀ b, Val m n ok b → cE E c w m ≤ cE E c b m
def Lex (E : Int) (m n : Nat) (ok : Int → Int → Prop) (c : Int → Int → Int) (w : Int → Int) : Prop := Opt E m n ok c w ∧ ∀ s : Int, 0 ≤ s → s < m → ∀ b, Opt E m n ok c b → (∀ t : Int, 0 ≤ t → t < s → b t = w t) → b s ≠ -1 → w s ≠ -1 ∧ w s ≤ b s
theorem Lex_uniq {E : Int} {m n : Nat} {ok : Int → Int → Prop} {c : Int → Int → Int} {w x : Int → Int} (hw : Lex E m n ok c w) (hx : Lex E m n ok c x) : ∀ s : Int, 0 ≤ s → s < m → w s = x s := by
  have h : ∀ k : Nat, ∀ s : Int, 0 ≤ s → s < m → s < k → w s = x s := by
    intro k
    induction k with
    | zero => intro s a b d; omega
    | succ k ih =>
      intro s s0 s1 s2
      have a1 := hw.2 s s0 s1 x hx.1 (fun t t0 t1 => (ih t t0 (by omega) (by omega)).symm)
      have a2 := hx.2 s s0 s1 w hw.1 (fun t t0 t1 => ih t t0 (by omega) (by omega))
      by_cases e1 : w s = -1
      · by_cases e2 : x s = -1
        · omega
        · exact absurd e1 (a1 e2).1
      · have := a2 e1
        have := a1 this.1
        omega
  intro s s0 s1
  exact h (m + 1) s s0 s1 (by omega)
theorem Opt_scale {m n : Nat} {ok : Int → Int → Prop} {c : Int → Int → Int} (hm : m ≤ 16) (hc : ∀ s u : Int, 0 ≤ s → s < m → 0 ≤ u → u < n → ok s u → 0 ≤ c s u ∧ c s u ≤ 5148) (w : Int → Int) : Opt 100000 m n ok c w ↔ Opt 1000000 m n ok c w := by
  have key : ∀ b, Val m n ok b → ∃ k C : Int, 0 ≤ C ∧ C ≤ 82368 ∧ ∀ E : Int, cE E c b m = E * k + C := by
    intro b hb
    refine ⟨sg (fun s => if b s = -1 then 1 else 0) m, sg (fun s => if b s = -1 then 0 else c s (b s)) m, ?_, ?_, fun E => ?_⟩
    · refine sg_nn m (fun s s0 s1 => ?_)
      show 0 ≤ if b s = -1 then 0 else c s (b s)
      split
      · omega
      · rename_i h
        rcases hb.1 s s0 s1 with h1 | h1
        · exact absurd h1 h
        · exact (hc s (b s) s0 s1 h1.1.1 h1.1.2 h1.2).1
    · have h := sg_le (f := fun s => if b s = -1 then 0 else c s (b s)) (g := fun _ => 5148) m (fun s s0 s1 => by
        show (if b s = -1 then 0 else c s (b s)) ≤ 5148
        split
        · omega
        · rename_i h
          rcases hb.1 s s0 s1 with h1 | h1
          · exact absurd h1 h
          · exact (hc s (b s) s0 s1 h1.1.1 h1.1.2 h1.2).2)
      rw [sg_const] at h
      omega
    · rw [← sg_mul, ← sg_add]
      refine sg_congr m (fun s s0 s1 => ?_)
      show (if b s = -1 then E else c s (b s)) = E * (if b s = -1 then 1 else 0) + (if b s = -1 then 0 else c s (b s))
      split
      · omega
      · omega
  constructor
  · rintro ⟨h1, h2⟩
    refine ⟨h1, fun b hb => ?_⟩
    obtain ⟨k, C, c0, c1, e1⟩ := key w h1
    obtain ⟨k', C', c0', c1', e1'⟩ := key b hb
    have := h2 b hb
    rw [e1, e1'] at this ⊢
    omega
  · rintro ⟨h1, h2⟩
    refine ⟨h1, fun b hb => ?_⟩
    obtain ⟨k, C, c0, c1, e1⟩ := key w h1
    obtain ⟨k', C', c0', c1', e1'⟩ := key b hb
    have := h2 b hb
    rw [e1, e1'] at this ⊢
    omega
theorem Lex_scale {m n : Nat} {ok : Int → Int → Prop} {c : Int → Int → Int} (hm : m ≤ 16) (hc : ∀ s u : Int, 0 ≤ s → s < m → 0 ≤ u → u < n → ok s u → 0 ≤ c s u ∧ c s u ≤ 5148) {w : Int → Int} (h : Lex 100000 m n ok c w) : Lex 1000000 m n ok c w :=
  ⟨(Opt_scale hm hc w).mp h.1, fun s s0 s1 b hb ht hs => h.2 s s0 s1 b ((Opt_scale hm hc b).mpr hb) ht hs⟩
/-- columns: UMPIRES, and behind them as many empty ones as there are SEATS -/
def rd (n : Nat) (c : Int) : Int := if c < n then c else -1
def lift (n : Nat) (b : Int → Int) (s : Int) : Int := if b s = -1 then n + s else b s
theorem lift_ok {m n : Nat} {ok : Int → Int → Prop} {b : Int → Int} (hb : Val m n ok b) : ran m (m + n) (lift n b) ∧ inj m (lift n b) ∧ ∀ s : Int, 0 ≤ s → s < m → rd n (lift n b s) = b s := by
  refine ⟨fun s s0 s1 => ?_, fun s t s0 s1 t0 t1 e => ?_, fun s s0 s1 => ?_⟩
  · unfold lift
    rcases hb.1 s s0 s1 with h | h
    · rw [if_pos h]; omega
    · rw [if_neg (by omega)]; omega
  · unfold lift at e
    rcases hb.1 s s0 s1 with h | h
    · rw [if_pos h] at e
      rcases hb.1 t t0 t1 with g | g
      · rw [if_pos g] at e; omega
      · rw [if_neg (by omega)] at e; omega
    · rw [if_neg (by omega)] at e
      rcases hb.1 t t0 t1 with g | g
      · rw [if_pos g] at e; omega
      · rw [if_neg (by omega)] at e
        exact hb.2 s t s0 s1 t0 t1 e (by omega)
  · unfold lift rd
    rcases hb.1 s s0 s1 with h | h
    · rw [if_pos h, if_neg (by omega), h]
    · have h2 : b s ≠ -1 := by omega
      rw [if_neg h2, if_pos h.1.2]
/-- an assignment as columns, like a on the SEATS ahead of k -/
theorem ext_cols {m n : Nat} {ok : Int → Int → Prop} {a b : Int → Int} (hb : Val m n ok b) (ra : ran m (m + n) a) (ia : inj m a) (k : Int) (hk : k ≤ m) (hab : ∀ s : Int, 0 ≤ s → s < k → rd n (a s) = b s) :
    ∃ d : Int → Int, ran m (m + n) d ∧ inj m d ∧ (∀ s : Int, 0 ≤ s → s < m → rd n (d s) = b s) ∧ ∀ s : Int, 0 ≤ s → s < k → d s = a s := by
  have h : ∀ i : Nat, i ≤ m → ∃ d : Int → Int, ran i (m + n) d ∧ inj i d ∧ (∀ s : Int, 0 ≤ s → s < i → rd n (d s) = b s) ∧ ∀ s : Int, 0 ≤ s → s < k → s < i → d s = a s := by
    intro i
    induction i with
    | zero => exact fun _ => ⟨fun _ => 0, fun s a b => by omega, fun s t a b => by omega, fun s a b => by omega, fun s a b c => by omega⟩
    | succ i ih =>
      intro hi
      obtain ⟨d, d1, d2, d3, d4⟩ := ih (by omega)
      have put : ∀ x : Int, (0 ≤ x ∧ x < ((m + n : Nat) : Int)) → rd n x = b i → (∀ s : Int, 0 ≤ s → s < i → d s ≠ x) → ((i : Int) < k → x = a i) → ∃ d : Int → Int, ran (i + 1) (m + n) d ∧ inj (i + 1) d ∧ (∀ s : Int, 0 ≤ s → s < ((i + 1 : Nat) : Int) → rd n (d s) = b s) ∧ ∀ s : Int, 0 ≤ s → s < k → s < ((i + 1 : Nat) : Int) → d s = a s := by
        intro x hx e1 hne hk2
        refine ⟨fun s => if s = i then x else d s, fun s s0 s1 => ?_, fun s t s0 s1 t0 t1 e => ?_, fun s s0 s1 => ?_, fun s s0 s1 s2 => ?_⟩
        · show 0 ≤ (if s = i then x else d s) ∧ (if s = i then x else d s) < _
          by_cases hs : s = i
          · rw [if_pos hs]; exact hx
          · rw [if_neg hs]; exact d1 s s0 (by omega)
        · have e' : (if s = i then x else d s) = (if t = i then x else d t) := e
          by_cases hs : s = i
          · by_cases ht : t = i
            · omega
            · rw [if_pos hs, if_neg ht] at e'
              exact absurd e'.symm (hne t t0 (by omega))
          · by_cases ht : t = i
            · rw [if_neg hs, if_pos ht] at e'
              exact absurd e' (hne s s0 (by omega))
            · rw [if_neg hs, if_neg ht] at e'
              exact d2 s t s0 (by omega) t0 (by omega) e'
        · show rd n (if s = i then x else d s) = b s
          by_cases hs : s = i
          · rw [if_pos hs, hs]; exact e1
          · rw [if_neg hs]; exact d3 s s0 (by omega)
        · show (if s = i then x else d s) = a s
          by_cases hs : s = i
          · rw [if_pos hs, hs]; exact hk2 (by omega)
          · rw [if_neg hs]; exact d4 s s0 s1 (by omega)
      by_cases hik : (i : Int) < k
      · refine put (a i) (ra i (by omega) (by omega)) (hab i (by omega) hik) (fun s s0 s1 e => ?_) (fun _ => rfl)
        rw [d4 s s0 (by omega) s1] at e
        have := ia s i s0 (by omega) (by omega) (by omega) e
        omega
      · rcases hb.1 i (by omega) (by omega) with h | h
        · obtain ⟨x, x0, x1, x2⟩ := fresh_in d i n
          refine put x (by omega) ?_ x2 (fun q => absurd q hik)
          unfold rd
          rw [if_neg (by omega), h]
        · refine put (b i) (by omega) ?_ (fun s s0 s1 e => ?_) (fun q => absurd q hik)
          · unfold rd
            rw [if_pos h.1.2]
          · have e2 := d3 s s0 s1
            rw [e] at e2
            unfold rd at e2
            rw [if_pos h.1.2] at e2
            have := hb.2 i s (by omega) (by omega) s0 (by omega) e2 (by omega)
            omega
  obtain ⟨d, d1, d2, d3, d4⟩ := h m (Nat.le_refl _)
  exact ⟨d, d1, d2, d3, fun s s0 s1 => d4 s s0 s1 (by omega)⟩
