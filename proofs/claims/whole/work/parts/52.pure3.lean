/-! SEND, the square table -/
def cF (m n : Nat) (P : Int → Int → Int) (i c : Int) : Int := if i < m then (if c < n then P i c else 100000) else 0
def FM (m n : Nat) (P : Int → Int → Int) (a r q : Int → Int) : Prop := ran (m + n) (m + n) a ∧ inj (m + n) a ∧ (∀ c : Int, 0 ≤ c → c < ((m + n : Nat) : Int) → q c ≤ 0) ∧ (∀ i c : Int, 0 ≤ i → i < ((m + n : Nat) : Int) → 0 ≤ c → c < ((m + n : Nat) : Int) → r i + q c ≤ cF m n P i c) ∧ ∀ i : Int, 0 ≤ i → i < ((m + n : Nat) : Int) → cF m n P i (a i) = r i + q (a i)
def PK (m n : Nat) (ok : Int → Int → Prop) (c P : Int → Int → Int) : Prop := ∀ s u : Int, 0 ≤ s → s < m → 0 ≤ u → u < n → (ok s u ∧ P s u = c s u ∧ 0 ≤ c s u ∧ c s u ≤ 5148) ∨ (¬ ok s u ∧ P s u = 10000000)
theorem FM_hit {m n : Nat} {P : Int → Int → Int} {a r q : Int → Int} (h : FM m n P a r q) (c : Int) (c0 : 0 ≤ c) (c1 : c < ((m + n : Nat) : Int)) : ∃ i : Int, 0 ≤ i ∧ i < ((m + n : Nat) : Int) ∧ a i = c := by
  apply Classical.byContradiction
  intro g
  have := php_lt a h.1 h.2.1 c c0 c1 (fun s s0 s1 e => g ⟨s, s0, s1, e⟩)
  omega
theorem FM_idle {m n : Nat} {P : Int → Int → Int} {a r q : Int → Int} (h : FM m n P a r q) : ∃ Qm : Int, (∀ c : Int, 0 ≤ c → c < ((m + n : Nat) : Int) → q c ≤ Qm) ∧ (∀ c : Int, 0 ≤ c → c < ((m + n : Nat) : Int) → offI m a c → q c = Qm) ∧ ∀ i : Int, m ≤ i → i < ((m + n : Nat) : Int) → r i = - Qm := by
  have hid : ∀ i : Int, (m : Int) ≤ i → i < ((m + n : Nat) : Int) → q (a i) = - r i ∧ ∀ c : Int, 0 ≤ c → c < ((m + n : Nat) : Int) → q c ≤ - r i := by
    intro i i0 i1
    have e := h.2.2.2.2 i (by omega) i1
    unfold cF at e
    rw [if_neg (by omega)] at e
    refine ⟨by omega, fun c c0 c1 => ?_⟩
    have e2 := h.2.2.2.1 i c (by omega) i1 c0 c1
    unfold cF at e2
    rw [if_neg (by omega)] at e2
    omega
  by_cases hn : n = 0
  · refine ⟨0, h.2.2.1, fun c c0 c1 hc => ?_, fun i i0 i1 => by omega⟩
    obtain ⟨i, i0, i1, e⟩ := FM_hit h c c0 c1
    exact absurd e (hc i i0 (by omega))
  · have hm := hid m (by omega) (by omega)
    refine ⟨- r m, hm.2, fun c c0 c1 hc => ?_, fun i i0 i1 => ?_⟩
    · obtain ⟨i, i0, i1, e⟩ := FM_hit h c c0 c1
      have hi : (m : Int) ≤ i := by
        apply Classical.byContradiction
        intro g
        exact hc i i0 (by omega) e
      have h1 := hid i hi i1
      have h2 := h1.2 (a m) (h.1 m (by omega) (by omega)).1 (h.1 m (by omega) (by omega)).2
      have h3 := hm.2 (a i) (h.1 i i0 i1).1 (h.1 i i0 i1).2
      rw [← e]
      omega
    · have h1 := hid i i0 i1
      have h2 := h1.2 (a m) (h.1 m (by omega) (by omega)).1 (h.1 m (by omega) (by omega)).2
      have h3 := hm.2 (a i) (h.1 i (by omega) i1).1 (h.1 i (by omega) i1).2
      omega
theorem FM_seats {m n : Nat} {P : Int → Int → Int} {a r q : Int → Int} (h : FM m n P a r q) : ran m (m + n) a ∧ inj m a := ⟨fun s s0 s1 => h.1 s s0 (by omega), fun s t s0 s1 t0 t1 e => h.2.1 s t s0 (by omega) t0 (by omega) e⟩
theorem FM_dual {m n : Nat} {P : Int → Int → Int} {a r q b : Int → Int} (h : FM m n P a r q) (rb : ran m (m + n) b) (ib : inj m b) : sg (fun s => cF m n P s (a s)) m ≤ sg (fun s => cF m n P s (b s)) m ∧ (sg (fun s => cF m n P s (b s)) m ≤ sg (fun s => cF m n P s (a s)) m → ∀ s : Int, 0 ≤ s → s < m → cF m n P s (b s) = r s + q (b s)) := by
  obtain ⟨Qm, q1, q2, -⟩ := FM_idle h
  obtain ⟨ra, ia⟩ := FM_seats h
  have hg : ∀ s : Int, 0 ≤ s → s < m → r s + q (b s) ≤ cF m n P s (b s) := fun s s0 s1 => h.2.2.2.1 s (b s) s0 (by omega) (rb s s0 s1).1 (rb s s0 s1).2
  have hd := dual (cF m n P) a b r q Qm ra ia rb ib q1 q2 (fun s s0 s1 => h.2.2.2.2 s s0 (by omega))
  refine ⟨?_, fun hle => (hd.2 hg hle).1⟩
  have g0 := sg_nn (f := fun s => cF m n P s (b s) - r s - q (b s)) m (fun s s0 s1 => by
    show 0 ≤ cF m n P s (b s) - r s - q (b s)
    have := hg s s0 s1
    omega)
  have := hd.1
  omega
theorem cE_cols {m n : Nat} {ok : Int → Int → Prop} {c P : Int → Int → Int} (hP : PK m n ok c P) {b d : Int → Int} (hb : Val m n ok b) (rd0 : ran m (m + n) d) (hd : ∀ s : Int, 0 ≤ s → s < m → rd n (d s) = b s) : cE 100000 c b m = sg (fun s => cF m n P s (d s)) m := by
  refine sg_congr m (fun s s0 s1 => ?_)
  show (if b s = -1 then 100000 else c s (b s)) = cF m n P s (d s)
  have e := hd s s0 s1
  have hr := rd0 s s0 s1
  unfold rd at e
  unfold cF
  rw [if_pos s1]
  by_cases h : d s < n
  · rw [if_pos h] at e
    rw [if_pos h, if_neg (by omega)]
    rcases hb.1 s s0 s1 with g | g
    · omega
    · rcases hP s (d s) s0 s1 hr.1 h with k | k
      · rw [k.2.1, e]
      · rw [e] at k; exact absurd g.2 k.1
  · rw [if_neg h] at e
    rw [if_neg h, if_pos e.symm]
theorem FM_val {m n : Nat} {ok : Int → Int → Prop} {c P : Int → Int → Int} {a r q : Int → Int} (hm : m ≤ 16) (hP : PK m n ok c P) (h : FM m n P a r q) : Val m n ok (fun s => rd n (a s)) := by
  obtain ⟨ra, ia⟩ := FM_seats h
  have h1 := (FM_dual (b := fun s => n + s) h (fun s s0 s1 => by show 0 ≤ (n : Int) + s ∧ (n : Int) + s < _; omega) (fun s t _ _ _ _ e => by have e' : (n : Int) + s = n + t := e; omega)).1
  have e1 : sg (fun s => cF m n P s (n + s)) m = m * 100000 := by
    rw [← sg_const]
    refine sg_congr m (fun s s0 s1 => ?_)
    show cF m n P s (n + s) = 100000
    unfold cF
    rw [if_pos s1, if_neg (by omega)]
  have nn : ∀ s : Int, 0 ≤ s → s < m → 0 ≤ cF m n P s (a s) := fun s s0 s1 => by
    unfold cF
    rw [if_pos s1]
    by_cases g : a s < n
    · rw [if_pos g]
      rcases hP s (a s) s0 s1 (ra s s0 s1).1 g with k | k <;> omega
    · rw [if_neg g]; omega
  refine ⟨fun s s0 s1 => ?_, fun s t s0 s1 t0 t1 e hne => ?_⟩
  · show rd n (a s) = -1 ∨ ((0 ≤ rd n (a s) ∧ rd n (a s) < n) ∧ ok s (rd n (a s)))
    unfold rd
    by_cases g : a s < n
    · rw [if_pos g]
      refine Or.inr ⟨⟨(ra s s0 s1).1, g⟩, ?_⟩
      rcases hP s (a s) s0 s1 (ra s s0 s1).1 g with k | k
      · exact k.1
      · have h2 : cF m n P s (a s) ≤ sg (fun s => cF m n P s (a s)) m := sg_one (f := fun s => cF m n P s (a s)) m nn s s0 s1
        have h3 : cF m n P s (a s) = 10000000 := by
          unfold cF
          rw [if_pos s1, if_pos g, k.2]
        omega
    · rw [if_neg g]; exact Or.inl rfl
  · have e' : rd n (a s) = rd n (a t) := e
    have hne' : rd n (a s) ≠ -1 := hne
    unfold rd at e' hne'
    by_cases g : a s < n
    · rw [if_pos g] at e' hne'
      by_cases k : a t < n
      · rw [if_pos k] at e'
        exact ia s t s0 s1 t0 t1 e'
      · rw [if_neg k] at e'
        exact absurd e' hne'
    · rw [if_neg g] at hne'
      exact absurd rfl hne'
theorem FM_opt {m n : Nat} {ok : Int → Int → Prop} {c P : Int → Int → Int} {a r q : Int → Int} (hm : m ≤ 16) (hP : PK m n ok c P) (h : FM m n P a r q) : Opt 100000 m n ok c (fun s => rd n (a s)) := by
  refine ⟨FM_val hm hP h, fun b hb => ?_⟩
  obtain ⟨l1, l2, l3⟩ := lift_ok hb
  rw [cE_cols hP (FM_val hm hP h) (FM_seats h).1 (fun _ _ _ => rfl), cE_cols hP hb l1 l3]
  exact (FM_dual h l1 l2).1
/-- a best table that is like a ahead of k: its column at k is tight, and one of S, if S is closed under the moves behind k -/
theorem FM_first {m n : Nat} {ok : Int → Int → Prop} {c P : Int → Int → Int} {a r q : Int → Int} (hm : m ≤ 16) (hP : PK m n ok c P) (h : FM m n P a r q) {k : Int} (k0 : 0 ≤ k) (k1 : k < m) {b : Int → Int} (hb : Opt 100000 m n ok c b) (hab : ∀ t : Int, 0 ≤ t → t < k → b t = rd n (a t)) (hk : b k ≠ -1) :
    cF m n P k (b k) = r k + q (b k) ∧ ∀ sn : Int → Int, sn (a k) = 1 → (∀ i : Int, 0 ≤ i → i < k → sn (a i) ≠ 1) → (∀ i x : Int, k < i → i < ((m + n : Nat) : Int) → 0 ≤ x → x < ((m + n : Nat) : Int) → sn x = 1 → cF m n P i x = r i + q x → sn (a i) = 1) → sn (b k) = 1 := by
  obtain ⟨ra, ia⟩ := FM_seats h
  obtain ⟨d, d1, d2, d3, d4⟩ := ext_cols hb.1 ra ia k (by omega) (fun s s0 s1 => (hab s s0 s1).symm)
  have hle : sg (fun s => cF m n P s (d s)) m ≤ sg (fun s => cF m n P s (a s)) m := by
    rw [← cE_cols hP hb.1 d1 d3, ← cE_cols hP (FM_val hm hP h) ra (fun _ _ _ => rfl)]
    exact hb.2 _ (FM_val hm hP h)
  have ek : d k = b k := by
    have e := d3 k k0 k1
    unfold rd at e
    by_cases g : d k < n
    · rwa [if_pos g] at e
    · rw [if_neg g] at e
      exact absurd e.symm hk
  have ht := (FM_dual h d1 d2).2 hle
  refine ⟨by rw [← ek]; exact ht k k0 k1, fun sn s1 s2 s3 => ?_⟩
  apply Classical.byContradiction
  intro hno
  rw [← ek] at hno
  obtain ⟨Qm, q1, q2, q4⟩ := FM_idle h
  -- the parts turned: one more on S's columns, one less on their rows
  have hQ : ∃ Q2 : Int, (∀ x : Int, 0 ≤ x → x < ((m + n : Nat) : Int) → (if sn x = 1 then q x + 1 else q x) ≤ Q2) ∧ ∀ x : Int, 0 ≤ x → x < ((m + n : Nat) : Int) → offI m a x → (if sn x = 1 then q x + 1 else q x) = Q2 := by
    by_cases hx : ∃ x : Int, 0 ≤ x ∧ x < ((m + n : Nat) : Int) ∧ sn x = 1 ∧ q x = Qm
    · obtain ⟨x, x0, x1, x2, x3⟩ := hx
      refine ⟨Qm + 1, fun y y0 y1 => ?_, fun y y0 y1 hy => ?_⟩
      · have := q1 y y0 y1
        split <;> omega
      · obtain ⟨i, i0, i1, e⟩ := FM_hit h y y0 y1
        have hi : (m : Int) ≤ i := by
          apply Classical.byContradiction
          intro g
          exact hy i i0 (by omega) e
        have h5 := s3 i x (by omega) i1 x0 x1 x2 (by
          unfold cF
          rw [if_neg (by omega), q4 i hi i1, x3]
          omega)
        rw [e] at h5
        rw [if_pos h5, q2 y y0 y1 hy]
    · refine ⟨Qm, fun y y0 y1 => ?_, fun y y0 y1 hy => ?_⟩
      · have h1 := q1 y y0 y1
        by_cases g : sn y = 1
        · rw [if_pos g]
          have : q y ≠ Qm := fun e => hx ⟨y, y0, y1, g, e⟩
          omega
        · rw [if_neg g]; exact h1
      · have h1 := q2 y y0 y1 hy
        rw [if_neg (fun g => hx ⟨y, y0, y1, g, h1⟩), h1]
  obtain ⟨Q2, r1, r2⟩ := hQ
  have hd := dual (cF m n P) a d (fun i => if sn (a i) = 1 then r i - 1 else r i) (fun x => if sn x = 1 then q x + 1 else q x) Q2 ra ia d1 d2 r1 r2 (fun s s0 s1 => by
    show cF m n P s (a s) = (if sn (a s) = 1 then r s - 1 else r s) + (if sn (a s) = 1 then q (a s) + 1 else q (a s))
    have := h.2.2.2.2 s s0 (by omega)
    split <;> omega)
  have hg : ∀ s : Int, 0 ≤ s → s < m → 0 ≤ cF m n P s (d s) - (if sn (a s) = 1 then r s - 1 else r s) - (if sn (d s) = 1 then q (d s) + 1 else q (d s)) := by
    intro s s0 t1
    have g1 := h.2.2.2.1 s (d s) s0 (by omega) (d1 s s0 t1).1 (d1 s s0 t1).2
    by_cases hs : s < k
    · have e := d4 s s0 hs
      have e2 := h.2.2.2.2 s s0 (by omega)
      rw [e]
      split <;> omega
    · by_cases hsk : s = k
      · subst hsk
        rw [if_pos s1, if_neg hno]
        omega
      · by_cases g2 : sn (a s) = 1
        · rw [if_pos g2]
          split <;> omega
        · rw [if_neg g2]
          by_cases g3 : sn (d s) = 1
          · rw [if_pos g3]
            have : cF m n P s (d s) ≠ r s + q (d s) := fun e => g2 (s3 s (d s) (by omega) (by omega) (d1 s s0 t1).1 (d1 s s0 t1).2 g3 e)
            omega
          · rw [if_neg g3]; omega
  have h1 := sg_one (f := fun s => cF m n P s (d s) - (if sn (a s) = 1 then r s - 1 else r s) - (if sn (d s) = 1 then q (d s) + 1 else q (d s))) m hg k k0 k1
  have h2 : cF m n P k (d k) - (if sn (a k) = 1 then r k - 1 else r k) - (if sn (d k) = 1 then q (d k) + 1 else q (d k)) ≤ sg (fun s => cF m n P s (d s) - (if sn (a s) = 1 then r s - 1 else r s) - (if sn (d s) = 1 then q (d s) + 1 else q (d s))) m := h1
  have h3 := hd.1
  have h4 := ht k k0 k1
  rw [if_pos s1, if_neg hno] at h2
  omega
