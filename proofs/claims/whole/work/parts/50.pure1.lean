/-! SEND, the pure side: sums, injections, the dual bound -/
def sg (f : Int → Int) : Nat → Int
  | 0 => 0
  | n + 1 => sg f n + f n
theorem sg_congr {f g : Int → Int} (n : Nat) (h : ∀ i : Int, 0 ≤ i → i < n → f i = g i) : sg f n = sg g n := by
  induction n with
  | zero => rfl
  | succ n ih =>
    show sg f n + f n = sg g n + g n
    rw [ih (fun i h0 h1 => h i h0 (by omega)), h n (by omega) (by omega)]
theorem sg_le {f g : Int → Int} (n : Nat) (h : ∀ i : Int, 0 ≤ i → i < n → f i ≤ g i) : sg f n ≤ sg g n := by
  induction n with
  | zero => exact Int.le_refl _
  | succ n ih =>
    have h1 := ih (fun i h0 h1 => h i h0 (by omega))
    have h2 := h n (by omega) (by omega)
    show sg f n + f n ≤ sg g n + g n
    omega
theorem sg_add (f g : Int → Int) (n : Nat) : sg (fun i => f i + g i) n = sg f n + sg g n := by
  induction n with
  | zero => rfl
  | succ n ih =>
    show sg (fun i => f i + g i) n + (f n + g n) = (sg f n + f n) + (sg g n + g n)
    omega
theorem sg_const (x : Int) (n : Nat) : sg (fun _ => x) n = n * x := by
  induction n with
  | zero => simp [sg]
  | succ n ih =>
    show sg (fun _ => x) n + x = _
    rw [ih, show ((n + 1 : Nat) : Int) = (n : Int) + 1 from by omega, Int.add_mul]
    omega
theorem sg_mul (e : Int) (f : Int → Int) (n : Nat) : sg (fun i => e * f i) n = e * sg f n := by
  induction n with
  | zero => simp [sg]
  | succ n ih =>
    show sg (fun i => e * f i) n + e * f n = e * (sg f n + f n)
    rw [ih, Int.mul_add]
theorem sg_upd (f : Int → Int) (k x : Int) (n : Nat) (h0 : 0 ≤ k) (h1 : k < n) : sg (fun i => if i = k then x else f i) n = sg f n - f k + x := by
  induction n with
  | zero => omega
  | succ n ih =>
    show sg (fun i => if i = k then x else f i) n + (if (n : Int) = k then x else f n) = sg f n + f n - f k + x
    by_cases h : (n : Int) = k
    · rw [if_pos h, sg_congr (g := f) n (fun i a b => if_neg (by omega)), h]
      omega
    · rw [if_neg h, ih (by omega)]
      omega
theorem sg_nn {f : Int → Int} (n : Nat) (h : ∀ i : Int, 0 ≤ i → i < n → 0 ≤ f i) : 0 ≤ sg f n := by
  have h1 := sg_le (f := fun _ => 0) (g := f) n h
  rw [sg_const] at h1
  simpa using h1
theorem sg_zero {f : Int → Int} (n : Nat) (h : ∀ i : Int, 0 ≤ i → i < n → 0 ≤ f i) (e : sg f n ≤ 0) : ∀ i : Int, 0 ≤ i → i < n → f i = 0 := by
  induction n with
  | zero => intro i h0 h1; omega
  | succ n ih =>
    have h1 : 0 ≤ sg f n := sg_nn n (fun i a b => h i a (by omega))
    have h2 := h n (by omega) (by omega)
    have e2 : sg f n + f n ≤ 0 := e
    intro i a b
    by_cases hi : i = n
    · subst hi; omega
    · exact ih (fun i a b => h i a (by omega)) (by omega) i a (by omega)
theorem sg_one {f : Int → Int} (n : Nat) (h : ∀ i : Int, 0 ≤ i → i < n → 0 ≤ f i) (k : Int) (h0 : 0 ≤ k) (h1 : k < n) : f k ≤ sg f n := by
  have e := sg_upd f k 0 n h0 h1
  have e2 : 0 ≤ sg (fun i => if i = k then 0 else f i) n := sg_nn n (fun i a b => by
    show 0 ≤ if i = k then 0 else f i
    split
    · omega
    · exact h i a b)
  omega
def inj (m : Nat) (b : Int → Int) : Prop := ∀ s t : Int, 0 ≤ s → s < m → 0 ≤ t → t < m → b s = b t → s = t
def ran (m N : Nat) (b : Int → Int) : Prop := ∀ s : Int, 0 ≤ s → s < m → 0 ≤ b s ∧ b s < N
def offI (m : Nat) (b : Int → Int) (c : Int) : Prop := ∀ s : Int, 0 ≤ s → s < m → b s ≠ c
theorem inj_sum {N : Nat} (m : Nat) : ∀ (f b : Int → Int), (∀ c, f c ≤ 0) → ran m N b → inj m b →
    sg f N ≤ sg (fun s => f (b s)) m ∧ ((∀ c : Int, 0 ≤ c → c < N → offI m b c → f c = 0) → sg f N = sg (fun s => f (b s)) m) ∧ (sg (fun s => f (b s)) m ≤ sg f N → ∀ c : Int, 0 ≤ c → c < N → offI m b c → f c = 0) := by
  induction m with
  | zero =>
    intro f b hf _ _
    have h0 : 0 ≤ sg (fun i => - f i) N := sg_nn N (fun i _ _ => by show 0 ≤ - f i; have := hf i; omega)
    have h1 : sg (fun i => - f i) N = - sg f N := by
      have h2 := sg_mul (-1) f N
      rw [show (fun i => -1 * f i) = (fun i => - f i) from funext fun i => by omega] at h2
      omega
    refine ⟨?_, fun h => ?_, fun h c a1 a2 _ => ?_⟩
    · show sg f N ≤ 0
      omega
    · show sg f N = 0
      rw [sg_congr (g := fun _ => 0) N (fun i a b => h i a b (fun s s0 s1 => by omega)), sg_const]
      simp
    · have h3 : (0 : Int) ≤ sg f N := h
      have h4 := sg_zero (f := fun i => - f i) N (fun i _ _ => by show 0 ≤ - f i; have := hf i; omega) (by omega) c a1 a2
      have h5 : - f c = 0 := h4
      omega
  | succ m ih =>
    intro f b hf hr hi
    obtain ⟨k0, k1⟩ := hr m (by omega) (by omega)
    have hr2 : ran m N b := fun s a c => hr s a (by omega)
    have hi2 : inj m b := fun s t a c d g e => hi s t a (by omega) d (by omega) e
    have hne : ∀ s : Int, 0 ≤ s → s < m → b s ≠ b m := fun s a c e => by
      have := hi s m a (by omega) (by omega) (by omega) e
      omega
    obtain ⟨q1, q2, q3⟩ := ih (fun c => if c = b m then 0 else f c) b (fun c => by
      show (if c = b m then 0 else f c) ≤ 0
      split
      · omega
      · exact hf c) hr2 hi2
    have e1 : sg (fun c => if c = b m then 0 else f c) N = sg f N - f (b m) + 0 := sg_upd f (b m) 0 N k0 k1
    have e2 : sg (fun s => if b s = b m then 0 else f (b s)) m = sg (fun s => f (b s)) m := sg_congr m (fun s a c => if_neg (hne s a c))
    have e3 : sg (fun s => f (b s)) (m + 1) = sg (fun s => f (b s)) m + f (b m) := rfl
    refine ⟨by omega, fun h => ?_, fun h c a1 a2 a3 => ?_⟩
    · have h2 := q2 (fun c a1 a2 a3 => by
        show (if c = b m then 0 else f c) = 0
        by_cases hc : c = b m
        · exact if_pos hc
        · rw [if_neg hc]
          refine h c a1 a2 (fun s s0 s1 => ?_)
          by_cases hs : s = m
          · subst hs; exact fun e => hc e.symm
          · exact a3 s s0 (by omega))
      omega
    · have h2 := q3 (by omega) c a1 a2 (fun s s0 s1 => a3 s s0 (by omega))
      have h3 : (if c = b m then 0 else f c) = 0 := h2
      rw [if_neg (fun e => a3 m (by omega) (by omega) e.symm)] at h3
      exact h3
/-- the pigeon-hole -/
theorem php {m N : Nat} (b : Int → Int) (hr : ran m N b) (hi : inj m b) : m ≤ N := by
  have h := (inj_sum (N := N) m (fun _ => -1) b (fun _ => by decide) hr hi).1
  have h2 : sg (fun _ => (-1 : Int)) m = m * (-1) := sg_const (-1) m
  have h3 : sg (fun _ => (-1 : Int)) N ≤ sg (fun _ => (-1 : Int)) m := h
  rw [h2, sg_const] at h3
  omega
theorem php_lt {m N : Nat} (b : Int → Int) (hr : ran m N b) (hi : inj m b) (k : Int) (k0 : 0 ≤ k) (k1 : k < N) (hk : offI m b k) : m < N := by
  have h := (inj_sum (N := N) m (fun c => if c = k then 0 else -1) b (fun c => by
    show (if c = k then 0 else -1) ≤ (0 : Int)
    split <;> omega) hr hi).1
  have e1 : sg (fun c => if c = k then 0 else (-1 : Int)) N = sg (fun _ => -1) N - (-1) + 0 := sg_upd (fun _ => -1) k 0 N k0 k1
  rw [sg_const] at e1
  have e2 : sg (fun s => if b s = k then 0 else (-1 : Int)) m = sg (fun _ => (-1 : Int)) m := sg_congr m (fun s a c => if_neg (hk s a c))
  rw [sg_const] at e2
  have h3 : sg (fun c => if c = k then 0 else (-1 : Int)) N ≤ sg (fun s => if b s = k then 0 else (-1 : Int)) m := h
  omega
/-- a number that an array of i places doesn't hold -/
theorem fresh_in (f : Int → Int) (i : Nat) (lo : Int) : ∃ x : Int, lo ≤ x ∧ x ≤ lo + i ∧ ∀ j : Int, 0 ≤ j → j < i → f j ≠ x := by
  apply Classical.byContradiction
  intro h
  have h1 : ∀ x : Int, ∃ j : Int, 0 ≤ x → x < ((i + 1 : Nat) : Int) → 0 ≤ j ∧ j < i ∧ f j = lo + x := by
    intro x
    by_cases hx : 0 ≤ x ∧ x < ((i + 1 : Nat) : Int)
    · apply Classical.byContradiction
      intro h2
      refine h ⟨lo + x, by omega, by omega, fun j j0 j1 e => h2 ⟨j, fun _ _ => ⟨j0, j1, e⟩⟩⟩
    · exact ⟨0, fun a b => absurd ⟨a, b⟩ hx⟩
  obtain ⟨g, hg⟩ := Classical.axiomOfChoice h1
  have := php (m := i + 1) (N := i) g (fun s a b => ⟨(hg s a b).1, (hg s a b).2.1⟩) (fun s t a b c d e => by
    have e1 := (hg s a b).2.2
    have e2 := (hg t c d).2.2
    rw [e] at e1
    omega)
  omega
/-- the dual bound -/
theorem dual {m N : Nat} (cost : Int → Int → Int) (a b r q : Int → Int) (Qm : Int) (ra : ran m N a) (ia : inj m a) (rb : ran m N b) (ib : inj m b)
    (hq : ∀ c : Int, 0 ≤ c → c < N → q c ≤ Qm) (hqa : ∀ c : Int, 0 ≤ c → c < N → offI m a c → q c = Qm)
    (ht : ∀ s : Int, 0 ≤ s → s < m → cost s (a s) = r s + q (a s)) :
    sg (fun s => cost s (a s)) m + sg (fun s => cost s (b s) - r s - q (b s)) m ≤ sg (fun s => cost s (b s)) m ∧
    ((∀ s : Int, 0 ≤ s → s < m → r s + q (b s) ≤ cost s (b s)) → sg (fun s => cost s (b s)) m ≤ sg (fun s => cost s (a s)) m → (∀ s : Int, 0 ≤ s → s < m → cost s (b s) = r s + q (b s)) ∧ ∀ c : Int, 0 ≤ c → c < N → offI m b c → q c = Qm) := by
  have key : ∀ d : Int → Int, ran m N d → sg (fun s => cost s (d s)) m = sg r m + (sg (fun s => if 0 ≤ d s ∧ d s < N then q (d s) - Qm else 0) m + m * Qm) + sg (fun s => cost s (d s) - r s - q (d s)) m := by
    intro d rd
    rw [← sg_const Qm m, ← sg_add, ← sg_add, ← sg_add]
    refine sg_congr m (fun s s0 s1 => ?_)
    show cost s (d s) = r s + ((if 0 ≤ d s ∧ d s < N then q (d s) - Qm else 0) + Qm) + (cost s (d s) - r s - q (d s))
    rw [if_pos (rd s s0 s1)]
    omega
  have hf : ∀ c, (fun c : Int => if 0 ≤ c ∧ c < N then q c - Qm else 0) c ≤ 0 := fun c => by
    show (if 0 ≤ c ∧ c < N then q c - Qm else 0) ≤ 0
    split
    · rename_i h
      have := hq c h.1 h.2
      omega
    · omega
  have ea := (inj_sum (N := N) m (fun c : Int => if 0 ≤ c ∧ c < N then q c - Qm else 0) a hf ra ia).2.1 (fun c a1 a2 a3 => by
    show (if 0 ≤ c ∧ c < N then q c - Qm else 0) = 0
    rw [if_pos ⟨a1, a2⟩, hqa c a1 a2 a3]
    omega)
  have eb := inj_sum (N := N) m (fun c : Int => if 0 ≤ c ∧ c < N then q c - Qm else 0) b hf rb ib
  have ga : sg (fun s => cost s (a s) - r s - q (a s)) m = 0 := by
    rw [sg_congr (g := fun _ => 0) m (fun s s0 s1 => by
      show cost s (a s) - r s - q (a s) = 0
      have := ht s s0 s1
      omega), sg_const]
    simp
  have ka := key a ra
  have kb := key b rb
  have eb1 := eb.1
  refine ⟨by omega, fun hg hle => ?_⟩
  have gb : 0 ≤ sg (fun s => cost s (b s) - r s - q (b s)) m := sg_nn m (fun s s0 s1 => by
    show 0 ≤ cost s (b s) - r s - q (b s)
    have := hg s s0 s1
    omega)
  refine ⟨fun s s0 s1 => ?_, fun c c0 c1 hc => ?_⟩
  · have h : cost s (b s) - r s - q (b s) = 0 := sg_zero (f := fun s => cost s (b s) - r s - q (b s)) m (fun s s0 s1 => by
      show 0 ≤ cost s (b s) - r s - q (b s)
      have := hg s s0 s1
      omega) (by omega) s s0 s1
    omega
  · have h : (if 0 ≤ c ∧ c < N then q c - Qm else 0) = 0 := eb.2.2 (by omega) c c0 c1 hc
    rw [if_pos ⟨c0, c1⟩] at h
    omega
