/-! SEND, the model's certificate -/
def MC (E : Int) (m n : Nat) (ok : Int → Int → Prop) (cell : Int → Int → Int) (w ph ps : Int → Int) : Prop := Val m n ok w ∧ (∀ s u : Int, 0 ≤ s → s < m → 0 ≤ u → u < n → ok s u → ph s + ps u ≤ cell s u) ∧ (∀ s : Int, 0 ≤ s → s < m → w s ≠ -1 → cell s (w s) = ph s + ps (w s)) ∧ (∀ u : Int, 0 ≤ u → u < n → ps u ≤ 0) ∧ (∀ u : Int, 0 ≤ u → u < n → offI m w u → ps u = 0) ∧ (∀ s : Int, 0 ≤ s → s < m → ph s ≤ E) ∧ ∀ s : Int, 0 ≤ s → s < m → w s = -1 → ph s = E
def cM (n : Nat) (E : Int) (cell : Int → Int → Int) (s c : Int) : Int := if c < n then cell s c else E
theorem lift_no {n : Nat} {b : Int → Int} {s : Int} (h : b s = -1) : lift n b s = n + s := if_pos h
theorem lift_at {n : Nat} {b : Int → Int} {s : Int} (h : b s ≠ -1) : lift n b s = b s := if_neg h
theorem cE_lift {E : Int} {m n : Nat} {ok : Int → Int → Prop} {cell : Int → Int → Int} {b : Int → Int} (hb : Val m n ok b) : cE E cell b m = sg (fun s => cM n E cell s (lift n b s)) m := by
  refine sg_congr m (fun s s0 s1 => ?_)
  show (if b s = -1 then E else cell s (b s)) = cM n E cell s (lift n b s)
  unfold cM
  rcases hb.1 s s0 s1 with h | h
  · rw [if_pos h, lift_no h, if_neg (by omega)]
  · have h2 : b s ≠ -1 := by omega
    rw [if_neg h2, lift_at h2, if_pos h.1.2]
theorem MC_dual {E : Int} {m n : Nat} {ok : Int → Int → Prop} {cell : Int → Int → Int} {w ph ps b : Int → Int} (h : MC E m n ok cell w ph ps) (hb : Val m n ok b) : cE E cell w m ≤ cE E cell b m ∧ (cE E cell b m ≤ cE E cell w m → MC E m n ok cell b ph ps) := by
  obtain ⟨hv, h1, h2, h3, h4, h5, h6⟩ := h
  obtain ⟨a1, a2, -⟩ := lift_ok hv
  obtain ⟨b1, b2, -⟩ := lift_ok hb
  have hd := dual (N := m + n) (cM n E cell) (lift n w) (lift n b) ph (fun c => if c < n then ps c else 0) 0 a1 a2 b1 b2
    (fun c c0 c1 => by
      show (if c < n then ps c else 0) ≤ 0
      by_cases g : c < n
      · rw [if_pos g]; exact h3 c c0 g
      · rw [if_neg g]; omega)
    (fun c c0 c1 hc => by
      show (if c < n then ps c else 0) = 0
      by_cases g : c < n
      · rw [if_pos g]
        refine h4 c c0 g (fun s s0 s1 e => ?_)
        refine hc s s0 s1 ?_
        rw [lift_at (by omega), e]
      · rw [if_neg g])
    (fun s s0 s1 => by
      show cM n E cell s (lift n w s) = ph s + (if lift n w s < n then ps (lift n w s) else 0)
      unfold cM
      rcases hv.1 s s0 s1 with g | g
      · rw [lift_no g, if_neg (by omega), if_neg (by omega), h6 s s0 s1 g]; omega
      · have g2 : w s ≠ -1 := by omega
        rw [lift_at g2, if_pos g.1.2, if_pos g.1.2]; exact h2 s s0 s1 g2)
  have hg : ∀ s : Int, 0 ≤ s → s < m → ph s + (if lift n b s < n then ps (lift n b s) else 0) ≤ cM n E cell s (lift n b s) := by
    intro s s0 s1
    unfold cM
    rcases hb.1 s s0 s1 with g | g
    · rw [lift_no g, if_neg (by omega), if_neg (by omega)]
      have := h5 s s0 s1
      omega
    · have g2 : b s ≠ -1 := by omega
      rw [lift_at g2, if_pos g.1.2, if_pos g.1.2]
      exact h1 s (b s) s0 s1 g.1.1 g.1.2 g.2
  have g0 := sg_nn (f := fun s => cM n E cell s (lift n b s) - ph s - (if lift n b s < n then ps (lift n b s) else 0)) m (fun s s0 s1 => by
    show 0 ≤ cM n E cell s (lift n b s) - ph s - (if lift n b s < n then ps (lift n b s) else 0)
    have := hg s s0 s1
    omega)
  rw [cE_lift hv, cE_lift hb]
  have hd1 := hd.1
  refine ⟨by omega, fun hle => ?_⟩
  obtain ⟨e1, e2⟩ := hd.2 hg hle
  refine ⟨hb, h1, fun s s0 s1 g => ?_, h3, fun u u0 u1 hu => ?_, h5, fun s s0 s1 g => ?_⟩
  · have e := e1 s s0 s1
    have e' : cM n E cell s (lift n b s) = ph s + (if lift n b s < n then ps (lift n b s) else 0) := e
    have hu : b s < n := by
      rcases hb.1 s s0 s1 with k | k
      · exact absurd k g
      · exact k.1.2
    rw [lift_at g, if_pos hu] at e'
    unfold cM at e'
    rwa [if_pos hu] at e'
  · have e : (if u < n then ps u else 0) = 0 := e2 u u0 (by omega) (fun s s0 s1 e => by
      rcases hb.1 s s0 s1 with k | k
      · rw [lift_no k] at e; omega
      · rw [lift_at (by omega)] at e
        exact hu s s0 s1 e)
    rwa [if_pos u1] at e
  · have e' : cM n E cell s (lift n b s) = ph s + (if lift n b s < n then ps (lift n b s) else 0) := e1 s s0 s1
    rw [lift_no g, if_neg (by omega)] at e'
    unfold cM at e'
    rw [if_neg (by omega)] at e'
    omega
theorem MC_opt {E : Int} {m n : Nat} {ok : Int → Int → Prop} {cell : Int → Int → Int} {w ph ps : Int → Int} (h : MC E m n ok cell w ph ps) : Opt E m n ok cell w := ⟨h.1, fun _ hb => (MC_dual h hb).1⟩
theorem MC_of {E : Int} {m n : Nat} {ok : Int → Int → Prop} {cell : Int → Int → Int} {w ph ps b : Int → Int} (h : MC E m n ok cell w ph ps) (hb : Opt E m n ok cell b) : MC E m n ok cell b ph ps := (MC_dual h hb.1).2 (hb.2 w h.1)
/-- the place of a SEAT: its UMPIRE, or 20; of the nodes' parts -/
def pl (w : Int → Int) (s : Int) : Int := if w s = -1 then 20 else w s
def pN (n : Nat) (ps : Int → Int) (x : Int) : Int := if x < n then ps x else 0
/-- heldF: has a SEAT ahead of k; heldU: of the others -/
def heldF (w : Int → Int) (k u : Int) : Prop := ∃ t : Int, 0 ≤ t ∧ t < k ∧ w t = u
def heldU (w : Int → Int) (m : Nat) (k u : Int) : Prop := ∃ t : Int, k ≤ t ∧ t < m ∧ w t = u
/-- what the ways from u hold when nothing changes them any more -/
def WF (E : Int) (m n : Nat) (ok : Int → Int → Prop) (cell : Int → Int → Int) (w ps : Int → Int) (k u : Int) (wy : Int → Int) : Prop :=
  wy u = 0 ∧ (∀ x : Int, 0 ≤ x → x < n → pN n ps x - pN n ps u ≤ wy x) ∧ (- pN n ps u ≤ wy 20 ∧ - pN n ps u ≤ wy 21) ∧
  (∀ s x : Int, k < s → s < m → 0 ≤ x → x < n → x ≠ pl w s → ok s x → ¬ heldF w k x → wy (pl w s) < 100000000 → wy x ≤ wy (pl w s) - (if w s = -1 then E else cell s (w s)) + cell s x) ∧
  (∀ s : Int, k < s → s < m → w s ≠ -1 → wy (w s) < 100000000 → wy 20 ≤ wy (w s) - cell s (w s) + E) ∧
  (∀ x : Int, 0 ≤ x → x < n → offI m w x → wy x < 100000000 → wy 21 ≤ wy x) ∧ (∀ x : Int, 0 ≤ x → x < n → heldU w m k x → wy 21 < 100000000 → wy x ≤ wy 21) ∧
  (wy 20 < 100000000 → wy 21 ≤ wy 20) ∧ (wy 21 < 100000000 → wy 20 ≤ wy 21)
set_option maxHeartbeats 4000000 in
theorem M_less {m n : Nat} {ok : Int → Int → Prop} {cell : Int → Int → Int} {w ph ps : Int → Int} (hn : n ≤ 20) (h : MC 1000000 m n ok cell w ph ps) (hps : ∀ u : Int, 0 ≤ u → u < n → -1000000 ≤ ps u) {k u : Int} (k0 : 0 ≤ k) (k1 : k < m) (u0 : 0 ≤ u) (u1 : u < n) (huk : u ≠ w k) (hu : ¬ heldF w k u) {wy : Int → Int} (hw : WF 1000000 m n ok cell w ps k u wy)
    (hfail : ¬ (wy (pl w k) < 100000000 ∧ cell k u - (if w k = -1 then 1000000 else cell k (w k)) + wy (pl w k) = 0)) : ∀ b, Opt 1000000 m n ok cell b → (∀ t : Int, 0 ≤ t → t < k → b t = w t) → b k ≠ u := by
  intro b hbO hbt hbk
  have hb := hbO.1
  obtain ⟨hv, h1, h2, h3, h4, h5, h6⟩ := id h
  obtain ⟨f1, f2, f2', f3, f4, f5, f6, f7, f8⟩ := hw
  obtain ⟨a1, a2, -⟩ := lift_ok hv
  obtain ⟨b1, b2, -⟩ := lift_ok hb
  have pU : pN n ps u = ps u := if_pos u1
  have bU := h3 u u0 u1
  have bU2 := hps u u0 u1
  -- e: 0 on the places that the ways reach by tight moves
  obtain ⟨e, he⟩ : ∃ e : Int → Int, ∀ x, e x = if wy x = pN n ps x - ps u then 0 else 1 := ⟨_, fun _ => rfl⟩
  have e01 : ∀ x, e x = 0 ∨ e x = 1 := fun x => by rw [he]; split <;> omega
  have e0 : ∀ x, e x = 0 ↔ wy x = pN n ps x - ps u := fun x => by rw [he]; split <;> simp_all
  have p20 : pN n ps 20 = 0 := if_neg (by omega)
  have p21 : pN n ps 21 = 0 := if_neg (by omega)
  have e2021 : e 20 = e 21 := by
    have c1 : e 20 = 0 → e 21 = 0 := fun g => by
      have g1 := (e0 20).mp g
      rw [p20] at g1
      have := f7 (by omega)
      refine (e0 21).mpr ?_
      rw [p21]; omega
    have c2 : e 21 = 0 → e 20 = 0 := fun g => by
      have g1 := (e0 21).mp g
      rw [p21] at g1
      have := f8 (by omega)
      refine (e0 20).mpr ?_
      rw [p20]; omega
    rcases e01 20 with g | g <;> rcases e01 21 with g2 | g2 <;> simp_all
  -- who is free, held ahead of k, held behind
  have cls : ∀ x : Int, 0 ≤ x → x < n → offI m w x ∨ heldF w k x ∨ heldU w m k x := by
    intro x x0 x1
    by_cases g : ∃ t : Int, 0 ≤ t ∧ t < m ∧ w t = x
    · obtain ⟨t, t0, t1, et⟩ := g
      by_cases g2 : t < k
      · exact Or.inr (Or.inl ⟨t, t0, g2, et⟩)
      · exact Or.inr (Or.inr ⟨t, by omega, t1, et⟩)
    · exact Or.inl (fun t t0 t1 et => g ⟨t, t0, t1, et⟩)
  have eU : ∀ x : Int, 0 ≤ x → x < n → heldU w m k x → ps x + e x ≤ e 21 := by
    intro x x0 x1 g
    have q1 := h3 x x0 x1
    rcases e01 21 with q2 | q2
    · have q3 := (e0 21).mp q2
      rw [p21] at q3
      have q4 := f6 x x0 x1 g (by omega)
      have q5 := f2 x x0 x1
      rw [pU] at q5
      have q6 : pN n ps x = ps x := if_pos x1
      rcases e01 x with q7 | q7
      · omega
      · have : ¬ wy x = pN n ps x - ps u := fun z => by have := (e0 x).mpr z; omega
        omega
    · rcases e01 x with q7 | q7 <;> omega
  have eF : ∀ x : Int, 0 ≤ x → x < n → offI m w x → e x = 0 → e 21 = 0 := by
    intro x x0 x1 g q
    have q1 := (e0 x).mp q
    have q6 : pN n ps x = ps x := if_pos x1
    have q7 := h4 x x0 x1 g
    have := f5 x x0 x1 g (by omega)
    refine (e0 21).mpr ?_
    rw [p21]
    have := f2'.2
    rw [pU] at this
    omega
  have hF : ∀ x : Int, 0 ≤ x → x < n → heldF w k x → ¬ offI m w x := fun x _ _ ⟨t, t0, t1, et⟩ g => g t t0 (by omega) et
  have hFU : ∀ x : Int, 0 ≤ x → x < n → heldF w k x → ¬ heldU w m k x := fun x x0 x1 ⟨t, t0, t1, et⟩ ⟨t', t0', t1', et'⟩ => by
    have := hv.2 t t' t0 (by omega) (by omega) t1' (by omega) (by omega)
    omega
  have hOU : ∀ x : Int, offI m w x → ¬ heldU w m k x := fun x g ⟨t, t0, t1, et⟩ => g t (by omega) t1 et
  -- the columns' parts
  obtain ⟨q, hq⟩ : ∃ q : Int → Int, (∀ c : Int, (n : Int) ≤ c → q c = e 21) ∧ (∀ c : Int, 0 ≤ c → c < n → offI m w c → q c = e 21) ∧ (∀ c : Int, 0 ≤ c → c < n → heldF w k c → q c = ps c) ∧ ∀ c : Int, 0 ≤ c → c < n → heldU w m k c → q c = ps c + e c := by
    have hx : ∀ c : Int, ∃ y : Int, ((n : Int) ≤ c → y = e 21) ∧ (0 ≤ c → c < n → offI m w c → y = e 21) ∧ (0 ≤ c → c < n → heldF w k c → y = ps c) ∧ (0 ≤ c → c < n → heldU w m k c → y = ps c + e c) := by
      intro c
      by_cases g : 0 ≤ c ∧ c < n
      · rcases cls c g.1 g.2 with g2 | g2 | g2
        · exact ⟨e 21, fun _ => rfl, fun _ _ _ => rfl, fun _ _ g3 => absurd g2 (hF c g.1 g.2 g3), fun _ _ g3 => absurd g3 (hOU c g2)⟩
        · exact ⟨ps c, fun z => by omega, fun _ _ g3 => absurd g3 (hF c g.1 g.2 g2), fun _ _ _ => rfl, fun _ _ g3 => absurd g3 (hFU c g.1 g.2 g2)⟩
        · exact ⟨ps c + e c, fun z => by omega, fun _ _ g3 => absurd g2 (hOU c g3), fun _ _ g3 => absurd g2 (hFU c g.1 g.2 g3), fun _ _ _ => rfl⟩
      · exact ⟨e 21, fun _ => rfl, fun _ _ _ => rfl, fun z z2 _ => absurd ⟨z, z2⟩ g, fun z z2 _ => absurd ⟨z, z2⟩ g⟩
    obtain ⟨q, hq⟩ := Classical.axiomOfChoice hx
    exact ⟨q, fun c => (hq c).1, fun c => (hq c).2.1, fun c => (hq c).2.2.1, fun c => (hq c).2.2.2⟩
  obtain ⟨qa, qb, qc, qd⟩ := hq
  have hd := dual (N := m + n) (cM n 1000000 cell) (lift n w) (lift n b) (fun s => cM n 1000000 cell s (lift n w s) - q (lift n w s)) q (e 21) a1 a2 b1 b2
    (fun c c0 c1 => by
      by_cases g : c < n
      · rcases cls c c0 g with g2 | g2 | g2
        · rw [qb c c0 g g2]; omega
        · rw [qc c c0 g g2]
          have := h3 c c0 g
          rcases e01 21 with z | z <;> omega
        · rw [qd c c0 g g2]; exact eU c c0 g g2
      · rw [qa c (by omega)]; omega)
    (fun c c0 c1 hc => by
      by_cases g : c < n
      · refine qb c c0 g (fun s s0 s1 es => hc s s0 s1 ?_)
        rw [lift_at (by omega), es]
      · exact qa c (by omega))
    (fun s s0 s1 => by
      show cM n 1000000 cell s (lift n w s) = cM n 1000000 cell s (lift n w s) - q (lift n w s) + q (lift n w s)
      omega)
  -- the rows' parts, for those from k on
  have rw1 : ∀ s : Int, k ≤ s → s < m → cM n 1000000 cell s (lift n w s) - q (lift n w s) = ph s - e (pl w s) := by
    intro s s0 s1
    unfold cM pl
    rcases hv.1 s (by omega) s1 with g | g
    · rw [lift_no g, if_neg (by omega), if_pos g, qa _ (by omega), h6 s (by omega) s1 g, e2021]
    · have g2 : w s ≠ -1 := by omega
      rw [lift_at g2, if_pos g.1.2, if_neg g2, qd _ g.1.1 g.1.2 ⟨s, s0, s1, rfl⟩, h2 s (by omega) s1 g2]
      omega
  have hgap : ∀ s : Int, 0 ≤ s → s < m → (0 ≤ cM n 1000000 cell s (lift n b s) - (cM n 1000000 cell s (lift n w s) - q (lift n w s)) - q (lift n b s)) ∧ (s = k → 1 ≤ cM n 1000000 cell s (lift n b s) - (cM n 1000000 cell s (lift n w s) - q (lift n w s)) - q (lift n b s)) := by
    intro s s0 s1
    by_cases g : s < k
    · have eb : lift n b s = lift n w s := by
        unfold lift
        rw [hbt s s0 g]
      rw [eb]
      exact ⟨by omega, fun z => by omega⟩
    · rw [rw1 s (by omega) s1]
      have nf : ∀ x : Int, b s = x → x ≠ -1 → ¬ heldF w k x := fun x ex hx ⟨t, t0, t1, et⟩ => by
        have := hb.2 t s t0 (by omega) s0 s1 (by rw [hbt t t0 t1, et, ex]) (by rw [hbt t t0 t1, et]; exact hx)
        omega
      by_cases gk : s = k
      · subst gk
        have hb2 : b s ≠ -1 := by omega
        have hok : ok s u := by
          rcases hb.1 s s0 s1 with z | z
          · exact absurd z hb2
          · rw [hbk] at z; exact z.2
        have c1 := h1 s u s0 s1 u0 u1 hok
        rw [lift_at hb2, hbk]
        have eu0 : e u = 0 := (e0 u).mpr (by rw [f1, pU]; omega)
        have qu : q u = ps u := by
          rcases cls u u0 u1 with z | z | z
          · rw [qb u u0 u1 z, eF u u0 u1 z eu0, h4 u u0 u1 z]
          · exact absurd z hu
          · rw [qd u u0 u1 z, eu0]; omega
        have ec : cM n 1000000 cell s u = cell s u := if_pos u1
        rw [qu, ec]
        have key : ¬ (cell s u = ph s + ps u ∧ e (pl w s) = 0) := by
          rintro ⟨k2, k3⟩
          have k4 := (e0 (pl w s)).mp k3
          apply hfail
          unfold pl at k4 ⊢
          rcases hv.1 s s0 s1 with z | z
          · rw [if_pos z] at k4 ⊢
            rw [p20] at k4
            rw [if_pos z, k4]
            have := h6 s s0 s1 z
            omega
          · have z2 : w s ≠ -1 := by omega
            rw [if_neg z2] at k4 ⊢
            rw [if_neg z2, k4, show pN n ps (w s) = ps (w s) from if_pos z.1.2]
            have := h2 s s0 s1 z2
            have := h3 (w s) z.1.1 z.1.2
            omega
        rcases e01 (pl w s) with z | z
        · have : cell s u ≠ ph s + ps u := fun y => key ⟨y, z⟩
          exact ⟨by omega, fun _ => by omega⟩
        · exact ⟨by omega, fun _ => by omega⟩
      · refine ⟨?_, fun z => absurd z gk⟩
        have ex1 := e01 (pl w s)
        -- what e is at this SEAT's place
        have plw : e (pl w s) = 0 → wy (pl w s) = pN n ps (pl w s) - ps u ∧ wy (pl w s) < 100000000 ∧ (if w s = -1 then 1000000 else cell s (w s)) = ph s + pN n ps (pl w s) := by
          intro z
          have k4 := (e0 (pl w s)).mp z
          refine ⟨k4, ?_, ?_⟩
          · unfold pl at k4 ⊢
            rcases hv.1 s s0 s1 with y | y
            · rw [if_pos y] at k4 ⊢
              rw [p20] at k4; omega
            · have y2 : w s ≠ -1 := by omega
              rw [if_neg y2] at k4 ⊢
              rw [show pN n ps (w s) = ps (w s) from if_pos y.1.2] at k4
              have := h3 (w s) y.1.1 y.1.2
              omega
          · unfold pl
            rcases hv.1 s s0 s1 with y | y
            · rw [if_pos y, if_pos y, p20]
              have := h6 s s0 s1 y
              omega
            · have y2 : w s ≠ -1 := by omega
              rw [if_neg y2, if_neg y2, show pN n ps (w s) = ps (w s) from if_pos y.1.2]
              exact h2 s s0 s1 y2
        rcases hb.1 s s0 s1 with y | y
        · rw [lift_no y, qa _ (by omega), show cM n 1000000 cell s (n + s) = 1000000 from if_neg (by omega)]
          have c5 := h5 s s0 s1
          rcases ex1 with z | z
          · obtain ⟨z1, z2, z3⟩ := plw z
            by_cases yw : w s = -1
            · have : pl w s = 20 := if_pos yw
              rw [this] at z
              rw [this]
              omega
            · have e5 : pl w s = w s := if_neg yw
              rw [e5] at z1 z2 z3 z
              rw [if_neg yw] at z3
              have f := f4 s (by omega) s1 yw z2
              rw [e5, z]
              rcases e01 21 with t | t
              · omega
              · have : e 20 = 1 := by omega
                have n1 : ¬ wy 20 = pN n ps 20 - ps u := fun zz => by have := (e0 20).mpr zz; omega
                rw [p20] at n1
                have := f2'.1
                rw [pU] at this
                omega
          · rcases e01 21 with t | t <;> omega
        · have y2 : b s ≠ -1 := by omega
          have c1 := h1 s (b s) s0 s1 y.1.1 y.1.2 y.2
          have nfx := nf (b s) rfl y2
          rw [lift_at y2, show cM n 1000000 cell s (b s) = cell s (b s) from if_pos y.1.2]
          -- e at its new place, if the move is tight
          have mv : e (pl w s) = 0 → cell s (b s) = ph s + ps (b s) → e (b s) = 0 := by
            intro z zt
            obtain ⟨z1, z2, z3⟩ := plw z
            by_cases same : b s = pl w s
            · rw [same]; exact z
            · have f := f3 s (b s) (by omega) s1 y.1.1 y.1.2 same y.2 nfx z2
              refine (e0 (b s)).mpr ?_
              have l2 := f2 (b s) y.1.1 y.1.2
              have pb : pN n ps (b s) = ps (b s) := if_pos y.1.2
              rw [pU] at l2
              rw [pb] at l2 ⊢
              omega
          rcases cls (b s) y.1.1 y.1.2 with t | t | t
          · rw [qb _ y.1.1 y.1.2 t]
            have p0 := h4 (b s) y.1.1 y.1.2 t
            rcases ex1 with z | z
            · by_cases zt : cell s (b s) = ph s + ps (b s)
              · have := eF (b s) y.1.1 y.1.2 t (mv z zt)
                omega
              · rcases e01 21 with x | x <;> omega
            · rcases e01 21 with x | x <;> omega
          · exact absurd t nfx
          · rw [qd _ y.1.1 y.1.2 t]
            rcases ex1 with z | z
            · by_cases zt : cell s (b s) = ph s + ps (b s)
              · have := mv z zt
                omega
              · rcases e01 (b s) with x | x <;> omega
            · rcases e01 (b s) with x | x <;> omega
  have h7 := sg_one (f := fun s => cM n 1000000 cell s (lift n b s) - (cM n 1000000 cell s (lift n w s) - q (lift n w s)) - q (lift n b s)) m (fun s s0 s1 => (hgap s s0 s1).1) k k0 k1
  have h8 := (hgap k k0 k1).2 rfl
  have h9 := hd.1
  have h10 := hbO.2 w hv
  rw [cE_lift hb, cE_lift hv] at h10
  have h11 : (1 : Int) ≤ sg (fun s => cM n 1000000 cell s (lift n b s) - (cM n 1000000 cell s (lift n w s) - q (lift n w s)) - q (lift n b s)) m := Int.le_trans h8 h7
  omega
