section GX
variable {l : Launch} {μ : MU} {Φ : Option AV → AS → VV → Prop} {c0 s0 : Nat} {S : AS} {pc : Nat} {ls : LL} {st : List AV} {v : VV}
theorem G_getIv {idx ci j k : Nat} (x : Int) (hd : decode μ.2.1 pc = .ok (.getfield idx, 3)) (hf : FL μ.1.cls idx ci j) {jj : Int} (hj : ((j : Nat) : Int) = jj) (hs : (S.2.1 k).1 = 16 + ci) (hi : Nat.blt (fk ci j) 3 = true) (hx : v k jj = x) (kk : G l μ Φ c0 s0 S (pc+3) ls (ai x :: st) v) : G l μ Φ c0 s0 S (pc) ls (ar (some k) :: st) v := by
  subst hx
  exact G_getI hd hf hj hs hi kk
theorem G_getRv {idx ci j k : Nat} (x : Option Nat) (hd : decode μ.2.1 pc = .ok (.getfield idx, 3)) (hf : FL μ.1.cls idx ci j) {jj : Int} (hj : ((j : Nat) : Int) = jj) (hs : (S.2.1 k).1 = 16 + ci) (hi : fk ci j = 3) (hx : S.2.2 k jj = x) (kk : G l μ Φ c0 s0 S (pc+3) ls (ar x :: st) v) : G l μ Φ c0 s0 S (pc) ls (ar (some k) :: st) v := by
  subst hx
  exact G_getR hd hf hj hs hi kk
theorem G_ialdv {k len : Nat} {i : Int} (x : Int) (hd : decode μ.2.1 pc = .ok (.iaload, 1)) (hs : S.2.1 k = (0, len)) (h0 : 0 ≤ i) (h1 : i < (len : Int)) (hx : v k i = x) (kk : G l μ Φ c0 s0 S (pc+1) ls (ai x :: st) v) : G l μ Φ c0 s0 S (pc) ls (ai i :: ar (some k) :: st) v := by
  subst hx
  exact G_iald hd hs h0 h1 kk
theorem G_zaldv {k len : Nat} {i : Int} (x : Int) (hd : decode μ.2.1 pc = .ok (.baload, 1)) (hs : S.2.1 k = (2, len)) (h0 : 0 ≤ i) (h1 : i < (len : Int)) (hx : v k i = x) (kk : G l μ Φ c0 s0 S (pc+1) ls (ai x :: st) v) : G l μ Φ c0 s0 S (pc) ls (ai i :: ar (some k) :: st) v := by
  subst hx
  exact G_zald hd hs h0 h1 kk
theorem G_aaldv {k len t : Nat} {C : String} {i : Int} (x : Option Nat) (hd : decode μ.2.1 pc = .ok (.aaload, 1)) (hs : S.2.1 k = (t, len)) (h0 : 0 ≤ i) (h1 : i < (len : Int)) (ht : (t = 3 ∧ C = "WicketBoard$Umpire") ∨ (t = 4 ∧ C = "WicketBoard$Game")) (hx : S.2.2 k i = x) (kk : G l μ Φ c0 s0 S (pc+1) ls (ar x :: st) v) : G l μ Φ c0 s0 S (pc) ls (ai i :: ar (some k) :: st) v := by
  subst hx
  exact G_aald hd hs h0 h1 ht kk
end GX
def rE (S : AS) (P : Int → Prop) (v : VV) : Option AV → AS → VV → Prop := fun r S2 v2 => ∃ x, r = some (ai x) ∧ P x ∧ S2 = S ∧ v2 = v
