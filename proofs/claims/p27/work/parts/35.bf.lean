/-! Bellman and Ford, without the machine: labels L, the arc by which a label was last lowered P; arcs 0 .. m - 1 in their order, some barred (ok) -/
theorem bf_pigeon : ∀ (n : Nat) (f : Nat → Nat), (∀ i, i ≤ n → f i < n) → ∃ i j, i < j ∧ j ≤ n ∧ f i = f j := by
  intro n
  induction n with
  | zero => intro f h; exact absurd (h 0 (Nat.le_refl 0)) (Nat.not_lt_zero _)
  | succ n ih =>
    intro f h
    by_cases hx : ∃ i, i < n + 1 ∧ f i = f (n + 1)
    · obtain ⟨i, hi, he⟩ := hx
      exact ⟨i, n + 1, hi, Nat.le_refl _, he⟩
    · -- no other has the last one's value: take it out, and what is n goes there
      have hne : ∀ i, i ≤ n → f i ≠ f (n + 1) := fun i hi e => hx ⟨i, by omega, e⟩
      obtain ⟨i, j, h1, h2, h3⟩ := ih (fun i => if f i = n then f (n + 1) else f i) (fun i hi => by
        have a := h i (by omega)
        have b := h (n + 1) (Nat.le_refl _)
        have c := hne i hi
        split <;> omega)
      refine ⟨i, j, h1, by omega, ?_⟩
      have c1 := hne i (by omega)
      have c2 := hne j (by omega)
      split at h3 <;> split at h3 <;> omega
def bf_r (src dst : Nat → Nat) (len : Nat → Int) (ok : Nat → Bool) (t : Nat) (L : Nat → Int) (P : Nat → Option Nat) : (Nat → Int) × (Nat → Option Nat) :=
  if ok t = true ∧ L (src t) + len t < L (dst t) then (fun v => if v = dst t then L (src t) + len t else L v, fun v => if v = dst t then some t else P v) else (L, P)
/-- the first k arcs, one behind the other -/
def bf_k (src dst : Nat → Nat) (len : Nat → Int) (ok : Nat → Bool) : Nat → (Nat → Int) × (Nat → Option Nat) → (Nat → Int) × (Nat → Option Nat)
  | 0, S => S
  | k + 1, S => let T := bf_k src dst len ok k S; bf_r src dst len ok k T.1 T.2
/-- j whole passes -/
def bf_j (src dst : Nat → Nat) (len : Nat → Int) (ok : Nat → Bool) (m : Nat) : Nat → (Nat → Int) × (Nat → Option Nat) → (Nat → Int) × (Nat → Option Nat)
  | 0, S => S
  | j + 1, S => bf_k src dst len ok m (bf_j src dst len ok m j S)
section BFA
variable {src dst : Nat → Nat} {len : Nat → Int} {ok : Nat → Bool} {m : Nat}
theorem bf_r_le (t : Nat) (L : Nat → Int) (P : Nat → Option Nat) (v : Nat) : (bf_r src dst len ok t L P).1 v ≤ L v := by
  unfold bf_r
  split
  · dsimp only
    split
    · rename_i h e; rw [e]; omega
    · exact Int.le_refl _
  · exact Int.le_refl _
theorem bf_k_le (k : Nat) (S : (Nat → Int) × (Nat → Option Nat)) (v : Nat) : (bf_k src dst len ok k S).1 v ≤ S.1 v := by
  induction k with
  | zero => exact Int.le_refl _
  | succ k ih => exact Int.le_trans (bf_r_le k _ _ v) ih
theorem bf_k_mono {i k : Nat} (h : i ≤ k) (S : (Nat → Int) × (Nat → Option Nat)) (v : Nat) : (bf_k src dst len ok k S).1 v ≤ (bf_k src dst len ok i S).1 v := by
  induction k with
  | zero => rw [Nat.le_zero.mp h]; exact Int.le_refl _
  | succ k ih =>
    by_cases e : i = k + 1
    · rw [e]; exact Int.le_refl _
    · exact Int.le_trans (bf_r_le k _ _ v) (ih (by omega))
/-- behind its own turn an arc holds, from then on with the older label of its start -/
theorem bf_k_arc {t k : Nat} (h : t < k) (ht : ok t = true) (S : (Nat → Int) × (Nat → Option Nat)) : (bf_k src dst len ok k S).1 (dst t) ≤ S.1 (src t) + len t := by
  have h1 : (bf_k src dst len ok (t + 1) S).1 (dst t) ≤ (bf_k src dst len ok t S).1 (src t) + len t := by
    show (bf_r src dst len ok t (bf_k src dst len ok t S).1 (bf_k src dst len ok t S).2).1 (dst t) ≤ _
    unfold bf_r
    split
    · dsimp only; rw [if_pos rfl]; exact Int.le_refl _
    · rename_i h9
      have : ¬ (bf_k src dst len ok t S).1 (src t) + len t < (bf_k src dst len ok t S).1 (dst t) := fun q => h9 ⟨ht, q⟩
      dsimp only
      omega
  have h2 := bf_k_mono (src := src) (dst := dst) (len := len) (ok := ok) (show t + 1 ≤ k from h) S (dst t)
  have h3 := bf_k_le (src := src) (dst := dst) (len := len) (ok := ok) t S (src t)
  omega
/-- what stays true of labels and last arcs: a lowered knot's label is no less than its arc's start and length; the others have 0 -/
def bf_I (src dst : Nat → Nat) (len : Nat → Int) (ok : Nat → Bool) (m : Nat) (S : (Nat → Int) × (Nat → Option Nat)) : Prop :=
  ∀ v, (S.2 v = none ∧ S.1 v = 0) ∨ ∃ t, t < m ∧ ok t = true ∧ dst t = v ∧ S.2 v = some t ∧ S.1 (src t) + len t ≤ S.1 v
theorem bf_I_r {t : Nat} (htm : t < m) {L : Nat → Int} {P : Nat → Option Nat} (h : bf_I src dst len ok m (L, P)) : bf_I src dst len ok m (bf_r src dst len ok t L P) := by
  unfold bf_r
  split
  · rename_i hc
    obtain ⟨h1, h2⟩ := hc
    intro v
    by_cases e : v = dst t
    · refine Or.inr ⟨t, htm, h1, e.symm, ?_, ?_⟩
      · dsimp only; rw [if_pos e]
      · dsimp only
        rw [if_pos e]
        by_cases e2 : src t = dst t
        · rw [if_pos e2]
          rw [e2] at h2 ⊢
          omega
        · rw [if_neg e2]; exact Int.le_refl _
    · rcases h v with ⟨a, b⟩ | ⟨t9, a, b, c, d, f⟩
      · refine Or.inl ⟨?_, ?_⟩
        · dsimp only; rw [if_neg e]; exact a
        · dsimp only; rw [if_neg e]; exact b
      · refine Or.inr ⟨t9, a, b, c, ?_, ?_⟩
        · dsimp only; rw [if_neg e]; exact d
        · dsimp only at f ⊢
          rw [if_neg e]
          by_cases e2 : src t9 = dst t
          · rw [if_pos e2]
            rw [e2] at f
            omega
          · rw [if_neg e2]; exact f
  · exact h
theorem bf_I_k {k : Nat} (hk : k ≤ m) {S : (Nat → Int) × (Nat → Option Nat)} (h : bf_I src dst len ok m S) : bf_I src dst len ok m (bf_k src dst len ok k S) := by
  induction k with
  | zero => exact h
  | succ k ih => exact bf_I_r (by omega) (ih (by omega))
theorem bf_I_j (j : Nat) {S : (Nat → Int) × (Nat → Option Nat)} (h : bf_I src dst len ok m S) : bf_I src dst len ok m (bf_j src dst len ok m j S) := by
  induction j with
  | zero => exact h
  | succ j ih => exact bf_I_k (Nat.le_refl m) ih
/-- the chain of last arcs from v back: after k steps at u, with all of them at hand, of that length together -/
def bf_C (src : Nat → Nat) (len : Nat → Int) (P : Nat → Option Nat) : Nat → Nat → Nat → Int → Prop
  | 0, v, u, x => u = v ∧ x = 0
  | k + 1, v, u, x => ∃ t y, P v = some t ∧ bf_C src len P k (src t) u y ∧ x = y + len t
/-- the labels behind j passes are no more than any chain of at most j arcs that begins at a label 0 or less -/
theorem bf_walk {P : Nat → Option Nat} {S : (Nat → Int) × (Nat → Option Nat)} (h0 : ∀ v, S.1 v ≤ 0) (hP : ∀ v t, P v = some t → t < m ∧ ok t = true ∧ dst t = v) : ∀ (k j v u : Nat) (x : Int), k ≤ j → bf_C src len P k v u x → (bf_j src dst len ok m j S).1 v ≤ x := by
  have hle : ∀ (j v : Nat), (bf_j src dst len ok m j S).1 v ≤ 0 := by
    intro j
    induction j with
    | zero => exact h0
    | succ j ih => exact fun v => Int.le_trans (bf_k_le m _ v) (ih v)
  intro k
  induction k with
  | zero => intro j v u x _ hC; rw [hC.2]; exact hle j v
  | succ k ih =>
    intro j v u x hj hC
    obtain ⟨t, y, h1, h2, rfl⟩ := hC
    obtain ⟨j, rfl⟩ : ∃ i, j = i + 1 := ⟨j - 1, by omega⟩
    obtain ⟨g1, g2, g3⟩ := hP v t h1
    have h4 := ih j (src t) u y (by omega) h2
    have h5 := bf_k_arc (src := src) (dst := dst) (len := len) (ok := ok) g1 g2 (bf_j src dst len ok m j S)
    rw [g3] at h5
    show (bf_k src dst len ok m (bf_j src dst len ok m j S)).1 v ≤ y + len t
    omega
/-- a chain's length is no more than the label that it ends at -/
theorem bf_sum {S : (Nat → Int) × (Nat → Option Nat)} (hI : bf_I src dst len ok m S) : ∀ (k v u : Nat) (x : Int), bf_C src len S.2 k v u x → S.1 u + x ≤ S.1 v := by
  intro k
  induction k with
  | zero => intro v u x hC; rw [hC.1, hC.2]; omega
  | succ k ih =>
    intro v u x hC
    obtain ⟨t, y, h1, h2, rfl⟩ := hC
    have h3 := ih (src t) u y h2
    rcases hI v with ⟨a, -⟩ | ⟨t9, -, -, -, d, f⟩
    · rw [h1] at a; cases a
    · rw [h1] at d
      cases d
      omega
/-- THE CHAIN: a knot whose label fell in the pass behind j others has a chain of last arcs of every length up to j + 1: it never comes to a knot that was not lowered -/
theorem bf_chain {j v : Nat} (hv : (bf_j src dst len ok m (j + 1) (fun _ => 0, fun _ => none)).1 v < (bf_j src dst len ok m j (fun _ => 0, fun _ => none)).1 v) :
    ∀ k, k ≤ j + 1 → ∃ u x, bf_C src len (bf_j src dst len ok m (j + 1) (fun _ => 0, fun _ => none)).2 k v u x := by
  have hI := bf_I_j (src := src) (dst := dst) (len := len) (ok := ok) (m := m) (j + 1) (S := (fun _ => 0, fun _ => none)) (fun v => Or.inl ⟨rfl, rfl⟩)
  have hP : ∀ v t, (bf_j src dst len ok m (j + 1) (fun _ => 0, fun _ => none)).2 v = some t → t < m ∧ ok t = true ∧ dst t = v := by
    intro v t h
    rcases hI v with ⟨a, -⟩ | ⟨t9, a, b, c, d, -⟩
    · rw [h] at a; cases a
    · rw [h] at d; cases d; exact ⟨a, b, c⟩
  -- a chain of k arcs that ends at a knot with no arc would be too short
  have hend : ∀ (k u : Nat) (x : Int), k ≤ j → bf_C src len (bf_j src dst len ok m (j + 1) (fun _ => 0, fun _ => none)).2 k v u x → (bf_j src dst len ok m (j + 1) (fun _ => 0, fun _ => none)).2 u ≠ none := by
    intro k u x hk hC hn
    have h1 := bf_sum hI k v u x hC
    have h2 := bf_walk (src := src) (dst := dst) (len := len) (ok := ok) (m := m) (S := (fun _ => 0, fun _ => none)) (fun _ => Int.le_refl _) hP k j v u x hk hC
    rcases hI u with ⟨-, b⟩ | ⟨t9, -, -, -, d, -⟩
    · rw [b] at h1; omega
    · rw [hn] at d; cases d
  have hsnoc : ∀ (k v u : Nat) (x : Int) (t : Nat), bf_C src len (bf_j src dst len ok m (j + 1) (fun _ => 0, fun _ => none)).2 k v u x → (bf_j src dst len ok m (j + 1) (fun _ => 0, fun _ => none)).2 u = some t → ∃ y, bf_C src len (bf_j src dst len ok m (j + 1) (fun _ => 0, fun _ => none)).2 (k + 1) v (src t) y := by
    intro k
    induction k with
    | zero => intro v u x t hC ht; rw [hC.1] at ht; exact ⟨0 + len t, t, 0, ht, ⟨rfl, rfl⟩, rfl⟩
    | succ k ih =>
      intro v u x t hC ht
      obtain ⟨t1, y1, h1, h2, -⟩ := hC
      obtain ⟨y, hy⟩ := ih (src t1) u y1 t h2 ht
      exact ⟨y + len t1, t1, y, h1, hy, rfl⟩
  intro k
  induction k with
  | zero => intro _; exact ⟨v, 0, rfl, rfl⟩
  | succ k ih =>
    intro hk
    obtain ⟨u, x, hC⟩ := ih (by omega)
    cases ht : (bf_j src dst len ok m (j + 1) (fun _ => 0, fun _ => none)).2 u with
    | none => exact absurd ht (hend k u x (by omega) hC)
    | some t =>
      obtain ⟨y, hy⟩ := hsnoc k v u x t hC ht
      exact ⟨_, y, hy⟩
end BFA
