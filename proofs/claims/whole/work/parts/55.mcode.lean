def fct : Nat → Nat
  | 0 => 1
  | n + 1 => (n + 1) * fct n
def skN (u s : Int32) : Nat → Int32
  | 0 => s
  | j + 1 => if (u >>> (nI j &&& 31)) &&& 1 = 0 then skN u s j + (-1) else skN u s j
def cnd (u s : Int32) (j : Nat) : Bool := decide ((u >>> (nI j &&& 31)) &&& 1 = 1) || decide (0 < skN u s j)
def finN (u s : Int32) : Nat → Nat → Nat
  | 0, j => j
  | f + 1, j => if cnd u s j = true then finN u s f (j + 1) else j
def fin6 (u s : Int32) : Nat := finN u s 6 0
def mx1 (x : Int32) : Int32 := if 1 < x then x else 1
def dk (n code : Nat) : Nat → Int32 × Int32 × Int32
  | 0 => (nI code, nI (fct (n - 1)), 0)
  | k + 1 => ((dk n code k).1 - (dk n code k).1 / (dk n code k).2.1 * (dk n code k).2.1, (dk n code k).2.1 / mx1 (nI n - 1 - nI k), (dk n code k).2.2 ||| (1 <<< (nI (fin6 (dk n code k).2.2 ((dk n code k).1 / (dk n code k).2.1)) &&& 31)))
def dkF (n code k : Nat) : Nat := fin6 (dk n code k).2.2 ((dk n code k).1 / (dk n code k).2.1)
def dkO (n code k : Nat) : Bool := !decide ((dk n code k).2.1 = 0) && decide (dkF n code k < n) && !cnd (dk n code k).2.2 ((dk n code k).1 / (dk n code k).2.1) (dkF n code k) && (List.range (dkF n code k)).all (fun j => cnd (dk n code k).2.2 ((dk n code k).1 / (dk n code k).2.1) j)
theorem dk_ok : ∀ n, n < 6 → ∀ code, code < fct n → ∀ k, k < n → dkO n code k = true := by decide +kernel
theorem dk_use {n code k : Nat} (hn : n ≤ 5) (hc : code < fct n) (hk : k < n) {l m u : Int32} (e : (l, m, u) = dk n code k) : ¬ m = 0 ∧ dkF n code k < n ∧ cnd u (l / m) (dkF n code k) = false ∧ (∀ j, j < dkF n code k → cnd u (l / m) j = true) ∧ dkF n code k = fin6 u (l / m) := by
  have h := dk_ok n (by omega) code hc k hk
  unfold dkO at h
  unfold dkF at h ⊢
  rw [← e] at h ⊢
  simp only [Bool.and_eq_true, Bool.not_eq_true', decide_eq_true_eq, decide_eq_false_iff_not, List.all_eq_true, List.mem_range] at h
  exact ⟨h.1.1.1, h.1.1.2, h.1.2, h.2, rfl⟩
theorem dk_s {n code k : Nat} {l m u l2 m2 u2 c : Int32} (e : (l, m, u) = dk n code k) (h1 : l2 = l - l / m * m) (h2 : m2 = m / mx1 (nI n - 1 - nI k)) (h3 : u2 = u ||| (1 <<< (c &&& 31))) (hc : c = nI (fin6 u (l / m))) : (l2, m2, u2) = dk n code (k + 1) := by
  unfold dk
  rw [← e, h1, h2, h3, hc]
theorem lt_fin {u s sk : Int32} {j F : Nat} (hsk : sk = skN u s j) (hc : (u >>> (nI j &&& 31)) &&& 1 = 1 ∨ 0 < sk) (hn : cnd u s F = false) (hj : j ≤ F) : j + 1 ≤ F := by
  refine Nat.lt_of_le_of_ne hj (fun e => ?_)
  rw [← e] at hn
  unfold cnd at hn
  simp only [Bool.or_eq_false_iff, decide_eq_false_iff_not] at hn
  rw [hsk] at hc
  rcases hc with h | h
  · exact hn.1 h
  · exact hn.2 h
theorem eq_fin {u s sk : Int32} {j F : Nat} (hsk : sk = skN u s j) (h1 : ¬ (u >>> (nI j &&& 31)) &&& 1 = 1) (h2 : sk ≤ 0) (hall : ∀ j, j < F → cnd u s j = true) (hj : j ≤ F) : j = F := by
  refine Nat.le_antisymm hj (Nat.not_lt.mp (fun h => ?_))
  have := hall j h
  unfold cnd at this
  simp only [Bool.or_eq_true, decide_eq_true_eq] at this
  rw [hsk] at h2
  rcases this with q | q
  · exact h1 q
  · exact Int32.not_lt.mpr h2 q
theorem sk_a {u s sk sk2 v : Int32} {j : Nat} (hsk : sk = skN u s j) (e : v = (u >>> (nI j &&& 31)) &&& 1) (h : v = 0) (h2 : sk2 = sk + (-1)) : sk2 = skN u s (j + 1) := by
  unfold skN
  rw [if_pos (e.symm.trans h), ← hsk, h2]
theorem sk_b {u s sk v : Int32} {j : Nat} (hsk : sk = skN u s j) (e : v = (u >>> (nI j &&& 31)) &&& 1) (h : ¬ v = 0) : sk = skN u s (j + 1) := by
  unfold skN
  rw [if_neg (fun q => h (e.trans q)), ← hsk]
theorem fct5 : ∀ n, n < 6 → fct n ≤ 120 := by decide
theorem mx_ne {x y : Int32} (h : y = if 1 < x then x else 1) : ¬ y = 0 := by
  by_cases c : 1 < x
  · rw [if_pos c] at h
    intro e
    rw [← h, e] at c
    exact absurd c (by decide)
  · rw [if_neg c] at h
    rw [h]; decide
theorem fct_s {k : Nat} (h : 1 ≤ k) : fct (k - 1) * k = fct (k + 1 - 1) := by
  obtain ⟨j, rfl⟩ : ∃ j, k = j + 1 := ⟨k - 1, by omega⟩
  show fct j * (j + 1) = (j + 1) * fct j
  exact Nat.mul_comm _ _
