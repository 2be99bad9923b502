/-! the class's tokens -/
theorem tkS_le {T : Nat → Int32} {n a : Nat} : tkS T n a ≤ 5 := by
  unfold tkS tkS0
  repeat' split
  all_goals omega
theorem xS {k c : Nat} {tk : Int32} (h : tk = nI k) (hk : k ≤ 5) (hc : c < 2 ^ 31) (q : tk = nI c) : k = c := (nI_eq (by omega) hc).mp (h.symm.trans q)
theorem xS_1 {T : Nat → Int32} {n a ts e : Nat} {tk : Int32} {v : Int64} (h : xTk T n a ts e tk v) (q : tk = 1) : tkS T n a = 1 := xS h.2.2.1 tkS_le (by decide) q
theorem xS_2 {T : Nat → Int32} {n a ts e : Nat} {tk : Int32} {v : Int64} (h : xTk T n a ts e tk v) (q : tk = 2) : tkS T n a = 2 := xS h.2.2.1 tkS_le (by decide) q
theorem xS_3 {T : Nat → Int32} {n a ts e : Nat} {tk : Int32} {v : Int64} (h : xTk T n a ts e tk v) (q : tk = 3) : tkS T n a = 3 := xS h.2.2.1 tkS_le (by decide) q
theorem xS_4 {T : Nat → Int32} {n a ts e : Nat} {tk : Int32} {v : Int64} (h : xTk T n a ts e tk v) (q : tk = 4) : tkS T n a = 4 := xS h.2.2.1 tkS_le (by decide) q
theorem xS_0 {T : Nat → Int32} {n a ts e : Nat} {tk : Int32} {v : Int64} (h : xTk T n a ts e tk v) (q : tk = 0) : tkS T n a = 0 := xS h.2.2.1 tkS_le (by decide) q
theorem xN {T : Nat → Int32} {n a ts e : Nat} {tk : Int32} {v : Int64} (h : xTk T n a ts e tk v) {c : Nat} (q : ¬ tk = nI c) : tkS T n a ≠ c := fun z => q (by rw [h.2.2.1, z])
theorem xTk_of {T : Nat → Int32} {n a p e k : Nat} {tk : Int32} {v : Int64} (hp : tkP T n a = p) (hE : tkE T n a = e) (hS : tkS T n a = k) (hs : tk = nI k) (h1 : k = 1 → v = wvT T p (e - p)) (h2 : k = 2 → v.toInt32 = dvT T p (e - p)) : xTk T n a p e tk v := by
  refine ⟨hp.symm, hE.symm, by rw [hS]; exact hs, ?_, ?_⟩
  · intro h
    unfold tkW
    rw [hp, hE]
    exact h1 (hS.symm.trans h)
  · intro h
    unfold tkN
    rw [hp, hE]
    exact h2 (hS.symm.trans h)
theorem xT_end {T : Nat → Int32} {n a p : Nat} {v : Int64} (hp : tkP T n a = p) (hn : n ≤ p) : xTk T n a p p 0 v :=
  xTk_of (k := 0) hp (tkE_n hp hn).1 (tkE_n hp hn).2 rfl (fun h => absurd h (by decide)) (fun h => absurd h (by decide))
theorem xT_w {T : Nat → Int32} {n a p e : Nat} {tk : Int32} {v : Int64} (hp : tkP T n a = p) (hn : p < n) (hl : bLt (T p) = true) (he : rN bLt T n p = e) (hk : (tk = 1 ∧ e - p ≤ 8) ∨ (tk = 5 ∧ 8 < e - p)) (hv : v = wvT T p (e - p)) : xTk T n a p e tk v := by
  have h := tkE_l hp hn hl he
  rcases hk with ⟨q1, q2⟩ | ⟨q1, q2⟩
  · rw [if_pos q2] at h
    exact xTk_of (k := 1) hp h.1 h.2 q1 (fun _ => hv) (fun h => absurd h (by decide))
  · rw [if_neg (by omega)] at h
    exact xTk_of (k := 5) hp h.1 h.2 q1 (fun h => absurd h (by decide)) (fun h => absurd h (by decide))
theorem xT_d {T : Nat → Int32} {n a p e : Nat} {tk : Int32} {v : Int64} (hp : tkP T n a = p) (hn : p < n) (hl : bLt (T p) = false) (hd : bDg (T p) = true) (he : rN bDg T n p = e) (hk : (tk = 2 ∧ e - p ≤ 4) ∨ (tk = 5 ∧ 4 < e - p)) (hv : v.toInt32 = dvT T p (e - p)) : xTk T n a p e tk v := by
  have h := tkE_d hp hn hl hd he
  rcases hk with ⟨q1, q2⟩ | ⟨q1, q2⟩
  · rw [if_pos q2] at h
    exact xTk_of (k := 2) hp h.1 h.2 q1 (fun h => absurd h (by decide)) (fun _ => hv)
  · rw [if_neg (by omega)] at h
    exact xTk_of (k := 5) hp h.1 h.2 q1 (fun h => absurd h (by decide)) (fun h => absurd h (by decide))
theorem xT_3 {T : Nat → Int32} {n a p : Nat} {v : Int64} (hp : tkP T n a = p) (hn : p < n) (hl : bLt (T p) = false) (hd : bDg (T p) = false) (hm : T p = 59) : xTk T n a p (p + 1) 3 v := by
  have h := tkE_o hp hn hl hd
  rw [if_pos hm] at h
  exact xTk_of (k := 3) hp h.1 h.2 rfl (fun h => absurd h (by decide)) (fun h => absurd h (by decide))
theorem xT_4 {T : Nat → Int32} {n a p : Nat} {v : Int64} (hp : tkP T n a = p) (hn : p < n) (hl : bLt (T p) = false) (hd : bDg (T p) = false) (hm : T p = 45) : xTk T n a p (p + 1) 4 v := by
  have h := tkE_o hp hn hl hd
  rw [if_neg (by rw [hm]; decide), if_pos hm] at h
  exact xTk_of (k := 4) hp h.1 h.2 rfl (fun h => absurd h (by decide)) (fun h => absurd h (by decide))
theorem xT_5 {T : Nat → Int32} {n a p : Nat} {v : Int64} (hp : tkP T n a = p) (hn : p < n) (hl : bLt (T p) = false) (hd : bDg (T p) = false) (h3 : ¬ T p = 59) (h4 : ¬ T p = 45) : xTk T n a p (p + 1) 5 v := by
  have h := tkE_o hp hn hl hd
  rw [if_neg h3, if_neg h4] at h
  exact xTk_of (k := 5) hp h.1 h.2 rfl (fun h => absurd h (by decide)) (fun h => absurd h (by decide))
/-! runs, over the class's bytes -/
theorem xrun_s {P : Int32 → Bool} {T : Nat → Int32} {a b : Nat} {r : Int32} (h : ∀ j, a ≤ j → j < b → P (T j) = true) (hr : r = T b) (hp : P r = true) : ∀ j, a ≤ j → j < b + 1 → P (T j) = true := by
  intro j h1 h2
  by_cases e : j = b
  · rw [e, ← hr]; exact hp
  · exact h j h1 (by omega)
theorem l_sh {x : Int64} {r : Int32} (hl : 97 ≤ r.toInt ∧ r.toInt ≤ 122) : x <<< ((5 : Int32).toInt64 &&& 63) ||| (r - 97 + 1).toInt64 = 32 * x + (r - 97 + 1).toInt64 := by
  have h5 : ((5 : Int32).toInt64 &&& 63) = 5 := by decide
  have h97 : (97 : Int32).toInt = 97 := rfl
  have h1 : (1 : Int32).toInt = 1 := rfl
  have e1 : (r - 97).toInt = r.toInt - 97 := by rw [i_sub (by omega) (by omega), h97]
  have e2 : (r - 97 + 1).toInt = r.toInt - 96 := by rw [i_add (by omega) (by omega), e1, h1]; omega
  rw [h5]
  exact l_let _ _ (by omega)
theorem xwv_s {T : Nat → Int32} {a b : Nat} {w v : Int64} {r : Int32} (hw : w = wvT T a (b - a)) (hab : a ≤ b) (hr : r = T b) (hl : 97 ≤ r.toInt ∧ r.toInt ≤ 122) (hv : v = w <<< ((5 : Int32).toInt64 &&& 63) ||| (r - 97 + 1).toInt64) : v = wvT T a (b + 1 - a) := by
  rw [hv, l_sh hl, show b + 1 - a = (b - a) + 1 by omega, hw, hr]
  show _ = 32 * wvT T a (b - a) + (T (a + (b - a)) - 97 + 1).toInt64
  rw [show a + (b - a) = b by omega]
theorem xdv_s {T : Nat → Int32} {a b : Nat} {w v : Int64} {r : Int32} (hw : w.toInt32 = dvT T a (b - a)) (hab : a ≤ b) (hr : r = T b) (hv : v = w * 10 + r.toInt64 - 48) : v.toInt32 = dvT T a (b + 1 - a) := by
  rw [hv, l_dig, show b + 1 - a = (b - a) + 1 by omega, hw, hr]
  show _ = 10 * dvT T a (b - a) + T (a + (b - a)) - 48
  rw [show a + (b - a) = b by omega]
/-! words and names -/
theorem xw_t {T : Nat → Int32} {n a ts e : Nat} {tk : Int32} {v c : Int64} (h : xTk T n a ts e tk v) (q1 : tk = 1) (q2 : v = c) : isWd T n a c = true := by
  have h1 := xS_1 h q1
  exact decide_eq_true ⟨h1, (h.2.2.2.1 h1).symm.trans q2⟩
theorem xw_f {T : Nat → Int32} {n a ts e : Nat} {tk : Int32} {v c : Int64} (h : xTk T n a ts e tk v) (q : ¬ (tk = 1 ∧ v = c)) : isWd T n a c = false := by
  refine decide_eq_false (fun z => q ⟨?_, ?_⟩)
  · rw [h.2.2.1, z.1]; rfl
  · exact (h.2.2.2.1 z.1).trans z.2
theorem xnwd {s : Int32} {w d c : Int64} (e : d = c) (f : ¬ (s = 1 ∧ w = d)) : ¬ (s = 1 ∧ w = c) := by rw [← e]; exact f
theorem xnm_t {T : Nat → Int32} {n a ts e : Nat} {tk : Int32} {v : Int64} (h : xTk T n a ts e tk v) (hs : tk = 1) (f1 : ¬ (tk = 1 ∧ v = 23609)) (f2 : ¬ (tk = 1 ∧ v = 146930)) (f3 : ¬ (tk = 1 ∧ v = 525618)) (f4 : ¬ (tk = 1 ∧ v = 6190)) (f5 : ¬ (tk = 1 ∧ v = 197733)) : isNm T n a = true := by
  have h1 := xS_1 h hs
  have h2 := h.2.2.2.1 h1
  rw [h2] at f1 f2 f3 f4 f5
  exact decide_eq_true ⟨h1, fun q => f1 ⟨hs, q⟩, fun q => f2 ⟨hs, q⟩, fun q => f3 ⟨hs, q⟩, fun q => f4 ⟨hs, q⟩, fun q => f5 ⟨hs, q⟩⟩
theorem xnm_f0 {T : Nat → Int32} {n a ts e : Nat} {tk : Int32} {v : Int64} (h : xTk T n a ts e tk v) (hs : ¬ tk = 1) : isNm T n a = false := by
  refine decide_eq_false (fun z => hs ?_)
  rw [h.2.2.1, z.1]; rfl
theorem xnm_fw {T : Nat → Int32} {n a ts e : Nat} {tk : Int32} {v c : Int64} (h : xTk T n a ts e tk v) (q1 : tk = 1) (q2 : v = c) (hc : c = 23609 ∨ c = 146930 ∨ c = 525618 ∨ c = 6190 ∨ c = 197733) : isNm T n a = false := by
  have h2 := (h.2.2.2.1 (xS_1 h q1)).symm.trans q2
  refine decide_eq_false (fun z => ?_)
  rw [h2] at z
  obtain ⟨-, z1, z2, z3, z4, z5⟩ := z
  rcases hc with hc | hc | hc | hc | hc
  · exact z1 hc
  · exact z2 hc
  · exact z3 hc
  · exact z4 hc
  · exact z5 hc
theorem xnm_w {T : Nat → Int32} {n a ts e : Nat} {tk : Int32} {v : Int64} (h : xTk T n a ts e tk v) (hn : isNm T n a = true) : v = tkW T n a := h.2.2.2.1 (isNm_1 hn)
theorem fLead_1 {T : Nat → Int32} {n a p : Nat} {c : Int64} {lo hi : Int32} (h : isWd T n a c = false) (hp : p = tkP T n a) : fLead T n a c lo hi = .inl (1, p) := by
  unfold fLead
  refine sb_l ?_
  unfold fNeed
  rw [if_neg (by rw [h]; decide), hp]
theorem fLead_w {T : Nat → Int32} {n a : Nat} {c : Int64} {lo hi : Int32} {x : Sum (Int32 × Nat) (Nat × Int32)} (h : isWd T n a c = true) (hx : fWhole T n (tkE T n a) lo hi = x) : fLead T n a c lo hi = x := by
  unfold fLead
  exact sb_r (need_t h) hx
theorem xwh_1 {T : Nat → Int32} {n a p : Nat} {lo hi : Int32} (h : tkS T n a ≠ 2) (hp : p = tkP T n a) : fWhole T n a lo hi = .inl (1, p) := by
  unfold fWhole
  rw [if_neg h, hp]
theorem xwh_4 {T : Nat → Int32} {n a p : Nat} {lo hi u : Int32} (h : tkS T n a = 2) (hu : u = tkN T n a) (hr : ¬ (lo.toInt ≤ u.toInt ∧ u.toInt ≤ hi.toInt)) (hp : p = tkP T n a) : fWhole T n a lo hi = .inl (4, p) := by
  unfold fWhole
  rw [if_pos h, ← hu, if_neg hr, hp]
theorem xwh_t {T : Nat → Int32} {n a : Nat} {lo hi u : Int32} (h : tkS T n a = 2) (hu : u = tkN T n a) (hr : lo.toInt ≤ u.toInt ∧ u.toInt ≤ hi.toInt) : fWhole T n a lo hi = .inr (tkE T n a, u) := by
  unfold fWhole
  rw [if_pos h, ← hu, if_pos hr]
theorem rE_all {P : Int32 → Bool} {T : Nat → Int32} {n : Nat} : ∀ (f a j : Nat), a ≤ j → j < rE P T n f a → P (T j) = true
  | 0, a, j, h1, h2 => by
    have h3 : j < a := h2
    omega
  | f + 1, a, j, h1, h2 => by
    have h3 : j < (if a < n ∧ P (T a) = true then rE P T n f (a + 1) else a) := h2
    by_cases c : a < n ∧ P (T a) = true
    · rw [if_pos c] at h3
      by_cases e : j = a
      · rw [e]; exact c.2
      · exact rE_all f (a + 1) j (by omega) h3
    · rw [if_neg c] at h3
      omega
theorem dv_bd {T : Nat → Int32} {p : Nat} : ∀ (k : Nat), k ≤ 4 → (∀ j, p ≤ j → j < p + k → 48 ≤ (T j).toInt ∧ (T j).toInt ≤ 57) → 0 ≤ (dvT T p k).toInt ∧ (dvT T p k).toInt < 10 ^ k
  | 0, _, _ => by
    show 0 ≤ (0 : Int32).toInt ∧ (0 : Int32).toInt < 10 ^ 0
    decide
  | k + 1, hk, h => by
    have ih := dv_bd k (by omega) (fun j h1 h2 => h j h1 (by omega))
    have hc := h (p + k) (by omega) (by omega)
    have hp : (10 : Int) ^ k ≤ 1000 := by
      rcases (show k = 0 ∨ k = 1 ∨ k = 2 ∨ k = 3 by omega) with e | e | e | e <;> rw [e] <;> decide
    have h10 : (10 : Int32).toInt = 10 := rfl
    have h48 : (48 : Int32).toInt = 48 := rfl
    have e1 : (10 * dvT T p k).toInt = 10 * (dvT T p k).toInt := by rw [i_mul (by rw [h10]; omega) (by rw [h10]; omega), h10]
    have e2 : (10 * dvT T p k + T (p + k)).toInt = 10 * (dvT T p k).toInt + (T (p + k)).toInt := by rw [i_add (by omega) (by omega), e1]
    have e3 : (10 * dvT T p k + T (p + k) - 48).toInt = 10 * (dvT T p k).toInt + (T (p + k)).toInt - 48 := by rw [i_sub (by omega) (by omega), e2, h48]
    show 0 ≤ (10 * dvT T p k + T (p + k) - 48).toInt ∧ (10 * dvT T p k + T (p + k) - 48).toInt < 10 ^ (k + 1)
    rw [e3, Int.pow_succ]
    omega
theorem tkN_ge {T : Nat → Int32} {n a : Nat} (h : tkS T n a = 2) : 0 ≤ (tkN T n a).toInt := by
  by_cases c1 : n ≤ tkP T n a
  · rw [(tkE_n rfl c1).2] at h; omega
  · by_cases c2 : bLt (T (tkP T n a)) = true
    · rw [(tkE_l rfl (by omega) c2 rfl).2] at h
      split at h <;> omega
    · have c2' : bLt (T (tkP T n a)) = false := by simpa using c2
      by_cases c3 : bDg (T (tkP T n a)) = true
      · have h1 := tkE_d rfl (Nat.not_le.mp c1) c2' c3 rfl
        rw [h1.2] at h
        have h4 : rN bDg T n (tkP T n a) - tkP T n a ≤ 4 := by
          split at h
          · assumption
          · omega
        unfold tkN
        rw [h1.1]
        refine (dv_bd _ h4 ?_).1
        intro j q1 q2
        have q3 : bDg (T j) = true := rE_all _ _ j q1 (by show j < rN bDg T n (tkP T n a); omega)
        exact of_decide_eq_true q3
      · have c3' : bDg (T (tkP T n a)) = false := by simpa using c3
        rw [(tkE_o rfl (Nat.not_le.mp c1) c2' c3').2] at h
        split at h
        · omega
        · split at h <;> omega
theorem xcd_s {f : List Int32} {i : Nat} {v1 v2 : Int64} {r : Int32} (hv : v1 = wordN f i) (hr : r = f.getD i 0) (hl : 97 ≤ r.toInt ∧ r.toInt ≤ 122) (hn : v2 = v1 <<< ((5 : Int32).toInt64 &&& 63) ||| (r - 97 + 1).toInt64) : v2 = wordN f (i + 1) := by
  rw [hn, l_sh hl, hv, hr]
  rfl
theorem xgo {T : Nat → Int32} {n a ts e ts2 e2 : Nat} {tk tk2 : Int32} {v v2 : Int64} (h : xTk T n a ts e tk v) (h2 : xTk T n e ts2 e2 tk2 v2) : xTk T n (tkE T n a) ts2 e2 tk2 v2 := by
  rw [← h.2.1]
  exact h2
/-! the class's lines, purely: like the reference's, but a NAME is booked as it is read, and -1 is for 'none' -/
def xIn (T : Nat → Int32) (n a an : Nat) (nm : Nat → Int64) (kd nb has : Nat → Int32) : Sum (Int32 × Nat) (Nat × Int32) := sb (fNeed T n a 302) (fun a => sb (fTold T n a an nm kd nb 0) (fun w => if has w.toNatClampNeg = -1 then .inr (tkE T n a, w) else .inl (3, tkP T n a)))
def xDoor (T : Nat → Int32) (n a an : Nat) (nm : Nat → Int64) (kd nb : Nat → Int32) (ad : Nat) (di : Nat → Int32) : Sum (Int32 × Nat) (Nat × Int64 × Int32 × Int32) := sb (fFresh T n (tkE T n a) an nm (if ad = 6 then 1 else 0)) (fun x => sb (xIn T n x.1 (an + 1) (vp_updL nm an x.2) (upd kd an 1) (upd nb an (nI ad)) di) (fun y => sb (fLead T n y.1 89 1 99) (fun z => .inr (z.1, x.2, y.2, z.2))))
def xFan (T : Nat → Int32) (n a an : Nat) (nm : Nat → Int64) (kd nb : Nat → Int32) (af : Nat) (fi : Nat → Int32) : Sum (Int32 × Nat) (Nat × Int64 × Int32 × Int32 × Int32 × Int32) := sb (fFresh T n (tkE T n a) an nm (if af = 4 then 1 else 0)) (fun x => sb (xIn T n x.1 (an + 1) (vp_updL nm an x.2) (upd kd an 2) (upd nb an (nI af)) fi) (fun y => sb (fLead T n y.1 546408 1 999) (fun z => sb (fLead T n z.1 198028 0 99) (fun v => sb (fLead T n v.1 114292 1 99) (fun u => .inr (u.1, x.2, y.2, z.2, v.2, u.2))))))
def xFace (T : Nat → Int32) (n a an : Nat) (nm : Nat → Int64) (kd nb : Nat → Int32) (ae : Nat) (fc : Nat → Int32) : Sum (Int32 × Nat) (Nat × Int64 × Int32 × Int32 × Int32) := sb (fFresh T n (tkE T n a) an nm (if ae = 4 then 1 else 0)) (fun x => sb (xIn T n x.1 (an + 1) (vp_updL nm an x.2) (upd kd an 3) (upd nb an (nI ae)) fc) (fun y => sb (fLead T n y.1 7219 0 999) (fun z => sb (fLead T n z.1 464036 0 60) (fun v => .inr (v.1, x.2, y.2, z.2, v.2)))))
def xWay (T : Nat → Int32) (n a an : Nat) (nm : Nat → Int64) (aw ak : Nat) (kn : Nat → Int64) : Sum (Int32 × Nat) (Nat × Int64 × Int32 × Int32 × Nat × (Nat → Int64) × Int32 × Int32 × Int32 × Int32) := sb (fFresh T n (tkE T n a) an nm (if aw = 14 then 1 else 0)) (fun x => sb (fKnot T n x.1 ak kn (-1)) (fun y => sb (fKnot T n y.1 y.2.2.1 y.2.2.2 y.2.1) (fun z => sb (fLead T n z.1 278335666 1 99) (fun h => sb (fLead T n h.1 632645 1 999) (fun i => sb (fLead T n i.1 755083 1 99) (fun k => sb (fDraught T n k.1) (fun d => .inr (d.1, x.2, y.2.1, z.2.1, z.2.2.1, z.2.2.2, h.2, i.2, k.2, d.2))))))))
def xLine (T : Nat → Int32) (n : Nat) : RSt → Sum (Int32 × Nat) RSt
  | (a, an, nm, kd, nb, ak, kn, aw, ad, ap, af, ae, di, fi, fc) =>
    if isWd T n a 23609 = true then sb (xWay T n a an nm aw ak kn) (fun x => .inr (x.1, an + 1, vp_updL nm an x.2.1, upd kd an 0, upd nb an (nI aw), x.2.2.2.2.1, x.2.2.2.2.2.1, aw + 1, ad, ap, af, ae, di, fi, fc))
    else if isWd T n a 146930 = true then sb (xDoor T n a an nm kd nb ad di) (fun x => .inr (x.1, an + 1, vp_updL nm an x.2.1, upd kd an 1, upd nb an (nI ad), ak, kn, aw, ad + 1, ap, af, ae, upd di x.2.2.1.toNatClampNeg (nI ad), fi, fc))
    else if isWd T n a 525618 = true then sb (fPair T n a an nm kd nb ap) (fun x => .inr (x.1, an, nm, kd, nb, ak, kn, aw, ad, ap + 1, af, ae, di, fi, fc))
    else if isWd T n a 6190 = true then sb (xFan T n a an nm kd nb af fi) (fun x => .inr (x.1, an + 1, vp_updL nm an x.2.1, upd kd an 2, upd nb an (nI af), ak, kn, aw, ad, ap, af + 1, ae, di, upd fi x.2.2.1.toNatClampNeg (nI af), fc))
    else if isWd T n a 197733 = true then sb (xFace T n a an nm kd nb ae fc) (fun x => .inr (x.1, an + 1, vp_updL nm an x.2.1, upd kd an 3, upd nb an (nI ae), ak, kn, aw, ad, ap, af, ae + 1, di, fi, upd fc x.2.2.1.toNatClampNeg (nI ae)))
    else .inl (1, tkP T n a)
def xLines (T : Nat → Int32) (n : Nat) : Nat → RSt → Sum (Int32 × Nat) RSt
  | 0, σ => .inl (1, tkP T n σ.1)
  | f + 1, σ => sb (xLine T n σ) (fun τ => if tkS T n τ.1 = 3 then xLines T n f (tkE T n τ.1, τ.2) else if tkS T n τ.1 = 0 then .inr τ else .inl (1, tkP T n τ.1))
/-! both lead to the same -/
def RS {α β : Type} (P : α → β → Prop) (x : Sum (Int32 × Nat) α) (y : Sum (Int32 × Nat) β) : Prop := match x, y with
  | .inl e, .inl f => e = f
  | .inr a, .inr b => P a b
  | _, _ => False
theorem rs_l {α β : Type} {P : α → β → Prop} {x : Sum (Int32 × Nat) α} {y : Sum (Int32 × Nat) β} {e : Int32 × Nat} (h : RS P x y) (hx : x = .inl e) : y = .inl e := by
  subst hx
  match y, h with
  | .inl f, h => exact congrArg Sum.inl (Eq.symm h)
theorem rs_r {α β : Type} {P : α → β → Prop} {x : Sum (Int32 × Nat) α} {y : Sum (Int32 × Nat) β} {a : α} (h : RS P x y) (hx : x = .inr a) : ∃ b, y = .inr b ∧ P a b := by
  subst hx
  match y, h with
  | .inr b, h => exact ⟨b, rfl, h⟩
theorem rs_sb {α β γ δ : Type} {P : α → β → Prop} {Q : γ → δ → Prop} {x : Sum (Int32 × Nat) α} {y : Sum (Int32 × Nat) β} {k : α → Sum (Int32 × Nat) γ} {k' : β → Sum (Int32 × Nat) δ} (h : RS P x y) (hk : ∀ a b, x = .inr a → y = .inr b → P a b → RS Q (k a) (k' b)) : RS Q (sb x k) (sb y k') := by
  match x, y, h, hk with
  | .inl e, .inl f, h, _ => exact h
  | .inr a, .inr b, h, hk => exact hk a b rfl rfl h
theorem rs_sbe {α γ δ : Type} {Q : γ → δ → Prop} {x : Sum (Int32 × Nat) α} {k : α → Sum (Int32 × Nat) γ} {k' : α → Sum (Int32 × Nat) δ} (hk : ∀ a, x = .inr a → RS Q (k a) (k' a)) : RS Q (sb x k) (sb x k') := by
  match x, hk with
  | .inl e, _ => exact rfl
  | .inr a, hk => exact hk a rfl
theorem rs_in {α β : Type} {P : α → β → Prop} {a : α} {b : β} (h : P a b) : RS P (.inr a) (.inr b) := h
theorem rs_ll {α β : Type} {P : α → β → Prop} {e : Int32 × Nat} : RS P (.inl e : Sum (Int32 × Nat) α) (.inl e : Sum (Int32 × Nat) β) := show e = e from rfl
theorem sb_as {α β γ : Type} {x : Sum (Int32 × Nat) α} {f : α → Sum (Int32 × Nat) β} {k : β → Sum (Int32 × Nat) γ} : sb (sb x f) k = sb x (fun a => sb (f a) k) := by
  match x with
  | .inl e => exact rfl
  | .inr a => exact rfl
theorem fLead_sb {T : Nat → Int32} {n a : Nat} {c : Int64} {lo hi : Int32} {γ : Type} {k : Nat × Int32 → Sum (Int32 × Nat) γ} : sb (fNeed T n a c) (fun b => sb (fWhole T n b lo hi) k) = sb (fLead T n a c lo hi) k := sb_as.symm
theorem fnd_lt {f : Nat → Int64} {w : Int64} : ∀ (c i k : Nat), fnd f w c i = some k → i ≤ k ∧ k < i + c
  | 0, i, k, h => by
    have h2 : (none : Option Nat) = some k := h
    cases h2
  | c + 1, i, k, h => by
    have h2 : (if f i = w then some i else fnd f w c (i + 1)) = some k := h
    by_cases q : f i = w
    · rw [if_pos q] at h2
      cases h2
      omega
    · rw [if_neg q] at h2
      have := fnd_lt c (i + 1) k h2
      omega
theorem fnd_ex {f : Nat → Int64} {w : Int64} : ∀ (c i : Nat), fnd f w (c + 1) i = (match fnd f w c i with
    | some k => some k
    | none => if f (i + c) = w then some (i + c) else none)
  | 0, i => by
    show (if f i = w then some i else none) = (if f (i + 0) = w then some (i + 0) else none)
    rfl
  | c + 1, i => by
    have ih := fnd_ex (f := f) (w := w) c (i + 1)
    show (if f i = w then some i else fnd f w (c + 1) (i + 1)) = (match (if f i = w then some i else fnd f w c (i + 1)) with
      | some k => some k
      | none => if f (i + (c + 1)) = w then some (i + (c + 1)) else none)
    by_cases q : f i = w
    · rw [if_pos q, if_pos q]
    · rw [if_neg q, if_neg q, ih, show i + 1 + c = i + (c + 1) by omega]
/-- names that agree as far as they are told -/
def NMS (an : Nat) (nm nm' : Nat → Int64) (kd kd' nb nb' : Nat → Int32) : Prop := ∀ j, j < an → nm j = nm' j ∧ kd j = kd' j ∧ nb j = nb' j
theorem fresh_s {T : Nat → Int32} {n a an : Nat} {nm nm' : Nat → Int64} {fu : Int32} (h : ∀ j, j < an → nm j = nm' j) : fFresh T n a an nm fu = fFresh T n a an nm' fu := by
  unfold fFresh
  rw [fnd_eq an 0 (fun j _ hj => h j (by omega))]
theorem told_s {T : Nat → Int32} {n a an : Nat} {nm nm' : Nat → Int64} {kd kd' nb nb' : Nat → Int32} {kk : Int32} (h : NMS an nm nm' kd kd' nb nb') : fTold T n a an nm kd nb kk = fTold T n a an nm' kd' nb' kk := by
  unfold fTold
  rw [fnd_eq an 0 (fun j _ hj => (h j (by omega)).1)]
  split
  · cases e : fnd nm' (tkW T n a) an 0 with
    | none => rfl
    | some k =>
      have hk := fnd_lt an 0 k e
      show (if kd k = kk then _ else _) = (if kd' k = kk then _ else _)
      rw [(h k (by omega)).2.1, (h k (by omega)).2.2]
  · rfl
theorem told_x {T : Nat → Int32} {n a an : Nat} {nm : Nat → Int64} {kd nb : Nat → Int32} {x : Int64} {k1 v1 : Int32} (hk : k1 ≠ 0) : fTold T n a (an + 1) (vp_updL nm an x) (upd kd an k1) (upd nb an v1) 0 = fTold T n a an nm kd nb 0 := by
  have e0 : fnd (vp_updL nm an x) (tkW T n a) an 0 = fnd nm (tkW T n a) an 0 := fnd_eq an 0 (fun j _ hj => if_neg (by omega))
  unfold fTold
  rw [fnd_ex, e0]
  split
  · cases e : fnd nm (tkW T n a) an 0 with
    | none =>
      by_cases q : vp_updL nm an x (0 + an) = tkW T n a
      · rw [if_pos q]
        show (if upd kd an k1 (0 + an) = 0 then _ else _) = _
        rw [Nat.zero_add, pk_us, if_neg hk]
      · rw [if_neg q]
    | some k =>
      have hk := fnd_lt an 0 k e
      show (if upd kd an k1 k = 0 then Sum.inr (upd nb an v1 k) else _) = (if kd k = 0 then Sum.inr (nb k) else _)
      rw [pk_un (by omega), pk_un (by omega)]
  · rfl
theorem told_w {T : Nat → Int32} {n a an : Nat} {nm : Nat → Int64} {kd nb : Nat → Int32} {kk r : Int32} (h : fTold T n a an nm kd nb kk = .inr r) : ∃ k, k < an ∧ kd k = kk ∧ r = nb k := by
  unfold fTold at h
  split at h
  · cases e : fnd nm (tkW T n a) an 0 with
    | none =>
      rw [e] at h
      cases h
    | some k =>
      rw [e] at h
      have h2 : (if kd k = kk then Sum.inr (nb k) else Sum.inl (2, tkP T n a) : Sum (Int32 × Nat) Int32) = Sum.inr r := h
      have hk := fnd_lt an 0 k e
      by_cases q : kd k = kk
      · rw [if_pos q] at h2
        cases h2
        exact ⟨k, by omega, q, rfl⟩
      · rw [if_neg q] at h2
        cases h2
  · cases h
abbrev KNR (x y : Nat × Int32 × Nat × (Nat → Int64)) : Prop := x.1 = y.1 ∧ x.2.1 = y.2.1 ∧ x.2.2.1 = y.2.2.1 ∧ ∀ j, j < x.2.2.1 → x.2.2.2 j = y.2.2.2 j
theorem knot_s {T : Nat → Int32} {n a ak : Nat} {kn kn' : Nat → Int64} {f1 : Int32} (h : ∀ j, j < ak → kn j = kn' j) : RS KNR (fKnot T n a ak kn f1) (fKnot T n a ak kn' f1) := by
  unfold fKnot
  rw [fnd_eq ak 0 (fun j _ hj => h j (by omega))]
  split
  · cases e : fnd kn' (tkW T n a) ak 0 with
    | none =>
      by_cases q : ak = 10
      · show RS KNR (if ak = 10 then _ else _) (if ak = 10 then _ else _)
        rw [if_pos q, if_pos q]
        exact rs_ll
      · show RS KNR (if ak = 10 then _ else _) (if ak = 10 then _ else _)
        rw [if_neg q, if_neg q]
        refine rs_in ⟨rfl, rfl, rfl, ?_⟩
        intro j hj
        show vp_updL kn ak (tkW T n a) j = vp_updL kn' ak (tkW T n a) j
        have hj2 : j < ak + 1 := hj
        unfold vp_updL
        by_cases c : j = ak
        · rw [if_pos c, if_pos c]
        · rw [if_neg c, if_neg c]
          exact h j (by omega)
    | some k =>
      by_cases q : nI k = f1
      · show RS KNR (if nI k = f1 then _ else _) (if nI k = f1 then _ else _)
        rw [if_pos q, if_pos q]
        exact rs_ll
      · show RS KNR (if nI k = f1 then _ else _) (if nI k = f1 then _ else _)
        rw [if_neg q, if_neg q]
        exact rs_in ⟨rfl, rfl, rfl, h⟩
  · exact rs_ll
/-- what stands in the WAYS: -1 in the class is -2 in the reference -/
def DIR (aw : Nat) (x f : Nat → Int32) : Prop := (∀ j, j < aw → (x j = -1 ↔ f j = -2)) ∧ ∀ j, aw ≤ j → j < 14 → x j = -1
/-- numbers told of WAYS are numbers of WAYS -/
def NBW (an aw : Nat) (kd nb : Nat → Int32) : Prop := ∀ j, j < an → kd j = 0 → (nb j).toNatClampNeg < aw
theorem in_s {T : Nat → Int32} {n a an aw : Nat} {nm nm' : Nat → Int64} {kd kd' nb nb' x f : Nat → Int32} {y : Int64} {k1 v1 : Int32} (hk : k1 ≠ 0) (h : NMS an nm nm' kd kd' nb nb') (hn : NBW an aw kd nb) (hd : DIR aw x f) : RS (fun p q => p = q ∧ p.2.toNatClampNeg < aw) (xIn T n a (an + 1) (vp_updL nm an y) (upd kd an k1) (upd nb an v1) x) (fIn T n a an nm' kd' nb' f) := by
  unfold xIn fIn
  refine rs_sbe ?_
  intro b _
  try dsimp only
  rw [told_x hk, told_s h]
  refine rs_sbe ?_
  intro w e
  try dsimp only
  obtain ⟨k, h1, h2, h3⟩ := told_w e
  have hw : w.toNatClampNeg < aw := by
    rw [h3, ← (h k h1).2.2]
    exact hn k h1 ((h k h1).2.1.trans h2)
  by_cases q : x w.toNatClampNeg = -1
  · rw [if_pos q, if_pos ((hd.1 _ hw).mp q)]
    exact rs_in ⟨rfl, hw⟩
  · rw [if_neg q, if_neg (fun z => q ((hd.1 _ hw).mpr z))]
    exact rs_ll
/-- two states of the reading: the class's, the reference's -/
abbrev RRest : Type := Nat × (Nat → Int64) × (Nat → Int32) × (Nat → Int32) × Nat × (Nat → Int64) × Nat × Nat × Nat × Nat × Nat × (Nat → Int32) × (Nat → Int32) × (Nat → Int32)
def RR2 : RRest → RRest → Prop
  | (an, nm, kd, nb, ak, kn, aw, ad, ap, af, ae, di, fi, fc), (an', nm', kd', nb', ak', kn', aw', ad', ap', af', ae', di', fi', fc') => an = an' ∧ NMS an nm nm' kd kd' nb nb' ∧ NBW an aw kd nb ∧ ak = ak' ∧ (∀ j, j < ak → kn j = kn' j) ∧ aw = aw' ∧ ad = ad' ∧ ap = ap' ∧ af = af' ∧ ae = ae' ∧ DIR aw di di' ∧ DIR aw fi fi' ∧ DIR aw fc fc' ∧ aw ≤ 14 ∧ ad ≤ 6 ∧ af ≤ 4 ∧ ae ≤ 4
def RR (σ σ' : RSt) : Prop := σ.1 = σ'.1 ∧ RR2 σ.2 σ'.2
theorem rr_mk {a a' an an' ak ak' aw aw' ad ad' ap ap' af af' ae ae' : Nat} {nm nm' kn kn' : Nat → Int64} {kd kd' nb nb' di di' fi fi' fc fc' : Nat → Int32} (h0 : a = a') (h : an = an' ∧ NMS an nm nm' kd kd' nb nb' ∧ NBW an aw kd nb ∧ ak = ak' ∧ (∀ j, j < ak → kn j = kn' j) ∧ aw = aw' ∧ ad = ad' ∧ ap = ap' ∧ af = af' ∧ ae = ae' ∧ DIR aw di di' ∧ DIR aw fi fi' ∧ DIR aw fc fc' ∧ aw ≤ 14 ∧ ad ≤ 6 ∧ af ≤ 4 ∧ ae ≤ 4) : RR (a, an, nm, kd, nb, ak, kn, aw, ad, ap, af, ae, di, fi, fc) (a', an', nm', kd', nb', ak', kn', aw', ad', ap', af', ae', di', fi', fc') := ⟨h0, h⟩
theorem rr_un {a a' an an' ak ak' aw aw' ad ad' ap ap' af af' ae ae' : Nat} {nm nm' kn kn' : Nat → Int64} {kd kd' nb nb' di di' fi fi' fc fc' : Nat → Int32} (h : RR (a, an, nm, kd, nb, ak, kn, aw, ad, ap, af, ae, di, fi, fc) (a', an', nm', kd', nb', ak', kn', aw', ad', ap', af', ae', di', fi', fc')) : a = a' ∧ an = an' ∧ NMS an nm nm' kd kd' nb nb' ∧ NBW an aw kd nb ∧ ak = ak' ∧ (∀ j, j < ak → kn j = kn' j) ∧ aw = aw' ∧ ad = ad' ∧ ap = ap' ∧ af = af' ∧ ae = ae' ∧ DIR aw di di' ∧ DIR aw fi fi' ∧ DIR aw fc fc' ∧ aw ≤ 14 ∧ ad ≤ 6 ∧ af ≤ 4 ∧ ae ≤ 4 := h
theorem fresh_no {T : Nat → Int32} {n a an c m : Nat} {nm : Nat → Int64} {x : Nat × Int64} (h : fFresh T n a an nm (if c = m then 1 else 0) = .inr x) : c ≠ m := by
  intro q
  rw [if_pos q] at h
  unfold fFresh at h
  split at h
  · split at h
    · cases h
    · rw [if_neg (by decide)] at h
      cases h
  · cases h
theorem nms_u {an : Nat} {nm nm' : Nat → Int64} {kd kd' nb nb' : Nat → Int32} {y : Int64} {k v : Int32} (h : NMS an nm nm' kd kd' nb nb') : NMS (an + 1) (vp_updL nm an y) (vp_updL nm' an y) (upd kd an k) (upd kd' an k) (upd nb an v) (upd nb' an v) := by
  intro j hj
  by_cases c : j = an
  · subst c
    exact ⟨by unfold vp_updL; rw [if_pos rfl, if_pos rfl], by rw [pk_us, pk_us], by rw [pk_us, pk_us]⟩
  · have h1 := h j (by omega)
    exact ⟨by unfold vp_updL; rw [if_neg c, if_neg c]; exact h1.1, by rw [pk_un c, pk_un c]; exact h1.2.1, by rw [pk_un c, pk_un c]; exact h1.2.2⟩
theorem nbw_u {an aw : Nat} {kd nb : Nat → Int32} {k v : Int32} (h : NBW an aw kd nb) (hk : k ≠ 0) : NBW (an + 1) aw (upd kd an k) (upd nb an v) := by
  intro j hj q
  by_cases c : j = an
  · subst c
    rw [pk_us] at q
    exact absurd q hk
  · rw [pk_un c] at q ⊢
    exact h j (by omega) q
theorem nbw_w {an aw : Nat} {kd nb : Nat → Int32} (h : NBW an aw kd nb) (ha : aw < 14) : NBW (an + 1) (aw + 1) (upd kd an 0) (upd nb an (nI aw)) := by
  intro j hj q
  by_cases c : j = an
  · subst c
    rw [pk_us, nI_clamp (by omega)]
    omega
  · rw [pk_un c] at q ⊢
    have := h j (by omega) q
    omega
theorem dir_w {aw : Nat} {x f : Nat → Int32} (h : DIR aw x f) (ha : aw < 14) : DIR (aw + 1) x (upd f aw (-2)) := by
  constructor
  · intro j hj
    by_cases c : j = aw
    · subst c
      rw [pk_us]
      exact ⟨fun _ => rfl, fun _ => h.2 j (Nat.le_refl _) ha⟩
    · rw [pk_un c]
      exact h.1 j (by omega)
  · intro j h1 h2
    exact h.2 j (by omega) h2
theorem dir_u {aw w k : Nat} {x f : Nat → Int32} (h : DIR aw x f) (hw : w < aw) (hk : k ≤ 14) : DIR aw (upd x w (nI k)) (upd f w (nI k)) := by
  have hp : (nI k).toInt = (k : Int) := nI_toInt (by omega)
  constructor
  · intro j hj
    by_cases c : j = w
    · subst c
      rw [pk_us, pk_us]
      constructor
      · intro q
        rw [q] at hp
        have : (-1 : Int32).toInt = -1 := rfl
        omega
      · intro q
        rw [q] at hp
        have : (-2 : Int32).toInt = -2 := rfl
        omega
    · rw [pk_un c, pk_un c]
      exact h.1 j hj
  · intro j h1 h2
    rw [pk_un (by omega)]
    exact h.2 j h1 h2
theorem way_s {T : Nat → Int32} {n a an aw ak : Nat} {nm nm' kn kn' : Nat → Int64} (hnm : ∀ j, j < an → nm j = nm' j) (hK : ∀ j, j < ak → kn j = kn' j) (hw : aw ≤ 14) : RS (fun x y => x.1 = y.1 ∧ x.2.1 = y.2.1 ∧ x.2.2.2.2.1 = y.2.2.2.2.1 ∧ (∀ j, j < x.2.2.2.2.1 → x.2.2.2.2.2.1 j = y.2.2.2.2.2.1 j) ∧ aw < 14) (xWay T n a an nm aw ak kn) (fWay T n a an nm' aw ak kn') := by
  unfold xWay fWay
  rw [fresh_s hnm]
  refine rs_sbe ?_
  intro x e
  try dsimp only
  have ha : aw ≠ 14 := fresh_no e
  refine rs_sb (knot_s hK) ?_
  rintro ⟨p1, r1, k1, f1⟩ ⟨p2, r2, k2, f2⟩ - - ⟨q1, q2, q3, q4⟩
  obtain rfl : p1 = p2 := q1
  obtain rfl : r1 = r2 := q2
  obtain rfl : k1 = k2 := q3
  try dsimp only
  refine rs_sb (knot_s q4) ?_
  rintro ⟨p3, r3, k3, f3⟩ ⟨p4, r4, k4, f4⟩ - - ⟨s1, s2, s3, s4⟩
  obtain rfl : p3 = p4 := s1
  obtain rfl : r3 = r4 := s2
  obtain rfl : k3 = k4 := s3
  try dsimp only
  rw [fLead_sb]
  refine rs_sbe ?_
  intro h1 _
  try dsimp only
  rw [fLead_sb]
  refine rs_sbe ?_
  intro i1 _
  try dsimp only
  rw [fLead_sb]
  refine rs_sbe ?_
  intro k1 _
  try dsimp only
  refine rs_sbe ?_
  intro d1 _
  try dsimp only
  exact rs_in ⟨rfl, rfl, rfl, s4, by omega⟩
theorem door_s {T : Nat → Int32} {n a an aw c : Nat} {nm nm' : Nat → Int64} {kd kd' nb nb' x f : Nat → Int32} (hN : NMS an nm nm' kd kd' nb nb') (hB : NBW an aw kd nb) (hd : DIR aw x f) (hc : c ≤ 6) : RS (fun p q => p = q ∧ p.2.2.1.toNatClampNeg < aw ∧ c < 6) (xDoor T n a an nm kd nb c x) (fDoor T n a an nm' kd' nb' c f) := by
  unfold xDoor fDoor
  rw [fresh_s (fun j hj => (hN j hj).1)]
  refine rs_sbe ?_
  intro y e
  try dsimp only
  have ha : c ≠ 6 := fresh_no e
  refine rs_sb (in_s (by decide) hN hB hd) ?_
  rintro v w - - ⟨rfl, hv⟩
  try dsimp only
  rw [fLead_sb]
  refine rs_sbe ?_
  intro z0 _
  try dsimp only
  exact rs_in ⟨rfl, hv, by omega⟩
theorem fan_s {T : Nat → Int32} {n a an aw c : Nat} {nm nm' : Nat → Int64} {kd kd' nb nb' x f : Nat → Int32} (hN : NMS an nm nm' kd kd' nb nb') (hB : NBW an aw kd nb) (hd : DIR aw x f) (hc : c ≤ 4) : RS (fun p q => p = q ∧ p.2.2.1.toNatClampNeg < aw ∧ c < 4) (xFan T n a an nm kd nb c x) (fFan T n a an nm' kd' nb' c f) := by
  unfold xFan fFan
  rw [fresh_s (fun j hj => (hN j hj).1)]
  refine rs_sbe ?_
  intro y e
  try dsimp only
  have ha : c ≠ 4 := fresh_no e
  refine rs_sb (in_s (by decide) hN hB hd) ?_
  rintro v w - - ⟨rfl, hv⟩
  try dsimp only
  rw [fLead_sb]
  refine rs_sbe ?_
  intro z0 _
  try dsimp only
  rw [fLead_sb]
  refine rs_sbe ?_
  intro z1 _
  try dsimp only
  rw [fLead_sb]
  refine rs_sbe ?_
  intro z2 _
  try dsimp only
  exact rs_in ⟨rfl, hv, by omega⟩
theorem face_s {T : Nat → Int32} {n a an aw c : Nat} {nm nm' : Nat → Int64} {kd kd' nb nb' x f : Nat → Int32} (hN : NMS an nm nm' kd kd' nb nb') (hB : NBW an aw kd nb) (hd : DIR aw x f) (hc : c ≤ 4) : RS (fun p q => p = q ∧ p.2.2.1.toNatClampNeg < aw ∧ c < 4) (xFace T n a an nm kd nb c x) (fFace T n a an nm' kd' nb' c f) := by
  unfold xFace fFace
  rw [fresh_s (fun j hj => (hN j hj).1)]
  refine rs_sbe ?_
  intro y e
  try dsimp only
  have ha : c ≠ 4 := fresh_no e
  refine rs_sb (in_s (by decide) hN hB hd) ?_
  rintro v w - - ⟨rfl, hv⟩
  try dsimp only
  rw [fLead_sb]
  refine rs_sbe ?_
  intro z0 _
  try dsimp only
  rw [fLead_sb]
  refine rs_sbe ?_
  intro z1 _
  try dsimp only
  exact rs_in ⟨rfl, hv, by omega⟩
theorem pair_s {T : Nat → Int32} {n a an ap : Nat} {nm nm' : Nat → Int64} {kd kd' nb nb' : Nat → Int32} (hN : NMS an nm nm' kd kd' nb nb') : fPair T n a an nm kd nb ap = fPair T n a an nm' kd' nb' ap := by
  unfold fPair
  rw [told_s hN]
  congr 1
  funext o
  rw [told_s hN]
theorem line_s {T : Nat → Int32} {n : Nat} : ∀ {σ σ' : RSt}, RR σ σ' → RS RR (xLine T n σ) (fLine T n σ')
  | (a, an, nm, kd, nb, ak, kn, aw, ad, ap, af, ae, di, fi, fc), (a', an', nm', kd', nb', ak', kn', aw', ad', ap', af', ae', di', fi', fc'), h => by
    obtain ⟨rfl, rfl, hN, hB, rfl, hK, rfl, rfl, rfl, rfl, rfl, hD, hF, hC, hw, h6, h4, h5⟩ := rr_un h
    unfold xLine fLine
    try dsimp only
    by_cases c1 : isWd T n a 23609 = true
    · rw [if_pos c1, if_pos c1]
      refine rs_sb (way_s (fun j hj => (hN j hj).1) hK hw) ?_
      rintro x y - - ⟨q1, q2, q3, q4, ha⟩
      rw [q2]
      exact rs_in (rr_mk q1 ⟨rfl, nms_u hN, nbw_w hB ha, q3, q4, rfl, rfl, rfl, rfl, rfl, dir_w hD ha, dir_w hF ha, dir_w hC ha, ha, h6, h4, h5⟩)
    rw [if_neg c1, if_neg c1]
    by_cases c2 : isWd T n a 146930 = true
    · rw [if_pos c2, if_pos c2]
      refine rs_sb (door_s hN hB hD h6) ?_
      rintro x y - - ⟨rfl, hx, hr⟩
      exact rs_in (rr_mk rfl ⟨rfl, nms_u hN, nbw_u hB (by decide), rfl, hK, rfl, rfl, rfl, rfl, rfl, dir_u hD hx (by omega), hF, hC, hw, hr, h4, h5⟩)
    rw [if_neg c2, if_neg c2]
    by_cases c3 : isWd T n a 525618 = true
    · rw [if_pos c3, if_pos c3, pair_s hN]
      refine rs_sbe ?_
      intro x _
      exact rs_in (rr_mk rfl ⟨rfl, hN, hB, rfl, hK, rfl, rfl, rfl, rfl, rfl, hD, hF, hC, hw, h6, h4, h5⟩)
    rw [if_neg c3, if_neg c3]
    by_cases c4 : isWd T n a 6190 = true
    · rw [if_pos c4, if_pos c4]
      refine rs_sb (fan_s hN hB hF h4) ?_
      rintro x y - - ⟨rfl, hx, hr⟩
      exact rs_in (rr_mk rfl ⟨rfl, nms_u hN, nbw_u hB (by decide), rfl, hK, rfl, rfl, rfl, rfl, rfl, hD, dir_u hF hx (by omega), hC, hw, h6, hr, h5⟩)
    rw [if_neg c4, if_neg c4]
    by_cases c5 : isWd T n a 197733 = true
    · rw [if_pos c5, if_pos c5]
      refine rs_sb (face_s hN hB hC h5) ?_
      rintro x y - - ⟨rfl, hx, hr⟩
      exact rs_in (rr_mk rfl ⟨rfl, nms_u hN, nbw_u hB (by decide), rfl, hK, rfl, rfl, rfl, rfl, rfl, hD, hF, dir_u hC hx (by omega), hw, h6, h4, hr⟩)
    rw [if_neg c5, if_neg c5]
    exact rs_ll
theorem lines_s {T : Nat → Int32} {n : Nat} : ∀ (f : Nat) {σ σ' : RSt}, RR σ σ' → RS RR (xLines T n f σ) (fLines T n f σ')
  | 0, σ, σ', h => by
    show RS RR (.inl (1, tkP T n σ.1)) (.inl (1, tkP T n σ'.1))
    rw [h.1]
    exact rs_ll
  | f + 1, σ, σ', h => by
    show RS RR (sb (xLine T n σ) (fun τ => if tkS T n τ.1 = 3 then xLines T n f (tkE T n τ.1, τ.2) else if tkS T n τ.1 = 0 then .inr τ else .inl (1, tkP T n τ.1))) (sb (fLine T n σ') (fun τ => if tkS T n τ.1 = 3 then fLines T n f (tkE T n τ.1, τ.2) else if tkS T n τ.1 = 0 then .inr τ else .inl (1, tkP T n τ.1)))
    refine rs_sb (line_s h) ?_
    intro τ τ' _ _ hr
    try dsimp only
    rw [hr.1]
    by_cases c3 : tkS T n τ'.1 = 3
    · rw [if_pos c3, if_pos c3]
      exact lines_s f ⟨rfl, hr.2⟩
    · rw [if_neg c3, if_neg c3]
      by_cases c0 : tkS T n τ'.1 = 0
      · rw [if_pos c0, if_pos c0]
        exact rs_in hr
      · rw [if_neg c0, if_neg c0]
        exact rs_ll
theorem book_s {T : Nat → Int32} {n : Nat} {nm kn : Nat → Int64} {kd nb di fi fc : Nat → Int32} (hd : ∀ j, j < 14 → di j = -1) (hf : ∀ j, j < 14 → fi j = -1) (hc : ∀ j, j < 14 → fc j = -1) : RS RR (xLines T n 601 (0, 0, nm, kd, nb, 0, kn, 0, 0, 0, 0, 0, di, fi, fc)) (fBook T n) :=
  lines_s 601 (rr_mk rfl ⟨rfl, fun j h => absurd h (Nat.not_lt_zero j), fun j h => absurd h (Nat.not_lt_zero j), rfl, fun j h => absurd h (Nat.not_lt_zero j), rfl, rfl, rfl, rfl, rfl, ⟨fun j h => absurd h (Nat.not_lt_zero j), fun j _ h => hd j h⟩, ⟨fun j h => absurd h (Nat.not_lt_zero j), fun j _ h => hf j h⟩, ⟨fun j h => absurd h (Nat.not_lt_zero j), fun j _ h => hc j h⟩, by decide, by decide, by decide, by decide⟩)
/-! how many WAYS, KNOTS, FANS -/
def bkw (σ : RSt) : Nat := σ.2.2.2.2.2.2.2.1
def bkk (σ : RSt) : Nat := σ.2.2.2.2.2.1
def bkf (σ : RSt) : Nat := σ.2.2.2.2.2.2.2.2.2.2.1
theorem rr_c : ∀ {σ σ' : RSt}, RR σ σ' → bkw σ = bkw σ' ∧ bkk σ = bkk σ' ∧ bkf σ = bkf σ'
  | (a, an, nm, kd, nb, ak, kn, aw, ad, ap, af, ae, di, fi, fc), (a', an', nm', kd', nb', ak', kn', aw', ad', ap', af', ae', di', fi', fc'), h => by
    obtain ⟨-, -, -, -, h1, -, h2, -, -, h3, -⟩ := rr_un h
    exact ⟨h2, h1, h3⟩
/-! the class's steps: a FAULT that is there stays -/
def CK {α : Type} (fa fp fa9 fp9 : Int32) (P : Sum (Int32 × Nat) α) (v : α) (tok : Prop) : Prop := (¬ fa = 0 → fa9 = fa ∧ fp9 = fp) ∧ (fa = 0 → fa9 = 0 → P = .inr v ∧ tok) ∧ (fa = 0 → ¬ fa9 = 0 → ∃ q : Nat, P = .inl (fa9, q) ∧ fp9 = nI q)
theorem ck_a {α : Type} {fa fp : Int32} {P : Sum (Int32 × Nat) α} {v : α} {tok : Prop} (h : ¬ fa = 0) : CK fa fp fa fp P v tok := ⟨fun _ => ⟨rfl, rfl⟩, fun q => absurd q h, fun q => absurd q h⟩
theorem ck_e {α : Type} {fa fp fa9 fp9 ny : Int32} {q : Nat} {P : Sum (Int32 × Nat) α} {v : α} {tok : Prop} (h : fa = 0) (m : fa9 = ny ∧ fp9 = nI q) (hn : ¬ ny = 0) (hP : P = .inl (ny, q)) : CK fa fp fa9 fp9 P v tok := by
  refine ⟨fun z => absurd h z, fun _ z => absurd (m.1.symm.trans z) hn, fun _ _ => ⟨q, ?_, m.2⟩⟩
  rw [m.1]
  exact hP
theorem ck_0 {α : Type} {fa fp fa9 fp9 : Int32} {P : Sum (Int32 × Nat) α} {v : α} {tok : Prop} (c : CK fa fp fa9 fp9 P v tok) (h : fa9 = 0) : fa = 0 := by
  by_cases q : fa = 0
  · exact q
  · exact ((c.1 q).1.symm.trans h)
theorem ck_t {α : Type} {fa fp fa9 fp9 : Int32} {P : Sum (Int32 × Nat) α} {v : α} {tok : Prop} (c : CK fa fp fa9 fp9 P v tok) (h : fa9 = 0) : tok := (c.2.1 (ck_0 c h) h).2
theorem ck_p {α : Type} {fa fp fa9 fp9 : Int32} {P : Sum (Int32 × Nat) α} {v : α} {tok : Prop} (c : CK fa fp fa9 fp9 P v tok) (h : fa9 = 0) : P = .inr v := (c.2.1 (ck_0 c h) h).1
theorem ck_c {α : Type} {fa fp fa9 fp9 : Int32} {P P' : Sum (Int32 × Nat) α} {v : α} {tok : Prop} (c : CK fa fp fa9 fp9 P v tok) (h : fa = 0 → P = P') : CK fa fp fa9 fp9 P' v tok := ⟨c.1, fun q r => ⟨(h q).symm.trans (c.2.1 q r).1, (c.2.1 q r).2⟩, fun q r => by rw [← h q]; exact c.2.2 q r⟩
def CW {β : Type} (W : Sum (Int32 × Nat) β) (fa fp : Int32) (R : Sum (Int32 × Nat) β) : Prop := (fa = 0 → W = R) ∧ (¬ fa = 0 → ∃ q : Nat, W = .inl (fa, q) ∧ fp = nI q)
theorem cw_0 {β : Type} {W : Sum (Int32 × Nat) β} {fp : Int32} : CW W 0 fp W := ⟨fun _ => rfl, fun h => absurd rfl h⟩
theorem cw_s {α β : Type} {W : Sum (Int32 × Nat) β} {P : Sum (Int32 × Nat) α} {K : α → Sum (Int32 × Nat) β} {v : α} {tok : Prop} {fa fp fa9 fp9 : Int32} (c : CK fa fp fa9 fp9 P v tok) (h : CW W fa fp (sb P K)) : CW W fa9 fp9 (K v) := by
  constructor
  · intro z
    have h0 := ck_0 c z
    rw [h.1 h0, sb_r (ck_p c z) rfl]
  · intro z
    by_cases q : fa = 0
    · obtain ⟨k, h1, h2⟩ := c.2.2 q z
      exact ⟨k, by rw [h.1 q]; exact sb_l h1, h2⟩
    · obtain ⟨k, h1, h2⟩ := h.2 q
      rw [(c.1 q).1, (c.1 q).2]
      exact ⟨k, h1, h2⟩
theorem fu_ok {n m : Nat} {ro : Int32} (hr : ro.toInt = (m : Int)) (h : n ≤ m) : ((if n = m then (1 : Int32) else 0) = 0 ∧ (n : Int) < ro.toInt) ∨ (¬ (if n = m then (1 : Int32) else 0) = 0 ∧ ro.toInt ≤ (n : Int)) := by
  by_cases q : n = m
  · rw [if_pos q]
    exact Or.inr ⟨by decide, by omega⟩
  · rw [if_neg q]
    exact Or.inl ⟨rfl, by omega⟩
theorem xfr_1 {T : Nat → Int32} {n a p an : Nat} {fu : Int32} {nm : Nat → Int64} (hp : p = tkP T n a) (hn : isNm T n a = false) : fFresh T n a an nm fu = .inl (1, p) := by
  unfold fFresh
  rw [if_neg (by rw [hn]; decide), hp]
theorem xfr_3 {T : Nat → Int32} {n a p an k : Nat} {fu : Int32} {w : Int64} {nm : Nat → Int64} (hp : p = tkP T n a) (hn : isNm T n a = true) (hw : w = tkW T n a) (hk : k < an) (he : nm k = w) (hl : ∀ j, j < k → nm j ≠ w) : fFresh T n a an nm fu = .inl (3, p) := by
  unfold fFresh
  rw [if_pos hn, fnd_s hw hk he hl, hp]
theorem xfr_5 {T : Nat → Int32} {n a p an : Nat} {fu : Int32} {w : Int64} {nm : Nat → Int64} (hp : p = tkP T n a) (hn : isNm T n a = true) (hw : w = tkW T n a) (hl : ∀ j, j < an → nm j ≠ w) (hf : ¬ fu = 0) : fFresh T n a an nm fu = .inl (5, p) := by
  unfold fFresh
  rw [if_pos hn, fnd_n hw hl, hp]
  exact if_neg hf
theorem xfr_t {T : Nat → Int32} {n a an : Nat} {fu : Int32} {w : Int64} {nm : Nat → Int64} (hn : isNm T n a = true) (hw : w = tkW T n a) (hl : ∀ j, j < an → nm j ≠ w) (hf : fu = 0) : fFresh T n a an nm fu = .inr (tkE T n a, w) := by
  unfold fFresh
  rw [if_pos hn, fnd_n hw hl, hw]
  exact if_pos hf
theorem xto_1 {T : Nat → Int32} {n a p an : Nat} {kk : Int32} {nm : Nat → Int64} {kd nb : Nat → Int32} (hp : p = tkP T n a) (hn : isNm T n a = false) : fTold T n a an nm kd nb kk = .inl (1, p) := by
  unfold fTold
  rw [if_neg (by rw [hn]; decide), hp]
theorem xto_2 {T : Nat → Int32} {n a p an : Nat} {kk : Int32} {w : Int64} {nm : Nat → Int64} {kd nb : Nat → Int32} (hp : p = tkP T n a) (hn : isNm T n a = true) (hw : w = tkW T n a) (hl : ∀ j, j < an → nm j ≠ w) : fTold T n a an nm kd nb kk = .inl (2, p) := by
  unfold fTold
  rw [if_pos hn, fnd_n hw hl, hp]
theorem xto_k {T : Nat → Int32} {n a p an k : Nat} {kk v : Int32} {w : Int64} {nm : Nat → Int64} {kd nb : Nat → Int32} (hp : p = tkP T n a) (hn : isNm T n a = true) (hw : w = tkW T n a) (hk : k < an) (he : nm k = w) (hl : ∀ j, j < k → nm j ≠ w) (hv : v = kd k) (hc : ¬ v = kk) : fTold T n a an nm kd nb kk = .inl (2, p) := by
  unfold fTold
  rw [if_pos hn, fnd_s hw hk he hl, hp]
  exact if_neg (by rw [← hv]; exact hc)
theorem xto_t {T : Nat → Int32} {n a an k : Nat} {kk v r : Int32} {w : Int64} {nm : Nat → Int64} {kd nb : Nat → Int32} (hn : isNm T n a = true) (hw : w = tkW T n a) (hk : k < an) (he : nm k = w) (hl : ∀ j, j < k → nm j ≠ w) (hv : v = kd k) (hc : v = kk) (hr : r = nb k) : fTold T n a an nm kd nb kk = .inr r := by
  unfold fTold
  rw [if_pos hn, fnd_s hw hk he hl, hr]
  exact if_pos (hv.symm.trans hc)
theorem xkn_1 {T : Nat → Int32} {n a p ak : Nat} {f1 : Int32} {kn : Nat → Int64} (hp : p = tkP T n a) (hn : isNm T n a = false) : fKnot T n a ak kn f1 = .inl (1, p) := by
  unfold fKnot
  rw [if_neg (by rw [hn]; decide), hp]
theorem xkn_3 {T : Nat → Int32} {n a p ak k : Nat} {f1 : Int32} {w : Int64} {kn : Nat → Int64} (hp : p = tkP T n a) (hn : isNm T n a = true) (hw : w = tkW T n a) (hk : k < ak) (he : kn k = w) (hl : ∀ j, j < k → kn j ≠ w) (hf : nI k = f1) : fKnot T n a ak kn f1 = .inl (3, p) := by
  unfold fKnot
  rw [if_pos hn, fnd_s hw hk he hl, hp]
  exact if_pos hf
theorem xkn_t {T : Nat → Int32} {n a ak k : Nat} {f1 : Int32} {w : Int64} {kn : Nat → Int64} (hn : isNm T n a = true) (hw : w = tkW T n a) (hk : k < ak) (he : kn k = w) (hl : ∀ j, j < k → kn j ≠ w) (hf : ¬ nI k = f1) : fKnot T n a ak kn f1 = .inr (tkE T n a, nI k, ak, kn) := by
  unfold fKnot
  rw [if_pos hn, fnd_s hw hk he hl]
  exact if_neg hf
theorem xkn_5 {T : Nat → Int32} {n a p ak : Nat} {f1 : Int32} {w : Int64} {kn : Nat → Int64} (hp : p = tkP T n a) (hn : isNm T n a = true) (hw : w = tkW T n a) (hl : ∀ j, j < ak → kn j ≠ w) (hf : ak = 10) : fKnot T n a ak kn f1 = .inl (5, p) := by
  unfold fKnot
  rw [if_pos hn, fnd_n hw hl, hp]
  exact if_pos hf
theorem xkn_n {T : Nat → Int32} {n a ak : Nat} {f1 : Int32} {w : Int64} {kn k2 : Nat → Int64} (hn : isNm T n a = true) (hw : w = tkW T n a) (hl : ∀ j, j < ak → kn j ≠ w) (hf : ak ≠ 10) (hu : k2 = vp_updL kn ak w) : fKnot T n a ak kn f1 = .inr (tkE T n a, nI ak, ak + 1, k2) := by
  unfold fKnot
  rw [if_pos hn, fnd_n hw hl, hu, hw]
  exact if_neg hf
theorem ck_k {α : Type} {fa fp fa9 fp9 : Int32} {P : Sum (Int32 × Nat) α} {v : α} {tok : Prop} (h : fa = 0) (h9 : fa9 = 0) (hP : P = .inr v) (ht : tok) : CK fa fp fa9 fp9 P v tok := ⟨fun z => absurd h z, fun _ _ => ⟨hP, ht⟩, fun _ z => absurd h9 z⟩
theorem xin_1 {T : Nat → Int32} {n a p an : Nat} {nm : Nat → Int64} {kd nb has : Nat → Int32} (h : isWd T n a 302 = false) (hp : p = tkP T n a) : xIn T n a an nm kd nb has = .inl (1, p) := by
  unfold xIn
  refine sb_l ?_
  unfold fNeed
  rw [if_neg (by rw [h]; decide), hp]
theorem xin_l {T : Nat → Int32} {n a an : Nat} {nm : Nat → Int64} {kd nb has : Nat → Int32} {e : Int32 × Nat} (h : isWd T n a 302 = true) (h2 : fTold T n (tkE T n a) an nm kd nb 0 = .inl e) : xIn T n a an nm kd nb has = .inl e := by
  unfold xIn
  exact sb_r (need_t h) (sb_l h2)
theorem xin_3 {T : Nat → Int32} {n a p an : Nat} {nm : Nat → Int64} {kd nb has : Nat → Int32} {r v : Int32} (h : isWd T n a 302 = true) (h2 : fTold T n (tkE T n a) an nm kd nb 0 = .inr r) (hv : v = has r.toNatClampNeg) (hc : ¬ v = -1) (hp : p = tkP T n (tkE T n a)) : xIn T n a an nm kd nb has = .inl (3, p) := by
  unfold xIn
  refine sb_r (need_t h) (sb_r h2 ?_)
  rw [hp]
  exact if_neg (by rw [← hv]; exact hc)
theorem xin_t {T : Nat → Int32} {n a an : Nat} {nm : Nat → Int64} {kd nb has : Nat → Int32} {r v : Int32} (h : isWd T n a 302 = true) (h2 : fTold T n (tkE T n a) an nm kd nb 0 = .inr r) (hv : v = has r.toNatClampNeg) (hc : v = -1) : xIn T n a an nm kd nb has = .inr (tkE T n (tkE T n a), r) := by
  unfold xIn
  exact sb_r (need_t h) (sb_r h2 (if_pos (hv.symm.trans hc)))
theorem xin_e {T : Nat → Int32} {n a an : Nat} {nm : Nat → Int64} {kd nb has : Nat → Int32} {r : Int32} {fa fp fa9 fp9 : Int32} {t2 tok : Prop} {v : Nat × Int32} (h0 : fa = 0) (h : isWd T n a 302 = true) (c : CK fa fp fa9 fp9 (fTold T n (tkE T n a) an nm kd nb 0) r t2) (h9 : ¬ fa9 = 0) : CK fa fp fa9 fp9 (xIn T n a an nm kd nb has) v tok := by
  refine ⟨fun z => absurd h0 z, fun _ z => absurd z h9, fun _ _ => ?_⟩
  obtain ⟨q, h1, h2⟩ := c.2.2 h0 h9
  exact ⟨q, xin_l h h1, h2⟩
/-! what a line leaves, in the class -/
theorem xline_way {T : Nat → Int32} {n a an ak aw ad ap af ae : Nat} {nm kn : Nat → Int64} {kd nb di fi fc : Nat → Int32} {x : Nat × Int64 × Int32 × Int32 × Nat × (Nat → Int64) × Int32 × Int32 × Int32 × Int32} {nm2 kn2 : Nat → Int64} {kd2 nb2 : Nat → Int32} {an2 ak2 aw2 : Nat} (h : isWd T n a 23609 = true) (hx : xWay T n a an nm aw ak kn = .inr x) (e0 : an2 = an + 1) (e1 : nm2 = vp_updL nm an x.2.1) (e2 : kd2 = upd kd an 0) (e3 : nb2 = upd nb an (nI aw)) (e4 : ak2 = x.2.2.2.2.1) (e5 : kn2 = x.2.2.2.2.2.1) (e6 : aw2 = aw + 1) : xLine T n (a, an, nm, kd, nb, ak, kn, aw, ad, ap, af, ae, di, fi, fc) = .inr (x.1, an2, nm2, kd2, nb2, ak2, kn2, aw2, ad, ap, af, ae, di, fi, fc) := by
  subst e0 e1 e2 e3 e4 e5 e6
  exact (if_pos h).trans (sb_r hx rfl)
theorem xline_way_l {T : Nat → Int32} {n a an ak aw ad ap af ae : Nat} {nm kn : Nat → Int64} {kd nb di fi fc : Nat → Int32} {e : Int32 × Nat} (h : isWd T n a 23609 = true) (hx : xWay T n a an nm aw ak kn = .inl e) : xLine T n (a, an, nm, kd, nb, ak, kn, aw, ad, ap, af, ae, di, fi, fc) = .inl e := (if_pos h).trans (sb_l hx)
theorem xline_door {T : Nat → Int32} {n a an ak aw ad ap af ae : Nat} {nm kn : Nat → Int64} {kd nb di fi fc : Nat → Int32} {x : Nat × Int64 × Int32 × Int32} {nm2 : Nat → Int64} {kd2 nb2 di2 : Nat → Int32} {an2 ad2 : Nat} (q0 : isWd T n a 23609 = false) (h : isWd T n a 146930 = true) (hx : xDoor T n a an nm kd nb ad di = .inr x) (e0 : an2 = an + 1) (e1 : nm2 = vp_updL nm an x.2.1) (e2 : kd2 = upd kd an 1) (e3 : nb2 = upd nb an (nI ad)) (e4 : di2 = upd di x.2.2.1.toNatClampNeg (nI ad)) (e5 : ad2 = ad + 1) : xLine T n (a, an, nm, kd, nb, ak, kn, aw, ad, ap, af, ae, di, fi, fc) = .inr (x.1, an2, nm2, kd2, nb2, ak, kn, aw, ad2, ap, af, ae, di2, fi, fc) := by
  subst e0 e1 e2 e3 e4 e5
  exact (if_neg (ntb q0)).trans ((if_pos h).trans (sb_r hx rfl))
theorem xline_door_l {T : Nat → Int32} {n a an ak aw ad ap af ae : Nat} {nm kn : Nat → Int64} {kd nb di fi fc : Nat → Int32} {e : Int32 × Nat} (q0 : isWd T n a 23609 = false) (h : isWd T n a 146930 = true) (hx : xDoor T n a an nm kd nb ad di = .inl e) : xLine T n (a, an, nm, kd, nb, ak, kn, aw, ad, ap, af, ae, di, fi, fc) = .inl e := (if_neg (ntb q0)).trans ((if_pos h).trans (sb_l hx))
theorem xline_pair {T : Nat → Int32} {n a an ak aw ad ap af ae : Nat} {nm kn : Nat → Int64} {kd nb di fi fc : Nat → Int32} {x : Nat × Int32 × Int32} {ap2 : Nat} (q0 : isWd T n a 23609 = false) (q1 : isWd T n a 146930 = false) (h : isWd T n a 525618 = true) (hx : fPair T n a an nm kd nb ap = .inr x) (e0 : ap2 = ap + 1) : xLine T n (a, an, nm, kd, nb, ak, kn, aw, ad, ap, af, ae, di, fi, fc) = .inr (x.1, an, nm, kd, nb, ak, kn, aw, ad, ap2, af, ae, di, fi, fc) := by
  subst e0
  exact (if_neg (ntb q0)).trans ((if_neg (ntb q1)).trans ((if_pos h).trans (sb_r hx rfl)))
theorem xline_pair_l {T : Nat → Int32} {n a an ak aw ad ap af ae : Nat} {nm kn : Nat → Int64} {kd nb di fi fc : Nat → Int32} {e : Int32 × Nat} (q0 : isWd T n a 23609 = false) (q1 : isWd T n a 146930 = false) (h : isWd T n a 525618 = true) (hx : fPair T n a an nm kd nb ap = .inl e) : xLine T n (a, an, nm, kd, nb, ak, kn, aw, ad, ap, af, ae, di, fi, fc) = .inl e := (if_neg (ntb q0)).trans ((if_neg (ntb q1)).trans ((if_pos h).trans (sb_l hx)))
theorem xline_fan {T : Nat → Int32} {n a an ak aw ad ap af ae : Nat} {nm kn : Nat → Int64} {kd nb di fi fc : Nat → Int32} {x : Nat × Int64 × Int32 × Int32 × Int32 × Int32} {nm2 : Nat → Int64} {kd2 nb2 fi2 : Nat → Int32} {an2 af2 : Nat} (q0 : isWd T n a 23609 = false) (q1 : isWd T n a 146930 = false) (q2 : isWd T n a 525618 = false) (h : isWd T n a 6190 = true) (hx : xFan T n a an nm kd nb af fi = .inr x) (e0 : an2 = an + 1) (e1 : nm2 = vp_updL nm an x.2.1) (e2 : kd2 = upd kd an 2) (e3 : nb2 = upd nb an (nI af)) (e4 : fi2 = upd fi x.2.2.1.toNatClampNeg (nI af)) (e5 : af2 = af + 1) : xLine T n (a, an, nm, kd, nb, ak, kn, aw, ad, ap, af, ae, di, fi, fc) = .inr (x.1, an2, nm2, kd2, nb2, ak, kn, aw, ad, ap, af2, ae, di, fi2, fc) := by
  subst e0 e1 e2 e3 e4 e5
  exact (if_neg (ntb q0)).trans ((if_neg (ntb q1)).trans ((if_neg (ntb q2)).trans ((if_pos h).trans (sb_r hx rfl))))
theorem xline_fan_l {T : Nat → Int32} {n a an ak aw ad ap af ae : Nat} {nm kn : Nat → Int64} {kd nb di fi fc : Nat → Int32} {e : Int32 × Nat} (q0 : isWd T n a 23609 = false) (q1 : isWd T n a 146930 = false) (q2 : isWd T n a 525618 = false) (h : isWd T n a 6190 = true) (hx : xFan T n a an nm kd nb af fi = .inl e) : xLine T n (a, an, nm, kd, nb, ak, kn, aw, ad, ap, af, ae, di, fi, fc) = .inl e := (if_neg (ntb q0)).trans ((if_neg (ntb q1)).trans ((if_neg (ntb q2)).trans ((if_pos h).trans (sb_l hx))))
theorem xline_face {T : Nat → Int32} {n a an ak aw ad ap af ae : Nat} {nm kn : Nat → Int64} {kd nb di fi fc : Nat → Int32} {x : Nat × Int64 × Int32 × Int32 × Int32} {nm2 : Nat → Int64} {kd2 nb2 fc2 : Nat → Int32} {an2 ae2 : Nat} (q0 : isWd T n a 23609 = false) (q1 : isWd T n a 146930 = false) (q2 : isWd T n a 525618 = false) (q3 : isWd T n a 6190 = false) (h : isWd T n a 197733 = true) (hx : xFace T n a an nm kd nb ae fc = .inr x) (e0 : an2 = an + 1) (e1 : nm2 = vp_updL nm an x.2.1) (e2 : kd2 = upd kd an 3) (e3 : nb2 = upd nb an (nI ae)) (e4 : fc2 = upd fc x.2.2.1.toNatClampNeg (nI ae)) (e5 : ae2 = ae + 1) : xLine T n (a, an, nm, kd, nb, ak, kn, aw, ad, ap, af, ae, di, fi, fc) = .inr (x.1, an2, nm2, kd2, nb2, ak, kn, aw, ad, ap, af, ae2, di, fi, fc2) := by
  subst e0 e1 e2 e3 e4 e5
  exact (if_neg (ntb q0)).trans ((if_neg (ntb q1)).trans ((if_neg (ntb q2)).trans ((if_neg (ntb q3)).trans ((if_pos h).trans (sb_r hx rfl)))))
theorem xline_face_l {T : Nat → Int32} {n a an ak aw ad ap af ae : Nat} {nm kn : Nat → Int64} {kd nb di fi fc : Nat → Int32} {e : Int32 × Nat} (q0 : isWd T n a 23609 = false) (q1 : isWd T n a 146930 = false) (q2 : isWd T n a 525618 = false) (q3 : isWd T n a 6190 = false) (h : isWd T n a 197733 = true) (hx : xFace T n a an nm kd nb ae fc = .inl e) : xLine T n (a, an, nm, kd, nb, ak, kn, aw, ad, ap, af, ae, di, fi, fc) = .inl e := (if_neg (ntb q0)).trans ((if_neg (ntb q1)).trans ((if_neg (ntb q2)).trans ((if_neg (ntb q3)).trans ((if_pos h).trans (sb_l hx)))))
theorem xline_0 {T : Nat → Int32} {n a an ak aw ad ap af ae : Nat} {nm kn : Nat → Int64} {kd nb di fi fc : Nat → Int32} {p : Nat} (q0 : isWd T n a 23609 = false) (q1 : isWd T n a 146930 = false) (q2 : isWd T n a 525618 = false) (q3 : isWd T n a 6190 = false) (q4 : isWd T n a 197733 = false) (hp : p = tkP T n a) : xLine T n (a, an, nm, kd, nb, ak, kn, aw, ad, ap, af, ae, di, fi, fc) = .inl (1, p) := by rw [hp]; exact (if_neg (ntb q0)).trans ((if_neg (ntb q1)).trans ((if_neg (ntb q2)).trans ((if_neg (ntb q3)).trans ((if_neg (ntb q4))))))
theorem xln_go {T : Nat → Int32} {n f g k : Nat} {σ τ σ2 : RSt} {W : Sum (Int32 × Nat) RSt} (hW : W = xLines T n f σ) (h : xLine T n σ = .inr τ) (h3 : tkS T n τ.1 = 3) (hf : f = g + 1) (hk : k = g) (he : (tkE T n τ.1, τ.2) = σ2) : W = xLines T n k σ2 := by
  subst hf he hk
  rw [hW]
  show sb (xLine T n σ) _ = _
  rw [sb_r h rfl]
  exact if_pos h3
theorem xln_l {T : Nat → Int32} {n f g : Nat} {σ : RSt} {e : Int32 × Nat} {W : Sum (Int32 × Nat) RSt} (hW : W = xLines T n f σ) (hf : f = g + 1) (h : xLine T n σ = .inl e) : W = .inl e := by
  subst hf
  rw [hW]
  exact sb_l h
theorem xln_0 {T : Nat → Int32} {n f g p : Nat} {σ τ : RSt} {W : Sum (Int32 × Nat) RSt} (hW : W = xLines T n f σ) (hf : f = g + 1) (h : xLine T n σ = .inr τ) (h3 : tkS T n τ.1 ≠ 3) (h0 : tkS T n τ.1 ≠ 0) (hp : p = tkP T n τ.1) : W = .inl (1, p) := by
  subst hf
  rw [hW, hp]
  show sb (xLine T n σ) _ = _
  rw [sb_r h rfl]
  exact (if_neg h3).trans (if_neg h0)
theorem xln_t {T : Nat → Int32} {n f g : Nat} {σ τ : RSt} {W : Sum (Int32 × Nat) RSt} (hW : W = xLines T n f σ) (hf : f = g + 1) (h : xLine T n σ = .inr τ) (h0 : tkS T n τ.1 = 0) : W = .inr τ := by
  subst hf
  rw [hW]
  show sb (xLine T n σ) _ = _
  rw [sb_r h rfl]
  exact (if_neg (by rw [h0]; decide)).trans (if_pos h0)
theorem xln_n {T : Nat → Int32} {n f p : Nat} {σ : RSt} {W : Sum (Int32 × Nat) RSt} (hW : W = xLines T n f σ) (hf : f = 0) (hp : p = tkP T n σ.1) : W = .inl (1, p) := by
  subst hf
  rw [hW, hp]
  rfl
/-! a PAIR's line in the class -/
theorem nzm {fa fa9 ny : Int32} {X Y : Prop} (m1 : fa = 0 → fa9 = ny ∧ X) (m2 : ¬ fa = 0 → fa9 = fa ∧ Y) (hn : ¬ ny = 0) : ¬ fa9 = 0 := by
  by_cases z : fa = 0
  · rw [(m1 z).1]; exact hn
  · rw [(m2 z).1]; exact z
theorem xpr_1 {T : Nat → Int32} {n a an ap : Nat} {nm : Nat → Int64} {kd nb : Nat → Int32} {fp fa fp1 r : Int32} {t : Prop} (c : CK 0 fp fa fp1 (fTold T n (tkE T n a) an nm kd nb 1) r t) (h : ¬ fa = 0) : ∃ q : Nat, fPair T n a an nm kd nb ap = .inl (fa, q) ∧ fp1 = nI q := by
  obtain ⟨q, h1, h2⟩ := c.2.2 rfl h
  exact ⟨q, pair_1 h1, h2⟩
theorem xpr_5 {T : Nat → Int32} {n a an ap ts : Nat} {nm : Nat → Int64} {kd nb : Nat → Int32} {fp fa fp1 fa9 fp9 r : Int32} {t : Prop} (c : CK 0 fp fa fp1 (fTold T n (tkE T n a) an nm kd nb 1) r t) (m1 : fa = 0 → fa9 = 5 ∧ fp9 = nI ts) (m2 : ¬ fa = 0 → fa9 = fa ∧ fp9 = fp1) (h3 : ap = 3) (hp : ts = tkP T n (tkE T n a)) : ∃ q : Nat, fPair T n a an nm kd nb ap = .inl (fa9, q) ∧ fp9 = nI q := by
  by_cases z : fa = 0
  · exact ⟨ts, by rw [(m1 z).1]; exact pair_5 (c.2.1 rfl z).1 h3 hp, (m1 z).2⟩
  · obtain ⟨q, h1, h2⟩ := c.2.2 rfl z
    exact ⟨q, by rw [(m2 z).1]; exact pair_1 h1, by rw [(m2 z).2]; exact h2⟩
theorem xpr_2 {T : Nat → Int32} {n a an ap : Nat} {nm : Nat → Int64} {kd nb : Nat → Int32} {fp fa fp1 fa2 fp2 r r2 : Int32} {t t2 : Prop} (c : CK 0 fp fa fp1 (fTold T n (tkE T n a) an nm kd nb 1) r t) (z : fa = 0) (h3 : ap ≠ 3) (c2 : CK fa fp1 fa2 fp2 (fTold T n (tkE T n (tkE T n a)) an nm kd nb 1) r2 t2) (h : ¬ fa2 = 0) : ∃ q : Nat, fPair T n a an nm kd nb ap = .inl (fa2, q) ∧ fp2 = nI q := by
  obtain ⟨q, h1, h2⟩ := c2.2.2 z h
  exact ⟨q, pair_2 (c.2.1 rfl z).1 h3 h1, h2⟩
theorem xpr_3 {T : Nat → Int32} {n a an ap ts : Nat} {nm : Nat → Int64} {kd nb : Nat → Int32} {fp fa fp1 fa2 fp2 fa9 fp9 r r2 : Int32} {t t2 : Prop} (c : CK 0 fp fa fp1 (fTold T n (tkE T n a) an nm kd nb 1) r t) (z : fa = 0) (h3 : ap ≠ 3) (c2 : CK fa fp1 fa2 fp2 (fTold T n (tkE T n (tkE T n a)) an nm kd nb 1) r2 t2) (e : r2 = r) (m1 : fa2 = 0 → fa9 = 3 ∧ fp9 = nI ts) (m2 : ¬ fa2 = 0 → fa9 = fa2 ∧ fp9 = fp2) (hp : ts = tkP T n (tkE T n (tkE T n a))) : ∃ q : Nat, fPair T n a an nm kd nb ap = .inl (fa9, q) ∧ fp9 = nI q := by
  by_cases y : fa2 = 0
  · exact ⟨ts, by rw [(m1 y).1]; exact pair_3 (c.2.1 rfl z).1 h3 (c2.2.1 z y).1 e hp, (m1 y).2⟩
  · obtain ⟨q, h1, h2⟩ := c2.2.2 z y
    exact ⟨q, by rw [(m2 y).1]; exact pair_2 (c.2.1 rfl z).1 h3 h1, by rw [(m2 y).2]; exact h2⟩
theorem xpr_t {T : Nat → Int32} {n a an ap : Nat} {nm : Nat → Int64} {kd nb : Nat → Int32} {fp fa fp1 fa2 fp2 r r2 : Int32} {t t2 : Prop} (c : CK 0 fp fa fp1 (fTold T n (tkE T n a) an nm kd nb 1) r t) (z : fa = 0) (h3 : ap ≠ 3) (c2 : CK fa fp1 fa2 fp2 (fTold T n (tkE T n (tkE T n a)) an nm kd nb 1) r2 t2) (z2 : fa2 = 0) (e : ¬ r2 = r) : fPair T n a an nm kd nb ap = .inr (tkE T n (tkE T n (tkE T n a)), r, r2) := pair_t (c.2.1 rfl z).1 h3 (c2.2.1 z z2).1 e
/-! the class's BOOK is the reference's -/
theorem xb_t {T : Nat → Int32} {n ps an ak aw ad ap af ae : Nat} {nm kn nm2 kn2 : Nat → Int64} {kd nb di fi fc kd2 nb2 di2 fi2 fc2 : Nat → Int32} (hd : ∀ j, j < 14 → di j = -1) (hf : ∀ j, j < 14 → fi j = -1) (hc : ∀ j, j < 14 → fc j = -1) (h : xLines T n 601 (0, 0, nm, kd, nb, 0, kn, 0, 0, 0, 0, 0, di, fi, fc) = .inr (ps, an, nm2, kd2, nb2, ak, kn2, aw, ad, ap, af, ae, di2, fi2, fc2)) : ∃ σ : RSt, fBook T n = .inr σ ∧ bkw σ = aw ∧ bkk σ = ak ∧ bkf σ = af := by
  obtain ⟨σ, h1, h2⟩ := rs_r (book_s hd hf hc) h
  have h3 := rr_c h2
  exact ⟨σ, h1, h3.1.symm, h3.2.1.symm, h3.2.2.symm⟩
theorem xb_l {T : Nat → Int32} {n : Nat} {nm kn : Nat → Int64} {kd nb di fi fc : Nat → Int32} {e : Int32 × Nat} (hd : ∀ j, j < 14 → di j = -1) (hf : ∀ j, j < 14 → fi j = -1) (hc : ∀ j, j < 14 → fc j = -1) (h : xLines T n 601 (0, 0, nm, kd, nb, 0, kn, 0, 0, 0, 0, 0, di, fi, fc) = .inl e) : fBook T n = .inl e := rs_l (book_s hd hf hc) h
