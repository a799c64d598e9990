/-! the reading of a text: what lies on the stack, how deep its signs are -/
theorem dp_congr {f g : Nat → Int32} {a : Nat} : ∀ {n : Nat}, (∀ j, j < n → f (a + j) = g (a + j)) → dp f a n = dp g a n := by
  intro n
  induction n with
  | zero => intro _; rfl
  | succ n ih =>
    intro h
    unfold dp
    rw [ih (fun j hj => h j (by omega)), h n (by omega)]
def dA (f : Nat → Int32) (F : Nat) (n : Int32) (d : Nat) : Prop := F ≤ n.toNatClampNeg ∧ dp f F (n.toNatClampNeg - F) = some d
theorem dA_emit {f : Nat → Int32} {F d d' : Nat} {n n' o : Int32} (h : dA f F n d) (hs : stp o d = some d') (hn : 0 ≤ n.toInt) (h' : n'.toInt = n.toInt + 1) : dA (upd f n.toNatClampNeg o) F n' d' := by
  have e : n'.toNatClampNeg = n.toNatClampNeg + 1 := by rw [i_ix h', i_ix (rfl : n.toInt = n.toInt)]; omega
  refine ⟨by have := h.1; omega, ?_⟩
  have h1 := h.1
  rw [e, show n.toNatClampNeg + 1 - F = (n.toNatClampNeg - F) + 1 by omega, dp]
  rw [dp_congr (g := f) (fun j hj => upd_off f o (by omega)), h.2]
  dsimp only
  rw [show F + (n.toNatClampNeg - F) = n.toNatClampNeg by omega, upd_at]
  exact hs
def isV (x : Int32) : Prop := x.toInt = 91 ∨ x.toInt = 42 ∨ x.toInt = 47 ∨ x.toInt = 37 ∨ x.toInt = 43 ∨ x.toInt = 45
def bnV (f : Nat → Int32) (b : Nat) : Nat → Nat
  | 0 => 0
  | n + 1 => bnV f b n + (if b ≤ n ∧ (f n).toInt ≠ 91 then 1 else 0)
theorem bnV_congr {f g : Nat → Int32} {b : Nat} : ∀ {n : Nat}, (∀ j, j < n → f j = g j) → bnV f b n = bnV g b n := by
  intro n
  induction n with
  | zero => intro _; rfl
  | succ n ih =>
    intro h
    unfold bnV
    rw [ih (fun j hj => h j (by omega)), h n (by omega)]
theorem bnV_0 {f : Nat → Int32} {b : Nat} : ∀ {n : Nat}, n ≤ b → bnV f b n = 0 := by
  intro n
  induction n with
  | zero => intro _; rfl
  | succ n ih =>
    intro h
    unfold bnV
    rw [ih (by omega), if_neg (by omega)]
/-- within an E: b is the stack's height ahead of it, d how deep the signs are there; q 1 behind an operand -/
def VS (s0 c0 : Nat → Int32) (F b d : Nat) (st code : Nat → Int32) (k n : Int32) (q : Nat) : Prop :=
  b ≤ k.toNatClampNeg ∧ (∀ j, b ≤ j → j < k.toNatClampNeg → isV (st j)) ∧ dA code F n (d + bnV st b k.toNatClampNeg + q) ∧ (∀ j, j < b → st j = s0 j) ∧ (∀ j, j < F → code j = c0 j)
theorem VS_start {st code : Nat → Int32} {F d : Nat} {k n : Int32} (h : dA code F n d) : VS st code F k.toNatClampNeg d st code k n 0 :=
  ⟨Nat.le_refl _, fun j h1 h2 => by omega, by rw [bnV_0 (Nat.le_refl _)]; exact h, fun _ _ => rfl, fun _ _ => rfl⟩
theorem VS_push {s0 c0 st code : Nat → Int32} {F b d q : Nat} {k k' n x : Int32} (h : VS s0 c0 F b d st code k n q) (hk : 0 ≤ k.toInt) (h' : k'.toInt = k.toInt + 1) (hx : isV x) {q' : Nat} (hq : q' + (if x.toInt ≠ 91 then 1 else 0) = q) : VS s0 c0 F b d (upd st k.toNatClampNeg x) code k' n q' := by
  obtain ⟨h1, h2, h3, h4, h5⟩ := h
  have e : k'.toNatClampNeg = k.toNatClampNeg + 1 := by rw [i_ix h', i_ix (rfl : k.toInt = k.toInt)]; omega
  refine ⟨by omega, fun j hj1 hj2 => ?_, ?_, fun j hj => ?_, h5⟩
  · unfold upd
    split
    · exact hx
    · exact h2 j hj1 (by omega)
  · rw [e, bnV, upd_at, bnV_congr (g := st) (fun j hj => upd_off st x (by omega))]
    by_cases c : x.toInt ≠ 91
    · rw [if_pos ⟨h1, c⟩]
      rw [if_pos c] at hq
      rw [show d + (bnV st b k.toNatClampNeg + 1) + q' = d + bnV st b k.toNatClampNeg + q by omega]
      exact h3
    · rw [if_neg (fun z => c z.2)]
      rw [if_neg c] at hq
      rw [show d + (bnV st b k.toNatClampNeg + 0) + q' = d + bnV st b k.toNatClampNeg + q by omega]
      exact h3
  · rw [upd_off st x (by omega)]
    exact h4 j hj
/-- an operand's sign -/
theorem VS_opnd {s0 c0 st code : Nat → Int32} {F b d : Nat} {k n n' o : Int32} (h : VS s0 c0 F b d st code k n 0) (hn : 0 ≤ n.toInt) (h' : n'.toInt = n.toInt + 1) (ho : o.toInt < 2) : VS s0 c0 F b d st (upd code n.toNatClampNeg o) k n' 1 := by
  obtain ⟨h1, h2, h3, h4, h5⟩ := h
  refine ⟨h1, h2, dA_emit h3 (by unfold stp; rw [if_neg (by omega), if_neg (by omega)]) hn h', h4, fun j hj => ?_⟩
  rw [upd_off code o (by have := h3.1; omega)]
  exact h5 j hj
/-- an operator leaves the stack for the signs -/
theorem VS_pop {s0 c0 st code : Nat → Int32} {F b d : Nat} {k k' n n' o : Int32} (h : VS s0 c0 F b d st code k n 1) (hb : b < k.toNatClampNeg) (hn : 0 ≤ n.toInt) (h' : n'.toInt = n.toInt + 1) (hk : k'.toInt = k.toInt - 1) (ho : o = st (k.toNatClampNeg - 1)) (hne : o.toInt ≠ 91) : VS s0 c0 F b d st (upd code n.toNatClampNeg o) k' n' 1 := by
  obtain ⟨h1, h2, h3, h4, h5⟩ := h
  have e : k'.toNatClampNeg = k.toNatClampNeg - 1 := by rw [i_ix hk, i_ix (rfl : k.toInt = k.toInt)]; omega
  have hv := h2 (k.toNatClampNeg - 1) (by omega) (by omega)
  rw [← ho] at hv
  have e2 : bnV st b k.toNatClampNeg = bnV st b (k.toNatClampNeg - 1) + 1 := by
    rw [show k.toNatClampNeg = (k.toNatClampNeg - 1) + 1 by omega, bnV, if_pos ⟨by omega, by rw [← ho]; exact hne⟩]
    try simp
  refine ⟨by omega, fun j hj1 hj2 => h2 j hj1 (by omega), ?_, h4, fun j hj => ?_⟩
  · rw [e]
    rw [e2] at h3
    refine dA_emit h3 ?_ hn h'
    unfold stp
    rw [if_pos (by rcases hv with q | q | q | q | q | q <;> omega), if_pos (by omega)]
    congr 1
  · rw [upd_off code o (by have := h3.1; omega)]
    exact h5 j hj
/-- a [ goes -/
theorem VS_close {s0 c0 st code : Nat → Int32} {F b d : Nat} {k k' n : Int32} (h : VS s0 c0 F b d st code k n 1) (hb : b < k.toNatClampNeg) (hk : k'.toInt = k.toInt - 1) (ho : (st (k.toNatClampNeg - 1)).toInt = 91) : VS s0 c0 F b d st code k' n 1 := by
  obtain ⟨h1, h2, h3, h4, h5⟩ := h
  have e : k'.toNatClampNeg = k.toNatClampNeg - 1 := by rw [i_ix hk, i_ix (rfl : k.toInt = k.toInt)]; omega
  have e2 : bnV st b k.toNatClampNeg = bnV st b (k.toNatClampNeg - 1) := by
    rw [show k.toNatClampNeg = (k.toNatClampNeg - 1) + 1 by omega, bnV, if_neg (fun z => z.2 ho)]
    try simp
  refine ⟨by omega, fun j hj1 hj2 => h2 j hj1 (by omega), ?_, h4, h5⟩
  rw [e, ← e2]
  exact h3
/-- below an E lies no sign of an E -/
def nbV (s0 : Nat → Int32) (b : Nat) : Prop := b = 0 ∨ ¬ isV (s0 (b - 1))
theorem VS_top {s0 c0 st code : Nat → Int32} {F b d q : Nat} {k n : Int32} (h : VS s0 c0 F b d st code k n q) (hn : nbV s0 b) (hv : isV (st (k.toNatClampNeg - 1))) (hk : 0 < k.toNatClampNeg) : b < k.toNatClampNeg := by
  obtain ⟨h1, h2, h3, h4, h5⟩ := h
  by_cases c : b < k.toNatClampNeg
  · exact c
  · exfalso
    have e : b = k.toNatClampNeg := by omega
    rcases hn with hn | hn
    · omega
    · rw [← e, h4 _ (by omega)] at hv
      exact hn hv
/-- nothing of it is left on the stack -/
theorem VS_end {s0 c0 st code : Nat → Int32} {F b d : Nat} {k n : Int32} (h : VS s0 c0 F b d st code k n 1) (ht : k.toNatClampNeg = 0 ∨ ¬ isV (st (k.toNatClampNeg - 1))) : b = k.toNatClampNeg ∧ dA code F n (d + 1) ∧ (∀ j, j < b → st j = s0 j) ∧ (∀ j, j < F → code j = c0 j) := by
  obtain ⟨h1, h2, h3, h4, h5⟩ := h
  have e : b = k.toNatClampNeg := by
    rcases ht with ht | ht
    · omega
    · by_cases c : b < k.toNatClampNeg
      · exact absurd (h2 _ (by omega) (by omega)) ht
      · omega
  refine ⟨e, ?_, h4, h5⟩
  rw [← e, bnV_0 (Nat.le_refl _)] at h3
  exact h3
/-! conditions -/
def isC (x : Int32) : Prop := x.toInt = 40 ∨ x.toInt = 33 ∨ x.toInt = 38 ∨ x.toInt = 124
def bnC (f : Nat → Int32) : Nat → Nat
  | 0 => 0
  | n + 1 => bnC f n + (if (f n).toInt = 38 ∨ (f n).toInt = 124 then 1 else 0)
theorem bnC_congr {f g : Nat → Int32} : ∀ {n : Nat}, (∀ j, j < n → f j = g j) → bnC f n = bnC g n := by
  intro n
  induction n with
  | zero => intro _; rfl
  | succ n ih =>
    intro h
    unfold bnC
    rw [ih (fun j hj => h j (by omega)), h n (by omega)]
def CS (c0 : Nat → Int32) (F : Nat) (st code : Nat → Int32) (k n : Int32) (q : Nat) : Prop :=
  1 ≤ k.toNatClampNeg ∧ (st 0).toInt = 40 ∧ (∀ j, j < k.toNatClampNeg → isC (st j)) ∧ dA code F n (bnC st k.toNatClampNeg + q) ∧ (∀ j, j < F → code j = c0 j)
theorem CS_push {c0 st code : Nat → Int32} {F q : Nat} {k k' n x : Int32} (h : CS c0 F st code k n q) (hk : 0 ≤ k.toInt) (h' : k'.toInt = k.toInt + 1) (hx : isC x) {q' : Nat} (hq : q' + (if x.toInt = 38 ∨ x.toInt = 124 then 1 else 0) = q) : CS c0 F (upd st k.toNatClampNeg x) code k' n q' := by
  obtain ⟨h1, h2, h3, h4, h5⟩ := h
  have e : k'.toNatClampNeg = k.toNatClampNeg + 1 := by rw [i_ix h', i_ix (rfl : k.toInt = k.toInt)]; omega
  refine ⟨by omega, by rw [upd_off st x (by omega)]; exact h2, fun j hj => ?_, ?_, h5⟩
  · unfold upd
    split
    · exact hx
    · exact h3 j (by omega)
  · rw [e, bnC, upd_at, bnC_congr (g := st) (fun j hj => upd_off st x (by omega))]
    rw [show bnC st k.toNatClampNeg + (if x.toInt = 38 ∨ x.toInt = 124 then 1 else 0) + q' = bnC st k.toNatClampNeg + q by omega]
    exact h4
/-- & or | leaves the stack for the signs -/
theorem CS_pop {c0 st code : Nat → Int32} {F : Nat} {k k' n n' o : Int32} (h : CS c0 F st code k n 1) (hn : 0 ≤ n.toInt) (h' : n'.toInt = n.toInt + 1) (hk : k'.toInt = k.toInt - 1) (ho : o = st (k.toNatClampNeg - 1)) (hv : o.toInt = 38 ∨ o.toInt = 124) : CS c0 F st (upd code n.toNatClampNeg o) k' n' 1 := by
  obtain ⟨h1, h2, h3, h4, h5⟩ := h
  have e : k'.toNatClampNeg = k.toNatClampNeg - 1 := by rw [i_ix hk, i_ix (rfl : k.toInt = k.toInt)]; omega
  have hk2 : 2 ≤ k.toNatClampNeg := by
    by_cases c : k.toNatClampNeg = 1
    · rw [c] at ho
      rw [ho] at hv
      simp at hv
      omega
    · omega
  have e2 : bnC st k.toNatClampNeg = bnC st (k.toNatClampNeg - 1) + 1 := by
    rw [show k.toNatClampNeg = (k.toNatClampNeg - 1) + 1 by omega, bnC, if_pos (by rw [← ho]; exact hv)]
    try simp
  refine ⟨by omega, h2, fun j hj => h3 j (by omega), ?_, fun j hj => ?_⟩
  · rw [e]
    rw [e2] at h4
    refine dA_emit h4 ?_ hn h'
    unfold stp
    rw [if_pos (by omega), if_pos (by omega)]
    congr 1
  · rw [upd_off code o (by have := h4.1; omega)]
    exact h5 j hj
/-- a ! goes, its sign comes -/
theorem CS_not {c0 st code : Nat → Int32} {F : Nat} {k k' n n' o : Int32} (h : CS c0 F st code k n 1) (hn : 0 ≤ n.toInt) (h' : n'.toInt = n.toInt + 1) (hk : k'.toInt = k.toInt - 1) (ho : (st (k.toNatClampNeg - 1)).toInt = 33) (h2' : o.toInt = 2) : CS c0 F st (upd code n.toNatClampNeg o) k' n' 1 := by
  obtain ⟨h1, h2, h3, h4, h5⟩ := h
  have e : k'.toNatClampNeg = k.toNatClampNeg - 1 := by rw [i_ix hk, i_ix (rfl : k.toInt = k.toInt)]; omega
  have hk2 : 2 ≤ k.toNatClampNeg := by
    by_cases c : k.toNatClampNeg = 1
    · rw [c] at ho
      simp at ho
      omega
    · omega
  have e2 : bnC st k.toNatClampNeg = bnC st (k.toNatClampNeg - 1) := by
    rw [show k.toNatClampNeg = (k.toNatClampNeg - 1) + 1 by omega, bnC, if_neg (by (try simp only [Nat.add_sub_cancel]); omega)]
    try simp
  refine ⟨by omega, h2, fun j hj => h3 j (by omega), ?_, fun j hj => ?_⟩
  · rw [e, ← e2]
    refine dA_emit h4 ?_ hn h'
    unfold stp
    rw [if_neg (by omega), if_pos h2', if_pos (by omega)]
  · rw [upd_off code o (by have := h4.1; omega)]
    exact h5 j hj
/-- a ( goes; it was the last one, or not -/
theorem CS_close {c0 st code : Nat → Int32} {F : Nat} {k k' n : Int32} (h : CS c0 F st code k n 1) (hk : k'.toInt = k.toInt - 1) (ho : ¬ ((st (k.toNatClampNeg - 1)).toInt = 38 ∨ (st (k.toNatClampNeg - 1)).toInt = 124)) : (k'.toInt = 0 → dA code F n 1 ∧ ∀ j, j < F → code j = c0 j) ∧ (k'.toInt ≠ 0 → CS c0 F st code k' n 1) := by
  obtain ⟨h1, h2, h3, h4, h5⟩ := h
  have e0 := i_ix (rfl : k.toInt = k.toInt)
  have e : k'.toNatClampNeg = k.toNatClampNeg - 1 := by rw [i_ix hk, i_ix (rfl : k.toInt = k.toInt)]; omega
  have e2 : bnC st k.toNatClampNeg = bnC st (k.toNatClampNeg - 1) := by
    rw [show k.toNatClampNeg = (k.toNatClampNeg - 1) + 1 by omega, bnC, if_neg (by (try simp only [Nat.add_sub_cancel]); exact ho)]
    try simp
  refine ⟨fun z => ⟨?_, h5⟩, fun z => ⟨by omega, h2, fun j hj => h3 j (by omega), by rw [e, ← e2]; exact h4, h5⟩⟩
  rw [e2, show k.toNatClampNeg - 1 = 0 by omega] at h4
  exact h4
theorem CS_start {code : Nat → Int32} {F : Nat} {st : Nat → Int32} {k n x : Int32} {z : Int32} (h : dA code F n 0) (hz : z.toInt = 0) (hk : k.toInt = 1) (hx : x.toInt = 40) : CS code F (upd st z.toNatClampNeg x) code k n 0 := by
  have e : k.toNatClampNeg = 1 := by rw [i_ix hk]; rfl
  have e0 : z.toNatClampNeg = 0 := by rw [i_ix hz]; rfl
  have e1 : upd st z.toNatClampNeg x 0 = x := by rw [e0]; exact upd_at _ _ _
  refine ⟨by omega, by rw [e1]; exact hx, fun j hj => ?_, ?_, fun _ _ => rfl⟩
  · rw [show j = 0 by omega, e1]
    exact Or.inl hx
  · rw [e, bnC, e1, if_neg (by omega), bnC]
    exact h
/-- behind an E of a piece: the stack as before, one number more -/
theorem CS_val {c0 st code st' code' : Nat → Int32} {F : Nat} {k k' n n' : Int32} (h : CS c0 F st code k n 0) (hk : k'.toInt = k.toInt) (hd : dA code' F n' (bnC st k.toNatClampNeg + 1)) (hs : ∀ j, j < k.toNatClampNeg → st' j = st j) (hc : ∀ j, j < F → code' j = code j) : CS c0 F st' code' k' n' 1 := by
  obtain ⟨h1, h2, h3, h4, h5⟩ := h
  have e : k'.toNatClampNeg = k.toNatClampNeg := by rw [i_ix hk, i_ix (rfl : k.toInt = k.toInt)]
  refine ⟨by omega, by rw [hs 0 (by omega)]; exact h2, fun j hj => by rw [hs j (by omega)]; exact h3 j (by omega), ?_, fun j hj => by rw [hc j hj]; exact h5 j hj⟩
  rw [e, bnC_congr (g := st) hs]
  exact hd
/-- clauses that are read, and that no later sign touches -/
def wfN (n : Int32) (sf cf ct code : Nat → Int32) (m : Int32) : Prop := wfC n sf cf ct code ∧ ∀ k : Nat, (k : Int) < n.toInt → (ct k).toInt ≤ m.toInt
theorem wfC_moved {n n' : Int32} {sf cf ct code sf' cf' ct' code' : Nat → Int32} {m : Int32} (h : wfN n sf cf ct code m) (hn : n'.toInt = n.toInt) (h1 : ∀ k : Nat, (k : Int) < n.toInt → sf' k = sf k) (h2 : ∀ k : Nat, (k : Int) < n.toInt → cf' k = cf k) (h3 : ∀ k : Nat, (k : Int) < n.toInt → ct' k = ct k) (h4 : ∀ j : Nat, (j : Int) < m.toInt → code' j = code j) : wfC n' sf' cf' ct' code' := by
  intro k hk
  obtain ⟨q1, q2, q3, q4, q5, q6⟩ := h.1 k (by omega)
  have q7 := h.2 k (by omega)
  have g1 := i_ix (rfl : (sf k).toInt = (sf k).toInt)
  have g2 := i_ix (rfl : (cf k).toInt = (cf k).toInt)
  have g3 := i_ix (rfl : (ct k).toInt = (ct k).toInt)
  rw [h1 k (by omega), h2 k (by omega), h3 k (by omega)]
  refine ⟨q1, q2, q3, q4, ?_, ?_⟩
  · rw [dp_congr (g := code) (fun j hj => h4 _ (by omega))]; exact q5
  · rw [dp_congr (g := code) (fun j hj => h4 _ (by omega))]; exact q6
theorem wfN_add {n n' s f t m : Int32} {sf cf ct code code1 code' : Nat → Int32} (h : wfN n sf cf ct code s) (hn : 0 ≤ n.toInt) (hn' : n'.toInt = n.toInt + 1) (h0 : 0 ≤ s.toInt) (hm : m.toInt ≤ 200) (htm : t = m) (h1 : dA code1 s.toNatClampNeg f 1) (h2 : dA code' f.toNatClampNeg m 1) (hc1 : ∀ j, j < s.toNatClampNeg → code1 j = code j) (hc2 : ∀ j, j < f.toNatClampNeg → code' j = code1 j) (hf : 0 ≤ f.toInt) (hm0 : 0 ≤ m.toInt) :
    wfN n' (upd sf n.toNatClampNeg s) (upd cf n.toNatClampNeg f) (upd ct n.toNatClampNeg t) code' m := by
  subst htm
  have e0 := i_ix (rfl : n.toInt = n.toInt)
  have es := i_ix (rfl : s.toInt = s.toInt)
  have ef := i_ix (rfl : f.toInt = f.toInt)
  have et := i_ix (rfl : t.toInt = t.toInt)
  have d1 := h1.1
  have d2 := h2.1
  have key : ∀ j, j < s.toNatClampNeg → code' j = code j := fun j hj => (hc2 j (by omega)).trans (hc1 j hj)
  refine ⟨fun k hk => ?_, fun k hk => ?_⟩
  · by_cases c : k = n.toNatClampNeg
    · subst c
      rw [upd_at, upd_at, upd_at]
      refine ⟨h0, by omega, by omega, hm, ?_, h2.2⟩
      rw [dp_congr (g := code1) (fun j hj => hc2 _ (by omega))]
      exact h1.2
    · rw [upd_off _ _ c, upd_off _ _ c, upd_off _ _ c]
      obtain ⟨q1, q2, q3, q4, q5, q6⟩ := h.1 k (by omega)
      have q7 := h.2 k (by omega)
      have g1 := i_ix (rfl : (sf k).toInt = (sf k).toInt)
      have g2 := i_ix (rfl : (cf k).toInt = (cf k).toInt)
      have g3 := i_ix (rfl : (ct k).toInt = (ct k).toInt)
      refine ⟨q1, q2, q3, q4, ?_, ?_⟩
      · rw [dp_congr (g := code) (fun j hj => key _ (by omega))]; exact q5
      · rw [dp_congr (g := code) (fun j hj => key _ (by omega))]; exact q6
  · by_cases c : k = n.toNatClampNeg
    · subst c
      rw [upd_at]
      omega
    · rw [upd_off _ _ c]
      have q7 := h.2 k (by omega)
      omega
def tmF (x : Int32) : Prop := x.toInt = 42 ∨ x.toInt = 47 ∨ x.toInt = 37
def plF (x : Int32) : Prop := x.toInt = 43 ∨ x.toInt = 45
def topF (st : Nat → Int32) (k : Int32) : Int := if 0 < k.toInt then (st (k.toNatClampNeg - 1)).toInt else 0
theorem topF_pos {st : Nat → Int32} {k : Int32} (h : 0 < k.toInt) : topF st k = (st (k.toNatClampNeg - 1)).toInt := if_pos h
theorem topF_0 {st : Nat → Int32} {k : Int32} (h : k.toInt ≤ 0) : topF st k = 0 := if_neg (by omega)
/-- behind 'sums(true)' and no ] : the top is no sign of an E but a [ -/
theorem top_noV {st : Nat → Int32} {k : Int32} (hk : 0 ≤ k.toInt) (h1 : topF st k ≠ 42 ∧ topF st k ≠ 47 ∧ topF st k ≠ 37 ∧ topF st k ≠ 43 ∧ topF st k ≠ 45 ∧ topF st k ≠ 91) : k.toNatClampNeg = 0 ∨ ¬ isV (st (k.toNatClampNeg - 1)) := by
  have e := i_ix (rfl : k.toInt = k.toInt)
  by_cases c : 0 < k.toInt
  · rw [topF_pos c] at h1
    right
    intro z
    unfold isV at z
    omega
  · left; omega
theorem VS_popT {s0 c0 st code : Nat → Int32} {F b d : Nat} {k k' n n' o : Int32} (h : VS s0 c0 F b d st code k n 1) (hn : nbV s0 b) (hk0 : 0 ≤ k.toInt) (hn0 : 0 ≤ n.toInt) (ho : o.toInt = topF st k) (hv : o.toInt = 42 ∨ o.toInt = 47 ∨ o.toInt = 37 ∨ o.toInt = 43 ∨ o.toInt = 45) (h' : n'.toInt = n.toInt + 1) (hk : k'.toInt = k.toInt - 1) : VS s0 c0 F b d st (upd code n.toNatClampNeg o) k' n' 1 := by
  have e := i_ix (rfl : k.toInt = k.toInt)
  have c : 0 < k.toInt := by
    by_cases c : 0 < k.toInt
    · exact c
    · rw [topF_0 (by omega)] at ho
      omega
  rw [topF_pos c] at ho
  have ho2 := i_same ho
  exact VS_pop h (VS_top h hn (by unfold isV; omega) (by omega)) hn0 h' hk ho2 (by omega)
theorem VS_closeT {s0 c0 st code : Nat → Int32} {F b d : Nat} {k k' n : Int32} (h : VS s0 c0 F b d st code k n 1) (hn : nbV s0 b) (hk0 : 0 ≤ k.toInt) (ho : topF st k = 91) (hk : k'.toInt = k.toInt - 1) : VS s0 c0 F b d st code k' n 1 := by
  have e := i_ix (rfl : k.toInt = k.toInt)
  have c : 0 < k.toInt := by
    by_cases c : 0 < k.toInt
    · exact c
    · rw [topF_0 (by omega)] at ho
      omega
  rw [topF_pos c] at ho
  exact VS_close h (VS_top h hn (by unfold isV; omega) (by omega)) hk ho
theorem CS_popT {c0 st code : Nat → Int32} {F : Nat} {k k' n n' o : Int32} (h : CS c0 F st code k n 1) (hk0 : 0 ≤ k.toInt) (hn : 0 ≤ n.toInt) (ho : o.toInt = topF st k) (hv : o.toInt = 38 ∨ o.toInt = 124) (h' : n'.toInt = n.toInt + 1) (hk : k'.toInt = k.toInt - 1) : CS c0 F st (upd code n.toNatClampNeg o) k' n' 1 := by
  have e := i_ix (rfl : k.toInt = k.toInt)
  have c : 0 < k.toInt := by
    by_cases c : 0 < k.toInt
    · exact c
    · rw [topF_0 (by omega)] at ho
      omega
  rw [topF_pos c] at ho
  exact CS_pop h hn h' hk (i_same ho) hv
theorem CS_notT {c0 st code : Nat → Int32} {F : Nat} {k k' n n' o : Int32} (h : CS c0 F st code k n 1) (hn : 0 ≤ n.toInt) (ho : topF st k = 33) (h2' : o.toInt = 2) (h' : n'.toInt = n.toInt + 1) (hk : k'.toInt = k.toInt - 1) : CS c0 F st (upd code n.toNatClampNeg o) k' n' 1 := by
  have e := i_ix (rfl : k.toInt = k.toInt)
  have h1 := h.1
  rw [topF_pos (by omega)] at ho
  exact CS_not h hn h' hk ho h2'
theorem CS_pos {c0 st code : Nat → Int32} {F q : Nat} {k n : Int32} (h : CS c0 F st code k n q) : 1 ≤ k.toInt := by
  have e := i_ix (rfl : k.toInt = k.toInt)
  have h1 := h.1
  omega
theorem CS_nb {c0 st code : Nat → Int32} {F q : Nat} {k n : Int32} (h : CS c0 F st code k n q) : nbV st k.toNatClampNeg := by
  right
  have h1 := h.1
  have := h.2.2.1 (k.toNatClampNeg - 1) (by omega)
  intro z
  unfold isV at z
  unfold isC at this
  omega
theorem CS_closeT {c0 st code : Nat → Int32} {F : Nat} {k k' n : Int32} (h : CS c0 F st code k n 1) (ho : topF st k ≠ 38 ∧ topF st k ≠ 124) (hk : k'.toInt = k.toInt - 1) : (k'.toInt = 0 → dA code F n 1 ∧ ∀ j, j < F → code j = c0 j) ∧ (k'.toInt ≠ 0 → CS c0 F st code k' n 1) := by
  have e := CS_pos h
  rw [topF_pos (by omega)] at ho
  exact CS_close h hk (by omega)
theorem topF_sp {st : Nat → Int32} {k : Int32} (h : topF st k ≠ 0) : 0 < k.toInt := by
  by_cases c : 0 < k.toInt
  · exact c
  · exact absurd (topF_0 (by omega)) h
