/-! loads in sets, sets to walkers -/
def sbs (t s : Nat) : Prop := ∀ i, t.testBit i = true → s.testBit i = true
def dif (s t : Nat) : Nat := s &&& (s ^^^ t)
theorem dif_bit (s t i : Nat) : (dif s t).testBit i = (s.testBit i && !t.testBit i) := by
  unfold dif
  rw [Nat.testBit_and, Nat.testBit_xor]
  cases s.testBit i <;> cases t.testBit i <;> rfl
theorem nat_bits {a b : Nat} (h : ∀ i, a.testBit i = b.testBit i) : a = b := Nat.eq_of_testBit_eq h
def spF (P : Nat → Int) : Nat → Nat → Int
  | 0, _ => 0
  | n + 1, s => spF P n s + (if s.testBit n = true then P n else 0)
theorem spF_nn {P : Nat → Int} (hP : ∀ i, 0 ≤ P i) (s : Nat) : ∀ n, 0 ≤ spF P n s := by
  intro n
  induction n with
  | zero => exact Int.le_refl _
  | succ n ih => unfold spF; have := hP n; split <;> omega
theorem spF_ge {P : Nat → Int} (hP : ∀ i, 0 ≤ P i) {s x : Nat} (hx : s.testBit x = true) : ∀ n, x < n → P x ≤ spF P n s := by
  intro n
  induction n with
  | zero => intro h; omega
  | succ n ih =>
    intro h
    unfold spF
    have h0 := spF_nn hP s n
    have hn := hP n
    by_cases e : x = n
    · subst e; rw [if_pos hx]; omega
    · have := ih (by omega); split <;> omega
theorem bit_pow (x i : Nat) : (2 ^ x).testBit i = decide (x = i) := Nat.testBit_two_pow
theorem spF_less {P : Nat → Int} {s x : Nat} (hx : s.testBit x = true) : ∀ n, (x < n → spF P n (dif s (2 ^ x)) = spF P n s - P x) ∧ (n ≤ x → spF P n (dif s (2 ^ x)) = spF P n s) := by
  intro n
  induction n with
  | zero => exact ⟨fun h => by omega, fun _ => rfl⟩
  | succ n ih =>
    refine ⟨fun h => ?_, fun h => ?_⟩
    · unfold spF
      rw [dif_bit, bit_pow]
      by_cases e : x = n
      · subst e
        rw [ih.2 (Nat.le_refl _)]
        simp [hx]
      · rw [ih.1 (by omega)]
        simp only [e, decide_false, Bool.not_false, Bool.and_true]
        omega
    · unfold spF
      rw [dif_bit, bit_pow, ih.2 (by omega)]
      simp only [show ¬ x = n by omega, decide_false, Bool.not_false, Bool.and_true]
def can (P R : Nat → Int) (pk : Nat → Bool) (N : Nat) : Nat → Nat → Prop
  | 0, s => s = 0
  | w + 1, s => can P R pk N w s ∨ (pk w = true ∧ ∃ t, sbs t s ∧ t ≠ 0 ∧ spF P N t ≤ R w ∧ can P R pk N w (dif s t))
theorem can_congr {P R R' : Nat → Int} {pk : Nat → Bool} {N : Nat} : ∀ {n s : Nat}, (∀ v, v < n → R v = R' v) → can P R pk N n s → can P R' pk N n s := by
  intro n
  induction n with
  | zero => intro s _ h; exact h
  | succ n ih =>
    intro s hR h
    rcases h with h | ⟨h1, t, h2, h3, h4, h5⟩
    · exact Or.inl (ih (fun v hv => hR v (by omega)) h)
    · exact Or.inr ⟨h1, t, h2, h3, by rw [← hR n (by omega)]; exact h4, ih (fun v hv => hR v (by omega)) h5⟩
def lessR (R : Nat → Int) (w : Nat) (p : Int) : Nat → Int := fun v => if v = w then R v - p else R v
theorem can_take {P R : Nat → Int} {pk : Nat → Bool} {N x : Nat} (hP : ∀ i, 0 ≤ P i) (hN : x < N) : ∀ {n s : Nat}, s.testBit x = true → can P R pk N n s → ∃ w, w < n ∧ pk w = true ∧ P x ≤ R w ∧ can P (lessR R w (P x)) pk N n (dif s (2 ^ x)) := by
  intro n
  induction n with
  | zero =>
    intro s hx h
    unfold can at h
    rw [h] at hx
    simp at hx
  | succ n ih =>
    intro s hx h
    rcases h with h | ⟨hp, t, hts, ht0, hsum, hc⟩
    · obtain ⟨w, h1, h2, h3, h4⟩ := ih hx h
      exact ⟨w, by omega, h2, h3, Or.inl h4⟩
    · by_cases hxt : t.testBit x = true
      · refine ⟨n, by omega, hp, by have := spF_ge hP hxt N hN; omega, ?_⟩
        have hR : ∀ v, v < n → R v = lessR R n (P x) v := fun v hv => by unfold lessR; rw [if_neg (by omega)]
        by_cases ht : dif t (2 ^ x) = 0
        · left
          have e : dif s (2 ^ x) = dif s t := nat_bits (fun i => by
            have h0 : (dif t (2 ^ x)).testBit i = false := by rw [ht]; simp
            rw [dif_bit, bit_pow] at h0
            rw [dif_bit, dif_bit, bit_pow]
            by_cases q : x = i
            · subst q; rw [hxt]; simp
            · simp only [q, decide_false, Bool.not_false, Bool.and_true] at h0 ⊢
              rw [h0]; simp)
          rw [e]
          exact can_congr hR hc
        · right
          refine ⟨hp, dif t (2 ^ x), fun i hi => ?_, ht, ?_, ?_⟩
          · rw [dif_bit, Bool.and_eq_true] at hi ⊢
            exact ⟨hts i hi.1, hi.2⟩
          · rw [(spF_less hxt N).1 hN]
            unfold lessR
            rw [if_pos rfl]
            omega
          · have e : dif (dif s (2 ^ x)) (dif t (2 ^ x)) = dif s t := nat_bits (fun i => by
              rw [dif_bit, dif_bit, dif_bit, dif_bit, bit_pow]
              by_cases q : x = i
              · subst q; rw [hxt]; simp
              · simp only [q, decide_false, Bool.not_false, Bool.and_true])
            rw [e]
            exact can_congr hR hc
      · have hx2 : (dif s t).testBit x = true := by rw [dif_bit, hx]; simp [hxt]
        obtain ⟨w, h1, h2, h3, h4⟩ := ih hx2 hc
        refine ⟨w, by omega, h2, h3, Or.inr ⟨hp, t, fun i hi => ?_, ht0, ?_, ?_⟩⟩
        · rw [dif_bit, bit_pow, hts i hi]
          have : ¬ x = i := fun q => by subst q; exact hxt hi
          simp [this]
        · unfold lessR
          rw [if_neg (by omega)]
          exact hsum
        · have e : dif (dif s (2 ^ x)) t = dif (dif s t) (2 ^ x) := nat_bits (fun i => by
            rw [dif_bit, dif_bit, dif_bit, dif_bit]
            cases s.testBit i <;> cases t.testBit i <;> cases (2 ^ x).testBit i <;> rfl)
          rw [e]
          exact h4
/-- the subsets of m in falling order: behind s comes (s - 1) and m -/
theorem sbs_next : ∀ (s m t : Nat), sbs s m → sbs t m → t < s → t ≤ (s - 1) &&& m := by
  intro s
  induction s using Nat.strongRecOn with
  | _ s ih =>
    intro m t hs ht hlt
    have half : ∀ {a b : Nat}, sbs a b → sbs (a / 2) (b / 2) := fun h i hi => by
      have := h (i + 1) (by rw [Nat.testBit_succ]; exact hi)
      rw [Nat.testBit_succ] at this
      exact this
    have low : ∀ {a b : Nat}, sbs a b → a % 2 ≤ b % 2 := fun {a b} h => by
      have h0 := h 0
      rw [Nat.testBit_zero, Nat.testBit_zero] at h0
      by_cases c : a % 2 = 1
      · have := h0 (by simp [c])
        simp at this
        omega
      · omega
    have hd : ∀ a b : Nat, (a &&& b) / 2 = a / 2 &&& b / 2 := fun a b => Nat.and_div_two
    have hm2 : ∀ a b : Nat, (a &&& b) % 2 = (a % 2) &&& (b % 2) := fun a b => by
      have := Nat.and_mod_two_pow (a := a) (b := b) (n := 1)
      simpa using this
    have e := Nat.div_add_mod ((s - 1) &&& m) 2
    rw [hd, hm2] at e
    have et := Nat.div_add_mod t 2
    by_cases c : s % 2 = 1
    · -- the lowest bit goes
      have e1 : (s - 1) / 2 = s / 2 := by omega
      have e2 : s / 2 &&& m / 2 = s / 2 := nat_bits (fun i => by
        rw [Nat.testBit_and]
        cases q : (s / 2).testBit i
        · rfl
        · rw [half hs i q]; rfl)
      rw [e1, e2] at e
      omega
    · have e1 : (s - 1) / 2 = s / 2 - 1 := by omega
      have e3 : (s - 1) % 2 = 1 := by omega
      rw [e1, e3] at e
      have i1 := ih (s / 2) (by omega) (m / 2) (t / 2) (half hs) (half ht) (by omega)
      have l1 := low ht
      have l2 : 1 &&& (m % 2) = m % 2 := by
        rcases (show m % 2 = 0 ∨ m % 2 = 1 by omega) with q | q <;> rw [q] <;> rfl
      rw [l2] at e
      omega
theorem sbs_and (s m : Nat) : sbs (s &&& m) m := fun i h => by
  rw [Nat.testBit_and, Bool.and_eq_true] at h
  exact h.2
theorem sbs_le {t s : Nat} (h : sbs t s) : t ≤ s := by
  have e : t &&& s = t := nat_bits (fun i => by
    rw [Nat.testBit_and]
    cases q : t.testBit i
    · rfl
    · rw [h i q]; rfl)
  have := Nat.and_le_right (n := t) (m := s)
  omega
theorem dif_lt {s t : Nat} (h : sbs t s) (h0 : t ≠ 0) : dif s t < s := by
  have h1 : sbs (dif s t) s := fun i hi => by rw [dif_bit, Bool.and_eq_true] at hi; exact hi.1
  have h2 := sbs_le h1
  by_cases e : dif s t = s
  · exfalso
    obtain ⟨i, hi⟩ := Nat.exists_testBit_of_ne_zero h0
    have := dif_bit s t i
    rw [e, hi, h i hi] at this
    simp at this
  · omega
def leftN (g : Nat → Int32) : Nat → Nat
  | 0 => 0
  | n + 1 => leftN g n ||| (if (g n).toInt = -1 then 2 ^ n else 0)
theorem leftN_bit (g : Nat → Int32) : ∀ n i, (leftN g n).testBit i = (decide (i < n) && decide ((g i).toInt = -1)) := by
  intro n
  induction n with
  | zero => intro i; simp [leftN]
  | succ n ih =>
    intro i
    unfold leftN
    rw [Nat.testBit_or, ih]
    by_cases c : (g n).toInt = -1
    · rw [if_pos c, bit_pow]
      by_cases q : n = i
      · subst q; simp [c]
      · by_cases q2 : i < n
        · simp [q2, q, show i < n + 1 by omega]
        · simp [q2, q, show ¬ i < n + 1 by omega]
    · rw [if_neg c]
      by_cases q : n = i
      · subst q; simp [c]
      · by_cases q2 : i < n
        · simp [q2, show i < n + 1 by omega]
        · simp [q2, show ¬ i < n + 1 by omega]
