/-! loads in sets, sets to walkers -/
def sbs (t s : Nat) : Prop := ∀ i, t.testBit i = true → s.testBit i = true
def dif (s t : Nat) : Nat := s &&& (s ^^^ t)
theorem dif_bit (s t i : Nat) : (dif s t).testBit i = (s.testBit i && !t.testBit i) := by
  unfold dif
  rw [Nat.testBit_and, Nat.testBit_xor]
  cases s.testBit i <;> cases t.testBit i <;> rfl
theorem nat_bits {a b : Nat} (h : ∀ i, a.testBit i = b.testBit i) : a = b := Nat.eq_of_testBit_eq h
def spF (P : Nat → Int) : Nat → Nat → Int
  | 0, _ => 0
  | n + 1, s => spF P n s + (if s.testBit n = true then P n else 0)
theorem spF_nn {P : Nat → Int} (hP : ∀ i, 0 ≤ P i) (s : Nat) : ∀ n, 0 ≤ spF P n s := by
  intro n
  induction n with
  | zero => exact Int.le_refl _
  | succ n ih => unfold spF; have := hP n; split <;> omega
theorem spF_ge {P : Nat → Int} (hP : ∀ i, 0 ≤ P i) {s x : Nat} (hx : s.testBit x = true) : ∀ n, x < n → P x ≤ spF P n s := by
  intro n
  induction n with
  | zero => intro h; omega
  | succ n ih =>
    intro h
    unfold spF
    have h0 := spF_nn hP s n
    have hn := hP n
    by_cases e : x = n
    · subst e; rw [if_pos hx]; omega
    · have := ih (by omega); split <;> omega
theorem bit_pow (x i : Nat) : (2 ^ x).testBit i = decide (x = i) := Nat.testBit_two_pow
theorem spF_less {P : Nat → Int} {s x : Nat} (hx : s.testBit x = true) : ∀ n, (x < n → spF P n (dif s (2 ^ x)) = spF P n s - P x) ∧ (n ≤ x → spF P n (dif s (2 ^ x)) = spF P n s) := by
  intro n
  induction n with
  | zero => exact ⟨fun h => by omega, fun _ => rfl⟩
  | succ n ih =>
    refine ⟨fun h => ?_, fun h => ?_⟩
    · unfold spF
      rw [dif_bit, bit_pow]
      by_cases e : x = n
      · subst e
        rw [ih.2 (Nat.le_refl _)]
        simp [hx]
      · rw [ih.1 (by omega)]
        simp only [e, decide_false, Bool.not_false, Bool.and_true]
        omega
    · unfold spF
      rw [dif_bit, bit_pow, ih.2 (by omega)]
      simp only [show ¬ x = n by omega, decide_false, Bool.not_false, Bool.and_true]
def can (P R : Nat → Int) (pk : Nat → Bool) (N : Nat) : Nat → Nat → Prop
  | 0, s => s = 0
  | w + 1, s => can P R pk N w s ∨ (pk w = true ∧ ∃ t, sbs t s ∧ t ≠ 0 ∧ spF P N t ≤ R w ∧ can P R pk N w (dif s t))
theorem can_congr {P R R' : Nat → Int} {pk : Nat → Bool} {N : Nat} : ∀ {n s : Nat}, (∀ v, v < n → R v = R' v) → can P R pk N n s → can P R' pk N n s := by
  intro n
  induction n with
  | zero => intro s _ h; exact h
  | succ n ih =>
    intro s hR h
    rcases h with h | ⟨h1, t, h2, h3, h4, h5⟩
    · exact Or.inl (ih (fun v hv => hR v (by omega)) h)
    · exact Or.inr ⟨h1, t, h2, h3, by rw [← hR n (by omega)]; exact h4, ih (fun v hv => hR v (by omega)) h5⟩
def lessR (R : Nat → Int) (w : Nat) (p : Int) : Nat → Int := fun v => if v = w then R v - p else R v
theorem can_take {P R : Nat → Int} {pk : Nat → Bool} {N x : Nat} (hP : ∀ i, 0 ≤ P i) (hN : x < N) : ∀ {n s : Nat}, s.testBit x = true → can P R pk N n s → ∃ w, w < n ∧ pk w = true ∧ P x ≤ R w ∧ can P (lessR R w (P x)) pk N n (dif s (2 ^ x)) := by
  intro n
  induction n with
  | zero =>
    intro s hx h
    unfold can at h
    rw [h] at hx
    simp at hx
  | succ n ih =>
    intro s hx h
    rcases h with h | ⟨hp, t, hts, ht0, hsum, hc⟩
    · obtain ⟨w, h1, h2, h3, h4⟩ := ih hx h
      exact ⟨w, by omega, h2, h3, Or.inl h4⟩
    · by_cases hxt : t.testBit x = true
      · refine ⟨n, by omega, hp, by have := spF_ge hP hxt N hN; omega, ?_⟩
        have hR : ∀ v, v < n → R v = lessR R n (P x) v := fun v hv => by unfold lessR; rw [if_neg (by omega)]
        by_cases ht : dif t (2 ^ x) = 0
        · left
          have e : dif s (2 ^ x) = dif s t := nat_bits (fun i => by
            have h0 : (dif t (2 ^ x)).testBit i = false := by rw [ht]; simp
            rw [dif_bit, bit_pow] at h0
            rw [dif_bit, dif_bit, bit_pow]
            by_cases q : x = i
            · subst q; rw [hxt]; simp
            · simp only [q, decide_false, Bool.not_false, Bool.and_true] at h0 ⊢
              rw [h0]; simp)
          rw [e]
          exact can_congr hR hc
        · right
          refine ⟨hp, dif t (2 ^ x), fun i hi => ?_, ht, ?_, ?_⟩
          · rw [dif_bit, Bool.and_eq_true] at hi ⊢
            exact ⟨hts i hi.1, hi.2⟩
          · rw [(spF_less hxt N).1 hN]
            unfold lessR
            rw [if_pos rfl]
            omega
          · have e : dif (dif s (2 ^ x)) (dif t (2 ^ x)) = dif s t := nat_bits (fun i => by
              rw [dif_bit, dif_bit, dif_bit, dif_bit, bit_pow]
              by_cases q : x = i
              · subst q; rw [hxt]; simp
              · simp only [q, decide_false, Bool.not_false, Bool.and_true])
            rw [e]
            exact can_congr hR hc
      · have hx2 : (dif s t).testBit x = true := by rw [dif_bit, hx]; simp [hxt]
        obtain ⟨w, h1, h2, h3, h4⟩ := ih hx2 hc
        refine ⟨w, by omega, h2, h3, Or.inr ⟨hp, t, fun i hi => ?_, ht0, ?_, ?_⟩⟩
        · rw [dif_bit, bit_pow, hts i hi]
          have : ¬ x = i := fun q => by subst q; exact hxt hi
          simp [this]
        · unfold lessR
          rw [if_neg (by omega)]
          exact hsum
        · have e : dif (dif s (2 ^ x)) t = dif (dif s t) (2 ^ x) := nat_bits (fun i => by
            rw [dif_bit, dif_bit, dif_bit, dif_bit]
            cases s.testBit i <;> cases t.testBit i <;> cases (2 ^ x).testBit i <;> rfl)
          rw [e]
          exact h4
/-- the subsets of m in falling order: behind s comes (s - 1) and m -/
theorem sbs_next : ∀ (s m t : Nat), sbs s m → sbs t m → t < s → t ≤ (s - 1) &&& m := by
  intro s
  induction s using Nat.strongRecOn with
  | _ s ih =>
    intro m t hs ht hlt
    have half : ∀ {a b : Nat}, sbs a b → sbs (a / 2) (b / 2) := fun h i hi => by
      have := h (i + 1) (by rw [Nat.testBit_succ]; exact hi)
      rw [Nat.testBit_succ] at this
      exact this
    have low : ∀ {a b : Nat}, sbs a b → a % 2 ≤ b % 2 := fun {a b} h => by
      have h0 := h 0
      rw [Nat.testBit_zero, Nat.testBit_zero] at h0
      by_cases c : a % 2 = 1
      · have := h0 (by simp [c])
        simp at this
        omega
      · omega
    have hd : ∀ a b : Nat, (a &&& b) / 2 = a / 2 &&& b / 2 := fun a b => Nat.and_div_two
    have hm2 : ∀ a b : Nat, (a &&& b) % 2 = (a % 2) &&& (b % 2) := fun a b => by
      have := Nat.and_mod_two_pow (a := a) (b := b) (n := 1)
      simpa using this
    have e := Nat.div_add_mod ((s - 1) &&& m) 2
    rw [hd, hm2] at e
    have et := Nat.div_add_mod t 2
    by_cases c : s % 2 = 1
    · -- the lowest bit goes
      have e1 : (s - 1) / 2 = s / 2 := by omega
      have e2 : s / 2 &&& m / 2 = s / 2 := nat_bits (fun i => by
        rw [Nat.testBit_and]
        cases q : (s / 2).testBit i
        · rfl
        · rw [half hs i q]; rfl)
      rw [e1, e2] at e
      omega
    · have e1 : (s - 1) / 2 = s / 2 - 1 := by omega
      have e3 : (s - 1) % 2 = 1 := by omega
      rw [e1, e3] at e
      have i1 := ih (s / 2) (by omega) (m / 2) (t / 2) (half hs) (half ht) (by omega)
      have l1 := low ht
      have l2 : 1 &&& (m % 2) = m % 2 := by
        rcases (show m % 2 = 0 ∨ m % 2 = 1 by omega) with q | q <;> rw [q] <;> rfl
      rw [l2] at e
      omega
theorem sbs_and (s m : Nat) : sbs (s &&& m) m := fun i h => by
  rw [Nat.testBit_and, Bool.and_eq_true] at h
  exact h.2
theorem sbs_le {t s : Nat} (h : sbs t s) : t ≤ s := by
  have e : t &&& s = t := nat_bits (fun i => by
    rw [Nat.testBit_and]
    cases q : t.testBit i
    · rfl
    · rw [h i q]; rfl)
  have := Nat.and_le_right (n := t) (m := s)
  omega
theorem dif_lt {s t : Nat} (h : sbs t s) (h0 : t ≠ 0) : dif s t < s := by
  have h1 : sbs (dif s t) s := fun i hi => by rw [dif_bit, Bool.and_eq_true] at hi; exact hi.1
  have h2 := sbs_le h1
  by_cases e : dif s t = s
  · exfalso
    obtain ⟨i, hi⟩ := Nat.exists_testBit_of_ne_zero h0
    have := dif_bit s t i
    rw [e, hi, h i hi] at this
    simp at this
  · omega
def leftN (g : Nat → Int32) : Nat → Nat
  | 0 => 0
  | n + 1 => leftN g n ||| (if (g n).toInt = -1 then 2 ^ n else 0)
theorem leftN_bit (g : Nat → Int32) : ∀ n i, (leftN g n).testBit i = (decide (i < n) && decide ((g i).toInt = -1)) := by
  intro n
  induction n with
  | zero => intro i; simp [leftN]
  | succ n ih =>
    intro i
    unfold leftN
    rw [Nat.testBit_or, ih]
    by_cases c : (g n).toInt = -1
    · rw [if_pos c, bit_pow]
      by_cases q : n = i
      · subst q; simp [c]
      · by_cases q2 : i < n
        · simp [q2, q, show i < n + 1 by omega]
        · simp [q2, q, show ¬ i < n + 1 by omega]
    · rw [if_neg c]
      by_cases q : n = i
      · subst q; simp [c]
      · by_cases q2 : i < n
        · simp [q2, show i < n + 1 by omega]
        · simp [q2, show ¬ i < n + 1 by omega]
theorem leftN_lt (g : Nat → Int32) : ∀ n, leftN g n < 2 ^ n := by
  intro n
  induction n with
  | zero => exact Nat.zero_lt_one
  | succ n ih =>
    unfold leftN
    apply Nat.or_lt_two_pow
    · rw [Nat.pow_succ]; omega
    · split
      · rw [Nat.pow_succ]; have := Nat.two_pow_pos n; omega
      · exact Nat.two_pow_pos _
/-! the table of the sets that can be given to the walkers so far: turned over in place, from the greatest set down -/
def L3 (cb : Nat → Int32) (A : Nat → Prop) (M : Nat) : Prop := ∀ s, sbs s M → ((cb s).toInt = 1 ↔ A s)
def L4 (cb : Nat → Int32) (A A' : Nat → Prop) (M m : Nat) : Prop := sbs m M ∧ (∀ s, sbs s M → m < s → ((cb s).toInt = 1 ↔ A' s)) ∧ (∀ s, sbs s M → s ≤ m → ((cb s).toInt = 1 ↔ A s))
def L5 (cb : Nat → Int32) (A A' : Nat → Prop) (M m : Nat) (Q : Nat → Prop) (k : Nat) : Prop := sbs m M ∧ sbs k m ∧ (∀ s, sbs s M → m < s → ((cb s).toInt = 1 ↔ A' s)) ∧ (∀ s, sbs s M → s < m → ((cb s).toInt = 1 ↔ A s)) ∧ ((cb m).toInt = 1 → A' m) ∧ ((cb m).toInt ≠ 1 → ¬ A m ∧ ∀ t, sbs t m → k < t → ¬ Q t)
theorem sbs_rf (s : Nat) : sbs s s := fun _ h => h
theorem sbs_tr {a b c : Nat} (h : sbs a b) (h2 : sbs b c) : sbs a c := fun i hi => h2 i (h i hi)
theorem L4_start {cb : Nat → Int32} {A A' : Nat → Prop} {M : Nat} (h : L3 cb A M) : L4 cb A A' M M :=
  ⟨sbs_rf M, fun s hs hl => by have := sbs_le hs; omega, fun s hs _ => h s hs⟩
theorem L5_start {cb : Nat → Int32} {A A' Q : Nat → Prop} {M m : Nat} (h : L4 cb A A' M m) (hA : ∀ s, A s → A' s) : L5 cb A A' M m Q m :=
  ⟨h.1, sbs_rf m, h.2.1, fun s hs hl => h.2.2 s hs (by omega), fun h1 => hA m ((h.2.2 m h.1 (Nat.le_refl _)).mp h1), fun h1 => ⟨fun z => h1 ((h.2.2 m h.1 (Nat.le_refl _)).mpr z), fun t ht hl => by have := sbs_le ht; omega⟩⟩
theorem L5_next {cb : Nat → Int32} {A A' Q : Nat → Prop} {M m k : Nat} (h : L5 cb A A' M m Q k) (hq : ¬ Q k) : L5 cb A A' M m Q ((k - 1) &&& m) := by
  obtain ⟨h1, h2, h3, h4, h5, h6⟩ := h
  refine ⟨h1, sbs_and _ _, h3, h4, h5, fun hc => ⟨(h6 hc).1, fun t ht hl => ?_⟩⟩
  by_cases c : k < t
  · exact (h6 hc).2 t ht c
  · by_cases e : t = k
    · rw [e]; exact hq
    · have := sbs_next k m t h2 ht (by omega)
      omega
theorem L5_hit {cb : Nat → Int32} {A A' Q : Nat → Prop} {M m k : Nat} {x : Int32} (h : L5 cb A A' M m Q k) (hq : A' m) (hx : x.toInt = 1) : L5 (upd cb m x) A A' M m Q ((k - 1) &&& m) := by
  obtain ⟨h1, h2, h3, h4, h5, h6⟩ := h
  refine ⟨h1, sbs_and _ _, fun s hs hl => ?_, fun s hs hl => ?_, fun _ => hq, fun hc => ?_⟩
  · rw [upd_off cb x (by omega)]; exact h3 s hs hl
  · rw [upd_off cb x (by omega)]; exact h4 s hs hl
  · rw [upd_at] at hc; exact absurd hx hc
theorem L5_end {cb : Nat → Int32} {A A' Q : Nat → Prop} {M m k : Nat} (h : L5 cb A A' M m Q k) (hk : k = 0 ∨ (cb m).toInt = 1) (hm : m ≠ 0) (hA' : A' m → A m ∨ ∃ t, sbs t m ∧ t ≠ 0 ∧ Q t) : L4 cb A A' M ((m - 1) &&& M) := by
  obtain ⟨h1, h2, h3, h4, h5, h6⟩ := h
  have key : (cb m).toInt = 1 ↔ A' m := by
    refine ⟨h5, fun z => ?_⟩
    by_cases c : (cb m).toInt = 1
    · exact c
    · exfalso
      obtain ⟨g1, g2⟩ := h6 c
      rcases hA' z with z | ⟨t, t1, t2, t3⟩
      · exact g1 z
      · rcases hk with hk | hk
        · exact g2 t t1 (by omega) t3
        · exact c hk
  have hlt : (m - 1) &&& M ≤ m - 1 := Nat.and_le_left
  refine ⟨sbs_and _ _, fun s hs hl => ?_, fun s hs hl => h4 s hs (by omega)⟩
  by_cases c : m < s
  · exact h3 s hs c
  · by_cases e : s = m
    · rw [e]; exact key
    · have := sbs_next m M s h1 hs (by omega)
      omega
theorem L4_end {cb : Nat → Int32} {A A' : Nat → Prop} {M : Nat} (h : L4 cb A A' M 0) (hA : A 0) (hA' : A' 0) : L3 cb A' M := by
  intro s hs
  by_cases c : 0 < s
  · exact h.2.1 s hs c
  · have e : s = 0 := by omega
    rw [e]
    have := h.2.2 0 (fun i hi => by simp at hi) (Nat.le_refl _)
    exact ⟨fun _ => hA', fun _ => this.mpr hA⟩
theorem can_0 {P R : Nat → Int} {pk : Nat → Bool} {N : Nat} : ∀ w, can P R pk N w 0 := by
  intro w
  induction w with
  | zero => rfl
  | succ w ih => exact Or.inl ih
/-! machine's sets -/
theorem and_tn {x y z : Int32} (e : z = x &&& y) (hx : 0 ≤ x.toInt) (hy : 0 ≤ y.toInt) : z.toNatClampNeg = x.toNatClampNeg &&& y.toNatClampNeg := by
  have h0 := i_andl e hx
  have h1 : z.toBitVec.toNat = x.toBitVec.toNat &&& y.toBitVec.toNat := by rw [e, Int32.toBitVec_and, BitVec.toNat_and]
  rw [i_ix (rfl : z.toInt = z.toInt), i_ix (rfl : x.toInt = x.toInt), i_ix (rfl : y.toInt = y.toInt), ← bv_tn h0.1, ← bv_tn hx, ← bv_tn hy]
  exact h1
theorem or_tn {x y z : Int32} (e : z = x ||| y) (hx : 0 ≤ x.toInt) (hy : 0 ≤ y.toInt) (hz : 0 ≤ z.toInt) : z.toNatClampNeg = x.toNatClampNeg ||| y.toNatClampNeg := by
  have h1 : z.toBitVec.toNat = x.toBitVec.toNat ||| y.toBitVec.toNat := by rw [e, Int32.toBitVec_or, BitVec.toNat_or]
  rw [i_ix (rfl : z.toInt = z.toInt), i_ix (rfl : x.toInt = x.toInt), i_ix (rfl : y.toInt = y.toInt), ← bv_tn hz, ← bv_tn hx, ← bv_tn hy]
  exact h1
theorem sh1_tn {x z : Int32} {a : Int} (e : z = 1 <<< (x &&& 31)) (hx : x.toInt = a) (h : 0 ≤ a ∧ a ≤ 10) : z.toNatClampNeg = 2 ^ a.toNat := by
  have h1 := (i_sh1 e hx h).1
  rw [i_ix h1]
  rcases (show a = 0 ∨ a = 1 ∨ a = 2 ∨ a = 3 ∨ a = 4 ∨ a = 5 ∨ a = 6 ∨ a = 7 ∨ a = 8 ∨ a = 9 ∨ a = 10 by omega) with q | q | q | q | q | q | q | q | q | q | q <;> subst q <;> decide
/-- set and not some -/
theorem dif_tn {x y y2 z : Int32} (e2 : y2 = y ^^^ (-1)) (e : z = x &&& y2) (hx : 0 ≤ x.toInt) (hy : 0 ≤ y.toInt) : z.toNatClampNeg = dif x.toNatClampNeg y.toNatClampNeg := by
  have h0 := i_andl e hx
  rw [i_ix (rfl : z.toInt = z.toInt), i_ix (rfl : x.toInt = x.toInt), i_ix (rfl : y.toInt = y.toInt), ← bv_tn h0.1, ← bv_tn hx, ← bv_tn hy]
  apply nat_bits
  intro i
  rw [dif_bit]
  have h1 : z.toBitVec = x.toBitVec &&& (y.toBitVec ^^^ (-1 : Int32).toBitVec) := by rw [e, e2, Int32.toBitVec_and, Int32.toBitVec_xor]
  have h3 : (-1 : Int32).toBitVec = BitVec.allOnes 32 := by decide
  show z.toBitVec.getLsbD i = (x.toBitVec.getLsbD i && !y.toBitVec.getLsbD i)
  rw [h1, h3, BitVec.getLsbD_and, BitVec.getLsbD_xor, BitVec.getLsbD_allOnes]
  by_cases c : i < 32
  · simp [c]
  · simp [c, BitVec.getLsbD_of_ge x.toBitVec i (by omega)]
def pkB (K : Int32) (w : Nat) : Bool := decide ((K >>> (nI w &&& 31)) &&& 1 = 1)
theorem pkB_of {K w : Int32} (h : 0 ≤ w.toInt) : pkB K w.toNatClampNeg = decide ((K >>> (w &&& 31)) &&& 1 = 1) := by
  have e : nI w.toNatClampNeg = w := by
    apply Int32.toInt_inj.mp
    have := i_top w
    rw [nI_toInt (by rw [i_ix (rfl : w.toInt = w.toInt)]; omega), i_ix (rfl : w.toInt = w.toInt)]
    omega
  unfold pkB
  rw [e]
/-- a bit of a small set -/
theorem bit_has {x k : Int32} (hx : 0 ≤ x.toInt) (hk : 0 ≤ k.toInt ∧ k.toInt ≤ 9) : ((x >>> (k &&& 31)) &&& 1 = 1) ↔ x.toNatClampNeg.testBit k.toNatClampNeg = true := by
  have e : (k &&& 31) = k := by
    rcases (show k.toInt = 0 ∨ k.toInt = 1 ∨ k.toInt = 2 ∨ k.toInt = 3 ∨ k.toInt = 4 ∨ k.toInt = 5 ∨ k.toInt = 6 ∨ k.toInt = 7 ∨ k.toInt = 8 ∨ k.toInt = 9 by omega) with q | q | q | q | q | q | q | q | q | q
    · obtain rfl : k = 0 := i_same (q.trans (by decide)); decide
    · obtain rfl : k = 1 := i_same (q.trans (by decide)); decide
    · obtain rfl : k = 2 := i_same (q.trans (by decide)); decide
    · obtain rfl : k = 3 := i_same (q.trans (by decide)); decide
    · obtain rfl : k = 4 := i_same (q.trans (by decide)); decide
    · obtain rfl : k = 5 := i_same (q.trans (by decide)); decide
    · obtain rfl : k = 6 := i_same (q.trans (by decide)); decide
    · obtain rfl : k = 7 := i_same (q.trans (by decide)); decide
    · obtain rfl : k = 8 := i_same (q.trans (by decide)); decide
    · obtain rfl : k = 9 := i_same (q.trans (by decide)); decide
  have hs : ((k &&& 31).toBitVec.smod 32).toNat = k.toNatClampNeg := by
    rcases (show k.toInt = 0 ∨ k.toInt = 1 ∨ k.toInt = 2 ∨ k.toInt = 3 ∨ k.toInt = 4 ∨ k.toInt = 5 ∨ k.toInt = 6 ∨ k.toInt = 7 ∨ k.toInt = 8 ∨ k.toInt = 9 by omega) with q | q | q | q | q | q | q | q | q | q
    · obtain rfl : k = 0 := i_same (q.trans (by decide)); decide
    · obtain rfl : k = 1 := i_same (q.trans (by decide)); decide
    · obtain rfl : k = 2 := i_same (q.trans (by decide)); decide
    · obtain rfl : k = 3 := i_same (q.trans (by decide)); decide
    · obtain rfl : k = 4 := i_same (q.trans (by decide)); decide
    · obtain rfl : k = 5 := i_same (q.trans (by decide)); decide
    · obtain rfl : k = 6 := i_same (q.trans (by decide)); decide
    · obtain rfl : k = 7 := i_same (q.trans (by decide)); decide
    · obtain rfl : k = 8 := i_same (q.trans (by decide)); decide
    · obtain rfl : k = 9 := i_same (q.trans (by decide)); decide
  have h1 : (x >>> (k &&& 31)).toInt = x.toInt >>> k.toNatClampNeg := pk_shr x (k &&& 31) k.toNatClampNeg hs
  rw [Int.shiftRight_eq_div_pow] at h1
  have h2 : 0 ≤ (x >>> (k &&& 31)).toInt := by rw [h1]; exact Int.ediv_nonneg hx (by exact Int.natCast_nonneg _)
  have h3 := i_andm 1 (z := (x >>> (k &&& 31)) &&& 1) (m := 1) (P := 2) rfl (by decide) (by decide) (by decide) h1 (by rw [← h1]; exact h2)
  have h4 : x.toInt = (x.toNatClampNeg : Int) := by rw [i_ix (rfl : x.toInt = x.toInt)]; omega
  rw [h4, ← Int.natCast_ediv] at h3
  rw [Nat.testBit_eq_decide_div_mod_eq, decide_eq_true_eq]
  constructor
  · intro q
    rw [q] at h3
    have h5 : (1 : Int32).toInt = 1 := by decide
    omega
  · intro q
    apply i_same
    rw [h3]
    have h5 : (1 : Int32).toInt = 1 := by decide
    omega
theorem sh1_lt {N : Nat} {z : Int32} {s : Int32} (h : z.toNatClampNeg = 2 ^ N) (hs : 0 ≤ s.toInt) (hl : s.toInt < z.toInt) : s.toNatClampNeg < 2 ^ N := by
  rw [← h, i_ix (rfl : z.toInt = z.toInt), i_ix (rfl : s.toInt = s.toInt)]
  omega
