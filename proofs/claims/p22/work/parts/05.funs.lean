/-! the reference's reckoning, as functions of what it reads -/
theorem upd_eta (f : Nat → Int32) (k : Nat) : upd f k (f k) = f := by
  funext j
  unfold upd
  split
  · rename_i h; rw [h]
  · rfl
theorem upd_at (f : Nat → Int32) (k : Nat) (x : Int32) : upd f k x k = x := if_pos rfl
theorem upd_off (f : Nat → Int32) {k j : Nat} (x : Int32) (h : j ≠ k) : upd f k x j = f j := if_neg h
def heldF (v lo hi : Int32) : Int32 := if v.toInt < lo.toInt then lo else if hi.toInt < v.toInt then hi else v
def workedF (o x y : Int32) : Int32 :=
  if o.toInt = 43 then x + y else if o.toInt = 45 then x - y else if o.toInt = 42 then x * y
  else if o.toInt = 47 then (if y.toInt = 0 then 0 else x / y)
  else if o.toInt = 37 then (if y.toInt = 0 then 0 else x - x / y * y)
  else if o.toInt = 60 then (if x.toInt < y.toInt then 1 else 0)
  else if o.toInt = 62 then (if y.toInt < x.toInt then 1 else 0)
  else (if x.toInt = y.toInt then 1 else 0)
def wF (o x rx y ry : Int32) : Int32 :=
  if o.toInt = 38 ∨ o.toInt = 124 then (if rx.toInt ≠ 0 ∨ (o.toInt = 38 ∧ x.toInt ≠ 1) ∨ (o.toInt ≠ 38 ∧ x.toInt ≠ 0) then x else y) else workedF o x y
def rF (o x rx y ry : Int32) : Int32 :=
  if o.toInt = 38 ∨ o.toInt = 124 then (if rx.toInt ≠ 0 ∨ (o.toInt = 38 ∧ x.toInt ≠ 1) ∨ (o.toInt ≠ 38 ∧ x.toInt ≠ 0) then rx else ry)
  else (if rx.toInt ≠ 0 ∨ ry.toInt ≠ 0 ∨ ((o.toInt = 47 ∨ o.toInt = 37) ∧ y.toInt = 0) then 1 else 0)
/-! how deep the stack stands behind some signs -/
def stp (o : Int32) (d : Nat) : Option Nat := if 2 < o.toInt then (if 2 ≤ d then some (d - 1) else none) else if o.toInt = 2 then (if 1 ≤ d then some d else none) else some (d + 1)
def dp (code : Nat → Int32) (a : Nat) : Nat → Option Nat
  | 0 => some 0
  | k + 1 => match dp code a k with
    | none => none
    | some d => stp (code (a + k)) d
theorem dp_pre {code : Nat → Int32} {a : Nat} : ∀ {n d : Nat}, dp code a n = some d → ∀ k, k ≤ n → ∃ d', dp code a k = some d' := by
  intro n
  induction n with
  | zero => intro d h k hk; exact ⟨d, by rw [show k = 0 by omega]; exact h⟩
  | succ n ih =>
    intro d h k hk
    by_cases e : k = n + 1
    · exact ⟨d, by rw [e]; exact h⟩
    · unfold dp at h
      cases h2 : dp code a n with
      | none => rw [h2] at h; cases h
      | some d2 => exact ih h2 k (by omega)
theorem dp_le {code : Nat → Int32} {a : Nat} : ∀ {n d : Nat}, dp code a n = some d → d ≤ n := by
  intro n
  induction n with
  | zero => intro d h; unfold dp at h; cases h; omega
  | succ n ih =>
    intro d h
    unfold dp at h
    cases h2 : dp code a n with
    | none => rw [h2] at h; cases h
    | some d2 =>
      rw [h2] at h
      have := ih h2
      dsimp only at h
      unfold stp at h
      split at h
      · split at h
        · cases h; omega
        · cases h
      · split at h
        · split at h
          · cases h; omega
          · cases h
        · cases h; omega
theorem dp_step {code : Nat → Int32} {a n d k d' : Nat} (h : dp code a n = some d) (hk : k < n) (h' : dp code a k = some d') :
    (2 < (code (a + k)).toInt ∧ 2 ≤ d' ∧ dp code a (k + 1) = some (d' - 1)) ∨ ((code (a + k)).toInt = 2 ∧ 1 ≤ d' ∧ dp code a (k + 1) = some d') ∨ ((code (a + k)).toInt < 2 ∧ dp code a (k + 1) = some (d' + 1)) := by
  obtain ⟨d2, h2⟩ := dp_pre h (k + 1) (by omega)
  have h3 := h2
  unfold dp at h3
  rw [h'] at h3
  dsimp only at h3
  unfold stp at h3
  split at h3
  · split at h3
    · rename_i c1 c2
      exact Or.inl ⟨c1, c2, by rw [h2, ← h3]⟩
    · cases h3
  · split at h3
    · split at h3
      · rename_i c1 c2 c3
        exact Or.inr (Or.inl ⟨c2, c3, by rw [h2, ← h3]⟩)
      · cases h3
    · rename_i c1 c2
      exact Or.inr (Or.inr ⟨by omega, by rw [h2, ← h3]⟩)
def stA (code arg : Nat → Int32) (val : Int32 → Int32) (i : Nat) (s : (Nat → Int32) × (Nat → Int32) × Nat) : (Nat → Int32) × (Nat → Int32) × Nat :=
  if 2 < (code i).toInt then (upd s.1 (s.2.2 - 2) (wF (code i) (s.1 (s.2.2 - 2)) (s.2.1 (s.2.2 - 2)) (s.1 (s.2.2 - 2 + 1)) (s.2.1 (s.2.2 - 2 + 1))), upd s.2.1 (s.2.2 - 2) (rF (code i) (s.1 (s.2.2 - 2)) (s.2.1 (s.2.2 - 2)) (s.1 (s.2.2 - 2 + 1)) (s.2.1 (s.2.2 - 2 + 1))), s.2.2 - 1)
  else if (code i).toInt = 2 then (upd s.1 (s.2.2 - 1) (1 - s.1 (s.2.2 - 1)), s.2.1, s.2.2)
  else (upd s.1 s.2.2 (if (code i).toInt = 0 then arg i else val (arg i)), upd s.2.1 s.2.2 0, s.2.2 + 1)
theorem stA_bin {code arg : Nat → Int32} {val : Int32 → Int32} {i : Nat} {s : (Nat → Int32) × (Nat → Int32) × Nat} (c : 2 < (code i).toInt) : stA code arg val i s = (upd s.1 (s.2.2 - 2) (wF (code i) (s.1 (s.2.2 - 2)) (s.2.1 (s.2.2 - 2)) (s.1 (s.2.2 - 2 + 1)) (s.2.1 (s.2.2 - 2 + 1))), upd s.2.1 (s.2.2 - 2) (rF (code i) (s.1 (s.2.2 - 2)) (s.2.1 (s.2.2 - 2)) (s.1 (s.2.2 - 2 + 1)) (s.2.1 (s.2.2 - 2 + 1))), s.2.2 - 1) := if_pos c
theorem stA_not {code arg : Nat → Int32} {val : Int32 → Int32} {i : Nat} {s : (Nat → Int32) × (Nat → Int32) × Nat} (c : (code i).toInt = 2) : stA code arg val i s = (upd s.1 (s.2.2 - 1) (1 - s.1 (s.2.2 - 1)), s.2.1, s.2.2) := by
  unfold stA
  rw [if_neg (by omega), if_pos c]
theorem stA_push {code arg : Nat → Int32} {val : Int32 → Int32} {i : Nat} {s : (Nat → Int32) × (Nat → Int32) × Nat} (c : (code i).toInt < 2) : stA code arg val i s = (upd s.1 s.2.2 (if (code i).toInt = 0 then arg i else val (arg i)), upd s.2.1 s.2.2 0, s.2.2 + 1) := by
  unfold stA
  rw [if_neg (by omega), if_neg (by omega)]
def runA (code arg : Nat → Int32) (val : Int32 → Int32) (a : Nat) (s : (Nat → Int32) × (Nat → Int32) × Nat) : Nat → (Nat → Int32) × (Nat → Int32) × Nat
  | 0 => s
  | k + 1 => stA code arg val (a + k) (runA code arg val a s k)
theorem run_dp {code arg : Nat → Int32} {val : Int32 → Int32} {a : Nat} {W R : Nat → Int32} : ∀ {k d : Nat}, dp code a k = some d → (runA code arg val a (W, R, 0) k).2.2 = d := by
  intro k
  induction k with
  | zero => intro d h; unfold dp at h; cases h; rfl
  | succ k ih =>
    intro d h
    obtain ⟨d1, h1⟩ := dp_pre h k (by omega)
    have e := ih h1
    unfold runA
    rcases dp_step h (by omega : k < k + 1) h1 with ⟨c1, c2, c3⟩ | ⟨c1, c2, c3⟩ | ⟨c1, c3⟩
    · have hd := Option.some.inj (h.symm.trans c3)
      rw [stA_bin c1]
      dsimp only
      omega
    · have hd := Option.some.inj (h.symm.trans c3)
      rw [stA_not c1]
      dsimp only
      omega
    · have hd := Option.some.inj (h.symm.trans c3)
      rw [stA_push c1]
      dsimp only
      omega
/-- what lies above the stack doesn't matter -/
theorem run_same {code arg : Nat → Int32} {val : Int32 → Int32} {a : Nat} {W R W2 R2 : Nat → Int32} : ∀ {k d : Nat}, dp code a k = some d → ∀ j, j < d →
    (runA code arg val a (W, R, 0) k).1 j = (runA code arg val a (W2, R2, 0) k).1 j ∧ (runA code arg val a (W, R, 0) k).2.1 j = (runA code arg val a (W2, R2, 0) k).2.1 j := by
  intro k
  induction k with
  | zero => intro d h; unfold dp at h; cases h; intro j hj; omega
  | succ k ih =>
    intro d h j hj
    obtain ⟨d1, h1⟩ := dp_pre h k (by omega)
    have i1 := ih h1
    have e1 : (runA code arg val a (W, R, 0) k).2.2 = d1 := run_dp h1
    have e2 : (runA code arg val a (W2, R2, 0) k).2.2 = d1 := run_dp h1
    unfold runA
    rcases dp_step h (by omega : k < k + 1) h1 with ⟨c1, c2, c3⟩ | ⟨c1, c2, c3⟩ | ⟨c1, c3⟩
    · have hd := Option.some.inj (h.symm.trans c3)
      rw [stA_bin c1, stA_bin c1]
      dsimp only
      rw [e1, e2, (i1 (d1 - 2) (by omega)).1, (i1 (d1 - 2) (by omega)).2, (i1 (d1 - 2 + 1) (by omega)).1, (i1 (d1 - 2 + 1) (by omega)).2]
      by_cases q : j = d1 - 2
      · rw [q, upd_at, upd_at, upd_at, upd_at]
        exact ⟨rfl, rfl⟩
      · rw [upd_off _ _ q, upd_off _ _ q, upd_off _ _ q, upd_off _ _ q]
        exact i1 j (by omega)
    · have hd := Option.some.inj (h.symm.trans c3)
      rw [stA_not c1, stA_not c1]
      dsimp only
      rw [e1, e2, (i1 (d1 - 1) (by omega)).1]
      by_cases q : j = d1 - 1
      · rw [q, upd_at, upd_at]
        exact ⟨rfl, (i1 (d1 - 1) (by omega)).2⟩
      · rw [upd_off _ _ q, upd_off _ _ q]
        exact i1 j (by omega)
    · have hd := Option.some.inj (h.symm.trans c3)
      rw [stA_push c1, stA_push c1]
      dsimp only
      rw [e1, e2]
      by_cases q : j = d1
      · rw [q, upd_at, upd_at, upd_at, upd_at]
        exact ⟨rfl, rfl⟩
      · rw [upd_off _ _ q, upd_off _ _ q, upd_off _ _ q, upd_off _ _ q]
        exact i1 j (by omega)
def evW (code arg : Nat → Int32) (val : Int32 → Int32) (a n : Nat) : Int32 := (runA code arg val a (fun _ => 0, fun _ => 0, 0) n).1 0
def evR (code arg : Nat → Int32) (val : Int32 → Int32) (a n : Nat) : Int32 := (runA code arg val a (fun _ => 0, fun _ => 0, 0) n).2.1 0
theorem ev_of {code arg : Nat → Int32} {val : Int32 → Int32} {a n d : Nat} {W R W2 R2 : Nat → Int32} {z : Nat} (h : dp code a n = some d) (hd : 1 ≤ d) (e : runA code arg val a (W, R, 0) n = (W2, R2, z)) : W2 0 = evW code arg val a n ∧ R2 0 = evR code arg val a n := by
  have h1 := run_same (val := val) (arg := arg) (W := W) (R := R) (W2 := fun _ => 0) (R2 := fun _ => 0) h 0 (by omega)
  rw [e] at h1
  exact h1
/-- the clauses' signs are whole: an E or a C leaves one number -/
def wfC (n : Int32) (sf cf ct code : Nat → Int32) : Prop := ∀ k : Nat, (k : Int) < n.toInt → 0 ≤ (sf k).toInt ∧ (sf k).toInt ≤ (cf k).toInt ∧ (cf k).toInt ≤ (ct k).toInt ∧ (ct k).toInt ≤ 200 ∧
  dp code (sf k).toNatClampNeg ((cf k).toNatClampNeg - (sf k).toNatClampNeg) = some 1 ∧ dp code (cf k).toNatClampNeg ((ct k).toNatClampNeg - (cf k).toNatClampNeg) = some 1
/-- a letter's worth -/
def valF (knee weight : Nat → Int32) (n w l t h m i q o : Int32) : Int32 :=
  if o.toInt = 119 then w else if o.toInt = 107 then knee w.toNatClampNeg else if o.toInt = 98 then weight w.toNatClampNeg else if o.toInt = 108 then l else if o.toInt = 116 then t
  else if o.toInt = 104 then h else if o.toInt = 109 then m else if o.toInt = 105 then i else if o.toInt = 110 then n else q
/-- what the first clause of a letter that holds tells -/
def tellF (cl sf cf ct code arg : Nat → Int32) (val : Int32 → Int32) (letter lo hi : Int32) : Nat → Nat → Int32
  | 0, _ => 0
  | j + 1, k => if (cl k).toInt ≠ letter.toInt then tellF cl sf cf ct code arg val letter lo hi j (k + 1)
    else if (evR code arg val (cf k).toNatClampNeg ((ct k).toNatClampNeg - (cf k).toNatClampNeg)).toInt ≠ 0 ∨ (evW code arg val (cf k).toNatClampNeg ((ct k).toNatClampNeg - (cf k).toNatClampNeg)).toInt ≠ 1 then tellF cl sf cf ct code arg val letter lo hi j (k + 1)
    else heldF (if (evR code arg val (sf k).toNatClampNeg ((cf k).toNatClampNeg - (sf k).toNatClampNeg)).toInt ≠ 0 then 0 else evW code arg val (sf k).toNatClampNeg ((cf k).toNatClampNeg - (sf k).toNatClampNeg)) lo hi
/-! bits of small numbers -/
theorem bv_tn {x : Int32} (h : 0 ≤ x.toInt) : x.toBitVec.toNat = x.toInt.toNat := by
  have h1 : x.toInt = x.toBitVec.toInt := rfl
  rw [BitVec.toInt_eq_toNat_cond] at h1
  have h3 := x.toBitVec.isLt
  split at h1 <;> omega
theorem bv_ti {x : Int32} (h : x.toBitVec.toNat < 2147483648) : x.toInt = x.toBitVec.toNat := by
  have h1 : x.toInt = x.toBitVec.toInt := rfl
  rw [BitVec.toInt_eq_toNat_cond] at h1
  split at h1 <;> omega
theorem i_andl {x y z : Int32} (e : z = x &&& y) (hx : 0 ≤ x.toInt) : 0 ≤ z.toInt ∧ z.toInt ≤ x.toInt := by
  have h1 : z.toBitVec.toNat = x.toBitVec.toNat &&& y.toBitVec.toNat := by rw [e, Int32.toBitVec_and, BitVec.toNat_and]
  have h2 : x.toBitVec.toNat &&& y.toBitVec.toNat ≤ x.toBitVec.toNat := Nat.and_le_left
  have h3 := bv_tn hx
  have h4 := i_top x
  have h5 : z.toInt = z.toBitVec.toNat := bv_ti (by omega)
  omega
theorem i_orb (k : Nat) {x y z : Int32} {C : Int} (e : z = x ||| y) (hx : 0 ≤ x.toInt ∧ x.toInt ≤ C) (hy : 0 ≤ y.toInt ∧ y.toInt ≤ C) (hk : k ≤ 30) (hC : C = ((2 ^ k : Nat) : Int) - 1) : 0 ≤ z.toInt ∧ z.toInt ≤ C := by
  have h1 : z.toBitVec.toNat = x.toBitVec.toNat ||| y.toBitVec.toNat := by rw [e, Int32.toBitVec_or, BitVec.toNat_or]
  have h3 := bv_tn hx.1
  have h4 := bv_tn hy.1
  have h2 : x.toBitVec.toNat ||| y.toBitVec.toNat < 2 ^ k := Nat.or_lt_two_pow (by omega) (by omega)
  have h6 : 2 ^ k ≤ 2 ^ 30 := Nat.pow_le_pow_right (by decide) hk
  have h5 : z.toInt = z.toBitVec.toNat := bv_ti (by omega)
  omega
theorem i_xorb (k : Nat) {x y z : Int32} {C : Int} (e : z = x ^^^ y) (hx : 0 ≤ x.toInt ∧ x.toInt ≤ C) (hy : 0 ≤ y.toInt ∧ y.toInt ≤ C) (hk : k ≤ 30) (hC : C = ((2 ^ k : Nat) : Int) - 1) : 0 ≤ z.toInt ∧ z.toInt ≤ C := by
  have h1 : z.toBitVec.toNat = x.toBitVec.toNat ^^^ y.toBitVec.toNat := by rw [e, Int32.toBitVec_xor, BitVec.toNat_xor]
  have h3 := bv_tn hx.1
  have h4 := bv_tn hy.1
  have h2 : x.toBitVec.toNat ^^^ y.toBitVec.toNat < 2 ^ k := Nat.xor_lt_two_pow (by omega) (by omega)
  have h6 : 2 ^ k ≤ 2 ^ 30 := Nat.pow_le_pow_right (by decide) hk
  have h5 : z.toInt = z.toBitVec.toNat := bv_ti (by omega)
  omega
def pw2 : Nat → Int
  | 0 => 1
  | k + 1 => 2 * pw2 k
theorem i_sh1 {x z : Int32} {a : Int} (e : z = 1 <<< (x &&& 31)) (hx : x.toInt = a) (h : 0 ≤ a ∧ a ≤ 10) : z.toInt = pw2 a.toNat ∧ 1 ≤ z.toInt ∧ z.toInt ≤ 1024 ∧ (a ≤ 9 → z.toInt ≤ 512) := by
  subst e
  rcases (show a = 0 ∨ a = 1 ∨ a = 2 ∨ a = 3 ∨ a = 4 ∨ a = 5 ∨ a = 6 ∨ a = 7 ∨ a = 8 ∨ a = 9 ∨ a = 10 by omega) with q | q | q | q | q | q | q | q | q | q | q <;> subst q
  · obtain rfl : x = 0 := i_same (hx.trans (by decide)); decide
  · obtain rfl : x = 1 := i_same (hx.trans (by decide)); decide
  · obtain rfl : x = 2 := i_same (hx.trans (by decide)); decide
  · obtain rfl : x = 3 := i_same (hx.trans (by decide)); decide
  · obtain rfl : x = 4 := i_same (hx.trans (by decide)); decide
  · obtain rfl : x = 5 := i_same (hx.trans (by decide)); decide
  · obtain rfl : x = 6 := i_same (hx.trans (by decide)); decide
  · obtain rfl : x = 7 := i_same (hx.trans (by decide)); decide
  · obtain rfl : x = 8 := i_same (hx.trans (by decide)); decide
  · obtain rfl : x = 9 := i_same (hx.trans (by decide)); decide
  · obtain rfl : x = 10 := i_same (hx.trans (by decide)); decide
theorem i_shl9 {x z : Int32} {a : Int} (e : z = x <<< ((9 : Int32) &&& 31)) (hx : x.toInt = a) (h : 0 ≤ a ∧ a ≤ 5) : z.toInt = a * 512 := by
  subst e
  rcases (show a = 0 ∨ a = 1 ∨ a = 2 ∨ a = 3 ∨ a = 4 ∨ a = 5 by omega) with q | q | q | q | q | q <;> subst q
  · obtain rfl : x = 0 := i_same (hx.trans (by decide)); decide
  · obtain rfl : x = 1 := i_same (hx.trans (by decide)); decide
  · obtain rfl : x = 2 := i_same (hx.trans (by decide)); decide
  · obtain rfl : x = 3 := i_same (hx.trans (by decide)); decide
  · obtain rfl : x = 4 := i_same (hx.trans (by decide)); decide
  · obtain rfl : x = 5 := i_same (hx.trans (by decide)); decide
theorem i_andm (k : Nat) {x m z : Int32} {a P : Int} (e : z = x &&& m) (hm : m.toBitVec.toNat = 2 ^ k - 1) (hk : k ≤ 30) (hP : ((2 ^ k : Nat) : Int) = P) (hx : x.toInt = a) (h : 0 ≤ a) : z.toInt = a % P := by
  have h1 : x.toBitVec.toNat % 2 ^ k < 2 ^ k := Nat.mod_lt _ (Nat.two_pow_pos k)
  have h2 : 2 ^ k ≤ 2 ^ 30 := Nat.pow_le_pow_right (by decide) hk
  have h3 := bv_tn (x := x) (by omega)
  rw [e, pk_and x k hm, nI_toInt (by omega), h3, hx, ← hP, Int.natCast_emod, Int.toNat_of_nonneg h]
/-! the class's list of states: how many are listed -/
def cntL (f : Nat → Int32) : Nat → Nat
  | 0 => 0
  | n + 1 => cntL f n + (if (f n).toInt = 1 then 1 else 0)
theorem cntL_le (f : Nat → Int32) : ∀ n, cntL f n ≤ n := by
  intro n
  induction n with
  | zero => exact Nat.le_refl _
  | succ n ih => unfold cntL; split <;> omega
theorem cntL_lt {f : Nat → Int32} {b : Nat} (h : (f b).toInt ≠ 1) : ∀ n, b < n → cntL f n < n := by
  intro n
  induction n with
  | zero => intro hb; omega
  | succ n ih =>
    intro hb
    unfold cntL
    by_cases e : b = n
    · subst e
      rw [if_neg h]
      have := cntL_le f b
      omega
    · have := ih (by omega)
      split <;> omega
theorem cntL_out {f : Nat → Int32} {b : Nat} {x : Int32} : ∀ n, n ≤ b → cntL (upd f b x) n = cntL f n := by
  intro n
  induction n with
  | zero => intro _; rfl
  | succ n ih =>
    intro hb
    unfold cntL
    rw [ih (by omega), upd_off f x (by omega : n ≠ b)]
theorem cntL_in {f : Nat → Int32} {b : Nat} {x : Int32} (h : (f b).toInt ≠ 1) (hx : x.toInt = 1) : ∀ n, b < n → cntL (upd f b x) n = cntL f n + 1 := by
  intro n
  induction n with
  | zero => intro hb; omega
  | succ n ih =>
    intro hb
    unfold cntL
    by_cases e : b = n
    · subst e
      rw [cntL_out b (Nat.le_refl _), upd_at, if_pos hx, if_neg h]
    · rw [ih (by omega), upd_off f x (fun z => e z.symm)]
      omega
theorem cntL_0 {f : Nat → Int32} : ∀ n, (∀ b, b < n → (f b).toInt = 0) → cntL f n = 0 := by
  intro n
  induction n with
  | zero => intro _; rfl
  | succ n ih =>
    intro h
    unfold cntL
    rw [ih (fun b hb => h b (by omega)), if_neg (by rw [h n (by omega)]; decide)]
def LI (f st : Nat → Int32) (n : Int32) : Prop := ((cntL f 1296 : Nat) : Int) = n.toInt ∧ ∀ b : Nat, b < 1296 → (f b).toInt = 1 → ∃ i : Nat, (i : Int) < n.toInt ∧ (st i).toInt = (b : Int)
theorem LI_lt {f st : Nat → Int32} {n : Int32} (h : LI f st n) {b : Nat} (hb : b < 1296) (h0 : (f b).toInt = 0) : n.toInt < 1296 := by
  have := cntL_lt (f := f) (b := b) (by rw [h0]; decide) 1296 hb
  have := h.1
  omega
theorem LI_add {f st : Nat → Int32} {n n2 x y : Int32} (h : LI f st n) {b : Nat} (hb : b < 1296) (h0 : (f b).toInt = 0) (hx : x.toInt = 1) (hy : y.toInt = (b : Int)) (hn : 0 ≤ n.toInt) (h2 : n2.toInt = n.toInt + 1) : LI (upd f b x) (upd st n.toNatClampNeg y) n2 := by
  refine ⟨?_, fun c hc hc1 => ?_⟩
  · rw [cntL_in (by rw [h0]; decide) hx 1296 hb, h2, ← h.1]
    omega
  · by_cases e : c = b
    · subst e
      exact ⟨n.toNatClampNeg, by rw [i_ix (rfl : n.toInt = n.toInt)]; omega, by rw [upd_at]; exact hy⟩
    · rw [upd_off f x e] at hc1
      obtain ⟨i, hi, hs⟩ := h.2 c hc hc1
      exact ⟨i, by omega, by rw [upd_off st y (by rw [i_ix (rfl : n.toInt = n.toInt)]; omega)]; exact hs⟩
theorem LI_0 {f st : Nat → Int32} {n : Int32} (h : ∀ b : Nat, b < 1296 → (f b).toInt = 0) (hn : n.toInt = 0) : LI f st n :=
  ⟨by rw [cntL_0 1296 h, hn]; rfl, fun b hb h1 => by rw [h b hb] at h1; exact absurd h1 (by decide)⟩
theorem six_mul {y z a : Int} (h : (a = 0 ∧ y = 1) ∨ (a = 1 ∧ y = 6) ∨ (a = 2 ∧ y = 36) ∨ (a = 3 ∧ y = 216) ∨ (a = 4 ∧ y = 1296) ∨ (a = 5 ∧ y = 7776)) (hz : 0 ≤ z ∧ z ≤ 5) :
    (a = 0 ∧ 0 ≤ y * z ∧ y * z ≤ 5) ∨ (a = 1 ∧ 0 ≤ y * z ∧ y * z ≤ 30) ∨ (a = 2 ∧ 0 ≤ y * z ∧ y * z ≤ 180) ∨ (a = 3 ∧ 0 ≤ y * z ∧ y * z ≤ 1080) ∨ (a = 4 ∧ 0 ≤ y * z ∧ y * z ≤ 6480) ∨ (a = 5 ∧ 0 ≤ y * z ∧ y * z ≤ 38880) := by
  rcases h with ⟨h1, h2⟩ | ⟨h1, h2⟩ | ⟨h1, h2⟩ | ⟨h1, h2⟩ | ⟨h1, h2⟩ | ⟨h1, h2⟩ <;> subst h2 <;> omega
theorem rg_cpy {lo hi : Int} {f g : Nat → Int32} {n : Nat} (hg : rg lo hi g) (hf : ∀ j : Nat, j < n → lo ≤ (f j).toInt ∧ (f j).toInt ≤ hi) : rg lo hi (va_cpy f g (0 : Int32).toNatClampNeg (0 : Int32).toNatClampNeg n) := by
  intro j
  rw [show (0 : Int32).toNatClampNeg = 0 from by decide]
  unfold va_cpy
  split
  · rename_i h
    rw [show 0 + (j - 0) = j by omega]
    exact hf j (by omega)
  · exact hg j
def sumM (f : Nat → Int32) : Nat → Int
  | 0 => 0
  | n + 1 => sumM f n + (f n).toInt
def bpOK (f : Nat → Int32) (a n : Nat) : Prop := ∀ j : Nat, j < n → 1 ≤ (f (a + j)).toInt ∧ (f (a + j)).toInt ≤ 60
theorem bpOK_up {f : Nat → Int32} {a n : Nat} {g : Nat → Int32} (h : bpOK f a n) (hg : ∀ j, j < n → g (a + j) = f (a + j)) (hn : 1 ≤ (g (a + n)).toInt ∧ (g (a + n)).toInt ≤ 60) : bpOK g a (n + 1) := by
  intro j hj
  by_cases e : j = n
  · rw [e]; exact hn
  · rw [hg j (by omega)]; exact h j (by omega)
