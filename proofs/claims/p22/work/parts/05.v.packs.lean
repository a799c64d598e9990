/-! what a walker takes at a pace, and the loads given one by one -/
theorem can_congr2 {P R R' : Nat → Int} {pk : Nat → Bool} {N : Nat} : ∀ {n s : Nat}, (∀ v, v < n → pk v = true → R v = R' v) → can P R pk N n s → can P R' pk N n s := by
  intro n
  induction n with
  | zero => intro s _ h; exact h
  | succ n ih =>
    intro s hR h
    rcases h with h | ⟨h1, t, h2, h3, h4, h5⟩
    · exact Or.inl (ih (fun v hv => hR v (by omega)) h)
    · exact Or.inr ⟨h1, t, h2, h3, by rw [← hR n (by omega) h1]; exact h4, ih (fun v hv => hR v (by omega)) h5⟩
def bsG (L : Nat → Int32) (q b : Int) : Nat → Int → Int → Int
  | 0, lo, _ => lo - 1
  | n + 1, lo, hi => if lo < hi then (if (L (b + (lo + hi) / 2).toNat).toInt < q then bsG L q b n lo ((lo + hi) / 2) else bsG L q b n ((lo + hi) / 2 + 1) hi) else lo - 1
theorem bsG_more (L : Nat → Int32) (q b : Int) : ∀ (n m : Nat) (lo hi : Int), hi - lo ≤ n → hi - lo ≤ m → bsG L q b n lo hi = bsG L q b m lo hi := by
  intro n
  induction n with
  | zero =>
    intro m lo hi h _
    cases m with
    | zero => rfl
    | succ m => unfold bsG; rw [if_neg (by omega)]
  | succ n ih =>
    intro m lo hi h hm
    cases m with
    | zero => unfold bsG; rw [if_neg (by omega)]
    | succ m =>
      unfold bsG
      split
      · split
        · exact ih m _ _ (by omega) (by omega)
        · exact ih m _ _ (by omega) (by omega)
      · rfl
def bsF (L : Nat → Int32) (q b lo hi : Int) : Int := bsG L q b (hi - lo).toNat lo hi
theorem bsF_lo {L : Nat → Int32} {q b lo hi mid : Int} {y : Int32} {k : Nat} (h : lo < hi) (hm : mid = (lo + hi) / 2) (hk : k = (b + mid).toNat) (hy : y = L k) (hq : y.toInt < q) : bsF L q b lo hi = bsF L q b lo mid := by
  subst hm hk hy
  unfold bsF
  obtain ⟨n, hn⟩ : ∃ n, (hi - lo).toNat = n + 1 := ⟨(hi - lo).toNat - 1, by omega⟩
  rw [hn]
  conv => lhs; unfold bsG
  rw [if_pos h, if_pos hq]
  exact bsG_more _ _ _ _ _ _ _ (by omega) (by omega)
theorem bsF_hi {L : Nat → Int32} {q b lo hi mid nx : Int} {y : Int32} {k : Nat} (h : lo < hi) (hm : mid = (lo + hi) / 2) (hk : k = (b + mid).toNat) (hy : y = L k) (hq : q ≤ y.toInt) (hx : nx = mid + 1) : bsF L q b lo hi = bsF L q b nx hi := by
  subst hx
  subst hm hk hy
  unfold bsF
  obtain ⟨n, hn⟩ : ∃ n, (hi - lo).toNat = n + 1 := ⟨(hi - lo).toNat - 1, by omega⟩
  rw [hn]
  conv => lhs; unfold bsG
  rw [if_pos h, if_neg (by omega)]
  exact bsG_more _ _ _ _ _ _ _ (by omega) (by omega)
theorem bsF_end {L : Nat → Int32} {q b lo hi : Int} (h : hi ≤ lo) : bsF L q b lo hi = lo - 1 := by
  unfold bsF
  rw [show (hi - lo).toNat = 0 by omega]
  rfl
def capF (L : Nat → Int32) (q bt : Int32) (w : Nat) : Int := bsF L (if (w : Int) = bt.toInt then (q - 1).toInt else q.toInt) (401 * (w : Int)) 0 401
def ownF (O P : Nat → Int32) (w : Nat) : Nat → Int
  | 0 => 0
  | n + 1 => ownF O P w n + (if (O n).toInt = (w : Int) then (P n).toInt else 0)
def rmF (L : Nat → Int32) (q bt : Int32) (O P : Nat → Int32) (N : Nat) (w : Nat) : Int := capF L q bt w - ownF O P w N
theorem leftN_cg {g g' : Nat → Int32} : ∀ n, (∀ x, x < n → g x = g' x) → leftN g n = leftN g' n := by
  intro n
  induction n with
  | zero => intro _; rfl
  | succ n ih =>
    intro h
    unfold leftN
    rw [ih (fun x hx => h x (by omega)), h n (by omega)]
theorem leftN_take {g : Nat → Int32} {n x : Nat} {w : Int32} (hx : x < n) (hg : (g x).toInt = -1) (hw : w.toInt ≠ -1) : leftN (upd g x w) n = dif (leftN g n) (2 ^ x) := nat_bits (fun i => by
  rw [leftN_bit, dif_bit, leftN_bit, bit_pow]
  by_cases e : x = i
  · subst e
    rw [upd_at]
    simp [hw]
  · rw [upd_off _ _ (fun z => e z.symm)]
    simp [e])
theorem leftN_has {g : Nat → Int32} {n x : Nat} (hx : x < n) (hg : (g x).toInt = -1) : (leftN g n).testBit x = true := by
  rw [leftN_bit]; simp [hx, hg]
theorem lessR_of {R R' : Nat → Int32} {w : Nat} {y : Int32} {p : Int} (e : R' = upd R w y) (hy : y.toInt = (R w).toInt - p) : (fun i => (R' i).toInt) = lessR (fun i => (R i).toInt) w p := by
  funext v
  unfold lessR
  subst e
  by_cases q : v = w
  · subst q; rw [if_pos rfl, upd_at, hy]
  · rw [if_neg q, upd_off _ _ q]
/-! the first clause that holds -/
section
variable {cl sf cf ct code arg : Nat → Int32} {val : Int32 → Int32} {letter lo hi : Int32} {m k : Nat}
theorem tell_next (hk : k < m) (h : (cl k).toInt ≠ letter.toInt ∨ (evR code arg val (cf k).toNatClampNeg ((ct k).toNatClampNeg - (cf k).toNatClampNeg)).toInt ≠ 0 ∨ (evW code arg val (cf k).toNatClampNeg ((ct k).toNatClampNeg - (cf k).toNatClampNeg)).toInt ≠ 1) :
    tellF cl sf cf ct code arg val letter lo hi (m - k) k = tellF cl sf cf ct code arg val letter lo hi (m - (k + 1)) (k + 1) := by
  rw [show m - k = (m - (k + 1)) + 1 by omega]
  conv => lhs; unfold tellF
  by_cases q : (cl k).toInt ≠ letter.toInt
  · rw [if_pos q]
  · rw [if_neg q, if_pos (by rcases h with h | h; exact absurd h q; exact h)]
theorem tell_here (hk : k < m) (h1 : (cl k).toInt = letter.toInt) (h2 : (evR code arg val (cf k).toNatClampNeg ((ct k).toNatClampNeg - (cf k).toNatClampNeg)).toInt = 0) (h3 : (evW code arg val (cf k).toNatClampNeg ((ct k).toNatClampNeg - (cf k).toNatClampNeg)).toInt = 1) :
    tellF cl sf cf ct code arg val letter lo hi (m - k) k = heldF (if (evR code arg val (sf k).toNatClampNeg ((cf k).toNatClampNeg - (sf k).toNatClampNeg)).toInt ≠ 0 then 0 else evW code arg val (sf k).toNatClampNeg ((cf k).toNatClampNeg - (sf k).toNatClampNeg)) lo hi := by
  rw [show m - k = (m - (k + 1)) + 1 by omega]
  conv => lhs; unfold tellF
  rw [if_neg (by omega), if_neg (by omega)]
theorem tell_end (hk : m ≤ k) : tellF cl sf cf ct code arg val letter lo hi (m - k) k = 0 := by
  rw [show m - k = 0 by omega]
  rfl
end
/-! a walker's pace -/
def paceF (cl sf cf ct code arg knee weight lame slope miles : Nat → Int32) (cm n w l t i tn : Int32) : Int32 :=
  if (lame w.toNatClampNeg).toInt ≠ 0 then (tellF cl sf cf ct code arg (valF knee weight n w l t (if tn.toInt ≠ 0 then - (slope i.toNatClampNeg) else slope i.toNatClampNeg) (miles i.toNatClampNeg) i 0) 118 0 60 cm.toNatClampNeg 0) / 2
  else tellF cl sf cf ct code arg (valF knee weight n w l t (if tn.toInt ≠ 0 then - (slope i.toNatClampNeg) else slope i.toNatClampNeg) (miles i.toNatClampNeg) i 0) 118 0 60 cm.toNatClampNeg 0
/-! everybody's tiredness as one number -/
def n6 (T : Nat → Int32) : Nat → Int32 := fun j => if j < 6 then T j else 0
theorem n6_upd {T : Nat → Int32} {w : Nat} {x : Int32} (h : w < 6) : n6 (upd T w x) = upd (n6 T) w x := by
  funext j
  unfold n6
  by_cases q : j = w
  · subst q; rw [if_pos h, upd_at, upd_at]
  · rw [upd_off _ _ q, upd_off _ _ q]
theorem n6_at {T : Nat → Int32} {w : Nat} (h : w < 6) : n6 T w = T w := if_pos h
theorem n6_eq {T U : Nat → Int32} (h : ∀ j, j < 6 → T j = U j) : n6 T = n6 U := by
  funext j
  unfold n6
  split
  · rename_i q; exact h j q
  · rfl
def qF (all : Int32) : Nat → Int32
  | 0 => all
  | k + 1 => qF all k / 6
def tkF (all : Int32) : Nat → Int32 := n6 (fun j => qF all j - qF all j / 6 * 6)
def atF (T : Nat → Int32) (n : Nat) : Nat → Int32
  | 0 => 0
  | k + 1 => 6 * atF T n k + T (n - 1 - k)
theorem atF_n6 {T : Nat → Int32} {n : Nat} (hn : n ≤ 6) : ∀ k, k ≤ n → atF (n6 T) n k = atF T n k := by
  intro k
  induction k with
  | zero => intro _; rfl
  | succ k ih => intro h; unfold atF; rw [ih (by omega), n6_at (by omega)]
/-! what is carried -/
def pdF (lw fd : Nat → Int32) (x : Nat) (i : Int32) : Int32 := if (lw x - fd x * i).toInt < 0 then 0 else lw x - fd x * i
def cbF (pt lw fd : Nat → Int32) (w k i : Int32) : Nat → Int32
  | 0 => 0
  | x + 1 => cbF pt lw fd w k i x + (if (pt (9 * k.toInt + x).toNat).toInt = w.toInt then pdF lw fd x i else 0)
/-! the band's pace: the least -/
def bnF (pc : Nat → Int32) : Nat → Int32
  | 0 => 60
  | w + 1 => if (pc w).toInt < (bnF pc w).toInt then pc w else bnF pc w
theorem nI_back {w : Int32} (h : 0 ≤ w.toInt) : nI w.toNatClampNeg = w := i_same (by have := i_top w; rw [nI_toInt (by rw [i_ix (rfl : w.toInt = w.toInt)]; omega), i_ix (rfl : w.toInt = w.toInt)]; omega)
/-! walker by walker -/
def rs1 (F : Nat → Int32 → Int32) (T : Nat → Int32) : Nat → (Nat → Int32)
  | 0 => T
  | w + 1 => upd (rs1 F T w) w (F w (rs1 F T w w))
def rsN (F : Nat → Int32 → Int32) (n : Nat) (T : Nat → Int32) : Nat → (Nat → Int32)
  | 0 => T
  | m + 1 => rs1 F (rsN F n T m) n
