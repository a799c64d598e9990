/-! a band over a piece with an action, the end by it, and the search's marks -/
def gRF (cl sf cf ct code arg knee weight lame slope miles pt lw fd : Nat → Int32) (cm wk ld : Int32) (i : Int32) : Nat → Int32 → Int32 := fun w9 t9 => heldF (t9 - tellF cl sf cf ct code arg (valF knee weight wk (nI w9) 0 t9 0 0 i 0) 114 0 5 cm.toNatClampNeg 0) 0 5
def gT1 (cl sf cf ct code arg knee weight lame slope miles pt lw fd : Nat → Int32) (cm wk ld : Int32) (i act : Int32) (T : Nat → Int32) : Nat → Int32 := rsN (gRF cl sf cf ct code arg knee weight lame slope miles pt lw fd cm wk ld i) wk.toNatClampNeg T (act / 6).toNatClampNeg
def gP (cl sf cf ct code arg knee weight lame slope miles pt lw fd : Nat → Int32) (cm wk ld : Int32) (i act : Int32) (T : Nat → Int32) : Int32 := bnF (fun w9 => paceF cl sf cf ct code arg knee weight lame slope miles cm wk (nI w9) (cbF pt lw fd (nI w9) (act - act / 6 * 6) i ld.toNatClampNeg) (gT1 cl sf cf ct code arg knee weight lame slope miles pt lw fd cm wk ld i act T w9) i 0) wk.toNatClampNeg
def gMn (cl sf cf ct code arg knee weight lame slope miles pt lw fd : Nat → Int32) (cm wk ld : Int32) (i act : Int32) (T : Nat → Int32) : Int32 := 30 * (act / 6) + (600 * miles i.toNatClampNeg + gP cl sf cf ct code arg knee weight lame slope miles pt lw fd cm wk ld i act T - 1) / gP cl sf cf ct code arg knee weight lame slope miles pt lw fd cm wk ld i act T
def gGF (cl sf cf ct code arg knee weight lame slope miles pt lw fd : Nat → Int32) (cm wk ld : Int32) (i act q : Int32) : Nat → Int32 → Int32 := fun w9 t9 => heldF (t9 + tellF cl sf cf ct code arg (valF knee weight wk (nI w9) (cbF pt lw fd (nI w9) (act - act / 6 * 6) i ld.toNatClampNeg) t9 (slope i.toNatClampNeg) (miles i.toNatClampNeg) i ((600 * miles i.toNatClampNeg + q - 1) / q)) 103 (-5) 5 cm.toNatClampNeg 0) 0 5
def gT2 (cl sf cf ct code arg knee weight lame slope miles pt lw fd : Nat → Int32) (cm wk ld : Int32) (i act : Int32) (T : Nat → Int32) : Nat → Int32 := rs1 (gGF cl sf cf ct code arg knee weight lame slope miles pt lw fd cm wk ld i act (gP cl sf cf ct code arg knee weight lame slope miles pt lw fd cm wk ld i act T)) (gT1 cl sf cf ct code arg knee weight lame slope miles pt lw fd cm wk ld i act T) wk.toNatClampNeg
def mayF (pl act : Int32) : Bool := decide ((pl >>> ((act - act / 6 * 6) &&& 31)) &&& 1 = 1)
def nxF (cl sf cf ct code arg knee weight lame slope miles pt lw fd : Nat → Int32) (cm wk ld : Int32) (i act : Int32) (T : Nat → Int32) : Nat := ((7 * (i.toInt + 1) + (act - act / 6 * 6).toInt) * 1296 + (atF (gT2 cl sf cf ct code arg knee weight lame slope miles pt lw fd cm wk ld i act T) wk.toNatClampNeg wk.toNatClampNeg).toInt).toNat
def ebF (cl sf cf ct code arg knee weight lame slope miles pt lw fd : Nat → Int32) (cm wk ld : Int32) (E : Nat → Int32) (pl cc i bf t act : Int32) : Int32 :=
  if mayF pl act = true ∧ (gP cl sf cf ct code arg knee weight lame slope miles pt lw fd cm wk ld i act (tkF t)).toInt ≠ 0 ∧ (E (nxF cl sf cf ct code arg knee weight lame slope miles pt lw fd cm wk ld i act (tkF t))).toInt ≠ 1000000000 then gMn cl sf cf ct code arg knee weight lame slope miles pt lw fd cm wk ld i act (tkF t) + (if bf.toInt = 6 ∨ bf.toInt = (act - act / 6 * 6).toInt then 0 else cc) + E (nxF cl sf cf ct code arg knee weight lame slope miles pt lw fd cm wk ld i act (tkF t)) else 1000000000
def okq (cl sf cf ct code arg knee weight lame slope miles pt lw fd : Nat → Int32) (cm wk ld : Int32) (pl : Int32) (q a : Nat) : Prop := mayF pl (nI a) = true ∧ (gP cl sf cf ct code arg knee weight lame slope miles pt lw fd cm wk ld (nI (q / 9072)) (nI a) (tkF (nI (q % 1296)))).toInt ≠ 0
def nxq (cl sf cf ct code arg knee weight lame slope miles pt lw fd : Nat → Int32) (cm wk ld : Int32) (q a : Nat) : Nat := nxF cl sf cf ct code arg knee weight lame slope miles pt lw fd cm wk ld (nI (q / 9072)) (nI a) (tkF (nI (q % 1296)))
def ebq (cl sf cf ct code arg knee weight lame slope miles pt lw fd : Nat → Int32) (cm wk ld : Int32) (E : Nat → Int32) (pl cc : Int32) (q a : Nat) : Int32 := ebF cl sf cf ct code arg knee weight lame slope miles pt lw fd cm wk ld E pl cc (nI (q / 9072)) (nI (q / 1296 % 7)) (nI (q % 1296)) (nI a)
/-- what is reached goes on: up to a state -/
def CL (cl sf cf ct code arg knee weight lame slope miles pt lw fd : Nat → Int32) (cm wk ld : Int32) (pl : Int32) (R : Nat → Int32) (N : Int) : Prop := ∀ q : Nat, (q : Int) < N → (R q).toInt ≠ 0 → ∀ a : Nat, a < 18 → okq cl sf cf ct code arg knee weight lame slope miles pt lw fd cm wk ld pl q a → (R (nxq cl sf cf ct code arg knee weight lame slope miles pt lw fd cm wk ld q a)).toInt ≠ 0
/-- of one state: up to an action -/
def CA (cl sf cf ct code arg knee weight lame slope miles pt lw fd : Nat → Int32) (cm wk ld : Int32) (pl : Int32) (R : Nat → Int32) (q : Nat) (n : Int) : Prop := ∀ a : Nat, (a : Int) < n → okq cl sf cf ct code arg knee weight lame slope miles pt lw fd cm wk ld pl q a → (R (nxq cl sf cf ct code arg knee weight lame slope miles pt lw fd cm wk ld q a)).toInt ≠ 0
/-- an end is one by an action -/
def BE (cl sf cf ct code arg knee weight lame slope miles pt lw fd : Nat → Int32) (cm wk ld : Int32) (pl cc : Int32) (E : Nat → Int32) (q : Nat) : Prop := (E q).toInt ≠ 1000000000 → ∃ a : Nat, a < 18 ∧ ebq cl sf cf ct code arg knee weight lame slope miles pt lw fd cm wk ld E pl cc q a = E q ∧ 9072 * (q / 9072 + 1) ≤ nxq cl sf cf ct code arg knee weight lame slope miles pt lw fd cm wk ld q a
def BL (cl sf cf ct code arg knee weight lame slope miles pt lw fd : Nat → Int32) (cm wk ld : Int32) (pl cc : Int32) (R E : Nat → Int32) (P i M : Int) : Prop := ∀ q : Nat, (q : Int) < 9072 * P → (9072 * (i + 1) ≤ (q : Int) ∨ (9072 * i ≤ (q : Int) ∧ (q : Int) < M)) → (R q).toInt ≠ 0 → BE cl sf cf ct code arg knee weight lame slope miles pt lw fd cm wk ld pl cc E q
section
variable {cl sf cf ct code arg knee weight lame slope miles pt lw fd : Nat → Int32} {cm wk ld : Int32} {pl cc : Int32} {E R : Nat → Int32}
theorem q_i {q : Nat} {i b t : Int32} (h : (q : Int) = (7 * i.toInt + b.toInt) * 1296 + t.toInt) (hi : 0 ≤ i.toInt) (hb : 0 ≤ b.toInt ∧ b.toInt ≤ 6) (ht : 0 ≤ t.toInt ∧ t.toInt ≤ 1295) : nI (q / 9072) = i ∧ nI (q / 1296 % 7) = b ∧ nI (q % 1296) = t := by
  refine ⟨?_, ?_, ?_⟩
  · rw [show q / 9072 = i.toNatClampNeg from by rw [i_ix (rfl : i.toInt = i.toInt)]; omega]; exact nI_back hi
  · rw [show q / 1296 % 7 = b.toNatClampNeg from by rw [i_ix (rfl : b.toInt = b.toInt)]; omega]; exact nI_back hb.1
  · rw [show q % 1296 = t.toNatClampNeg from by rw [i_ix (rfl : t.toInt = t.toInt)]; omega]; exact nI_back ht.1
theorem ebF_may {i bf t act : Int32} (h : ¬ (mayF pl act = true)) : ebF cl sf cf ct code arg knee weight lame slope miles pt lw fd cm wk ld E pl cc i bf t act = 1000000000 := if_neg (fun z => h z.1)
theorem ebF_p {i bf t act : Int32} (h : (gP cl sf cf ct code arg knee weight lame slope miles pt lw fd cm wk ld i act (tkF t)).toInt = 0) : ebF cl sf cf ct code arg knee weight lame slope miles pt lw fd cm wk ld E pl cc i bf t act = 1000000000 := if_neg (fun z => z.2.1 h)
theorem ebF_far {i bf t act : Int32} (h : (E (nxF cl sf cf ct code arg knee weight lame slope miles pt lw fd cm wk ld i act (tkF t))).toInt = 1000000000) : ebF cl sf cf ct code arg knee weight lame slope miles pt lw fd cm wk ld E pl cc i bf t act = 1000000000 := if_neg (fun z => z.2.2 h)
theorem ebF_is {i bf t act : Int32} (h1 : mayF pl act = true) (h2 : (gP cl sf cf ct code arg knee weight lame slope miles pt lw fd cm wk ld i act (tkF t)).toInt ≠ 0) (h3 : (E (nxF cl sf cf ct code arg knee weight lame slope miles pt lw fd cm wk ld i act (tkF t))).toInt ≠ 1000000000) : ebF cl sf cf ct code arg knee weight lame slope miles pt lw fd cm wk ld E pl cc i bf t act = gMn cl sf cf ct code arg knee weight lame slope miles pt lw fd cm wk ld i act (tkF t) + (if bf.toInt = 6 ∨ bf.toInt = (act - act / 6 * 6).toInt then 0 else cc) + E (nxF cl sf cf ct code arg knee weight lame slope miles pt lw fd cm wk ld i act (tkF t)) := if_pos ⟨h1, h2, h3⟩
/-- an end that isn't far -/
theorem ebF_near {i bf t act : Int32} (h : (ebF cl sf cf ct code arg knee weight lame slope miles pt lw fd cm wk ld E pl cc i bf t act).toInt ≠ 1000000000) : mayF pl act = true ∧ (gP cl sf cf ct code arg knee weight lame slope miles pt lw fd cm wk ld i act (tkF t)).toInt ≠ 0 ∧ (E (nxF cl sf cf ct code arg knee weight lame slope miles pt lw fd cm wk ld i act (tkF t))).toInt ≠ 1000000000 := by
  refine Classical.byContradiction (fun z => h ?_)
  rw [show ebF cl sf cf ct code arg knee weight lame slope miles pt lw fd cm wk ld E pl cc i bf t act = 1000000000 from if_neg z]
  decide
theorem ebF_upd {i bf t act y : Int32} {x : Nat} (h : nxF cl sf cf ct code arg knee weight lame slope miles pt lw fd cm wk ld i act (tkF t) ≠ x) : ebF cl sf cf ct code arg knee weight lame slope miles pt lw fd cm wk ld (upd E x y) pl cc i bf t act = ebF cl sf cf ct code arg knee weight lame slope miles pt lw fd cm wk ld E pl cc i bf t act := by
  unfold ebF
  rw [upd_off _ _ h]
theorem ebq_near {q a : Nat} (h : (ebq cl sf cf ct code arg knee weight lame slope miles pt lw fd cm wk ld E pl cc q a).toInt ≠ 1000000000) : okq cl sf cf ct code arg knee weight lame slope miles pt lw fd cm wk ld pl q a ∧ (E (nxq cl sf cf ct code arg knee weight lame slope miles pt lw fd cm wk ld q a)).toInt ≠ 1000000000 := by
  have z := ebF_near h
  exact ⟨⟨z.1, z.2.1⟩, z.2.2⟩
theorem ebq_upd {q a x : Nat} {y : Int32} (h : nxq cl sf cf ct code arg knee weight lame slope miles pt lw fd cm wk ld q a ≠ x) : ebq cl sf cf ct code arg knee weight lame slope miles pt lw fd cm wk ld (upd E x y) pl cc q a = ebq cl sf cf ct code arg knee weight lame slope miles pt lw fd cm wk ld E pl cc q a := ebF_upd h
/-! the marks -/
theorem mark_keep {f g : Nat → Int32} {x k : Nat} {y : Int32} (e : g = upd f x y) (h : (f k).toInt ≠ 0) (hy : y.toInt ≠ 0) : (g k).toInt ≠ 0 := by
  subst e
  unfold upd
  split
  · exact hy
  · exact h
theorem CL_mark {N : Int} {x : Nat} {y : Int32} (h : CL cl sf cf ct code arg knee weight lame slope miles pt lw fd cm wk ld pl R N) (hx : N ≤ (x : Int)) (hy : y.toInt ≠ 0) : CL cl sf cf ct code arg knee weight lame slope miles pt lw fd cm wk ld pl (upd R x y) N := by
  intro q hq hr a ha hk
  rw [upd_off _ _ (by omega : q ≠ x)] at hr
  by_cases e : nxq cl sf cf ct code arg knee weight lame slope miles pt lw fd cm wk ld q a = x
  · rw [e, upd_at]; exact hy
  · rw [upd_off _ _ e]; exact h q hq hr a ha hk
theorem CA_mark {q x : Nat} {n : Int} {y : Int32} (h : CA cl sf cf ct code arg knee weight lame slope miles pt lw fd cm wk ld pl R q n) (hy : y.toInt ≠ 0) : CA cl sf cf ct code arg knee weight lame slope miles pt lw fd cm wk ld pl (upd R x y) q n := by
  intro a ha hk
  by_cases e : nxq cl sf cf ct code arg knee weight lame slope miles pt lw fd cm wk ld q a = x
  · rw [e, upd_at]; exact hy
  · rw [upd_off _ _ e]; exact h a ha hk
theorem CA_0 {q : Nat} : CA cl sf cf ct code arg knee weight lame slope miles pt lw fd cm wk ld pl R q 0 := fun a ha => absurd ha (by omega)
theorem CA_skip {q a : Nat} {n m : Int} (h : CA cl sf cf ct code arg knee weight lame slope miles pt lw fd cm wk ld pl R q n) (hn : n = a) (hm : m = n + 1) (hk : ¬ okq cl sf cf ct code arg knee weight lame slope miles pt lw fd cm wk ld pl q a) : CA cl sf cf ct code arg knee weight lame slope miles pt lw fd cm wk ld pl R q m := by
  intro b hb ok
  by_cases e : b = a
  · subst e; exact absurd ok hk
  · exact h b (by omega) ok
theorem CA_on {q a : Nat} {n m : Int} (h : CA cl sf cf ct code arg knee weight lame slope miles pt lw fd cm wk ld pl R q n) (hn : n = a) (hm : m = n + 1) (hk : (R (nxq cl sf cf ct code arg knee weight lame slope miles pt lw fd cm wk ld q a)).toInt ≠ 0) : CA cl sf cf ct code arg knee weight lame slope miles pt lw fd cm wk ld pl R q m := by
  intro b hb ok
  by_cases e : b = a
  · subst e; exact hk
  · exact h b (by omega) ok
theorem CL_skip {q : Nat} {N M : Int} (h : CL cl sf cf ct code arg knee weight lame slope miles pt lw fd cm wk ld pl R N) (hN : N = q) (hM : M = N + 1) (hr : (R q).toInt = 0) : CL cl sf cf ct code arg knee weight lame slope miles pt lw fd cm wk ld pl R M := by
  intro z hz h0
  by_cases e : z = q
  · subst e; exact absurd hr h0
  · exact h z (by omega) h0
theorem CL_on {q : Nat} {N M n : Int} (h : CL cl sf cf ct code arg knee weight lame slope miles pt lw fd cm wk ld pl R N) (hN : N = q) (hM : M = N + 1) (hc : CA cl sf cf ct code arg knee weight lame slope miles pt lw fd cm wk ld pl R q n) (hn : 18 ≤ n) : CL cl sf cf ct code arg knee weight lame slope miles pt lw fd cm wk ld pl R M := by
  intro z hz h0 a ha
  by_cases e : z = q
  · subst e; exact hc a (by omega)
  · exact h z (by omega) h0 a ha
theorem CL_le {N M : Int} (h : CL cl sf cf ct code arg knee weight lame slope miles pt lw fd cm wk ld pl R N) (hM : M ≤ N) : CL cl sf cf ct code arg knee weight lame slope miles pt lw fd cm wk ld pl R M := fun q hq => h q (by omega)
/-! the ends -/
theorem BL_up {P i M j N : Int} (h : BL cl sf cf ct code arg knee weight lame slope miles pt lw fd cm wk ld pl cc R E P i M) (hc : ∀ q : Int, 0 ≤ q → q < 9072 * P → (9072 * (j + 1) ≤ q ∨ (9072 * j ≤ q ∧ q < N)) → (9072 * (i + 1) ≤ q ∨ (9072 * i ≤ q ∧ q < M))) : BL cl sf cf ct code arg knee weight lame slope miles pt lw fd cm wk ld pl cc R E P j N := fun q hq hz => h q hq (hc q (by omega) hq hz)
theorem BL_upd {P i M : Int} {x : Nat} {y : Int32} (h : BL cl sf cf ct code arg knee weight lame slope miles pt lw fd cm wk ld pl cc R E P i M) (hx : M = x) (hi : 9072 * i ≤ M ∧ M < 9072 * (i + 1)) : BL cl sf cf ct code arg knee weight lame slope miles pt lw fd cm wk ld pl cc R (upd E x y) P i M := by
  intro q hq hz hr he
  have e : q ≠ x := by omega
  rw [upd_off _ _ e] at he ⊢
  obtain ⟨a, h1, h2, h3⟩ := h q hq hz hr he
  exact ⟨a, h1, by rw [ebq_upd (by omega)]; exact h2, h3⟩
theorem BL_on {P i M N : Int} {x : Nat} (h : BL cl sf cf ct code arg knee weight lame slope miles pt lw fd cm wk ld pl cc R E P i M) (hx : M = x) (hN : N = M + 1) (hb : (x : Int) < 9072 * P → (R x).toInt ≠ 0 → BE cl sf cf ct code arg knee weight lame slope miles pt lw fd cm wk ld pl cc E x) : BL cl sf cf ct code arg knee weight lame slope miles pt lw fd cm wk ld pl cc R E P i N := by
  intro q hq hz hr
  by_cases e : q = x
  · subst e; exact hb hq hr
  · exact h q hq (by omega) hr
theorem BE_upd {x : Nat} {y : Int32} (h : BE cl sf cf ct code arg knee weight lame slope miles pt lw fd cm wk ld pl cc E x) (hy : y = E x) : BE cl sf cf ct code arg knee weight lame slope miles pt lw fd cm wk ld pl cc (upd E x y) x := by
  subst hy
  rw [upd_eta]
  exact h
theorem BE_new {x a : Nat} {y : Int32} (ha : a < 18) (hy : y = ebq cl sf cf ct code arg knee weight lame slope miles pt lw fd cm wk ld E pl cc x a) (hn : y.toInt ≠ 1000000000 → 9072 * (x / 9072 + 1) ≤ nxq cl sf cf ct code arg knee weight lame slope miles pt lw fd cm wk ld x a) : BE cl sf cf ct code arg knee weight lame slope miles pt lw fd cm wk ld pl cc (upd E x y) x := by
  intro he
  rw [upd_at] at he ⊢
  have := hn he
  exact ⟨a, ha, by rw [ebq_upd (by omega), hy], this⟩
theorem BE_far {x : Nat} {y : Int32} (hy : y.toInt = 1000000000) : BE cl sf cf ct code arg knee weight lame slope miles pt lw fd cm wk ld pl cc (upd E x y) x := fun he => absurd (by rw [upd_at]; exact hy) he
end
