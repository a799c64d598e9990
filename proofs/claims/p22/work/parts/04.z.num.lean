theorem i_msk (k : Nat) {x m z : Int32} {C : Int} (e : z = x &&& m) (hm : m.toBitVec.toNat = 2 ^ k - 1) (hk : k ≤ 30) (hC : C = 2 ^ k - 1) : 0 ≤ z.toInt ∧ z.toInt ≤ C := by
  rw [e, pk_and x k hm]
  have h1 : x.toBitVec.toNat % 2 ^ k < 2 ^ k := Nat.mod_lt _ (Nat.two_pow_pos k)
  have h2 : 2 ^ k ≤ 2 ^ 30 := Nat.pow_le_pow_right (by decide) hk
  rw [nI_toInt (by omega)]
  have h3 : ((2 ^ k : Nat) : Int) = (2 : Int) ^ k := by simp
  omega
theorem i_shr (k : Nat) {x s z : Int32} {a P : Int} (e : z = x >>> (s &&& 31)) (hx : x.toInt = a) (hs : ((s &&& 31).toBitVec.smod 32).toNat = k) (hP : ((2 ^ k : Nat) : Int) = P) : z.toInt = a / P := by
  rw [e, pk_shr x (s &&& 31) k hs, hx, Int.shiftRight_eq_div_pow, hP]
theorem i_divb {x y z : Int32} {a b : Int} (e : z = x / y) (hx : x.toInt = a) (hy : y.toInt = b) (h1 : 0 ≤ a) (h2 : 0 < b) : 0 ≤ z.toInt ∧ z.toInt ≤ a := by
  rw [i_div e hx hy h1 h2]
  exact ⟨Int.ediv_nonneg h1 (by omega), Int.ediv_le_self b h1⟩
theorem i_remb {x y z : Int32} {a b hi : Int} (e : z = x - x / y * y) (hx : x.toInt = a) (hy : y.toInt = b) (h1 : 0 ≤ a) (h2 : 0 < b) (h3 : b ≤ hi + 1) : 0 ≤ z.toInt ∧ z.toInt ≤ hi := by
  rw [i_rem e hx hy h1 h2]
  have q1 := Int.emod_nonneg a (show b ≠ 0 by omega)
  have q2 := Int.emod_lt_of_pos a h2
  omega
theorem i_remc {x y z : Int32} {b : Int} {lo hi : Int} (e : z = x - x / y * y) (hy : y.toInt = b) (h2 : 0 < b ∧ lo = 1 - b ∧ hi = b - 1) : lo ≤ z.toInt ∧ z.toInt ≤ hi := by
  obtain ⟨h2, rfl, rfl⟩ := h2
  have hb1 := i_bot x
  have hb2 := i_top x
  have hy2 := i_top y
  have key : z.toInt = x.toInt.tmod b := by
    have q : (x / y).toInt = x.toInt.tdiv b := by
      rw [Int32.toInt_div, hy]
      have c1 : (x.toInt.tdiv b).natAbs ≤ x.toInt.natAbs := Int.natAbs_tdiv_le_natAbs _ _
      have c2 : x.toInt.tdiv b ≠ 2147483648 ∨ b = 1 ∧ True := by
        by_cases c : b = 1
        · exact Or.inr ⟨c, trivial⟩
        · left
          intro c3
          have c4 : b * 2147483648 ≤ x.toInt := by
            have c5 := Int.mul_tdiv_add_tmod x.toInt b
            rw [c3] at c5
            have c6 := Int.lt_tmod_of_pos x.toInt h2
            have c7 : b * 2147483648 ≥ 2 * 2147483648 := Int.mul_le_mul_of_nonneg_right (by omega) (by decide)
            have c8 := Int.tmod_lt_of_pos x.toInt h2
            omega
          have c7 : b * 2147483648 ≥ 2 * 2147483648 := Int.mul_le_mul_of_nonneg_right (by omega) (by decide)
          omega
      apply i_bm
      · omega
      · rcases c2 with c2 | ⟨c2, -⟩
        · omega
        · subst c2
          rw [Int.tdiv_one]
          omega
    have c5 := Int.mul_tdiv_add_tmod x.toInt b
    have c6 := Int.lt_tmod_of_pos x.toInt h2
    have c8 := Int.tmod_lt_of_pos x.toInt h2
    have q2 : (x / y * y).toInt = x.toInt.tdiv b * b := by
      rw [Int32.toInt_mul, q, hy]
      apply i_bm
      · rw [Int.mul_comm]
        by_cases c : 0 ≤ x.toInt
        · have := Int.tmod_nonneg b c
          have := Int.mul_nonneg (show 0 ≤ b by omega) (Int.tdiv_nonneg c (show 0 ≤ b by omega))
          omega
        · have c9 : x.toInt.tmod b ≤ 0 := by
            have c10 := Int.tmod_nonneg b (show 0 ≤ -x.toInt by omega)
            rw [Int.neg_tmod] at c10
            omega
          omega
      · rw [Int.mul_comm]
        by_cases c : 0 ≤ x.toInt
        · have := Int.tmod_nonneg b c
          omega
        · have c9 : x.toInt.tmod b ≤ 0 := by
            have c10 := Int.tmod_nonneg b (show 0 ≤ -x.toInt by omega)
            rw [Int.neg_tmod] at c10
            omega
          have c11 : x.toInt.tdiv b ≤ 0 := by
            have c12 := Int.tdiv_nonneg (show 0 ≤ -x.toInt by omega) (show 0 ≤ b by omega)
            rw [Int.neg_tdiv] at c12
            omega
          have := Int.mul_nonneg (show 0 ≤ b by omega) (show 0 ≤ -(x.toInt.tdiv b) by omega)
          rw [Int.mul_neg] at this
          omega
    rw [e, Int32.toInt_sub, q2, show x.toInt - x.toInt.tdiv b * b = x.toInt.tmod b by rw [Int.mul_comm]; omega]
    exact i_bm (by omega) (by omega)
  have c6 := Int.lt_tmod_of_pos x.toInt h2
  have c8 := Int.tmod_lt_of_pos x.toInt h2
  omega
def six : Nat → Int32
  | 0 => 1
  | 1 => 6
  | 2 => 36
  | 3 => 216
  | 4 => 1296
  | _ => 7776
def sixF : Nat → Value := fun j => .int (six j)
def NS (tS : Nat) : va_W → State → Prop := fun w U => NSx 0 tS sixF 82 65 yX9_digit w U ∧ va_Nw (.fieldLinkNest RX1 105 "SlowPace" "SIXES" "[I" "SlowPace") U ∧ va_Nw (.fieldLinkNest RX7 135 "SlowPace" "SIXES" "[I" "SlowPace") U
theorem NS_ok {tS : Nat} : NOK (NS tS) := ⟨fun w U g mk a h => ⟨NSx_ok.1 w U g mk a h.1, va_Nw.same (U := U.calling g mk a) rfl rfl h.2.1, va_Nw.same (U := U.calling g mk a) rfl rfl h.2.2⟩, fun w0 w s U h hW hq hA => ⟨NSx_ok.2 w0 w s U h.1 hW hq hA, va_Nw.warmF hW h.2.1, va_Nw.warmF hW h.2.2⟩⟩
theorem six_is {y i : Int32} {a : Int} (e : y = six i.toNatClampNeg) (h : 0 ≤ a ∧ a < 6) (hi : i.toInt = a) : (a = 0 ∧ y.toInt = 1) ∨ (a = 1 ∧ y.toInt = 6) ∨ (a = 2 ∧ y.toInt = 36) ∨ (a = 3 ∧ y.toInt = 216) ∨ (a = 4 ∧ y.toInt = 1296) ∨ (a = 5 ∧ y.toInt = 7776) := by
  rw [i_ix hi] at e
  subst e
  rcases (show a = 0 ∨ a = 1 ∨ a = 2 ∨ a = 3 ∨ a = 4 ∨ a = 5 by omega) with rfl | rfl | rfl | rfl | rfl | rfl <;> decide
theorem lk_neg {a o d k off : Int} {l : List (Int × Int)} (h : a ≠ k) (t : Op.lookupswitch.offset l d k = off) : Op.lookupswitch.offset ((a, o) :: l) d k = off := by
  rw [Op.lookupswitch.offset_cons, if_neg h]
  exact t
section GIN
variable {l : Launch} {y : MethodName} {cc : ByteArray} {n : Nat} {rt : FieldType} {d : Nat} {av : List Value} {D : va_G} {cy : Nat → ClassId} {w : va_W} {N : va_W → State → Prop} {sz : Nat}
theorem gMi_in {S : Type} {post : Int32 → S → Prop} {w' : S → va_W} (hy : plainName y.cls = true) (hn : (lg_sl av).length ≤ n)
    (body : ∀ (p : Program) (e : Env) (s : State) (m : MethodId) (args : Array Value) (below : List Frame) (meth : Method) (c : Code) (A : Nat → Prop) (ls : Array Slot) (Q : State → Prop),
      p.tables.exec = Jvm.exec → c.code = cc → c.maxLocals = n → (∀ w ∈ wsL_law, w.before args s = true) → s.vm.findClass y.cls = some m.cls →
      s.heap.size = sz → va_P D vwCl w s.heap → va_K D vwCl (tyL cy) s → va_D A w → N w s → A = va_A w s.heap.size → (∀ q : Nat, s.heap.size ≤ q → A q) → va_S A s.heap s.heap [] → lv_has ls n (lv_args 0 av) →
      (∀ (v : Int32) (u : S) {H : Heap} {locs : List Loc} {pc : Nat} {ls : Array Slot}, post v u → va_P D vwCl (w' u) H → va_D A (w' u) → va_S A s.heap H locs → narrow rt (.int v) = .int v → decode cc pc = .ok (.ireturn, 1) →
        W p l e (gRm d) s m args below meth c H locs 0 0 Q (F0 m pc ls [.int v])) →
      W p l e (gRm d) s m args below meth c s.heap [] 0 0 Q (F0 m 0 ls [])) : gMi l y cc n rt d av D cy w N sz post w' :=
  gMi_of hy hn (fun p e s m below meth c A ls Q => body p e s m av.toArray below meth c A ls Q)
theorem gMv_in {S : Type} {post : S → Prop} {w' : S → va_W} (hy : plainName y.cls = true) (hn : (lg_sl av).length ≤ n)
    (body : ∀ (p : Program) (e : Env) (s : State) (m : MethodId) (args : Array Value) (below : List Frame) (meth : Method) (c : Code) (A : Nat → Prop) (ls : Array Slot) (Q : State → Prop),
      p.tables.exec = Jvm.exec → c.code = cc → c.maxLocals = n → (∀ w ∈ wsL_law, w.before args s = true) → s.vm.findClass y.cls = some m.cls →
      s.heap.size = sz → va_P D vwCl w s.heap → va_K D vwCl (tyL cy) s → va_D A w → N w s → A = va_A w s.heap.size → (∀ q : Nat, s.heap.size ≤ q → A q) → va_S A s.heap s.heap [] → lv_has ls n (lv_args 0 av) →
      (∀ (u : S) {H : Heap} {locs : List Loc} {pc : Nat} {ls : Array Slot}, post u → va_P D vwCl (w' u) H → va_D A (w' u) → va_S A s.heap H locs → decode cc pc = .ok (.return_, 1) →
        W p l e (gRm d) s m args below meth c H locs 0 0 Q (F0 m pc ls [])) →
      W p l e (gRm d) s m args below meth c s.heap [] 0 0 Q (F0 m 0 ls [])) : gMv l y cc n d av D cy w N sz post w' :=
  gMv_of hy hn (fun p e s m below meth c A ls Q => body p e s m av.toArray below meth c A ls Q)
end GIN
