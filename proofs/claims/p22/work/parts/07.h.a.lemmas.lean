/-! the tapes of both sides: bytes as they come, plans and marches by them -/
def u8 (x k : Int32) : Int32 := (x.toUInt32 >>> (k.toUInt32 &&& Int32.toUInt32 31)).toInt32 &&& 255
def s8 (x k : Int32) : Int32 := (x >>> (k &&& 31)).toInt8.toInt32
def ap4 (f : Nat → Int32) (n : Nat) (x : Int32) : Nat → Int32 := upd (upd (upd (upd f n (u8 x 24)) (n + 1) (u8 x 16)) (n + 2) (u8 x 8)) (n + 3) (u8 x 0)
def ps4 (f : Nat → Int32) (n : Nat) (x : Int32) : Nat → Int32 := upd (upd (upd (upd f n (s8 x 24)) (n + 1) (s8 x 16)) (n + 2) (s8 x 8)) (n + 3) (s8 x 0)
/-- a byte of the class beside one of the reference -/
def bt (y z : Int32) : Prop := y.toInt = z.toInt ∨ y.toInt = z.toInt + 256
def BR (f g : Nat → Int32) (n : Int) : Prop := ∀ j : Nat, (j : Int) < n → bt (f j) (g j)
theorem nar_s8 (x k : Int32) : vp_nar .byte (s8 x k) = s8 x k := by
  show (s8 x k).toInt8.toInt32 = s8 x k
  unfold s8
  rw [Int8.toInt8_toInt32]
theorem s8_int (x : Int32) (y : Int32) (k : Int32) (h : y = x >>> (k &&& 31)) : (s8 x k).toInt = y.toInt.bmod 256 := by
  unfold s8
  rw [← h]
  exact (Int8.toInt_toInt32 _).trans (Int32.toInt_toInt8 _)
theorem u8_int (x k : Int32) (n : Nat) (h : ((x.toUInt32 >>> (k.toUInt32 &&& Int32.toUInt32 31)).toInt32).toBitVec.toNat = x.toBitVec.toNat / 2 ^ n) : (u8 x k).toInt = ((x.toBitVec.toNat / 2 ^ n % 256 : Nat) : Int) := by
  unfold u8
  have e := pk_and ((x.toUInt32 >>> (k.toUInt32 &&& Int32.toUInt32 31)).toInt32) (m := 255) 8 (by decide)
  rw [e, h, nI_toInt (by omega)]
theorem x_int (x : Int32) : (0 ≤ x.toInt ∧ (x.toBitVec.toNat : Int) = x.toInt) ∨ (x.toInt < 0 ∧ (x.toBitVec.toNat : Int) = x.toInt + 4294967296) := by
  have h : x.toInt = x.toBitVec.toInt := rfl
  have h2 := BitVec.toInt_eq_toNat_cond x.toBitVec
  have h3 := x.toBitVec.isLt
  rw [h, h2]
  split <;> omega
theorem bm256 (a : Int) : (a.bmod 256 = a % 256 ∧ a % 256 < 128) ∨ (a.bmod 256 = a % 256 - 256 ∧ 128 ≤ a % 256) := by
  unfold Int.bmod
  simp only [show ((256 : Nat) : Int) = 256 from rfl]
  by_cases q : a % 256 < (256 + 1) / 2
  · rw [if_pos q]; left; exact ⟨rfl, by omega⟩
  · rw [if_neg q]; right; exact ⟨rfl, by omega⟩
theorem ush (x k : Int32) (n : Nat) (h : (k.toUInt32 &&& Int32.toUInt32 31).toNat % 32 = n) : ((x.toUInt32 >>> (k.toUInt32 &&& Int32.toUInt32 31)).toInt32).toBitVec.toNat = x.toBitVec.toNat / 2 ^ n := by
  have e : ((x.toUInt32 >>> (k.toUInt32 &&& Int32.toUInt32 31)).toInt32).toBitVec.toNat = (x.toUInt32 >>> (k.toUInt32 &&& Int32.toUInt32 31)).toNat := rfl
  rw [e, UInt32.toNat_shiftRight, h, Nat.shiftRight_eq_div_pow]
  rfl
theorem bt8 (x k : Int32) (n : Nat) (P : Int) (hu : (k.toUInt32 &&& Int32.toUInt32 31).toNat % 32 = n) (hs : ((k &&& 31).toBitVec.smod 32).toNat = n) (hP : ((2 ^ n : Nat) : Int) = P) (hn : (n = 24 ∧ P = 16777216) ∨ (n = 16 ∧ P = 65536) ∨ (n = 8 ∧ P = 256) ∨ (n = 0 ∧ P = 1)) : bt (u8 x k) (s8 x k) := by
  have e1 := u8_int x k n (ush x k n hu)
  have e2 := s8_int x _ k rfl
  have e3 : (x >>> (k &&& 31)).toInt = x.toInt / P := i_shr n rfl rfl hs hP
  rw [e3] at e2
  have e4 := x_int x
  have e5 := bm256 (x.toInt / P)
  have h3 := x.toBitVec.isLt
  have h4 := i_bot x
  have h5 := i_top x
  unfold bt
  rcases hn with ⟨rfl, rfl⟩ | ⟨rfl, rfl⟩ | ⟨rfl, rfl⟩ | ⟨rfl, rfl⟩
  · simp only [show (2 : Nat) ^ 24 = 16777216 from by decide] at e1; omega
  · simp only [show (2 : Nat) ^ 16 = 65536 from by decide] at e1; omega
  · simp only [show (2 : Nat) ^ 8 = 256 from by decide] at e1; omega
  · simp only [show (2 : Nat) ^ 0 = 1 from by decide] at e1; omega
theorem BR_up {f g : Nat → Int32} {n : Nat} {y z : Int32} (h : BR f g n) (hb : bt y z) : BR (upd f n y) (upd g n z) ((n + 1 : Nat) : Int) := by
  intro j hj
  by_cases q : j = n
  · rw [q, upd_at, upd_at]; exact hb
  · rw [upd_off _ _ q, upd_off _ _ q]; exact h j (by omega)
theorem BR_4 {f g : Nat → Int32} {n : Nat} {x : Int32} (h : BR f g n) : BR (ap4 f n x) (ps4 g n x) ((n + 4 : Nat) : Int) :=
  BR_up (BR_up (BR_up (BR_up h (bt8 x 24 24 _ (by decide) (by decide) rfl (by decide))) (bt8 x 16 16 _ (by decide) (by decide) rfl (by decide))) (bt8 x 8 8 _ (by decide) (by decide) rfl (by decide))) (bt8 x 0 0 _ (by decide) (by decide) rfl (by decide))
theorem BR_20 {f g : Nat → Int32} {n : Nat} {a b c d e : Int32} (h : BR f g n) : BR (ap4 (ap4 (ap4 (ap4 (ap4 f n a) (n + 4) b) (n + 8) c) (n + 12) d) (n + 16) e) (ps4 (ps4 (ps4 (ps4 (ps4 g n a) (n + 4) b) (n + 8) c) (n + 12) d) (n + 16) e) ((n + 20 : Nat) : Int) := BR_4 (BR_4 (BR_4 (BR_4 (BR_4 h))))
/-! plans and marches -/
abbrev pgood (W : Int32) (own tape : Nat → Int32) (j : Nat) : Prop := (0 ≤ (tape j).toInt ∧ (tape j).toInt < W.toInt) ∧ ((own j).toInt = -1 ∨ (tape j).toInt = (own j).toInt)
def pall (W : Int32) (own tape : Nat → Int32) (n : Int) : Prop := ∀ j : Nat, (j : Int) < n → pgood W own tape j
abbrev mgood (pl : Int32) (tape : Nat → Int32) (j : Nat) : Prop := (0 ≤ (tape j).toInt ∧ (tape j).toInt ≤ 17) ∧ (pl >>> ((tape j - tape j / 6 * 6) &&& 31)) &&& 1 = 1
def mall (pl : Int32) (tape : Nat → Int32) (n : Int) : Prop := ∀ j : Nat, (j : Int) < n → mgood pl tape j
theorem pall_eq {W W' : Int32} {o o' f g : Nat → Int32} {n : Int} (hW : W.toInt = W'.toInt) (hW6 : W.toInt ≤ 6) (ho : ∀ j : Nat, (j : Int) < n → (o j).toInt = (o' j).toInt) (hb : BR f g n) (hf : rg 0 255 f) (hg : rg (-128) 127 g) : pall W o f n ↔ pall W' o' g n := by
  have key : ∀ j : Nat, (j : Int) < n → (pgood W o f j ↔ pgood W' o' g j) := by
    intro j hj
    have h1 := ho j hj
    have h2 := hb j hj
    have h3 := hf j
    have h4 := hg j
    unfold bt at h2
    unfold pgood
    constructor <;> (rintro ⟨⟨a1, a2⟩, a3⟩; refine ⟨⟨?_, ?_⟩, ?_⟩ <;> omega)
  exact ⟨fun h j hj => (key j hj).mp (h j hj), fun h j hj => (key j hj).mpr (h j hj)⟩
theorem mall_eq {pl : Int32} {f g : Nat → Int32} {n : Int} (hb : BR f g n) (hf : rg 0 255 f) (hg : rg (-128) 127 g) : mall pl f n ↔ mall pl g n := by
  have key : ∀ j : Nat, (j : Int) < n → (mgood pl f j ↔ mgood pl g j) := by
    intro j hj
    have h2 := hb j hj
    have h3 := hf j
    have h4 := hg j
    unfold bt at h2
    unfold mgood
    by_cases q : 0 ≤ (g j).toInt
    · rw [show f j = g j from i_same (by omega)]
    · exact ⟨fun z => absurd z.1 (by omega), fun z => absurd z.1 (by omega)⟩
  exact ⟨fun h j hj => (key j hj).mp (h j hj), fun h j hj => (key j hj).mpr (h j hj)⟩
theorem pall_step {W : Int32} {own t : Nat → Int32} {n m : Int} {x : Nat} (h : pall W own t n) (hn : n = x) (hm : m = n + 1) (hg : pgood W own t x) : pall W own t m := by
  intro j hj
  by_cases q : j = x
  · rw [q]; exact hg
  · exact h j (by omega)
theorem mall_step {pl : Int32} {t : Nat → Int32} {n m : Int} {x : Nat} (h : mall pl t n) (hn : n = x) (hm : m = n + 1) (hg : mgood pl t x) : mall pl t m := by
  intro j hj
  by_cases q : j = x
  · rw [q]; exact hg
  · exact h j (by omega)
theorem plan_rel {C1 C2 P1 P2 : Prop} {r1 r2 z1 z2 z1' z2' m1 m2 m1' m2' : Int} {t1 t2 t1' t2' b : Int32}
    (h1 : (¬ C1 ∧ r1 = 0 ∧ z1' = z1 ∧ t1' = t1 ∧ m1' = m1) ∨ (C1 ∧ z1' = 0 ∧ ((r1 = 1 ∧ P1 ∧ t1' = t1 ||| b ∧ m1' = 0) ∨ (r1 = 0 ∧ ¬ P1 ∧ t1' = t1 ∧ m1' = m1))))
    (h2 : (¬ C2 ∧ r2 = 0 ∧ z2' = z2 ∧ t2' = t2 ∧ m2' = m2) ∨ (C2 ∧ z2' = 0 ∧ ((r2 = 1 ∧ P2 ∧ t2' = t2 ||| b ∧ m2' = 0) ∨ (r2 = 0 ∧ ¬ P2 ∧ t2' = t2 ∧ m2' = m2))))
    (hC : C1 ↔ C2) (hP : C1 → (P1 ↔ P2)) (hz : z1 = z2) (ht : t1 = t2) (hm : m1 = m2) : r1 = r2 ∧ z1' = z2' ∧ t1' = t2' ∧ m1' = m2' ∧ (z1' = 0 ∨ z1' = z1) := by
  subst ht
  rcases h1 with ⟨c1, a1, a2, a3, a4⟩ | ⟨c1, a2, ⟨a1, p1, a3, a4⟩ | ⟨a1, p1, a3, a4⟩⟩ <;> rcases h2 with ⟨c2, b1, b2, b3, b4⟩ | ⟨c2, b2, ⟨b1, p2, b3, b4⟩ | ⟨b1, p2, b3, b4⟩⟩ <;>
    first
    | exact absurd (hC.mp c1) c2
    | exact absurd (hC.mpr c2) c1
    | exact absurd ((hP c1).mp p1) p2
    | exact absurd ((hP c1).mpr p2) p1
    | exact ⟨by omega, by omega, a3.trans b3.symm, by omega, by omega⟩
theorem march_rel {C1 C2 P1 P2 : Prop} {r1 r2 z1 z2 z1' z2' m1 m2 m1' m2' : Int}
    (h1 : (¬ C1 ∧ r1 = 0 ∧ z1' = z1 ∧ m1' = m1) ∨ (C1 ∧ z1' = 0 ∧ ((r1 = 1 ∧ P1 ∧ m1' = 1) ∨ (r1 = 0 ∧ ¬ P1 ∧ m1' = m1))))
    (h2 : (¬ C2 ∧ r2 = 0 ∧ z2' = z2 ∧ m2' = m2) ∨ (C2 ∧ z2' = 0 ∧ ((r2 = 1 ∧ P2 ∧ m2' = 1) ∨ (r2 = 0 ∧ ¬ P2 ∧ m2' = m2))))
    (hC : C1 ↔ C2) (hP : C1 → (P1 ↔ P2)) (hz : z1 = z2) (hm : m1 = m2) : r1 = r2 ∧ z1' = z2' ∧ m1' = m2' ∧ (z1' = 0 ∨ z1' = z1) := by
  rcases h1 with ⟨c1, a1, a2, a4⟩ | ⟨c1, a2, ⟨a1, p1, a4⟩ | ⟨a1, p1, a4⟩⟩ <;> rcases h2 with ⟨c2, b1, b2, b4⟩ | ⟨c2, b2, ⟨b1, p2, b4⟩ | ⟨b1, p2, b4⟩⟩ <;>
    first
    | exact absurd (hC.mp c1) c2
    | exact absurd (hC.mpr c2) c1
    | exact absurd ((hP c1).mp p1) p2
    | exact absurd ((hP c1).mpr p2) p1
    | exact ⟨by omega, by omega, by omega, by omega⟩
