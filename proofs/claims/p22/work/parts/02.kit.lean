/-! contracts of whole worlds: a side of the law (the class's object, the reference) is one world, every method of the side has it all -/
def rg (lo hi : Int) (f : Nat → Int32) : Prop := ∀ j, lo ≤ (f j).toInt ∧ (f j).toInt ≤ hi
theorem rg_upd {lo hi : Int} {f : Nat → Int32} {k : Nat} {x : Int32} (h : rg lo hi f) (hx : lo ≤ x.toInt ∧ x.toInt ≤ hi) : rg lo hi (upd f k x) := by
  intro j
  unfold upd
  split
  · exact hx
  · exact h j
theorem rg_0 {lo hi : Int} (h : lo ≤ 0 ∧ 0 ≤ hi) : rg lo hi (fun _ => 0) := fun _ => h
theorem rg_c {lo hi : Int} {x : Int32} (h : lo ≤ x.toInt ∧ x.toInt ≤ hi) : rg lo hi (fun _ => x) := fun _ => h
def rg2 (lo hi : Int) (F : Nat → Nat → Int32) : Prop := ∀ i, rg lo hi (F i)
def upd2 (F : Nat → Nat → Int32) (i j : Nat) (x : Int32) : Nat → Nat → Int32 := fun i' => if i' = i then upd (F i) j x else F i'
theorem rg2_upd {lo hi : Int} {F : Nat → Nat → Int32} {i j : Nat} {x : Int32} (h : rg2 lo hi F) (hx : lo ≤ x.toInt ∧ x.toInt ≤ hi) : rg2 lo hi (upd2 F i j x) := by
  intro a
  unfold upd2
  split
  · exact rg_upd (h i) hx
  · exact h a
theorem nar_byte (x : Int32) : -128 ≤ (vp_nar .byte x).toInt ∧ (vp_nar .byte x).toInt ≤ 127 := by
  have e : vp_nar .byte x = x.toInt8.toInt32 := rfl
  rw [e, Int8.toInt_toInt32]
  have h1 := Int8.toInt_le x.toInt8
  have h2 := Int8.le_toInt x.toInt8
  have e1 : Int8.maxValue.toInt = 127 := by decide
  have e2 : Int8.minValue.toInt = -128 := by decide
  omega
theorem nar_bool {x : Int32} (h : 0 ≤ x.toInt ∧ x.toInt ≤ 1) : vp_nar .boolean x = x := vnar_b (i_01 (by omega))
theorem i_01' {v : Int32} (h : 0 ≤ v.toInt ∧ v.toInt ≤ 1) : v = 0 ∨ v = 1 := i_01 (by omega)
theorem mul_bd {a b A B : Int} (h1 : 0 ≤ a) (h2 : a ≤ A) (h3 : 0 ≤ b) (h4 : b ≤ B) : 0 ≤ a * b ∧ a * b ≤ A * B :=
  ⟨Int.mul_nonneg h1 h3, Int.mul_le_mul h2 h4 h3 (by omega)⟩
abbrev tyL (cy : Nat → ClassId) : List (ClassId × FieldType) := [(cy 0, .int), (cy 1, .long), (cy 2, .boolean), (cy 3, .byte), (cy 4, .array .int)]
theorem gi_all : GoodIn wsL_law wsL_law := goodIn_sub (fun _ h => h) (by decide +kernel)
theorem gi_cons' {big ws : List Cond} {w : Cond} (h : w ∈ big) (hg : goodWord w = true) (ht : GoodIn big ws) : GoodIn big (w :: ws) := fun v hv => (List.mem_cons.mp hv).elim (fun e => e ▸ ⟨h, good_of_word hg⟩) (ht v)
theorem gi_V {own C : String} {idx n : Nat} {y : MethodName} {cc : ByteArray} {ret : Option FieldType} (h1 : Cond.methodLink own idx y ∈ wsL_law) (h2 : Cond.instanceMethod y ∈ wsL_law) (h3 : Cond.selects C y y ∈ wsL_law) (h4 : Cond.initialized C ∈ wsL_law) (h5 : Cond.code y cc n ret ∈ wsL_law) : GoodIn wsL_law (wsV own idx C y (.code y cc n ret :: wsL_law)) :=
  gi_cons' h1 rfl (gi_cons' h2 rfl (gi_cons' h3 rfl (gi_cons' h4 rfl (gi_cons' h5 rfl gi_all))))
theorem gi_S {own : String} {idx n : Nat} {y : MethodName} {cc : ByteArray} {ret : Option FieldType} (h1 : Cond.methodLink own idx y ∈ wsL_law) (h2 : Cond.static y ∈ wsL_law) (h4 : Cond.initialized y.cls ∈ wsL_law) (h5 : Cond.code y cc n ret ∈ wsL_law) : GoodIn wsL_law (va_wsS own idx y (.code y cc n ret :: wsL_law)) :=
  gi_cons' h1 rfl (gi_cons' h2 rfl (gi_cons' h4 rfl (gi_cons' h5 rfl gi_all)))
abbrev gRm (d : Nat) : Room := { frames := d, cells := 0, slots := 0, locals := 100 * d }
def gPre (av : List Value) (D : va_G) (cy : Nat → ClassId) (w : va_W) (N : va_W → State → Prop) (sz : Nat) : Array Value → State → Prop :=
  va_Pc av (fun U => U.heap.size = sz ∧ va_P D vwCl w U.heap ∧ va_K D vwCl (tyL cy) U ∧ va_D (fun _ => True) w ∧ N w U)
def gB {S : Type} (D : va_G) (cy : Nat → ClassId) (w : va_W) (w' : S → va_W) (sz : Nat) : S → State → Prop := fun u t => va_P D vwCl (w' u) t.heap ∧ va_K D vwCl (tyL cy) t ∧ va_D (va_A w sz) (w' u)
abbrev gM (l : Launch) (y : MethodName) (cc : ByteArray) (n : Nat) (ret : Option FieldType) (d : Nat) (av : List Value) (D : va_G) (cy : Nat → ClassId) (w : va_W) (N : va_W → State → Prop) (sz : Nat) (Qc : Array Value → State → Outcome → State → Prop) : Prop :=
  Met l y (.code y cc n ret :: wsL_law) (gRm d) (gPre av D cy w N sz) Qc 0 0 (va_A w sz)
def gMi {S : Type} (l : Launch) (y : MethodName) (cc : ByteArray) (n : Nat) (rt : FieldType) (d : Nat) (av : List Value) (D : va_G) (cy : Nat → ClassId) (w : va_W) (N : va_W → State → Prop) (sz : Nat) (post : Int32 → S → Prop) (w' : S → va_W) : Prop :=
  gM l y cc n (some rt) d av D cy w N sz (va_Qi post (gB D cy w w' sz) (va_A w sz))
def gMv {S : Type} (l : Launch) (y : MethodName) (cc : ByteArray) (n : Nat) (d : Nat) (av : List Value) (D : va_G) (cy : Nat → ClassId) (w : va_W) (N : va_W → State → Prop) (sz : Nat) (post : S → Prop) (w' : S → va_W) : Prop :=
  gM l y cc n none d av D cy w N sz (va_Qv post (gB D cy w w' sz) (va_A w sz))
/-- what goes with a world into every call: it is blind for the frame, and moves -/
def NOK (N : va_W → State → Prop) : Prop := (∀ (w : va_W) (U : State) (g : JFrame) (mk : MethodId) (a : Array Value), N w U → N w (U.calling g mk a)) ∧
  ∀ (w0 w : va_W) (s U : State), N w0 s → s.WarmedH U.vm → (∀ q : Nat, q < s.heap.size → ¬ va_A w0 s.heap.size q → U.heap[q]? = s.heap[q]?) → (∀ q, va_A w U.heap.size q → va_A w0 s.heap.size q) → N w U
def NT : va_W → State → Prop := fun _ _ => True
theorem NT_ok : NOK NT := ⟨fun _ _ _ _ _ h => h, fun _ _ _ _ _ _ _ _ => trivial⟩
def NSx (x : Int32) (tS : Nat) (f : Nat → Value) (i1 i2 : Nat) (y : MethodName) : va_W → State → Prop := fun w U => va_Nw (.methodLinkNest RX3 i1 y "SlowPace") U ∧ va_Nw (.methodLinkNest RX4 i2 y "SlowPace") U ∧ va_Z "SlowPace" "SIXES" "[I" (.ref tS) (va_A w U.heap.size) U U.heap ∧ va_T .int tS 6 f (va_A w U.heap.size) U U.heap
theorem NSx_ok {x : Int32} {tS : Nat} {f : Nat → Value} {i1 i2 : Nat} {y : MethodName} : NOK (NSx x tS f i1 i2 y) := by
  refine ⟨fun w U g mk a h => ?_, fun w0 w s U h hW hq hA => ?_⟩
  · obtain ⟨h1, h2, h3, h4⟩ := h
    exact ⟨va_Nw.same (U := U.calling g mk a) rfl rfl h1, va_Nw.same (U := U.calling g mk a) rfl rfl h2, va_Z.moved (u := U) (U := U.calling g mk a) (Vm.Alike.refl U.vm) h3, va_T.moved (u := U) (U := U.calling g mk a) (Vm.Alike.refl U.vm) h4⟩
  · obtain ⟨h1, h2, h3, h4⟩ := h
    refine ⟨va_Nw.warmM hW h1, va_Nw.warmM hW h2, ?_, ?_⟩
    · exact va_Z.moved hW.alike ((va_Z.kept h3 (fun a h g => hq a h g)).narrow hA)
    · exact va_T.moved hW.alike ((va_T.kept h4 (fun a h g => hq a h g)).narrow hA)
section GE
variable {l : Launch} {y : MethodName} {cc : ByteArray} {n : Nat} {rt : FieldType} {d : Nat} {av : List Value} {D : va_G} {cy : Nat → ClassId} {w : va_W} {N : va_W → State → Prop} {sz : Nat}
theorem gMi_of {S : Type} {post : Int32 → S → Prop} {w' : S → va_W} (hy : plainName y.cls = true) (hn : (lg_sl av).length ≤ n)
    (body : ∀ (p : Program) (e : Env) (s : State) (m : MethodId) (below : List Frame) (meth : Method) (c : Code) (A : Nat → Prop) (ls : Array Slot) (Q : State → Prop),
      p.tables.exec = Jvm.exec → c.code = cc → c.maxLocals = n → (∀ w ∈ wsL_law, w.before av.toArray s = true) → s.vm.findClass y.cls = some m.cls →
      s.heap.size = sz → va_P D vwCl w s.heap → va_K D vwCl (tyL cy) s → va_D A w → N w s → A = va_A w s.heap.size → (∀ q : Nat, s.heap.size ≤ q → A q) → va_S A s.heap s.heap [] → lv_has ls n (lv_args 0 av) →
      (∀ (v : Int32) (u : S) {H : Heap} {locs : List Loc} {pc : Nat} {ls : Array Slot}, post v u → va_P D vwCl (w' u) H → va_D A (w' u) → va_S A s.heap H locs → narrow rt (.int v) = .int v → decode cc pc = .ok (.ireturn, 1) →
        W p l e (gRm d) s m av.toArray below meth c H locs 0 0 Q (F0 m pc ls [.int v])) →
      W p l e (gRm d) s m av.toArray below meth c s.heap [] 0 0 Q (F0 m 0 ls [])) : gMi l y cc n rt d av D cy w N sz post w' := by
  refine Met.ofW (cc := cc) (maxL := n) (ret := some rt) hy rfl ?_
  intro p e s m args below meth c s₁ B hml hv
  obtain ⟨rfl, hsz, hP, hK, hD0, hN⟩ := hv
  have hts := atoms_spec (ws := .code y cc n (some rt) :: wsL_law) B.pre
  have hlk := B.notSynchronized
  rw [lg_entry_eq]
  subst hsz
  refine body p e s m below meth c (va_A w s.heap.size) _ _ B.exec B.bytes hml (fun w h => hts w (List.mem_cons_of_mem _ h)) (findClass_of_methodNamed B.named) rfl hP hK (hD0.self) hN rfl (fun q h => Or.inr h) va_S.rf (lv_entry av hn) ?_
  intro v u H locs pc ls hp hP1 hD1 hS1 hn1 hdg
  exact W.zret (v := v) B.exec B.bytes B.returns hn1 (fun t ht hW => ⟨⟨v, u, rfl, hp, by rw [ht]; exact hP1, va_K.moved hW.alike hK, hD1⟩, hS1.F ht⟩) hS1.2.2 hdg hlk
theorem gMv_of {S : Type} {post : S → Prop} {w' : S → va_W} (hy : plainName y.cls = true) (hn : (lg_sl av).length ≤ n)
    (body : ∀ (p : Program) (e : Env) (s : State) (m : MethodId) (below : List Frame) (meth : Method) (c : Code) (A : Nat → Prop) (ls : Array Slot) (Q : State → Prop),
      p.tables.exec = Jvm.exec → c.code = cc → c.maxLocals = n → (∀ w ∈ wsL_law, w.before av.toArray s = true) → s.vm.findClass y.cls = some m.cls →
      s.heap.size = sz → va_P D vwCl w s.heap → va_K D vwCl (tyL cy) s → va_D A w → N w s → A = va_A w s.heap.size → (∀ q : Nat, s.heap.size ≤ q → A q) → va_S A s.heap s.heap [] → lv_has ls n (lv_args 0 av) →
      (∀ (u : S) {H : Heap} {locs : List Loc} {pc : Nat} {ls : Array Slot}, post u → va_P D vwCl (w' u) H → va_D A (w' u) → va_S A s.heap H locs → decode cc pc = .ok (.return_, 1) →
        W p l e (gRm d) s m av.toArray below meth c H locs 0 0 Q (F0 m pc ls [])) →
      W p l e (gRm d) s m av.toArray below meth c s.heap [] 0 0 Q (F0 m 0 ls [])) : gMv l y cc n d av D cy w N sz post w' := by
  refine Met.ofW (cc := cc) (maxL := n) (ret := none) hy rfl ?_
  intro p e s m args below meth c s₁ B hml hv
  obtain ⟨rfl, hsz, hP, hK, hD0, hN⟩ := hv
  have hts := atoms_spec (ws := .code y cc n none :: wsL_law) B.pre
  have hlk := B.notSynchronized
  rw [lg_entry_eq]
  subst hsz
  refine body p e s m below meth c (va_A w s.heap.size) _ _ B.exec B.bytes hml (fun w h => hts w (List.mem_cons_of_mem _ h)) (findClass_of_methodNamed B.named) rfl hP hK (hD0.self) hN rfl (fun q h => Or.inr h) va_S.rf (lv_entry av hn) ?_
  intro u H locs pc ls hp hP1 hD1 hS1 hdg
  exact W.vret B.exec B.bytes B.returns (fun t ht hW => ⟨⟨u, rfl, hp, by rw [ht]; exact hP1, va_K.moved hW.alike hK, hD1⟩, hS1.F ht⟩) hS1.2.2 hdg hlk
end GE
theorem gF {A : Nat → Prop} {w : va_W} {H0 H : Heap} {locs : List Loc} (hD : va_D A w) (hS : va_S A H0 H locs) (hA : ∀ q : Nat, H0.size ≤ q → A q) : ∀ q, va_A w H.size q → A q := fun q h => h.elim (fun ⟨k, e, h⟩ => hD.2 k (q, e) h) (fun h => hA q (Nat.le_trans hS.1 h))
section GC
variable {p : Program} {l : Launch} {e : Env} {R : Room} {s : State} {m : MethodId} {args : Array Value} {below : List Frame} {meth : Method} {c : Code} {H : Heap} {locs : List Loc} {cells slots : Nat} {Q : State → Prop}
variable {cc : ByteArray} {pc nL : Nat} {ls : Array Slot} {rest st : List Value} {D : va_G} {cy : Nat → ClassId} {A : Nat → Prop} {a : Nat} {w w0 : va_W} {own C : String} {N : va_W → State → Prop}
variable {y : MethodName} {c2 : ByteArray} {n2 d idx : Nat} {ret : Option FieldType} {rt : FieldType} {As : List Value} {Qc : Array Value → State → Outcome → State → Prop}
theorem gBlind {av : List Value} {sz : Nat} (hNc : NOK N) : FrameBlind (gPre av D cy w N sz) := by
  intro b U g mk q
  obtain ⟨q0, q1, qP, qK, qD, qN⟩ := q
  exact ⟨q0, q1, qP, va_K.moved (u := U) (U := U.calling g mk b) (Vm.Alike.refl U.vm) qK, qD, hNc.1 w U g mk b qN⟩
theorem gGoes {av : List Value} (hK : va_K D vwCl (tyL cy) s) (hP : va_P D vwCl w H) (hD : va_D A w) (hS : va_S A s.heap H locs) (hA : ∀ q : Nat, s.heap.size ≤ q → A q) (hNc : NOK N) (hN : N w0 s) (hAe : A = va_A w0 s.heap.size) : ∀ U : State, U.heap = H → s.WarmedH U.vm → gPre av D cy w N H.size av.toArray U := by
  intro U hU hW
  refine ⟨rfl, by rw [hU], by rw [hU]; exact hP, va_K.moved hW.alike hK, hD.weaken (fun _ _ _ _ => trivial), hNc.2 w0 w s U hN hW (fun q h1 h2 => ?_) (fun q h => ?_)⟩
  · rw [hU]
    exact hS.2.1 q h1 (by rw [hAe]; exact h2)
  · rw [hU] at h
    rw [← hAe]
    exact gF hD hS hA q h
theorem xV (hx : p.tables.exec = Jvm.exec) (hb : c.code = cc) (hml : c.maxLocals = nL) (hown : s.vm.findClass own = some m.cls) (hts : ∀ w ∈ wsL_law, w.before args s = true) (hK : va_K D vwCl (tyL cy) s) (hP : va_P D vwCl w H) (hD : va_D A w) (hS : va_S A s.heap H locs) (hA : ∀ q : Nat, s.heap.size ≤ q → A q) (hNc : NOK N) (hN : N w0 s) (hAe : A = va_A w0 s.heap.size)
    (hsize : ls.size = nL) (hf : cells + 0 ≤ R.cells ∧ slots + 0 ≤ R.slots) (q0 : Nat) {ci : Nat} {fs : List Value} {q : vw_C} (he : w[q0]? = some (a, .inr (ci, fs))) (hc : vwCl[ci]? = some q) (hq : q.1 = C)
    (hM : gM l y c2 n2 ret d (.ref a :: As) D cy w N H.size Qc) (hG : GoodIn wsL_law (wsV own idx C y (.code y c2 n2 ret :: wsL_law)))
    (hd : y.cls = C ∧ y.cls ≠ "java/lang/invoke/MethodHandle" ∧ y.cls ≠ "java/lang/invoke/VarHandle" ∧ (parseMethodDescriptor y.desc).map (fun d => d.parameters.length) = some As.length) (hR : d + 1 ≤ R.frames ∧ 8 + (n2 + 11) + 100 * d ≤ R.locals)
    (hst : st = As.reverse ++ .ref a :: rest) (hW : (rest.map fun v => v.category).sum ≤ 8) (hdg : decode cc pc = .ok (.invokevirtual idx, 3)) :
    va_Run p l e R s m args below meth c H locs cells slots 0 0 (F0 m pc ls st) rest (Qc (Value.ref a :: As).toArray) (va_A w H.size) := by
  subst hq
  exact va_runV ⟨hx, hb, hml, hown, hts⟩ hM (cwV As.length hts hG rfl rfl rfl hd hR) ⟨gBlind hNc, va_recv hK hP hc he, gGoes hK hP hD hS hA hNc hN hAe⟩ rfl rfl hsize hst (lv_room hW) hdg hf
theorem xS (hx : p.tables.exec = Jvm.exec) (hb : c.code = cc) (hml : c.maxLocals = nL) (hown : s.vm.findClass own = some m.cls) (hts : ∀ w ∈ wsL_law, w.before args s = true) (hK : va_K D vwCl (tyL cy) s) (hP : va_P D vwCl w H) (hD : va_D A w) (hS : va_S A s.heap H locs) (hA : ∀ q : Nat, s.heap.size ≤ q → A q) (hNc : NOK N) (hN : N w0 s) (hAe : A = va_A w0 s.heap.size)
    (hsize : ls.size = nL) (hf : cells + 0 ≤ R.cells ∧ slots + 0 ≤ R.slots)
    (hM : gM l y c2 n2 ret d As D cy w N H.size Qc) (hG : GoodIn wsL_law (va_wsS own idx y (.code y c2 n2 ret :: wsL_law)))
    (hd : y.cls ≠ "java/lang/invoke/MethodHandle" ∧ y.cls ≠ "java/lang/invoke/VarHandle" ∧ (parseMethodDescriptor y.desc).map (fun d => d.parameters.length) = some As.length) (hR : d + 1 ≤ R.frames ∧ 8 + (n2 + 11) + 100 * d ≤ R.locals)
    (hst : st = As.reverse ++ rest) (hW : (rest.map fun v => v.category).sum ≤ 8) (hdg : decode cc pc = .ok (.invokestatic idx, 3)) :
    va_Run p l e R s m args below meth c H locs cells slots 0 0 (F0 m pc ls st) rest (Qc As.toArray) (va_A w H.size) := by
  exact va_runS ⟨hx, hb, hml, hown, hts⟩ hM (va_cwS As.length hts hG rfl rfl rfl hd hR) ⟨gBlind hNc, gGoes hK hP hD hS hA hNc hN hAe⟩ rfl rfl hsize hst (lv_room hW) hdg hf
theorem xSN (hx : p.tables.exec = Jvm.exec) (hb : c.code = cc) (hml : c.maxLocals = nL) (hown : s.vm.findClass own = some m.cls) (hts : ∀ w ∈ wsL_law, w.before args s = true) (hK : va_K D vwCl (tyL cy) s) (hP : va_P D vwCl w H) (hD : va_D A w) (hS : va_S A s.heap H locs) (hA : ∀ q : Nat, s.heap.size ≤ q → A q) (hNc : NOK N) (hN : N w0 s) (hAe : A = va_A w0 s.heap.size)
    (hsize : ls.size = nL) (hf : cells + 0 ≤ R.cells ∧ slots + 0 ≤ R.slots)
    (hM : gM l y c2 n2 ret d As D cy w N H.size Qc) {host : String} (hNW : va_Nw (.methodLinkNest own idx y host) s) (h2 : Cond.static y ∈ wsL_law) (h4 : Cond.initialized y.cls ∈ wsL_law) (h5 : Cond.code y c2 n2 ret ∈ wsL_law)
    (hd : y.cls ≠ "java/lang/invoke/MethodHandle" ∧ y.cls ≠ "java/lang/invoke/VarHandle" ∧ (parseMethodDescriptor y.desc).map (fun d => d.parameters.length) = some As.length) (hR : d + 1 ≤ R.frames ∧ 8 + (n2 + 11) + 100 * d ≤ R.locals)
    (hst : st = As.reverse ++ rest) (hW : (rest.map fun v => v.category).sum ≤ 8) (hdg : decode cc pc = .ok (.invokestatic idx, 3)) :
    va_Run p l e R s m args below meth c H locs cells slots 0 0 (F0 m pc ls st) rest (Qc As.toArray) (va_A w H.size) := by
  exact va_runSN ⟨hx, hb, hml, hown, hts⟩ hM ⟨va_cnB As.length hts (gi_cons' h5 rfl gi_all) rfl rfl rfl hNW (hts _ h4) hd hR, hts _ h2, trivial⟩ ⟨gBlind hNc, gGoes hK hP hD hS hA hNc hN hAe⟩ rfl rfl hsize hst (lv_room hW) hdg hf
theorem xi {S : Type} {post : Int32 → S → Prop} {w' : S → va_W} {av : Array Value} (hD : va_D A w) (hS : va_S A s.heap H locs) (hA : ∀ q : Nat, s.heap.size ≤ q → A q)
    (hr : va_Run p l e R s m args below meth c H locs cells slots 0 0 (F0 m pc ls st) rest (va_Qi post (gB D cy w w' H.size) (va_A w H.size) av) (va_A w H.size))
    (kk : ∀ (r : Int32) (u : S) (H1 : Heap) (locs1 : List Loc), post r u → va_P D vwCl (w' u) H1 → va_D A (w' u) → va_S A s.heap H1 locs1 → W p l e R s m args below meth c H1 locs1 cells slots Q (F0 m (pc + 3) ls (.int r :: rest))) : W p l e R s m args below meth c H locs cells slots Q (F0 m pc ls st) := by
  have hF := gF hD hS hA
  refine va_calli hr hS (fun q _ h => hF q h) hF (fun r u t H1 locs1 ht hvm hp hB hz hk hS1 => ?_)
  obtain ⟨b1, b2, b3⟩ := hB
  rw [ht] at b1
  exact kk r u H1 locs1 hp b1 (b3.weaken (fun _ q _ h => hF q.1 h)) hS1
theorem xv {S : Type} {post : S → Prop} {w' : S → va_W} {av : Array Value} (hD : va_D A w) (hS : va_S A s.heap H locs) (hA : ∀ q : Nat, s.heap.size ≤ q → A q)
    (hr : va_Run p l e R s m args below meth c H locs cells slots 0 0 (F0 m pc ls st) rest (va_Qv post (gB D cy w w' H.size) (va_A w H.size) av) (va_A w H.size))
    (kk : ∀ (u : S) (H1 : Heap) (locs1 : List Loc), post u → va_P D vwCl (w' u) H1 → va_D A (w' u) → va_S A s.heap H1 locs1 → W p l e R s m args below meth c H1 locs1 cells slots Q (F0 m (pc + 3) ls rest)) : W p l e R s m args below meth c H locs cells slots Q (F0 m pc ls st) := by
  have hF := gF hD hS hA
  refine va_callv hr hS (fun q _ h => hF q h) hF (fun u t H1 locs1 ht hvm hp hB hz hk hS1 => ?_)
  obtain ⟨b1, b2, b3⟩ := hB
  rw [ht] at b1
  exact kk u H1 locs1 hp b1 (b3.weaken (fun _ q _ h => hF q.1 h)) hS1
end GC
/-! decode rows, a method at once -/
def decAll (c : ByteArray) (l : List (Nat × Instr × Nat)) : Bool := l.all fun q => match decode c q.1 with | .ok x => decide (x = q.2) | .error _ => false
theorem decAll_at {c : ByteArray} {l : List (Nat × Instr × Nat)} (h : decAll c l = true) (i : Nat) {pc : Nat} {x : Instr × Nat} (hi : l[i]? = some (pc, x)) : decode c pc = .ok x := by
  have h1 := List.all_eq_true.mp h _ (List.mem_of_getElem? hi)
  dsimp only at h1
  cases hd : decode c pc with
  | error e => rw [hd] at h1; cases h1
  | ok z =>
    rw [hd] at h1
    rw [of_decide_eq_true h1]
