section ZLAYER
/-- the tables' knowledge: the classes, the classes of arrays, the nest links -/
abbrev zG : Type := va_G × (Nat → ClassId)
def zK (G : zG) (U : State) : Prop := va_K G.1 vwCl (zTy G.2) U ∧ ∀ w ∈ zNest, va_Nw w U
theorem zK.same {G : zG} {u U : State} (h : u.vm = U.vm) (k : zK G u) : zK G U :=
  ⟨va_K.moved (by rw [← h]; exact Vm.Alike.refl _) k.1, fun w hw => va_Nw.same (zNest_tab w hw) h (k.2 w hw)⟩
theorem zK.warm {G : zG} {u U : State} (hW : u.WarmedH U.vm) (k : zK G u) : zK G U :=
  ⟨va_K.moved hW.alike k.1, fun w hw => by
    obtain ⟨a, i, x, h, rfl⟩ := zNest_form w hw
    exact va_Nw.warmM hW (k.2 _ hw)⟩
/-- what a walk knows of its machine -/
def zC (p : Program) (s : State) (m : MethodId) (args : Array Value) (meth : Method) (c : Code) (cc : ByteArray) (nL : Nat) (own : String) (G : zG) (A : Nat → Prop) : Prop :=
  p.tables.exec = Jvm.exec ∧ c.code = cc ∧ c.maxLocals = nL ∧ s.vm.findClass own = some m.cls ∧ (∀ w ∈ zTs, w.before args s = true) ∧ zK G s ∧ (∀ q : Nat, s.heap.size ≤ q → A q)
/-- the machine at pc, with locals lv, stack st, in a world w, comes to a state with Q -/
def zV (p : Program) (l : Launch) (e : Env) (R : Room) (s : State) (m : MethodId) (args : Array Value) (below : List Frame) (meth : Method) (c : Code) (nL : Nat) (G : zG) (A : Nat → Prop) (Q : State → Prop) (k n : Nat) (w : va_W) (pc : Nat) (lv : List (Nat × Value)) (st : List Value) : Prop :=
  ∀ (H : Heap) (locs : List Loc) (ls : Array Slot), va_P G.1 vwCl w H → va_D A w → va_S A s.heap H locs → lv_has ls nL lv → W p l e R s m args below meth c H locs k n Q (F0 m pc ls st)
/-- a contract: with av in the world w the method returns, and Post holds of its answer and its world -/
def zPre (G : zG) (av : List Value) (w : va_W) (sz : Nat) : Array Value → State → Prop := va_Pc av (fun U => U.heap.size = sz ∧ zK G U ∧ va_P G.1 vwCl w U.heap ∧ va_D (fun _ => True) w)
def zQ (G : zG) (w : va_W) (sz : Nat) (Post : Option Value → va_W → Prop) : Array Value → State → Outcome → State → Prop := fun _ st oc t =>
  (∃ (r : Option Value) (w' : va_W), oc = .returned r ∧ Post r w' ∧ va_P G.1 vwCl w' t.heap ∧ va_D (va_A w sz) w') ∧ va_F (va_A w sz) st t
def zW (y : MethodName) (b : ByteArray) (mL : Nat) (ret : Option FieldType) : List Cond := Cond.code y b mL ret :: zTs
def zM (G : zG) (l : Launch) (y : MethodName) (b : ByteArray) (mL : Nat) (ret : Option FieldType) (rm : Room) (av : List Value) (w : va_W) (Post : Option Value → va_W → Prop) : Prop :=
  ∀ sz : Nat, Met l y (zW y b mL ret) rm (zPre G av w sz) (zQ G w sz Post) rm.cells rm.slots (va_A w sz)
/-- a contract with one answer and one world -/
abbrev zF (G : zG) (l : Launch) (y : MethodName) (b : ByteArray) (mL : Nat) (ret : Option FieldType) (rm : Room) (av : List Value) (w : va_W) (r : Option Value) (w' : va_W) : Prop :=
  zM G l y b mL ret rm av w (fun r1 w1 => r1 = r ∧ w1 = w')
abbrev zR (d lo : Nat) : Room := { frames := d, cells := 0, slots := 0, locals := lo }
abbrev zRn (d lo mc ms : Nat) : Room := { frames := d, cells := mc, slots := ms, locals := lo }
theorem zGood {y : MethodName} {b : ByteArray} {mL : Nat} {ret : Option FieldType} (h : Cond.code y b mL ret ∈ zTs) : GoodIn zTs (zW y b mL ret) := fun w hw => by
  rcases List.mem_cons.mp hw with e | e
  · subst e; exact ⟨h, zTs_good _ h⟩
  · exact ⟨e, zTs_good _ e⟩
def zget (i : Nat) : List (Nat × Value) → Option Value
  | [] => none
  | q :: t => bif Nat.beq q.1 i then some q.2 else zget i t
theorem zget_mem {i : Nat} {v : Value} : ∀ {lv : List (Nat × Value)}, zget i lv = some v → (i, v) ∈ lv
  | [], h => by cases h
  | q :: t, h => by
    unfold zget at h
    cases hb : Nat.beq q.1 i with
    | true =>
      rw [hb] at h
      have e1 : q.1 = i := Nat.eq_of_beq_eq_true hb
      have e2 : q.2 = v := Option.some.inj h
      rw [← e1, ← e2]
      exact List.mem_cons_self
    | false =>
      rw [hb] at h
      exact List.mem_cons_of_mem _ (zget_mem h)
theorem zget_has {ls : Array Slot} {nL i : Nat} {v : Value} {lv : List (Nat × Value)} (h : lv_has ls nL lv) (hg : zget i lv = some v) : ls[i]? = some (.val v) := h.2.2 (i, v) (zget_mem hg)
theorem z_fm {α : Type} {is : List Nat} {w w' : List α} (h : is.map (fun i => w[i]?) = w'.map some) : is.filterMap (fun i => w[i]?) = w' := by
  induction is generalizing w' with
  | nil => cases w' with
    | nil => rfl
    | cons a t => cases h
  | cons i t ih => cases w' with
    | nil => cases h
    | cons a t' =>
      rw [List.map_cons, List.map_cons] at h
      injection h with h1 h2
      rw [List.filterMap_cons, h1, ih h2]
variable {p : Program} {l : Launch} {e : Env} {R : Room} {s : State} {m : MethodId} {args : Array Value} {below : List Frame} {meth : Method} {c : Code} {Q : State → Prop} {cc : ByteArray} {nL : Nat} {own : String} {G : zG} {A : Nat → Prop} {k n : Nat} {w : va_W} {pc : Nat} {lv : List (Nat × Value)} {st : List Value}
theorem zM_of {y : MethodName} {b : ByteArray} {mL : Nat} {ret : Option FieldType} {rm : Room} {av : List Value} {Post : Option Value → va_W → Prop} (hy : plainName y.cls = true) (hn : (lg_sl av).length ≤ mL)
    (body : ∀ (p : Program) (e : Env) (s : State) (m : MethodId) (args : Array Value) (below : List Frame) (meth : Method) (c : Code), zC p s m args meth c b mL y.cls G (va_A w s.heap.size) → meth.locks = false → meth.sig.returnType = ret → meth.name = y.name →
      zV p l e rm s m args below meth c mL G (va_A w s.heap.size) (MQ below (zQ G w s.heap.size Post) args s rm.cells rm.slots (va_A w s.heap.size)) 0 0 w 0 (lv_args 0 av) []) : zM G l y b mL ret rm av w Post := by
  intro sz
  refine Met.ofW (cc := b) (maxL := mL) (ret := ret) hy rfl ?_
  intro p e s m args below meth c s₁ B hml hv
  obtain ⟨rfl, hsz, hK, hP, hD0⟩ := hv
  subst hsz
  have hts := atoms_spec (ws := zW y b mL ret) B.pre
  have hD := hD0.self (sz := s.heap.size)
  have hl := lv_entry av (n := mL) hn
  rw [lg_entry_eq]
  exact body p e s m _ below meth c ⟨B.exec, B.bytes, hml, findClass_of_methodNamed B.named, fun w hw => hts w (List.mem_cons_of_mem _ hw), hK, fun q h => Or.inr h⟩ B.notSynchronized B.returns (name_of_methodNamed B.named B.method).1 s.heap [] _ hP hD va_S.rf hl
theorem z_iconst (C : zC p s m args meth c cc nL own G A) {i : Int} (v : Int32) (pc' : Nat) (hd : decode cc pc = .ok (.iconst i, 1)) (hp : pc + 1 = pc') (hv : Int32.ofInt i = v) (K : zV p l e R s m args below meth c nL G A Q k n w pc' lv (.int v :: st)) : zV p l e R s m args below meth c nL G A Q k n w pc lv (st) := by
  subst hp
  intro H locs ls hP hD hS hl
  exact lv_iconst C.1 C.2.1 hd hv (K H locs ls hP hD hS hl)
theorem z_bipush (C : zC p s m args meth c cc nL own G A) {i : Int} (v : Int32) (pc' : Nat) (hd : decode cc pc = .ok (.bipush i, 2)) (hp : pc + 2 = pc') (hv : (Int8.ofInt i).toInt32 = v) (K : zV p l e R s m args below meth c nL G A Q k n w pc' lv (.int v :: st)) : zV p l e R s m args below meth c nL G A Q k n w pc lv (st) := by
  subst hp
  intro H locs ls hP hD hS hl
  exact lv_bipush C.1 C.2.1 hd hv (K H locs ls hP hD hS hl)
theorem z_sipush (C : zC p s m args meth c cc nL own G A) {i : Int} (v : Int32) (pc' : Nat) (hd : decode cc pc = .ok (.sipush i, 3)) (hp : pc + 3 = pc') (hv : (Int16.ofInt i).toInt32 = v) (K : zV p l e R s m args below meth c nL G A Q k n w pc' lv (.int v :: st)) : zV p l e R s m args below meth c nL G A Q k n w pc lv (st) := by
  subst hp
  intro H locs ls hP hD hS hl
  exact lv_sipush C.1 C.2.1 hd hv (K H locs ls hP hD hS hl)
theorem z_lconst (C : zC p s m args meth c cc nL own G A) {i : Fin 2} (v : Int64) (pc' : Nat) (hd : decode cc pc = .ok (.lconst i, 1)) (hp : pc + 1 = pc') (hv : Int64.ofNat (i : Nat) = v) (K : zV p l e R s m args below meth c nL G A Q k n w pc' lv (.long v :: st)) : zV p l e R s m args below meth c nL G A Q k n w pc lv (st) := by
  subst hp
  intro H locs ls hP hD hS hl
  exact lv_lconst C.1 C.2.1 hd hv (K H locs ls hP hD hS hl)
theorem z_ldc (C : zC p s m args meth c cc nL own G A) {i : Nat} (v : Int32) (pc' : Nat) (hd : decode cc pc = .ok (.ldc i, 2)) (hp : pc + 2 = pc') (hv : Cond.constant own i v ∈ zTs) (K : zV p l e R s m args below meth c nL G A Q k n w pc' lv (.int v :: st)) : zV p l e R s m args below meth c nL G A Q k n w pc lv (st) := by
  subst hp
  intro H locs ls hP hD hS hl
  exact lv_ldc C.1 C.2.1 C.2.2.2.1 (C.2.2.2.2.1 _ hv) hd (K H locs ls hP hD hS hl)
theorem z_ldcw (C : zC p s m args meth c cc nL own G A) {i : Nat} (v : Int32) (pc' : Nat) (hd : decode cc pc = .ok (.ldc_w i, 3)) (hp : pc + 3 = pc') (hv : Cond.constant own i v ∈ zTs) (K : zV p l e R s m args below meth c nL G A Q k n w pc' lv (.int v :: st)) : zV p l e R s m args below meth c nL G A Q k n w pc lv (st) := by
  subst hp
  intro H locs ls hP hD hS hl
  exact lv_ldcw C.1 C.2.1 C.2.2.2.1 (C.2.2.2.2.1 _ hv) hd (K H locs ls hP hD hS hl)
theorem z_ldc2 (C : zC p s m args meth c cc nL own G A) {i : Nat} (v : Int64) (pc' : Nat) (hd : decode cc pc = .ok (.ldc2_w i, 3)) (hp : pc + 3 = pc') (hv : Cond.constantLong own i v ∈ zTs) (K : zV p l e R s m args below meth c nL G A Q k n w pc' lv (.long v :: st)) : zV p l e R s m args below meth c nL G A Q k n w pc lv (st) := by
  subst hp
  intro H locs ls hP hD hS hl
  exact lv_ldc2 C.1 C.2.1 C.2.2.2.1 (C.2.2.2.2.1 _ hv) hd (K H locs ls hP hD hS hl)
theorem z_iload_n (C : zC p s m args meth c cc nL own G A) {j : Fin 4} {x : Int32} (pc' : Nat) (hd : decode cc pc = .ok (.iload_n j, 1)) (hp : pc + 1 = pc') (hv : zget (j : Nat) lv = some (.int x)) (K : zV p l e R s m args below meth c nL G A Q k n w pc' lv (.int x :: st)) : zV p l e R s m args below meth c nL G A Q k n w pc lv (st) := by
  subst hp
  intro H locs ls hP hD hS hl
  exact lv_iload_n C.1 C.2.1 hd rfl (zget_has hl hv) (K H locs ls hP hD hS hl)
theorem z_iload (C : zC p s m args meth c cc nL own G A) {j : Nat} {x : Int32} (pc' : Nat) (hd : decode cc pc = .ok (.iload j, 2)) (hp : pc + 2 = pc') (hv : zget j lv = some (.int x)) (K : zV p l e R s m args below meth c nL G A Q k n w pc' lv (.int x :: st)) : zV p l e R s m args below meth c nL G A Q k n w pc lv (st) := by
  subst hp
  intro H locs ls hP hD hS hl
  exact lv_iload C.1 C.2.1 hd (zget_has hl hv) (K H locs ls hP hD hS hl)
theorem z_lload_n (C : zC p s m args meth c cc nL own G A) {j : Fin 4} {x : Int64} (pc' : Nat) (hd : decode cc pc = .ok (.lload_n j, 1)) (hp : pc + 1 = pc') (hv : zget (j : Nat) lv = some (.long x)) (K : zV p l e R s m args below meth c nL G A Q k n w pc' lv (.long x :: st)) : zV p l e R s m args below meth c nL G A Q k n w pc lv (st) := by
  subst hp
  intro H locs ls hP hD hS hl
  exact lv_lload_n C.1 C.2.1 hd rfl (zget_has hl hv) (K H locs ls hP hD hS hl)
theorem z_lload (C : zC p s m args meth c cc nL own G A) {j : Nat} {x : Int64} (pc' : Nat) (hd : decode cc pc = .ok (.lload j, 2)) (hp : pc + 2 = pc') (hv : zget j lv = some (.long x)) (K : zV p l e R s m args below meth c nL G A Q k n w pc' lv (.long x :: st)) : zV p l e R s m args below meth c nL G A Q k n w pc lv (st) := by
  subst hp
  intro H locs ls hP hD hS hl
  exact lv_lload C.1 C.2.1 hd (zget_has hl hv) (K H locs ls hP hD hS hl)
theorem z_aload_n (C : zC p s m args meth c cc nL own G A) {j : Fin 4} {x : Nat} (pc' : Nat) (hd : decode cc pc = .ok (.aload_n j, 1)) (hp : pc + 1 = pc') (hv : zget (j : Nat) lv = some (.ref x)) (K : zV p l e R s m args below meth c nL G A Q k n w pc' lv (.ref x :: st)) : zV p l e R s m args below meth c nL G A Q k n w pc lv (st) := by
  subst hp
  intro H locs ls hP hD hS hl
  exact lv_aload_n C.1 C.2.1 hd rfl (zget_has hl hv) (K H locs ls hP hD hS hl)
theorem z_aload (C : zC p s m args meth c cc nL own G A) {j : Nat} {x : Nat} (pc' : Nat) (hd : decode cc pc = .ok (.aload j, 2)) (hp : pc + 2 = pc') (hv : zget j lv = some (.ref x)) (K : zV p l e R s m args below meth c nL G A Q k n w pc' lv (.ref x :: st)) : zV p l e R s m args below meth c nL G A Q k n w pc lv (st) := by
  subst hp
  intro H locs ls hP hD hS hl
  exact lv_aload C.1 C.2.1 hd (zget_has hl hv) (K H locs ls hP hD hS hl)
theorem z_istore_n (C : zC p s m args meth c cc nL own G A) {j : Fin 4} {x : Int32} (lv' : List (Nat × Value)) (pc' : Nat) (hd : decode cc pc = .ok (.istore_n j, 1)) (hp : pc + 1 = pc') (hb : (j : Nat) < nL) (hv : ((j : Nat), Value.int x) :: lv.filter (fun q => !(q.1 == (j : Nat)) && !(q.1 + 1 == (j : Nat) && q.2.category == 2)) = lv') (K : zV p l e R s m args below meth c nL G A Q k n w pc' lv' st) : zV p l e R s m args below meth c nL G A Q k n w pc lv (.int x :: st) := by
  subst hp
  intro H locs ls hP hD hS hl
  exact lv_istore_n C.1 C.2.1 hd rfl hl hb hv (fun ls' hl' => K H locs ls' hP hD hS hl')
theorem z_istore (C : zC p s m args meth c cc nL own G A) {j : Nat} {x : Int32} (lv' : List (Nat × Value)) (pc' : Nat) (hd : decode cc pc = .ok (.istore j, 2)) (hp : pc + 2 = pc') (hb : j < nL) (hv : (j, Value.int x) :: lv.filter (fun q => !(q.1 == j) && !(q.1 + 1 == j && q.2.category == 2)) = lv') (K : zV p l e R s m args below meth c nL G A Q k n w pc' lv' st) : zV p l e R s m args below meth c nL G A Q k n w pc lv (.int x :: st) := by
  subst hp
  intro H locs ls hP hD hS hl
  exact lv_istore C.1 C.2.1 hd hl hb hv (fun ls' hl' => K H locs ls' hP hD hS hl')
theorem z_lstore_n (C : zC p s m args meth c cc nL own G A) {j : Fin 4} {x : Int64} (lv' : List (Nat × Value)) (pc' : Nat) (hd : decode cc pc = .ok (.lstore_n j, 1)) (hp : pc + 1 = pc') (hb : (j : Nat) + 1 < nL) (hv : ((j : Nat), Value.long x) :: lv.filter (fun q => !(q.1 == (j : Nat)) && (!(q.1 == (j : Nat) + 1) && !(q.1 + 1 == (j : Nat) && q.2.category == 2))) = lv') (K : zV p l e R s m args below meth c nL G A Q k n w pc' lv' st) : zV p l e R s m args below meth c nL G A Q k n w pc lv (.long x :: st) := by
  subst hp
  intro H locs ls hP hD hS hl
  exact lv_lstore_n C.1 C.2.1 hd rfl hl hb hv (fun ls' hl' => K H locs ls' hP hD hS hl')
theorem z_lstore (C : zC p s m args meth c cc nL own G A) {j : Nat} {x : Int64} (lv' : List (Nat × Value)) (pc' : Nat) (hd : decode cc pc = .ok (.lstore j, 2)) (hp : pc + 2 = pc') (hb : j + 1 < nL) (hv : (j, Value.long x) :: lv.filter (fun q => !(q.1 == j) && (!(q.1 == j + 1) && !(q.1 + 1 == j && q.2.category == 2))) = lv') (K : zV p l e R s m args below meth c nL G A Q k n w pc' lv' st) : zV p l e R s m args below meth c nL G A Q k n w pc lv (.long x :: st) := by
  subst hp
  intro H locs ls hP hD hS hl
  exact lv_lstore C.1 C.2.1 hd hl hb hv (fun ls' hl' => K H locs ls' hP hD hS hl')
theorem z_astore_n (C : zC p s m args meth c cc nL own G A) {j : Fin 4} {x : Nat} (lv' : List (Nat × Value)) (pc' : Nat) (hd : decode cc pc = .ok (.astore_n j, 1)) (hp : pc + 1 = pc') (hb : (j : Nat) < nL) (hv : ((j : Nat), Value.ref x) :: lv.filter (fun q => !(q.1 == (j : Nat)) && !(q.1 + 1 == (j : Nat) && q.2.category == 2)) = lv') (K : zV p l e R s m args below meth c nL G A Q k n w pc' lv' st) : zV p l e R s m args below meth c nL G A Q k n w pc lv (.ref x :: st) := by
  subst hp
  intro H locs ls hP hD hS hl
  exact lv_astore_n C.1 C.2.1 hd rfl hl hb hv (fun ls' hl' => K H locs ls' hP hD hS hl')
theorem z_astore (C : zC p s m args meth c cc nL own G A) {j : Nat} {x : Nat} (lv' : List (Nat × Value)) (pc' : Nat) (hd : decode cc pc = .ok (.astore j, 2)) (hp : pc + 2 = pc') (hb : j < nL) (hv : (j, Value.ref x) :: lv.filter (fun q => !(q.1 == j) && !(q.1 + 1 == j && q.2.category == 2)) = lv') (K : zV p l e R s m args below meth c nL G A Q k n w pc' lv' st) : zV p l e R s m args below meth c nL G A Q k n w pc lv (.ref x :: st) := by
  subst hp
  intro H locs ls hP hD hS hl
  exact lv_astore C.1 C.2.1 hd hl hb hv (fun ls' hl' => K H locs ls' hP hD hS hl')
theorem z_iinc (C : zC p s m args meth c cc nL own G A) {j : Nat} {i : Int} {x : Int32} (v : Int32) (lv' : List (Nat × Value)) (pc' : Nat) (hd : decode cc pc = .ok (.iinc j i, 3)) (hp : pc + 3 = pc') (hb : j < nL) (hx : zget j lv = some (.int x)) (hy : x + Int32.ofInt i = v) (hv : (j, Value.int v) :: lv.filter (fun q => !(q.1 == j) && !(q.1 + 1 == j && q.2.category == 2)) = lv') (K : zV p l e R s m args below meth c nL G A Q k n w pc' lv' st) : zV p l e R s m args below meth c nL G A Q k n w pc lv st := by
  subst hp
  intro H locs ls hP hD hS hl
  obtain ⟨j1, hj1⟩ := List.getElem?_of_mem (zget_mem hx)
  exact lv_iinc C.1 C.2.1 hd hl (k := j1) hj1 hy hb hv (fun ls' hl' => K H locs ls' hP hD hS hl')
theorem z_iadd (C : zC p s m args meth c cc nL own G A) {x y : Int32} (pc' : Nat) (hd : decode cc pc = .ok (.iadd, 1)) (hp : pc + 1 = pc')  (K : zV p l e R s m args below meth c nL G A Q k n w pc' lv (.int (x + y) :: st)) : zV p l e R s m args below meth c nL G A Q k n w pc lv (.int y :: .int x :: st) := by
  subst hp
  intro H locs ls hP hD hS hl
  exact lv_iadd C.1 C.2.1 hd (K H locs ls hP hD hS hl)
theorem z_isub (C : zC p s m args meth c cc nL own G A) {x y : Int32} (pc' : Nat) (hd : decode cc pc = .ok (.isub, 1)) (hp : pc + 1 = pc')  (K : zV p l e R s m args below meth c nL G A Q k n w pc' lv (.int (x - y) :: st)) : zV p l e R s m args below meth c nL G A Q k n w pc lv (.int y :: .int x :: st) := by
  subst hp
  intro H locs ls hP hD hS hl
  exact lv_isub C.1 C.2.1 hd (K H locs ls hP hD hS hl)
theorem z_imul (C : zC p s m args meth c cc nL own G A) {x y : Int32} (pc' : Nat) (hd : decode cc pc = .ok (.imul, 1)) (hp : pc + 1 = pc')  (K : zV p l e R s m args below meth c nL G A Q k n w pc' lv (.int (x * y) :: st)) : zV p l e R s m args below meth c nL G A Q k n w pc lv (.int y :: .int x :: st) := by
  subst hp
  intro H locs ls hP hD hS hl
  exact lv_imul C.1 C.2.1 hd (K H locs ls hP hD hS hl)
theorem z_iand (C : zC p s m args meth c cc nL own G A) {x y : Int32} (pc' : Nat) (hd : decode cc pc = .ok (.iand, 1)) (hp : pc + 1 = pc')  (K : zV p l e R s m args below meth c nL G A Q k n w pc' lv (.int (x &&& y) :: st)) : zV p l e R s m args below meth c nL G A Q k n w pc lv (.int y :: .int x :: st) := by
  subst hp
  intro H locs ls hP hD hS hl
  exact lv_iand C.1 C.2.1 hd (K H locs ls hP hD hS hl)
theorem z_ior (C : zC p s m args meth c cc nL own G A) {x y : Int32} (pc' : Nat) (hd : decode cc pc = .ok (.ior, 1)) (hp : pc + 1 = pc')  (K : zV p l e R s m args below meth c nL G A Q k n w pc' lv (.int (x ||| y) :: st)) : zV p l e R s m args below meth c nL G A Q k n w pc lv (.int y :: .int x :: st) := by
  subst hp
  intro H locs ls hP hD hS hl
  exact lv_ior C.1 C.2.1 hd (K H locs ls hP hD hS hl)
theorem z_ixor (C : zC p s m args meth c cc nL own G A) {x y : Int32} (pc' : Nat) (hd : decode cc pc = .ok (.ixor, 1)) (hp : pc + 1 = pc')  (K : zV p l e R s m args below meth c nL G A Q k n w pc' lv (.int (x ^^^ y) :: st)) : zV p l e R s m args below meth c nL G A Q k n w pc lv (.int y :: .int x :: st) := by
  subst hp
  intro H locs ls hP hD hS hl
  exact lv_ixor C.1 C.2.1 hd (K H locs ls hP hD hS hl)
theorem z_ishl (C : zC p s m args meth c cc nL own G A) {x y : Int32} (pc' : Nat) (hd : decode cc pc = .ok (.ishl, 1)) (hp : pc + 1 = pc')  (K : zV p l e R s m args below meth c nL G A Q k n w pc' lv (.int (x <<< (y &&& 31)) :: st)) : zV p l e R s m args below meth c nL G A Q k n w pc lv (.int y :: .int x :: st) := by
  subst hp
  intro H locs ls hP hD hS hl
  exact lv_ishl C.1 C.2.1 hd (K H locs ls hP hD hS hl)
theorem z_ishr (C : zC p s m args meth c cc nL own G A) {x y : Int32} (pc' : Nat) (hd : decode cc pc = .ok (.ishr, 1)) (hp : pc + 1 = pc')  (K : zV p l e R s m args below meth c nL G A Q k n w pc' lv (.int (x >>> (y &&& 31)) :: st)) : zV p l e R s m args below meth c nL G A Q k n w pc lv (.int y :: .int x :: st) := by
  subst hp
  intro H locs ls hP hD hS hl
  exact lv_ishr C.1 C.2.1 hd (K H locs ls hP hD hS hl)
theorem z_idiv (C : zC p s m args meth c cc nL own G A) {x y : Int32} (pc' : Nat) (hd : decode cc pc = .ok (.idiv, 1)) (hp : pc + 1 = pc') (hne : ¬ y = 0) (K : zV p l e R s m args below meth c nL G A Q k n w pc' lv (.int (x / y) :: st)) : zV p l e R s m args below meth c nL G A Q k n w pc lv (.int y :: .int x :: st) := by
  subst hp
  intro H locs ls hP hD hS hl
  exact lv_idiv C.1 C.2.1 hd hne (K H locs ls hP hD hS hl)
theorem z_irem (C : zC p s m args meth c cc nL own G A) {x y : Int32} (pc' : Nat) (hd : decode cc pc = .ok (.irem, 1)) (hp : pc + 1 = pc') (hne : ¬ y = 0) (K : zV p l e R s m args below meth c nL G A Q k n w pc' lv (.int (x - x / y * y) :: st)) : zV p l e R s m args below meth c nL G A Q k n w pc lv (.int y :: .int x :: st) := by
  subst hp
  intro H locs ls hP hD hS hl
  exact lv_irem C.1 C.2.1 hd hne (K H locs ls hP hD hS hl)
theorem z_ineg (C : zC p s m args meth c cc nL own G A) {x : Int32} (pc' : Nat) (hd : decode cc pc = .ok (.ineg, 1)) (hp : pc + 1 = pc')  (K : zV p l e R s m args below meth c nL G A Q k n w pc' lv (.int (-x) :: st)) : zV p l e R s m args below meth c nL G A Q k n w pc lv (.int x :: st) := by
  subst hp
  intro H locs ls hP hD hS hl
  exact lv_ineg C.1 C.2.1 hd (K H locs ls hP hD hS hl)
theorem z_ladd (C : zC p s m args meth c cc nL own G A) {x y : Int64} (pc' : Nat) (hd : decode cc pc = .ok (.ladd, 1)) (hp : pc + 1 = pc')  (K : zV p l e R s m args below meth c nL G A Q k n w pc' lv (.long (x + y) :: st)) : zV p l e R s m args below meth c nL G A Q k n w pc lv (.long y :: .long x :: st) := by
  subst hp
  intro H locs ls hP hD hS hl
  exact lv_ladd C.1 C.2.1 hd (K H locs ls hP hD hS hl)
theorem z_lsub (C : zC p s m args meth c cc nL own G A) {x y : Int64} (pc' : Nat) (hd : decode cc pc = .ok (.lsub, 1)) (hp : pc + 1 = pc')  (K : zV p l e R s m args below meth c nL G A Q k n w pc' lv (.long (x - y) :: st)) : zV p l e R s m args below meth c nL G A Q k n w pc lv (.long y :: .long x :: st) := by
  subst hp
  intro H locs ls hP hD hS hl
  exact lv_lsub C.1 C.2.1 hd (K H locs ls hP hD hS hl)
theorem z_lmul (C : zC p s m args meth c cc nL own G A) {x y : Int64} (pc' : Nat) (hd : decode cc pc = .ok (.lmul, 1)) (hp : pc + 1 = pc')  (K : zV p l e R s m args below meth c nL G A Q k n w pc' lv (.long (x * y) :: st)) : zV p l e R s m args below meth c nL G A Q k n w pc lv (.long y :: .long x :: st) := by
  subst hp
  intro H locs ls hP hD hS hl
  exact lv_lmul C.1 C.2.1 hd (K H locs ls hP hD hS hl)
theorem z_land (C : zC p s m args meth c cc nL own G A) {x y : Int64} (pc' : Nat) (hd : decode cc pc = .ok (.land, 1)) (hp : pc + 1 = pc')  (K : zV p l e R s m args below meth c nL G A Q k n w pc' lv (.long (x &&& y) :: st)) : zV p l e R s m args below meth c nL G A Q k n w pc lv (.long y :: .long x :: st) := by
  subst hp
  intro H locs ls hP hD hS hl
  exact lv_land C.1 C.2.1 hd (K H locs ls hP hD hS hl)
theorem z_lor (C : zC p s m args meth c cc nL own G A) {x y : Int64} (pc' : Nat) (hd : decode cc pc = .ok (.lor, 1)) (hp : pc + 1 = pc')  (K : zV p l e R s m args below meth c nL G A Q k n w pc' lv (.long (x ||| y) :: st)) : zV p l e R s m args below meth c nL G A Q k n w pc lv (.long y :: .long x :: st) := by
  subst hp
  intro H locs ls hP hD hS hl
  exact lv_lor C.1 C.2.1 hd (K H locs ls hP hD hS hl)
theorem z_lxor (C : zC p s m args meth c cc nL own G A) {x y : Int64} (pc' : Nat) (hd : decode cc pc = .ok (.lxor, 1)) (hp : pc + 1 = pc')  (K : zV p l e R s m args below meth c nL G A Q k n w pc' lv (.long (x ^^^ y) :: st)) : zV p l e R s m args below meth c nL G A Q k n w pc lv (.long y :: .long x :: st) := by
  subst hp
  intro H locs ls hP hD hS hl
  exact lv_lxor C.1 C.2.1 hd (K H locs ls hP hD hS hl)
theorem z_ldiv (C : zC p s m args meth c cc nL own G A) {x y : Int64} (pc' : Nat) (hd : decode cc pc = .ok (.ldiv, 1)) (hp : pc + 1 = pc') (hne : ¬ y = 0) (K : zV p l e R s m args below meth c nL G A Q k n w pc' lv (.long (x / y) :: st)) : zV p l e R s m args below meth c nL G A Q k n w pc lv (.long y :: .long x :: st) := by
  subst hp
  intro H locs ls hP hD hS hl
  exact lv_ldiv C.1 C.2.1 hd hne (K H locs ls hP hD hS hl)
theorem z_lrem (C : zC p s m args meth c cc nL own G A) {x y : Int64} (pc' : Nat) (hd : decode cc pc = .ok (.lrem, 1)) (hp : pc + 1 = pc') (hne : ¬ y = 0) (K : zV p l e R s m args below meth c nL G A Q k n w pc' lv (.long (x - x / y * y) :: st)) : zV p l e R s m args below meth c nL G A Q k n w pc lv (.long y :: .long x :: st) := by
  subst hp
  intro H locs ls hP hD hS hl
  exact lv_lrem C.1 C.2.1 hd hne (K H locs ls hP hD hS hl)
theorem z_iushr (C : zC p s m args meth c cc nL own G A) {x y : Int32} (pc' : Nat) (hd : decode cc pc = .ok (.iushr, 1)) (hp : pc + 1 = pc')  (K : zV p l e R s m args below meth c nL G A Q k n w pc' lv (.int ((x.toUInt32 >>> (y.toUInt32 &&& Int32.toUInt32 31)).toInt32) :: st)) : zV p l e R s m args below meth c nL G A Q k n w pc lv (.int y :: .int x :: st) := by
  subst hp
  intro H locs ls hP hD hS hl
  exact lv_iushr C.1 C.2.1 hd rfl (K H locs ls hP hD hS hl)
theorem z_lushr (C : zC p s m args meth c cc nL own G A) {x : Int64} {y : Int32} (pc' : Nat) (hd : decode cc pc = .ok (.lushr, 1)) (hp : pc + 1 = pc')  (K : zV p l e R s m args below meth c nL G A Q k n w pc' lv (.long ((x.toUInt64 >>> (y.toInt64.toUInt64 &&& Int64.toUInt64 63)).toInt64) :: st)) : zV p l e R s m args below meth c nL G A Q k n w pc lv (.int y :: .long x :: st) := by
  subst hp
  intro H locs ls hP hD hS hl
  exact lv_lushr C.1 C.2.1 hd rfl (K H locs ls hP hD hS hl)
theorem z_lshl (C : zC p s m args meth c cc nL own G A) {x : Int64} {y : Int32} (pc' : Nat) (hd : decode cc pc = .ok (.lshl, 1)) (hp : pc + 1 = pc')  (K : zV p l e R s m args below meth c nL G A Q k n w pc' lv (.long (x <<< (y.toInt64 &&& 63)) :: st)) : zV p l e R s m args below meth c nL G A Q k n w pc lv (.int y :: .long x :: st) := by
  subst hp
  intro H locs ls hP hD hS hl
  exact lv_lshl C.1 C.2.1 hd rfl (K H locs ls hP hD hS hl)
theorem z_lshr (C : zC p s m args meth c cc nL own G A) {x : Int64} {y : Int32} (pc' : Nat) (hd : decode cc pc = .ok (.lshr, 1)) (hp : pc + 1 = pc')  (K : zV p l e R s m args below meth c nL G A Q k n w pc' lv (.long (x >>> (y.toInt64 &&& 63)) :: st)) : zV p l e R s m args below meth c nL G A Q k n w pc lv (.int y :: .long x :: st) := by
  subst hp
  intro H locs ls hP hD hS hl
  exact lv_lshr C.1 C.2.1 hd rfl (K H locs ls hP hD hS hl)
theorem z_i2l (C : zC p s m args meth c cc nL own G A) {x : Int32} (pc' : Nat) (hd : decode cc pc = .ok (.i2l, 1)) (hp : pc + 1 = pc')  (K : zV p l e R s m args below meth c nL G A Q k n w pc' lv (.long x.toInt64 :: st)) : zV p l e R s m args below meth c nL G A Q k n w pc lv (.int x :: st) := by
  subst hp
  intro H locs ls hP hD hS hl
  exact lv_i2l C.1 C.2.1 hd rfl (K H locs ls hP hD hS hl)
theorem z_l2i (C : zC p s m args meth c cc nL own G A) {x : Int64} (pc' : Nat) (hd : decode cc pc = .ok (.l2i, 1)) (hp : pc + 1 = pc')  (K : zV p l e R s m args below meth c nL G A Q k n w pc' lv (.int x.toInt32 :: st)) : zV p l e R s m args below meth c nL G A Q k n w pc lv (.long x :: st) := by
  subst hp
  intro H locs ls hP hD hS hl
  exact lv_l2i C.1 C.2.1 hd rfl (K H locs ls hP hD hS hl)
theorem z_i2b (C : zC p s m args meth c cc nL own G A) {x : Int32} (pc' : Nat) (hd : decode cc pc = .ok (.i2b, 1)) (hp : pc + 1 = pc')  (K : zV p l e R s m args below meth c nL G A Q k n w pc' lv (.int x.toInt8.toInt32 :: st)) : zV p l e R s m args below meth c nL G A Q k n w pc lv (.int x :: st) := by
  subst hp
  intro H locs ls hP hD hS hl
  exact lv_i2b C.1 C.2.1 hd rfl (K H locs ls hP hD hS hl)
theorem z_lcmp (C : zC p s m args meth c cc nL own G A) {x y : Int64} (pc' : Nat) (hd : decode cc pc = .ok (.lcmp, 1)) (hp : pc + 1 = pc')  (K : zV p l e R s m args below meth c nL G A Q k n w pc' lv (.int (lg_cmp x y) :: st)) : zV p l e R s m args below meth c nL G A Q k n w pc lv (.long y :: .long x :: st) := by
  subst hp
  intro H locs ls hP hD hS hl
  exact W.lcmp C.1 C.2.1 hd (K H locs ls hP hD hS hl)
theorem z_dup (C : zC p s m args meth c cc nL own G A) {va : Value} (pc' : Nat) (hd : decode cc pc = .ok (.dup, 1)) (hp : pc + 1 = pc') (h1 : va.category = 1) (K : zV p l e R s m args below meth c nL G A Q k n w pc' lv (va :: va :: st)) : zV p l e R s m args below meth c nL G A Q k n w pc lv (va :: st) := by
  subst hp
  intro H locs ls hP hD hS hl
  exact lv_dup C.1 C.2.1 hd h1 (K H locs ls hP hD hS hl)
theorem z_pop (C : zC p s m args meth c cc nL own G A) {va : Value} (pc' : Nat) (hd : decode cc pc = .ok (.pop, 1)) (hp : pc + 1 = pc') (h1 : va.category = 1) (K : zV p l e R s m args below meth c nL G A Q k n w pc' lv (st)) : zV p l e R s m args below meth c nL G A Q k n w pc lv (va :: st) := by
  subst hp
  intro H locs ls hP hD hS hl
  exact lv_pop C.1 C.2.1 hd h1 (K H locs ls hP hD hS hl)
theorem z_dup_x1 (C : zC p s m args meth c cc nL own G A) {va vb : Value} (pc' : Nat) (hd : decode cc pc = .ok (.dup_x1, 1)) (hp : pc + 1 = pc') (h1 : va.category = 1) (h2 : vb.category = 1) (K : zV p l e R s m args below meth c nL G A Q k n w pc' lv (va :: vb :: va :: st)) : zV p l e R s m args below meth c nL G A Q k n w pc lv (va :: vb :: st) := by
  subst hp
  intro H locs ls hP hD hS hl
  exact lv_dup_x1 C.1 C.2.1 hd h1 h2 (K H locs ls hP hD hS hl)
theorem z_dup_x2 (C : zC p s m args meth c cc nL own G A) {va vb vd : Value} (pc' : Nat) (hd : decode cc pc = .ok (.dup_x2, 1)) (hp : pc + 1 = pc') (h1 : va.category = 1) (h2 : vb.category = 1) (h3 : vd.category = 1) (K : zV p l e R s m args below meth c nL G A Q k n w pc' lv (va :: vb :: vd :: va :: st)) : zV p l e R s m args below meth c nL G A Q k n w pc lv (va :: vb :: vd :: st) := by
  subst hp
  intro H locs ls hP hD hS hl
  exact lv_dup_x2 C.1 C.2.1 hd h1 h2 h3 (K H locs ls hP hD hS hl)
theorem z_dup2_11 (C : zC p s m args meth c cc nL own G A) {va vb : Value} (pc' : Nat) (hd : decode cc pc = .ok (.dup2, 1)) (hp : pc + 1 = pc') (h1 : va.category = 1) (h2 : vb.category = 1) (K : zV p l e R s m args below meth c nL G A Q k n w pc' lv (va :: vb :: va :: vb :: st)) : zV p l e R s m args below meth c nL G A Q k n w pc lv (va :: vb :: st) := by
  subst hp
  intro H locs ls hP hD hS hl
  exact lv_dup2_11 C.1 C.2.1 hd h1 h2 (K H locs ls hP hD hS hl)
theorem z_dup2_2 (C : zC p s m args meth c cc nL own G A) {va : Value} (pc' : Nat) (hd : decode cc pc = .ok (.dup2, 1)) (hp : pc + 1 = pc') (h1 : va.category = 2) (K : zV p l e R s m args below meth c nL G A Q k n w pc' lv (va :: va :: st)) : zV p l e R s m args below meth c nL G A Q k n w pc lv (va :: st) := by
  subst hp
  intro H locs ls hP hD hS hl
  exact lv_dup2_2 C.1 C.2.1 hd h1 (K H locs ls hP hD hS hl)
theorem z_if_eq (C : zC p s m args meth c cc nL own G A) {x : Int32} {off : Int} (tgt pc' : Nat) (hd : decode cc pc = .ok (.ifCond .eq off, 3)) (ht : (pc : Int) + off = (tgt : Int)) (hp : pc + 3 = pc') (kt : x = 0 → zV p l e R s m args below meth c nL G A Q k n w tgt lv st) (kf : ¬ x = 0 → zV p l e R s m args below meth c nL G A Q k n w pc' lv st) : zV p l e R s m args below meth c nL G A Q k n w pc lv (.int x :: st) := by
  subst hp
  intro H locs ls hP hD hS hl
  exact lv_if_eq C.1 C.2.1 hd ht (fun z => kt z H locs ls hP hD hS hl) (fun z => kf z H locs ls hP hD hS hl)
theorem z_if_ne (C : zC p s m args meth c cc nL own G A) {x : Int32} {off : Int} (tgt pc' : Nat) (hd : decode cc pc = .ok (.ifCond .ne off, 3)) (ht : (pc : Int) + off = (tgt : Int)) (hp : pc + 3 = pc') (kt : ¬ x = 0 → zV p l e R s m args below meth c nL G A Q k n w tgt lv st) (kf : x = 0 → zV p l e R s m args below meth c nL G A Q k n w pc' lv st) : zV p l e R s m args below meth c nL G A Q k n w pc lv (.int x :: st) := by
  subst hp
  intro H locs ls hP hD hS hl
  exact lv_if_ne C.1 C.2.1 hd ht (fun z => kt z H locs ls hP hD hS hl) (fun z => kf z H locs ls hP hD hS hl)
theorem z_if_lt (C : zC p s m args meth c cc nL own G A) {x : Int32} {off : Int} (tgt pc' : Nat) (hd : decode cc pc = .ok (.ifCond .lt off, 3)) (ht : (pc : Int) + off = (tgt : Int)) (hp : pc + 3 = pc') (kt : x < 0 → zV p l e R s m args below meth c nL G A Q k n w tgt lv st) (kf : ¬ x < 0 → zV p l e R s m args below meth c nL G A Q k n w pc' lv st) : zV p l e R s m args below meth c nL G A Q k n w pc lv (.int x :: st) := by
  subst hp
  intro H locs ls hP hD hS hl
  exact lv_if_lt C.1 C.2.1 hd ht (fun z => kt z H locs ls hP hD hS hl) (fun z => kf z H locs ls hP hD hS hl)
theorem z_if_ge (C : zC p s m args meth c cc nL own G A) {x : Int32} {off : Int} (tgt pc' : Nat) (hd : decode cc pc = .ok (.ifCond .ge off, 3)) (ht : (pc : Int) + off = (tgt : Int)) (hp : pc + 3 = pc') (kt : 0 ≤ x → zV p l e R s m args below meth c nL G A Q k n w tgt lv st) (kf : ¬ 0 ≤ x → zV p l e R s m args below meth c nL G A Q k n w pc' lv st) : zV p l e R s m args below meth c nL G A Q k n w pc lv (.int x :: st) := by
  subst hp
  intro H locs ls hP hD hS hl
  exact lv_if_ge C.1 C.2.1 hd ht (fun z => kt z H locs ls hP hD hS hl) (fun z => kf z H locs ls hP hD hS hl)
theorem z_if_gt (C : zC p s m args meth c cc nL own G A) {x : Int32} {off : Int} (tgt pc' : Nat) (hd : decode cc pc = .ok (.ifCond .gt off, 3)) (ht : (pc : Int) + off = (tgt : Int)) (hp : pc + 3 = pc') (kt : 0 < x → zV p l e R s m args below meth c nL G A Q k n w tgt lv st) (kf : ¬ 0 < x → zV p l e R s m args below meth c nL G A Q k n w pc' lv st) : zV p l e R s m args below meth c nL G A Q k n w pc lv (.int x :: st) := by
  subst hp
  intro H locs ls hP hD hS hl
  exact lv_if_gt C.1 C.2.1 hd ht (fun z => kt z H locs ls hP hD hS hl) (fun z => kf z H locs ls hP hD hS hl)
theorem z_if_le (C : zC p s m args meth c cc nL own G A) {x : Int32} {off : Int} (tgt pc' : Nat) (hd : decode cc pc = .ok (.ifCond .le off, 3)) (ht : (pc : Int) + off = (tgt : Int)) (hp : pc + 3 = pc') (kt : x ≤ 0 → zV p l e R s m args below meth c nL G A Q k n w tgt lv st) (kf : ¬ x ≤ 0 → zV p l e R s m args below meth c nL G A Q k n w pc' lv st) : zV p l e R s m args below meth c nL G A Q k n w pc lv (.int x :: st) := by
  subst hp
  intro H locs ls hP hD hS hl
  exact lv_if_le C.1 C.2.1 hd ht (fun z => kt z H locs ls hP hD hS hl) (fun z => kf z H locs ls hP hD hS hl)
theorem z_icmp_eq (C : zC p s m args meth c cc nL own G A) {x y : Int32} {off : Int} (tgt pc' : Nat) (hd : decode cc pc = .ok (.if_icmp .eq off, 3)) (ht : (pc : Int) + off = (tgt : Int)) (hp : pc + 3 = pc') (kt : x = y → zV p l e R s m args below meth c nL G A Q k n w tgt lv st) (kf : ¬ x = y → zV p l e R s m args below meth c nL G A Q k n w pc' lv st) : zV p l e R s m args below meth c nL G A Q k n w pc lv (.int y :: .int x :: st) := by
  subst hp
  intro H locs ls hP hD hS hl
  exact lv_icmp_eq C.1 C.2.1 hd ht (fun z => kt z H locs ls hP hD hS hl) (fun z => kf z H locs ls hP hD hS hl)
theorem z_icmp_ne (C : zC p s m args meth c cc nL own G A) {x y : Int32} {off : Int} (tgt pc' : Nat) (hd : decode cc pc = .ok (.if_icmp .ne off, 3)) (ht : (pc : Int) + off = (tgt : Int)) (hp : pc + 3 = pc') (kt : ¬ x = y → zV p l e R s m args below meth c nL G A Q k n w tgt lv st) (kf : x = y → zV p l e R s m args below meth c nL G A Q k n w pc' lv st) : zV p l e R s m args below meth c nL G A Q k n w pc lv (.int y :: .int x :: st) := by
  subst hp
  intro H locs ls hP hD hS hl
  exact lv_icmp_ne C.1 C.2.1 hd ht (fun z => kt z H locs ls hP hD hS hl) (fun z => kf z H locs ls hP hD hS hl)
theorem z_icmp_lt (C : zC p s m args meth c cc nL own G A) {x y : Int32} {off : Int} (tgt pc' : Nat) (hd : decode cc pc = .ok (.if_icmp .lt off, 3)) (ht : (pc : Int) + off = (tgt : Int)) (hp : pc + 3 = pc') (kt : x < y → zV p l e R s m args below meth c nL G A Q k n w tgt lv st) (kf : ¬ x < y → zV p l e R s m args below meth c nL G A Q k n w pc' lv st) : zV p l e R s m args below meth c nL G A Q k n w pc lv (.int y :: .int x :: st) := by
  subst hp
  intro H locs ls hP hD hS hl
  exact lv_icmp_lt C.1 C.2.1 hd ht (fun z => kt z H locs ls hP hD hS hl) (fun z => kf z H locs ls hP hD hS hl)
theorem z_icmp_ge (C : zC p s m args meth c cc nL own G A) {x y : Int32} {off : Int} (tgt pc' : Nat) (hd : decode cc pc = .ok (.if_icmp .ge off, 3)) (ht : (pc : Int) + off = (tgt : Int)) (hp : pc + 3 = pc') (kt : y ≤ x → zV p l e R s m args below meth c nL G A Q k n w tgt lv st) (kf : ¬ y ≤ x → zV p l e R s m args below meth c nL G A Q k n w pc' lv st) : zV p l e R s m args below meth c nL G A Q k n w pc lv (.int y :: .int x :: st) := by
  subst hp
  intro H locs ls hP hD hS hl
  exact lv_icmp_ge C.1 C.2.1 hd ht (fun z => kt z H locs ls hP hD hS hl) (fun z => kf z H locs ls hP hD hS hl)
theorem z_icmp_gt (C : zC p s m args meth c cc nL own G A) {x y : Int32} {off : Int} (tgt pc' : Nat) (hd : decode cc pc = .ok (.if_icmp .gt off, 3)) (ht : (pc : Int) + off = (tgt : Int)) (hp : pc + 3 = pc') (kt : y < x → zV p l e R s m args below meth c nL G A Q k n w tgt lv st) (kf : ¬ y < x → zV p l e R s m args below meth c nL G A Q k n w pc' lv st) : zV p l e R s m args below meth c nL G A Q k n w pc lv (.int y :: .int x :: st) := by
  subst hp
  intro H locs ls hP hD hS hl
  exact lv_icmp_gt C.1 C.2.1 hd ht (fun z => kt z H locs ls hP hD hS hl) (fun z => kf z H locs ls hP hD hS hl)
theorem z_icmp_le (C : zC p s m args meth c cc nL own G A) {x y : Int32} {off : Int} (tgt pc' : Nat) (hd : decode cc pc = .ok (.if_icmp .le off, 3)) (ht : (pc : Int) + off = (tgt : Int)) (hp : pc + 3 = pc') (kt : x ≤ y → zV p l e R s m args below meth c nL G A Q k n w tgt lv st) (kf : ¬ x ≤ y → zV p l e R s m args below meth c nL G A Q k n w pc' lv st) : zV p l e R s m args below meth c nL G A Q k n w pc lv (.int y :: .int x :: st) := by
  subst hp
  intro H locs ls hP hD hS hl
  exact lv_icmp_le C.1 C.2.1 hd ht (fun z => kt z H locs ls hP hD hS hl) (fun z => kf z H locs ls hP hD hS hl)
theorem z_goto (C : zC p s m args meth c cc nL own G A) {off : Int} (tgt : Nat) (hd : decode cc pc = .ok (.goto off, 3)) (ht : (pc : Int) + off = (tgt : Int)) (K : zV p l e R s m args below meth c nL G A Q k n w tgt lv st) : zV p l e R s m args below meth c nL G A Q k n w pc lv st := fun H locs ls hP hD hS hl => lv_goto C.1 C.2.1 hd ht (K H locs ls hP hD hS hl)
theorem z_tableIn (C : zC p s m args meth c cc nL own G A) {dflt lo hi : Int} {offs : Array Int} {len : Nat} {x : Int32} {off : Int} (tgt : Nat) (hd : decode cc pc = .ok (.tableswitch dflt lo hi offs, len)) (h1 : ¬ x.toInt < lo) (h2 : ¬ hi < x.toInt) (ho : offs[(x.toInt - lo).toNat]? = some off) (ht : (pc : Int) + off = (tgt : Int)) (K : zV p l e R s m args below meth c nL G A Q k n w tgt lv st) : zV p l e R s m args below meth c nL G A Q k n w pc lv (.int x :: st) := fun H locs ls hP hD hS hl => lv_tableIn C.1 C.2.1 hd h1 h2 ho ht (K H locs ls hP hD hS hl)
theorem z_tableOut (C : zC p s m args meth c cc nL own G A) {dflt lo hi : Int} {offs : Array Int} {len : Nat} {x : Int32} (tgt : Nat) (hd : decode cc pc = .ok (.tableswitch dflt lo hi offs, len)) (h : x.toInt < lo ∨ hi < x.toInt) (ht : (pc : Int) + dflt = (tgt : Int)) (K : zV p l e R s m args below meth c nL G A Q k n w tgt lv st) : zV p l e R s m args below meth c nL G A Q k n w pc lv (.int x :: st) := fun H locs ls hP hD hS hl => lv_tableOut C.1 C.2.1 hd h ht (K H locs ls hP hD hS hl)
theorem z_lookup (C : zC p s m args meth c cc nL own G A) {dflt : Int} {ps : Array (Int × Int)} {len : Nat} {x : Int32} {off : Int} (tgt : Nat) (hd : decode cc pc = .ok (.lookupswitch dflt ps, len)) (hq : (ps.toList.zip (ps.toList.drop 1)).all (fun (a, next) => a.1 < next.1) = true) (ho : Op.lookupswitch.offset ps.toList dflt x.toInt = off) (ht : (pc : Int) + off = (tgt : Int)) (K : zV p l e R s m args below meth c nL G A Q k n w tgt lv st) : zV p l e R s m args below meth c nL G A Q k n w pc lv (.int x :: st) := fun H locs ls hP hD hS hl => lv_lookup C.1 C.2.1 hd hq ho ht (K H locs ls hP hD hS hl)
theorem z_topi {x : Int32} (K : ∀ y : Int32, y = x → zV p l e R s m args below meth c nL G A Q k n w pc lv (.int y :: st)) : zV p l e R s m args below meth c nL G A Q k n w pc lv (.int x :: st) := K x rfl
theorem z_topl {x : Int64} (K : ∀ y : Int64, y = x → zV p l e R s m args below meth c nL G A Q k n w pc lv (.long y :: st)) : zV p l e R s m args below meth c nL G A Q k n w pc lv (.long x :: st) := K x rfl
theorem z_lvs (ks : List Nat) (lv' : List (Nat × Value)) (h : lv_pick lv ks = lv') (K : zV p l e R s m args below meth c nL G A Q k n w pc lv' st) : zV p l e R s m args below meth c nL G A Q k n w pc lv st := fun H locs ls hP hD hS hl => K H locs ls hP hD hS (lv_sub hl ks h)
theorem z_wsub (is : List Nat) (w' : va_W) (h : is.map (fun i => w[i]?) = w'.map some) (hn : va_nd is = true) (K : zV p l e R s m args below meth c nL G A Q k n w' pc lv st) : zV p l e R s m args below meth c nL G A Q k n w pc lv st := fun H locs ls hP hD hS hl => K H locs ls (hP.sub is (z_fm h)) (hD.sub is hn h) hS hl
theorem z_weq {w' : va_W} (h : w = w') (K : zV p l e R s m args below meth c nL G A Q k n w' pc lv st) : zV p l e R s m args below meth c nL G A Q k n w pc lv st := h ▸ K
theorem z_steq {st' : List Value} (h : st = st') (K : zV p l e R s m args below meth c nL G A Q k n w pc lv st') : zV p l e R s m args below meth c nL G A Q k n w pc lv st := h ▸ K
theorem z_wide {k' n' : Nat} (h1 : k ≤ k') (h2 : n ≤ n') (K : zV p l e R s m args below meth c nL G A Q k' n' w pc lv st) : zV p l e R s m args below meth c nL G A Q k n w pc lv st := fun H locs ls hP hD hS hl => W.widen h1 h2 (K H locs ls hP hD hS hl)
def zFok (own : String) (index ci j : Nat) (Cn : String) (T : u_T) (N : Nat) : Prop := vwCl[ci]? = some (Cn, T, N) ∧ j < N ∧ (∀ w ∈ u_ws Cn T N, w ∈ zTs) ∧ Cond.fieldLink own index (T j).1 (T j).2.1 (T j).2.2.1 ∈ zTs
def zPok (Cn : String) (T : u_T) (N : Nat) (ty0 : Nat → FieldType) : Prop := (∀ j, j < N → parseFieldDescriptor (T j).2.2.1 = some (ty0 j)) ∧ ∀ a, a < N → ∀ b, b < N → a ≠ b → (T a).2.1 ≠ (T b).2.1
theorem z_get (C : zC p s m args meth c cc nL own G A) {index ci j : Nat} {Cn : String} {T : u_T} {N : Nat} (F : zFok own index ci j Cn T N) (q0 : Nat) {a : Nat} {fs : List Value} {v : Value} (pc' : Nat) (hd : decode cc pc = .ok (.getfield index, 3)) (hp : pc + 3 = pc') (he : w[q0]? = some (a, .inr (ci, fs))) (hv : fs[j]? = some v) (K : zV p l e R s m args below meth c nL G A Q k n w pc' lv (v :: st)) : zV p l e R s m args below meth c nL G A Q k n w pc lv (.ref a :: st) := by
  subst hp
  intro H locs ls hP hD hS hl
  exact va_get (D := G.1) C.1 C.2.1 C.2.2.2.2.1 F.2.2.1 C.2.2.2.1 C.2.2.2.2.2.1.1 hP q0 he F.1 j F.2.1 (C.2.2.2.2.1 _ F.2.2.2) (fun _ h9 => h9) hv hd (K H locs ls hP hD hS hl)
theorem z_put (C : zC p s m args meth c cc nL own G A) {index ci j : Nat} {Cn : String} {T : u_T} {N : Nat} {ty0 : Nat → FieldType} (F : zFok own index ci j Cn T N) (Pk : zPok Cn T N ty0) (q0 : Nat) {a : Nat} {fs : List Value} {v : Value} (w' : va_W) (pc' : Nat) (hd : decode cc pc = .ok (.putfield index, 3)) (hp : pc + 3 = pc') (he : w[q0]? = some (a, .inr (ci, fs))) (hfin : (T j).2.2.2 = false) (hnr : narrow (ty0 j) v = v) (hft : fits (ty0 j) v = true) (hlt : j < fs.length) (hw : w.set q0 (a, .inr (ci, fs.set j v)) = w') (K : zV p l e R s m args below meth c nL G A Q k n w' pc' lv st) : zV p l e R s m args below meth c nL G A Q k n w pc lv (v :: .ref a :: st) := by
  subst hp
  subst hw
  intro H locs ls hP hD hS hl
  exact va_put (D := G.1) C.1 C.2.1 C.2.2.2.2.1 F.2.2.1 ty0 Pk.1 Pk.2 C.2.2.2.1 C.2.2.2.2.2.1.1 hP hD hS q0 he F.1 j F.2.1 (C.2.2.2.2.1 _ F.2.2.2) (fun _ h9 => h9) hfin (Pk.1 j F.2.1) hnr hft hlt hd (fun H1 locs1 hP1 hD1 hS1 => K H1 locs1 ls hP1 hD1 hS1 hl)
theorem z_putF (C : zC p s m args meth c cc nL own G A) (hin : meth.name = "<init>") {index ci j : Nat} {Cn : String} {T : u_T} {N : Nat} {ty0 : Nat → FieldType} (F : zFok own index ci j Cn T N) (Pk : zPok Cn T N ty0) (q0 : Nat) {a : Nat} {fs : List Value} {v : Value} (w' : va_W) (pc' : Nat) (hd : decode cc pc = .ok (.putfield index, 3)) (hp : pc + 3 = pc') (he : w[q0]? = some (a, .inr (ci, fs))) (hfin : (T j).2.2.2 = true) (hown : (T j).1 = own) (hnr : narrow (ty0 j) v = v) (hft : fits (ty0 j) v = true) (hlt : j < fs.length) (hw : w.set q0 (a, .inr (ci, fs.set j v)) = w') (K : zV p l e R s m args below meth c nL G A Q k n w' pc' lv st) : zV p l e R s m args below meth c nL G A Q k n w pc lv (v :: .ref a :: st) := by
  subst hp
  subst hw
  intro H locs ls hP hD hS hl
  exact va_putF (D := G.1) C.1 C.2.1 C.2.2.2.2.1 F.2.2.1 ty0 Pk.1 Pk.2 C.2.2.2.1 C.2.2.2.2.2.1.1 hP hD hS q0 he F.1 j F.2.1 (C.2.2.2.2.1 _ F.2.2.2) (fun _ h9 => h9) hfin hin hown (Pk.1 j F.2.1) hnr hft hlt hd (fun H1 locs1 hP1 hD1 hS1 => K H1 locs1 ls hP1 hD1 hS1 hl)
theorem z_iald (C : zC p s m args meth c cc nL own G A) (q0 t0 : Nat) {a : Nat} {cA : ClassId} {len : Nat} {f : Nat → Int32} {i : Int32} (pc' : Nat) (hd : decode cc pc = .ok (.iaload, 1)) (hp : pc + 1 = pc') (he : w[q0]? = some (a, .inl (cA, len, .inl f))) (ht : (zTy G.2)[t0]? = some (cA, .int)) (hin : vp_in i len) (K : zV p l e R s m args below meth c nL G A Q k n w pc' lv (.int (f i.toNatClampNeg) :: st)) : zV p l e R s m args below meth c nL G A Q k n w pc lv (.int i :: .ref a :: st) := by
  subst hp
  intro H locs ls hP hD hS hl
  exact va_iald C.1 C.2.1 C.2.2.2.2.2.1.1 hP q0 t0 he ht hin hd (K H locs ls hP hD hS hl)
theorem z_iast (C : zC p s m args meth c cc nL own G A) (q0 t0 : Nat) {a : Nat} {cA : ClassId} {len : Nat} {f : Nat → Int32} {i : Int32} {x : Int32} (w' : va_W) (pc' : Nat) (hd : decode cc pc = .ok (.iastore, 1)) (hp : pc + 1 = pc') (he : w[q0]? = some (a, .inl (cA, len, .inl f))) (ht : (zTy G.2)[t0]? = some (cA, .int)) (hin : vp_in i len) (hw : w.set q0 (a, .inl (cA, len, .inl (upd f i.toNatClampNeg x))) = w') (K : zV p l e R s m args below meth c nL G A Q k n w' pc' lv st) : zV p l e R s m args below meth c nL G A Q k n w pc lv (.int x :: .int i :: .ref a :: st) := by
  subst hp
  subst hw
  intro H locs ls hP hD hS hl
  exact va_iast C.1 C.2.1 C.2.2.2.2.2.1.1 hP hD hS q0 t0 he ht hin hd (fun H1 locs1 hP1 hD1 hS1 => K H1 locs1 ls hP1 hD1 hS1 hl)
theorem z_lald (C : zC p s m args meth c cc nL own G A) (q0 t0 : Nat) {a : Nat} {cA : ClassId} {len : Nat} {f : Nat → Int64} {i : Int32} (pc' : Nat) (hd : decode cc pc = .ok (.laload, 1)) (hp : pc + 1 = pc') (he : w[q0]? = some (a, .inl (cA, len, .inr (.inl f)))) (ht : (zTy G.2)[t0]? = some (cA, .long)) (hin : vp_in i len) (K : zV p l e R s m args below meth c nL G A Q k n w pc' lv (.long (f i.toNatClampNeg) :: st)) : zV p l e R s m args below meth c nL G A Q k n w pc lv (.int i :: .ref a :: st) := by
  subst hp
  intro H locs ls hP hD hS hl
  exact va_lald C.1 C.2.1 C.2.2.2.2.2.1.1 hP q0 t0 he ht hin hd (K H locs ls hP hD hS hl)
theorem z_last (C : zC p s m args meth c cc nL own G A) (q0 t0 : Nat) {a : Nat} {cA : ClassId} {len : Nat} {f : Nat → Int64} {i : Int32} {x : Int64} (w' : va_W) (pc' : Nat) (hd : decode cc pc = .ok (.lastore, 1)) (hp : pc + 1 = pc') (he : w[q0]? = some (a, .inl (cA, len, .inr (.inl f)))) (ht : (zTy G.2)[t0]? = some (cA, .long)) (hin : vp_in i len) (hw : w.set q0 (a, .inl (cA, len, .inr (.inl (vp_updL f i.toNatClampNeg x)))) = w') (K : zV p l e R s m args below meth c nL G A Q k n w' pc' lv st) : zV p l e R s m args below meth c nL G A Q k n w pc lv (.long x :: .int i :: .ref a :: st) := by
  subst hp
  subst hw
  intro H locs ls hP hD hS hl
  exact va_last C.1 C.2.1 C.2.2.2.2.2.1.1 hP hD hS q0 t0 he ht hin hd (fun H1 locs1 hP1 hD1 hS1 => K H1 locs1 ls hP1 hD1 hS1 hl)
theorem z_bald (C : zC p s m args meth c cc nL own G A) (q0 t0 : Nat) {a : Nat} {cA : ClassId} {len : Nat} {f : Nat → Int32} {i : Int32} (pc' : Nat) (hd : decode cc pc = .ok (.baload, 1)) (hp : pc + 1 = pc') (he : w[q0]? = some (a, .inl (cA, len, .inl f))) (ht : (zTy G.2)[t0]? = some (cA, .byte)) (hin : vp_in i len) (K : zV p l e R s m args below meth c nL G A Q k n w pc' lv (.int (f i.toNatClampNeg) :: st)) : zV p l e R s m args below meth c nL G A Q k n w pc lv (.int i :: .ref a :: st) := by
  subst hp
  intro H locs ls hP hD hS hl
  exact va_bald C.1 C.2.1 C.2.2.2.2.2.1.1 hP q0 t0 he ht hin hd (K H locs ls hP hD hS hl)
theorem z_bast (C : zC p s m args meth c cc nL own G A) (q0 t0 : Nat) {a : Nat} {cA : ClassId} {len : Nat} {f : Nat → Int32} {i : Int32} {x : Int32} (w' : va_W) (pc' : Nat) (hd : decode cc pc = .ok (.bastore, 1)) (hp : pc + 1 = pc') (he : w[q0]? = some (a, .inl (cA, len, .inl f))) (ht : (zTy G.2)[t0]? = some (cA, .byte)) (hin : vp_in i len) (hw : w.set q0 (a, .inl (cA, len, .inl (upd f i.toNatClampNeg (vp_nar .byte x)))) = w') (K : zV p l e R s m args below meth c nL G A Q k n w' pc' lv st) : zV p l e R s m args below meth c nL G A Q k n w pc lv (.int x :: .int i :: .ref a :: st) := by
  subst hp
  subst hw
  intro H locs ls hP hD hS hl
  exact va_bast C.1 C.2.1 C.2.2.2.2.2.1.1 hP hD hS q0 t0 he ht hin hd (fun H1 locs1 hP1 hD1 hS1 => K H1 locs1 ls hP1 hD1 hS1 hl)
theorem z_alen (C : zC p s m args meth c cc nL own G A) (q0 t0 : Nat) {a : Nat} {cA : ClassId} {x : vp_A} {ty : FieldType} (v : Int32) (pc' : Nat) (hd : decode cc pc = .ok (.arraylength, 1)) (hp : pc + 1 = pc') (he : w[q0]? = some (a, .inl (cA, x))) (ht : (zTy G.2)[t0]? = some (cA, ty)) (hv : Int32.ofNat x.1 = v) (K : zV p l e R s m args below meth c nL G A Q k n w pc' lv (.int v :: st)) : zV p l e R s m args below meth c nL G A Q k n w pc lv (.ref a :: st) := by
  subst hp
  intro H locs ls hP hD hS hl
  exact va_alen C.1 C.2.1 C.2.2.2.2.2.1.1 hP q0 t0 he ht hv hd (K H locs ls hP hD hS hl)
theorem z_iret {w0 : va_W} (C : zC p s m args meth c cc nL own G (va_A w0 s.heap.size)) (hlk : meth.locks = false) {Post : Option Value → va_W → Prop} {v : Int32} (hr : meth.sig.returnType = some .int) (hd : decode cc pc = .ok (.ireturn, 1)) (hq : Post (some (.int v)) w) : zV p l e R s m args below meth c nL G (va_A w0 s.heap.size) (MQ below (zQ G w0 s.heap.size Post) args s k n (va_A w0 s.heap.size)) k n w pc lv ([.int v]) := fun H locs ls hP hD hS hl => W.iret C.1 C.2.1 hr (fun t ht hW => ⟨⟨_, w, rfl, hq, by rw [ht]; exact hP, hD⟩, hS.F ht⟩) hS.2.2 hd hlk
theorem z_zret {w0 : va_W} (C : zC p s m args meth c cc nL own G (va_A w0 s.heap.size)) (hlk : meth.locks = false) {Post : Option Value → va_W → Prop} {v : Int32} {ty : FieldType} (hnr : narrow ty (.int v) = .int v) (hr : meth.sig.returnType = some ty) (hd : decode cc pc = .ok (.ireturn, 1)) (hq : Post (some (.int v)) w) : zV p l e R s m args below meth c nL G (va_A w0 s.heap.size) (MQ below (zQ G w0 s.heap.size Post) args s k n (va_A w0 s.heap.size)) k n w pc lv ([.int v]) := fun H locs ls hP hD hS hl => W.zret C.1 C.2.1 hr hnr (fun t ht hW => ⟨⟨_, w, rfl, hq, by rw [ht]; exact hP, hD⟩, hS.F ht⟩) hS.2.2 hd hlk
theorem z_lret {w0 : va_W} (C : zC p s m args meth c cc nL own G (va_A w0 s.heap.size)) (hlk : meth.locks = false) {Post : Option Value → va_W → Prop} {v : Int64} (hr : meth.sig.returnType = some .long) (hd : decode cc pc = .ok (.lreturn, 1)) (hq : Post (some (.long v)) w) : zV p l e R s m args below meth c nL G (va_A w0 s.heap.size) (MQ below (zQ G w0 s.heap.size Post) args s k n (va_A w0 s.heap.size)) k n w pc lv ([.long v]) := fun H locs ls hP hD hS hl => W.lret C.1 C.2.1 hr (fun t ht hW => ⟨⟨_, w, rfl, hq, by rw [ht]; exact hP, hD⟩, hS.F ht⟩) hS.2.2 hd hlk
theorem z_vret {w0 : va_W} (C : zC p s m args meth c cc nL own G (va_A w0 s.heap.size)) (hlk : meth.locks = false) {Post : Option Value → va_W → Prop}  (hr : meth.sig.returnType = none) (hd : decode cc pc = .ok (.return_, 1)) (hq : Post (none) w) : zV p l e R s m args below meth c nL G (va_A w0 s.heap.size) (MQ below (zQ G w0 s.heap.size Post) args s k n (va_A w0 s.heap.size)) k n w pc lv ([]) := fun H locs ls hP hD hS hl => W.vret C.1 C.2.1 hr (fun t ht hW => ⟨⟨_, w, rfl, hq, by rw [ht]; exact hP, hD⟩, hS.F ht⟩) hS.2.2 hd hlk
/-- a call that runs by its contract, in any world that holds the callee's -/
def zCall (p : Program) (l : Launch) (e : Env) (R : Room) (s : State) (m : MethodId) (args : Array Value) (below : List Frame) (meth : Method) (c : Code) (nL : Nat) (G : zG) (k n pc : Nat) (st0 st : List Value) (rm : Room) (wc : va_W) (Post : Option Value → va_W → Prop) : Prop :=
  ∀ (H : Heap) (locs : List Loc) (ls : Array Slot), ls.size = nL → va_P G.1 vwCl wc H → va_D (fun _ => True) wc → va_Run p l e R s m args below meth c H locs k n rm.cells rm.slots (F0 m pc ls st0) st (zQ G wc H.size Post #[]) (va_A wc H.size)
theorem zPre_blind {G : zG} {av : List Value} {w : va_W} {sz : Nat} : FrameBlind (zPre G av w sz) := fun a U g mk q => ⟨q.1, q.2.1, zK.same (u := U) (U := U.calling g mk a) rfl q.2.2.1, q.2.2.2⟩
def zBok (y : MethodName) (b : ByteArray) (mL : Nat) (ret : Option FieldType) (N : Nat) : Prop := Cond.code y b mL ret ∈ zTs ∧ Cond.initialized y.cls ∈ zTs ∧ y.cls ≠ "java/lang/invoke/MethodHandle" ∧ y.cls ≠ "java/lang/invoke/VarHandle" ∧ (parseMethodDescriptor y.desc).map (fun d => d.parameters.length) = some N
def zRoom (R rm : Room) (mL k n : Nat) : Prop := (rm.frames + 1 ≤ R.frames ∧ 8 + (mL + 11) + rm.locals ≤ R.locals) ∧ k + rm.cells ≤ R.cells ∧ n + rm.slots ≤ R.slots
theorem zCallB {y : MethodName} {b : ByteArray} {mL N index : Nat} {ret : Option FieldType} {rm : Room} (ht : ∀ w ∈ zTs, w.before args s = true) (X : zBok y b mL ret N) (hl : Cond.methodLink own index y ∈ zTs) (hR : rm.frames + 1 ≤ R.frames ∧ 8 + (mL + 11) + rm.locals ≤ R.locals) : CallB R s args own index y b mL ret (zW y b mL ret) rm rm.cells rm.slots N :=
  callB_of N ht (zGood X.1) rfl rfl rfl (ht _ X.2.1) (ht _ hl) X.2.2 hR
theorem zCallN {y : MethodName} {b : ByteArray} {mL N index : Nat} {ret : Option FieldType} {rm : Room} {host : String} (ht : ∀ w ∈ zTs, w.before args s = true) (hK : zK G s) (X : zBok y b mL ret N) (hl : Cond.methodLinkNest own index y host ∈ zNest) (hR : rm.frames + 1 ≤ R.frames ∧ 8 + (mL + 11) + rm.locals ≤ R.locals) : va_CN R s args own index y host b mL ret (zW y b mL ret) rm rm.cells rm.slots N :=
  va_cnB N ht (zGood X.1) rfl rfl rfl (hK.2 _ hl) (ht _ X.2.1) X.2.2 hR
def zVok (own : String) (index : Nat) (y : MethodName) (b : ByteArray) (mL : Nat) (ret : Option FieldType) (N : Nat) : Prop := zBok y b mL ret N ∧ Cond.methodLink own index y ∈ zTs ∧ Cond.instanceMethod y ∈ zTs ∧ Cond.selects y.cls y y ∈ zTs
def zSok (own : String) (index : Nat) (y : MethodName) (b : ByteArray) (mL : Nat) (ret : Option FieldType) (N : Nat) : Prop := zBok y b mL ret N ∧ Cond.methodLink own index y ∈ zTs ∧ Cond.static y ∈ zTs
def zIok (own : String) (index : Nat) (y : MethodName) (b : ByteArray) (mL : Nat) (N : Nat) : Prop := zBok y b mL none N ∧ Cond.methodLink own index y ∈ zTs ∧ Cond.instanceMethod y ∈ zTs ∧ y.name = "<init>"
def zVNok (own : String) (index : Nat) (host : String) (y : MethodName) (b : ByteArray) (mL : Nat) (ret : Option FieldType) (N : Nat) : Prop := zBok y b mL ret N ∧ Cond.methodLinkNest own index y host ∈ zNest ∧ Cond.instanceMethod y ∈ zTs ∧ Cond.selects y.cls y y ∈ zTs
def zSNok (own : String) (index : Nat) (host : String) (y : MethodName) (b : ByteArray) (mL : Nat) (ret : Option FieldType) (N : Nat) : Prop := zBok y b mL ret N ∧ Cond.methodLinkNest own index y host ∈ zNest ∧ Cond.static y ∈ zTs
def zINok (own : String) (index : Nat) (host : String) (y : MethodName) (b : ByteArray) (mL : Nat) (N : Nat) : Prop := zBok y b mL none N ∧ Cond.methodLinkNest own index y host ∈ zNest ∧ Cond.instanceMethod y ∈ zTs ∧ y.name = "<init>"
theorem z_V (C : zC p s m args meth c cc nL own G A) {y : MethodName} {b : ByteArray} {mL N index : Nat} {ret : Option FieldType} {rm : Room} {As : List Value} {a : Nat} {wc : va_W} {Post : Option Value → va_W → Prop} (X : zVok own index y b mL ret N) (hM : zM G l y b mL ret rm (.ref a :: As) wc Post) (q0 ci : Nat) {T : u_T} {Nf : Nat} {fs : List Value} (hcl : vwCl[ci]? = some (y.cls, T, Nf)) (he : wc[q0]? = some (a, .inr (ci, fs))) {st0 : List Value} (hst : st0 = As.reverse ++ .ref a :: st) (hN : As.length = N) (hW : (st.map fun v => v.category).sum ≤ 8) (hR : zRoom R rm mL k n) (hd : decode cc pc = .ok (.invokevirtual index, 3)) : zCall p l e R s m args below meth c nL G k n pc st0 st rm wc Post := fun H locs ls hz hP hD => va_runV (As := As) (rest := st) ⟨C.1, C.2.1, C.2.2.1, C.2.2.2.1, C.2.2.2.2.1⟩ (hM H.size) ⟨zCallB C.2.2.2.2.1 X.1 X.2.1 hR.1, C.2.2.2.2.1 _ X.2.2.1, C.2.2.2.2.1 _ X.2.2.2⟩ ⟨zPre_blind, va_recv C.2.2.2.2.2.1.1 hP hcl he, fun U hU hW => ⟨rfl, by rw [hU], zK.warm hW C.2.2.2.2.2.1, by rw [hU]; exact hP, hD⟩⟩ rfl hN hz hst (lv_room hW) hd hR.2
theorem z_S (C : zC p s m args meth c cc nL own G A) {y : MethodName} {b : ByteArray} {mL N index : Nat} {ret : Option FieldType} {rm : Room} {As : List Value} {wc : va_W} {Post : Option Value → va_W → Prop} (X : zSok own index y b mL ret N) (hM : zM G l y b mL ret rm As wc Post)  {st0 : List Value} (hst : st0 = As.reverse ++ st) (hN : As.length = N) (hW : (st.map fun v => v.category).sum ≤ 8) (hR : zRoom R rm mL k n) (hd : decode cc pc = .ok (.invokestatic index, 3)) : zCall p l e R s m args below meth c nL G k n pc st0 st rm wc Post := fun H locs ls hz hP hD => va_runS (As := As) (rest := st) ⟨C.1, C.2.1, C.2.2.1, C.2.2.2.1, C.2.2.2.2.1⟩ (hM H.size) ⟨zCallB C.2.2.2.2.1 X.1 X.2.1 hR.1, C.2.2.2.2.1 _ X.2.2⟩ ⟨zPre_blind, fun U hU hW => ⟨rfl, by rw [hU], zK.warm hW C.2.2.2.2.2.1, by rw [hU]; exact hP, hD⟩⟩ rfl hN hz hst (lv_room hW) hd hR.2
theorem z_I (C : zC p s m args meth c cc nL own G A) {y : MethodName} {b : ByteArray} {mL N index : Nat} {rm : Room} {As : List Value} {a : Nat} {wc : va_W} {Post : Option Value → va_W → Prop} (X : zIok own index y b mL N) (hM : zM G l y b mL none rm (.ref a :: As) wc Post)  {st0 : List Value} (hst : st0 = As.reverse ++ .ref a :: st) (hN : As.length = N) (hW : (st.map fun v => v.category).sum ≤ 8) (hR : zRoom R rm mL k n) (hd : decode cc pc = .ok (.invokespecial index, 3)) : zCall p l e R s m args below meth c nL G k n pc st0 st rm wc Post := fun H locs ls hz hP hD => va_runI (As := As) (rest := st) ⟨C.1, C.2.1, C.2.2.1, C.2.2.2.1, C.2.2.2.2.1⟩ (hM H.size) ⟨zCallB C.2.2.2.2.1 X.1 X.2.1 hR.1, X.2.2.2, C.2.2.2.2.1 _ X.2.2.1⟩ ⟨zPre_blind, fun U hU hW => ⟨rfl, by rw [hU], zK.warm hW C.2.2.2.2.2.1, by rw [hU]; exact hP, hD⟩⟩ rfl hN hz hst (lv_room hW) hd hR.2
theorem z_VN (C : zC p s m args meth c cc nL own G A) {y : MethodName} {b : ByteArray} {mL N index : Nat} {ret : Option FieldType} {rm : Room} {As : List Value} {a : Nat} {wc : va_W} {Post : Option Value → va_W → Prop} {host : String} (X : zVNok own index host y b mL ret N) (hM : zM G l y b mL ret rm (.ref a :: As) wc Post) (q0 ci : Nat) {T : u_T} {Nf : Nat} {fs : List Value} (hcl : vwCl[ci]? = some (y.cls, T, Nf)) (he : wc[q0]? = some (a, .inr (ci, fs))) {st0 : List Value} (hst : st0 = As.reverse ++ .ref a :: st) (hN : As.length = N) (hW : (st.map fun v => v.category).sum ≤ 8) (hR : zRoom R rm mL k n) (hd : decode cc pc = .ok (.invokevirtual index, 3)) : zCall p l e R s m args below meth c nL G k n pc st0 st rm wc Post := fun H locs ls hz hP hD => va_runVN (As := As) (rest := st) ⟨C.1, C.2.1, C.2.2.1, C.2.2.2.1, C.2.2.2.2.1⟩ (hM H.size) ⟨zCallN C.2.2.2.2.1 C.2.2.2.2.2.1 X.1 X.2.1 hR.1, C.2.2.2.2.1 _ X.2.2.1, C.2.2.2.2.1 _ X.2.2.2⟩ ⟨zPre_blind, va_recv C.2.2.2.2.2.1.1 hP hcl he, fun U hU hW => ⟨rfl, by rw [hU], zK.warm hW C.2.2.2.2.2.1, by rw [hU]; exact hP, hD⟩⟩ rfl hN hz hst (lv_room hW) hd hR.2
theorem z_SN (C : zC p s m args meth c cc nL own G A) {y : MethodName} {b : ByteArray} {mL N index : Nat} {ret : Option FieldType} {rm : Room} {As : List Value} {wc : va_W} {Post : Option Value → va_W → Prop} {host : String} (X : zSNok own index host y b mL ret N) (hM : zM G l y b mL ret rm As wc Post)  {st0 : List Value} (hst : st0 = As.reverse ++ st) (hN : As.length = N) (hW : (st.map fun v => v.category).sum ≤ 8) (hR : zRoom R rm mL k n) (hd : decode cc pc = .ok (.invokestatic index, 3)) : zCall p l e R s m args below meth c nL G k n pc st0 st rm wc Post := fun H locs ls hz hP hD => va_runSN (As := As) (rest := st) ⟨C.1, C.2.1, C.2.2.1, C.2.2.2.1, C.2.2.2.2.1⟩ (hM H.size) ⟨zCallN C.2.2.2.2.1 C.2.2.2.2.2.1 X.1 X.2.1 hR.1, C.2.2.2.2.1 _ X.2.2, trivial⟩ ⟨zPre_blind, fun U hU hW => ⟨rfl, by rw [hU], zK.warm hW C.2.2.2.2.2.1, by rw [hU]; exact hP, hD⟩⟩ rfl hN hz hst (lv_room hW) hd hR.2
theorem z_IN (C : zC p s m args meth c cc nL own G A) {y : MethodName} {b : ByteArray} {mL N index : Nat} {rm : Room} {As : List Value} {a : Nat} {wc : va_W} {Post : Option Value → va_W → Prop} {host : String} (X : zINok own index host y b mL N) (hM : zM G l y b mL none rm (.ref a :: As) wc Post)  {st0 : List Value} (hst : st0 = As.reverse ++ .ref a :: st) (hN : As.length = N) (hW : (st.map fun v => v.category).sum ≤ 8) (hR : zRoom R rm mL k n) (hd : decode cc pc = .ok (.invokespecial index, 3)) : zCall p l e R s m args below meth c nL G k n pc st0 st rm wc Post := fun H locs ls hz hP hD => va_runIN (As := As) (rest := st) ⟨C.1, C.2.1, C.2.2.1, C.2.2.2.1, C.2.2.2.2.1⟩ (hM H.size) ⟨zCallN C.2.2.2.2.1 C.2.2.2.2.2.1 X.1 X.2.1 hR.1, X.2.2.2, C.2.2.2.2.1 _ X.2.2.1⟩ ⟨zPre_blind, fun U hU hW => ⟨rfl, by rw [hU], zK.warm hW C.2.2.2.2.2.1, by rw [hU]; exact hP, hD⟩⟩ rfl hN hz hst (lv_room hW) hd hR.2
theorem z_go (C : zC p s m args meth c cc nL own G A) {st0 : List Value} {rm : Room} {wc : va_W} {Post : Option Value → va_W → Prop} (X : zCall p l e R s m args below meth c nL G k n pc st0 st rm wc Post) (isC isR : List Nat) (wr : va_W) (pc' : Nat) (hp : pc + 3 = pc') (hC : isC.map (fun i => w[i]?) = wc.map some) (hnC : va_nd isC = true) (hRr : isR.map (fun i => w[i]?) = wr.map some) (hn : va_nd isR = true) (hdis : ∀ i ∈ isR, i ∉ isC)
    (K : ∀ (r : Option Value) (w' : va_W), Post r w' → zV p l e R s m args below meth c nL G A Q (k + rm.cells) (n + rm.slots) (wr ++ w') pc' lv (r.toList ++ st)) : zV p l e R s m args below meth c nL G A Q k n w pc lv st0 := by
  subst hp
  intro H locs ls hP hD hS hl T hT Y
  have hFc := va_free (wc := wc) hD hS C.2.2.2.2.2.2 isC hC
  obtain ⟨v, st₀, t, T', L, h0, X', hL, e1, e2, ⟨⟨r, w', hv, hp, hP1, hD1⟩, hz, hk⟩, stp⟩ := X H locs ls hl.1 (hP.sub isC (z_fm hC)) ((hD.sub isC hnC hC).weaken (fun _ _ _ _ => trivial)) T hT Y
  cases hv
  rw [h0] at hz hk
  obtain ⟨hP2, hD2⟩ := va_join (wr := wr) (w1 := w') hP hD isC isR hC hRr hn hdis hk hFc hP1 hD1
  have hS2 : va_S A s.heap T'.heap (locs ++ L) := ⟨Nat.le_trans hS.1 (by rw [e1]; exact hz), fun q h1 h2 => by rw [e1, hk q (Nat.lt_of_lt_of_le h1 hS.1) (fun z => h2 (hFc q z))]; exact hS.2.1 q h1 h2, fun q hq => by
      rcases List.mem_append.mp hq with h | h
      · exact hS.2.2 q h
      · exact hFc _ (hL q h)⟩
  obtain ⟨t2, a1, b1⟩ := K _ w' hp T'.heap (locs ++ L) ls (by rw [e1]; exact hP2) hD2 hS2 hl T' rfl X'
  exact ⟨t2, stp t2 a1, b1⟩
/-- a call with one answer and one world: the caller's world, put in order by places -/
theorem z_goF (C : zC p s m args meth c cc nL own G A) {st0 : List Value} {dR dL : Nat} {wc wc' : va_W} {r : Option Value} (X : zCall p l e R s m args below meth c nL G k n pc st0 st (zR dR dL) wc (fun r1 w1 => r1 = r ∧ w1 = wc')) (isC isR is2 : List Nat) (wr w2 : va_W) (st2 : List Value) (pc' : Nat) (hs : r.toList ++ st = st2) (hp : pc + 3 = pc') (hC : isC.map (fun i => w[i]?) = wc.map some) (hnC : va_nd isC = true) (hRr : isR.map (fun i => w[i]?) = wr.map some) (hn : va_nd isR = true) (hdis : ∀ i ∈ isR, i ∉ isC) (h2 : is2.map (fun i => (wr ++ wc')[i]?) = w2.map some) (hn2 : va_nd is2 = true)
    (K : zV p l e R s m args below meth c nL G A Q k n w2 pc' lv st2) : zV p l e R s m args below meth c nL G A Q k n w pc lv st0 := by
  subst hs
  refine z_go C X isC isR wr pc' hp hC hnC hRr hn hdis (fun r1 w1 h => ?_)
  obtain ⟨rfl, rfl⟩ := h
  exact z_wsub is2 w2 h2 hn2 K
/-- the same, where the callee's world is the caller's -/
theorem z_goA (C : zC p s m args meth c cc nL own G A) {st0 : List Value} {dR dL : Nat} {wc' : va_W} {r : Option Value} (X : zCall p l e R s m args below meth c nL G k n pc st0 st (zR dR dL) w (fun r1 w1 => r1 = r ∧ w1 = wc')) (st2 : List Value) (pc' : Nat) (hs : r.toList ++ st = st2) (hp : pc + 3 = pc')
    (K : zV p l e R s m args below meth c nL G A Q k n wc' pc' lv st2) : zV p l e R s m args below meth c nL G A Q k n w pc lv st0 := by
  subst hp
  subst hs
  intro H locs ls hP hD hS hl T hT Y
  have hFc : ∀ q, va_A w H.size q → A q := fun q h => by
    rcases h with ⟨j, e9, h⟩ | h
    · exact hD.2 j (q, e9) h
    · exact C.2.2.2.2.2.2 q (Nat.le_trans hS.1 h)
  obtain ⟨v, st₀, t, T', L, h0, X', hL, e1, e2, ⟨⟨r1, w1, hv, ⟨hr1, hw1⟩, hP1, hD1⟩, hz, hk⟩, stp⟩ := X H locs ls hl.1 hP (hD.weaken (fun _ _ _ _ => trivial)) T hT Y
  cases hv
  subst hr1
  subst hw1
  rw [h0] at hz hk
  have hS2 : va_S A s.heap T'.heap (locs ++ L) := ⟨Nat.le_trans hS.1 (by rw [e1]; exact hz), fun q h1 h2 => by rw [e1, hk q (Nat.lt_of_lt_of_le h1 hS.1) (fun z => h2 (hFc q z))]; exact hS.2.1 q h1 h2, fun q hq => by
      rcases List.mem_append.mp hq with h | h
      · exact hS.2.2 q h
      · exact hFc _ (hL q h)⟩
  obtain ⟨t2, a1, b1⟩ := K T'.heap (locs ++ L) ls (by rw [e1]; exact hP1) (hD1.weaken (fun _ q _ h => hFc q.1 h)) hS2 hl T' rfl X'
  exact ⟨t2, stp t2 a1, b1⟩
/-- a call that reaches no cell -/
theorem z_go0 (C : zC p s m args meth c cc nL own G A) {st0 : List Value} {dR dL : Nat} {r : Option Value} (X : zCall p l e R s m args below meth c nL G k n pc st0 st (zR dR dL) [] (fun r1 w1 => r1 = r ∧ w1 = [])) (is : List Nat) (st2 : List Value) (pc' : Nat) (hs : r.toList ++ st = st2) (hp : pc + 3 = pc') (hi : is.map (fun i => w[i]?) = w.map some) (hn : va_nd is = true)
    (K : zV p l e R s m args below meth c nL G A Q k n w pc' lv st2) : zV p l e R s m args below meth c nL G A Q k n w pc lv st0 :=
  z_goF C X [] is is w w st2 pc' hs hp rfl rfl hi hn (fun _ _ h => by cases h) (by rw [List.append_nil]; exact hi) hn K
theorem z_obj (C : zC p s m args meth c cc nL own G A) {index a : Nat} (pc' : Nat) (hd : decode cc pc = .ok (.invokespecial index, 3)) (hp : pc + 3 = pc') (hl : Cond.methodLink own index objectInit ∈ zTs) (hi : Cond.instanceMethod objectInit ∈ zTs) (hc : Cond.code objectInit ⟨#[0xb1]⟩ 1 none ∈ zTs) (hf : 1 ≤ R.frames) (ho : (st.map fun v => v.category).sum + 12 ≤ R.locals) (K : zV p l e R s m args below meth c nL G A Q k n w pc' lv st) : zV p l e R s m args below meth c nL G A Q k n w pc lv (.ref a :: st) := by
  subst hp
  intro H locs ls hP hD hS hlv
  refine W.objInit C.1 C.2.1 C.2.2.2.1 (C.2.2.2.2.1 _ hl) (C.2.2.2.2.1 _ hi) (C.2.2.2.2.1 _ hc) rfl (by rw [C.2.2.1]; exact hlv.1) rfl hd hf ?_ ?_
  · show 2 * 0 + _ + 12 ≤ _
    omega
  · exact K H locs ls hP hD hS hlv
theorem z_new (C : zC p s m args meth c cc nL own G A) {index ci : Nat} {Cn : String} {T : u_T} {N : Nat} {ty0 : Nat → FieldType} {fs : List Value} (pc' : Nat) (hd : decode cc pc = .ok (.new index, 3)) (hp : pc + 3 = pc') (hc : vwCl[ci]? = some (Cn, T, N)) (hws : ∀ w ∈ u_ws Cn T N, w ∈ zTs) (hty : ∀ j, j < N → parseFieldDescriptor (T j).2.2.1 = some (ty0 j)) (hl : Cond.classLink own index Cn ∈ zTs) (hi : Cond.instantiable Cn N ∈ zTs) (hini : Cond.initialized Cn ∈ zTs) (hfs : ∀ j, j < N → defaultValue (ty0 j) = vp_V fs j) (h1 : k + 1 ≤ R.cells) (h2 : n + N ≤ R.slots)
    (K : ∀ q : Nat, zV p l e R s m args below meth c nL G A Q (k + 1) (n + N) (w ++ [(q, .inr (ci, fs))]) pc' lv (.ref q :: st)) : zV p l e R s m args below meth c nL G A Q k n w pc lv st := by
  subst hp
  intro H locs ls hP hD hS hlv
  exact va_new (D := G.1) C.1 C.2.1 C.2.2.2.2.1 hws ty0 hty C.2.2.2.1 (C.2.2.2.2.1 _ hl) (C.2.2.2.2.1 _ hi) (C.2.2.2.2.1 _ hini) C.2.2.2.2.2.1.1 hP hD hS C.2.2.2.2.2.2 hc hfs h1 h2 hd (fun q H1 hP1 hD1 hS1 => K q H1 locs ls hP1 hD1 hS1 hlv)
theorem z_newi (C : zC p s m args meth c cc nL own G A) {x : Int32} {len : Nat} (pc' : Nat) (hd : decode cc pc = .ok (.newarray .int, 2)) (hp : pc + 2 = pc') (ht : (zTy G.2)[0]? = some (G.2 0, .int)) (har : Cond.arrayClass .int ∈ zTs) (hx : ¬ x < 0) (hlen : x.toNatClampNeg = len) (hby : len * 4 ≤ 536870912) (h1 : k + 1 ≤ R.cells) (h2 : n + len ≤ R.slots)
    (K : ∀ q : Nat, zV p l e R s m args below meth c nL G A Q (k + 1) (n + len) (w ++ [(q, .inl (G.2 0, len, .inl (fun _ => 0)))]) pc' lv (.ref q :: st)) : zV p l e R s m args below meth c nL G A Q k n w pc lv (.int x :: st) := by
  subst hp
  intro H locs ls hP hD hS hlv
  refine va_newa (atype := .int) (ty := .int) (a0 := (len, .inl (fun _ => 0))) C.1 C.2.1 (C.2.2.2.2.1 _ har) rfl C.2.2.2.2.2.1.1 hP hD hS C.2.2.2.2.2.2 (fun cA => rfl) hx hlen hby h1 h2 hd (fun q cA H1 hK1 hP1 hD1 hS1 => ?_)
  have e1 : va_RA s cA .int := (hK1.2 _ (cA, .int) List.getElem?_concat_length).2
  have e2 : va_RA s (G.2 0) .int := (C.2.2.2.2.2.1.1.2 0 _ ht).2
  have e3 : cA = G.2 0 := Option.some.inj (e1.symm.trans e2)
  subst e3
  exact K q H1 locs ls hP1 hD1 hS1 hlv
theorem z_newb (C : zC p s m args meth c cc nL own G A) {x : Int32} {len : Nat} (pc' : Nat) (hd : decode cc pc = .ok (.newarray .byte, 2)) (hp : pc + 2 = pc') (ht : (zTy G.2)[1]? = some (G.2 1, .byte)) (har : Cond.arrayClass .byte ∈ zTs) (hx : ¬ x < 0) (hlen : x.toNatClampNeg = len) (hby : len * 1 ≤ 536870912) (h1 : k + 1 ≤ R.cells) (h2 : n + len ≤ R.slots)
    (K : ∀ q : Nat, zV p l e R s m args below meth c nL G A Q (k + 1) (n + len) (w ++ [(q, .inl (G.2 1, len, .inl (fun _ => 0)))]) pc' lv (.ref q :: st)) : zV p l e R s m args below meth c nL G A Q k n w pc lv (.int x :: st) := by
  subst hp
  intro H locs ls hP hD hS hlv
  refine va_newa (atype := .byte) (ty := .byte) (a0 := (len, .inl (fun _ => 0))) C.1 C.2.1 (C.2.2.2.2.1 _ har) rfl C.2.2.2.2.2.1.1 hP hD hS C.2.2.2.2.2.2 (fun cA => rfl) hx hlen hby h1 h2 hd (fun q cA H1 hK1 hP1 hD1 hS1 => ?_)
  have e1 : va_RA s cA .byte := (hK1.2 _ (cA, .byte) List.getElem?_concat_length).2
  have e2 : va_RA s (G.2 1) .byte := (C.2.2.2.2.2.1.1.2 1 _ ht).2
  have e3 : cA = G.2 1 := Option.some.inj (e1.symm.trans e2)
  subst e3
  exact K q H1 locs ls hP1 hD1 hS1 hlv
theorem z_sld (C : zC p s m args meth c cc nL own G A) {b L : Nat} {xs : Nat → Int32} (hX : va_X b L xs s s.heap) (hbl : b < s.heap.size) (hbA : ¬ A b) {i : Int32} (pc' : Nat) (hd : decode cc pc = .ok (.iaload, 1)) (hp : pc + 1 = pc') (hin : vp_in i L) (K : zV p l e R s m args below meth c nL G A Q k n w pc' lv (.int (xs i.toNatClampNeg) :: st)) : zV p l e R s m args below meth c nL G A Q k n w pc lv (.int i :: .ref b :: st) := by
  subst hp
  intro H locs ls hP hD hS hl
  exact va_sld C.1 C.2.1 hX hbl hbA hS hin hd (K H locs ls hP hD hS hl)
theorem z_slen (C : zC p s m args meth c cc nL own G A) {b L : Nat} {xs : Nat → Int32} (hX : va_X b L xs s s.heap) (hbl : b < s.heap.size) (hbA : ¬ A b) (pc' : Nat) (hd : decode cc pc = .ok (.arraylength, 1)) (hp : pc + 1 = pc') (K : zV p l e R s m args below meth c nL G A Q k n w pc' lv (.int (Int32.ofNat L) :: st)) : zV p l e R s m args below meth c nL G A Q k n w pc lv (.ref b :: st) := by
  subst hp
  intro H locs ls hP hD hS hl
  exact va_slen C.1 C.2.1 hX hbl hbA hS hd (K H locs ls hP hD hS hl)
end ZLAYER
