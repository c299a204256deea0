abbrev SK : Type := (Nat → Int32) × (Nat → Int32) × (Nat → Int32) × Int64 × Int32 × Int32 × Int32
def sK_numbers (S : SK) : (Nat → Int32) := S.1
def uK_numbers (S : SK) (x : (Nat → Int32)) : SK := (x, S.2.1, S.2.2.1, S.2.2.2.1, S.2.2.2.2.1, S.2.2.2.2.2.1, S.2.2.2.2.2.2)
def sK_signs (S : SK) : (Nat → Int32) := S.2.1
def uK_signs (S : SK) (x : (Nat → Int32)) : SK := (S.1, x, S.2.2.1, S.2.2.2.1, S.2.2.2.2.1, S.2.2.2.2.2.1, S.2.2.2.2.2.2)
def sK_titleStarts (S : SK) : (Nat → Int32) := S.2.2.1
def uK_titleStarts (S : SK) (x : (Nat → Int32)) : SK := (S.1, S.2.1, x, S.2.2.2.1, S.2.2.2.2.1, S.2.2.2.2.2.1, S.2.2.2.2.2.2)
def sK_chance (S : SK) : Int64 := S.2.2.2.1
def uK_chance (S : SK) (x : Int64) : SK := (S.1, S.2.1, S.2.2.1, x, S.2.2.2.2.1, S.2.2.2.2.2.1, S.2.2.2.2.2.2)
def sK_kind (S : SK) : Int32 := S.2.2.2.2.1
def uK_kind (S : SK) (x : Int32) : SK := (S.1, S.2.1, S.2.2.1, S.2.2.2.1, x, S.2.2.2.2.2.1, S.2.2.2.2.2.2)
def sK_parts (S : SK) : Int32 := S.2.2.2.2.2.1
def uK_parts (S : SK) (x : Int32) : SK := (S.1, S.2.1, S.2.2.1, S.2.2.2.1, S.2.2.2.2.1, x, S.2.2.2.2.2.2)
def sK_signsUsed (S : SK) : Int32 := S.2.2.2.2.2.2
def uK_signsUsed (S : SK) (x : Int32) : SK := (S.1, S.2.1, S.2.2.1, S.2.2.2.1, S.2.2.2.2.1, S.2.2.2.2.2.1, x)
def wK (G : zG) (a : Nat → Nat) (S : SK) : va_W := [(a 0, .inr (0, [.ref (a 1), .ref (a 2), .ref (a 3), .long (sK_chance S), .int (sK_kind S), .int (sK_parts S), .int (sK_signsUsed S)])), (a 1, .inl (G.2 0, 63, .inl (sK_numbers S))), (a 2, .inl (G.2 0, 147, .inl (sK_signs S))), (a 3, .inl (G.2 0, 21, .inl (sK_titleStarts S)))]
theorem wK_set_numbers (G : zG) (a : Nat → Nat) (S : SK) (x : (Nat → Int32)) : (wK G a S).set 1 (a 1, .inl (G.2 0, 63, .inl x)) = wK G a (uK_numbers S x) := rfl
theorem wK_set_signs (G : zG) (a : Nat → Nat) (S : SK) (x : (Nat → Int32)) : (wK G a S).set 2 (a 2, .inl (G.2 0, 147, .inl x)) = wK G a (uK_signs S x) := rfl
theorem wK_set_titleStarts (G : zG) (a : Nat → Nat) (S : SK) (x : (Nat → Int32)) : (wK G a S).set 3 (a 3, .inl (G.2 0, 21, .inl x)) = wK G a (uK_titleStarts S x) := rfl
theorem wK_put_chance (G : zG) (a : Nat → Nat) (S : SK) (x : Int64) : (wK G a S).set 0 (a 0, .inr (0, ([.ref (a 1), .ref (a 2), .ref (a 3), .long (sK_chance S), .int (sK_kind S), .int (sK_parts S), .int (sK_signsUsed S)] : List Value).set 3 (.long x))) = wK G a (uK_chance S x) := rfl
theorem wK_put_kind (G : zG) (a : Nat → Nat) (S : SK) (x : Int32) : (wK G a S).set 0 (a 0, .inr (0, ([.ref (a 1), .ref (a 2), .ref (a 3), .long (sK_chance S), .int (sK_kind S), .int (sK_parts S), .int (sK_signsUsed S)] : List Value).set 4 (.int x))) = wK G a (uK_kind S x) := rfl
theorem wK_put_parts (G : zG) (a : Nat → Nat) (S : SK) (x : Int32) : (wK G a S).set 0 (a 0, .inr (0, ([.ref (a 1), .ref (a 2), .ref (a 3), .long (sK_chance S), .int (sK_kind S), .int (sK_parts S), .int (sK_signsUsed S)] : List Value).set 5 (.int x))) = wK G a (uK_parts S x) := rfl
theorem wK_put_signsUsed (G : zG) (a : Nat → Nat) (S : SK) (x : Int32) : (wK G a S).set 0 (a 0, .inr (0, ([.ref (a 1), .ref (a 2), .ref (a 3), .long (sK_chance S), .int (sK_kind S), .int (sK_parts S), .int (sK_signsUsed S)] : List Value).set 6 (.int x))) = wK G a (uK_signsUsed S x) := rfl
abbrev SR : Type := (Nat → Int32) × Int32
def sR_rows (S : SR) : (Nat → Int32) := S.1
def uR_rows (S : SR) (x : (Nat → Int32)) : SR := (x, S.2)
def sR_told (S : SR) : Int32 := S.2
def uR_told (S : SR) (x : Int32) : SR := (S.1, x)
def wR (G : zG) (a : Nat → Nat) (S : SR) : va_W := [(a 0, .inr (1, [.ref (a 1), .int (sR_told S)])), (a 1, .inl (G.2 0, 6, .inl (sR_rows S)))]
theorem wR_set_rows (G : zG) (a : Nat → Nat) (S : SR) (x : (Nat → Int32)) : (wR G a S).set 1 (a 1, .inl (G.2 0, 6, .inl x)) = wR G a (uR_rows S x) := rfl
theorem wR_put_told (G : zG) (a : Nat → Nat) (S : SR) (x : Int32) : (wR G a S).set 0 (a 0, .inr (1, ([.ref (a 1), .int (sR_told S)] : List Value).set 1 (.int x))) = wR G a (uR_told S x) := rfl
abbrev SD : Type := Int64 × SK × SK × SK × SR × SR × Int32
def sD_seed (S : SD) : Int64 := S.1
def uD_seed (S : SD) (x : Int64) : SD := (x, S.2.1, S.2.2.1, S.2.2.2.1, S.2.2.2.2.1, S.2.2.2.2.2.1, S.2.2.2.2.2.2)
def sD_drawn (S : SD) : SK := S.2.1
def uD_drawn (S : SD) (x : SK) : SD := (S.1, x, S.2.2.1, S.2.2.2.1, S.2.2.2.2.1, S.2.2.2.2.2.1, S.2.2.2.2.2.2)
def sD_ours (S : SD) : SK := S.2.2.1
def uD_ours (S : SD) (x : SK) : SD := (S.1, S.2.1, x, S.2.2.2.1, S.2.2.2.2.1, S.2.2.2.2.2.1, S.2.2.2.2.2.2)
def sD_theirs (S : SD) : SK := S.2.2.2.1
def uD_theirs (S : SD) (x : SK) : SD := (S.1, S.2.1, S.2.2.1, x, S.2.2.2.2.1, S.2.2.2.2.2.1, S.2.2.2.2.2.2)
def sD_needed (S : SD) : SR := S.2.2.2.2.1
def uD_needed (S : SD) (x : SR) : SD := (S.1, S.2.1, S.2.2.1, S.2.2.2.1, x, S.2.2.2.2.2.1, S.2.2.2.2.2.2)
def sD_together (S : SD) : SR := S.2.2.2.2.2.1
def uD_together (S : SD) (x : SR) : SD := (S.1, S.2.1, S.2.2.1, S.2.2.2.1, S.2.2.2.2.1, x, S.2.2.2.2.2.2)
def sD_leftParts (S : SD) : Int32 := S.2.2.2.2.2.2
def uD_leftParts (S : SD) (x : Int32) : SD := (S.1, S.2.1, S.2.2.1, S.2.2.2.1, S.2.2.2.2.1, S.2.2.2.2.2.1, x)
abbrev SM : Type := Int32 × Int64 × Int64 × Int32 × Int32 × (Nat → Int32) × (Nat → Int32) × Int32 × Int32 × (Nat → Int32) × Int32
def sM_thrown (S : SM) : Int32 := S.1
def uM_thrown (S : SM) (x : Int32) : SM := (x, S.2.1, S.2.2.1, S.2.2.2.1, S.2.2.2.2.1, S.2.2.2.2.2.1, S.2.2.2.2.2.2.1, S.2.2.2.2.2.2.2.1, S.2.2.2.2.2.2.2.2.1, S.2.2.2.2.2.2.2.2.2.1, S.2.2.2.2.2.2.2.2.2.2)
def sM_seed (S : SM) : Int64 := S.2.1
def uM_seed (S : SM) (x : Int64) : SM := (S.1, x, S.2.2.1, S.2.2.2.1, S.2.2.2.2.1, S.2.2.2.2.2.1, S.2.2.2.2.2.2.1, S.2.2.2.2.2.2.2.1, S.2.2.2.2.2.2.2.2.1, S.2.2.2.2.2.2.2.2.2.1, S.2.2.2.2.2.2.2.2.2.2)
def sM_chance (S : SM) : Int64 := S.2.2.1
def uM_chance (S : SM) (x : Int64) : SM := (S.1, S.2.1, x, S.2.2.2.1, S.2.2.2.2.1, S.2.2.2.2.2.1, S.2.2.2.2.2.2.1, S.2.2.2.2.2.2.2.1, S.2.2.2.2.2.2.2.2.1, S.2.2.2.2.2.2.2.2.2.1, S.2.2.2.2.2.2.2.2.2.2)
def sM_kind (S : SM) : Int32 := S.2.2.2.1
def uM_kind (S : SM) (x : Int32) : SM := (S.1, S.2.1, S.2.2.1, x, S.2.2.2.2.1, S.2.2.2.2.2.1, S.2.2.2.2.2.2.1, S.2.2.2.2.2.2.2.1, S.2.2.2.2.2.2.2.2.1, S.2.2.2.2.2.2.2.2.2.1, S.2.2.2.2.2.2.2.2.2.2)
def sM_parts (S : SM) : Int32 := S.2.2.2.2.1
def uM_parts (S : SM) (x : Int32) : SM := (S.1, S.2.1, S.2.2.1, S.2.2.2.1, x, S.2.2.2.2.2.1, S.2.2.2.2.2.2.1, S.2.2.2.2.2.2.2.1, S.2.2.2.2.2.2.2.2.1, S.2.2.2.2.2.2.2.2.2.1, S.2.2.2.2.2.2.2.2.2.2)
def sM_values (S : SM) : (Nat → Int32) := S.2.2.2.2.2.1
def uM_values (S : SM) (x : (Nat → Int32)) : SM := (S.1, S.2.1, S.2.2.1, S.2.2.2.1, S.2.2.2.2.1, x, S.2.2.2.2.2.2.1, S.2.2.2.2.2.2.2.1, S.2.2.2.2.2.2.2.2.1, S.2.2.2.2.2.2.2.2.2.1, S.2.2.2.2.2.2.2.2.2.2)
def sM_title (S : SM) : (Nat → Int32) := S.2.2.2.2.2.2.1
def uM_title (S : SM) (x : (Nat → Int32)) : SM := (S.1, S.2.1, S.2.2.1, S.2.2.2.1, S.2.2.2.2.1, S.2.2.2.2.2.1, x, S.2.2.2.2.2.2.2.1, S.2.2.2.2.2.2.2.2.1, S.2.2.2.2.2.2.2.2.2.1, S.2.2.2.2.2.2.2.2.2.2)
def sM_needed (S : SM) : Int32 := S.2.2.2.2.2.2.2.1
def uM_needed (S : SM) (x : Int32) : SM := (S.1, S.2.1, S.2.2.1, S.2.2.2.1, S.2.2.2.2.1, S.2.2.2.2.2.1, S.2.2.2.2.2.2.1, x, S.2.2.2.2.2.2.2.2.1, S.2.2.2.2.2.2.2.2.2.1, S.2.2.2.2.2.2.2.2.2.2)
def sM_together (S : SM) : Int32 := S.2.2.2.2.2.2.2.2.1
def uM_together (S : SM) (x : Int32) : SM := (S.1, S.2.1, S.2.2.1, S.2.2.2.1, S.2.2.2.2.1, S.2.2.2.2.2.1, S.2.2.2.2.2.2.1, S.2.2.2.2.2.2.2.1, x, S.2.2.2.2.2.2.2.2.2.1, S.2.2.2.2.2.2.2.2.2.2)
def sM_rows (S : SM) : (Nat → Int32) := S.2.2.2.2.2.2.2.2.2.1
def uM_rows (S : SM) (x : (Nat → Int32)) : SM := (S.1, S.2.1, S.2.2.1, S.2.2.2.1, S.2.2.2.2.1, S.2.2.2.2.2.1, S.2.2.2.2.2.2.1, S.2.2.2.2.2.2.2.1, S.2.2.2.2.2.2.2.2.1, x, S.2.2.2.2.2.2.2.2.2.2)
def sM_left (S : SM) : Int32 := S.2.2.2.2.2.2.2.2.2.2
def uM_left (S : SM) (x : Int32) : SM := (S.1, S.2.1, S.2.2.1, S.2.2.2.1, S.2.2.2.2.1, S.2.2.2.2.2.1, S.2.2.2.2.2.2.1, S.2.2.2.2.2.2.2.1, S.2.2.2.2.2.2.2.2.1, S.2.2.2.2.2.2.2.2.2.1, x)
def wM (G : zG) (a : Nat → Nat) (S : SM) : va_W := [(a 0, .inr (3, [.int (sM_thrown S), .long (sM_seed S), .long (sM_chance S), .int (sM_kind S), .int (sM_parts S), .ref (a 1), .ref (a 2), .int (sM_needed S), .int (sM_together S), .ref (a 3), .int (sM_left S)])), (a 1, .inl (G.2 0, 189, .inl (sM_values S))), (a 2, .inl (G.2 1, 378, .inl (sM_title S))), (a 3, .inl (G.2 0, 12, .inl (sM_rows S)))]
theorem wM_put_thrown (G : zG) (a : Nat → Nat) (S : SM) (x : Int32) : (wM G a S).set 0 (a 0, .inr (3, ([.int (sM_thrown S), .long (sM_seed S), .long (sM_chance S), .int (sM_kind S), .int (sM_parts S), .ref (a 1), .ref (a 2), .int (sM_needed S), .int (sM_together S), .ref (a 3), .int (sM_left S)] : List Value).set 0 (.int x))) = wM G a (uM_thrown S x) := rfl
theorem wM_put_seed (G : zG) (a : Nat → Nat) (S : SM) (x : Int64) : (wM G a S).set 0 (a 0, .inr (3, ([.int (sM_thrown S), .long (sM_seed S), .long (sM_chance S), .int (sM_kind S), .int (sM_parts S), .ref (a 1), .ref (a 2), .int (sM_needed S), .int (sM_together S), .ref (a 3), .int (sM_left S)] : List Value).set 1 (.long x))) = wM G a (uM_seed S x) := rfl
theorem wM_put_chance (G : zG) (a : Nat → Nat) (S : SM) (x : Int64) : (wM G a S).set 0 (a 0, .inr (3, ([.int (sM_thrown S), .long (sM_seed S), .long (sM_chance S), .int (sM_kind S), .int (sM_parts S), .ref (a 1), .ref (a 2), .int (sM_needed S), .int (sM_together S), .ref (a 3), .int (sM_left S)] : List Value).set 2 (.long x))) = wM G a (uM_chance S x) := rfl
theorem wM_put_kind (G : zG) (a : Nat → Nat) (S : SM) (x : Int32) : (wM G a S).set 0 (a 0, .inr (3, ([.int (sM_thrown S), .long (sM_seed S), .long (sM_chance S), .int (sM_kind S), .int (sM_parts S), .ref (a 1), .ref (a 2), .int (sM_needed S), .int (sM_together S), .ref (a 3), .int (sM_left S)] : List Value).set 3 (.int x))) = wM G a (uM_kind S x) := rfl
theorem wM_put_parts (G : zG) (a : Nat → Nat) (S : SM) (x : Int32) : (wM G a S).set 0 (a 0, .inr (3, ([.int (sM_thrown S), .long (sM_seed S), .long (sM_chance S), .int (sM_kind S), .int (sM_parts S), .ref (a 1), .ref (a 2), .int (sM_needed S), .int (sM_together S), .ref (a 3), .int (sM_left S)] : List Value).set 4 (.int x))) = wM G a (uM_parts S x) := rfl
theorem wM_set_values (G : zG) (a : Nat → Nat) (S : SM) (x : (Nat → Int32)) : (wM G a S).set 1 (a 1, .inl (G.2 0, 189, .inl x)) = wM G a (uM_values S x) := rfl
theorem wM_set_title (G : zG) (a : Nat → Nat) (S : SM) (x : (Nat → Int32)) : (wM G a S).set 2 (a 2, .inl (G.2 1, 378, .inl x)) = wM G a (uM_title S x) := rfl
theorem wM_put_needed (G : zG) (a : Nat → Nat) (S : SM) (x : Int32) : (wM G a S).set 0 (a 0, .inr (3, ([.int (sM_thrown S), .long (sM_seed S), .long (sM_chance S), .int (sM_kind S), .int (sM_parts S), .ref (a 1), .ref (a 2), .int (sM_needed S), .int (sM_together S), .ref (a 3), .int (sM_left S)] : List Value).set 7 (.int x))) = wM G a (uM_needed S x) := rfl
theorem wM_put_together (G : zG) (a : Nat → Nat) (S : SM) (x : Int32) : (wM G a S).set 0 (a 0, .inr (3, ([.int (sM_thrown S), .long (sM_seed S), .long (sM_chance S), .int (sM_kind S), .int (sM_parts S), .ref (a 1), .ref (a 2), .int (sM_needed S), .int (sM_together S), .ref (a 3), .int (sM_left S)] : List Value).set 8 (.int x))) = wM G a (uM_together S x) := rfl
theorem wM_set_rows (G : zG) (a : Nat → Nat) (S : SM) (x : (Nat → Int32)) : (wM G a S).set 3 (a 3, .inl (G.2 0, 12, .inl x)) = wM G a (uM_rows S x) := rfl
theorem wM_put_left (G : zG) (a : Nat → Nat) (S : SM) (x : Int32) : (wM G a S).set 0 (a 0, .inr (3, ([.int (sM_thrown S), .long (sM_seed S), .long (sM_chance S), .int (sM_kind S), .int (sM_parts S), .ref (a 1), .ref (a 2), .int (sM_needed S), .int (sM_together S), .ref (a 3), .int (sM_left S)] : List Value).set 10 (.int x))) = wM G a (uM_left S x) := rfl
def wD (G : zG) (a : Nat → Nat) (S : SD) : va_W := (a 0, .inr (2, [.long (sD_seed S), .ref (a 1), .ref (a 5), .ref (a 9), .ref (a 13), .ref (a 15), .int (sD_leftParts S)])) :: (wK G (fun i => a (i + 1)) (sD_drawn S) ++ (wK G (fun i => a (i + 5)) (sD_ours S) ++ (wK G (fun i => a (i + 9)) (sD_theirs S) ++ (wR G (fun i => a (i + 13)) (sD_needed S) ++ wR G (fun i => a (i + 15)) (sD_together S)))))
theorem wD_put_leftParts (G : zG) (a : Nat → Nat) (S : SD) (x : Int32) : (wD G a S).set 0 (a 0, .inr (2, ([.long (sD_seed S), .ref (a 1), .ref (a 5), .ref (a 9), .ref (a 13), .ref (a 15), .int (sD_leftParts S)] : List Value).set 6 (.int x))) = wD G a (uD_leftParts S x) := rfl
theorem z_go_drawn_ro {p : Program} {l : Launch} {e : Env} {R : Room} {s : State} {m : MethodId} {args : Array Value} {below : List Frame} {meth : Method} {c : Code} {Q : State → Prop} {cc : ByteArray} {nL : Nat} {own : String} {G : zG} {A : Nat → Prop} {k n pc : Nat} {lv : List (Nat × Value)} {st st0 : List Value} {dR dL : Nat} {r : Option Value} {a : Nat → Nat} {S : SD}  (C : zC p s m args meth c cc nL own G A) (X : zCall p l e R s m args below meth c nL G k n pc st0 st (zR dR dL) (wK G (fun i => a (i + 1)) (sD_drawn S)) (fun r1 w1 => r1 = r ∧ w1 = wK G (fun i => a (i + 1)) (sD_drawn S))) (st2 : List Value) (pc' : Nat) (hs : r.toList ++ st = st2) (hp : pc + 3 = pc') (K : zV p l e R s m args below meth c nL G A Q k n (wD G a S) pc' lv st2) : zV p l e R s m args below meth c nL G A Q k n (wD G a S) pc lv st0 :=
  z_goF C X [1, 2, 3, 4] [0, 5, 6, 7, 8, 9, 10, 11, 12, 13, 14, 15, 16] [0, 13, 14, 15, 16, 1, 2, 3, 4, 5, 6, 7, 8, 9, 10, 11, 12] ([0, 5, 6, 7, 8, 9, 10, 11, 12, 13, 14, 15, 16].filterMap fun i => (wD G a S)[i]?) (wD G a S) st2 pc' hs hp rfl rfl rfl rfl (by decide) rfl rfl K
theorem z_go_drawn {p : Program} {l : Launch} {e : Env} {R : Room} {s : State} {m : MethodId} {args : Array Value} {below : List Frame} {meth : Method} {c : Code} {Q : State → Prop} {cc : ByteArray} {nL : Nat} {own : String} {G : zG} {A : Nat → Prop} {k n pc : Nat} {lv : List (Nat × Value)} {st st0 : List Value} {dR dL : Nat} {r : Option Value} {a : Nat → Nat} {S : SD} {S' : SK} (C : zC p s m args meth c cc nL own G A) (X : zCall p l e R s m args below meth c nL G k n pc st0 st (zR dR dL) (wK G (fun i => a (i + 1)) (sD_drawn S)) (fun r1 w1 => r1 = r ∧ w1 = wK G (fun i => a (i + 1)) S')) (st2 : List Value) (pc' : Nat) (hs : r.toList ++ st = st2) (hp : pc + 3 = pc') (K : zV p l e R s m args below meth c nL G A Q k n (wD G a (uD_drawn S S')) pc' lv st2) : zV p l e R s m args below meth c nL G A Q k n (wD G a S) pc lv st0 :=
  z_goF C X [1, 2, 3, 4] [0, 5, 6, 7, 8, 9, 10, 11, 12, 13, 14, 15, 16] [0, 13, 14, 15, 16, 1, 2, 3, 4, 5, 6, 7, 8, 9, 10, 11, 12] ([0, 5, 6, 7, 8, 9, 10, 11, 12, 13, 14, 15, 16].filterMap fun i => (wD G a S)[i]?) (wD G a (uD_drawn S S')) st2 pc' hs hp rfl rfl rfl rfl (by decide) rfl rfl K
theorem z_go_ours_ro {p : Program} {l : Launch} {e : Env} {R : Room} {s : State} {m : MethodId} {args : Array Value} {below : List Frame} {meth : Method} {c : Code} {Q : State → Prop} {cc : ByteArray} {nL : Nat} {own : String} {G : zG} {A : Nat → Prop} {k n pc : Nat} {lv : List (Nat × Value)} {st st0 : List Value} {dR dL : Nat} {r : Option Value} {a : Nat → Nat} {S : SD}  (C : zC p s m args meth c cc nL own G A) (X : zCall p l e R s m args below meth c nL G k n pc st0 st (zR dR dL) (wK G (fun i => a (i + 5)) (sD_ours S)) (fun r1 w1 => r1 = r ∧ w1 = wK G (fun i => a (i + 5)) (sD_ours S))) (st2 : List Value) (pc' : Nat) (hs : r.toList ++ st = st2) (hp : pc + 3 = pc') (K : zV p l e R s m args below meth c nL G A Q k n (wD G a S) pc' lv st2) : zV p l e R s m args below meth c nL G A Q k n (wD G a S) pc lv st0 :=
  z_goF C X [5, 6, 7, 8] [0, 1, 2, 3, 4, 9, 10, 11, 12, 13, 14, 15, 16] [0, 1, 2, 3, 4, 13, 14, 15, 16, 5, 6, 7, 8, 9, 10, 11, 12] ([0, 1, 2, 3, 4, 9, 10, 11, 12, 13, 14, 15, 16].filterMap fun i => (wD G a S)[i]?) (wD G a S) st2 pc' hs hp rfl rfl rfl rfl (by decide) rfl rfl K
theorem z_go_ours {p : Program} {l : Launch} {e : Env} {R : Room} {s : State} {m : MethodId} {args : Array Value} {below : List Frame} {meth : Method} {c : Code} {Q : State → Prop} {cc : ByteArray} {nL : Nat} {own : String} {G : zG} {A : Nat → Prop} {k n pc : Nat} {lv : List (Nat × Value)} {st st0 : List Value} {dR dL : Nat} {r : Option Value} {a : Nat → Nat} {S : SD} {S' : SK} (C : zC p s m args meth c cc nL own G A) (X : zCall p l e R s m args below meth c nL G k n pc st0 st (zR dR dL) (wK G (fun i => a (i + 5)) (sD_ours S)) (fun r1 w1 => r1 = r ∧ w1 = wK G (fun i => a (i + 5)) S')) (st2 : List Value) (pc' : Nat) (hs : r.toList ++ st = st2) (hp : pc + 3 = pc') (K : zV p l e R s m args below meth c nL G A Q k n (wD G a (uD_ours S S')) pc' lv st2) : zV p l e R s m args below meth c nL G A Q k n (wD G a S) pc lv st0 :=
  z_goF C X [5, 6, 7, 8] [0, 1, 2, 3, 4, 9, 10, 11, 12, 13, 14, 15, 16] [0, 1, 2, 3, 4, 13, 14, 15, 16, 5, 6, 7, 8, 9, 10, 11, 12] ([0, 1, 2, 3, 4, 9, 10, 11, 12, 13, 14, 15, 16].filterMap fun i => (wD G a S)[i]?) (wD G a (uD_ours S S')) st2 pc' hs hp rfl rfl rfl rfl (by decide) rfl rfl K
theorem z_go_theirs_ro {p : Program} {l : Launch} {e : Env} {R : Room} {s : State} {m : MethodId} {args : Array Value} {below : List Frame} {meth : Method} {c : Code} {Q : State → Prop} {cc : ByteArray} {nL : Nat} {own : String} {G : zG} {A : Nat → Prop} {k n pc : Nat} {lv : List (Nat × Value)} {st st0 : List Value} {dR dL : Nat} {r : Option Value} {a : Nat → Nat} {S : SD}  (C : zC p s m args meth c cc nL own G A) (X : zCall p l e R s m args below meth c nL G k n pc st0 st (zR dR dL) (wK G (fun i => a (i + 9)) (sD_theirs S)) (fun r1 w1 => r1 = r ∧ w1 = wK G (fun i => a (i + 9)) (sD_theirs S))) (st2 : List Value) (pc' : Nat) (hs : r.toList ++ st = st2) (hp : pc + 3 = pc') (K : zV p l e R s m args below meth c nL G A Q k n (wD G a S) pc' lv st2) : zV p l e R s m args below meth c nL G A Q k n (wD G a S) pc lv st0 :=
  z_goF C X [9, 10, 11, 12] [0, 1, 2, 3, 4, 5, 6, 7, 8, 13, 14, 15, 16] [0, 1, 2, 3, 4, 5, 6, 7, 8, 13, 14, 15, 16, 9, 10, 11, 12] ([0, 1, 2, 3, 4, 5, 6, 7, 8, 13, 14, 15, 16].filterMap fun i => (wD G a S)[i]?) (wD G a S) st2 pc' hs hp rfl rfl rfl rfl (by decide) rfl rfl K
theorem z_go_theirs {p : Program} {l : Launch} {e : Env} {R : Room} {s : State} {m : MethodId} {args : Array Value} {below : List Frame} {meth : Method} {c : Code} {Q : State → Prop} {cc : ByteArray} {nL : Nat} {own : String} {G : zG} {A : Nat → Prop} {k n pc : Nat} {lv : List (Nat × Value)} {st st0 : List Value} {dR dL : Nat} {r : Option Value} {a : Nat → Nat} {S : SD} {S' : SK} (C : zC p s m args meth c cc nL own G A) (X : zCall p l e R s m args below meth c nL G k n pc st0 st (zR dR dL) (wK G (fun i => a (i + 9)) (sD_theirs S)) (fun r1 w1 => r1 = r ∧ w1 = wK G (fun i => a (i + 9)) S')) (st2 : List Value) (pc' : Nat) (hs : r.toList ++ st = st2) (hp : pc + 3 = pc') (K : zV p l e R s m args below meth c nL G A Q k n (wD G a (uD_theirs S S')) pc' lv st2) : zV p l e R s m args below meth c nL G A Q k n (wD G a S) pc lv st0 :=
  z_goF C X [9, 10, 11, 12] [0, 1, 2, 3, 4, 5, 6, 7, 8, 13, 14, 15, 16] [0, 1, 2, 3, 4, 5, 6, 7, 8, 13, 14, 15, 16, 9, 10, 11, 12] ([0, 1, 2, 3, 4, 5, 6, 7, 8, 13, 14, 15, 16].filterMap fun i => (wD G a S)[i]?) (wD G a (uD_theirs S S')) st2 pc' hs hp rfl rfl rfl rfl (by decide) rfl rfl K
theorem z_go_needed_ro {p : Program} {l : Launch} {e : Env} {R : Room} {s : State} {m : MethodId} {args : Array Value} {below : List Frame} {meth : Method} {c : Code} {Q : State → Prop} {cc : ByteArray} {nL : Nat} {own : String} {G : zG} {A : Nat → Prop} {k n pc : Nat} {lv : List (Nat × Value)} {st st0 : List Value} {dR dL : Nat} {r : Option Value} {a : Nat → Nat} {S : SD}  (C : zC p s m args meth c cc nL own G A) (X : zCall p l e R s m args below meth c nL G k n pc st0 st (zR dR dL) (wR G (fun i => a (i + 13)) (sD_needed S)) (fun r1 w1 => r1 = r ∧ w1 = wR G (fun i => a (i + 13)) (sD_needed S))) (st2 : List Value) (pc' : Nat) (hs : r.toList ++ st = st2) (hp : pc + 3 = pc') (K : zV p l e R s m args below meth c nL G A Q k n (wD G a S) pc' lv st2) : zV p l e R s m args below meth c nL G A Q k n (wD G a S) pc lv st0 :=
  z_goF C X [13, 14] [0, 1, 2, 3, 4, 5, 6, 7, 8, 9, 10, 11, 12, 15, 16] [0, 1, 2, 3, 4, 5, 6, 7, 8, 9, 10, 11, 12, 15, 16, 13, 14] ([0, 1, 2, 3, 4, 5, 6, 7, 8, 9, 10, 11, 12, 15, 16].filterMap fun i => (wD G a S)[i]?) (wD G a S) st2 pc' hs hp rfl rfl rfl rfl (by decide) rfl rfl K
theorem z_go_needed {p : Program} {l : Launch} {e : Env} {R : Room} {s : State} {m : MethodId} {args : Array Value} {below : List Frame} {meth : Method} {c : Code} {Q : State → Prop} {cc : ByteArray} {nL : Nat} {own : String} {G : zG} {A : Nat → Prop} {k n pc : Nat} {lv : List (Nat × Value)} {st st0 : List Value} {dR dL : Nat} {r : Option Value} {a : Nat → Nat} {S : SD} {S' : SR} (C : zC p s m args meth c cc nL own G A) (X : zCall p l e R s m args below meth c nL G k n pc st0 st (zR dR dL) (wR G (fun i => a (i + 13)) (sD_needed S)) (fun r1 w1 => r1 = r ∧ w1 = wR G (fun i => a (i + 13)) S')) (st2 : List Value) (pc' : Nat) (hs : r.toList ++ st = st2) (hp : pc + 3 = pc') (K : zV p l e R s m args below meth c nL G A Q k n (wD G a (uD_needed S S')) pc' lv st2) : zV p l e R s m args below meth c nL G A Q k n (wD G a S) pc lv st0 :=
  z_goF C X [13, 14] [0, 1, 2, 3, 4, 5, 6, 7, 8, 9, 10, 11, 12, 15, 16] [0, 1, 2, 3, 4, 5, 6, 7, 8, 9, 10, 11, 12, 15, 16, 13, 14] ([0, 1, 2, 3, 4, 5, 6, 7, 8, 9, 10, 11, 12, 15, 16].filterMap fun i => (wD G a S)[i]?) (wD G a (uD_needed S S')) st2 pc' hs hp rfl rfl rfl rfl (by decide) rfl rfl K
theorem z_go_together_ro {p : Program} {l : Launch} {e : Env} {R : Room} {s : State} {m : MethodId} {args : Array Value} {below : List Frame} {meth : Method} {c : Code} {Q : State → Prop} {cc : ByteArray} {nL : Nat} {own : String} {G : zG} {A : Nat → Prop} {k n pc : Nat} {lv : List (Nat × Value)} {st st0 : List Value} {dR dL : Nat} {r : Option Value} {a : Nat → Nat} {S : SD}  (C : zC p s m args meth c cc nL own G A) (X : zCall p l e R s m args below meth c nL G k n pc st0 st (zR dR dL) (wR G (fun i => a (i + 15)) (sD_together S)) (fun r1 w1 => r1 = r ∧ w1 = wR G (fun i => a (i + 15)) (sD_together S))) (st2 : List Value) (pc' : Nat) (hs : r.toList ++ st = st2) (hp : pc + 3 = pc') (K : zV p l e R s m args below meth c nL G A Q k n (wD G a S) pc' lv st2) : zV p l e R s m args below meth c nL G A Q k n (wD G a S) pc lv st0 :=
  z_goF C X [15, 16] [0, 1, 2, 3, 4, 5, 6, 7, 8, 9, 10, 11, 12, 13, 14] [0, 1, 2, 3, 4, 5, 6, 7, 8, 9, 10, 11, 12, 13, 14, 15, 16] ([0, 1, 2, 3, 4, 5, 6, 7, 8, 9, 10, 11, 12, 13, 14].filterMap fun i => (wD G a S)[i]?) (wD G a S) st2 pc' hs hp rfl rfl rfl rfl (by decide) rfl rfl K
theorem z_go_together {p : Program} {l : Launch} {e : Env} {R : Room} {s : State} {m : MethodId} {args : Array Value} {below : List Frame} {meth : Method} {c : Code} {Q : State → Prop} {cc : ByteArray} {nL : Nat} {own : String} {G : zG} {A : Nat → Prop} {k n pc : Nat} {lv : List (Nat × Value)} {st st0 : List Value} {dR dL : Nat} {r : Option Value} {a : Nat → Nat} {S : SD} {S' : SR} (C : zC p s m args meth c cc nL own G A) (X : zCall p l e R s m args below meth c nL G k n pc st0 st (zR dR dL) (wR G (fun i => a (i + 15)) (sD_together S)) (fun r1 w1 => r1 = r ∧ w1 = wR G (fun i => a (i + 15)) S')) (st2 : List Value) (pc' : Nat) (hs : r.toList ++ st = st2) (hp : pc + 3 = pc') (K : zV p l e R s m args below meth c nL G A Q k n (wD G a (uD_together S S')) pc' lv st2) : zV p l e R s m args below meth c nL G A Q k n (wD G a S) pc lv st0 :=
  z_goF C X [15, 16] [0, 1, 2, 3, 4, 5, 6, 7, 8, 9, 10, 11, 12, 13, 14] [0, 1, 2, 3, 4, 5, 6, 7, 8, 9, 10, 11, 12, 13, 14, 15, 16] ([0, 1, 2, 3, 4, 5, 6, 7, 8, 9, 10, 11, 12, 13, 14].filterMap fun i => (wD G a S)[i]?) (wD G a (uD_together S S')) st2 pc' hs hp rfl rfl rfl rfl (by decide) rfl rfl K
theorem znr_i (x : Int32) : narrow .int (.int x) = .int x := rfl
theorem zft_i (x : Int32) : fits .int (.int x) = true := rfl
theorem znr_l (x : Int64) : narrow .long (.long x) = .long x := rfl
theorem zft_l (x : Int64) : fits .long (.long x) = true := rfl
theorem bi_nar {x : Int32} (h : x = 0 ∨ x = 1) : narrow .boolean (.int x) = .int x := by rcases h with rfl | rfl <;> rfl
theorem zi_succ {i b : Int32} (h : i < b) : (i + 1).toInt = i.toInt + 1 := by
  have h1 := Int32.lt_iff_toInt_lt.mp h
  have h2 := Int32.toInt_lt b
  have h3 := Int32.le_toInt i
  rw [Int32.toInt_add]
  have e1 : (1 : Int32).toInt = 1 := by decide
  rw [e1]
  apply Int.bmod_eq_of_le <;> omega
theorem zdec {i b : Int32} {n : Nat} (h : ¬ b ≤ i) (hm : (b.toInt - i.toInt).toNat < n + 1) : (b.toInt - (i + 1).toInt).toNat < n := by
  have h0 : i < b := Int32.not_le.mp h
  have h1 := Int32.lt_iff_toInt_lt.mp h0
  rw [zi_succ h0]
  omega
theorem zdecD {i : Int32} {n : Nat} (h : ¬ i < 0) (hm : (i.toInt + 1).toNat < n + 1) : ((i + (-1)).toInt + 1).toNat < n := by
  have h0 : 0 ≤ i := Int32.not_lt.mp h
  have h1 := Int32.le_iff_toInt_le.mp h0
  have h2 := Int32.toInt_lt i
  have e0 : (0 : Int32).toInt = 0 := by decide
  have e1 : (-1 : Int32).toInt = -1 := by decide
  rw [e0] at h1
  rw [Int32.toInt_add, e1, Int.bmod_eq_of_le (by omega) (by omega)]
  omega
