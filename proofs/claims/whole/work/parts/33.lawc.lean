theorem z_sldn {p : Program} {l : Launch} {e : Env} {R : Room} {s : State} {m : MethodId} {args : Array Value} {below : List Frame} {meth : Method} {c : Code} {Q : State → Prop} {cc : ByteArray} {nL : Nat} {own : String} {G : zG} {A : Nat → Prop} {k n : Nat} {w : va_W} {pc : Nat} {lv : List (Nat × Value)} {st : List Value} (C : zC p s m args meth c cc nL own G A) {b L : Nat} {xs : Nat → Int32} (hX : va_X b L xs s s.heap) (hbl : b < s.heap.size) (hbA : ¬ A b) {i v : Int32} (pc' : Nat) (hd : decode cc pc = .ok (.iaload, 1)) (hp : pc + 1 = pc') (hin : vp_in i L) (hv : xs i.toNatClampNeg = v) (K : zV p l e R s m args below meth c nL G A Q k n w pc' lv (.int v :: st)) : zV p l e R s m args below meth c nL G A Q k n w pc lv (.int i :: .ref b :: st) := z_sld C hX hbl hbA pc' hd hp hin (by rw [hv]; exact K)
set_option maxRecDepth 100000 in
set_option maxHeartbeats 4000000 in
theorem law_draw {p : Program} {l : Launch} {e : Env} {s : State} {m : MethodId} {below : List Frame} {meth : Method} {c : Code} {G : zG} {b L : Nat} {xs : Nat → Int32} {a a' : Nat → Nat} {Q : State → Prop} (C : zC p s m #[Value.ref b] meth c code 4 N_L G (va_A [] s.heap.size)) (hX : va_X b L xs s s.heap) (hbl : b < s.heap.size) (hbA : ¬ va_A [] s.heap.size b) (hL : L ≤ 2561) {j : Nat} (hj : j + 5 ≤ L) {x1 x2 x3 x4 : Int32} {X : Int64} (h1 : xs (Int32.toNatClampNeg (nI j + 1)) = x1) (h2 : xs (Int32.toNatClampNeg (nI j + 2)) = x2) (h3 : xs (Int32.toNatClampNeg (nI j + 3)) = x3) (h4 : xs (Int32.toNatClampNeg (nI j + 4)) = x4) (hx : (Int32.toInt64 x1 <<< (Int32.toInt64 32 &&& 63)) ||| (Int32.toInt64 x2 &&& 4294967295) = X) {D : SD} {M : SM} (hB : Big D M) (K : ∀ (D' : SD) (M' : SM), Big D' M' → zV p l e room_1 s m #[Value.ref b] below meth c 4 G (va_A [] s.heap.size) Q 21 1327 (wD G a D' ++ wM G a' M') 431 [(0, .ref b), (1, .ref (a 0)), (2, .ref (a' 0)), (3, .int (nI j))] []) : zV p l e room_1 s m #[Value.ref b] below meth c 4 G (va_A [] s.heap.size) Q 21 1327 (wD G a D ++ wM G a' M) 104 [(0, .ref b), (1, .ref (a 0)), (2, .ref (a' 0)), (3, .int (nI j))] [] := by
  obtain ⟨hA, hB2⟩ := op_draw hB x1 x2
  refine z_aload_n C 105 d_L_law_104 rfl rfl ?_
  refine z_aload_n C 106 d_L_law_105 rfl rfl ?_
  refine z_iload_n C 107 d_L_law_106 rfl rfl ?_
  refine z_iconst C 1 108 d_L_law_107 rfl (by decide) ?_
  refine z_iadd C 109 d_L_law_108 rfl ?_
  refine z_sldn C hX hbl hbA 110 d_L_law_109 rfl (lx (d := 1) hj (by decide) hL) h1 ?_
  refine z_aload_n C 111 d_L_law_110 rfl rfl ?_
  refine z_iload_n C 112 d_L_law_111 rfl rfl ?_
  refine z_iconst C 2 113 d_L_law_112 rfl (by decide) ?_
  refine z_iadd C 114 d_L_law_113 rfl ?_
  refine z_sldn C hX hbl hbA 115 d_L_law_114 rfl (lx (d := 2) hj (by decide) hL) h2 ?_
  refine z_goD C (z_V C kc_L_21 (c_D_draw G l a D x1 x2) (st := []) 0 2 rfl rfl rfl rfl (Nat.le_of_ble_eq_true rfl) ⟨⟨Nat.le_of_ble_eq_true rfl, Nat.le_of_ble_eq_true rfl⟩, Nat.le_of_ble_eq_true rfl, Nat.le_of_ble_eq_true rfl⟩ d_L_law_115) [.int (F_D_draw D x1 x2).1] 118 rfl rfl ?_
  refine z_aload_n C 119 d_L_law_118 rfl rfl ?_
  refine z_aload_n C 120 d_L_law_119 rfl rfl ?_
  refine z_iload_n C 121 d_L_law_120 rfl rfl ?_
  refine z_iconst C 1 122 d_L_law_121 rfl (by decide) ?_
  refine z_iadd C 123 d_L_law_122 rfl ?_
  refine z_sldn C hX hbl hbA 124 d_L_law_123 rfl (lx (d := 1) hj (by decide) hL) h1 ?_
  refine z_aload_n C 125 d_L_law_124 rfl rfl ?_
  refine z_iload_n C 126 d_L_law_125 rfl rfl ?_
  refine z_iconst C 2 127 d_L_law_126 rfl (by decide) ?_
  refine z_iadd C 128 d_L_law_127 rfl ?_
  refine z_sldn C hX hbl hbA 129 d_L_law_128 rfl (lx (d := 2) hj (by decide) hL) h2 ?_
  refine z_goM C (z_V C kc_L_25 (c_M_draw G l a' M x1 x2) (st := [.int (F_D_draw D x1 x2).1]) 0 3 rfl rfl rfl rfl (Nat.le_of_ble_eq_true rfl) ⟨⟨Nat.le_of_ble_eq_true rfl, Nat.le_of_ble_eq_true rfl⟩, Nat.le_of_ble_eq_true rfl, Nat.le_of_ble_eq_true rfl⟩ d_L_law_129) [.int (F_M_draw M x1 x2).1, .int (F_D_draw D x1 x2).1] 132 rfl rfl ?_
  refine z_icmp_eq C 431 135 d_L_law_132 (by decide) rfl (fun q => ?_) (fun q => ?_)
  · exact K (F_D_draw D x1 x2).2 (F_M_draw M x1 x2).2 hB2
  · exact absurd hA q

set_option maxRecDepth 100000 in
set_option maxHeartbeats 4000000 in
theorem law_part {p : Program} {l : Launch} {e : Env} {s : State} {m : MethodId} {below : List Frame} {meth : Method} {c : Code} {G : zG} {b L : Nat} {xs : Nat → Int32} {a a' : Nat → Nat} {Q : State → Prop} (C : zC p s m #[Value.ref b] meth c code 4 N_L G (va_A [] s.heap.size)) (hX : va_X b L xs s s.heap) (hbl : b < s.heap.size) (hbA : ¬ va_A [] s.heap.size b) (hL : L ≤ 2561) {j : Nat} (hj : j + 5 ≤ L) {x1 x2 x3 x4 : Int32} {X : Int64} (h1 : xs (Int32.toNatClampNeg (nI j + 1)) = x1) (h2 : xs (Int32.toNatClampNeg (nI j + 2)) = x2) (h3 : xs (Int32.toNatClampNeg (nI j + 3)) = x3) (h4 : xs (Int32.toNatClampNeg (nI j + 4)) = x4) (hx : (Int32.toInt64 x1 <<< (Int32.toInt64 32 &&& 63)) ||| (Int32.toInt64 x2 &&& 4294967295) = X) {D : SD} {M : SM} (hB : Big D M) (K : ∀ (D' : SD) (M' : SM), Big D' M' → zV p l e room_1 s m #[Value.ref b] below meth c 4 G (va_A [] s.heap.size) Q 21 1327 (wD G a D' ++ wM G a' M') 431 [(0, .ref b), (1, .ref (a 0)), (2, .ref (a' 0)), (3, .int (nI j))] []) : zV p l e room_1 s m #[Value.ref b] below meth c 4 G (va_A [] s.heap.size) Q 21 1327 (wD G a D ++ wM G a' M) 137 [(0, .ref b), (1, .ref (a 0)), (2, .ref (a' 0)), (3, .int (nI j))] [] := by
  obtain ⟨hA, hB2⟩ := op_part hB x1 x2
  refine z_aload_n C 138 d_L_law_137 rfl rfl ?_
  refine z_aload_n C 139 d_L_law_138 rfl rfl ?_
  refine z_iload_n C 140 d_L_law_139 rfl rfl ?_
  refine z_iconst C 1 141 d_L_law_140 rfl (by decide) ?_
  refine z_iadd C 142 d_L_law_141 rfl ?_
  refine z_sldn C hX hbl hbA 143 d_L_law_142 rfl (lx (d := 1) hj (by decide) hL) h1 ?_
  refine z_aload_n C 144 d_L_law_143 rfl rfl ?_
  refine z_iload_n C 145 d_L_law_144 rfl rfl ?_
  refine z_iconst C 2 146 d_L_law_145 rfl (by decide) ?_
  refine z_iadd C 147 d_L_law_146 rfl ?_
  refine z_sldn C hX hbl hbA 148 d_L_law_147 rfl (lx (d := 2) hj (by decide) hL) h2 ?_
  refine z_goD C (z_V C kc_L_26 (c_D_part G l a D x1 x2) (st := []) 0 2 rfl rfl rfl rfl (Nat.le_of_ble_eq_true rfl) ⟨⟨Nat.le_of_ble_eq_true rfl, Nat.le_of_ble_eq_true rfl⟩, Nat.le_of_ble_eq_true rfl, Nat.le_of_ble_eq_true rfl⟩ d_L_law_148) [.int (F_D_part D x1 x2)] 151 rfl rfl ?_
  refine z_aload_n C 152 d_L_law_151 rfl rfl ?_
  refine z_aload_n C 153 d_L_law_152 rfl rfl ?_
  refine z_iload_n C 154 d_L_law_153 rfl rfl ?_
  refine z_iconst C 1 155 d_L_law_154 rfl (by decide) ?_
  refine z_iadd C 156 d_L_law_155 rfl ?_
  refine z_sldn C hX hbl hbA 157 d_L_law_156 rfl (lx (d := 1) hj (by decide) hL) h1 ?_
  refine z_aload_n C 158 d_L_law_157 rfl rfl ?_
  refine z_iload_n C 159 d_L_law_158 rfl rfl ?_
  refine z_iconst C 2 160 d_L_law_159 rfl (by decide) ?_
  refine z_iadd C 161 d_L_law_160 rfl ?_
  refine z_sldn C hX hbl hbA 162 d_L_law_161 rfl (lx (d := 2) hj (by decide) hL) h2 ?_
  refine z_goM C (z_V C kc_L_29 (c_M_part G l a' M x1 x2 hB.2.1.zr) (st := [.int (F_D_part D x1 x2)]) 0 3 rfl rfl rfl rfl (Nat.le_of_ble_eq_true rfl) ⟨⟨Nat.le_of_ble_eq_true rfl, Nat.le_of_ble_eq_true rfl⟩, Nat.le_of_ble_eq_true rfl, Nat.le_of_ble_eq_true rfl⟩ d_L_law_162) [.int (F_M_part M x1 x2).1, .int (F_D_part D x1 x2)] 165 rfl rfl ?_
  refine z_icmp_eq C 431 168 d_L_law_165 (by decide) rfl (fun q => ?_) (fun q => ?_)
  · exact K D (F_M_part M x1 x2).2 hB2
  · exact absurd hA q

set_option maxRecDepth 100000 in
set_option maxHeartbeats 4000000 in
theorem law_letter {p : Program} {l : Launch} {e : Env} {s : State} {m : MethodId} {below : List Frame} {meth : Method} {c : Code} {G : zG} {b L : Nat} {xs : Nat → Int32} {a a' : Nat → Nat} {Q : State → Prop} (C : zC p s m #[Value.ref b] meth c code 4 N_L G (va_A [] s.heap.size)) (hX : va_X b L xs s s.heap) (hbl : b < s.heap.size) (hbA : ¬ va_A [] s.heap.size b) (hL : L ≤ 2561) {j : Nat} (hj : j + 5 ≤ L) {x1 x2 x3 x4 : Int32} {X : Int64} (h1 : xs (Int32.toNatClampNeg (nI j + 1)) = x1) (h2 : xs (Int32.toNatClampNeg (nI j + 2)) = x2) (h3 : xs (Int32.toNatClampNeg (nI j + 3)) = x3) (h4 : xs (Int32.toNatClampNeg (nI j + 4)) = x4) (hx : (Int32.toInt64 x1 <<< (Int32.toInt64 32 &&& 63)) ||| (Int32.toInt64 x2 &&& 4294967295) = X) {D : SD} {M : SM} (hB : Big D M) (K : ∀ (D' : SD) (M' : SM), Big D' M' → zV p l e room_1 s m #[Value.ref b] below meth c 4 G (va_A [] s.heap.size) Q 21 1327 (wD G a D' ++ wM G a' M') 431 [(0, .ref b), (1, .ref (a 0)), (2, .ref (a' 0)), (3, .int (nI j))] []) : zV p l e room_1 s m #[Value.ref b] below meth c 4 G (va_A [] s.heap.size) Q 21 1327 (wD G a D ++ wM G a' M) 170 [(0, .ref b), (1, .ref (a 0)), (2, .ref (a' 0)), (3, .int (nI j))] [] := by
  obtain ⟨hA, hB2⟩ := op_letter hB x1
  refine z_aload_n C 171 d_L_law_170 rfl rfl ?_
  refine z_aload_n C 172 d_L_law_171 rfl rfl ?_
  refine z_iload_n C 173 d_L_law_172 rfl rfl ?_
  refine z_iconst C 1 174 d_L_law_173 rfl (by decide) ?_
  refine z_iadd C 175 d_L_law_174 rfl ?_
  refine z_sldn C hX hbl hbA 176 d_L_law_175 rfl (lx (d := 1) hj (by decide) hL) h1 ?_
  refine z_goD C (z_V C kc_L_30 (c_D_letter G l a D x1) (st := []) 0 2 rfl rfl rfl rfl (Nat.le_of_ble_eq_true rfl) ⟨⟨Nat.le_of_ble_eq_true rfl, Nat.le_of_ble_eq_true rfl⟩, Nat.le_of_ble_eq_true rfl, Nat.le_of_ble_eq_true rfl⟩ d_L_law_176) [.int (F_D_letter D x1)] 179 rfl rfl ?_
  refine z_aload_n C 180 d_L_law_179 rfl rfl ?_
  refine z_aload_n C 181 d_L_law_180 rfl rfl ?_
  refine z_iload_n C 182 d_L_law_181 rfl rfl ?_
  refine z_iconst C 1 183 d_L_law_182 rfl (by decide) ?_
  refine z_iadd C 184 d_L_law_183 rfl ?_
  refine z_sldn C hX hbl hbA 185 d_L_law_184 rfl (lx (d := 1) hj (by decide) hL) h1 ?_
  refine z_goM C (z_V C kc_L_34 (c_M_letter G l a' M x1 hB.2.1.zr hB.lets) (st := [.int (F_D_letter D x1)]) 0 3 rfl rfl rfl rfl (Nat.le_of_ble_eq_true rfl) ⟨⟨Nat.le_of_ble_eq_true rfl, Nat.le_of_ble_eq_true rfl⟩, Nat.le_of_ble_eq_true rfl, Nat.le_of_ble_eq_true rfl⟩ d_L_law_185) [.int (F_M_letter M x1).1, .int (F_D_letter D x1)] 188 rfl rfl ?_
  refine z_icmp_eq C 431 191 d_L_law_188 (by decide) rfl (fun q => ?_) (fun q => ?_)
  · exact K D (F_M_letter M x1).2 hB2
  · exact absurd hA q

set_option maxRecDepth 100000 in
set_option maxHeartbeats 4000000 in
theorem law_majority {p : Program} {l : Launch} {e : Env} {s : State} {m : MethodId} {below : List Frame} {meth : Method} {c : Code} {G : zG} {b L : Nat} {xs : Nat → Int32} {a a' : Nat → Nat} {Q : State → Prop} (C : zC p s m #[Value.ref b] meth c code 4 N_L G (va_A [] s.heap.size)) (hX : va_X b L xs s s.heap) (hbl : b < s.heap.size) (hbA : ¬ va_A [] s.heap.size b) (hL : L ≤ 2561) {j : Nat} (hj : j + 5 ≤ L) {x1 x2 x3 x4 : Int32} {X : Int64} (h1 : xs (Int32.toNatClampNeg (nI j + 1)) = x1) (h2 : xs (Int32.toNatClampNeg (nI j + 2)) = x2) (h3 : xs (Int32.toNatClampNeg (nI j + 3)) = x3) (h4 : xs (Int32.toNatClampNeg (nI j + 4)) = x4) (hx : (Int32.toInt64 x1 <<< (Int32.toInt64 32 &&& 63)) ||| (Int32.toInt64 x2 &&& 4294967295) = X) {D : SD} {M : SM} (hB : Big D M) (K : ∀ (D' : SD) (M' : SM), Big D' M' → zV p l e room_1 s m #[Value.ref b] below meth c 4 G (va_A [] s.heap.size) Q 21 1327 (wD G a D' ++ wM G a' M') 431 [(0, .ref b), (1, .ref (a 0)), (2, .ref (a' 0)), (3, .int (nI j))] []) : zV p l e room_1 s m #[Value.ref b] below meth c 4 G (va_A [] s.heap.size) Q 21 1327 (wD G a D ++ wM G a' M) 193 [(0, .ref b), (1, .ref (a 0)), (2, .ref (a' 0)), (3, .int (nI j))] [] := by
  obtain ⟨hA, hB2⟩ := op_majority hB x1
  refine z_aload_n C 194 d_L_law_193 rfl rfl ?_
  refine z_aload_n C 195 d_L_law_194 rfl rfl ?_
  refine z_iload_n C 196 d_L_law_195 rfl rfl ?_
  refine z_iconst C 1 197 d_L_law_196 rfl (by decide) ?_
  refine z_iadd C 198 d_L_law_197 rfl ?_
  refine z_sldn C hX hbl hbA 199 d_L_law_198 rfl (lx (d := 1) hj (by decide) hL) h1 ?_
  refine z_goD C (z_V C kc_L_35 (c_D_majority G l a D x1) (st := []) 0 2 rfl rfl rfl rfl (Nat.le_of_ble_eq_true rfl) ⟨⟨Nat.le_of_ble_eq_true rfl, Nat.le_of_ble_eq_true rfl⟩, Nat.le_of_ble_eq_true rfl, Nat.le_of_ble_eq_true rfl⟩ d_L_law_199) [.int (F_D_majority D x1)] 202 rfl rfl ?_
  refine z_aload_n C 203 d_L_law_202 rfl rfl ?_
  refine z_aload_n C 204 d_L_law_203 rfl rfl ?_
  refine z_iload_n C 205 d_L_law_204 rfl rfl ?_
  refine z_iconst C 1 206 d_L_law_205 rfl (by decide) ?_
  refine z_iadd C 207 d_L_law_206 rfl ?_
  refine z_sldn C hX hbl hbA 208 d_L_law_207 rfl (lx (d := 1) hj (by decide) hL) h1 ?_
  refine z_goM C (z_V C kc_L_38 (c_M_majority G l a' M x1 hB.2.1.zr) (st := [.int (F_D_majority D x1)]) 0 3 rfl rfl rfl rfl (Nat.le_of_ble_eq_true rfl) ⟨⟨Nat.le_of_ble_eq_true rfl, Nat.le_of_ble_eq_true rfl⟩, Nat.le_of_ble_eq_true rfl, Nat.le_of_ble_eq_true rfl⟩ d_L_law_208) [.int (F_M_majority M x1).1, .int (F_D_majority D x1)] 211 rfl rfl ?_
  refine z_icmp_eq C 431 214 d_L_law_211 (by decide) rfl (fun q => ?_) (fun q => ?_)
  · exact K D (F_M_majority M x1).2 hB2
  · exact absurd hA q

set_option maxRecDepth 100000 in
set_option maxHeartbeats 4000000 in
theorem law_ends {p : Program} {l : Launch} {e : Env} {s : State} {m : MethodId} {below : List Frame} {meth : Method} {c : Code} {G : zG} {b L : Nat} {xs : Nat → Int32} {a a' : Nat → Nat} {Q : State → Prop} (C : zC p s m #[Value.ref b] meth c code 4 N_L G (va_A [] s.heap.size)) (hX : va_X b L xs s s.heap) (hbl : b < s.heap.size) (hbA : ¬ va_A [] s.heap.size b) (hL : L ≤ 2561) {j : Nat} (hj : j + 5 ≤ L) {x1 x2 x3 x4 : Int32} {X : Int64} (h1 : xs (Int32.toNatClampNeg (nI j + 1)) = x1) (h2 : xs (Int32.toNatClampNeg (nI j + 2)) = x2) (h3 : xs (Int32.toNatClampNeg (nI j + 3)) = x3) (h4 : xs (Int32.toNatClampNeg (nI j + 4)) = x4) (hx : (Int32.toInt64 x1 <<< (Int32.toInt64 32 &&& 63)) ||| (Int32.toInt64 x2 &&& 4294967295) = X) {D : SD} {M : SM} (hB : Big D M) (K : ∀ (D' : SD) (M' : SM), Big D' M' → zV p l e room_1 s m #[Value.ref b] below meth c 4 G (va_A [] s.heap.size) Q 21 1327 (wD G a D' ++ wM G a' M') 431 [(0, .ref b), (1, .ref (a 0)), (2, .ref (a' 0)), (3, .int (nI j))] []) : zV p l e room_1 s m #[Value.ref b] below meth c 4 G (va_A [] s.heap.size) Q 21 1327 (wD G a D ++ wM G a' M) 216 [(0, .ref b), (1, .ref (a 0)), (2, .ref (a' 0)), (3, .int (nI j))] [] := by
  obtain ⟨hA, hB2⟩ := op_ends hB x1
  refine z_aload_n C 217 d_L_law_216 rfl rfl ?_
  refine z_aload_n C 218 d_L_law_217 rfl rfl ?_
  refine z_iload_n C 219 d_L_law_218 rfl rfl ?_
  refine z_iconst C 1 220 d_L_law_219 rfl (by decide) ?_
  refine z_iadd C 221 d_L_law_220 rfl ?_
  refine z_sldn C hX hbl hbA 222 d_L_law_221 rfl (lx (d := 1) hj (by decide) hL) h1 ?_
  refine z_goD C (z_V C kc_L_39 (c_D_ends G l a D x1) (st := []) 0 2 rfl rfl rfl rfl (Nat.le_of_ble_eq_true rfl) ⟨⟨Nat.le_of_ble_eq_true rfl, Nat.le_of_ble_eq_true rfl⟩, Nat.le_of_ble_eq_true rfl, Nat.le_of_ble_eq_true rfl⟩ d_L_law_222) [.int (F_D_ends D x1)] 225 rfl rfl ?_
  refine z_aload_n C 226 d_L_law_225 rfl rfl ?_
  refine z_aload_n C 227 d_L_law_226 rfl rfl ?_
  refine z_iload_n C 228 d_L_law_227 rfl rfl ?_
  refine z_iconst C 1 229 d_L_law_228 rfl (by decide) ?_
  refine z_iadd C 230 d_L_law_229 rfl ?_
  refine z_sldn C hX hbl hbA 231 d_L_law_230 rfl (lx (d := 1) hj (by decide) hL) h1 ?_
  refine z_goM C (z_V C kc_L_43 (c_M_ends G l a' M x1 hB.2.1.zr) (st := [.int (F_D_ends D x1)]) 0 3 rfl rfl rfl rfl (Nat.le_of_ble_eq_true rfl) ⟨⟨Nat.le_of_ble_eq_true rfl, Nat.le_of_ble_eq_true rfl⟩, Nat.le_of_ble_eq_true rfl, Nat.le_of_ble_eq_true rfl⟩ d_L_law_231) [.int (F_M_ends M x1).1, .int (F_D_ends D x1)] 234 rfl rfl ?_
  refine z_icmp_eq C 431 237 d_L_law_234 (by decide) rfl (fun q => ?_) (fun q => ?_)
  · exact K D (F_M_ends M x1).2 hB2
  · exact absurd hA q

set_option maxRecDepth 100000 in
set_option maxHeartbeats 4000000 in
theorem law_planted {p : Program} {l : Launch} {e : Env} {s : State} {m : MethodId} {below : List Frame} {meth : Method} {c : Code} {G : zG} {b L : Nat} {xs : Nat → Int32} {a a' : Nat → Nat} {Q : State → Prop} (C : zC p s m #[Value.ref b] meth c code 4 N_L G (va_A [] s.heap.size)) (hX : va_X b L xs s s.heap) (hbl : b < s.heap.size) (hbA : ¬ va_A [] s.heap.size b) (hL : L ≤ 2561) {j : Nat} (hj : j + 5 ≤ L) {x1 x2 x3 x4 : Int32} {X : Int64} (h1 : xs (Int32.toNatClampNeg (nI j + 1)) = x1) (h2 : xs (Int32.toNatClampNeg (nI j + 2)) = x2) (h3 : xs (Int32.toNatClampNeg (nI j + 3)) = x3) (h4 : xs (Int32.toNatClampNeg (nI j + 4)) = x4) (hx : (Int32.toInt64 x1 <<< (Int32.toInt64 32 &&& 63)) ||| (Int32.toInt64 x2 &&& 4294967295) = X) {D : SD} {M : SM} (hB : Big D M) (K : ∀ (D' : SD) (M' : SM), Big D' M' → zV p l e room_1 s m #[Value.ref b] below meth c 4 G (va_A [] s.heap.size) Q 21 1327 (wD G a D' ++ wM G a' M') 431 [(0, .ref b), (1, .ref (a 0)), (2, .ref (a' 0)), (3, .int (nI j))] []) : zV p l e room_1 s m #[Value.ref b] below meth c 4 G (va_A [] s.heap.size) Q 21 1327 (wD G a D ++ wM G a' M) 239 [(0, .ref b), (1, .ref (a 0)), (2, .ref (a' 0)), (3, .int (nI j))] [] := by
  obtain ⟨hA, hB2⟩ := op_planted hB x1
  refine z_aload_n C 240 d_L_law_239 rfl rfl ?_
  refine z_aload_n C 241 d_L_law_240 rfl rfl ?_
  refine z_iload_n C 242 d_L_law_241 rfl rfl ?_
  refine z_iconst C 1 243 d_L_law_242 rfl (by decide) ?_
  refine z_iadd C 244 d_L_law_243 rfl ?_
  refine z_sldn C hX hbl hbA 245 d_L_law_244 rfl (lx (d := 1) hj (by decide) hL) h1 ?_
  refine z_goD C (z_V C kc_L_44 (c_D_planted G l a D x1) (st := []) 0 2 rfl rfl rfl rfl (Nat.le_of_ble_eq_true rfl) ⟨⟨Nat.le_of_ble_eq_true rfl, Nat.le_of_ble_eq_true rfl⟩, Nat.le_of_ble_eq_true rfl, Nat.le_of_ble_eq_true rfl⟩ d_L_law_245) [.int (F_D_planted D x1)] 248 rfl rfl ?_
  refine z_aload_n C 249 d_L_law_248 rfl rfl ?_
  refine z_aload_n C 250 d_L_law_249 rfl rfl ?_
  refine z_iload_n C 251 d_L_law_250 rfl rfl ?_
  refine z_iconst C 1 252 d_L_law_251 rfl (by decide) ?_
  refine z_iadd C 253 d_L_law_252 rfl ?_
  refine z_sldn C hX hbl hbA 254 d_L_law_253 rfl (lx (d := 1) hj (by decide) hL) h1 ?_
  refine z_goM C (z_V C kc_L_47 (c_M_planted G l a' M x1 hB.2.1.zr) (st := [.int (F_D_planted D x1)]) 0 3 rfl rfl rfl rfl (Nat.le_of_ble_eq_true rfl) ⟨⟨Nat.le_of_ble_eq_true rfl, Nat.le_of_ble_eq_true rfl⟩, Nat.le_of_ble_eq_true rfl, Nat.le_of_ble_eq_true rfl⟩ d_L_law_254) [.int (F_M_planted M x1).1, .int (F_D_planted D x1)] 257 rfl rfl ?_
  refine z_icmp_eq C 431 260 d_L_law_257 (by decide) rfl (fun q => ?_) (fun q => ?_)
  · exact K D (F_M_planted M x1).2 hB2
  · exact absurd hA q

set_option maxRecDepth 100000 in
set_option maxHeartbeats 4000000 in
theorem law_verdict {p : Program} {l : Launch} {e : Env} {s : State} {m : MethodId} {below : List Frame} {meth : Method} {c : Code} {G : zG} {b L : Nat} {xs : Nat → Int32} {a a' : Nat → Nat} {Q : State → Prop} (C : zC p s m #[Value.ref b] meth c code 4 N_L G (va_A [] s.heap.size)) (hX : va_X b L xs s s.heap) (hbl : b < s.heap.size) (hbA : ¬ va_A [] s.heap.size b) (hL : L ≤ 2561) {j : Nat} (hj : j + 5 ≤ L) {x1 x2 x3 x4 : Int32} {X : Int64} (h1 : xs (Int32.toNatClampNeg (nI j + 1)) = x1) (h2 : xs (Int32.toNatClampNeg (nI j + 2)) = x2) (h3 : xs (Int32.toNatClampNeg (nI j + 3)) = x3) (h4 : xs (Int32.toNatClampNeg (nI j + 4)) = x4) (hx : (Int32.toInt64 x1 <<< (Int32.toInt64 32 &&& 63)) ||| (Int32.toInt64 x2 &&& 4294967295) = X) {D : SD} {M : SM} (hB : Big D M) (K : ∀ (D' : SD) (M' : SM), Big D' M' → zV p l e room_1 s m #[Value.ref b] below meth c 4 G (va_A [] s.heap.size) Q 21 1327 (wD G a D' ++ wM G a' M') 431 [(0, .ref b), (1, .ref (a 0)), (2, .ref (a' 0)), (3, .int (nI j))] []) : zV p l e room_1 s m #[Value.ref b] below meth c 4 G (va_A [] s.heap.size) Q 21 1327 (wD G a D ++ wM G a' M) 262 [(0, .ref b), (1, .ref (a 0)), (2, .ref (a' 0)), (3, .int (nI j))] [] := by
  refine z_aload_n C 263 d_L_law_262 rfl rfl ?_
  refine z_aload_n C 264 d_L_law_263 rfl rfl ?_
  refine z_iload_n C 265 d_L_law_264 rfl rfl ?_
  refine z_iconst C 1 266 d_L_law_265 rfl (by decide) ?_
  refine z_iadd C 267 d_L_law_266 rfl ?_
  refine z_sldn C hX hbl hbA 268 d_L_law_267 rfl (lx (d := 1) hj (by decide) hL) h1 ?_
  refine z_aload_n C 269 d_L_law_268 rfl rfl ?_
  refine z_iload_n C 270 d_L_law_269 rfl rfl ?_
  refine z_iconst C 2 271 d_L_law_270 rfl (by decide) ?_
  refine z_iadd C 272 d_L_law_271 rfl ?_
  refine z_sldn C hX hbl hbA 273 d_L_law_272 rfl (lx (d := 2) hj (by decide) hL) h2 ?_
  refine z_if_eq C 280 276 d_L_law_273 (by decide) rfl (fun q0 => ?_) (fun q0 => ?_)
  · refine z_iconst C 0 281 d_L_law_280 rfl (by decide) ?_
    refine z_goD C (z_V C kc_L_48 (c_D_verdict G l a D x1 0) (st := []) 0 2 rfl rfl rfl rfl (Nat.le_of_ble_eq_true rfl) ⟨⟨Nat.le_of_ble_eq_true rfl, Nat.le_of_ble_eq_true rfl⟩, Nat.le_of_ble_eq_true rfl, Nat.le_of_ble_eq_true rfl⟩ d_L_law_281) [] 284 rfl rfl ?_
    refine z_aload_n C 285 d_L_law_284 rfl rfl ?_
    refine z_aload_n C 286 d_L_law_285 rfl rfl ?_
    refine z_iload_n C 287 d_L_law_286 rfl rfl ?_
    refine z_iconst C 1 288 d_L_law_287 rfl (by decide) ?_
    refine z_iadd C 289 d_L_law_288 rfl ?_
    refine z_sldn C hX hbl hbA 290 d_L_law_289 rfl (lx (d := 1) hj (by decide) hL) h1 ?_
    refine z_aload_n C 291 d_L_law_290 rfl rfl ?_
    refine z_iload_n C 292 d_L_law_291 rfl rfl ?_
    refine z_iconst C 2 293 d_L_law_292 rfl (by decide) ?_
    refine z_iadd C 294 d_L_law_293 rfl ?_
    refine z_sldn C hX hbl hbA 295 d_L_law_294 rfl (lx (d := 2) hj (by decide) hL) h2 ?_
    refine z_if_eq C 302 298 d_L_law_295 (by decide) rfl (fun q1 => ?_) (fun q1 => ?_)
    · refine z_iconst C 0 303 d_L_law_302 rfl (by decide) ?_
      refine z_goM C (z_V C kc_L_52 (c_M_verdict G l a' M x1 0 hB.2.2.2.1.zr hB.2.2.2.2.zr) (st := []) 0 3 rfl rfl rfl rfl (Nat.le_of_ble_eq_true rfl) ⟨⟨Nat.le_of_ble_eq_true rfl, Nat.le_of_ble_eq_true rfl⟩, Nat.le_of_ble_eq_true rfl, Nat.le_of_ble_eq_true rfl⟩ d_L_law_303) [] 306 rfl rfl ?_
      have hB2 := op_verdict hB x1 0
      refine z_goto C 431 d_L_law_306 (by decide) ?_
      exact K (F_D_verdict D x1 0) (F_M_verdict M x1 0) hB2
    · exact absurd q0 q1
  · refine z_iconst C 1 277 d_L_law_276 rfl (by decide) ?_
    refine z_goto C 281 d_L_law_277 (by decide) ?_
    refine z_goD C (z_V C kc_L_48 (c_D_verdict G l a D x1 1) (st := []) 0 2 rfl rfl rfl rfl (Nat.le_of_ble_eq_true rfl) ⟨⟨Nat.le_of_ble_eq_true rfl, Nat.le_of_ble_eq_true rfl⟩, Nat.le_of_ble_eq_true rfl, Nat.le_of_ble_eq_true rfl⟩ d_L_law_281) [] 284 rfl rfl ?_
    refine z_aload_n C 285 d_L_law_284 rfl rfl ?_
    refine z_aload_n C 286 d_L_law_285 rfl rfl ?_
    refine z_iload_n C 287 d_L_law_286 rfl rfl ?_
    refine z_iconst C 1 288 d_L_law_287 rfl (by decide) ?_
    refine z_iadd C 289 d_L_law_288 rfl ?_
    refine z_sldn C hX hbl hbA 290 d_L_law_289 rfl (lx (d := 1) hj (by decide) hL) h1 ?_
    refine z_aload_n C 291 d_L_law_290 rfl rfl ?_
    refine z_iload_n C 292 d_L_law_291 rfl rfl ?_
    refine z_iconst C 2 293 d_L_law_292 rfl (by decide) ?_
    refine z_iadd C 294 d_L_law_293 rfl ?_
    refine z_sldn C hX hbl hbA 295 d_L_law_294 rfl (lx (d := 2) hj (by decide) hL) h2 ?_
    refine z_if_eq C 302 298 d_L_law_295 (by decide) rfl (fun q1 => ?_) (fun q1 => ?_)
    · exact absurd q1 q0
    · refine z_iconst C 1 299 d_L_law_298 rfl (by decide) ?_
      refine z_goto C 303 d_L_law_299 (by decide) ?_
      refine z_goM C (z_V C kc_L_52 (c_M_verdict G l a' M x1 1 hB.2.2.2.1.zr hB.2.2.2.2.zr) (st := []) 0 3 rfl rfl rfl rfl (Nat.le_of_ble_eq_true rfl) ⟨⟨Nat.le_of_ble_eq_true rfl, Nat.le_of_ble_eq_true rfl⟩, Nat.le_of_ble_eq_true rfl, Nat.le_of_ble_eq_true rfl⟩ d_L_law_303) [] 306 rfl rfl ?_
      have hB2 := op_verdict hB x1 1
      refine z_goto C 431 d_L_law_306 (by decide) ?_
      exact K (F_D_verdict D x1 1) (F_M_verdict M x1 1) hB2

set_option maxRecDepth 100000 in
set_option maxHeartbeats 4000000 in
theorem law_shorter {p : Program} {l : Launch} {e : Env} {s : State} {m : MethodId} {below : List Frame} {meth : Method} {c : Code} {G : zG} {b L : Nat} {xs : Nat → Int32} {a a' : Nat → Nat} {Q : State → Prop} (C : zC p s m #[Value.ref b] meth c code 4 N_L G (va_A [] s.heap.size)) (hX : va_X b L xs s s.heap) (hbl : b < s.heap.size) (hbA : ¬ va_A [] s.heap.size b) (hL : L ≤ 2561) {j : Nat} (hj : j + 5 ≤ L) {x1 x2 x3 x4 : Int32} {X : Int64} (h1 : xs (Int32.toNatClampNeg (nI j + 1)) = x1) (h2 : xs (Int32.toNatClampNeg (nI j + 2)) = x2) (h3 : xs (Int32.toNatClampNeg (nI j + 3)) = x3) (h4 : xs (Int32.toNatClampNeg (nI j + 4)) = x4) (hx : (Int32.toInt64 x1 <<< (Int32.toInt64 32 &&& 63)) ||| (Int32.toInt64 x2 &&& 4294967295) = X) {D : SD} {M : SM} (hB : Big D M) (K : ∀ (D' : SD) (M' : SM), Big D' M' → zV p l e room_1 s m #[Value.ref b] below meth c 4 G (va_A [] s.heap.size) Q 21 1327 (wD G a D' ++ wM G a' M') 431 [(0, .ref b), (1, .ref (a 0)), (2, .ref (a' 0)), (3, .int (nI j))] []) : zV p l e room_1 s m #[Value.ref b] below meth c 4 G (va_A [] s.heap.size) Q 21 1327 (wD G a D ++ wM G a' M) 309 [(0, .ref b), (1, .ref (a 0)), (2, .ref (a' 0)), (3, .int (nI j))] [] := by
  obtain ⟨hA, hB2⟩ := op_shorter hB 
  refine z_aload_n C 310 d_L_law_309 rfl rfl ?_
  refine z_goD C (z_V C kc_L_53 (c_D_shorter G l a D) (st := []) 0 2 rfl rfl rfl rfl (Nat.le_of_ble_eq_true rfl) ⟨⟨Nat.le_of_ble_eq_true rfl, Nat.le_of_ble_eq_true rfl⟩, Nat.le_of_ble_eq_true rfl, Nat.le_of_ble_eq_true rfl⟩ d_L_law_310) [.int (F_D_shorter D).1] 313 rfl rfl ?_
  refine z_aload_n C 314 d_L_law_313 rfl rfl ?_
  refine z_goM C (z_V C kc_L_57 (c_M_shorter G l a' M  hB.2.2.2.1.zr hB.2.2.2.2.zr) (st := [.int (F_D_shorter D).1]) 0 3 rfl rfl rfl rfl (Nat.le_of_ble_eq_true rfl) ⟨⟨Nat.le_of_ble_eq_true rfl, Nat.le_of_ble_eq_true rfl⟩, Nat.le_of_ble_eq_true rfl, Nat.le_of_ble_eq_true rfl⟩ d_L_law_314) [.int (F_M_shorter M).1, .int (F_D_shorter D).1] 317 rfl rfl ?_
  refine z_icmp_eq C 431 320 d_L_law_317 (by decide) rfl (fun q => ?_) (fun q => ?_)
  · exact K (F_D_shorter D).2 (F_M_shorter M).2 hB2
  · exact absurd hA q

set_option maxRecDepth 100000 in
set_option maxHeartbeats 4000000 in
theorem law_left {p : Program} {l : Launch} {e : Env} {s : State} {m : MethodId} {below : List Frame} {meth : Method} {c : Code} {G : zG} {b L : Nat} {xs : Nat → Int32} {a a' : Nat → Nat} {Q : State → Prop} (C : zC p s m #[Value.ref b] meth c code 4 N_L G (va_A [] s.heap.size)) (hX : va_X b L xs s s.heap) (hbl : b < s.heap.size) (hbA : ¬ va_A [] s.heap.size b) (hL : L ≤ 2561) {j : Nat} (hj : j + 5 ≤ L) {x1 x2 x3 x4 : Int32} {X : Int64} (h1 : xs (Int32.toNatClampNeg (nI j + 1)) = x1) (h2 : xs (Int32.toNatClampNeg (nI j + 2)) = x2) (h3 : xs (Int32.toNatClampNeg (nI j + 3)) = x3) (h4 : xs (Int32.toNatClampNeg (nI j + 4)) = x4) (hx : (Int32.toInt64 x1 <<< (Int32.toInt64 32 &&& 63)) ||| (Int32.toInt64 x2 &&& 4294967295) = X) {D : SD} {M : SM} (hB : Big D M) (K : ∀ (D' : SD) (M' : SM), Big D' M' → zV p l e room_1 s m #[Value.ref b] below meth c 4 G (va_A [] s.heap.size) Q 21 1327 (wD G a D' ++ wM G a' M') 431 [(0, .ref b), (1, .ref (a 0)), (2, .ref (a' 0)), (3, .int (nI j))] []) : zV p l e room_1 s m #[Value.ref b] below meth c 4 G (va_A [] s.heap.size) Q 21 1327 (wD G a D ++ wM G a' M) 322 [(0, .ref b), (1, .ref (a 0)), (2, .ref (a' 0)), (3, .int (nI j))] [] := by
  obtain ⟨hA, hB2⟩ := op_left hB x1
  refine z_aload_n C 323 d_L_law_322 rfl rfl ?_
  refine z_aload_n C 324 d_L_law_323 rfl rfl ?_
  refine z_iload_n C 325 d_L_law_324 rfl rfl ?_
  refine z_iconst C 1 326 d_L_law_325 rfl (by decide) ?_
  refine z_iadd C 327 d_L_law_326 rfl ?_
  refine z_sldn C hX hbl hbA 328 d_L_law_327 rfl (lx (d := 1) hj (by decide) hL) h1 ?_
  refine z_goD C (z_V C kc_L_58 (c_D_left G l a D x1) (st := []) 0 2 rfl rfl rfl rfl (Nat.le_of_ble_eq_true rfl) ⟨⟨Nat.le_of_ble_eq_true rfl, Nat.le_of_ble_eq_true rfl⟩, Nat.le_of_ble_eq_true rfl, Nat.le_of_ble_eq_true rfl⟩ d_L_law_328) [.int (F_D_left D x1)] 331 rfl rfl ?_
  refine z_aload_n C 332 d_L_law_331 rfl rfl ?_
  refine z_aload_n C 333 d_L_law_332 rfl rfl ?_
  refine z_iload_n C 334 d_L_law_333 rfl rfl ?_
  refine z_iconst C 1 335 d_L_law_334 rfl (by decide) ?_
  refine z_iadd C 336 d_L_law_335 rfl ?_
  refine z_sldn C hX hbl hbA 337 d_L_law_336 rfl (lx (d := 1) hj (by decide) hL) h1 ?_
  refine z_goM C (z_V C kc_L_61 (c_M_left G l a' M x1) (st := [.int (F_D_left D x1)]) 0 3 rfl rfl rfl rfl (Nat.le_of_ble_eq_true rfl) ⟨⟨Nat.le_of_ble_eq_true rfl, Nat.le_of_ble_eq_true rfl⟩, Nat.le_of_ble_eq_true rfl, Nat.le_of_ble_eq_true rfl⟩ d_L_law_337) [.int (F_M_left M x1).1, .int (F_D_left D x1)] 340 rfl rfl ?_
  refine z_icmp_eq C 431 343 d_L_law_340 (by decide) rfl (fun q => ?_) (fun q => ?_)
  · exact K D (F_M_left M x1).2 hB2
  · exact absurd hA q

set_option maxRecDepth 100000 in
set_option maxHeartbeats 4000000 in
theorem law_minimal {p : Program} {l : Launch} {e : Env} {s : State} {m : MethodId} {below : List Frame} {meth : Method} {c : Code} {G : zG} {b L : Nat} {xs : Nat → Int32} {a a' : Nat → Nat} {Q : State → Prop} (C : zC p s m #[Value.ref b] meth c code 4 N_L G (va_A [] s.heap.size)) (hX : va_X b L xs s s.heap) (hbl : b < s.heap.size) (hbA : ¬ va_A [] s.heap.size b) (hL : L ≤ 2561) {j : Nat} (hj : j + 5 ≤ L) {x1 x2 x3 x4 : Int32} {X : Int64} (h1 : xs (Int32.toNatClampNeg (nI j + 1)) = x1) (h2 : xs (Int32.toNatClampNeg (nI j + 2)) = x2) (h3 : xs (Int32.toNatClampNeg (nI j + 3)) = x3) (h4 : xs (Int32.toNatClampNeg (nI j + 4)) = x4) (hx : (Int32.toInt64 x1 <<< (Int32.toInt64 32 &&& 63)) ||| (Int32.toInt64 x2 &&& 4294967295) = X) {D : SD} {M : SM} (hB : Big D M) (K : ∀ (D' : SD) (M' : SM), Big D' M' → zV p l e room_1 s m #[Value.ref b] below meth c 4 G (va_A [] s.heap.size) Q 21 1327 (wD G a D' ++ wM G a' M') 431 [(0, .ref b), (1, .ref (a 0)), (2, .ref (a' 0)), (3, .int (nI j))] []) : zV p l e room_1 s m #[Value.ref b] below meth c 4 G (va_A [] s.heap.size) Q 21 1327 (wD G a D ++ wM G a' M) 345 [(0, .ref b), (1, .ref (a 0)), (2, .ref (a' 0)), (3, .int (nI j))] [] := by
  obtain ⟨hA, hB2⟩ := op_minimal hB 
  refine z_aload_n C 346 d_L_law_345 rfl rfl ?_
  refine z_goD C (z_V C kc_L_62 (c_D_minimal G l a D) (st := []) 0 2 rfl rfl rfl rfl (Nat.le_of_ble_eq_true rfl) ⟨⟨Nat.le_of_ble_eq_true rfl, Nat.le_of_ble_eq_true rfl⟩, Nat.le_of_ble_eq_true rfl, Nat.le_of_ble_eq_true rfl⟩ d_L_law_346) [.int (F_D_minimal D)] 349 rfl rfl ?_
  refine z_aload_n C 350 d_L_law_349 rfl rfl ?_
  refine z_goM C (z_V C kc_L_66 (c_M_minimal G l a' M  hB.2.2.2.1.zr hB.2.2.2.2.zr) (st := [.int (F_D_minimal D)]) 0 3 rfl rfl rfl rfl (Nat.le_of_ble_eq_true rfl) ⟨⟨Nat.le_of_ble_eq_true rfl, Nat.le_of_ble_eq_true rfl⟩, Nat.le_of_ble_eq_true rfl, Nat.le_of_ble_eq_true rfl⟩ d_L_law_350) [.int (F_M_minimal M).1, .int (F_D_minimal D)] 353 rfl rfl ?_
  refine z_icmp_eq C 431 356 d_L_law_353 (by decide) rfl (fun q => ?_) (fun q => ?_)
  · exact K D (F_M_minimal M).2 hB2
  · exact absurd hA q

set_option maxRecDepth 100000 in
set_option maxHeartbeats 4000000 in
theorem law_same {p : Program} {l : Launch} {e : Env} {s : State} {m : MethodId} {below : List Frame} {meth : Method} {c : Code} {G : zG} {b L : Nat} {xs : Nat → Int32} {a a' : Nat → Nat} {Q : State → Prop} (C : zC p s m #[Value.ref b] meth c code 4 N_L G (va_A [] s.heap.size)) (hX : va_X b L xs s s.heap) (hbl : b < s.heap.size) (hbA : ¬ va_A [] s.heap.size b) (hL : L ≤ 2561) {j : Nat} (hj : j + 5 ≤ L) {x1 x2 x3 x4 : Int32} {X : Int64} (h1 : xs (Int32.toNatClampNeg (nI j + 1)) = x1) (h2 : xs (Int32.toNatClampNeg (nI j + 2)) = x2) (h3 : xs (Int32.toNatClampNeg (nI j + 3)) = x3) (h4 : xs (Int32.toNatClampNeg (nI j + 4)) = x4) (hx : (Int32.toInt64 x1 <<< (Int32.toInt64 32 &&& 63)) ||| (Int32.toInt64 x2 &&& 4294967295) = X) {D : SD} {M : SM} (hB : Big D M) (K : ∀ (D' : SD) (M' : SM), Big D' M' → zV p l e room_1 s m #[Value.ref b] below meth c 4 G (va_A [] s.heap.size) Q 21 1327 (wD G a D' ++ wM G a' M') 431 [(0, .ref b), (1, .ref (a 0)), (2, .ref (a' 0)), (3, .int (nI j))] []) : zV p l e room_1 s m #[Value.ref b] below meth c 4 G (va_A [] s.heap.size) Q 21 1327 (wD G a D ++ wM G a' M) 358 [(0, .ref b), (1, .ref (a 0)), (2, .ref (a' 0)), (3, .int (nI j))] [] := by
  obtain ⟨⟨hA, hB2⟩, hd⟩ := op_same hB X x3 x4
  refine z_aload_n C 359 d_L_law_358 rfl rfl ?_
  refine z_aload_n C 360 d_L_law_359 rfl rfl ?_
  refine z_iload_n C 361 d_L_law_360 rfl rfl ?_
  refine z_iconst C 1 362 d_L_law_361 rfl (by decide) ?_
  refine z_iadd C 363 d_L_law_362 rfl ?_
  refine z_sldn C hX hbl hbA 364 d_L_law_363 rfl (lx (d := 1) hj (by decide) hL) h1 ?_
  refine z_i2l C 365 d_L_law_364 rfl ?_
  refine z_bipush C 32 367 d_L_law_365 rfl (by decide) ?_
  refine z_lshl C 368 d_L_law_367 rfl ?_
  refine z_aload_n C 369 d_L_law_368 rfl rfl ?_
  refine z_iload_n C 370 d_L_law_369 rfl rfl ?_
  refine z_iconst C 2 371 d_L_law_370 rfl (by decide) ?_
  refine z_iadd C 372 d_L_law_371 rfl ?_
  refine z_sldn C hX hbl hbA 373 d_L_law_372 rfl (lx (d := 2) hj (by decide) hL) h2 ?_
  refine z_i2l C 374 d_L_law_373 rfl ?_
  refine z_ldc2 C 4294967295 377 d_L_law_374 rfl kk_L_67 ?_
  refine z_land C 378 d_L_law_377 rfl ?_
  refine z_lor C 379 d_L_law_378 rfl ?_
  refine z_topl (fun y ey => ?_)
  rw [show y = X from ey.trans hx]
  clear ey y
  refine z_aload_n C 380 d_L_law_379 rfl rfl ?_
  refine z_iload_n C 381 d_L_law_380 rfl rfl ?_
  refine z_iconst C 3 382 d_L_law_381 rfl (by decide) ?_
  refine z_iadd C 383 d_L_law_382 rfl ?_
  refine z_sldn C hX hbl hbA 384 d_L_law_383 rfl (lx (d := 3) hj (by decide) hL) h3 ?_
  refine z_aload_n C 385 d_L_law_384 rfl rfl ?_
  refine z_iload_n C 386 d_L_law_385 rfl rfl ?_
  refine z_iconst C 4 387 d_L_law_386 rfl (by decide) ?_
  refine z_iadd C 388 d_L_law_387 rfl ?_
  refine z_sldn C hX hbl hbA 389 d_L_law_388 rfl (lx (d := 4) hj (by decide) hL) h4 ?_
  refine z_goD C (z_V C kc_L_69 (c_D_same G l a D X x3 x4) (st := []) 0 2 rfl rfl rfl rfl (Nat.le_of_ble_eq_true rfl) ⟨⟨Nat.le_of_ble_eq_true rfl, Nat.le_of_ble_eq_true rfl⟩, Nat.le_of_ble_eq_true rfl, Nat.le_of_ble_eq_true rfl⟩ d_L_law_389) [.int (F_D_same D X x3 x4).1] 392 rfl rfl ?_
  refine z_aload_n C 393 d_L_law_392 rfl rfl ?_
  refine z_aload_n C 394 d_L_law_393 rfl rfl ?_
  refine z_iload_n C 395 d_L_law_394 rfl rfl ?_
  refine z_iconst C 1 396 d_L_law_395 rfl (by decide) ?_
  refine z_iadd C 397 d_L_law_396 rfl ?_
  refine z_sldn C hX hbl hbA 398 d_L_law_397 rfl (lx (d := 1) hj (by decide) hL) h1 ?_
  refine z_i2l C 399 d_L_law_398 rfl ?_
  refine z_bipush C 32 401 d_L_law_399 rfl (by decide) ?_
  refine z_lshl C 402 d_L_law_401 rfl ?_
  refine z_aload_n C 403 d_L_law_402 rfl rfl ?_
  refine z_iload_n C 404 d_L_law_403 rfl rfl ?_
  refine z_iconst C 2 405 d_L_law_404 rfl (by decide) ?_
  refine z_iadd C 406 d_L_law_405 rfl ?_
  refine z_sldn C hX hbl hbA 407 d_L_law_406 rfl (lx (d := 2) hj (by decide) hL) h2 ?_
  refine z_i2l C 408 d_L_law_407 rfl ?_
  refine z_ldc2 C 4294967295 411 d_L_law_408 rfl kk_L_67 ?_
  refine z_land C 412 d_L_law_411 rfl ?_
  refine z_lor C 413 d_L_law_412 rfl ?_
  refine z_topl (fun y ey => ?_)
  rw [show y = X from ey.trans hx]
  clear ey y
  refine z_aload_n C 414 d_L_law_413 rfl rfl ?_
  refine z_iload_n C 415 d_L_law_414 rfl rfl ?_
  refine z_iconst C 3 416 d_L_law_415 rfl (by decide) ?_
  refine z_iadd C 417 d_L_law_416 rfl ?_
  refine z_sldn C hX hbl hbA 418 d_L_law_417 rfl (lx (d := 3) hj (by decide) hL) h3 ?_
  refine z_aload_n C 419 d_L_law_418 rfl rfl ?_
  refine z_iload_n C 420 d_L_law_419 rfl rfl ?_
  refine z_iconst C 4 421 d_L_law_420 rfl (by decide) ?_
  refine z_iadd C 422 d_L_law_421 rfl ?_
  refine z_sldn C hX hbl hbA 423 d_L_law_422 rfl (lx (d := 4) hj (by decide) hL) h4 ?_
  refine z_goM C (z_V C kc_L_73 (c_M_same G l a' M X x3 x4 hd) (st := [.int (F_D_same D X x3 x4).1]) 0 3 rfl rfl rfl rfl (Nat.le_of_ble_eq_true rfl) ⟨⟨Nat.le_of_ble_eq_true rfl, Nat.le_of_ble_eq_true rfl⟩, Nat.le_of_ble_eq_true rfl, Nat.le_of_ble_eq_true rfl⟩ d_L_law_423) [.int (F_M_same M X x3 x4).1, .int (F_D_same D X x3 x4).1] 426 rfl rfl ?_
  refine z_icmp_eq C 431 429 d_L_law_426 (by decide) rfl (fun q => ?_) (fun q => ?_)
  · exact K (F_D_same D X x3 x4).2 (F_M_same M X x3 x4).2 hB2
  · exact absurd hA q
