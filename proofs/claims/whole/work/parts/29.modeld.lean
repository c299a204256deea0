
theorem zr_33 {x : Int32} (h : zr x 0 20) : zr ((3 * x) + 3) 3 63 := zr_add (zr_mul (zr_k 3 rfl) h) (zr_k 3 rfl)
theorem zi_nnE {i b : Int32} (h : ¬ b < i) (hb : zr b 0 20) (hi : ¬ i < 0) : ¬ i + 1 < 0 := by
  obtain ⟨j, rfl, h1, h2⟩ := zr_le hi h hb (by decide)
  rw [nI_1]
  exact nI_pos (by omega)

def L_M_same_112 (κ : SM → Int32 → Int32 → Int32 → Int32 → Int32 × SM) : Nat → SM → Int32 → Int32 → Int32 → Int32 → Int32 → Int32 × SM
  | 0, S, v3, v4, v5, v6, v7 => (0, S)
  | n + 1, S, v3, v4, v5, v6, v7 =>
    if ((sM_values S) (Int32.toNatClampNeg (63 + (3 * v6)))) ≤ v7 then
      (κ S v3 v4 v5 v6)
    else
      if v5 = 0 then
        (κ S v3 v4 v5 v6)
      else
        if ((sM_title S) (Int32.toNatClampNeg ((126 + (6 * v6)) + v7))) = ((sM_title S) (Int32.toNatClampNeg ((252 + (6 * v6)) + v7))) then
          (L_M_same_112 κ n S v3 v4 1 v6 (v7 + 1))
        else
          (L_M_same_112 κ n S v3 v4 0 v6 (v7 + 1))
set_option maxRecDepth 100000 in
set_option maxHeartbeats 4000000 in
theorem l_M_same_112 (G : zG) (l : Launch) (a : Nat → Nat) {y4 y6 : Int32} {p : Program} {e : Env} {s : State} {m : MethodId} {args : Array Value} {below : List Frame} {meth : Method} {c : Code} {w0 : va_W} {Post : Option Value → va_W → Prop} (C : zC p s m args meth c b_M_same 8 N_M G (va_A w0 s.heap.size)) (hlk : meth.locks = false) (hr : meth.sig.returnType = some .boolean) (κ : SM → Int32 → Int32 → Int32 → Int32 → Int32 × SM) (hk : ∀ (S9 : SM) (u3 : Int32) (u4 : Int32) (u5 : Int32) (u6 : Int32), (zr u4 0 20 ∧ (u5 = 0 ∨ u5 = 1) ∧ (u3 = 0 → ∀ i : Int32, ¬ i < 0 → ¬ u4 < i → zr (sM_values S9 (Int32.toNatClampNeg (63 + 3 * i))) 0 6) ∧ u4 = y4 ∧ u6 = y6) → Post (some (.int (κ S9 u3 u4 u5 u6).1)) (wM G a (κ S9 u3 u4 u5 u6).2) → zV p l e (zR 4 100) s m args below meth c 8 G (va_A w0 s.heap.size) (MQ below (zQ G w0 s.heap.size Post) args s 0 0 (va_A w0 s.heap.size)) 0 0 (wM G a S9) 183 [(0, .ref (a 0)), (3, .int u3), (4, .int u4), (5, .int u5), (6, .int u6)] []) :
    ∀ (n : Nat) (S : SM) (v3 : Int32) (v4 : Int32) (v5 : Int32) (v6 : Int32) (v7 : Int32), (Int32.toInt (sM_values S (Int32.toNatClampNeg (63 + (3 * v6)))) - Int32.toInt v7).toNat < n → (zr v4 0 20 ∧ (v5 = 0 ∨ v5 = 1) ∧ (v3 = 0 → ∀ i : Int32, ¬ i < 0 → ¬ v4 < i → zr (sM_values S (Int32.toNatClampNeg (63 + 3 * i))) 0 6) ∧ v4 = y4 ∧ v6 = y6 ∧ ¬ v7 < 0 ∧ ¬ v6 < 0 ∧ ¬ v4 < v6 ∧ v3 = 0) → Post (some (.int (L_M_same_112 κ n S v3 v4 v5 v6 v7).1)) (wM G a (L_M_same_112 κ n S v3 v4 v5 v6 v7).2) → zV p l e (zR 4 100) s m args below meth c 8 G (va_A w0 s.heap.size) (MQ below (zQ G w0 s.heap.size Post) args s 0 0 (va_A w0 s.heap.size)) 0 0 (wM G a S) 112 [(0, .ref (a 0)), (3, .int v3), (4, .int v4), (5, .int v5), (6, .int v6), (7, .int v7)] [] := by
  intro n
  induction n with
  | zero => intro S v3 v4 v5 v6 v7 h; exact absurd h (Nat.not_lt_zero _)
  | succ n ih =>
    intro S v3 v4 v5 v6 v7 hmu hpre hq
    refine z_iload C 114 d_M_same_112 rfl rfl ?_
    refine z_aload_n C 115 d_M_same_114 rfl rfl ?_
    refine z_get C kf_M_13 0 (v := .ref (a 1)) 118 d_M_same_115 rfl rfl rfl ?_
    refine z_bipush C 63 120 d_M_same_118 rfl (by decide) ?_
    refine z_iconst C 3 121 d_M_same_120 rfl (by decide) ?_
    refine z_iload C 123 d_M_same_121 rfl rfl ?_
    refine z_imul C 124 d_M_same_123 rfl ?_
    refine z_iadd C 125 d_M_same_124 rfl ?_
    refine z_iald C 1 0 (f := (sM_values S)) 126 d_M_same_125 rfl rfl rfl (zr_in (zr_add (zr_k 63 rfl) (zr_mul (zr_k 3 rfl) (zr_le hpre.2.2.2.2.2.2.1 hpre.2.2.2.2.2.2.2.1 hpre.1 (by decide)))) (by decide) (by decide)) ?_
    refine z_icmp_ge C 183 129 d_M_same_126 (by decide) rfl (fun c_126 => ?_) (fun c_126 => ?_)
    · refine z_lvs [0, 1, 2, 3, 4] [(0, .ref (a 0)), (3, .int v3), (4, .int v4), (5, .int v5), (6, .int v6)] rfl ?_
      exact hk S v3 v4 v5 v6 ⟨hpre.1, hpre.2.1, hpre.2.2.1, hpre.2.2.2.1, hpre.2.2.2.2.1⟩ (by rw [show L_M_same_112 κ (n + 1) S v3 v4 v5 v6 v7 = (κ S v3 v4 v5 v6) from by rw [L_M_same_112, if_pos c_126]] at hq; exact hq)
    · refine z_iload C 131 d_M_same_129 rfl rfl ?_
      refine z_if_eq C 183 134 d_M_same_131 (by decide) rfl (fun c_131 => ?_) (fun c_131 => ?_)
      · refine z_lvs [0, 1, 2, 3, 4] [(0, .ref (a 0)), (3, .int v3), (4, .int v4), (5, .int v5), (6, .int v6)] rfl ?_
        exact hk S v3 v4 v5 v6 ⟨hpre.1, hpre.2.1, hpre.2.2.1, hpre.2.2.2.1, hpre.2.2.2.2.1⟩ (by rw [show L_M_same_112 κ (n + 1) S v3 v4 v5 v6 v7 = (κ S v3 v4 v5 v6) from by rw [L_M_same_112, if_neg c_126, if_pos c_131]] at hq; exact hq)
      · refine z_aload_n C 135 d_M_same_134 rfl rfl ?_
        refine z_get C kf_M_17 0 (v := .ref (a 2)) 138 d_M_same_135 rfl rfl rfl ?_
        refine z_bipush C 126 140 d_M_same_138 rfl (by decide) ?_
        refine z_bipush C 6 142 d_M_same_140 rfl (by decide) ?_
        refine z_iload C 144 d_M_same_142 rfl rfl ?_
        refine z_imul C 145 d_M_same_144 rfl ?_
        refine z_iadd C 146 d_M_same_145 rfl ?_
        refine z_iload C 148 d_M_same_146 rfl rfl ?_
        refine z_iadd C 149 d_M_same_148 rfl ?_
        refine z_bald C 2 1 (f := (sM_title S)) 150 d_M_same_149 rfl rfl rfl (zr_in (zr_add (zr_add (zr_k 126 rfl) (zr_mul (zr_k 6 rfl) (zr_le hpre.2.2.2.2.2.2.1 hpre.2.2.2.2.2.2.2.1 hpre.1 (by decide)))) (zr_lt hpre.2.2.2.2.2.1 c_126 (hpre.2.2.1 hpre.2.2.2.2.2.2.2.2 v6 hpre.2.2.2.2.2.2.1 hpre.2.2.2.2.2.2.2.1) (by decide))) (by decide) (by decide)) ?_
        refine z_aload_n C 151 d_M_same_150 rfl rfl ?_
        refine z_get C kf_M_17 0 (v := .ref (a 2)) 154 d_M_same_151 rfl rfl rfl ?_
        refine z_sipush C 252 157 d_M_same_154 rfl (by decide) ?_
        refine z_bipush C 6 159 d_M_same_157 rfl (by decide) ?_
        refine z_iload C 161 d_M_same_159 rfl rfl ?_
        refine z_imul C 162 d_M_same_161 rfl ?_
        refine z_iadd C 163 d_M_same_162 rfl ?_
        refine z_iload C 165 d_M_same_163 rfl rfl ?_
        refine z_iadd C 166 d_M_same_165 rfl ?_
        refine z_bald C 2 1 (f := (sM_title S)) 167 d_M_same_166 rfl rfl rfl (zr_in (zr_add (zr_add (zr_k 252 rfl) (zr_mul (zr_k 6 rfl) (zr_le hpre.2.2.2.2.2.2.1 hpre.2.2.2.2.2.2.2.1 hpre.1 (by decide)))) (zr_lt hpre.2.2.2.2.2.1 c_126 (hpre.2.2.1 hpre.2.2.2.2.2.2.2.2 v6 hpre.2.2.2.2.2.2.1 hpre.2.2.2.2.2.2.2.1) (by decide))) (by decide) (by decide)) ?_
        refine z_icmp_ne C 174 170 d_M_same_167 (by decide) rfl (fun c_167 => ?_) (fun c_167 => ?_)
        · refine z_iconst C 0 175 d_M_same_174 rfl (by decide) ?_
          refine z_istore C [(5, .int 0), (0, .ref (a 0)), (3, .int v3), (4, .int v4), (6, .int v6), (7, .int v7)] 177 d_M_same_175 rfl (by decide) rfl ?_
          refine z_iinc C (v7 + 1) [(7, .int (v7 + 1)), (5, .int 0), (0, .ref (a 0)), (3, .int v3), (4, .int v4), (6, .int v6)] 180 d_M_same_177 rfl (by decide) rfl rfl rfl ?_
          refine z_goto C 112 d_M_same_180 (by decide) ?_
          refine z_lvs [2, 3, 4, 1, 5, 0] [(0, .ref (a 0)), (3, .int v3), (4, .int v4), (5, .int 0), (6, .int v6), (7, .int (v7 + 1))] rfl ?_
          exact ih S v3 v4 0 v6 (v7 + 1) (zdec c_126 hmu) ⟨hpre.1, (by first | exact Or.inl rfl | exact Or.inr rfl), hpre.2.2.1, hpre.2.2.2.1, hpre.2.2.2.2.1, zi_nn c_126 hpre.2.2.2.2.2.1, hpre.2.2.2.2.2.2⟩ (by rw [show L_M_same_112 κ (n + 1) S v3 v4 v5 v6 v7 = (L_M_same_112 κ n S v3 v4 0 v6 (v7 + 1)) from by rw [L_M_same_112, if_neg c_126, if_neg c_131, if_neg c_167]] at hq; exact hq)
        · refine z_iconst C 1 171 d_M_same_170 rfl (by decide) ?_
          refine z_goto C 175 d_M_same_171 (by decide) ?_
          refine z_istore C [(5, .int 1), (0, .ref (a 0)), (3, .int v3), (4, .int v4), (6, .int v6), (7, .int v7)] 177 d_M_same_175 rfl (by decide) rfl ?_
          refine z_iinc C (v7 + 1) [(7, .int (v7 + 1)), (5, .int 1), (0, .ref (a 0)), (3, .int v3), (4, .int v4), (6, .int v6)] 180 d_M_same_177 rfl (by decide) rfl rfl rfl ?_
          refine z_goto C 112 d_M_same_180 (by decide) ?_
          refine z_lvs [2, 3, 4, 1, 5, 0] [(0, .ref (a 0)), (3, .int v3), (4, .int v4), (5, .int 1), (6, .int v6), (7, .int (v7 + 1))] rfl ?_
          exact ih S v3 v4 1 v6 (v7 + 1) (zdec c_126 hmu) ⟨hpre.1, (by first | exact Or.inl rfl | exact Or.inr rfl), hpre.2.2.1, hpre.2.2.2.1, hpre.2.2.2.2.1, zi_nn c_126 hpre.2.2.2.2.2.1, hpre.2.2.2.2.2.2⟩ (by rw [show L_M_same_112 κ (n + 1) S v3 v4 v5 v6 v7 = (L_M_same_112 κ n S v3 v4 1 v6 (v7 + 1)) from by rw [L_M_same_112, if_neg c_126, if_neg c_131, if_pos c_167]] at hq; exact hq)
def L_M_same_98 : Nat → SM → Int32 → Int32 → Int32 → Int32 → Int32 × SM
  | 0, S, v3, v4, v5, v6 => (0, S)
  | n + 1, S, v3, v4, v5, v6 =>
    if v4 < v6 then
      (v5, S)
    else
      if v3 = 0 then
        (L_M_same_112 (fun S9 u3 u4 u5 u6 =>
            (L_M_same_98 n S9 u3 u4 u5 (u6 + 1))) ((Int32.toInt (sM_values S (Int32.toNatClampNeg (63 + (3 * v6)))) - Int32.toInt 0).toNat + 1) S v3 v4 v5 v6 0)
      else
        (v5, S)
set_option maxRecDepth 100000 in
set_option maxHeartbeats 4000000 in
theorem l_M_same_98 (G : zG) (l : Launch) (a : Nat → Nat) {p : Program} {e : Env} {s : State} {m : MethodId} {args : Array Value} {below : List Frame} {meth : Method} {c : Code} {w0 : va_W} {Post : Option Value → va_W → Prop} (C : zC p s m args meth c b_M_same 8 N_M G (va_A w0 s.heap.size)) (hlk : meth.locks = false) (hr : meth.sig.returnType = some .boolean) :
    ∀ (n : Nat) (S : SM) (v3 : Int32) (v4 : Int32) (v5 : Int32) (v6 : Int32), (Int32.toInt v4 + 1 - Int32.toInt v6).toNat < n → (zr v4 0 20 ∧ ¬ v6 < 0 ∧ (v5 = 0 ∨ v5 = 1) ∧ (v3 = 0 → ∀ i : Int32, ¬ i < 0 → ¬ v4 < i → zr (sM_values S (Int32.toNatClampNeg (63 + 3 * i))) 0 6)) → Post (some (.int (L_M_same_98 n S v3 v4 v5 v6).1)) (wM G a (L_M_same_98 n S v3 v4 v5 v6).2) → zV p l e (zR 4 100) s m args below meth c 8 G (va_A w0 s.heap.size) (MQ below (zQ G w0 s.heap.size Post) args s 0 0 (va_A w0 s.heap.size)) 0 0 (wM G a S) 98 [(0, .ref (a 0)), (3, .int v3), (4, .int v4), (5, .int v5), (6, .int v6)] [] := by
  intro n
  induction n with
  | zero => intro S v3 v4 v5 v6 h; exact absurd h (Nat.not_lt_zero _)
  | succ n ih =>
    intro S v3 v4 v5 v6 hmu hpre hq
    refine z_iload C 100 d_M_same_98 rfl rfl ?_
    refine z_iload C 102 d_M_same_100 rfl rfl ?_
    refine z_icmp_gt C 189 105 d_M_same_102 (by decide) rfl (fun c_102 => ?_) (fun c_102 => ?_)
    · refine z_iload C 191 d_M_same_189 rfl rfl ?_
      exact z_zret C hlk (bi_nar hpre.2.2.1) hr d_M_same_191 (by rw [show L_M_same_98 (n + 1) S v3 v4 v5 v6 = (v5, S) from by rw [L_M_same_98, if_pos c_102]] at hq; exact hq)
    · refine z_iload_n C 106 d_M_same_105 rfl rfl ?_
      refine z_if_ne C 189 109 d_M_same_106 (by decide) rfl (fun c_106 => ?_) (fun c_106 => ?_)
      · refine z_iload C 191 d_M_same_189 rfl rfl ?_
        exact z_zret C hlk (bi_nar hpre.2.2.1) hr d_M_same_191 (by rw [show L_M_same_98 (n + 1) S v3 v4 v5 v6 = (v5, S) from by rw [L_M_same_98, if_neg c_102, if_neg c_106]] at hq; exact hq)
      · refine z_iconst C 0 110 d_M_same_109 rfl (by decide) ?_
        refine z_istore C [(7, .int 0), (0, .ref (a 0)), (3, .int v3), (4, .int v4), (5, .int v5), (6, .int v6)] 112 d_M_same_110 rfl (by decide) rfl ?_
        refine z_lvs [1, 2, 3, 4, 5, 0] [(0, .ref (a 0)), (3, .int v3), (4, .int v4), (5, .int v5), (6, .int v6), (7, .int 0)] rfl ?_
        refine l_M_same_112 G l a C hlk hr (fun S9 u3 u4 u5 u6 =>
            (L_M_same_98 n S9 u3 u4 u5 (u6 + 1))) (fun S9 u3 u4 u5 u6 hx hq => ?_) _ S v3 v4 v5 v6 0 (Nat.lt_succ_self _) ⟨hpre.1, hpre.2.2.1, hpre.2.2.2, rfl, rfl, by decide, hpre.2.1, c_102, c_106⟩ (by rw [show L_M_same_98 (n + 1) S v3 v4 v5 v6 = (L_M_same_112 (fun S9 u3 u4 u5 u6 =>
            (L_M_same_98 n S9 u3 u4 u5 (u6 + 1))) ((Int32.toInt (sM_values S (Int32.toNatClampNeg (63 + (3 * v6)))) - Int32.toInt 0).toNat + 1) S v3 v4 v5 v6 0) from by rw [L_M_same_98, if_neg c_102, if_pos c_106]] at hq; exact hq)
        refine z_iinc C (u6 + 1) [(6, .int (u6 + 1)), (0, .ref (a 0)), (3, .int u3), (4, .int u4), (5, .int u5)] 186 d_M_same_183 rfl (by decide) rfl rfl rfl ?_
        refine z_goto C 98 d_M_same_186 (by decide) ?_
        refine z_lvs [1, 2, 3, 4, 0] [(0, .ref (a 0)), (3, .int u3), (4, .int u4), (5, .int u5), (6, .int (u6 + 1))] rfl ?_
        exact ih S9 u3 u4 u5 (u6 + 1) (by obtain ⟨h1, h2, h3, h4, h6⟩ := hx; subst h4 h6; exact zdecL (zr_top h1 (by decide)) c_102 hmu) (by obtain ⟨h1, h2, h3, h4, h6⟩ := hx; subst h4 h6; exact ⟨h1, zi_nnE c_102 h1 hpre.2.1, h2, h3⟩) (by (try dsimp only at hq); exact hq)
def L_M_same_43 : Nat → SM → Int32 → Int32 → Int32 → Int32 → Int32 × SM
  | 0, S, v3, v4, v5, v6 => (0, S)
  | n + 1, S, v3, v4, v5, v6 =>
    if ((3 * v4) + 3) ≤ v6 then
      (L_M_same_98 ((Int32.toInt v4 + 1 - Int32.toInt 0).toNat + 1) S v3 v4 v5 0)
    else
      if v5 = 0 then
        (L_M_same_43 n S v3 v4 0 (v6 + 1))
      else
        if ((sM_values S) (Int32.toNatClampNeg (63 + v6))) = ((sM_values S) (Int32.toNatClampNeg (126 + v6))) then
          (L_M_same_43 n S v3 v4 1 (v6 + 1))
        else
          (L_M_same_43 n S v3 v4 0 (v6 + 1))
set_option maxRecDepth 100000 in
set_option maxHeartbeats 4000000 in
theorem l_M_same_43 (G : zG) (l : Launch) (a : Nat → Nat) {p : Program} {e : Env} {s : State} {m : MethodId} {args : Array Value} {below : List Frame} {meth : Method} {c : Code} {w0 : va_W} {Post : Option Value → va_W → Prop} (C : zC p s m args meth c b_M_same 8 N_M G (va_A w0 s.heap.size)) (hlk : meth.locks = false) (hr : meth.sig.returnType = some .boolean) :
    ∀ (n : Nat) (S : SM) (v3 : Int32) (v4 : Int32) (v5 : Int32) (v6 : Int32), (Int32.toInt ((3 * v4) + 3) - Int32.toInt v6).toNat < n → (zr v4 0 20 ∧ ¬ v6 < 0 ∧ (v5 = 0 ∨ v5 = 1) ∧ (v3 = 0 → ∀ i : Int32, ¬ i < 0 → ¬ v4 < i → zr (sM_values S (Int32.toNatClampNeg (63 + 3 * i))) 0 6)) → Post (some (.int (L_M_same_43 n S v3 v4 v5 v6).1)) (wM G a (L_M_same_43 n S v3 v4 v5 v6).2) → zV p l e (zR 4 100) s m args below meth c 8 G (va_A w0 s.heap.size) (MQ below (zQ G w0 s.heap.size Post) args s 0 0 (va_A w0 s.heap.size)) 0 0 (wM G a S) 43 [(0, .ref (a 0)), (3, .int v3), (4, .int v4), (5, .int v5), (6, .int v6)] [] := by
  intro n
  induction n with
  | zero => intro S v3 v4 v5 v6 h; exact absurd h (Nat.not_lt_zero _)
  | succ n ih =>
    intro S v3 v4 v5 v6 hmu hpre hq
    refine z_iload C 45 d_M_same_43 rfl rfl ?_
    refine z_iconst C 3 46 d_M_same_45 rfl (by decide) ?_
    refine z_iload C 48 d_M_same_46 rfl rfl ?_
    refine z_imul C 49 d_M_same_48 rfl ?_
    refine z_iconst C 3 50 d_M_same_49 rfl (by decide) ?_
    refine z_iadd C 51 d_M_same_50 rfl ?_
    refine z_icmp_ge C 95 54 d_M_same_51 (by decide) rfl (fun c_51 => ?_) (fun c_51 => ?_)
    · refine z_iconst C 0 96 d_M_same_95 rfl (by decide) ?_
      refine z_istore C [(6, .int 0), (0, .ref (a 0)), (3, .int v3), (4, .int v4), (5, .int v5)] 98 d_M_same_96 rfl (by decide) rfl ?_
      refine z_lvs [1, 2, 3, 4, 0] [(0, .ref (a 0)), (3, .int v3), (4, .int v4), (5, .int v5), (6, .int 0)] rfl ?_
      exact l_M_same_98 G l a C hlk hr _ S v3 v4 v5 0 (Nat.lt_succ_self _) ⟨hpre.1, by decide, hpre.2.2.1, hpre.2.2.2⟩ (by rw [show L_M_same_43 (n + 1) S v3 v4 v5 v6 = (L_M_same_98 ((Int32.toInt v4 + 1 - Int32.toInt 0).toNat + 1) S v3 v4 v5 0) from by rw [L_M_same_43, if_pos c_51]] at hq; exact hq)
    · refine z_iload C 56 d_M_same_54 rfl rfl ?_
      refine z_if_eq C 86 59 d_M_same_56 (by decide) rfl (fun c_56 => ?_) (fun c_56 => ?_)
      · refine z_iconst C 0 87 d_M_same_86 rfl (by decide) ?_
        refine z_istore C [(5, .int 0), (0, .ref (a 0)), (3, .int v3), (4, .int v4), (6, .int v6)] 89 d_M_same_87 rfl (by decide) rfl ?_
        refine z_iinc C (v6 + 1) [(6, .int (v6 + 1)), (5, .int 0), (0, .ref (a 0)), (3, .int v3), (4, .int v4)] 92 d_M_same_89 rfl (by decide) rfl rfl rfl ?_
        refine z_goto C 43 d_M_same_92 (by decide) ?_
        refine z_lvs [2, 3, 4, 1, 0] [(0, .ref (a 0)), (3, .int v3), (4, .int v4), (5, .int 0), (6, .int (v6 + 1))] rfl ?_
        exact ih S v3 v4 0 (v6 + 1) (zdec c_51 hmu) ⟨hpre.1, zi_nn c_51 hpre.2.1, (by first | exact Or.inl rfl | exact Or.inr rfl), hpre.2.2.2⟩ (by rw [show L_M_same_43 (n + 1) S v3 v4 v5 v6 = (L_M_same_43 n S v3 v4 0 (v6 + 1)) from by rw [L_M_same_43, if_neg c_51, if_pos c_56]] at hq; exact hq)
      · refine z_aload_n C 60 d_M_same_59 rfl rfl ?_
        refine z_get C kf_M_13 0 (v := .ref (a 1)) 63 d_M_same_60 rfl rfl rfl ?_
        refine z_bipush C 63 65 d_M_same_63 rfl (by decide) ?_
        refine z_iload C 67 d_M_same_65 rfl rfl ?_
        refine z_iadd C 68 d_M_same_67 rfl ?_
        refine z_iald C 1 0 (f := (sM_values S)) 69 d_M_same_68 rfl rfl rfl (zr_in (zr_add (zr_k 63 rfl) (zr_lt hpre.2.1 c_51 (zr_33 hpre.1) (by decide))) (by decide) (by decide)) ?_
        refine z_aload_n C 70 d_M_same_69 rfl rfl ?_
        refine z_get C kf_M_13 0 (v := .ref (a 1)) 73 d_M_same_70 rfl rfl rfl ?_
        refine z_bipush C 126 75 d_M_same_73 rfl (by decide) ?_
        refine z_iload C 77 d_M_same_75 rfl rfl ?_
        refine z_iadd C 78 d_M_same_77 rfl ?_
        refine z_iald C 1 0 (f := (sM_values S)) 79 d_M_same_78 rfl rfl rfl (zr_in (zr_add (zr_k 126 rfl) (zr_lt hpre.2.1 c_51 (zr_33 hpre.1) (by decide))) (by decide) (by decide)) ?_
        refine z_icmp_ne C 86 82 d_M_same_79 (by decide) rfl (fun c_79 => ?_) (fun c_79 => ?_)
        · refine z_iconst C 0 87 d_M_same_86 rfl (by decide) ?_
          refine z_istore C [(5, .int 0), (0, .ref (a 0)), (3, .int v3), (4, .int v4), (6, .int v6)] 89 d_M_same_87 rfl (by decide) rfl ?_
          refine z_iinc C (v6 + 1) [(6, .int (v6 + 1)), (5, .int 0), (0, .ref (a 0)), (3, .int v3), (4, .int v4)] 92 d_M_same_89 rfl (by decide) rfl rfl rfl ?_
          refine z_goto C 43 d_M_same_92 (by decide) ?_
          refine z_lvs [2, 3, 4, 1, 0] [(0, .ref (a 0)), (3, .int v3), (4, .int v4), (5, .int 0), (6, .int (v6 + 1))] rfl ?_
          exact ih S v3 v4 0 (v6 + 1) (zdec c_51 hmu) ⟨hpre.1, zi_nn c_51 hpre.2.1, (by first | exact Or.inl rfl | exact Or.inr rfl), hpre.2.2.2⟩ (by rw [show L_M_same_43 (n + 1) S v3 v4 v5 v6 = (L_M_same_43 n S v3 v4 0 (v6 + 1)) from by rw [L_M_same_43, if_neg c_51, if_neg c_56, if_neg c_79]] at hq; exact hq)
        · refine z_iconst C 1 83 d_M_same_82 rfl (by decide) ?_
          refine z_goto C 87 d_M_same_83 (by decide) ?_
          refine z_istore C [(5, .int 1), (0, .ref (a 0)), (3, .int v3), (4, .int v4), (6, .int v6)] 89 d_M_same_87 rfl (by decide) rfl ?_
          refine z_iinc C (v6 + 1) [(6, .int (v6 + 1)), (5, .int 1), (0, .ref (a 0)), (3, .int v3), (4, .int v4)] 92 d_M_same_89 rfl (by decide) rfl rfl rfl ?_
          refine z_goto C 43 d_M_same_92 (by decide) ?_
          refine z_lvs [2, 3, 4, 1, 0] [(0, .ref (a 0)), (3, .int v3), (4, .int v4), (5, .int 1), (6, .int (v6 + 1))] rfl ?_
          exact ih S v3 v4 1 (v6 + 1) (zdec c_51 hmu) ⟨hpre.1, zi_nn c_51 hpre.2.1, (by first | exact Or.inl rfl | exact Or.inr rfl), hpre.2.2.2⟩ (by rw [show L_M_same_43 (n + 1) S v3 v4 v5 v6 = (L_M_same_43 n S v3 v4 1 (v6 + 1)) from by rw [L_M_same_43, if_neg c_51, if_neg c_56, if_pos c_79]] at hq; exact hq)
def F_M_same (S : SM) (x1 : Int64) (x3 : Int32) (x4 : Int32) : Int32 × SM :=
  if (F_M_can x3 x4) = 0 then
    (0, (uM_thrown S 0))
  else
    (L_M_same_43 ((Int32.toInt ((3 * x4) + 3) - Int32.toInt 0).toNat + 1) (F_M_draws (F_M_draws (uM_thrown S 0) 1 (sM_seed S) x3 x4) 2 x1 x3 x4) x3 x4 1 0)
set_option maxRecDepth 100000 in
set_option maxHeartbeats 4000000 in
theorem c_M_same (G : zG) (l : Launch) (a : Nat → Nat) (S : SM) (x1 : Int64) (x3 : Int32) (x4 : Int32) (hd : ¬ F_M_can x3 x4 = 0 → x3 = 0 → ∀ i : Int32, ¬ i < 0 → ¬ x4 < i → zr (sM_values (F_M_draws (F_M_draws (uM_thrown S 0) 1 (sM_seed S) x3 x4) 2 x1 x3 x4) (Int32.toNatClampNeg (63 + 3 * i))) 0 6) : zM G l y_M_same b_M_same 8 (some .boolean) (zR 4 100) [.ref (a 0), .long x1, .int x3, .int x4] (wM G a S) (fun r1 w1 => r1 = some (.int (F_M_same S x1 x3 x4).1) ∧ w1 = wM G a (F_M_same S x1 x3 x4).2) := by
  generalize hPost : (fun (r1 : Option Value) (w1 : va_W) => r1 = some (.int (F_M_same S x1 x3 x4).1) ∧ w1 = wM G a (F_M_same S x1 x3 x4).2) = Post
  have hq : Post (some (.int (F_M_same S x1 x3 x4).1)) (wM G a (F_M_same S x1 x3 x4).2) := by rw [← hPost]; exact ⟨rfl, rfl⟩
  clear hPost
  refine zM_of (by decide) (Nat.le_of_ble_eq_true rfl) ?_
  intro p e s m args below meth c C hlk hr hin
  refine z_aload_n C 1 d_M_same_0 rfl rfl ?_
  refine z_iconst C 0 2 d_M_same_1 rfl (by decide) ?_
  refine z_put C kf_M_28 kp_M 0 (wM G a (uM_thrown S 0)) 5 d_M_same_2 rfl rfl rfl (znr_i _) (zft_i _) (Nat.le_of_ble_eq_true rfl) (wM_put_thrown G a S 0) ?_
  refine z_iload_n C 6 d_M_same_5 rfl rfl ?_
  refine z_iload C 8 d_M_same_6 rfl rfl ?_
  refine z_go0 C (z_S C kc_M_68 (c_M_can G l x3 x4) (st := []) rfl rfl (Nat.le_of_ble_eq_true rfl) ⟨⟨Nat.le_of_ble_eq_true rfl, Nat.le_of_ble_eq_true rfl⟩, Nat.le_of_ble_eq_true rfl, Nat.le_of_ble_eq_true rfl⟩ d_M_same_8) [0, 1, 2, 3] [.int (F_M_can x3 x4)] 11 rfl rfl rfl rfl ?_
  refine z_if_ne C 16 14 d_M_same_11 (by decide) rfl (fun c_11 => ?_) (fun c_11 => ?_)
  · refine z_aload_n C 17 d_M_same_16 rfl rfl ?_
    refine z_iconst C 1 18 d_M_same_17 rfl (by decide) ?_
    refine z_aload_n C 19 d_M_same_18 rfl rfl ?_
    refine z_get C kf_M_24 0 (v := .long (sM_seed S)) 22 d_M_same_19 rfl rfl rfl ?_
    refine z_iload_n C 23 d_M_same_22 rfl rfl ?_
    refine z_iload C 25 d_M_same_23 rfl rfl ?_
    refine z_goA C (z_V C kc_M_72 (c_M_draws G l a (uM_thrown S 0) 1 (sM_seed S) x3 x4 (zr_wide (zr_k 1 rfl) (by decide) (by decide)) (zr_can c_11)) (st := []) 0 3 rfl rfl rfl rfl (Nat.le_of_ble_eq_true rfl) ⟨⟨Nat.le_of_ble_eq_true rfl, Nat.le_of_ble_eq_true rfl⟩, Nat.le_of_ble_eq_true rfl, Nat.le_of_ble_eq_true rfl⟩ d_M_same_25) [] 28 rfl rfl ?_
    refine z_aload_n C 29 d_M_same_28 rfl rfl ?_
    refine z_iconst C 2 30 d_M_same_29 rfl (by decide) ?_
    refine z_lload_n C 31 d_M_same_30 rfl rfl ?_
    refine z_iload_n C 32 d_M_same_31 rfl rfl ?_
    refine z_iload C 34 d_M_same_32 rfl rfl ?_
    refine z_goA C (z_V C kc_M_72 (c_M_draws G l a (F_M_draws (uM_thrown S 0) 1 (sM_seed S) x3 x4) 2 x1 x3 x4 (zr_wide (zr_k 2 rfl) (by decide) (by decide)) (zr_can c_11)) (st := []) 0 3 rfl rfl rfl rfl (Nat.le_of_ble_eq_true rfl) ⟨⟨Nat.le_of_ble_eq_true rfl, Nat.le_of_ble_eq_true rfl⟩, Nat.le_of_ble_eq_true rfl, Nat.le_of_ble_eq_true rfl⟩ d_M_same_34) [] 37 rfl rfl ?_
    refine z_iconst C 1 38 d_M_same_37 rfl (by decide) ?_
    refine z_istore C [(5, .int 1), (0, .ref (a 0)), (1, .long x1), (3, .int x3), (4, .int x4)] 40 d_M_same_38 rfl (by decide) rfl ?_
    refine z_iconst C 0 41 d_M_same_40 rfl (by decide) ?_
    refine z_istore C [(6, .int 0), (5, .int 1), (0, .ref (a 0)), (1, .long x1), (3, .int x3), (4, .int x4)] 43 d_M_same_41 rfl (by decide) rfl ?_
    refine z_lvs [2, 4, 5, 1, 0] [(0, .ref (a 0)), (3, .int x3), (4, .int x4), (5, .int 1), (6, .int 0)] rfl ?_
    exact l_M_same_43 G l a C hlk hr _ (F_M_draws (F_M_draws (uM_thrown S 0) 1 (sM_seed S) x3 x4) 2 x1 x3 x4) x3 x4 1 0 (Nat.lt_succ_self _) ⟨zr_can c_11, by decide, Or.inr rfl, hd c_11⟩ (by rw [show F_M_same S x1 x3 x4 = (L_M_same_43 ((Int32.toInt ((3 * x4) + 3) - Int32.toInt 0).toNat + 1) (F_M_draws (F_M_draws (uM_thrown S 0) 1 (sM_seed S) x3 x4) 2 x1 x3 x4) x3 x4 1 0) from by rw [F_M_same, if_neg c_11]] at hq; exact hq)
  · refine z_iconst C 0 15 d_M_same_14 rfl (by decide) ?_
    exact z_zret C hlk rfl hr d_M_same_15 (by rw [show F_M_same S x1 x3 x4 = (0, (uM_thrown S 0)) from by rw [F_M_same, if_pos c_11]] at hq; exact hq)
