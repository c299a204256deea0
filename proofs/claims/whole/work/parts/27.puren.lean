-- shorter
def bt2 (x : Int32) (j : Nat) : Bool := x.toBitVec.getLsbD j
def wo (n : Nat) (x : Int32) : Int32 := x &&& (((1 : Int32) <<< (nI n &&& 31)) ^^^ (-1))
theorem amt {n : Nat} (h : n < 32) : nI n &&& 31 = nI n := (by decide +kernel : ∀ n : Nat, n < 32 → nI n &&& 31 = nI n) n h
theorem wo_bit {n : Nat} (h : n < 32) (x : Int32) (j : Nat) : bt2 (wo n x) j = (bt2 x j && !decide (j = n)) := zs_off h (amt h) j
theorem sh_bit {n : Nat} (h : n < 32) (x : Int32) : ((x >>> (nI n &&& 31)) &&& 1) = 0 ↔ bt2 x n = false := zs_bit h (amt h)
/-- one going, from part n - 1 down -/
def go (V : Int32 → Int32) : Nat → Int32 → Int32
  | 0, x => x
  | n + 1, x => if bt2 x n = false then go V n x else if V (wo n x) = 0 then go V n x else go V n (wo n x)
theorem go_sub (V : Int32 → Int32) : ∀ (n : Nat) (x : Int32) (j : Nat), n ≤ 32 → bt2 (go V n x) j = true → bt2 x j = true := by
  intro n
  induction n with
  | zero => intro x j _ h; exact h
  | succ n ih =>
    intro x j hn h
    rw [go] at h
    split at h
    · exact ih x j (by omega) h
    · split at h
      · exact ih x j (by omega) h
      · have := ih (wo n x) j (by omega) h
        rw [wo_bit (by omega), Bool.and_eq_true] at this
        exact this.1
theorem go_hi (V : Int32 → Int32) {P : Nat} (x : Int32) (hx : ∀ j, P ≤ j → bt2 x j = false) : ∀ n, P ≤ n → go V n x = go V P x := by
  intro n
  induction n with
  | zero => intro h; rw [show P = 0 by omega]
  | succ n ih =>
    intro h
    rcases Nat.lt_or_ge n P with q | q
    · rw [show P = n + 1 by omega]
    · rw [go, if_pos (hx n q), ih q]
theorem K_go (L : SD) : ∀ (n fuel : Nat) (x : Int32), n ≤ 21 → n < fuel → L_D_afterOneGoing_5 fuel L x (nI n - 1) = go (F_D_staysFor L) n x := by
  intro n
  induction n with
  | zero =>
    intro fuel x _ h
    obtain ⟨g, rfl⟩ : ∃ f, fuel = f + 1 := ⟨fuel - 1, by omega⟩
    rw [L_D_afterOneGoing_5, if_pos (show nI 0 - 1 < 0 by decide), go]
  | succ n ih =>
    intro fuel x hn h
    obtain ⟨g, rfl⟩ : ∃ f, fuel = f + 1 := ⟨fuel - 1, by omega⟩
    have e : nI n + (-1) = nI n - 1 := by rw [Int32.sub_eq_add_neg]
    rw [L_D_afterOneGoing_5, nI_pred, if_neg (nI_pos (by omega)), go, e]
    have e2 : F_D_without (nI n) x = wo n x := rfl
    by_cases q1 : bt2 x n = false
    · rw [if_pos q1, if_pos ((isIn_eq _ _).mpr ((sh_bit (by omega) x).mpr q1)), ih g x (by omega) (by omega)]
    · rw [if_neg q1, if_neg (fun z => q1 ((sh_bit (by omega) x).mp ((isIn_eq _ _).mp z))), e2]
      by_cases q2 : F_D_staysFor L (wo n x) = 0
      · rw [if_pos q2, if_pos q2, ih g x (by omega) (by omega)]
      · rw [if_neg q2, if_neg q2, ih g _ (by omega) (by omega)]
theorem M_go (M : SM) (V : Int32 → Int32) (hV : ∀ x y, F_M_stays (uM_left M x) y = V y) (κ : SM → Int32 → Int32 × SM) : ∀ (n fuel : Nat) (x v : Int32), n ≤ 21 → n < fuel → L_M_shorter_35 κ fuel (uM_left M x) v (nI n - 1) = κ (uM_left M (go V n x)) (if go V n x = x then v else 1) := by
  intro n
  induction n with
  | zero =>
    intro fuel x v _ h
    obtain ⟨g, rfl⟩ : ∃ f, fuel = f + 1 := ⟨fuel - 1, by omega⟩
    rw [L_M_shorter_35, if_pos (show nI 0 - 1 < 0 by decide), go, if_pos rfl]
  | succ n ih =>
    intro fuel x v hn h
    obtain ⟨g, rfl⟩ : ∃ f, fuel = f + 1 := ⟨fuel - 1, by omega⟩
    have e : nI n + (-1) = nI n - 1 := by rw [Int32.sub_eq_add_neg]
    have el : sM_left (uM_left M x) = x := Eq.trans rfl rfl
    have eu : ∀ y, uM_left (uM_left M x) y = uM_left M y := fun y => Eq.trans rfl rfl
    rw [L_M_shorter_35, nI_pred, if_neg (nI_pos (by omega)), el, eu, hV, e]
    have e2 : x &&& (((1 : Int32) <<< (nI n &&& 31)) ^^^ (-1)) = wo n x := rfl
    rw [e2]
    by_cases q1 : bt2 x n = false
    · have e3 : go V (n + 1) x = go V n x := by rw [go, if_pos q1]
      rw [if_pos ((sh_bit (by omega) x).mpr q1), ih g x v (by omega) (by omega), e3]
    · rw [if_neg (fun z => q1 ((sh_bit (by omega) x).mp z))]
      by_cases q2 : V (wo n x) = 0
      · have e3 : go V (n + 1) x = go V n x := by rw [go, if_neg q1, if_pos q2]
        rw [if_pos q2, ih g x v (by omega) (by omega), e3]
      · have e3 : go V (n + 1) x = go V n (wo n x) := by rw [go, if_neg q1, if_neg q2]
        rw [if_neg q2, ih g _ 1 (by omega) (by omega), e3]
        have h4 : ¬ go V n (wo n x) = x := by
          intro z
          have h5 : bt2 (go V n (wo n x)) n = true := by
            rw [z]
            rcases hb : bt2 x n with _ | _
            · exact absurd hb q1
            · rfl
          have h6 := go_sub V n (wo n x) n (by omega) h5
          rw [wo_bit (by omega)] at h6
          simp at h6
        rw [if_neg h4]
        split <;> rfl
/-- how many of the first n bits -/
def pc (x : Int32) : Nat → Nat
  | 0 => 0
  | n + 1 => pc x n + (if bt2 x n = true then 1 else 0)
theorem pc_le {x y : Int32} (h : ∀ j, bt2 y j = true → bt2 x j = true) : ∀ n, pc y n ≤ pc x n := by
  intro n
  induction n with
  | zero => exact Nat.le_refl _
  | succ n ih =>
    rw [pc, pc]
    by_cases q : bt2 y n = true
    · rw [if_pos q, if_pos (h n q)]; omega
    · rw [if_neg q]; omega
theorem pc_lt {x y : Int32} (h : ∀ j, bt2 y j = true → bt2 x j = true) : ∀ n j, j < n → bt2 x j = true → bt2 y j = false → pc y n < pc x n := by
  intro n
  induction n with
  | zero => intro j hj; omega
  | succ n ih =>
    intro j hj h1 h2
    have hl := pc_le h n
    rw [pc, pc]
    rcases Nat.lt_or_ge j n with q | q
    · have := ih j q h1 h2
      by_cases z : bt2 y n = true
      · rw [if_pos z, if_pos (h n z)]; omega
      · rw [if_neg z]; omega
    · have : j = n := by omega
      subst this
      rw [if_pos h1, h2]
      simp
      omega
theorem pc_n (x : Int32) : ∀ n, pc x n ≤ n := by
  intro n
  induction n with
  | zero => exact Nat.le_refl _
  | succ n ih => rw [pc]; split <;> omega
theorem ne_bit {x y : Int32} (h : ∀ j, bt2 y j = true → bt2 x j = true) (hne : ¬ y = x) : ∃ j, bt2 x j = true ∧ bt2 y j = false := by
  apply Classical.byContradiction
  intro q
  apply hne
  apply Int32.toBitVec_inj.mp
  apply BitVec.eq_of_getLsbD_eq
  intro j hj
  rcases hx : bt2 x j with _ | _
  · rcases hy : bt2 y j with _ | _
    · exact hy.trans hx.symm
    · have := h j hy
      rw [hx] at this
      cases this
  · rcases hy : bt2 y j with _ | _
    · exact absurd ⟨j, hx, hy⟩ q
    · exact hy.trans hx.symm
theorem sub_lt {x y : Int32} (h : ∀ j, bt2 y j = true → bt2 x j = true) (hne : ¬ y = x) : y.toBitVec.toNat < x.toBitVec.toNat := by
  have h1 : y.toBitVec ||| x.toBitVec = x.toBitVec := by
    apply BitVec.eq_of_getLsbD_eq
    intro j hj
    rw [BitVec.getLsbD_or]
    rcases hy : y.toBitVec.getLsbD j with _ | _
    · rw [Bool.false_or]
    · rw [show x.toBitVec.getLsbD j = true from h j hy]
      rfl
  have h2 : y.toBitVec.toNat ≤ x.toBitVec.toNat := by
    rw [← h1, BitVec.toNat_or]
    exact Nat.left_le_or
  rcases Nat.lt_or_ge y.toBitVec.toNat x.toBitVec.toNat with q | q
  · exact q
  · exact absurd (Int32.toBitVec_inj.mp (BitVec.eq_of_toNat_eq (by omega))) hne
/-- the goings end alike -/
theorem sm_loop (L : SD) (M : SM) {P : Nat} (hP2 : P ≤ 21) (hPM : sM_parts M = nI P) (hV : ∀ x y, F_M_stays (uM_left M x) y = F_D_staysFor L y) : ∀ (m g f1 f2 : Nat) (x : Int32), pc x 21 ≤ m → g + m ≤ 21 → m + 1 < f1 → x.toBitVec.toNat + 2 ≤ f2 → (∀ j, P ≤ j → bt2 x j = false) → ∃ r : Int32, L_D_smallerCase_14 f1 L x (nI g) = r ∧ L_M_shorter_22 f2 (uM_left M x) 1 = (F_M_count r, uM_left M r) ∧ ∀ j, P ≤ j → bt2 r j = false := by
  intro m
  induction m with
  | zero =>
    intro g f1 f2 x h1 h2 h3 h4 h5
    obtain ⟨g1, rfl⟩ : ∃ f, f1 = f + 1 := ⟨f1 - 1, by omega⟩
    obtain ⟨g2, rfl⟩ : ∃ f, f2 = f + 1 + 1 := ⟨f2 - 2, by omega⟩
    have hF : go (F_D_staysFor L) P x = x := by
      apply Classical.byContradiction
      intro q
      obtain ⟨j, b1, b2⟩ := ne_bit (fun j => go_sub (F_D_staysFor L) P x j (by omega)) q
      have hj : j < 21 := by
        rcases Nat.lt_or_ge j 21 with z | z
        · exact z
        · rw [h5 j (by omega)] at b1; cases b1
      have := pc_lt (fun j => go_sub (F_D_staysFor L) P x j (by omega)) 21 j hj b1 b2
      omega
    refine ⟨x, ?_, ?_, h5⟩
    · have e : F_D_afterOneGoing L x = x := by
        unfold F_D_afterOneGoing
        have := K_go L 21 ((Int32.toInt 20 + 1).toNat + 1) x (by decide) (by decide)
        rw [show nI 21 - 1 = (20 : Int32) by decide] at this
        rw [this, go_hi _ x h5 21 hP2, hF]
      rw [L_D_smallerCase_14, if_neg (show ¬ (21 : Int32) < nI g from nI_nlt (b := g) (a := 21) (by omega) (by decide)), if_pos e]
    · have ep : sM_parts (uM_left M x) = nI P := hPM
      have hfu : P < (Int32.toInt (nI P - 1) + 1).toNat + 1 := by
        rw [show (1 : Int32) = nI 1 from rfl, pk_sub_toInt (by omega) (by decide)]
        omega
      rw [L_M_shorter_22, if_neg (show ¬ (1 : Int32) = 0 by decide), ep, M_go M (F_D_staysFor L) hV _ P _ x 0 hP2 hfu, hF, if_pos rfl, L_M_shorter_22, if_pos rfl]
      rfl
  | succ m ih =>
    intro g f1 f2 x h1 h2 h3 h4 h5
    obtain ⟨g1, rfl⟩ : ∃ f, f1 = f + 1 := ⟨f1 - 1, by omega⟩
    obtain ⟨g2, rfl⟩ : ∃ f, f2 = f + 1 := ⟨f2 - 1, by omega⟩
    have e : F_D_afterOneGoing L x = go (F_D_staysFor L) P x := by
      unfold F_D_afterOneGoing
      have := K_go L 21 ((Int32.toInt 20 + 1).toNat + 1) x (by decide) (by decide)
      rw [show nI 21 - 1 = (20 : Int32) by decide] at this
      rw [this, go_hi _ x h5 21 hP2]
    have ep : sM_parts (uM_left M x) = nI P := hPM
    have hfu : P < (Int32.toInt (nI P - 1) + 1).toNat + 1 := by
      rw [show (1 : Int32) = nI 1 from rfl, pk_sub_toInt (by omega) (by decide)]
      omega
    rw [L_D_smallerCase_14, if_neg (show ¬ (21 : Int32) < nI g from nI_nlt (b := g) (a := 21) (by omega) (by decide)), e, L_M_shorter_22, if_neg (show ¬ (1 : Int32) = 0 by decide), ep, M_go M (F_D_staysFor L) hV _ P _ x 0 hP2 hfu]
    by_cases q : go (F_D_staysFor L) P x = x
    · obtain ⟨g3, rfl⟩ : ∃ f, g2 = f + 1 := ⟨g2 - 1, by omega⟩
      refine ⟨x, by rw [if_pos q], ?_, h5⟩
      rw [q, if_pos rfl, L_M_shorter_22, if_pos rfl]
      rfl
    · have hs := fun j => go_sub (F_D_staysFor L) P x j (by omega)
      obtain ⟨j, b1, b2⟩ := ne_bit hs q
      have hj : j < 21 := by
        rcases Nat.lt_or_ge j 21 with z | z
        · exact z
        · rw [h5 j (by omega)] at b1; cases b1
      have hp := pc_lt hs 21 j hj b1 b2
      have ht := sub_lt hs q
      have h6 : ∀ j, P ≤ j → bt2 (go (F_D_staysFor L) P x) j = false := fun j hj => by
        rcases hb : bt2 (go (F_D_staysFor L) P x) j with _ | _
        · rfl
        · have := hs j hb
          rw [h5 j hj] at this
          cases this
      rw [if_neg q, if_neg q, nI_1]
      exact ih (g + 1) g1 g2 _ (by omega) (by omega) (by omega) (by omega) h6
