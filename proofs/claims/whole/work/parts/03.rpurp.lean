/-! PURE ROWS: plans, as the search has them. -/
theorem cpy4 (f g : Int → Int) : va_cpy (aI f) (aI g) (iZ 0).toNatClampNeg (iZ 0).toNatClampNeg (iZ 4).toNatClampNeg = aI (cp4 f g) := by
  have e0 : (iZ 0).toNatClampNeg = 0 := by decide
  have e4 : (iZ 4).toNatClampNeg = 4 := by decide
  rw [e0, e4]
  funext j
  unfold aI cp4
  by_cases h : j < 4
  · rw [pk_cpy_in (by omega) (by omega), if_pos (by omega)]
    congr 2
    omega
  · rw [pk_cpy_out (by omega), if_neg (by omega)]
def odN (f m : Int → Int) : Nat → (Int → Int) → Int × (Int → Int)
  | 0, t => (0, t)
  | k + 1, t => if t k < m k then (1, pu t k (t k + 1)) else odN f m k (pu t k (f k))
theorem od_yes {f m t : Int → Int} {i : Int} {x : Int × (Int → Int)} (h : odN f m (i + 1).toNat t = x) (hi : 0 ≤ i) (hc : t i < m i) : (1, pu t i (t i + 1)) = x := by
  have e : (i + 1).toNat = i.toNat + 1 := by omega
  rw [← h, e]
  show _ = if t (i.toNat : Int) < m (i.toNat : Int) then (1, pu t (i.toNat : Int) (t (i.toNat : Int) + 1)) else _
  rw [Int.toNat_of_nonneg hi, if_pos hc]
theorem od_no {f m t : Int → Int} {i : Int} {x : Int × (Int → Int)} (h : odN f m (i + 1).toNat t = x) (hi : 0 ≤ i) (hc : ¬ t i < m i) : odN f m (i - 1 + 1).toNat (pu t i (f i)) = x := by
  have e : (i + 1).toNat = i.toNat + 1 := by omega
  have e2 : (i - 1 + 1).toNat = i.toNat := by omega
  rw [← h, e, e2]
  show _ = if t (i.toNat : Int) < m (i.toNat : Int) then _ else odN f m i.toNat (pu t (i.toNat : Int) (f (i.toNat : Int)))
  rw [Int.toNat_of_nonneg hi, if_neg hc]
theorem od_z {f m t : Int → Int} {i : Int} {x : Int × (Int → Int)} (h : odN f m (i + 1).toNat t = x) (hi : i < 0) : (0, t) = x := by
  have e : (i + 1).toNat = 0 := by omega
  rw [← h, e]; rfl
theorem pu_r4 {f : Int → Int} {i v lo hi : Int} (hf : ∀ j, 0 ≤ j → j < 4 → lo ≤ f j ∧ f j ≤ hi) (h1 : lo ≤ v) (h2 : v ≤ hi) : ∀ j, 0 ≤ j → j < 4 → lo ≤ pu f i v j ∧ pu f i v j ≤ hi := by
  intro j a b
  by_cases h : j = i
  · subst h; rw [pu_eq]; exact ⟨h1, h2⟩
  · rw [pu_ne f h]; exact hf j a b
theorem od_rng {f m : Int → Int} (hf : ∀ j, 0 ≤ j → j < 4 → 0 ≤ f j ∧ f j ≤ 6) (hm : ∀ j, 0 ≤ j → j < 4 → 0 ≤ m j ∧ m j ≤ 6) : ∀ (k : Nat) (t : Int → Int), k ≤ 4 → (∀ j, 0 ≤ j → j < 4 → 0 ≤ t j ∧ t j ≤ 6) → (∀ j, 0 ≤ j → j < 4 → 0 ≤ (odN f m k t).2 j ∧ (odN f m k t).2 j ≤ 6) ∧ 0 ≤ (odN f m k t).1 ∧ (odN f m k t).1 ≤ 1 := by
  intro k
  induction k with
  | zero => intro t _ h; exact ⟨h, show (0 : Int) ≤ 0 by omega, show (0 : Int) ≤ 1 by omega⟩
  | succ k ih =>
    intro t hk h
    show (∀ j, 0 ≤ j → j < 4 → 0 ≤ (if t k < m k then ((1 : Int), pu t k (t k + 1)) else odN f m k (pu t k (f k))).2 j ∧ (if t k < m k then ((1 : Int), pu t k (t k + 1)) else odN f m k (pu t k (f k))).2 j ≤ 6) ∧ 0 ≤ (if t k < m k then ((1 : Int), pu t k (t k + 1)) else odN f m k (pu t k (f k))).1 ∧ (if t k < m k then ((1 : Int), pu t k (t k + 1)) else odN f m k (pu t k (f k))).1 ≤ 1
    have tk := h k (by omega) (by omega)
    have mk := hm k (by omega) (by omega)
    have fk := hf k (by omega) (by omega)
    by_cases c : t k < m k
    · rw [if_pos c]; exact ⟨pu_r4 h (by omega) (by omega), show (0 : Int) ≤ 1 by omega, show (1 : Int) ≤ 1 by omega⟩
    · rw [if_neg c]; exact ih _ (by omega) (pu_r4 h fk.1 fk.2)
def ncost (co t : Int → Int) : Int := sZ (fun j => t j * co j) 4
def nsum (bu t : Int → Int) : Int := sZ (fun j => if 0 < t j then bu j / t j else 0) 4
def csx (co bu : Int → Int) (li : Int) (t : Int → Int) (x : Int × Int × (Int → Int)) : Int × Int × (Int → Int) := if ncost co t < x.2.1 ∧ nsum bu t ≤ li then (1, ncost co t, cp4 t x.2.2) else x
def rn (f m co bu : Int → Int) (li : Int) : Nat → (Int → Int) → Int × Int × (Int → Int) → Int × Int × (Int → Int)
  | 0, _, x => x
  | k + 1, t, x => if (odN f m 4 t).1 = 0 then csx co bu li t x else rn f m co bu li k (odN f m 4 t).2 (csx co bu li t x)
theorem rn_go {f m co bu t : Int → Int} {li i : Int} {x y z : Int × Int × (Int → Int)} (h : rn f m co bu li (1296 - i).toNat t x = z) (hi : i < 1296) (hx : y = csx co bu li t x) (hc : ¬ (odN f m 4 t).1 = 0) : rn f m co bu li (1296 - (i + 1)).toNat (odN f m 4 t).2 y = z := by
  have e : (1296 - i).toNat = (1296 - (i + 1)).toNat + 1 := by omega
  rw [← h, e, hx]
  show _ = if (odN f m 4 t).1 = 0 then _ else rn f m co bu li (1296 - (i + 1)).toNat (odN f m 4 t).2 (csx co bu li t x)
  rw [if_neg hc]
theorem rn_st {f m co bu t : Int → Int} {li i : Int} {x y z : Int × Int × (Int → Int)} (h : rn f m co bu li (1296 - i).toNat t x = z) (hi : i < 1296) (hx : y = csx co bu li t x) (hc : (odN f m 4 t).1 = 0) : y = z := by
  have e : (1296 - i).toNat = (1296 - (i + 1)).toNat + 1 := by omega
  rw [← h, e, hx]
  show _ = if (odN f m 4 t).1 = 0 then csx co bu li t x else _
  rw [if_pos hc]
theorem rn_end {f m co bu t : Int → Int} {li i : Int} {x z : Int × Int × (Int → Int)} (h : rn f m co bu li (1296 - i).toNat t x = z) (hi : ¬ i < 1296) : x = z := by
  have e : (1296 - i).toNat = 0 := by omega
  rw [← h, e]; rfl
theorem nc_1 {co t : Int → Int} {i x : Int} (h : x = sZ (fun j => t j * co j) i) (hi : 0 ≤ i) : x + t i * co i = sZ (fun j => t j * co j) (i + 1) := sz_step (g := fun j => t j * co j) h hi
theorem nc_b {co t : Int → Int} {i x : Int} (h : x = sZ (fun j => t j * co j) i) (hi : 0 ≤ i) (hi2 : i ≤ 4) (ht : ∀ j, 0 ≤ j → j < 4 → 0 ≤ t j ∧ t j ≤ 6) (hc : ∀ j, 0 ≤ j → j < 4 → 0 ≤ co j ∧ co j ≤ 100000) : 0 ≤ x ∧ x ≤ 2400000 := by
  have m : ∀ j, 0 ≤ j → j < 4 → 0 ≤ t j * co j ∧ t j * co j ≤ 600000 := fun j h1 h2 => mul_bd (ht j h1 h2).1 (ht j h1 h2).2 (hc j h1 h2).1 (hc j h1 h2).2
  have m0 := m 0 (by omega) (by omega)
  have m1 := m 1 (by omega) (by omega)
  have m2 := m 2 (by omega) (by omega)
  have m3 := m 3 (by omega) (by omega)
  have e0 : sZ (fun j => t j * co j) 0 = 0 := rfl
  have e1 : sZ (fun j => t j * co j) 1 = 0 + t 0 * co 0 := rfl
  have e2 : sZ (fun j => t j * co j) 2 = 0 + t 0 * co 0 + t 1 * co 1 := rfl
  have e3 : sZ (fun j => t j * co j) 3 = 0 + t 0 * co 0 + t 1 * co 1 + t 2 * co 2 := rfl
  have e4 : sZ (fun j => t j * co j) 4 = 0 + t 0 * co 0 + t 1 * co 1 + t 2 * co 2 + t 3 * co 3 := rfl
  rcases (show i = 0 ∨ i = 1 ∨ i = 2 ∨ i = 3 ∨ i = 4 by omega) with rfl | rfl | rfl | rfl | rfl <;> omega
theorem ns_1 {bu t : Int → Int} {i x : Int} (h : x = sZ (fun j => if 0 < t j then bu j / t j else 0) i) (hi : 0 ≤ i) (hc : 0 < t i) : x + bu i / t i = sZ (fun j => if 0 < t j then bu j / t j else 0) (i + 1) := by
  rw [sZ_s _ hi, ← h]; try dsimp only
  rw [if_pos hc]
theorem ns_0 {bu t : Int → Int} {i x : Int} (h : x = sZ (fun j => if 0 < t j then bu j / t j else 0) i) (hi : 0 ≤ i) (hc : ¬ 0 < t i) : x = sZ (fun j => if 0 < t j then bu j / t j else 0) (i + 1) := by
  rw [sZ_s _ hi, ← h]; try dsimp only
  rw [if_neg hc]; omega
theorem ns_b {bu t : Int → Int} {i x : Int} (h : x = sZ (fun j => if 0 < t j then bu j / t j else 0) i) (hi : 0 ≤ i) (hi2 : i ≤ 4) (hb : ∀ j, 0 ≤ j → j < 4 → 0 ≤ bu j ∧ bu j ≤ 100000000000000000) : 0 ≤ x ∧ x ≤ 400000000000000000 := by
  have m : ∀ j, 0 ≤ j → j < 4 → 0 ≤ (if 0 < t j then bu j / t j else 0) ∧ (if 0 < t j then bu j / t j else 0) ≤ 100000000000000000 := by
    intro j h1 h2
    have b := hb j h1 h2
    by_cases c : 0 < t j
    · rw [if_pos c]
      have d := div_bd (c := bu j) (b := t j) b.1 (by omega)
      omega
    · rw [if_neg c]; omega
  have m0 := m 0 (by omega) (by omega)
  have m1 := m 1 (by omega) (by omega)
  have m2 := m 2 (by omega) (by omega)
  have m3 := m 3 (by omega) (by omega)
  have e1 : sZ (fun j => if 0 < t j then bu j / t j else 0) 1 = 0 + (if 0 < t 0 then bu 0 / t 0 else 0) := rfl
  have e2 : sZ (fun j => if 0 < t j then bu j / t j else 0) 2 = 0 + (if 0 < t 0 then bu 0 / t 0 else 0) + (if 0 < t 1 then bu 1 / t 1 else 0) := rfl
  have e3 : sZ (fun j => if 0 < t j then bu j / t j else 0) 3 = 0 + (if 0 < t 0 then bu 0 / t 0 else 0) + (if 0 < t 1 then bu 1 / t 1 else 0) + (if 0 < t 2 then bu 2 / t 2 else 0) := rfl
  have e4 : sZ (fun j => if 0 < t j then bu j / t j else 0) 4 = 0 + (if 0 < t 0 then bu 0 / t 0 else 0) + (if 0 < t 1 then bu 1 / t 1 else 0) + (if 0 < t 2 then bu 2 / t 2 else 0) + (if 0 < t 3 then bu 3 / t 3 else 0) := rfl
  generalize (if 0 < t 0 then bu 0 / t 0 else 0) = a0 at *
  generalize (if 0 < t 1 then bu 1 / t 1 else 0) = a1 at *
  generalize (if 0 < t 2 then bu 2 / t 2 else 0) = a2 at *
  generalize (if 0 < t 3 then bu 3 / t 3 else 0) = a3 at *
  rcases (show i = 0 ∨ i = 1 ∨ i = 2 ∨ i = 3 ∨ i = 4 by omega) with rfl | rfl | rfl | rfl | rfl
  · have e0 : sZ (fun j => if 0 < t j then bu j / t j else 0) 0 = 0 := rfl
    omega
  · omega
  · omega
  · omega
  · omega
theorem cp4_r {f g : Int → Int} {lo hi : Int} (hf : ∀ j, 0 ≤ j → j < 4 → lo ≤ f j ∧ f j ≤ hi) : ∀ j, 0 ≤ j → j < 4 → lo ≤ cp4 f g j ∧ cp4 f g j ≤ hi := by
  intro j h1 h2; unfold cp4; rw [if_pos ⟨h1, h2⟩]; exact hf j h1 h2
theorem csx_y {co bu t h : Int → Int} {li ho ch x y : Int} (hx : x = ncost co t) (hy : y = nsum bu t) (h1 : x < ch) (h2 : y ≤ li) : (1, x, cp4 t h) = csx co bu li t (ho, ch, h) := by
  unfold csx; rw [if_pos ⟨hx ▸ h1, hy ▸ h2⟩, hx]
theorem csx_n {co bu t h : Int → Int} {li ho ch x : Int} (hx : x = ncost co t) (h1 : ¬ x < ch) : (ho, ch, h) = csx co bu li t (ho, ch, h) := by
  unfold csx; rw [if_neg (fun z => h1 (hx ▸ z.1))]
theorem csx_n2 {co bu t h : Int → Int} {li ho ch y : Int} (hy : y = nsum bu t) (h1 : ¬ y ≤ li) : (ho, ch, h) = csx co bu li t (ho, ch, h) := by
  unfold csx; rw [if_neg (fun z => h1 (hy ▸ z.2))]
theorem csx_b {co bu t h : Int → Int} {li ho ch ho2 ch2 : Int} {h2 : Int → Int} (hq : (ho2, ch2, h2) = csx co bu li t (ho, ch, h)) (hho : 0 ≤ ho ∧ ho ≤ 1) (hch : 0 ≤ ch ∧ ch ≤ 9223372036854775807) (hn : 0 ≤ ncost co t) : (0 ≤ ho2 ∧ ho2 ≤ 1) ∧ 0 ≤ ch2 ∧ ch2 ≤ 9223372036854775807 := by
  unfold csx at hq
  by_cases c : ncost co t < (ho, ch, h).2.1 ∧ nsum bu t ≤ li
  · rw [if_pos c] at hq
    have c1 : ncost co t < ch := c.1
    injection hq with e1 e2
    injection e2 with e3 e4
    subst e1; subst e3; subst e4
    omega
  · rw [if_neg c] at hq
    injection hq with e1 e2
    injection e2 with e3 e4
    omega
theorem pp_bd {n : Int} (hn : 0 ≤ n ∧ n ≤ 12) (h : 1 < n) : 1 ≤ n * (n - 1) ∧ n * (n - 1) ≤ 132 ∧ n * n ≤ 2 * (n * (n - 1)) := by
  rcases (show n = 2 ∨ n = 3 ∨ n = 4 ∨ n = 5 ∨ n = 6 ∨ n = 7 ∨ n = 8 ∨ n = 9 ∨ n = 10 ∨ n = 11 ∨ n = 12 by omega) with rfl | rfl | rfl | rfl | rfl | rfl | rfl | rfl | rfl | rfl | rfl <;> decide
theorem tB_pp {i : Int} {q be : Int → Int} (hB : ∀ j, 0 ≤ j → j < 4 → be j = tB 1 q (fun j => q j * (q j - 1)) i j) (hq : ∀ j, 0 ≤ j → j < 4 → 0 ≤ q j ∧ q j ≤ 12) : ∀ j, 0 ≤ j → j < 4 → 1 ≤ be j ∧ be j ≤ 2000 := by
  intro j h1 h2
  rw [hB j h1 h2]
  unfold tB
  by_cases c : j < i ∧ 1 < q j
  · rw [if_pos c]
    dsimp only
    have := pp_bd (hq j h1 h2) c.2
    omega
  · rw [if_neg c]; omega
def bur (q sz sc : Int → Int) : Int → Int := fun j => 60 * (tA 1 q (fun j => sz j * sz j * sc j) 4 j * (mnC 1 q (fun j => q j * (q j - 1)) / tB 1 q (fun j => q j * (q j - 1)) 4 j))
theorem bur_b {q sz sc : Int → Int} (hsz : ∀ j, 0 ≤ j → j < 4 → 0 ≤ sz j ∧ sz j ≤ 100) (hq : ∀ j, 0 ≤ j → j < 4 → 0 ≤ q j ∧ q j ≤ 12) (hsc : ∀ j, 0 ≤ j → j < 4 → 0 ≤ sc j ∧ sc j ≤ q j * q j * 100000000) (hc1 : 1 ≤ mnC 1 q (fun j => q j * (q j - 1))) (hc : mnC 1 q (fun j => q j * (q j - 1)) ≤ 420) : ∀ j, 0 ≤ j → j < 4 → 0 ≤ bur q sz sc j ∧ bur q sz sc j ≤ 100000000000000000 := by
  intro j h1 h2
  unfold bur
  generalize mnC 1 q (fun j => q j * (q j - 1)) = M at *
  unfold tA tB
  by_cases c : j < 4 ∧ 1 < q j
  · rw [if_pos c, if_pos c]
    dsimp only
    have n1 := pp_bd (hq j h1 h2) c.2
    have w1 := ws_bd (hsz j h1 h2) (hsc j h1 h2) (hq j h1 h2)
    have d1 := div_bd (c := M) (b := q j * (q j - 1)) (by omega) n1.1
    have d2 : (M / (q j * (q j - 1))) * (q j * (q j - 1)) ≤ M := Int.ediv_mul_le _ (by omega)
    have p1 := Int.mul_nonneg w1.1 d1.1
    have e1 := Int.mul_le_mul_of_nonneg_right w1.2.1 d1.1
    have e2 := Int.mul_le_mul_of_nonneg_right n1.2.2 d1.1
    have e3 : q j * (q j - 1) * (M / (q j * (q j - 1))) ≤ M := by rw [Int.mul_comm]; exact d2
    have e4 : 10000 * (q j * q j * 100000000) * (M / (q j * (q j - 1))) = 1000000000000 * (q j * q j * (M / (q j * (q j - 1)))) := by
      rw [show 10000 * (q j * q j * 100000000) = 1000000000000 * (q j * q j) by omega, Int.mul_assoc]
    have e5 : 2 * (q j * (q j - 1)) * (M / (q j * (q j - 1))) = 2 * (q j * (q j - 1) * (M / (q j * (q j - 1)))) := by rw [Int.mul_assoc]
    omega
  · rw [if_neg c, if_neg c]; omega
theorem lim_b {a t c : Int} (ha : 0 ≤ a ∧ a ≤ 1000000000) (ht : 0 ≤ t ∧ t ≤ 400) (hc : 1 ≤ c ∧ c ≤ 420) : 0 ≤ a * t * t * c * 60 ∧ a * t * t * c * 60 ≤ 4032000000000000000 ∧ 0 ≤ a * t * t * c ∧ a * t * t * c ≤ 67200000000000000 ∧ 0 ≤ a * t * t ∧ a * t * t ≤ 160000000000000 ∧ 0 ≤ a * t ∧ a * t ≤ 400000000000 := by
  have m1 := mul_bd ha.1 ha.2 ht.1 ht.2
  have m2 := mul_bd m1.1 m1.2 ht.1 ht.2
  have m3 := mul_bd m2.1 m2.2 (show (0 : Int) ≤ c by omega) hc.2
  omega
theorem rn_go2 {f m co bu t tr2 : Int → Int} {li i rv : Int} {x y z : Int × Int × (Int → Int)} (h : rn f m co bu li (1296 - i).toNat t x = z) (hi : i < 1296) (hx : y = csx co bu li t x) (ho : (rv, tr2) = odN f m 4 t) (hc : ¬ rv = 0) : rn f m co bu li (1296 - (i + 1)).toNat tr2 y = z := by
  have := rn_go h hi hx (by rw [← ho]; exact hc)
  rwa [← ho] at this
theorem rn_st2 {f m co bu t tr2 : Int → Int} {li i rv : Int} {x y z : Int × Int × (Int → Int)} (h : rn f m co bu li (1296 - i).toNat t x = z) (hi : i < 1296) (hx : y = csx co bu li t x) (ho : (rv, tr2) = odN f m 4 t) (hc : rv = 0) : y = z := rn_st h hi hx (by rw [← ho]; exact hc)
theorem br_eq {q sz sc ab be : Int → Int} {i : Int} (hA : ∀ j, 0 ≤ j → j < 4 → ab j = tA 1 q (fun j => sz j * sz j * sc j) 4 j) (hB : ∀ j, 0 ≤ j → j < 4 → be j = tB 1 q (fun j => q j * (q j - 1)) 4 j) (hE : cm be 4 = mnC 1 q (fun j => q j * (q j - 1))) (h1 : 0 ≤ i) (h2 : i < 4) : 60 * (ab i * (cm be 4 / be i)) = bur q sz sc i := by
  rw [hE, hA i h1 h2, hB i h1 h2]; rfl
