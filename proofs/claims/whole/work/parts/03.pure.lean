/-! PURE ROWS: sums up to an integer, Euclid's steps, greatest shared divisors of integers. -/
def sN (g : Int → Int) : Nat → Int
  | 0 => 0
  | k + 1 => sN g k + g k
def sZ (g : Int → Int) (n : Int) : Int := sN g n.toNat
theorem sZ_0 (g : Int → Int) : sZ g 0 = 0 := rfl
theorem sZ_s (g : Int → Int) {i : Int} (h : 0 ≤ i) : sZ g (i + 1) = sZ g i + g i := by
  unfold sZ
  have e : (i + 1).toNat = i.toNat + 1 := by omega
  rw [e]
  show sN g i.toNat + g (i.toNat : Int) = _
  rw [Int.toNat_of_nonneg h]
theorem sZ_c {f g : Int → Int} {n : Int} (h : ∀ j, 0 ≤ j → j < n → f j = g j) : sZ f n = sZ g n := by
  unfold sZ
  have : ∀ k : Nat, (k : Int) ≤ n → sN f k = sN g k := by
    intro k
    induction k with
    | zero => intro _; rfl
    | succ k ih =>
      intro hk
      show sN f k + f k = sN g k + g k
      rw [ih (by omega), h k (by omega) (by omega)]
  by_cases hn : 0 ≤ n
  · exact this _ (by omega)
  · have : n.toNat = 0 := by omega
    rw [this]; rfl
theorem sZ_nn {g : Int → Int} (n : Int) (h : ∀ j, 0 ≤ g j) : 0 ≤ sZ g n := by
  unfold sZ
  induction n.toNat with
  | zero => exact Int.le_refl 0
  | succ k ih =>
    show 0 ≤ sN g k + g k
    have := h k
    omega
theorem sZ_le {g : Int → Int} {n : Int} (B : Int) (hn : 0 ≤ n) (h : ∀ j, g j ≤ B) : sZ g n ≤ B * n := by
  unfold sZ
  have : ∀ k : Nat, sN g k ≤ B * k := by
    intro k
    induction k with
    | zero => simp [sN]
    | succ k ih =>
      have h1 := h k
      show sN g k + g k ≤ B * ((k : Int) + 1)
      rw [Int.mul_add]
      omega
  have h2 := this n.toNat
  rwa [Int.toNat_of_nonneg hn] at h2
def eu : Nat → Int × Int → Int × Int
  | 0, x => x
  | k + 1, x => if x.2 = 0 then x else eu k (x.2, x.1 % x.2)
theorem eu_s {k : Nat} {g h : Int} (hh : ¬ h = 0) : eu (k + 1) (g, h) = eu k (h, g % h) := by
  show (if h = 0 then (g, h) else eu k (h, g % h)) = _
  rw [if_neg hh]
theorem eu_n (k : Nat) (g : Int) : eu k (g, 0) = (g, 0) := by
  cases k with
  | zero => rfl
  | succ k => rfl
def fb : Nat → Nat × Nat
  | 0 => (0, 1)
  | k + 1 => ((fb k).2, (fb k).1 + (fb k).2)
theorem eu_zero : ∀ (k : Nat), (∀ g h : Int, 0 ≤ h → h < ((fb k).2 : Int) → (eu k (g, h)).2 = 0) ∧ ∀ g h : Int, 0 ≤ h → h < ((fb (k + 1)).2 : Int) → (eu (k + 1) (g, h)).2 = 0 := by
  intro k
  induction k with
  | zero =>
    refine ⟨fun g h h1 h2 => ?_, fun g h h1 h2 => ?_⟩
    · have e : ((fb 0).2 : Int) = 1 := by decide
      rw [e] at h2
      show h = 0
      omega
    · have e : ((fb (0 + 1)).2 : Int) = 1 := by decide
      rw [e] at h2
      have h3 : h = 0 := by omega
      subst h3
      rw [eu_n]
  | succ k ih =>
    refine ⟨ih.2, fun g h h1 h2 => ?_⟩
    by_cases hh : h = 0
    · subst hh; rw [eu_n]
    · rw [eu_s hh]
      have b1 : 0 ≤ g % h := Int.emod_nonneg _ hh
      have b2 : g % h < h := Int.emod_lt_of_pos _ (by omega)
      by_cases hc : g % h < ((fb (k + 1)).2 : Int)
      · exact ih.2 h (g % h) b1 hc
      · have e1 : ((fb (k + 1 + 1)).2 : Int) = ((fb k).2 : Int) + ((fb (k + 1)).2 : Int) := rfl
        rw [e1] at h2
        have hne : ¬ g % h = 0 := by
          intro z
          have p1 : ∀ j : Nat, 0 < (fb j).2 := by
            intro j
            have : 0 < (fb j).2 ∧ 0 ≤ (fb j).1 := by
              induction j with
              | zero => decide
              | succ j ih => exact ⟨by show 0 < (fb j).1 + (fb j).2; omega, Nat.zero_le _⟩
            exact this.1
          have := p1 (k + 1)
          omega
        rw [eu_s hne]
        have c1 : h % (g % h) ≤ h - g % h := by
          have c2 := Int.mul_ediv_add_emod h (g % h)
          have c3 : 1 ≤ h / (g % h) := by
            rw [Int.le_ediv_iff_mul_le (by omega)]; omega
          have c4 : g % h ≤ (g % h) * (h / (g % h)) := by
            have := Int.mul_le_mul_of_nonneg_left c3 b1
            omega
          omega
        exact ih.1 (g % h) (h % (g % h)) (Int.emod_nonneg _ hne) (by omega)
theorem eu_100 (g : Int) {h : Int} (h1 : 0 ≤ h) (h2 : h < 9223372036854775808) : (eu 100 (g, h)).2 = 0 := by
  refine (eu_zero 100).1 g h h1 ?_
  have : (9223372036854775808 : Int) ≤ ((fb 100).2 : Int) := by decide +kernel
  omega
theorem gc_step (g h : Int) : Int.gcd h (g % h) = Int.gcd g h := by
  rw [Int.emod_def, Int.gcd_sub_mul_left_right, Int.gcd_comm]
theorem pu_upto {f g : Int → Int} {i v : Int} (hf : ∀ j, 0 ≤ j → j < i → f j = g j) (hv : v = g i) : ∀ j, 0 ≤ j → j < i + 1 → pu f i v j = g j := by
  intro j h1 h2
  by_cases h : j = i
  · subst h; rw [pu_eq, hv]
  · rw [pu_ne f h]; exact hf j h1 (by omega)
theorem pu_all {f : Int → Int} {i v lo hi : Int} (hf : ∀ j, lo ≤ f j ∧ f j ≤ hi) (h1 : lo ≤ v) (h2 : v ≤ hi) : ∀ j, lo ≤ pu f i v j ∧ pu f i v j ≤ hi := by
  intro j
  by_cases h : j = i
  · subst h; rw [pu_eq]; exact ⟨h1, h2⟩
  · rw [pu_ne f h]; exact hf j
theorem gs_end {g h a b : Int} (h0 : 0 ≤ g) (hG : Int.gcd g h = Int.gcd a b) (hz : h = 0) : g = (Int.gcd a b : Int) := by
  subst hz
  rw [← hG, Int.gcd_zero_right]
  omega
theorem gs_h {g h i : Int} (hE : (eu (100 - i).toNat (g, h)).2 = 0) (hi : 100 ≤ i) : h = 0 := by
  have e : (100 - i).toNat = 0 := by omega
  rw [e] at hE
  exact hE
theorem gs_E {g h i : Int} (hE : (eu (100 - i).toNat (g, h)).2 = 0) (hh : ¬ h = 0) (hi : i < 100) : (eu (100 - (i + 1)).toNat (h, g % h)).2 = 0 := by
  have e : (100 - i).toNat = (100 - (i + 1)).toNat + 1 := by omega
  rw [e, eu_s hh] at hE
  exact hE
theorem gs_lt {g h : Int} (h0 : 0 ≤ h) (h2 : h < 9223372036854775808) (hh : ¬ h = 0) : g % h < 9223372036854775808 := by
  have := Int.emod_lt_of_pos g (show 0 < h by omega)
  omega
theorem gc_bd {a b : Int} (ha : 1 ≤ a) : 1 ≤ (Int.gcd a b : Int) ∧ (Int.gcd a b : Int) ≤ a := by
  have h1 : 0 < Int.gcd a b := Int.gcd_pos_of_ne_zero_left _ (by omega)
  have h2 : (Int.gcd a b : Int) ≤ a := Int.le_of_dvd (by omega) (Int.gcd_dvd_left ..)
  omega
theorem gc_bd2 {a b : Int} (hb : 1 ≤ b) : 1 ≤ (Int.gcd a b : Int) ∧ (Int.gcd a b : Int) ≤ b := by
  rw [Int.gcd_comm]; exact gc_bd hb
def mv (f : Int → Int) (n a b : Int) : Int → Int := fun j => if 0 ≤ j ∧ j < n ∧ f j = a then b else f j
theorem mv_0 {f : Int → Int} {a b : Int} : f = mv f 0 a b := by
  funext j
  unfold mv
  rw [if_neg (by omega)]
theorem mv_hit {f g : Int → Int} {i a b : Int} (h : g = mv f i a b) (hi : 0 ≤ i) (hc : g i = a) : pu g i b = mv f (i + 1) a b := by
  have e : f i = a := by rw [h] at hc; unfold mv at hc; rwa [if_neg (by omega)] at hc
  funext j
  unfold pu
  by_cases hj : j = i
  · subst hj; rw [if_pos rfl]; unfold mv; rw [if_pos ⟨hi, by omega, e⟩]
  · rw [if_neg hj, h]
    unfold mv
    by_cases h1 : 0 ≤ j ∧ j < i ∧ f j = a
    · rw [if_pos h1, if_pos ⟨h1.1, by omega, h1.2.2⟩]
    · rw [if_neg h1, if_neg (fun q => h1 ⟨q.1, by omega, q.2.2⟩)]
theorem mv_miss {f g : Int → Int} {i a b : Int} (h : g = mv f i a b) (hi : 0 ≤ i) (hc : ¬ g i = a) : g = mv f (i + 1) a b := by
  have e : ¬ f i = a := by rw [h] at hc; unfold mv at hc; rwa [if_neg (by omega)] at hc
  rw [h]
  funext j
  unfold mv
  by_cases h1 : 0 ≤ j ∧ j < i ∧ f j = a
  · rw [if_pos h1, if_pos ⟨h1.1, by omega, h1.2.2⟩]
  · rw [if_neg h1, if_neg (fun q => h1 ⟨q.1, by
      have : ¬ j = i := fun z => e (z ▸ q.2.2)
      omega, q.2.2⟩)]
theorem mv_end {f g : Int → Int} {i n a b : Int} (h : g = mv f i a b) (hi : i = n) : g = mv f n a b := hi ▸ h
def sd (z : Int) : Int := z * 6364136223846793005 + 1442695040888963407
def rnd (z b : Int) : Int := (sd z % 18446744073709551616 / 8589934592) % b
theorem rnd_b (z b : Int) (h : 1 ≤ b) : 0 ≤ rnd z b ∧ rnd z b < b := ⟨Int.emod_nonneg _ (by omega), Int.emod_lt_of_pos _ (by omega)⟩
def ini (f : Int → Int) (st i : Int) : Int → Int := fun j => if st ≤ j ∧ j < st + i then j - st else f j
theorem ini_0 {f : Int → Int} {st : Int} : f = ini f st 0 := by
  funext j; unfold ini; rw [if_neg (by omega)]
theorem ini_s {f g : Int → Int} {st i : Int} (h : g = ini f st i) (hi : 0 ≤ i) : pu g (st + i) i = ini f st (i + 1) := by
  subst h
  funext j
  unfold pu ini
  by_cases h1 : j = st + i
  · rw [if_pos h1, if_pos (by omega)]; omega
  · rw [if_neg h1]
    by_cases h2 : st ≤ j ∧ j < st + i
    · rw [if_pos h2, if_pos (by omega)]
    · rw [if_neg h2, if_neg (by omega)]
def drS (st size i : Int) (x : (Int → Int) × Int) : (Int → Int) × Int := (pu (pu x.1 (st + i) (x.1 (st + i + rnd x.2 (size - i)))) (st + i + rnd x.2 (size - i)) (x.1 (st + i)), sd x.2)
def drN (st size : Int) : Nat → (Int → Int) × Int → (Int → Int) × Int
  | 0, x => x
  | k + 1, x => drS st size k (drN st size k x)
theorem ini_d {f g : Int → Int} {st i size sd0 : Int} (h : g = ini f st i) (hi : i = size) : (g, sd0) = drN st size (0 : Int).toNat (ini f st size, sd0) := by
  subst hi; subst h; rfl
theorem dr_s {st size i seed : Int} {f : Int → Int} {x : (Int → Int) × Int} (h : (f, seed) = drN st size i.toNat x) (hi : 0 ≤ i) : (pu (pu f (st + i) (f (st + i + rnd seed (size - i)))) (st + i + rnd seed (size - i)) (f (st + i)), sd seed) = drN st size (i + 1).toNat x := by
  have e : (i + 1).toNat = i.toNat + 1 := by omega
  rw [e]
  show _ = drS st size (i.toNat : Int) (drN st size i.toNat x)
  rw [← h, Int.toNat_of_nonneg hi]
  rfl
theorem dr_end {st size i n : Int} {y x : (Int → Int) × Int} (h : y = drN st size i.toNat x) (hi : i = n) : y = drN st size n.toNat x := hi ▸ h
def erq (so ki fo gr : Int → Int) (k : Int) : Int → Int := fun j => if ki j = k then (fo j - gr (so j * 3 + k)) * (fo j - gr (so j * 3 + k)) else 0
def erc (ki : Int → Int) (k : Int) : Int → Int := fun j => if ki j = k then 1 else 0
def telv (a b p : Int) : Int := (if p = 0 then a else b) / (Int.gcd a b : Int)
def ert (sq tm p : Int) : Int := if 0 < tm then telv sq (2 * tm) p else -1
theorem erq_1 {so ki fo gr : Int → Int} {k i sq : Int} (h : sq = sZ (erq so ki fo gr k) i) (hi : 0 ≤ i) (hc : ki i = k) : sq + (fo i - gr (so i * 3 + k)) * (fo i - gr (so i * 3 + k)) = sZ (erq so ki fo gr k) (i + 1) := by
  rw [sZ_s _ hi, ← h]; show _ = sq + erq so ki fo gr k i; unfold erq; rw [if_pos hc]
theorem erq_0 {so ki fo gr : Int → Int} {k i sq : Int} (h : sq = sZ (erq so ki fo gr k) i) (hi : 0 ≤ i) (hc : ¬ ki i = k) : sq = sZ (erq so ki fo gr k) (i + 1) := by
  rw [sZ_s _ hi, ← h]; show _ = sq + erq so ki fo gr k i; unfold erq; rw [if_neg hc]; omega
theorem erc_1 {ki : Int → Int} {k i tm : Int} (h : tm = sZ (erc ki k) i) (hi : 0 ≤ i) (hc : ki i = k) : tm + 1 = sZ (erc ki k) (i + 1) := by
  rw [sZ_s _ hi, ← h]; show _ = tm + erc ki k i; unfold erc; rw [if_pos hc]
theorem erc_0 {ki : Int → Int} {k i tm : Int} (h : tm = sZ (erc ki k) i) (hi : 0 ≤ i) (hc : ¬ ki i = k) : tm = sZ (erc ki k) (i + 1) := by
  rw [sZ_s _ hi, ← h]; show _ = tm + erc ki k i; unfold erc; rw [if_neg hc]; omega
theorem sq_le {x B : Int} (hB : 0 ≤ B) (h1 : -B ≤ x) (h2 : x ≤ B) : 0 ≤ x * x ∧ x * x ≤ B * B := by
  rcases Int.le_total 0 x with h | h
  · exact ⟨Int.mul_nonneg h h, Int.mul_le_mul h2 h2 h hB⟩
  · have e : x * x = (-x) * (-x) := by rw [Int.neg_mul_neg]
    rw [e]
    exact ⟨Int.mul_nonneg (by omega) (by omega), Int.mul_le_mul (by omega) (by omega) (by omega) hB⟩
theorem erq_b {so ki fo gr : Int → Int} {k i sq : Int} (h : sq = sZ (erq so ki fo gr k) i) (hi : 0 ≤ i) (hi2 : i ≤ 40) (hf : ∀ j, 0 ≤ fo j ∧ fo j ≤ 10000) (hg : ∀ j, 0 ≤ gr j ∧ gr j ≤ 10000) : 0 ≤ sq ∧ sq ≤ 4000000000 := by
  have b : ∀ j, 0 ≤ erq so ki fo gr k j ∧ erq so ki fo gr k j ≤ 100000000 := by
    intro j
    unfold erq
    by_cases hc : ki j = k
    · rw [if_pos hc]
      have f1 := hf j
      have g1 := hg (so j * 3 + k)
      exact sq_le (B := 10000) (by omega) (by omega) (by omega)
    · rw [if_neg hc]; omega
  have l1 := sZ_nn (g := erq so ki fo gr k) i (fun j => (b j).1)
  have l2 := sZ_le (g := erq so ki fo gr k) 100000000 hi (fun j => (b j).2)
  omega
theorem erc_b {ki : Int → Int} {k i tm : Int} (h : tm = sZ (erc ki k) i) (hi : 0 ≤ i) (hi2 : i ≤ 40) : 0 ≤ tm ∧ tm ≤ 40 := by
  have b : ∀ j, 0 ≤ erc ki k j ∧ erc ki k j ≤ 1 := by
    intro j
    unfold erc
    by_cases hc : ki j = k
    · rw [if_pos hc]; omega
    · rw [if_neg hc]; omega
  have l1 := sZ_nn (g := erc ki k) i (fun j => (b j).1)
  have l2 := sZ_le (g := erc ki k) 1 hi (fun j => (b j).2)
  omega
theorem ert_1 {a b : Int → Int} {sq tm i n p : Int} (h1 : sq = sZ a i) (h2 : tm = sZ b i) (hi : i = n) (ht : 0 < tm) : (if p = 0 then sq else 2 * tm) / (Int.gcd sq (2 * tm) : Int) = ert (sZ a n) (sZ b n) p := by
  subst hi; rw [← h1, ← h2]; unfold ert; rw [if_pos ht]; rfl
theorem ert_0 {a b : Int → Int} {tm i n p : Int} (h2 : tm = sZ b i) (hi : i = n) (ht : ¬ 0 < tm) : -1 = ert (sZ a n) (sZ b n) p := by
  subst hi; rw [← h2]; unfold ert; rw [if_neg ht]
theorem sz_step {g : Int → Int} {i x : Int} (h : x = sZ g i) (hi : 0 ≤ i) : x + g i = sZ g (i + 1) := by rw [sZ_s _ hi, ← h]
theorem sz_end {g : Int → Int} {i n x : Int} (h : x = sZ g i) (hi : i = n) : x = sZ g n := hi ▸ h
def lc (a b : Int) : Int := a / (Int.gcd a b : Int) * b
def cmN (f : Int → Int) : Nat → Int
  | 0 => 1
  | k + 1 => lc (cmN f k) (f k)
def cm (f : Int → Int) (i : Int) : Int := cmN f i.toNat
theorem cm_s {f : Int → Int} {i x : Int} (h : x = cm f i) (hi : 0 ≤ i) : x / (Int.gcd x (f i) : Int) * f i = cm f (i + 1) := by
  subst h
  unfold cm
  have e : (i + 1).toNat = i.toNat + 1 := by omega
  rw [e]
  show _ = lc (cmN f i.toNat) (f (i.toNat : Int))
  rw [Int.toNat_of_nonneg hi]
  rfl
theorem cm_end {f : Int → Int} {i n x : Int} (h : x = cm f i) (hi : i = n) : x = cm f n := hi ▸ h
theorem lc_b {a b B : Int} (ha : 1 ≤ a) (haB : a ≤ B) (hb : 1 ≤ b) (hb2 : b ≤ 2000) : 1 ≤ lc a b ∧ lc a b ≤ B * 2000 := by
  unfold lc
  have g := gc_bd (b := b) ha
  have q1 : 1 ≤ a / (Int.gcd a b : Int) := by rw [Int.le_ediv_iff_mul_le (by omega)]; omega
  have q2 : a / (Int.gcd a b : Int) ≤ a := Int.ediv_le_self _ (by omega)
  have m1 : 1 * 1 ≤ a / (Int.gcd a b : Int) * b := Int.mul_le_mul q1 hb (by omega) (by omega)
  have m2 : a / (Int.gcd a b : Int) * b ≤ B * 2000 := Int.mul_le_mul (by omega) hb2 (by omega) (by omega)
  omega
theorem cm_b {f : Int → Int} {i x : Int} (h : x = cm f i) (hi : 0 ≤ i) (hi2 : i ≤ 4) (hf : ∀ j, 0 ≤ j → j < 4 → 1 ≤ f j ∧ f j ≤ 2000) : 1 ≤ x ∧ x ≤ 16000000000000 := by
  subst h
  have f0 := hf 0 (by omega) (by omega)
  have f1 := hf 1 (by omega) (by omega)
  have f2 := hf 2 (by omega) (by omega)
  have f3 := hf 3 (by omega) (by omega)
  have c0 : cm f 0 = 1 := rfl
  have c1 : cm f 1 = lc 1 (f 0) := rfl
  have c2 : cm f 2 = lc (cm f 1) (f 1) := rfl
  have c3 : cm f 3 = lc (cm f 2) (f 2) := rfl
  have c4 : cm f 4 = lc (cm f 3) (f 3) := rfl
  have b1 := lc_b (a := 1) (B := 1) (by omega) (by omega) f0.1 f0.2
  rw [← c1] at b1
  have b2 := lc_b b1.1 b1.2 f1.1 f1.2
  rw [← c2] at b2
  have b3 := lc_b b2.1 b2.2 f2.1 f2.2
  rw [← c3] at b3
  have b4 := lc_b b3.1 b3.2 f3.1 f3.2
  rw [← c4] at b4
  rcases (show i = 0 ∨ i = 1 ∨ i = 2 ∨ i = 3 ∨ i = 4 by omega) with rfl | rfl | rfl | rfl | rfl <;> omega
def gn (ho lo : Int → Int) (z : Int) : Int → Int := fun b => if ho b = z ∧ lo b = 0 then 1 else 0
def gm_ (ho lo gr : Int → Int) (k z : Int) : Int → Int := fun b => if ho b = z ∧ lo b = 0 then gr (b * 3 + k) else 0
def gq (ho lo gr : Int → Int) (k z : Int) : Int → Int := fun b => if ho b = z ∧ lo b = 0 then gr (b * 3 + k) * gr (b * 3 + k) else 0
theorem gn_1 {ho lo : Int → Int} {z i x : Int} (h : x = sZ (gn ho lo z) i) (hi : 0 ≤ i) (h1 : ho i = z) (h2 : lo i = 0) : x + 1 = sZ (gn ho lo z) (i + 1) := by
  rw [← sz_step h hi]; unfold gn; rw [if_pos ⟨h1, h2⟩]
theorem gn_0 {ho lo : Int → Int} {z i x : Int} (h : x = sZ (gn ho lo z) i) (hi : 0 ≤ i) (h1 : ¬ ho i = z ∨ ¬ lo i = 0) : x = sZ (gn ho lo z) (i + 1) := by
  rw [← sz_step h hi]; unfold gn; rw [if_neg (by omega)]; omega
theorem gm_1 {ho lo gr : Int → Int} {k z i x : Int} (h : x = sZ (gm_ ho lo gr k z) i) (hi : 0 ≤ i) (h1 : ho i = z) (h2 : lo i = 0) : x + gr (i * 3 + k) = sZ (gm_ ho lo gr k z) (i + 1) := by
  rw [← sz_step h hi]; unfold gm_; rw [if_pos ⟨h1, h2⟩]
theorem gm_0 {ho lo gr : Int → Int} {k z i x : Int} (h : x = sZ (gm_ ho lo gr k z) i) (hi : 0 ≤ i) (h1 : ¬ ho i = z ∨ ¬ lo i = 0) : x = sZ (gm_ ho lo gr k z) (i + 1) := by
  rw [← sz_step h hi]; unfold gm_; rw [if_neg (by omega)]; omega
theorem gq_1 {ho lo gr : Int → Int} {k z i x : Int} (h : x = sZ (gq ho lo gr k z) i) (hi : 0 ≤ i) (h1 : ho i = z) (h2 : lo i = 0) : x + gr (i * 3 + k) * gr (i * 3 + k) = sZ (gq ho lo gr k z) (i + 1) := by
  rw [← sz_step h hi]; unfold gq; rw [if_pos ⟨h1, h2⟩]
theorem gq_0 {ho lo gr : Int → Int} {k z i x : Int} (h : x = sZ (gq ho lo gr k z) i) (hi : 0 ≤ i) (h1 : ¬ ho i = z ∨ ¬ lo i = 0) : x = sZ (gq ho lo gr k z) (i + 1) := by
  rw [← sz_step h hi]; unfold gq; rw [if_neg (by omega)]; omega
theorem gt_n {f : Int → Int} {g : Int → Int} {z x i n : Int} (h : x = sZ g i) (hi : i = n) : pu f z x = pu f z (sZ g n) := by rw [h, hi]
theorem gt_s {f : Int → Int} {g1 g2 g3 : Int → Int} {z x1 x2 x3 i n : Int} (h1 : x1 = sZ g1 i) (h3 : x3 = sZ g3 i) (h2 : x2 = sZ g2 i) (hi : i = n) : pu f z (x1 * x3 - x2 * x2) = pu f z (sZ g1 n * sZ g3 n - sZ g2 n * sZ g2 n) := by rw [h1, h2, h3, hi]
def gc (ho lo : Int → Int) (n : Int) : Int → Int := fun z => if 0 < sZ (gn ho lo z) n then 1 else 0
def gt (ho lo : Int → Int) (n : Int) (sz : Int → Int) : Int → Int := fun z => if 0 < sZ (gn ho lo z) n then sz z else 0
theorem gc_1 {ho lo : Int → Int} {n i x : Int} (h : x = sZ (gc ho lo n) i) (hi : 0 ≤ i) (hc : 0 < sZ (gn ho lo i) n) : x + 1 = sZ (gc ho lo n) (i + 1) := by
  rw [← sz_step h hi]; unfold gc; rw [if_pos hc]
theorem gc_0 {ho lo : Int → Int} {n i x : Int} (h : x = sZ (gc ho lo n) i) (hi : 0 ≤ i) (hc : ¬ 0 < sZ (gn ho lo i) n) : x = sZ (gc ho lo n) (i + 1) := by
  rw [← sz_step h hi]; unfold gc; rw [if_neg hc]; omega
theorem gt_1 {ho lo sz : Int → Int} {n i x : Int} (h : x = sZ (gt ho lo n sz) i) (hi : 0 ≤ i) (hc : 0 < sZ (gn ho lo i) n) : x + sz i = sZ (gt ho lo n sz) (i + 1) := by
  rw [← sz_step h hi]; unfold gt; rw [if_pos hc]
theorem gt_0 {ho lo sz : Int → Int} {n i x : Int} (h : x = sZ (gt ho lo n sz) i) (hi : 0 ≤ i) (hc : ¬ 0 < sZ (gn ho lo i) n) : x = sZ (gt ho lo n sz) (i + 1) := by
  rw [← sz_step h hi]; unfold gt; rw [if_neg hc]; omega
theorem up_0 (f g : Int → Int) : ∀ j : Int, 0 ≤ j → j < 0 → f j = g j := fun j h1 h2 => absurd h2 (by omega)
theorem up_end {f g : Int → Int} {i n : Int} (h : ∀ j : Int, 0 ≤ j → j < i → f j = g j) (hi : i = n) : ∀ j : Int, 0 ≤ j → j < n → f j = g j := hi ▸ h
theorem up_all {q : Int → Prop} {i n : Int} (h : ∀ j : Int, 0 ≤ j → j < i → q j) (hi : i = n) : ∀ j : Int, 0 ≤ j → j < n → q j := hi ▸ h
theorem up_no {f : Int → Int} {i v : Int} (h : ∀ j : Int, 0 ≤ j → j < i → ¬ f j = v) (hc : ¬ f i = v) : ∀ j : Int, 0 ≤ j → j < i + 1 → ¬ f j = v := by
  intro j h1 h2
  by_cases e : j = i
  · subst e; exact hc
  · exact h j h1 (by omega)
theorem gn_b (ho lo : Int → Int) (z : Int) {n : Int} (hn : 0 ≤ n) (hn2 : n ≤ 12) : 0 ≤ sZ (gn ho lo z) n ∧ sZ (gn ho lo z) n ≤ 12 := by
  have b : ∀ j, 0 ≤ gn ho lo z j ∧ gn ho lo z j ≤ 1 := by
    intro j
    unfold gn
    by_cases hc : ho j = z ∧ lo j = 0
    · rw [if_pos hc]; omega
    · rw [if_neg hc]; omega
  have l1 := sZ_nn (g := gn ho lo z) n (fun j => (b j).1)
  have l2 := sZ_le (g := gn ho lo z) 1 hn (fun j => (b j).2)
  omega
