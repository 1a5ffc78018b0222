/-! COMPARED: both readings of all ways to part, as one recursion over the bags. -/
theorem sZ_add (f : Int → Int) {a : Int} (ha : 0 ≤ a) : ∀ n : Nat, sZ f (a + (n : Int)) = sZ f a + sZ (fun w => f (a + w)) (n : Int) := by
  intro n
  induction n with
  | zero => show sZ f (a + 0) = sZ f a + 0; rw [Int.add_zero, Int.add_zero]
  | succ n ih =>
    have e : ((n + 1 : Nat) : Int) = (n : Int) + 1 := by omega
    rw [e, ← Int.add_assoc, sZ_s _ (by omega), ih, sZ_s _ (by omega), Int.add_assoc]
theorem sZ_spl (f : Int → Int) {n : Int} (hn : 0 ≤ n) : sZ f (p2 (n + 1)) = sZ f (p2 n) + sZ (fun w => f (p2 n + w)) (p2 n) := by
  have pp := p2_pos n
  obtain ⟨m, hm⟩ := Int.eq_ofNat_of_zero_le (show 0 ≤ p2 n by omega)
  have := sZ_add f (a := p2 n) (by omega) m
  rw [p2_s hn, show 2 * p2 n = p2 n + p2 n by omega]
  rw [← hm] at this
  exact this
theorem sZ_zero (n : Int) : sZ (fun _ => 0) n = 0 := by
  unfold sZ
  induction n.toNat with
  | zero => rfl
  | succ k ih => show sN (fun _ => 0) k + 0 = 0; rw [ih]; rfl
theorem bi_lo {w n : Int} (h0 : 0 ≤ w) (h1 : w < p2 n) : bi w n = 0 := by
  unfold bi
  rw [Int.ediv_eq_zero_of_lt h0 h1]; rfl
theorem bi_hi {w n : Int} (h0 : 0 ≤ w) (h1 : w < p2 n) : bi (p2 n + w) n = 1 := by
  unfold bi
  have pp := p2_pos n
  rw [Int.add_ediv_of_dvd_left (Int.dvd_refl _), Int.ediv_self (by omega), Int.ediv_eq_zero_of_lt h0 h1]; rfl
theorem p2_spl {j n : Int} (h0 : 0 ≤ j) (h : j < n) : p2 n = p2 j * (2 * p2 (n - j - 1)) := by
  unfold p2
  have e : n.toNat = j.toNat + ((n - j - 1).toNat + 1) := by omega
  rw [e, Int.pow_add, Int.pow_succ, Int.mul_comm (2 ^ (n - j - 1).toNat) 2]
theorem bi_same {w n j : Int} (hj : 0 ≤ j) (hn : j < n) : bi (p2 n + w) j = bi w j := by
  unfold bi
  have pp := p2_pos j
  rw [p2_spl hj hn, Int.mul_comm (p2 j), Int.add_comm, Int.add_mul_ediv_right _ _ (by omega)]
  omega
theorem pcn_lo {w n : Int} (hn : 0 ≤ n) (h0 : 0 ≤ w) (h1 : w < p2 n) : pcn w (n + 1) = pcn w n := by
  unfold pcn; rw [sZ_s _ hn, bi_lo h0 h1, Int.add_zero]
theorem pcn_hi {w n : Int} (hn : 0 ≤ n) (h0 : 0 ≤ w) (h1 : w < p2 n) : pcn (p2 n + w) (n + 1) = pcn w n + 1 := by
  unfold pcn; rw [sZ_s _ hn, bi_hi h0 h1, sZ_c (fun j a b => bi_same a b)]
theorem s1_lo {g : Int → Int} {w n : Int} (hn : 0 ≤ n) (h0 : 0 ≤ w) (h1 : w < p2 n) : s1 g w (n + 1) = s1 g w n := by
  unfold s1; rw [sZ_s _ hn]; (try dsimp only); rw [if_neg (by rw [bi_lo h0 h1]; decide), Int.add_zero]
theorem s1_hi {g : Int → Int} {w n : Int} (hn : 0 ≤ n) (h0 : 0 ≤ w) (h1 : w < p2 n) : s1 g (p2 n + w) (n + 1) = s1 g w n + g n := by
  unfold s1; rw [sZ_s _ hn]; (try dsimp only); rw [if_pos (bi_hi h0 h1), sZ_c (g := fun b => if bi w b = 1 then g b else 0) (fun j a b => by (try dsimp only); rw [bi_same a b])]
theorem and_up (n a b : Nat) (ha : a < 2 ^ n) (hb : b < 2 ^ n) : (2 ^ n + a) &&& (2 ^ n + b) = 2 ^ n + (a &&& b) := by
  have hab : a &&& b < 2 ^ n := Nat.and_lt_two_pow _ hb
  apply Nat.eq_of_testBit_eq
  intro i
  rw [Nat.testBit_and]
  rcases Nat.lt_trichotomy i n with h | h | h
  · rw [Nat.testBit_two_pow_add_gt h, Nat.testBit_two_pow_add_gt h, Nat.testBit_two_pow_add_gt h, Nat.testBit_and]
  · subst h
    rw [Nat.testBit_two_pow_add_eq, Nat.testBit_two_pow_add_eq, Nat.testBit_two_pow_add_eq, Nat.testBit_lt_two_pow ha, Nat.testBit_lt_two_pow hb, Nat.testBit_lt_two_pow hab]; rfl
  · have e : 2 ^ n + 2 ^ n ≤ 2 ^ i := by
      have : 2 ^ (n + 1) ≤ 2 ^ i := Nat.pow_le_pow_right (by omega) h
      rw [Nat.pow_succ] at this; omega
    rw [Nat.testBit_lt_two_pow (show 2 ^ n + a < 2 ^ i by omega), Nat.testBit_lt_two_pow (show 2 ^ n + (a &&& b) < 2 ^ i by omega)]; rfl
theorem and_dn (n a b : Nat) (ha : a < 2 ^ n) (hb : b < 2 ^ n) : a &&& (2 ^ n + b) = a &&& b := by
  apply Nat.eq_of_testBit_eq
  intro i
  rw [Nat.testBit_and, Nat.testBit_and]
  rcases Nat.lt_trichotomy i n with h | h | h
  · rw [Nat.testBit_two_pow_add_gt h]
  · subst h
    rw [Nat.testBit_lt_two_pow ha]; rfl
  · have e : 2 ^ n ≤ 2 ^ i := Nat.pow_le_pow_right (by omega) (by omega)
    rw [Nat.testBit_lt_two_pow (show a < 2 ^ i by omega)]; rfl
theorem p2_nat (n : Int) : (p2 n).toNat = 2 ^ n.toNat := by
  unfold p2
  have : ((2 ^ n.toNat : Nat) : Int) = (2 : Int) ^ n.toNat := by rw [Int.natCast_pow]; rfl
  rw [← this]; rfl
theorem an_up {n a b : Int} (ha : 0 ≤ a) (ha1 : a < p2 n) (hb : 0 ≤ b) (hb1 : b < p2 n) : an (p2 n + a) (b + p2 n) = p2 n + an a b := by
  unfold an
  have pp := p2_pos n
  have e := p2_nat n
  have e2 : p2 n = ((p2 n).toNat : Int) := by omega
  rw [show (p2 n + a).toNat = 2 ^ n.toNat + a.toNat by omega, show (b + p2 n).toNat = 2 ^ n.toNat + b.toNat by omega, and_up _ _ _ (by omega) (by omega)]
  omega
theorem an_dn {n a b : Int} (ha : 0 ≤ a) (ha1 : a < p2 n) (hb : 0 ≤ b) (hb1 : b < p2 n) : an a (b + p2 n) = an a b := by
  unfold an
  have pp := p2_pos n
  have e := p2_nat n
  rw [show (b + p2 n).toNat = 2 ^ n.toNat + b.toNat by omega, and_dn _ _ _ (by omega) (by omega)]
theorem an_rt (a : Int) {b : Int} (hb : 0 ≤ b) : an a b ≤ b := by
  unfold an
  have := Nat.and_le_right (n := a.toNat) (m := b.toNat)
  omega
theorem ways_eq (lo g x : Int → Int) : ∀ (n : Nat), (∀ b : Int, 0 ≤ b → b < (n : Int) → lo b = 0 → g (cN lo b) = x b) → ∀ h : Int → Int → Int, sZ (fun w => if an w (thv lo n) = w then h (pcn w n) (s1 x w n) else 0) (p2 n) = sZ (fun w => h (pcn w (cN lo n)) (s1 g w (cN lo n))) (p2 (cN lo n)) := by
  intro n
  induction n with
  | zero =>
    intro _ h
    show (0 : Int) + (if an 0 (thv lo 0) = 0 then h (pcn 0 0) (s1 x 0 0) else 0) = 0 + h (pcn 0 0) (s1 g 0 0)
    rw [if_pos (show an 0 (thv lo 0) = 0 by unfold an; simp)]
    rfl
  | succ n ih =>
    intro hg h
    have e : ((n + 1 : Nat) : Int) = (n : Int) + 1 := by omega
    rw [e]
    have hn : (0 : Int) ≤ n := by omega
    have hcn := cN_b (lo := lo) hn
    have ht := th_b (lo := lo) hn
    have ih := ih (fun b h1 h2 => hg b h1 (by omega))
    rw [sZ_spl _ hn]
    by_cases c : lo n = 0
    · rw [← th_y rfl hn c, ← cN_1 rfl hn c, sZ_spl _ hcn.1]
      have gn_ : g (cN lo n) = x n := hg n hn (by omega) c
      refine congr (congrArg HAdd.hAdd ?_) ?_
      · have := ih h
        rw [sZ_c (f := fun w => h (pcn w (cN lo n + 1)) (s1 g w (cN lo n + 1))) (g := fun w => h (pcn w (cN lo n)) (s1 g w (cN lo n))) (fun w a b => by (try dsimp only); rw [pcn_lo hcn.1 a b, s1_lo hcn.1 a b]), ← this]
        exact sZ_c (fun w a b => by (try dsimp only); rw [an_dn a b ht.1 ht.2, pcn_lo hn a b, s1_lo hn a b])
      · have := ih (fun a b => h (a + 1) (b + x n))
        rw [sZ_c (f := fun w => h (pcn (p2 (cN lo n) + w) (cN lo n + 1)) (s1 g (p2 (cN lo n) + w) (cN lo n + 1))) (g := fun w => h (pcn w (cN lo n) + 1) (s1 g w (cN lo n) + x n)) (fun w a b => by (try dsimp only); rw [pcn_hi hcn.1 a b, s1_hi hcn.1 a b, gn_]), ← this]
        refine sZ_c (fun w a b => ?_)
        (try dsimp only)
        rw [an_up a b ht.1 ht.2, pcn_hi hn a b, s1_hi hn a b]
        by_cases z : an w (thv lo n) = w
        · rw [if_pos z, if_pos (by omega)]
        · rw [if_neg z, if_neg (by omega)]
    · rw [← th_n rfl hn c, ← cN_0 rfl hn c, ← ih h]
      rw [sZ_c (f := fun w => (fun w => if an w (thv lo n) = w then h (pcn w (n + 1)) (s1 x w (n + 1)) else 0) (p2 n + w)) (g := fun _ => 0) (fun w a b => by (try dsimp only); rw [if_neg]; have := an_rt (p2 n + w) ht.1; omega), sZ_zero, Int.add_zero]
      exact sZ_c (fun w a b => by (try dsimp only); rw [pcn_lo hn a b, s1_lo hn a b])
theorem pcn_up {z n : Int} (hz : 0 ≤ z) (hz1 : z < p2 n) (hn : 0 ≤ n) : ∀ k : Nat, pcn z (n + (k : Int)) = pcn z n := by
  intro k
  induction k with
  | zero => show pcn z (n + 0) = _; rw [Int.add_zero]
  | succ k ih =>
    have e : ((k + 1 : Nat) : Int) = (k : Int) + 1 := by omega
    have pl := p2_le hn (show n ≤ n + (k : Int) by omega)
    rw [e, ← Int.add_assoc, pcn_lo (by omega) hz (by omega), ih]
theorem pcn_10 {z n : Int} (hz : 0 ≤ z) (hz1 : z < p2 n) (hn : 0 ≤ n) (h : n ≤ 10) : pcn z 10 = pcn z n := by
  have := pcn_up hz hz1 hn (10 - n).toNat
  rw [← this]
  congr 1; omega
theorem own_eq (lo da g x : Int → Int) (hda : ∀ j, 0 ≤ da j ∧ da j ≤ 1) : ∀ (n : Nat), (∀ b : Int, 0 ≤ b → b < (n : Int) → lo b = 0 → g (cN lo b) = x b) → pcn (cA lo da n) (cN lo n) = cY lo da 0 n ∧ s1 g (cA lo da n) (cN lo n) = s1 x (owv lo da n) n ∧ cY lo da 0 n + cY lo da 1 n = cN lo n := by
  intro n
  induction n with
  | zero => intro _; exact ⟨rfl, rfl, rfl⟩
  | succ n ih =>
    intro hg
    have e : ((n + 1 : Nat) : Int) = (n : Int) + 1 := by omega
    rw [e]
    have hn : (0 : Int) ≤ n := by omega
    have hcn := cN_b (lo := lo) hn
    have hA := cA_b (lo := lo) (da := da) hn
    have hO := ow_b (lo := lo) (da := da) hn
    obtain ⟨i1, i2, i3⟩ := ih (fun b h1 h2 => hg b h1 (by omega))
    have hd := hda n
    by_cases c : lo n = 0
    · have gn_ : g (cN lo n) = x n := hg n hn (by omega) c
      rw [← cN_1 rfl hn c, ← cA_1 rfl rfl hn c]
      by_cases d : da n = 0
      · rw [if_pos d, ← ov_y rfl hn c (by omega), ← cY_1 rfl hn c d, ← cY_0 (y := 1) rfl hn (Or.inr (by omega)), Int.add_comm (cA lo da n), pcn_hi hcn.1 hA.1 hA.2, s1_hi hcn.1 hA.1 hA.2, Int.add_comm (owv lo da n), s1_hi hn hO.1 hO.2, i1, i2, gn_]
        exact ⟨rfl, rfl, by omega⟩
      · rw [if_neg d, ← ov_n rfl hn (Or.inr (by omega)), ← cY_0 (y := 0) rfl hn (Or.inr d), ← cY_1 (y := 1) rfl hn c (by omega), pcn_lo hcn.1 hA.1 hA.2, s1_lo hcn.1 hA.1 hA.2, s1_lo hn hO.1 hO.2]
        exact ⟨i1, i2, by omega⟩
    · rw [← cN_0 rfl hn c, ← cA_0 rfl hn c, ← ov_n rfl hn (Or.inl c), ← cY_0 (y := 0) rfl hn (Or.inl c), ← cY_0 (y := 1) rfl hn (Or.inl c), s1_lo hn hO.1 hO.2]
      exact ⟨i1, i2, i3⟩
theorem s01 (x : Int → Int) (w k : Int) : s1 x w k + s0 x w k = sZ x k := by
  unfold s1 s0 sZ
  induction k.toNat with
  | zero => rfl
  | succ n ih =>
    show sN _ n + (if bi w n = 1 then x n else 0) + (sN _ n + (if bi w n = 1 then 0 else x n)) = sN x n + x n
    by_cases c : bi w n = 1
    · rw [if_pos c, if_pos c]; omega
    · rw [if_neg c, if_neg c]; omega
theorem ap_one (g x : Int → Int) {w v n k f s t : Int} (h1 : s1 g w n = s1 x v k) (h2 : sZ x k = t) (h3 : s = n - f) : apv g w n f t = ap2 x v k f s := by
  have e := s01 x v k
  unfold apv ap2
  rw [show sZ (fun j => if bi w j = 1 then g j else 0) n = s1 g w n from rfl, h1, ← h2, h3, show sZ x k - s1 x v k = s0 x v k by omega]
  generalize s1 x v k * (n - f) - s0 x v k * f = d
  (try dsimp only)
  by_cases c : d < 0
  · rw [if_neg (by omega), if_pos c]
  · by_cases c2 : 0 < d
    · rw [if_pos c2, if_neg c]
    · rw [if_neg c2, if_neg c]; omega
theorem det_cmp {lo da gr : Int → Int} {nb kind part a b : Int} (hnb : 0 ≤ nb ∧ nb ≤ 12) (hda : ∀ j, 0 ≤ da j ∧ da j ≤ 1)
    (hC : (((0 ≤ kind ∧ kind < 3) ∧ (0 ≤ part ∧ part < 2) ∧ cN lo nb ≤ 10 ∧ 0 < pcn (cA lo da nb) 10 ∧ pcn (cA lo da nb) 10 < cN lo nb) ∧ ∃ g : Int → Int, (∀ b, 0 ≤ b → b < nb → lo b = 0 → g (cN lo b) = gr (b * 3 + kind)) ∧ a = (if part = 0 then sZ (fun w => if pcn w 10 = pcn (cA lo da nb) 10 ∧ apv g (cA lo da nb) (cN lo nb) (pcn (cA lo da nb) 10) (cT lo gr kind nb) ≤ apv g w (cN lo nb) (pcn (cA lo da nb) 10) (cT lo gr kind nb) then 1 else 0) (p2 (cN lo nb)) else sZ (fun w => if pcn w 10 = pcn (cA lo da nb) 10 then 1 else 0) (p2 (cN lo nb)))) ∨ (¬ ((0 ≤ kind ∧ kind < 3) ∧ (0 ≤ part ∧ part < 2) ∧ cN lo nb ≤ 10 ∧ 0 < pcn (cA lo da nb) 10 ∧ pcn (cA lo da nb) 10 < cN lo nb) ∧ a = -1))
    (hR : (((0 ≤ kind ∧ kind < 3) ∧ (0 ≤ part ∧ part < 2) ∧ ¬ cY lo da 0 nb = 0 ∧ ¬ cY lo da 1 nb = 0 ∧ cY lo da 0 nb + cY lo da 1 nb ≤ 10) ∧ b = (if part = 0 then sZ (fun w => if (an w (thv lo nb) = w ∧ pcn w nb = cY lo da 0 nb) ∧ ap2 (gx lo gr kind) (owv lo da nb) nb (cY lo da 0 nb) (cY lo da 1 nb) ≤ ap2 (gx lo gr kind) w nb (cY lo da 0 nb) (cY lo da 1 nb) then 1 else 0) (p2 nb) else sZ (fun w => if an w (thv lo nb) = w ∧ pcn w nb = cY lo da 0 nb then 1 else 0) (p2 nb))) ∨ (¬ ((0 ≤ kind ∧ kind < 3) ∧ (0 ≤ part ∧ part < 2) ∧ ¬ cY lo da 0 nb = 0 ∧ ¬ cY lo da 1 nb = 0 ∧ cY lo da 0 nb + cY lo da 1 nb ≤ 10) ∧ b = -1)) : a = b := by
  obtain ⟨n, rfl⟩ := Int.eq_ofNat_of_zero_le hnb.1
  have hn : (0 : Int) ≤ n := by omega
  have hcn := cN_b (lo := lo) hn
  have hA := cA_b (lo := lo) (da := da) hn
  have y0 := cY_b (lo := lo) (da := da) (y := 0) hn
  have y1 := cY_b (lo := lo) (da := da) (y := 1) hn
  -- the two conditions are one
  obtain ⟨g0, hg0⟩ : ∃ g0 : Int → Int, ∀ b : Int, 0 ≤ b → b < (n : Int) → lo b = 0 → g0 (cN lo b) = (fun _ => 0) b := ⟨fun _ => 0, fun _ _ _ _ => rfl⟩
  have ow0 := own_eq lo da g0 (fun _ => 0) hda n hg0
  have fF : cN lo n ≤ 10 → pcn (cA lo da n) 10 = cY lo da 0 n := fun z => (pcn_10 hA.1 hA.2 hcn.1 z).trans ow0.1
  have sm := ow0.2.2
  rcases hC with ⟨hc, g, hg, ha⟩ | ⟨hc, ha⟩
  · have e10 := fF hc.2.2.1
    rcases hR with ⟨hr, hb⟩ | ⟨hr, hb⟩
    · have hg' : ∀ b : Int, 0 ≤ b → b < (n : Int) → lo b = 0 → g (cN lo b) = gx lo gr kind b := fun b h1 h2 h3 => (hg b h1 h2 h3).trans (gx_y h3)
      have ow := own_eq lo da g (gx lo gr kind) hda n hg'
      have eT : sZ (gx lo gr kind) n = cT lo gr kind n := rfl
      rw [ha, hb, e10]
      by_cases cp : part = 0
      · rw [if_pos cp, if_pos cp]
        have hw := ways_eq lo g (gx lo gr kind) n hg' (fun p s => if p = cY lo da 0 n ∧ ap2 (gx lo gr kind) (owv lo da n) n (cY lo da 0 n) (cY lo da 1 n) ≤ (fun e : Int => if e < 0 then -e else e) (s * cY lo da 1 n - (cT lo gr kind n - s) * cY lo da 0 n) then 1 else 0)
        refine Eq.trans ?_ (hw.symm.trans ?_)
        · refine sZ_c (fun w h1 h2 => ?_)
          (try dsimp only)
          rw [pcn_10 h1 h2 hcn.1 hc.2.2.1, ap_one g (gx lo gr kind) (w := cA lo da n) (v := owv lo da n) (k := n) (s := cY lo da 1 n) ow.2.1 eT (by omega)]
          have : apv g w (cN lo n) (cY lo da 0 n) (cT lo gr kind n) = (fun e : Int => if e < 0 then -e else e) (s1 g w (cN lo n) * cY lo da 1 n - (cT lo gr kind n - s1 g w (cN lo n)) * cY lo da 0 n) := by
            unfold apv
            rw [show sZ (fun j => if bi w j = 1 then g j else 0) (cN lo n) = s1 g w (cN lo n) from rfl, show cN lo n - cY lo da 0 n = cY lo da 1 n by omega]
            generalize s1 g w (cN lo n) * cY lo da 1 n - (cT lo gr kind n - s1 g w (cN lo n)) * cY lo da 0 n = d
            (try dsimp only)
            by_cases c : d < 0
            · rw [if_neg (by omega), if_pos c]
            · by_cases c2 : 0 < d
              · rw [if_pos c2, if_neg c]
              · rw [if_neg c2, if_neg c]; omega
          rw [this]
        · refine sZ_c (fun w h1 h2 => ?_)
          have e0 := s01 (gx lo gr kind) w n
          (try dsimp only)
          rw [show cT lo gr kind n - s1 (gx lo gr kind) w n = s0 (gx lo gr kind) w n by rw [← eT, ← e0]; omega]
          show (if an w (thv lo n) = w then (if pcn w n = cY lo da 0 n ∧ ap2 (gx lo gr kind) (owv lo da n) n (cY lo da 0 n) (cY lo da 1 n) ≤ ap2 (gx lo gr kind) w n (cY lo da 0 n) (cY lo da 1 n) then (1 : Int) else 0) else 0) = _
          by_cases c1 : an w (thv lo n) = w
          · rw [if_pos c1]
            by_cases c2 : pcn w n = cY lo da 0 n ∧ ap2 (gx lo gr kind) (owv lo da n) n (cY lo da 0 n) (cY lo da 1 n) ≤ ap2 (gx lo gr kind) w n (cY lo da 0 n) (cY lo da 1 n)
            · rw [if_pos c2, if_pos ⟨⟨c1, c2.1⟩, c2.2⟩]
            · rw [if_neg c2, if_neg (fun z => c2 ⟨z.1.2, z.2⟩)]
          · rw [if_neg c1, if_neg (fun z => c1 z.1.1)]
      · rw [if_neg cp, if_neg cp]
        have hw := ways_eq lo g (gx lo gr kind) n hg' (fun p _ => if p = cY lo da 0 n then 1 else 0)
        refine Eq.trans ?_ (hw.symm.trans ?_)
        · refine sZ_c (fun w h1 h2 => ?_)
          (try dsimp only)
          rw [pcn_10 h1 h2 hcn.1 hc.2.2.1]
        · refine sZ_c (fun w h1 h2 => ?_)
          (try dsimp only)
          by_cases c1 : an w (thv lo n) = w
          · rw [if_pos c1]
            by_cases c2 : pcn w n = cY lo da 0 n
            · rw [if_pos c2, if_pos ⟨c1, c2⟩]
            · rw [if_neg c2, if_neg (fun z => c2 z.2)]
          · rw [if_neg c1, if_neg (fun z => c1 z.1)]
    · exact absurd ⟨hc.1, hc.2.1, by omega, by omega, by omega⟩ hr
  · rcases hR with ⟨hr, hb⟩ | ⟨hr, hb⟩
    · have e10 := fF (by omega)
      exact absurd ⟨hr.1, hr.2.1, by omega, by omega, by omega⟩ hc
    · rw [ha, hb]
