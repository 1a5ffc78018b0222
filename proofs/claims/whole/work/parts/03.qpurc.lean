/-! PURE ROWS: bits, powers of two, ways to part. -/
def p2 (n : Int) : Int := 2 ^ n.toNat
def bi (z j : Int) : Int := z / p2 j % 2
def pcn (z n : Int) : Int := sZ (bi z) n
theorem p2_s {n : Int} (h : 0 ≤ n) : p2 (n + 1) = 2 * p2 n := by
  unfold p2
  have e : (n + 1).toNat = n.toNat + 1 := by omega
  rw [e, Int.pow_succ]; omega
theorem p2_pos (n : Int) : 1 ≤ p2 n := by
  unfold p2
  have : 0 < (2 : Int) ^ n.toNat := Int.pow_pos (by omega)
  omega
theorem p2_le {n k : Int} (h0 : 0 ≤ n) (h : n ≤ k) : p2 n ≤ p2 k := by
  obtain ⟨d, hd⟩ : ∃ d : Nat, k = n + d := ⟨(k - n).toNat, by omega⟩
  subst hd
  induction d with
  | zero => simp
  | succ d ih =>
    have e : n + ((d + 1 : Nat) : Int) = n + (d : Int) + 1 := by omega
    rw [e, p2_s (by omega)]
    have := ih (by omega)
    have := p2_pos (n + d)
    omega
theorem p2_12 {n : Int} (h0 : 0 ≤ n) (h : n ≤ 12) : 1 ≤ p2 n ∧ p2 n ≤ 4096 := ⟨p2_pos n, Int.le_trans (p2_le h0 h) (by decide)⟩
theorem p2_10 {n : Int} (h0 : 0 ≤ n) (h : n ≤ 10) : 1 ≤ p2 n ∧ p2 n ≤ 1024 := ⟨p2_pos n, Int.le_trans (p2_le h0 h) (by decide)⟩
theorem bi_b (z j : Int) : 0 ≤ bi z j ∧ bi z j ≤ 1 := by unfold bi; omega
theorem sh_l : ∀ n, n < 32 → ((nI n &&& 31).toBitVec.smod 32).toNat = n := by decide +kernel
theorem sh_p2 {n : Int} (h0 : 0 ≤ n) (h : n ≤ 12) : iZ 1 <<< (iZ n &&& 31) = iZ (p2 n) := by
  obtain ⟨k, rfl⟩ := Int.eq_ofNat_of_zero_le h0
  have e := pk_shlN (n := 1) (nI k &&& 31) k (sh_l k (by omega)) (by
    have : 2 ^ k ≤ 2 ^ 12 := Nat.pow_le_pow_right (by decide) (by omega)
    omega)
  rw [iZ_nN, iZ_nN, iZ_nN] at e
  show iZ ((1 : Nat) : Int) <<< (iZ (k : Int) &&& 31) = _
  rw [e]
  congr 1
  unfold p2
  simp
theorem sh_bit {w i : Int} (h0 : 0 ≤ w) (h1 : w < 4096) (h2 : 0 ≤ i) (h3 : i < 12) : (iZ w >>> (iZ i &&& 31)) &&& iZ 1 = iZ (bi w i) := by
  obtain ⟨k, rfl⟩ := Int.eq_ofNat_of_zero_le h2
  obtain ⟨n, rfl⟩ := Int.eq_ofNat_of_zero_le h0
  have e := pk_shrN (n := n) (by omega) (nI k &&& 31) k (sh_l k (by omega))
  have hd : n / 2 ^ k ≤ n := Nat.div_le_self _ _
  have e2 := pk_andN (n := n / 2 ^ k) (by omega) (m := nI 1) 1 (by decide)
  rw [← e, iZ_nN, iZ_nN, iZ_nN, iZ_nN] at e2
  show (iZ (n : Int) >>> (iZ (k : Int) &&& 31)) &&& iZ ((1 : Nat) : Int) = _
  rw [e2]
  rfl
theorem or_b {a b : Nat} : nI a ||| nI b = nI (a ||| b) := by
  apply Int32.toBitVec_inj.mp
  show BitVec.ofNat 32 a ||| BitVec.ofNat 32 b = BitVec.ofNat 32 (a ||| b)
  rw [BitVec.ofNat_or]
theorem or_p2 {a n : Int} (h0 : 0 ≤ a) (h1 : a < p2 n) (h2 : 0 ≤ n) (h3 : n ≤ 12) : iZ a ||| (iZ 1 <<< (iZ n &&& 31)) = iZ (a + p2 n) := by
  rw [sh_p2 h2 h3]
  obtain ⟨k, rfl⟩ := Int.eq_ofNat_of_zero_le h2
  obtain ⟨m, rfl⟩ := Int.eq_ofNat_of_zero_le h0
  have e : p2 (k : Int) = ((2 ^ k : Nat) : Int) := by unfold p2; simp
  rw [e] at h1 ⊢
  rw [← iZ_nN, ← iZ_nN, or_b, Nat.or_comm]
  have h4 := Nat.two_pow_add_eq_or_of_lt (b := m) (i := k) (by omega) 1
  rw [Nat.mul_one] at h4
  rw [← h4, iZ_nN]
  congr 1
  omega
def bcx (x : Int32) : Int32 :=
  let a := x - ((x.toUInt32 >>> ((iZ 1).toUInt32 &&& Int32.toUInt32 31)).toInt32 &&& (iZ 1431655765))
  let b := (a &&& (iZ 858993459)) + ((a.toUInt32 >>> ((iZ 2).toUInt32 &&& Int32.toUInt32 31)).toInt32 &&& (iZ 858993459))
  let d := (b + (b.toUInt32 >>> ((iZ 4).toUInt32 &&& Int32.toUInt32 31)).toInt32) &&& (iZ 252645135)
  let g := d + (d.toUInt32 >>> ((iZ 8).toUInt32 &&& Int32.toUInt32 31)).toInt32
  let h := g + (g.toUInt32 >>> ((iZ 16).toUInt32 &&& Int32.toUInt32 31)).toInt32
  h &&& (iZ 63)
theorem bcx_k : ∀ k : Nat, k < 1024 → bcx (iZ k) = iZ (pcn k 10) := by decide +kernel
theorem bcx_ok {z : Int} (h0 : 0 ≤ z) (h1 : z < 1024) : bcx (iZ z) = iZ (pcn z 10) := by
  obtain ⟨k, rfl⟩ := Int.eq_ofNat_of_zero_le h0
  exact bcx_k k (by omega)
theorem abs_l {e : Int} (h1 : -9223372036854775808 ≤ e) (h2 : e < 9223372036854775808) : (if 0 < lZ e then lZ e else - lZ e) = lZ (if 0 < e then e else -e) := by
  have h := lZ_lt (a := 0) (b := e) (by omega) (by omega) h1 h2
  have e0 : (0 : Int64) = lZ 0 := by decide
  rw [e0]
  by_cases c : 0 < e
  · rw [if_pos (h.mpr c), if_pos c]
  · rw [if_neg (fun z => c (h.mp z)), if_neg c, lZ_neg]
def cN (lo : Int → Int) (k : Int) : Int := sZ (fun b => if lo b = 0 then 1 else 0) k
def cT (lo gr : Int → Int) (kd k : Int) : Int := sZ (fun b => if lo b = 0 then gr (b * 3 + kd) else 0) k
def cA (lo da : Int → Int) (k : Int) : Int := sZ (fun b => if lo b = 0 ∧ da b = 0 then p2 (cN lo b) else 0) k
theorem cN_1 {lo : Int → Int} {i x : Int} (h : x = cN lo i) (hi : 0 ≤ i) (hc : lo i = 0) : x + 1 = cN lo (i + 1) := by
  unfold cN; rw [sZ_s _ hi]; try dsimp only
  rw [if_pos hc, h]; rfl
theorem cN_0 {lo : Int → Int} {i x : Int} (h : x = cN lo i) (hi : 0 ≤ i) (hc : ¬ lo i = 0) : x = cN lo (i + 1) := by
  unfold cN; rw [sZ_s _ hi]; try dsimp only
  rw [if_neg hc, h]; unfold cN; omega
theorem cT_1 {lo gr : Int → Int} {kd i x : Int} (h : x = cT lo gr kd i) (hi : 0 ≤ i) (hc : lo i = 0) : x + gr (i * 3 + kd) = cT lo gr kd (i + 1) := by
  unfold cT; rw [sZ_s _ hi]; try dsimp only
  rw [if_pos hc, h]; rfl
theorem cT_0 {lo gr : Int → Int} {kd i x : Int} (h : x = cT lo gr kd i) (hi : 0 ≤ i) (hc : ¬ lo i = 0) : x = cT lo gr kd (i + 1) := by
  unfold cT; rw [sZ_s _ hi]; try dsimp only
  rw [if_neg hc, h]; unfold cT; omega
theorem cA_1 {lo da : Int → Int} {i x y : Int} (h : x = cA lo da i) (hn : y = cN lo i) (hi : 0 ≤ i) (hc : lo i = 0) : (if da i = 0 then x + p2 y else x) = cA lo da (i + 1) := by
  unfold cA; rw [sZ_s _ hi]; try dsimp only
  by_cases c : da i = 0
  · rw [if_pos c, if_pos ⟨hc, c⟩, h, hn]; rfl
  · rw [if_neg c, if_neg (fun z => c z.2), h]; unfold cA; omega
theorem cA_0 {lo da : Int → Int} {i x : Int} (h : x = cA lo da i) (hi : 0 ≤ i) (hc : ¬ lo i = 0) : x = cA lo da (i + 1) := by
  unfold cA; rw [sZ_s _ hi]; try dsimp only
  rw [if_neg (fun z => hc z.1), h]; unfold cA; omega
theorem cN_b {lo : Int → Int} {k : Int} (h : 0 ≤ k) : 0 ≤ cN lo k ∧ cN lo k ≤ k := by
  unfold cN
  have b : ∀ j, 0 ≤ (fun b => if lo b = 0 then (1 : Int) else 0) j ∧ (fun b => if lo b = 0 then (1 : Int) else 0) j ≤ 1 := by
    intro j; try dsimp only
    by_cases c : lo j = 0
    · rw [if_pos c]; omega
    · rw [if_neg c]; omega
  have l1 := sZ_nn k (fun j => (b j).1)
  have l2 := sZ_le 1 h (fun j => (b j).2)
  omega
theorem cA_b {lo da : Int → Int} {k : Int} (h : 0 ≤ k) : 0 ≤ cA lo da k ∧ cA lo da k < p2 (cN lo k) := by
  obtain ⟨n, rfl⟩ := Int.eq_ofNat_of_zero_le h
  induction n with
  | zero => exact ⟨Int.le_refl _, show (0 : Int) < 1 by omega⟩
  | succ n ih =>
    have ih := ih (by omega)
    have hn : (0 : Int) ≤ (n : Int) := by omega
    have cb := cN_b (lo := lo) hn
    have e : ((n + 1 : Nat) : Int) = (n : Int) + 1 := by omega
    rw [e]
    by_cases c : lo n = 0
    · rw [← cN_1 rfl hn c, ← cA_1 rfl rfl hn c, p2_s cb.1]
      by_cases d : da n = 0
      · rw [if_pos d]; omega
      · rw [if_neg d]; omega
    · rw [← cN_0 rfl hn c, ← cA_0 rfl hn c]; exact ih
def apv (g : Int → Int) (w n f t : Int) : Int := (fun e : Int => if 0 < e then e else -e) (sZ (fun j => if bi w j = 1 then g j else 0) n * (n - f) - (t - sZ (fun j => if bi w j = 1 then g j else 0) n) * f)
theorem ap_1 {g : Int → Int} {w i x : Int} (h : x = sZ (fun j => if bi w j = 1 then g j else 0) i) (hi : 0 ≤ i) (hc : bi w i = 1) : x + g i = sZ (fun j => if bi w j = 1 then g j else 0) (i + 1) := by
  rw [sZ_s _ hi, ← h]; try dsimp only
  rw [if_pos hc]
theorem ap_0 {g : Int → Int} {w i x : Int} (h : x = sZ (fun j => if bi w j = 1 then g j else 0) i) (hi : 0 ≤ i) (hc : ¬ bi w i = 1) : x = sZ (fun j => if bi w j = 1 then g j else 0) (i + 1) := by
  rw [sZ_s _ hi, ← h]; try dsimp only
  rw [if_neg hc]; omega
theorem ap_b {g : Int → Int} {w i x : Int} (h : x = sZ (fun j => if bi w j = 1 then g j else 0) i) (hi : 0 ≤ i) (hi2 : i ≤ 10) (hg : ∀ j, 0 ≤ g j ∧ g j ≤ 10000) : 0 ≤ x ∧ x ≤ 100000 := by
  have b : ∀ j, 0 ≤ (fun j => if bi w j = 1 then g j else 0) j ∧ (fun j => if bi w j = 1 then g j else 0) j ≤ 10000 := by
    intro j; try dsimp only
    have := hg j
    by_cases c : bi w j = 1
    · rw [if_pos c]; omega
    · rw [if_neg c]; omega
  have l1 := sZ_nn i (fun j => (b j).1)
  have l2 := sZ_le 10000 hi (fun j => (b j).2)
  omega
theorem ap_end {g : Int → Int} {w i n f t x : Int} (h : x = sZ (fun j => if bi w j = 1 then g j else 0) i) (hi : i = n) : (if 0 < x * (n - f) - (t - x) * f then x * (n - f) - (t - x) * f else -(x * (n - f) - (t - x) * f)) = apv g w n f t := by
  subst hi; rw [h]; rfl
theorem ap_bd {x n f t : Int} (hx : 0 ≤ x ∧ x ≤ 100000) (hn : 0 ≤ n ∧ n ≤ 10) (hf : 0 ≤ f ∧ f ≤ 10) (ht : 0 ≤ t ∧ t ≤ 200000) : -10000000 ≤ x * (n - f) - (t - x) * f ∧ x * (n - f) - (t - x) * f ≤ 10000000 := by
  have a1 := mul_bd hx.1 hx.2 hn.1 hn.2
  have a2 := mul_bd hx.1 hx.2 hf.1 hf.2
  have a3 := mul_bd ht.1 ht.2 hf.1 hf.2
  rw [Int.mul_sub, Int.sub_mul]
  omega
theorem apv_b {g : Int → Int} {w n f t : Int} (hn : 0 ≤ n ∧ n ≤ 10) (hf : 0 ≤ f ∧ f ≤ 10) (ht : 0 ≤ t ∧ t ≤ 200000) (hg : ∀ j, 0 ≤ g j ∧ g j ≤ 10000) : 0 ≤ apv g w n f t ∧ apv g w n f t ≤ 10000000 := by
  have hx := ap_b (g := g) (w := w) (x := sZ (fun j => if bi w j = 1 then g j else 0) n) rfl hn.1 hn.2 hg
  have hb := ap_bd hx hn hf ht
  rw [← ap_end (g := g) (w := w) (f := f) (t := t) (n := n) rfl rfl]
  by_cases c : 0 < sZ (fun j => if bi w j = 1 then g j else 0) n * (n - f) - (t - sZ (fun j => if bi w j = 1 then g j else 0) n) * f
  · rw [if_pos c]; omega
  · rw [if_neg c]; omega
theorem wy_1 {q : Int → Prop} [DecidablePred q] {i x : Int} (h : x = sZ (fun w => if q w then 1 else 0) i) (hi : 0 ≤ i) (hc : q i) : x + 1 = sZ (fun w => if q w then 1 else 0) (i + 1) := by
  rw [sZ_s _ hi, ← h]; try dsimp only
  rw [if_pos hc]
theorem wy_0 {q : Int → Prop} [DecidablePred q] {i x : Int} (h : x = sZ (fun w => if q w then 1 else 0) i) (hi : 0 ≤ i) (hc : ¬ q i) : x = sZ (fun w => if q w then 1 else 0) (i + 1) := by
  rw [sZ_s _ hi, ← h]; try dsimp only
  rw [if_neg hc]; omega
theorem pcn_b {z n : Int} (h : 0 ≤ n) : 0 ≤ pcn z n ∧ pcn z n ≤ n := by
  unfold pcn
  have l1 := sZ_nn (g := bi z) n (fun j => (bi_b z j).1)
  have l2 := sZ_le (g := bi z) 1 h (fun j => (bi_b z j).2)
  omega
theorem cN_mono {lo : Int → Int} {i k : Int} (hi : 0 ≤ i) (h : i ≤ k) : cN lo i ≤ cN lo k := by
  obtain ⟨d, hd⟩ : ∃ d : Nat, k = i + d := ⟨(k - i).toNat, by omega⟩
  subst hd
  induction d with
  | zero => simp
  | succ d ih =>
    have e : i + ((d + 1 : Nat) : Int) = i + (d : Int) + 1 := by omega
    rw [e]
    have ih := ih (by omega)
    by_cases c : lo (i + d) = 0
    · rw [← cN_1 rfl (by omega) c]; omega
    · rw [← cN_0 rfl (by omega) c]; exact ih
theorem cN_ov {lo : Int → Int} {i n x : Int} (h : x = cN lo i) (hi : 0 ≤ i) (hc : lo i = 0) (hn : i < n) (hx : ¬ x < 10) : 10 < cN lo n := by
  have h1 := cN_1 h hi hc
  have h2 := cN_mono (lo := lo) (i := i + 1) (k := n) (by omega) (by omega)
  omega
theorem cg_le {lo : Int → Int} {i n x : Int} (h : x = cN lo i) (hi : i = n) (hx : x ≤ 10) : cN lo n ≤ 10 := by subst hi; omega
theorem cg_eq {lo : Int → Int} {i n x : Int} (h : x = cN lo i) (hi : i = n) : x = cN lo n := hi ▸ h
theorem cg_eqA {lo da : Int → Int} {i n x : Int} (h : x = cA lo da i) (hi : i = n) : x = cA lo da n := hi ▸ h
theorem cg_eqT {lo gr : Int → Int} {kd i n x : Int} (h : x = cT lo gr kd i) (hi : i = n) : x = cT lo gr kd n := hi ▸ h
theorem cg_eqF {lo da : Int → Int} {i n x : Int} (h : x = cA lo da i) (hi : i = n) : pcn x 10 = pcn (cA lo da n) 10 := by subst hi; rw [h]
theorem up_all3 {q r : Int → Prop} {i n : Int} (h : ∀ j : Int, 0 ≤ j → j < i → q j → r j) (hi : i = n) : ∀ j : Int, 0 ≤ j → j < n → q j → r j := hi ▸ h
theorem cg_or1 {lo : Int → Int} {i n x f : Int} (h : x = cN lo i) (hi : i = n) (h1 : 0 < f) (h2 : f < x) : (1 = (1 : Int) ∧ 0 < f ∧ f < cN lo n) ∨ ((1 : Int) = 0 ∧ ¬ (0 < f ∧ f < cN lo n)) := by subst hi; exact Or.inl ⟨rfl, h1, by omega⟩
theorem cg_or0 {lo : Int → Int} {i n x f : Int} (h : x = cN lo i) (hi : i = n) (h1 : ¬ (0 < f ∧ f < x)) : ((0 : Int) = 1 ∧ 0 < f ∧ f < cN lo n) ∨ ((0 : Int) = 0 ∧ ¬ (0 < f ∧ f < cN lo n)) := by subst hi; exact Or.inr ⟨rfl, by omega⟩
theorem cN_lt {lo : Int → Int} {b i : Int} (hb : 0 ≤ b) (h : b < i) (hc : lo b = 0) : cN lo b < cN lo i := by
  have h1 := cN_1 (lo := lo) (i := b) rfl hb hc
  have h2 := cN_mono (lo := lo) (i := b + 1) (k := i) (by omega) (by omega)
  omega
theorem cg_hit {lo gm gr : Int → Int} {kd i x : Int} (h : ∀ b, 0 ≤ b → b < i → lo b = 0 → gm (cN lo b) = gr (b * 3 + kd)) (hx : x = cN lo i) (hi : 0 ≤ i) (hc : lo i = 0) : ∀ b, 0 ≤ b → b < i + 1 → lo b = 0 → pu gm x (gr (i * 3 + kd)) (cN lo b) = gr (b * 3 + kd) := by
  intro b h1 h2 h3
  by_cases e : b = i
  · subst e; rw [hx, pu_eq]
  · have := cN_lt (lo := lo) (b := b) (i := i) h1 (by omega) h3
    rw [pu_ne _ (by omega)]
    exact h b h1 (by omega) h3
theorem cg_miss {lo gm gr : Int → Int} {kd i : Int} (h : ∀ b, 0 ≤ b → b < i → lo b = 0 → gm (cN lo b) = gr (b * 3 + kd)) (hc : ¬ lo i = 0) : ∀ b, 0 ≤ b → b < i + 1 → lo b = 0 → gm (cN lo b) = gr (b * 3 + kd) := by
  intro b h1 h2 h3
  have : ¬ b = i := fun e => hc (e ▸ h3)
  exact h b h1 (by omega) h3
def cp4 (f g : Int → Int) : Int → Int := fun j => if 0 ≤ j ∧ j < 4 then f j else g j
