/-! PURE ROWS: the reference's ways to part. -/
def cY (lo da : Int → Int) (y k : Int) : Int := sZ (fun b => if lo b = 0 ∧ da b = y then 1 else 0) k
def gx (lo gr : Int → Int) (kd : Int) : Int → Int := fun b => if lo b = 0 then gr (b * 3 + kd) else 0
def s1 (g : Int → Int) (w k : Int) : Int := sZ (fun b => if bi w b = 1 then g b else 0) k
def s0 (g : Int → Int) (w k : Int) : Int := sZ (fun b => if bi w b = 1 then 0 else g b) k
def ap2 (g : Int → Int) (w k f s : Int) : Int := (fun e : Int => if e < 0 then -e else e) (s1 g w k * s - s0 g w k * f)
def an (a b : Int) : Int := ((a.toNat &&& b.toNat : Nat) : Int)
def thv (lo : Int → Int) (k : Int) : Int := sZ (fun b => if lo b = 0 then p2 b else 0) k
def owv (lo da : Int → Int) (k : Int) : Int := sZ (fun b => if lo b = 0 ∧ ¬ da b = 1 then p2 b else 0) k
theorem cY_1 {lo da : Int → Int} {y i x : Int} (h : x = cY lo da y i) (hi : 0 ≤ i) (h1 : lo i = 0) (h2 : da i = y) : x + 1 = cY lo da y (i + 1) := by
  unfold cY; rw [sZ_s _ hi]; try dsimp only
  rw [if_pos ⟨h1, h2⟩, h]; rfl
theorem cY_0 {lo da : Int → Int} {y i x : Int} (h : x = cY lo da y i) (hi : 0 ≤ i) (h1 : ¬ lo i = 0 ∨ ¬ da i = y) : x = cY lo da y (i + 1) := by
  unfold cY; rw [sZ_s _ hi]; try dsimp only
  rw [if_neg (by omega), h]; unfold cY; omega
theorem cY_b {lo da : Int → Int} {y k : Int} (h : 0 ≤ k) : 0 ≤ cY lo da y k ∧ cY lo da y k ≤ k := by
  unfold cY
  have b : ∀ j, 0 ≤ (fun b => if lo b = 0 ∧ da b = y then (1 : Int) else 0) j ∧ (fun b => if lo b = 0 ∧ da b = y then (1 : Int) else 0) j ≤ 1 := by
    intro j; try dsimp only
    by_cases c : lo j = 0 ∧ da j = y
    · rw [if_pos c]; omega
    · rw [if_neg c]; omega
  have l1 := sZ_nn k (fun j => (b j).1)
  have l2 := sZ_le 1 h (fun j => (b j).2)
  omega
theorem s1_y {g : Int → Int} {w i x v : Int} (h : x = s1 g w i) (hi : 0 ≤ i) (hc : bi w i = 1) (hv : v = g i) : x + v = s1 g w (i + 1) := by
  unfold s1; rw [sZ_s _ hi]; try dsimp only
  rw [if_pos hc, h, hv]; rfl
theorem s1_n {g : Int → Int} {w i x : Int} (h : x = s1 g w i) (hi : 0 ≤ i) (hc : ¬ bi w i = 1) : x + 0 = s1 g w (i + 1) := by
  unfold s1; rw [sZ_s _ hi]; try dsimp only
  rw [if_neg hc, h]; rfl
theorem s0_y {g : Int → Int} {w i x v : Int} (h : x = s0 g w i) (hi : 0 ≤ i) (hc : ¬ bi w i = 1) (hv : v = g i) : x + v = s0 g w (i + 1) := by
  unfold s0; rw [sZ_s _ hi]; try dsimp only
  rw [if_neg hc, h, hv]; rfl
theorem s0_n {g : Int → Int} {w i x : Int} (h : x = s0 g w i) (hi : 0 ≤ i) (hc : bi w i = 1) : x + 0 = s0 g w (i + 1) := by
  unfold s0; rw [sZ_s _ hi]; try dsimp only
  rw [if_pos hc, h]; rfl
theorem gx_y {lo gr : Int → Int} {kd i : Int} (h : lo i = 0) : gr (i * 3 + kd) = gx lo gr kd i := by unfold gx; rw [if_pos h]
theorem gx_n {lo gr : Int → Int} {kd i : Int} (h : ¬ lo i = 0) : 0 = gx lo gr kd i := by unfold gx; rw [if_neg h]
theorem gx_b {lo gr : Int → Int} {kd : Int} (hg : ∀ j, 0 ≤ gr j ∧ gr j ≤ 10000) : ∀ j, 0 ≤ gx lo gr kd j ∧ gx lo gr kd j ≤ 10000 := by
  intro j; unfold gx
  have := hg (j * 3 + kd)
  by_cases c : lo j = 0
  · rw [if_pos c]; exact this
  · rw [if_neg c]; omega
theorem s1_b {g : Int → Int} {w k : Int} (hk : 0 ≤ k ∧ k ≤ 12) (hg : ∀ j, 0 ≤ g j ∧ g j ≤ 10000) : 0 ≤ s1 g w k ∧ s1 g w k ≤ 120000 := by
  unfold s1
  have b : ∀ j, 0 ≤ (fun b => if bi w b = 1 then g b else 0) j ∧ (fun b => if bi w b = 1 then g b else 0) j ≤ 10000 := by
    intro j; try dsimp only
    have := hg j
    by_cases c : bi w j = 1
    · rw [if_pos c]; exact this
    · rw [if_neg c]; omega
  have l1 := sZ_nn k (fun j => (b j).1)
  have l2 := sZ_le 10000 hk.1 (fun j => (b j).2)
  omega
theorem s0_b {g : Int → Int} {w k : Int} (hk : 0 ≤ k ∧ k ≤ 12) (hg : ∀ j, 0 ≤ g j ∧ g j ≤ 10000) : 0 ≤ s0 g w k ∧ s0 g w k ≤ 120000 := by
  unfold s0
  have b : ∀ j, 0 ≤ (fun b => if bi w b = 1 then 0 else g b) j ∧ (fun b => if bi w b = 1 then 0 else g b) j ≤ 10000 := by
    intro j; try dsimp only
    have := hg j
    by_cases c : bi w j = 1
    · rw [if_pos c]; omega
    · rw [if_neg c]; exact this
  have l1 := sZ_nn k (fun j => (b j).1)
  have l2 := sZ_le 10000 hk.1 (fun j => (b j).2)
  omega
theorem d_bd {a b s f : Int} (ha : 0 ≤ a ∧ a ≤ 120000) (hb : 0 ≤ b ∧ b ≤ 120000) (hs : 0 ≤ s ∧ s ≤ 12) (hf : 0 ≤ f ∧ f ≤ 12) : -2000000 ≤ a * s - b * f ∧ a * s - b * f ≤ 2000000 := by
  have m1 := mul_bd ha.1 ha.2 hs.1 hs.2
  have m2 := mul_bd hb.1 hb.2 hf.1 hf.2
  omega
theorem ap2_n {g : Int → Int} {w i k f s x y : Int} (h1 : x = s1 g w i) (h2 : y = s0 g w i) (hi : i = k) (hc : x * s - y * f < 0) : -(x * s - y * f) = ap2 g w k f s := by
  subst hi; unfold ap2; rw [← h1, ← h2]; try dsimp only
  rw [if_pos hc]
theorem ap2_p {g : Int → Int} {w i k f s x y : Int} (h1 : x = s1 g w i) (h2 : y = s0 g w i) (hi : i = k) (hc : ¬ x * s - y * f < 0) : x * s - y * f = ap2 g w k f s := by
  subst hi; unfold ap2; rw [← h1, ← h2]; try dsimp only
  rw [if_neg hc]
theorem ap2_b {g : Int → Int} {w k f s : Int} (hk : 0 ≤ k ∧ k ≤ 12) (hg : ∀ j, 0 ≤ g j ∧ g j ≤ 10000) (hs : 0 ≤ s ∧ s ≤ 12) (hf : 0 ≤ f ∧ f ≤ 12) : 0 ≤ ap2 g w k f s ∧ ap2 g w k f s ≤ 2000000 := by
  have d := d_bd (s1_b (w := w) hk hg) (s0_b (w := w) hk hg) hs hf
  by_cases c : s1 g w k * s - s0 g w k * f < 0
  · rw [← ap2_n rfl rfl rfl c]; omega
  · rw [← ap2_p rfl rfl rfl c]; omega
theorem or_0 (a : Int) : iZ a ||| iZ 0 = iZ a := by
  rw [← iZ_0]
  apply Int32.toBitVec_inj.mp
  simp
theorem and_n {a b : Int} (ha : 0 ≤ a) (hb : 0 ≤ b) : iZ a &&& iZ b = iZ (an a b) := by
  obtain ⟨m, rfl⟩ := Int.eq_ofNat_of_zero_le ha
  obtain ⟨n, rfl⟩ := Int.eq_ofNat_of_zero_le hb
  unfold an
  rw [← iZ_nN, ← iZ_nN, ← iZ_nN]
  apply Int32.toBitVec_inj.mp
  show BitVec.ofNat 32 m &&& BitVec.ofNat 32 n = BitVec.ofNat 32 _
  rw [BitVec.ofNat_and]
  rfl
theorem an_b {a b : Int} (ha : 0 ≤ a) (h2 : a < 4096) : 0 ≤ an a b ∧ an a b < 4096 := by
  unfold an
  have := Nat.and_le_left (n := a.toNat) (m := b.toNat)
  omega
theorem th_y {lo : Int → Int} {i x : Int} (h : x = thv lo i) (hi : 0 ≤ i) (hc : lo i = 0) : x + p2 i = thv lo (i + 1) := by
  unfold thv; rw [sZ_s _ hi]; try dsimp only
  rw [if_pos hc, h]; rfl
theorem th_n {lo : Int → Int} {i x : Int} (h : x = thv lo i) (hi : 0 ≤ i) (hc : ¬ lo i = 0) : x = thv lo (i + 1) := by
  unfold thv; rw [sZ_s _ hi]; try dsimp only
  rw [if_neg hc, h]; unfold thv; omega
theorem ov_y {lo da : Int → Int} {i x : Int} (h : x = owv lo da i) (hi : 0 ≤ i) (hc : lo i = 0) (hd : ¬ da i = 1) : x + p2 i = owv lo da (i + 1) := by
  unfold owv; rw [sZ_s _ hi]; try dsimp only
  rw [if_pos ⟨hc, hd⟩, h]; rfl
theorem ov_n {lo da : Int → Int} {i x : Int} (h : x = owv lo da i) (hi : 0 ≤ i) (hc : ¬ lo i = 0 ∨ da i = 1) : x = owv lo da (i + 1) := by
  unfold owv; rw [sZ_s _ hi]; try dsimp only
  rw [if_neg (by omega), h]; unfold owv; omega
theorem pb_b {q : Int → Prop} [DecidablePred q] {k : Int} (hk : 0 ≤ k) : 0 ≤ sZ (fun b => if q b then p2 b else 0) k ∧ sZ (fun b => if q b then p2 b else 0) k < p2 k := by
  obtain ⟨n, rfl⟩ := Int.eq_ofNat_of_zero_le hk
  induction n with
  | zero => exact ⟨Int.le_refl _, show (0 : Int) < 1 by omega⟩
  | succ n ih =>
    have ih := ih (by omega)
    have e : ((n + 1 : Nat) : Int) = (n : Int) + 1 := by omega
    rw [e, sZ_s _ (by omega), p2_s (by omega)]
    have pp := p2_pos (n : Int)
    by_cases c : q n
    · rw [if_pos c]; omega
    · rw [if_neg c]; omega
theorem th_b {lo : Int → Int} {k : Int} (hk : 0 ≤ k) : 0 ≤ thv lo k ∧ thv lo k < p2 k := pb_b (q := fun b => lo b = 0) hk
theorem ow_b {lo da : Int → Int} {k : Int} (hk : 0 ≤ k) : 0 ≤ owv lo da k ∧ owv lo da k < p2 k := pb_b (q := fun b => lo b = 0 ∧ ¬ da b = 1) hk
theorem pc_s {w i x : Int} (h : x = pcn w i) (hi : 0 ≤ i) : x + bi w i = pcn w (i + 1) := sz_step (g := bi w) h hi
theorem cY_e {lo da : Int → Int} {y i n x : Int} (h : x = cY lo da y i) (hi : i = n) : x = cY lo da y n := hi ▸ h
