/-! PURE ROWS for the reference's plans. -/
section NW2
variable {p : Program} {l : Launch} {e : Env} {R : Room} {s : State} {m : MethodId} {args : Array Value} {below : List Frame} {meth : Method} {c : Code} {H : Heap} {locs : List Loc} {cells slots : Nat} {Q : State → Prop}
variable {cc : ByteArray} {pc : Nat} {ls : Array Slot} {rest : List Value}
theorem z_idiv (hx : p.tables.exec = Jvm.exec) (hb : c.code = cc) {x y : Int} (h1 : 0 ≤ x) (h2 : x < 2147483648) (h3 : 0 < y) (h4 : y < 2147483648) (hdg : decode cc pc = .ok (.idiv, 1)) (k : W p l e R s m args below meth c H locs cells slots Q (F0 m (pc + 1) ls (.int (iZ (x / y)) :: rest))) : W p l e R s m args below meth c H locs cells slots Q (F0 m pc ls (.int (iZ y) :: .int (iZ x) :: rest)) :=
  lv_idiv hx hb hdg (fun q => absurd ((iZ_eq (a := y) (b := 0) (by omega) h4 (by omega) (by omega)).mp (q.trans iZ_0)) (by omega)) (cq_ti (iZ_div h1 h2 h3 h4) k)
theorem z_irem (hx : p.tables.exec = Jvm.exec) (hb : c.code = cc) {x y : Int} (h1 : 0 ≤ x) (h2 : x < 2147483648) (h3 : 0 < y) (h4 : y < 2147483648) (hdg : decode cc pc = .ok (.irem, 1)) (k : W p l e R s m args below meth c H locs cells slots Q (F0 m (pc + 1) ls (.int (iZ (x % y)) :: rest))) : W p l e R s m args below meth c H locs cells slots Q (F0 m pc ls (.int (iZ y) :: .int (iZ x) :: rest)) :=
  lv_irem hx hb hdg (fun q => absurd ((iZ_eq (a := y) (b := 0) (by omega) h4 (by omega) (by omega)).mp (q.trans iZ_0)) (by omega)) (cq_ti (iZ_rem h1 h2 h3 h4) k)
end NW2
def amI (P : Prop) (u v tn : Int) : Prop := (tn = 0 ∧ ((P ∧ u ≤ v) ∨ (¬ P ∧ ¬ u ≤ v))) ∨ (tn = 1 ∧ ((P ∧ v ≤ u) ∨ (¬ P ∧ ¬ v ≤ u)))
theorem am_0 {u v : Int} : amI (u ≤ v) u v 0 := Or.inl ⟨rfl, by omega⟩
theorem am_rng {P : Prop} {u v tn : Int} (h : amI P u v tn) : 0 ≤ tn ∧ tn ≤ 1 := by
  rcases h with h | h <;> omega
theorem am_ne {w x y z : Int} (hx : 1 ≤ x) (hz : 1 ≤ z) (h : ¬ w / x = y / z) : (w / x < y / z ∧ w * z < y * x) ∨ (¬ w / x < y / z ∧ y * x < w * z) := by
  have e1 := Int.mul_ediv_add_emod w x
  have e2 := Int.mul_ediv_add_emod y z
  have b1 := Int.emod_nonneg w (show x ≠ 0 by omega)
  have b2 := Int.emod_lt_of_pos w (show 0 < x by omega)
  have b3 := Int.emod_nonneg y (show z ≠ 0 by omega)
  have b4 := Int.emod_lt_of_pos y (show 0 < z by omega)
  have xz : 0 < x * z := Int.mul_pos (by omega) (by omega)
  have ew : w * z = x * z * (w / x) + (w % x) * z := by
    rw [Int.mul_assoc, Int.mul_comm z, ← Int.mul_assoc, ← Int.add_mul, e1]
  have ey : y * x = x * z * (y / z) + (y % z) * x := by
    rw [Int.mul_comm x z, Int.mul_assoc, Int.mul_comm x, ← Int.mul_assoc, ← Int.add_mul, e2]
  have c1 : 0 ≤ (w % x) * z := Int.mul_nonneg b1 (by omega)
  have c2 : (w % x) * z < x * z := Int.mul_lt_mul_of_pos_right b2 (by omega)
  have c3 : 0 ≤ (y % z) * x := Int.mul_nonneg b3 (by omega)
  have c4 : (y % z) * x < x * z := by rw [Int.mul_comm x z]; exact Int.mul_lt_mul_of_pos_right b4 (by omega)
  rcases Int.lt_or_gt_of_ne h with g | g
  · refine Or.inl ⟨g, ?_⟩
    have d : x * z * (w / x + 1) ≤ x * z * (y / z) := Int.mul_le_mul_of_nonneg_left (by omega) (by omega)
    rw [Int.mul_add, Int.mul_one] at d
    omega
  · refine Or.inr ⟨by omega, ?_⟩
    have d : x * z * (y / z + 1) ≤ x * z * (w / x) := Int.mul_le_mul_of_nonneg_left (by omega) (by omega)
    rw [Int.mul_add, Int.mul_one] at d
    omega
theorem am_eq {P : Prop} {w x y z tn : Int} (h : amI P (w * z) (y * x) tn) (hx : 1 ≤ x) (hz : 1 ≤ z) (hq : w / x = y / z) : amI P ((w % x) * z) ((y % z) * x) tn ∧ (0 ≤ w % x ∧ w % x < x) ∧ (0 ≤ y % z ∧ y % z < z) ∧ ((w % x = 0 ∧ (w % x) * z = 0) ∨ (1 ≤ w % x ∧ 1 ≤ (w % x) * z)) ∧ ((y % z = 0 ∧ (y % z) * x = 0) ∨ (1 ≤ y % z ∧ 1 ≤ (y % z) * x)) := by
  have e1 := Int.mul_ediv_add_emod w x
  have e2 := Int.mul_ediv_add_emod y z
  have b1 := Int.emod_nonneg w (show x ≠ 0 by omega)
  have b2 := Int.emod_lt_of_pos w (show 0 < x by omega)
  have b3 := Int.emod_nonneg y (show z ≠ 0 by omega)
  have b4 := Int.emod_lt_of_pos y (show 0 < z by omega)
  have ew : w * z = x * z * (w / x) + (w % x) * z := by
    rw [Int.mul_assoc, Int.mul_comm z, ← Int.mul_assoc, ← Int.add_mul, e1]
  have ey : y * x = x * z * (y / z) + (y % z) * x := by
    rw [Int.mul_comm x z, Int.mul_assoc, Int.mul_comm x, ← Int.mul_assoc, ← Int.add_mul, e2]
  rw [hq] at ew
  refine ⟨?_, ⟨b1, b2⟩, ⟨b3, b4⟩, ?_, ?_⟩
  · rcases h with ⟨h0, h1⟩ | ⟨h0, h1⟩
    · rcases h1 with h1 | h1
      · exact Or.inl ⟨h0, Or.inl ⟨h1.1, by omega⟩⟩
      · exact Or.inl ⟨h0, Or.inr ⟨h1.1, by omega⟩⟩
    · rcases h1 with h1 | h1
      · exact Or.inr ⟨h0, Or.inl ⟨h1.1, by omega⟩⟩
      · exact Or.inr ⟨h0, Or.inr ⟨h1.1, by omega⟩⟩
  · by_cases c : w % x = 0
    · exact Or.inl ⟨c, by rw [c, Int.zero_mul]⟩
    · have := mul_bd1 (a := w % x) (b := z) (A := w % x) (B := z) (by omega) (by omega) hz (by omega)
      exact Or.inr ⟨by omega, this.1⟩
  · by_cases c : y % z = 0
    · exact Or.inl ⟨c, by rw [c, Int.zero_mul]⟩
    · have := mul_bd1 (a := y % z) (b := x) (A := y % z) (B := x) (by omega) (by omega) hx (by omega)
      exact Or.inr ⟨by omega, this.1⟩
theorem am_fl0 {P : Prop} {w x y z tn : Int} (h : amI P ((w % x) * z) ((y % z) * x) tn) (ht : tn = 0) : amI P (x * (y % z)) (z * (w % x)) 1 := by
  rw [Int.mul_comm x, Int.mul_comm z]
  rcases h with ⟨h0, h1⟩ | ⟨h0, h1⟩
  · exact Or.inr ⟨rfl, h1⟩
  · omega
theorem am_fl1 {P : Prop} {w x y z tn : Int} (h : amI P ((w % x) * z) ((y % z) * x) tn) (ht : ¬ tn = 0) : amI P (x * (y % z)) (z * (w % x)) 0 := by
  rw [Int.mul_comm x, Int.mul_comm z]
  rcases h with ⟨h0, h1⟩ | ⟨h0, h1⟩
  · omega
  · exact Or.inl ⟨rfl, h1⟩
theorem am_end {P : Prop} {u v tn rv : Int} (h : amI P u v tn) (h1 : (tn = 0 ∧ ((rv = 1 ∧ u ≤ v) ∨ (rv = 0 ∧ ¬ u ≤ v))) ∨ (tn = 1 ∧ ((rv = 1 ∧ v ≤ u) ∨ (rv = 0 ∧ ¬ v ≤ u)))) : (rv = 1 ∧ P) ∨ (rv = 0 ∧ ¬ P) := by
  rcases h with ⟨h0, h2⟩ | ⟨h0, h2⟩
  · rcases h2 with h2 | h2
    · exact Or.inl ⟨by omega, h2.1⟩
    · exact Or.inr ⟨by omega, h2.1⟩
  · rcases h2 with h2 | h2
    · exact Or.inl ⟨by omega, h2.1⟩
    · exact Or.inr ⟨by omega, h2.1⟩
def d6 (m : Int) : Int := 6 ^ m.toNat
def dg (k j : Int) : Int := k / d6 (3 - j) % 6
def tpl (q : Int → Int) (k : Int) : Int → Int := fun j => if 0 < q j then 1 + dg k j else 0
def own (q : Int → Int) (k : Int) : Prop := ∀ j, 0 ≤ j → j < 4 → 0 < q j ∨ dg k j = 0
theorem d6_s {i : Int} (h : i ≤ 3) : d6 (3 - (i - 1)) = d6 (3 - i) * 6 := by
  unfold d6
  have e : (3 - (i - 1)).toNat = (3 - i).toNat + 1 := by omega
  rw [e, Int.pow_succ]
theorem d6_p (i : Int) : 1 ≤ d6 i := by
  unfold d6
  have : 0 < (6 : Int) ^ i.toNat := Int.pow_pos (by omega)
  omega
theorem rs_s {k i x : Int} (h : x = k / d6 (3 - i)) (hi : i ≤ 3) : x / 6 = k / d6 (3 - (i - 1)) := by
  rw [h, d6_s hi, Int.ediv_ediv_of_nonneg (by have := d6_p (3 - i); omega)]
theorem rs_b {k i x : Int} (h : x = k / d6 (3 - i)) (hk : 0 ≤ k ∧ k < 1296) : 0 ≤ x ∧ x < 1296 := by
  have := div_bd (c := k) (b := d6 (3 - i)) hk.1 (d6_p _)
  omega
theorem tp_y {q t : Int → Int} {k i x : Int} (h : ∀ j, i < j → j < 4 → t j = tpl q k j) (hx : x = k / d6 (3 - i)) (hc : 0 < q i) : ∀ j, i - 1 < j → j < 4 → pu t i (1 + x % 6) j = tpl q k j := by
  intro j h1 h2
  by_cases e : j = i
  · subst e; rw [pu_eq]; unfold tpl dg; rw [if_pos hc, hx]
  · rw [pu_ne _ e]; exact h j (by omega) h2
theorem tp_n {q t : Int → Int} {k i : Int} (h : ∀ j, i < j → j < 4 → t j = tpl q k j) (hc : ¬ 0 < q i) : ∀ j, i - 1 < j → j < 4 → pu t i 0 j = tpl q k j := by
  intro j h1 h2
  by_cases e : j = i
  · subst e; rw [pu_eq]; unfold tpl; rw [if_neg hc]
  · rw [pu_ne _ e]; exact h j (by omega) h2
theorem tp_end {q t : Int → Int} {k i : Int} (h : ∀ j, i < j → j < 4 → t j = tpl q k j) (hi : i < 0) : ∀ j, 0 ≤ j → j < 4 → t j = tpl q k j := fun j h1 h2 => h j (by omega) h2
def owI (q : Int → Int) (k i ow : Int) : Prop := (ow = 1 ∧ ∀ j, i < j → j < 4 → 0 < q j ∨ dg k j = 0) ∨ (ow = 0 ∧ ¬ ∀ j, i < j → j < 4 → 0 < q j ∨ dg k j = 0)
theorem ow_rng {q : Int → Int} {k i ow : Int} (h : owI q k i ow) : 0 ≤ ow ∧ ow ≤ 1 := by
  rcases h with h | h <;> omega
theorem ow_0 {q : Int → Int} {k : Int} : owI q k 3 1 := Or.inl ⟨rfl, fun j h1 h2 => absurd h2 (by omega)⟩
theorem ow_z {q : Int → Int} {k i ow : Int} (h : owI q k i ow) (h0 : ow = 0) : owI q k (i - 1) 0 := by
  rcases h with h | h
  · omega
  · exact Or.inr ⟨rfl, fun z => h.2 (fun j h1 h2 => z j (by omega) h2)⟩
theorem ow_y {q : Int → Int} {k i ow : Int} (h : owI q k i ow) (h0 : ¬ ow = 0) (hc : 0 < q i ∨ dg k i = 0) : owI q k (i - 1) 1 := by
  rcases h with h | h
  · refine Or.inl ⟨rfl, fun j h1 h2 => ?_⟩
    by_cases e : j = i
    · subst e; exact hc
    · exact h.2 j (by omega) h2
  · exact absurd h.1 h0
theorem ow_n {q : Int → Int} {k i ow : Int} (hi : i < 4) (hc : ¬ 0 < q i) (hd : ¬ dg k i = 0) : owI q k (i - 1) 0 := Or.inr ⟨rfl, fun z => (z i (by omega) hi).elim hc hd⟩
theorem ow_end {q : Int → Int} {k i ow : Int} (h : owI q k i ow) (hi : i = -1) : (ow = 1 ∧ own q k) ∨ (ow = 0 ∧ ¬ own q k) := by
  subst hi
  rcases h with h | h
  · exact Or.inl ⟨h.1, fun j h1 h2 => h.2 j (by omega) h2⟩
  · exact Or.inr ⟨h.1, fun z => h.2 (fun j h1 h2 => z j (by omega) h2)⟩
theorem dg_x {k i x : Int} (h : x = k / d6 (3 - i)) : x % 6 = dg k i := by unfold dg; rw [h]
theorem zr_n {go : Int → Int} {ho lo : Int → Int} {nb n i : Int} (hz : ∀ j, 0 ≤ j → j < 4 → (n ≤ j ∨ ¬ go j = 0) → NBf ho lo nb j = 0) (h0 : 0 ≤ i) (h4 : i < 4) (h : ¬ i < n) : ¬ 0 < NBf ho lo nb i := by
  have := hz i h0 h4 (Or.inl (by omega)); omega
theorem nc_ext {co t : Int → Int} {i n x : Int} (h : x = sZ (fun j => t j * co j) i) (hi : i = n) (h1 : 0 ≤ n) (h4 : n ≤ 4) (ht : ∀ j, n ≤ j → j < 4 → t j = 0) : x = ncost co t := by
  subst hi
  rw [h]
  exact sz_ext h1 h4 (fun j a b => by (try dsimp only); rw [ht j a b, Int.zero_mul])
