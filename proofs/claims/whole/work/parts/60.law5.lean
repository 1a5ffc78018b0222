theorem cell_pre {s : State} {b L : Nat} {xs : Nat → Int32} {H : Heap} {locs : List Loc} (hX : va_X b L xs s s.heap) (hbl : b < s.heap.size) (hbA : ¬ (fun q : Nat => s.heap.size ≤ q) b) (hS : va_S (fun q : Nat => s.heap.size ≤ q) s.heap H locs) : PreS s H (va_Pc [.ref b, .int (iZ 0)] (fun U => U.heap.size = H.size ∧ va_X b L xs U U.heap ∧ b < H.size)) [.ref b, .int (iZ 0)] := by
  refine ⟨fun a U g mk q => ?_, fun U hU hW => ⟨rfl, by rw [hU], ?_, Nat.lt_of_lt_of_le hbl hS.1⟩⟩
  · obtain ⟨q0, q1, q2, q3⟩ := q
    exact ⟨q0, q1, va_X.moved (u := U) (U := U.calling g mk a) (Vm.Alike.refl U.vm) q2, q3⟩
  · rw [hU]
    exact va_X.moved hW.alike (hX.kept (hS.2.1 b hbl hbA))
theorem inv_z (k : Int) (hk : 0 ≤ k) : ∀ j : Int, 0 ≤ (fun _ : Int => (0 : Int)) j ∧ (fun _ : Int => (0 : Int)) j ≤ k := fun _ => ⟨Int.le_refl 0, hk⟩
theorem inv_0 : lwI 0 (fun _ => 0) (fun _ => 0) (fun _ => 0) 0 (fun _ => 0) (fun _ => 0) (fun _ => 0) (fun _ => 0) (fun _ => 0) (fun _ => 0) 0 (fun _ => 0) (fun _ => 0) (fun _ => 0) 0 (fun _ => 0) (fun _ => 0) := by
  unfold lwI
  exact ⟨by omega, inv_z _ (by omega), inv_z _ (by omega), inv_z _ (by omega), fun j a b => absurd b (by omega), by omega, inv_z _ (by omega), fun j a b => absurd b (by omega), inv_z _ (by omega), inv_z _ (by omega), inv_z _ (by omega), inv_z _ (by omega), inv_z _ (by omega), by omega, fun j a b => absurd b (by omega), inv_z _ (by omega), inv_z _ (by omega), by omega, fun _ _ _ => rfl⟩
theorem inv_j : (∀ j : Int, 0 ≤ (fun _ : Int => (0 : Int)) j ∧ (fun _ : Int => (0 : Int)) j ≤ 10000) ∧ (∀ j : Int, 0 ≤ j → j < 4 → 0 ≤ (fun _ : Int => (0 : Int)) j ∧ (fun _ : Int => (0 : Int)) j ≤ 6) := ⟨inv_z _ (by omega), fun j _ _ => inv_z _ (by omega) j⟩
