set_option maxHeartbeats 4000000 in
set_option maxRecDepth 100000 in
theorem k_Arrays_fill (l : Launch) (D : va_G) (cI cJ cZ : ClassId) (arr_a : Nat) (sz : Nat) (arr_f : Int → Int) (fv : Int) (h_fv1 : -9223372036854775808 ≤ fv) (h_fv2 : fv < 9223372036854775808) : cq_v l yJA_fill wsJA_fill ({ frames := 0, cells := 0, slots := 0, locals := 0 }) D clAll [(cI, .int), (cJ, .long), (cZ, .boolean)] nwAll [.ref arr_a, .long (lZ fv)] [(arr_a, .inl (cJ, 4, .inr (.inl (aL arr_f))))] sz (S := (Int → Int)) (fun (u : (Int → Int)) => (∀ j, 0 ≤ j → j < 4 → u j = fv)) (fun (u : (Int → Int)) => [(arr_a, .inl (cJ, 4, .inr (.inl (aL u))))]) 0 0 := by
  refine cq_enter (cc := cJA_fill) (maxL := 5) (ret := none) (by decide) rfl (Nat.le_of_ble_eq_true rfl) ?_
  intro p e s m below meth c A args Q H hAe hQ hsz hAt hA hP hK hD hS ls hl
  obtain ⟨hx, hb, hr, hml, hown, hts, hlocks, hin⟩ := hAt
  have hown : s.vm.findClass RJA = some m.cls := hown
  have hl : lv_has ls 5 [(0, .ref arr_a), (1, .long (lZ fv))] := hl
  refine lv_iconst (v := iZ 0) hx hb dJA_fill_0 (by decide) ?_
  refine lv_istore_n (lv' := [(3, .int (iZ 0)), (0, .ref arr_a), (1, .long (lZ fv))]) hx hb dJA_fill_1 rfl hl (by decide) rfl (fun ls hl => ?_)
  refine lv_aload_n hx hb dJA_fill_2 rfl (lv_at hl 1 rfl) ?_
  refine va_alen (v := iZ 4) hx hb hK.1 hP 0 1 rfl rfl (show Int32.ofNat 4 = iZ 4 by decide) dJA_fill_3 ?_
  refine lv_istore (lv' := [(4, .int (iZ 4)), (3, .int (iZ 0)), (0, .ref arr_a), (1, .long (lZ fv))]) hx hb dJA_fill_4 hl (by decide) rfl (fun ls hl => ?_)
  have loop_1 : ∀ (n_3 : Nat) (i : Int) (arr : Int → Int), (0 ≤ i) → (i ≤ 4) → (∀ j, 0 ≤ j → j < i → arr j = fv) → (4 - i < (n_3 : Int)) → ∀ (H : Heap) (locs : List Loc), va_P D clAll [(arr_a, .inl (cJ, 4, .inr (.inl (aL arr))))] H → va_D A [(arr_a, .inl (cJ, 4, .inr (.inl (aL arr))))] → va_S A s.heap H locs → ∀ ls : Array Slot, lv_has ls 5 [(0, .ref arr_a), (1, .long (lZ fv)), (3, .int (iZ i)), (4, .int (iZ 4))] → W p l e { frames := 0, cells := 0, slots := 0, locals := 0 } s m args below meth c H locs 0 0 Q (F0 m 6 ls []) := by
    intro n_3
    induction n_3 with
    | zero => intro i arr hi hi2 hup hm_4; exact absurd hm_4 (by omega)
    | succ n_3 ih_2 =>
      intro i arr hi hi2 hup hm_4 H locs hP hD hS ls hl
      refine lv_iload_n hx hb dJA_fill_6 rfl (lv_at hl 2 rfl) ?_
      refine lv_iload hx hb dJA_fill_7 (lv_at hl 3 rfl) ?_
      refine z_icmp_ge (tgt := 22) hx hb (by omega) (by omega) (by omega) (by omega) dJA_fill_9 (by decide) (fun c_5 => ?_) (fun c_5 => ?_)
      ·
        exact cq_vret hx hb hr hlocks hAe hQ arr (by (try dsimp only) <;> (exact up_end (g := fun _ => fv) hup (by omega))) (hP.sub [0] rfl) (hD.sub [0] (by decide) rfl) hS (by decide) (by decide) dJA_fill_22
      ·
        refine lv_aload_n hx hb dJA_fill_12 rfl (lv_at hl 0 rfl) ?_
        refine lv_iload_n hx hb dJA_fill_13 rfl (lv_at hl 2 rfl) ?_
        refine lv_lload_n hx hb dJA_fill_14 rfl (lv_at hl 1 rfl) ?_
        refine z_last hx hb hK hP hD hS 0 1 rfl rfl (by omega) (by omega) (by decide) dJA_fill_15 (fun H locs hP hD hS => ?_)
        have hP : va_P D clAll [(arr_a, .inl (cJ, 4, .inr (.inl (aL (pu arr i fv)))))] H := hP
        have hD : va_D A [(arr_a, .inl (cJ, 4, .inr (.inl (aL (pu arr i fv)))))] := hD
        refine lv_iinc (v := iZ (i + 1)) (lv' := [(3, .int (iZ (i + 1))), (0, .ref arr_a), (1, .long (lZ fv)), (4, .int (iZ 4))]) hx hb dJA_fill_16 hl (k := 2) rfl (iZ_add i 1) (by decide) rfl (fun ls hl => ?_)
        refine lv_goto (tgt := 6) hx hb dJA_fill_19 (by decide) ?_
        exact ih_2  (i + 1) (pu arr i fv) (by omega) (by omega) (by exact pu_upto (g := fun _ => fv) hup rfl) (by omega) _ _ (hP.sub [0] rfl) (hD.sub [0] (by decide) rfl) hS ls (lv_sub hl [1, 2, 0, 3] rfl)
  exact loop_1 ((4 - 0 : Int).toNat + 1) 0 arr_f (by omega) (by omega) (by exact fun j h1 h2 => absurd h2 (by omega)) (by omega) _ _ (hP.sub [0] rfl) (hD.sub [0] (by decide) rfl) hS ls (lv_sub hl [2, 3, 1, 0] rfl)
set_option maxHeartbeats 4000000 in
set_option maxRecDepth 100000 in
theorem k_Terms_clear (l : Launch) (D : va_G) (cI cJ cZ : ClassId) (t_a t_aboves_a t_belows_a : Nat) (sz : Nat) (t_aboves_f : Int → Int) (t_belows_f : Int → Int) : cq_v l yTm_clear wsTm_clear ({ frames := 1, cells := 0, slots := 0, locals := 24 }) D clAll [(cI, .int), (cJ, .long), (cZ, .boolean)] nwAll [.ref t_a] [(t_a, .inr (7, [.ref t_aboves_a, .ref t_belows_a])), (t_aboves_a, .inl (cJ, 4, .inr (.inl (aL t_aboves_f)))), (t_belows_a, .inl (cJ, 4, .inr (.inl (aL t_belows_f))))] sz (S := (Int → Int) × (Int → Int)) (fun (u : (Int → Int) × (Int → Int)) => (∀ j, 0 ≤ j → j < 4 → u.1 j = 0) ∧ (∀ j, 0 ≤ j → j < 4 → u.2 j = 1)) (fun (u : (Int → Int) × (Int → Int)) => [(t_a, .inr (7, [.ref t_aboves_a, .ref t_belows_a])), (t_aboves_a, .inl (cJ, 4, .inr (.inl (aL u.1)))), (t_belows_a, .inl (cJ, 4, .inr (.inl (aL u.2))))]) 0 0 := by
  refine cq_enter (cc := cTm_clear) (maxL := 1) (ret := none) (by decide) rfl (Nat.le_of_ble_eq_true rfl) ?_
  intro p e s m below meth c A args Q H hAe hQ hsz hAt hA hP hK hD hS ls hl
  obtain ⟨hx, hb, hr, hml, hown, hts, hlocks, hin⟩ := hAt
  have hown : s.vm.findClass RTm = some m.cls := hown
  have hl : lv_has ls 1 [(0, .ref t_a)] := hl
  refine lv_aload_n hx hb dTm_clear_0 rfl (lv_at hl 0 rfl) ?_
  refine va_get (D := D) (ci := 7) (v := .ref t_aboves_a) (C := RTm) (T := TTm) (N := 2) hx hb hts layTm hown hK.1 hP 0 rfl rfl 0 (by decide) (hts _ (hm g145)) (fun _ h9 => h9) rfl dTm_clear_1 ?_
  refine lv_lconst (v := lZ 0) hx hb dTm_clear_4 (by decide) ?_
  refine cq_callv (wr := [(t_a, .inr (7, [.ref t_aboves_a, .ref t_belows_a])), (t_belows_a, .inl (cJ, 4, .inr (.inl (aL t_belows_f))))]) (va_runS (As := [.ref t_aboves_a, .long (lZ 0)]) (rest := []) ⟨hx, hb, hml, hown, hts⟩ (k_Arrays_fill l D cI cJ cZ t_aboves_a H.size t_aboves_f 0 (by omega) (by omega)) ⟨(callB_of 2 hts (gAll cmJA_fill) rfl rfl rfl (hts _ (hm g68)) (hts _ (hm g309)) (by decide +kernel) ⟨Nat.le_of_ble_eq_true rfl, Nat.le_of_ble_eq_true rfl⟩), (hts _ (hm g310))⟩ (cq_preS hK hP hD [1] (by decide) rfl) rfl rfl hl.1 rfl (lv_room (Nat.le_of_ble_eq_true rfl)) dTm_clear_5 ⟨by decide, by decide⟩) hP hD hS hA [1] [0, 2] rfl rfl (by decide) (by decide) (fun u H locs hw_1 hP hD hS => ?_)
  obtain ⟨o_2, rfl⟩ : ∃ z, z = u := ⟨_, rfl⟩
  try dsimp only at hw_1
  have p_3 := hw_1
  have hP : va_P D clAll [(t_a, .inr (7, [.ref t_aboves_a, .ref t_belows_a])), (t_belows_a, .inl (cJ, 4, .inr (.inl (aL t_belows_f)))), (t_aboves_a, .inl (cJ, 4, .inr (.inl (aL o_2))))] H := hP
  have hD : va_D A [(t_a, .inr (7, [.ref t_aboves_a, .ref t_belows_a])), (t_belows_a, .inl (cJ, 4, .inr (.inl (aL t_belows_f)))), (t_aboves_a, .inl (cJ, 4, .inr (.inl (aL o_2))))] := hD
  refine lv_aload_n hx hb dTm_clear_8 rfl (lv_at hl 0 rfl) ?_
  refine va_get (D := D) (ci := 7) (v := .ref t_belows_a) (C := RTm) (T := TTm) (N := 2) hx hb hts layTm hown hK.1 hP 0 rfl rfl 1 (by decide) (hts _ (hm g146)) (fun _ h9 => h9) rfl dTm_clear_9 ?_
  refine lv_lconst (v := lZ 1) hx hb dTm_clear_12 (by decide) ?_
  refine cq_callv (wr := [(t_a, .inr (7, [.ref t_aboves_a, .ref t_belows_a])), (t_aboves_a, .inl (cJ, 4, .inr (.inl (aL o_2))))]) (va_runS (As := [.ref t_belows_a, .long (lZ 1)]) (rest := []) ⟨hx, hb, hml, hown, hts⟩ (k_Arrays_fill l D cI cJ cZ t_belows_a H.size t_belows_f 1 (by omega) (by omega)) ⟨(callB_of 2 hts (gAll cmJA_fill) rfl rfl rfl (hts _ (hm g68)) (hts _ (hm g309)) (by decide +kernel) ⟨Nat.le_of_ble_eq_true rfl, Nat.le_of_ble_eq_true rfl⟩), (hts _ (hm g310))⟩ (cq_preS hK hP hD [1] (by decide) rfl) rfl rfl hl.1 rfl (lv_room (Nat.le_of_ble_eq_true rfl)) dTm_clear_13 ⟨by decide, by decide⟩) hP hD hS hA [1] [0, 2] rfl rfl (by decide) (by decide) (fun u H locs hw_4 hP hD hS => ?_)
  obtain ⟨o_5, rfl⟩ : ∃ z, z = u := ⟨_, rfl⟩
  try dsimp only at hw_4
  have p_6 := hw_4
  have hP : va_P D clAll [(t_a, .inr (7, [.ref t_aboves_a, .ref t_belows_a])), (t_aboves_a, .inl (cJ, 4, .inr (.inl (aL o_2)))), (t_belows_a, .inl (cJ, 4, .inr (.inl (aL o_5))))] H := hP
  have hD : va_D A [(t_a, .inr (7, [.ref t_aboves_a, .ref t_belows_a])), (t_aboves_a, .inl (cJ, 4, .inr (.inl (aL o_2)))), (t_belows_a, .inl (cJ, 4, .inr (.inl (aL o_5))))] := hD
  exact cq_vret hx hb hr hlocks hAe hQ (o_2, o_5) ⟨(by (try dsimp only) <;> (assumption)), (by (try dsimp only) <;> (assumption))⟩ (hP.sub [0, 1, 2] rfl) (hD.sub [0, 1, 2] (by decide) rfl) hS (by decide) (by decide) dTm_clear_16
set_option maxHeartbeats 4000000 in
set_option maxRecDepth 100000 in
theorem k_Terms_set (l : Launch) (D : va_G) (cI cJ cZ : ClassId) (t_a t_aboves_a t_belows_a : Nat) (sz : Nat) (t_aboves_f : Int → Int) (t_belows_f : Int → Int) (z : Int) (na : Int) (nb : Int) (h_z1 : -2147483648 ≤ z) (h_z2 : z < 2147483648) (h_na1 : -9223372036854775808 ≤ na) (h_na2 : na < 9223372036854775808) (h_nb1 : -9223372036854775808 ≤ nb) (h_nb2 : nb < 9223372036854775808) (hz : 0 ≤ z ∧ z < 4) : cq_v l yTm_set wsTm_set ({ frames := 0, cells := 0, slots := 0, locals := 0 }) D clAll [(cI, .int), (cJ, .long), (cZ, .boolean)] nwAll [.ref t_a, .int (iZ z), .long (lZ na), .long (lZ nb)] [(t_a, .inr (7, [.ref t_aboves_a, .ref t_belows_a])), (t_aboves_a, .inl (cJ, 4, .inr (.inl (aL t_aboves_f)))), (t_belows_a, .inl (cJ, 4, .inr (.inl (aL t_belows_f))))] sz (S := (Int → Int) × (Int → Int)) (fun (u : (Int → Int) × (Int → Int)) => (u.1 = pu t_aboves_f z na) ∧ (u.2 = pu t_belows_f z nb)) (fun (u : (Int → Int) × (Int → Int)) => [(t_a, .inr (7, [.ref t_aboves_a, .ref t_belows_a])), (t_aboves_a, .inl (cJ, 4, .inr (.inl (aL u.1)))), (t_belows_a, .inl (cJ, 4, .inr (.inl (aL u.2))))]) 0 0 := by
  refine cq_enter (cc := cTm_set) (maxL := 6) (ret := none) (by decide) rfl (Nat.le_of_ble_eq_true rfl) ?_
  intro p e s m below meth c A args Q H hAe hQ hsz hAt hA hP hK hD hS ls hl
  obtain ⟨hx, hb, hr, hml, hown, hts, hlocks, hin⟩ := hAt
  have hown : s.vm.findClass RTm = some m.cls := hown
  have hl : lv_has ls 6 [(0, .ref t_a), (1, .int (iZ z)), (2, .long (lZ na)), (4, .long (lZ nb))] := hl
  refine lv_aload_n hx hb dTm_set_0 rfl (lv_at hl 0 rfl) ?_
  refine va_get (D := D) (ci := 7) (v := .ref t_aboves_a) (C := RTm) (T := TTm) (N := 2) hx hb hts layTm hown hK.1 hP 0 rfl rfl 0 (by decide) (hts _ (hm g145)) (fun _ h9 => h9) rfl dTm_set_1 ?_
  refine lv_iload_n hx hb dTm_set_4 rfl (lv_at hl 1 rfl) ?_
  refine lv_lload_n hx hb dTm_set_5 rfl (lv_at hl 2 rfl) ?_
  refine z_last hx hb hK hP hD hS 1 1 rfl rfl (by omega) (by omega) (by decide) dTm_set_6 (fun H locs hP hD hS => ?_)
  have hP : va_P D clAll [(t_a, .inr (7, [.ref t_aboves_a, .ref t_belows_a])), (t_aboves_a, .inl (cJ, 4, .inr (.inl (aL (pu t_aboves_f z na))))), (t_belows_a, .inl (cJ, 4, .inr (.inl (aL t_belows_f))))] H := hP
  have hD : va_D A [(t_a, .inr (7, [.ref t_aboves_a, .ref t_belows_a])), (t_aboves_a, .inl (cJ, 4, .inr (.inl (aL (pu t_aboves_f z na))))), (t_belows_a, .inl (cJ, 4, .inr (.inl (aL t_belows_f))))] := hD
  refine lv_aload_n hx hb dTm_set_7 rfl (lv_at hl 0 rfl) ?_
  refine va_get (D := D) (ci := 7) (v := .ref t_belows_a) (C := RTm) (T := TTm) (N := 2) hx hb hts layTm hown hK.1 hP 0 rfl rfl 1 (by decide) (hts _ (hm g146)) (fun _ h9 => h9) rfl dTm_set_8 ?_
  refine lv_iload_n hx hb dTm_set_11 rfl (lv_at hl 1 rfl) ?_
  refine lv_lload hx hb dTm_set_12 (lv_at hl 3 rfl) ?_
  refine z_last hx hb hK hP hD hS 2 1 rfl rfl (by omega) (by omega) (by decide) dTm_set_14 (fun H locs hP hD hS => ?_)
  have hP : va_P D clAll [(t_a, .inr (7, [.ref t_aboves_a, .ref t_belows_a])), (t_aboves_a, .inl (cJ, 4, .inr (.inl (aL (pu t_aboves_f z na))))), (t_belows_a, .inl (cJ, 4, .inr (.inl (aL (pu t_belows_f z nb)))))] H := hP
  have hD : va_D A [(t_a, .inr (7, [.ref t_aboves_a, .ref t_belows_a])), (t_aboves_a, .inl (cJ, 4, .inr (.inl (aL (pu t_aboves_f z na))))), (t_belows_a, .inl (cJ, 4, .inr (.inl (aL (pu t_belows_f z nb)))))] := hD
  exact cq_vret hx hb hr hlocks hAe hQ ((pu t_aboves_f z na), (pu t_belows_f z nb)) ⟨(by (try dsimp only) <;> (first | rfl | omega | (refine Or.inl ?_; and_intros <;> first | rfl | omega) | (refine Or.inr ?_; and_intros <;> first | rfl | omega))), (by (try dsimp only) <;> (first | rfl | omega | (refine Or.inl ?_; and_intros <;> first | rfl | omega) | (refine Or.inr ?_; and_intros <;> first | rfl | omega)))⟩ (hP.sub [0, 1, 2] rfl) (hD.sub [0, 1, 2] (by decide) rfl) hS (by decide) (by decide) dTm_set_15
set_option maxHeartbeats 4000000 in
set_option maxRecDepth 100000 in
theorem k_Terms_common (l : Launch) (D : va_G) (cI cJ cZ : ClassId) (t_a t_aboves_a t_belows_a : Nat) (sz : Nat) (t_belows_f : Int → Int) (hbl : ∀ j, 0 ≤ j → j < 4 → 1 ≤ t_belows_f j ∧ t_belows_f j ≤ 2000) : cq_l l yTm_common wsTm_common ({ frames := 2, cells := 0, slots := 0, locals := 55 }) D clAll [(cI, .int), (cJ, .long), (cZ, .boolean)] nwAll [.ref t_a] [(t_a, .inr (7, [.ref t_aboves_a, .ref t_belows_a])), (t_belows_a, .inl (cJ, 4, .inr (.inl (aL t_belows_f))))] sz (S := Int) (fun (r : Int64) (u : Int) => r = lZ u ∧ (u = cm t_belows_f 4)) (fun (u : Int) => [(t_a, .inr (7, [.ref t_aboves_a, .ref t_belows_a])), (t_belows_a, .inl (cJ, 4, .inr (.inl (aL t_belows_f))))]) 0 0 := by
  refine cq_enter (cc := cTm_common) (maxL := 4) (ret := some .long) (by decide) rfl (Nat.le_of_ble_eq_true rfl) ?_
  intro p e s m below meth c A args Q H hAe hQ hsz hAt hA hP hK hD hS ls hl
  obtain ⟨hx, hb, hr, hml, hown, hts, hlocks, hin⟩ := hAt
  have hown : s.vm.findClass RTm = some m.cls := hown
  have hl : lv_has ls 4 [(0, .ref t_a)] := hl
  refine lv_lconst (v := lZ 1) hx hb dTm_common_0 (by decide) ?_
  refine lv_lstore_n (lv' := [(1, .long (lZ 1)), (0, .ref t_a)]) hx hb dTm_common_1 rfl hl (by decide) rfl (fun ls hl => ?_)
  refine lv_iconst (v := iZ 0) hx hb dTm_common_2 (by decide) ?_
  refine lv_istore_n (lv' := [(3, .int (iZ 0)), (1, .long (lZ 1)), (0, .ref t_a)]) hx hb dTm_common_3 rfl hl (by decide) rfl (fun ls hl => ?_)
  have loop_1 : ∀ (n_3 : Nat) (co : Int) (i : Int), (0 ≤ i) → (i ≤ 4) → (co = cm t_belows_f i) → (4 - i < (n_3 : Int)) → ∀ (H : Heap) (locs : List Loc), va_P D clAll [(t_a, .inr (7, [.ref t_aboves_a, .ref t_belows_a])), (t_belows_a, .inl (cJ, 4, .inr (.inl (aL t_belows_f))))] H → va_D A [(t_a, .inr (7, [.ref t_aboves_a, .ref t_belows_a])), (t_belows_a, .inl (cJ, 4, .inr (.inl (aL t_belows_f))))] → va_S A s.heap H locs → ∀ ls : Array Slot, lv_has ls 4 [(0, .ref t_a), (1, .long (lZ co)), (3, .int (iZ i))] → W p l e { frames := 2, cells := 0, slots := 0, locals := 55 } s m args below meth c H locs 0 0 Q (F0 m 4 ls []) := by
    intro n_3
    induction n_3 with
    | zero => intro co i hi hi2 hcm hm_4; exact absurd hm_4 (by omega)
    | succ n_3 ih_2 =>
      intro co i hi hi2 hcm hm_4 H locs hP hD hS ls hl
      refine lv_iload_n hx hb dTm_common_4 rfl (lv_at hl 2 rfl) ?_
      refine lv_iconst (v := iZ 4) hx hb dTm_common_5 (by decide) ?_
      refine z_icmp_ge (tgt := 26) hx hb (by omega) (by omega) (by omega) (by omega) dTm_common_6 (by decide) (fun c_5 => ?_) (fun c_5 => ?_)
      ·
        refine lv_lload_n hx hb dTm_common_26 rfl (lv_at hl 1 rfl) ?_
        exact cq_lret hx hb hr hlocks hAe hQ co ⟨rfl, (by (try dsimp only) <;> (exact cm_end hcm (by omega)))⟩ (hP.sub [0, 1] rfl) (hD.sub [0, 1] (by decide) rfl) hS (by decide) (by decide) dTm_common_27
      ·
        have hcb := cm_b hcm hi hi2 hbl
        refine lv_lload_n hx hb dTm_common_9 rfl (lv_at hl 1 rfl) ?_
        refine lv_aload_n hx hb dTm_common_10 rfl (lv_at hl 0 rfl) ?_
        refine va_get (D := D) (ci := 7) (v := .ref t_belows_a) (C := RTm) (T := TTm) (N := 2) hx hb hts layTm hown hK.1 hP 0 rfl rfl 1 (by decide) (hts _ (hm g146)) (fun _ h9 => h9) rfl dTm_common_11 ?_
        refine lv_iload_n hx hb dTm_common_14 rfl (lv_at hl 2 rfl) ?_
        refine z_lald hx hb hK hP 1 1 rfl rfl (by omega) (by omega) (by decide) dTm_common_15 ?_
        have f_6 := hbl i (by omega) (by omega)
        refine cq_calll (wr := [(t_a, .inr (7, [.ref t_aboves_a, .ref t_belows_a])), (t_belows_a, .inl (cJ, 4, .inr (.inl (aL t_belows_f))))]) (va_runSN (As := [.long (lZ co), .long (lZ (t_belows_f i))]) (rest := []) ⟨hx, hb, hml, hown, hts⟩ (k_StratumCounts_leastCommon l D cI cJ cZ H.size co (t_belows_f i) (by omega) (by omega) (by omega) (by omega) (by first | assumption | omega) (by first | assumption | omega)) ⟨(va_cnB 2 hts (gAll cmSc_leastCommon) rfl rfl rfl (hK.2.2 _ n39) (hts _ (hm g58)) (by decide +kernel) ⟨Nat.le_of_ble_eq_true rfl, Nat.le_of_ble_eq_true rfl⟩), (hts _ (hm g316)), trivial⟩ (cq_preS hK hP hD [] (by decide) rfl) rfl rfl hl.1 rfl (lv_room (Nat.le_of_ble_eq_true rfl)) dTm_common_16 ⟨by decide, by decide⟩) hP hD hS hA [] [0, 1] rfl rfl (by decide) (by decide) (fun r u H locs hw_7 hP hD hS => ?_)
        obtain ⟨o_8, rfl⟩ : ∃ z, z = u := ⟨_, rfl⟩
        try dsimp only at hw_7
        obtain ⟨rfl, rfl⟩ := hw_7
        have hP : va_P D clAll [(t_a, .inr (7, [.ref t_aboves_a, .ref t_belows_a])), (t_belows_a, .inl (cJ, 4, .inr (.inl (aL t_belows_f))))] H := hP
        have hD : va_D A [(t_a, .inr (7, [.ref t_aboves_a, .ref t_belows_a])), (t_belows_a, .inl (cJ, 4, .inr (.inl (aL t_belows_f))))] := hD
        refine lv_lstore_n (lv' := [(1, .long (lZ (co / (Int.gcd co (t_belows_f i) : Int) * (t_belows_f i)))), (0, .ref t_a), (3, .int (iZ i))]) hx hb dTm_common_19 rfl hl (by decide) rfl (fun ls hl => ?_)
        refine lv_iinc (v := iZ (i + 1)) (lv' := [(3, .int (iZ (i + 1))), (1, .long (lZ (co / (Int.gcd co (t_belows_f i) : Int) * (t_belows_f i)))), (0, .ref t_a)]) hx hb dTm_common_20 hl (k := 2) rfl (iZ_add i 1) (by decide) rfl (fun ls hl => ?_)
        refine lv_goto (tgt := 4) hx hb dTm_common_23 (by decide) ?_
        exact ih_2  (co / (Int.gcd co (t_belows_f i) : Int) * (t_belows_f i)) (i + 1) (by omega) (by omega) (by exact cm_s hcm hi) (by omega) _ _ (hP.sub [0, 1] rfl) (hD.sub [0, 1] (by decide) rfl) hS ls (lv_sub hl [2, 1, 0] rfl)
  exact loop_1 ((4 - 0 : Int).toNat + 1) 1 0 (by omega) (by omega) (by rfl) (by omega) _ _ (hP.sub [0, 1] rfl) (hD.sub [0, 1] (by decide) rfl) hS ls (lv_sub hl [2, 1, 0] rfl)
set_option maxHeartbeats 4000000 in
set_option maxRecDepth 100000 in
theorem k_Terms_scaled (l : Launch) (D : va_G) (cI cJ cZ : ClassId) (t_a t_aboves_a t_belows_a : Nat) (sz : Nat) (t_aboves_f : Int → Int) (t_belows_f : Int → Int) (z : Int) (co : Int) (h_z1 : -2147483648 ≤ z) (h_z2 : z < 2147483648) (h_co1 : -9223372036854775808 ≤ co) (h_co2 : co < 9223372036854775808) (hz : 0 ≤ z ∧ z < 4) (hbl : ∀ j, 0 ≤ j → j < 4 → 1 ≤ t_belows_f j ∧ t_belows_f j ≤ 2000) (hco : 0 ≤ co) : cq_l l yTm_scaled wsTm_scaled ({ frames := 0, cells := 0, slots := 0, locals := 0 }) D clAll [(cI, .int), (cJ, .long), (cZ, .boolean)] nwAll [.ref t_a, .int (iZ z), .long (lZ co)] [(t_a, .inr (7, [.ref t_aboves_a, .ref t_belows_a])), (t_aboves_a, .inl (cJ, 4, .inr (.inl (aL t_aboves_f)))), (t_belows_a, .inl (cJ, 4, .inr (.inl (aL t_belows_f))))] sz (S := Int) (fun (r : Int64) (u : Int) => r = lZ u ∧ (u = t_aboves_f z * (co / t_belows_f z))) (fun (u : Int) => [(t_a, .inr (7, [.ref t_aboves_a, .ref t_belows_a])), (t_aboves_a, .inl (cJ, 4, .inr (.inl (aL t_aboves_f)))), (t_belows_a, .inl (cJ, 4, .inr (.inl (aL t_belows_f))))]) 0 0 := by
  refine cq_enter (cc := cTm_scaled) (maxL := 4) (ret := some .long) (by decide) rfl (Nat.le_of_ble_eq_true rfl) ?_
  intro p e s m below meth c A args Q H hAe hQ hsz hAt hA hP hK hD hS ls hl
  obtain ⟨hx, hb, hr, hml, hown, hts, hlocks, hin⟩ := hAt
  have hown : s.vm.findClass RTm = some m.cls := hown
  have hl : lv_has ls 4 [(0, .ref t_a), (1, .int (iZ z)), (2, .long (lZ co))] := hl
  refine lv_aload_n hx hb dTm_scaled_0 rfl (lv_at hl 0 rfl) ?_
  refine va_get (D := D) (ci := 7) (v := .ref t_belows_a) (C := RTm) (T := TTm) (N := 2) hx hb hts layTm hown hK.1 hP 0 rfl rfl 1 (by decide) (hts _ (hm g146)) (fun _ h9 => h9) rfl dTm_scaled_1 ?_
  refine lv_iload_n hx hb dTm_scaled_4 rfl (lv_at hl 1 rfl) ?_
  refine z_lald hx hb hK hP 2 1 rfl rfl (by omega) (by omega) (by decide) dTm_scaled_5 ?_
  have f_1 := hbl z (by omega) (by omega)
  refine lv_lconst (v := lZ 1) hx hb dTm_scaled_6 (by decide) ?_
  refine z_lcmp_ge (tgt := 15) hx hb (by omega) (by omega) (by omega) (by omega) dTm_scaled_7 dTm_scaled_8 (by decide) (fun c_2 => ?_) (fun c_2 => ?_)
  ·
    refine lv_aload_n hx hb dTm_scaled_15 rfl (lv_at hl 0 rfl) ?_
    refine va_get (D := D) (ci := 7) (v := .ref t_aboves_a) (C := RTm) (T := TTm) (N := 2) hx hb hts layTm hown hK.1 hP 0 rfl rfl 0 (by decide) (hts _ (hm g145)) (fun _ h9 => h9) rfl dTm_scaled_16 ?_
    refine lv_iload_n hx hb dTm_scaled_19 rfl (lv_at hl 1 rfl) ?_
    refine z_lald hx hb hK hP 1 1 rfl rfl (by omega) (by omega) (by decide) dTm_scaled_20 ?_
    refine lv_lload_n hx hb dTm_scaled_21 rfl (lv_at hl 2 rfl) ?_
    refine lv_aload_n hx hb dTm_scaled_22 rfl (lv_at hl 0 rfl) ?_
    refine va_get (D := D) (ci := 7) (v := .ref t_belows_a) (C := RTm) (T := TTm) (N := 2) hx hb hts layTm hown hK.1 hP 0 rfl rfl 1 (by decide) (hts _ (hm g146)) (fun _ h9 => h9) rfl dTm_scaled_23 ?_
    refine lv_iload_n hx hb dTm_scaled_26 rfl (lv_at hl 1 rfl) ?_
    refine z_lald hx hb hK hP 2 1 rfl rfl (by omega) (by omega) (by decide) dTm_scaled_27 ?_
    have f_3 := hbl z (by omega) (by omega)
    refine z_ldiv hx hb (by omega) (by omega) (by omega) (by omega) dTm_scaled_28 ?_
    refine z_lmul hx hb dTm_scaled_29 ?_
    exact cq_lret hx hb hr hlocks hAe hQ ((t_aboves_f z) * (co / (t_belows_f z))) ⟨rfl, (by (try dsimp only) <;> (first | rfl | omega | (refine Or.inl ?_; and_intros <;> first | rfl | omega) | (refine Or.inr ?_; and_intros <;> first | rfl | omega)))⟩ (hP.sub [0, 1, 2] rfl) (hD.sub [0, 1, 2] (by decide) rfl) hS (by decide) (by decide) dTm_scaled_30
  ·
    refine lv_lconst (v := lZ 0) hx hb dTm_scaled_11 (by decide) ?_
    refine lv_goto (tgt := 30) hx hb dTm_scaled_12 (by decide) ?_
    exact cq_lret hx hb hr hlocks hAe hQ 0 ⟨rfl, (by (try dsimp only) <;> (first | rfl | omega | (refine Or.inl ?_; and_intros <;> first | rfl | omega) | (refine Or.inr ?_; and_intros <;> first | rfl | omega)))⟩ (hP.sub [0, 1, 2] rfl) (hD.sub [0, 1, 2] (by decide) rfl) hS (by decide) (by decide) dTm_scaled_30
set_option maxHeartbeats 4000000 in
set_option maxRecDepth 100000 in
theorem k_Terms_sum (l : Launch) (D : va_G) (cI cJ cZ : ClassId) (t_a t_aboves_a t_belows_a : Nat) (sz : Nat) (t_aboves_f : Int → Int) (t_belows_f : Int → Int) (co : Int) (h_co1 : -9223372036854775808 ≤ co) (h_co2 : co < 9223372036854775808) (hbl : ∀ j, 0 ≤ j → j < 4 → 1 ≤ t_belows_f j ∧ t_belows_f j ≤ 2000) (hco : 0 ≤ co) : cq_l l yTm_sum wsTm_sum ({ frames := 1, cells := 0, slots := 0, locals := 23 }) D clAll [(cI, .int), (cJ, .long), (cZ, .boolean)] nwAll [.ref t_a, .long (lZ co)] [(t_a, .inr (7, [.ref t_aboves_a, .ref t_belows_a])), (t_aboves_a, .inl (cJ, 4, .inr (.inl (aL t_aboves_f)))), (t_belows_a, .inl (cJ, 4, .inr (.inl (aL t_belows_f))))] sz (S := Int) (fun (r : Int64) (u : Int) => r = lZ u ∧ (u = sZ (fun j => t_aboves_f j * (co / t_belows_f j)) 4)) (fun (u : Int) => [(t_a, .inr (7, [.ref t_aboves_a, .ref t_belows_a])), (t_aboves_a, .inl (cJ, 4, .inr (.inl (aL t_aboves_f)))), (t_belows_a, .inl (cJ, 4, .inr (.inl (aL t_belows_f))))]) 0 0 := by
  refine cq_enter (cc := cTm_sum) (maxL := 6) (ret := some .long) (by decide) rfl (Nat.le_of_ble_eq_true rfl) ?_
  intro p e s m below meth c A args Q H hAe hQ hsz hAt hA hP hK hD hS ls hl
  obtain ⟨hx, hb, hr, hml, hown, hts, hlocks, hin⟩ := hAt
  have hown : s.vm.findClass RTm = some m.cls := hown
  have hl : lv_has ls 6 [(0, .ref t_a), (1, .long (lZ co))] := hl
  refine lv_lconst (v := lZ 0) hx hb dTm_sum_0 (by decide) ?_
  refine lv_lstore_n (lv' := [(3, .long (lZ 0)), (0, .ref t_a), (1, .long (lZ co))]) hx hb dTm_sum_1 rfl hl (by decide) rfl (fun ls hl => ?_)
  refine lv_iconst (v := iZ 0) hx hb dTm_sum_2 (by decide) ?_
  refine lv_istore (lv' := [(5, .int (iZ 0)), (3, .long (lZ 0)), (0, .ref t_a), (1, .long (lZ co))]) hx hb dTm_sum_3 hl (by decide) rfl (fun ls hl => ?_)
  have loop_1 : ∀ (n_3 : Nat) (sm : Int) (i : Int), (0 ≤ i) → (i ≤ 4) → (sm = sZ (fun j => t_aboves_f j * (co / t_belows_f j)) i) → (4 - i < (n_3 : Int)) → ∀ (H : Heap) (locs : List Loc), va_P D clAll [(t_a, .inr (7, [.ref t_aboves_a, .ref t_belows_a])), (t_aboves_a, .inl (cJ, 4, .inr (.inl (aL t_aboves_f)))), (t_belows_a, .inl (cJ, 4, .inr (.inl (aL t_belows_f))))] H → va_D A [(t_a, .inr (7, [.ref t_aboves_a, .ref t_belows_a])), (t_aboves_a, .inl (cJ, 4, .inr (.inl (aL t_aboves_f)))), (t_belows_a, .inl (cJ, 4, .inr (.inl (aL t_belows_f))))] → va_S A s.heap H locs → ∀ ls : Array Slot, lv_has ls 6 [(0, .ref t_a), (1, .long (lZ co)), (3, .long (lZ sm)), (5, .int (iZ i))] → W p l e { frames := 1, cells := 0, slots := 0, locals := 23 } s m args below meth c H locs 0 0 Q (F0 m 5 ls []) := by
    intro n_3
    induction n_3 with
    | zero => intro sm i hi hi2 hsm hm_4; exact absurd hm_4 (by omega)
    | succ n_3 ih_2 =>
      intro sm i hi hi2 hsm hm_4 H locs hP hD hS ls hl
      refine lv_iload hx hb dTm_sum_5 (lv_at hl 3 rfl) ?_
      refine lv_iconst (v := iZ 4) hx hb dTm_sum_7 (by decide) ?_
      refine z_icmp_ge (tgt := 27) hx hb (by omega) (by omega) (by omega) (by omega) dTm_sum_8 (by decide) (fun c_5 => ?_) (fun c_5 => ?_)
      ·
        refine lv_lload_n hx hb dTm_sum_27 rfl (lv_at hl 2 rfl) ?_
        exact cq_lret hx hb hr hlocks hAe hQ sm ⟨rfl, (by (try dsimp only) <;> (exact sz_end hsm (by omega)))⟩ (hP.sub [0, 1, 2] rfl) (hD.sub [0, 1, 2] (by decide) rfl) hS (by decide) (by decide) dTm_sum_28
      ·
        refine lv_lload_n hx hb dTm_sum_11 rfl (lv_at hl 2 rfl) ?_
        refine lv_aload_n hx hb dTm_sum_12 rfl (lv_at hl 0 rfl) ?_
        refine lv_iload hx hb dTm_sum_13 (lv_at hl 3 rfl) ?_
        refine lv_lload_n hx hb dTm_sum_15 rfl (lv_at hl 1 rfl) ?_
        refine cq_calll (wr := []) (va_runV (C := RTm) (As := [.int (iZ i), .long (lZ co)]) (rest := [.long (lZ sm)]) ⟨hx, hb, hml, hown, hts⟩ (k_Terms_scaled l D cI cJ cZ t_a t_aboves_a t_belows_a H.size t_aboves_f t_belows_f i co (by omega) (by omega) (by omega) (by omega) (by first | assumption | omega) (by first | assumption | omega) (by first | assumption | omega)) ⟨(callB_of 2 hts (gAll cmTm_scaled) rfl rfl rfl (hts _ (hm g64)) (hts _ (hm g323)) (by decide +kernel) ⟨Nat.le_of_ble_eq_true rfl, Nat.le_of_ble_eq_true rfl⟩), (hts _ (hm g324)), (hts _ (hm g21))⟩ (cq_preV (va_recv hK.1 hP (ci := 7) (q0 := 0) rfl rfl) (cq_preS hK hP hD [0, 1, 2] (by decide) rfl)) rfl rfl hl.1 rfl (lv_room (Nat.le_of_ble_eq_true rfl)) dTm_sum_16 ⟨by decide, by decide⟩) hP hD hS hA [0, 1, 2] [] rfl rfl (by decide) (by decide) (fun r u H locs hw_6 hP hD hS => ?_)
        obtain ⟨o_7, rfl⟩ : ∃ z, z = u := ⟨_, rfl⟩
        try dsimp only at hw_6
        obtain ⟨rfl, rfl⟩ := hw_6
        have hP : va_P D clAll [(t_a, .inr (7, [.ref t_aboves_a, .ref t_belows_a])), (t_aboves_a, .inl (cJ, 4, .inr (.inl (aL t_aboves_f)))), (t_belows_a, .inl (cJ, 4, .inr (.inl (aL t_belows_f))))] H := hP
        have hD : va_D A [(t_a, .inr (7, [.ref t_aboves_a, .ref t_belows_a])), (t_aboves_a, .inl (cJ, 4, .inr (.inl (aL t_aboves_f)))), (t_belows_a, .inl (cJ, 4, .inr (.inl (aL t_belows_f))))] := hD
        refine z_ladd hx hb dTm_sum_19 ?_
        refine lv_lstore_n (lv' := [(3, .long (lZ (sm + (t_aboves_f i * (co / t_belows_f i))))), (0, .ref t_a), (1, .long (lZ co)), (5, .int (iZ i))]) hx hb dTm_sum_20 rfl hl (by decide) rfl (fun ls hl => ?_)
        refine lv_iinc (v := iZ (i + 1)) (lv' := [(5, .int (iZ (i + 1))), (3, .long (lZ (sm + (t_aboves_f i * (co / t_belows_f i))))), (0, .ref t_a), (1, .long (lZ co))]) hx hb dTm_sum_21 hl (k := 3) rfl (iZ_add i 1) (by decide) rfl (fun ls hl => ?_)
        refine lv_goto (tgt := 5) hx hb dTm_sum_24 (by decide) ?_
        exact ih_2  (sm + (t_aboves_f i * (co / t_belows_f i))) (i + 1) (by omega) (by omega) (by exact sz_step (g := fun j => t_aboves_f j * (co / t_belows_f j)) hsm hi) (by omega) _ _ (hP.sub [0, 1, 2] rfl) (hD.sub [0, 1, 2] (by decide) rfl) hS ls (lv_sub hl [2, 3, 1, 0] rfl)
  exact loop_1 ((4 - 0 : Int).toNat + 1) 0 0 (by omega) (by omega) (by rfl) (by omega) _ _ (hP.sub [0, 1, 2] rfl) (hD.sub [0, 1, 2] (by decide) rfl) hS ls (lv_sub hl [2, 3, 1, 0] rfl)
