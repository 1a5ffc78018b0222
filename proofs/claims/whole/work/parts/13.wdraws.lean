set_option maxHeartbeats 4000000 in
set_option maxRecDepth 100000 in
theorem k_Draws_nextBelow (l : Launch) (D : va_G) (cI cJ cZ : ClassId) (t_a t_lists_a t_lengths_a : Nat) (sz : Nat) (t_seed : Int) (bd : Int) (h_bd1 : -2147483648 ≤ bd) (h_bd2 : bd < 2147483648) (hbd : 1 ≤ bd) : cq_i l yDr_nextBelow wsDr_nextBelow ({ frames := 0, cells := 0, slots := 0, locals := 0 }) D clAll [(cI, .int), (cJ, .long), (cZ, .boolean)] nwAll [.ref t_a, .int (iZ bd)] [(t_a, .inr (2, [.ref t_lists_a, .ref t_lengths_a, .long (lZ t_seed)]))] sz (S := Int × Int) (fun (r : Int32) (u : Int × Int) => r = iZ u.1 ∧ (u.1 = rnd t_seed bd) ∧ (u.2 = sd t_seed)) (fun (u : Int × Int) => [(t_a, .inr (2, [.ref t_lists_a, .ref t_lengths_a, .long (lZ u.2)]))]) 0 0 := by
  refine cq_enter (cc := cDr_nextBelow) (maxL := 2) (ret := some .int) (by decide) rfl (Nat.le_of_ble_eq_true rfl) ?_
  intro p e s m below meth c A args Q H hAe hQ hsz hAt hA hP hK hD hS ls hl
  obtain ⟨hx, hb, hr, hml, hown, hts, hlocks, hin⟩ := hAt
  have hown : s.vm.findClass RDr = some m.cls := hown
  have hl : lv_has ls 2 [(0, .ref t_a), (1, .int (iZ bd))] := hl
  refine lv_aload_n hx hb dDr_nextBelow_0 rfl (lv_at hl 0 rfl) ?_
  refine lv_aload_n hx hb dDr_nextBelow_1 rfl (lv_at hl 0 rfl) ?_
  refine va_get (D := D) (ci := 2) (v := .long (lZ t_seed)) (C := RDr) (T := TDr) (N := 3) hx hb hts layDr hown hK.1 hP 0 rfl rfl 2 (by decide) (hts _ (hm g118)) (fun _ h9 => h9) rfl dDr_nextBelow_2 ?_
  refine lv_ldc2 (v := lZ (6364136223846793005)) hx hb hown (hts _ (hm g278)) dDr_nextBelow_5 ?_
  refine z_lmul hx hb dDr_nextBelow_8 ?_
  refine lv_ldc2 (v := lZ (1442695040888963407)) hx hb hown (hts _ (hm g279)) dDr_nextBelow_9 ?_
  refine z_ladd hx hb dDr_nextBelow_12 ?_
  refine va_put (D := D) (ci := 2) (v := .long (lZ ((t_seed * 6364136223846793005) + 1442695040888963407))) (ty := .long) (C := RDr) (T := TDr) (N := 3) hx hb hts layDr tyDr tyDr_ok nmDr hown hK.1 hP hD hS 0 rfl rfl 2 (by decide) (hts _ (hm g118)) (fun _ h9 => h9) rfl (by decide +kernel) rfl rfl (Nat.le_of_ble_eq_true rfl) dDr_nextBelow_13 (fun H locs hP hD hS => ?_)
  have hP : va_P D clAll [(t_a, .inr (2, [.ref t_lists_a, .ref t_lengths_a, .long (lZ ((t_seed * 6364136223846793005) + 1442695040888963407))]))] H := hP
  have hD : va_D A [(t_a, .inr (2, [.ref t_lists_a, .ref t_lengths_a, .long (lZ ((t_seed * 6364136223846793005) + 1442695040888963407))]))] := hD
  refine lv_iload_n hx hb dDr_nextBelow_16 rfl (lv_at hl 1 rfl) ?_
  refine lv_iconst (v := iZ 1) hx hb dDr_nextBelow_17 (by decide) ?_
  refine z_icmp_ge (tgt := 25) hx hb (by omega) (by omega) (by omega) (by omega) dDr_nextBelow_18 (by decide) (fun c_1 => ?_) (fun c_1 => ?_)
  ·
    refine lv_aload_n hx hb dDr_nextBelow_25 rfl (lv_at hl 0 rfl) ?_
    refine va_get (D := D) (ci := 2) (v := .long (lZ ((t_seed * 6364136223846793005) + 1442695040888963407))) (C := RDr) (T := TDr) (N := 3) hx hb hts layDr hown hK.1 hP 0 rfl rfl 2 (by decide) (hts _ (hm g118)) (fun _ h9 => h9) rfl dDr_nextBelow_26 ?_
    refine lv_bipush (v := iZ (33)) hx hb dDr_nextBelow_29 (by decide) ?_
    refine z_lushr33 hx hb dDr_nextBelow_31 ?_
    refine lv_iload_n hx hb dDr_nextBelow_32 rfl (lv_at hl 1 rfl) ?_
    refine z_i2l hx hb (by omega) (by omega) dDr_nextBelow_33 ?_
    refine z_lrem hx hb (by omega) (by omega) (by omega) (by omega) dDr_nextBelow_34 ?_
    refine z_l2i hx hb dDr_nextBelow_35 ?_
    exact cq_iret hx hb hr hlocks hAe hQ ((((t_seed * 6364136223846793005) + 1442695040888963407) % 18446744073709551616 / 8589934592) % bd, (t_seed * 6364136223846793005) + 1442695040888963407) ⟨rfl, (by (try dsimp only) <;> (first | rfl | omega)), (by (try dsimp only) <;> (first | rfl | omega))⟩ (hP.sub [0] rfl) (hD.sub [0] (by decide) rfl) hS (by decide) (by decide) dDr_nextBelow_36
  ·
    refine lv_iconst (v := iZ 0) hx hb dDr_nextBelow_21 (by decide) ?_
    refine lv_goto (tgt := 36) hx hb dDr_nextBelow_22 (by decide) ?_
    exact cq_iret hx hb hr hlocks hAe hQ (0, (t_seed * 6364136223846793005) + 1442695040888963407) ⟨rfl, (by (try dsimp only) <;> (first | rfl | omega)), (by (try dsimp only) <;> (first | rfl | omega))⟩ (hP.sub [0] rfl) (hD.sub [0] (by decide) rfl) hS (by decide) (by decide) dDr_nextBelow_36
set_option maxHeartbeats 4000000 in
set_option maxRecDepth 100000 in
theorem k_Draws_swap (l : Launch) (D : va_G) (cI cJ cZ : ClassId) (t_a t_lists_a t_lengths_a : Nat) (sz : Nat) (t_seed : Int) (t_lists_f : Int → Int) (za : Int) (zb : Int) (h_za1 : -2147483648 ≤ za) (h_za2 : za < 2147483648) (h_zb1 : -2147483648 ≤ zb) (h_zb2 : zb < 2147483648) (hza : 0 ≤ za ∧ za < 400) (hzb : 0 ≤ zb ∧ zb < 400) : cq_v l yDr_swap wsDr_swap ({ frames := 0, cells := 0, slots := 0, locals := 0 }) D clAll [(cI, .int), (cJ, .long), (cZ, .boolean)] nwAll [.ref t_a, .int (iZ za), .int (iZ zb)] [(t_a, .inr (2, [.ref t_lists_a, .ref t_lengths_a, .long (lZ t_seed)])), (t_lists_a, .inl (cI, 400, .inl (aI t_lists_f)))] sz (S := (Int → Int)) (fun (u : (Int → Int)) => (u = pu (pu t_lists_f za (t_lists_f zb)) zb (t_lists_f za))) (fun (u : (Int → Int)) => [(t_a, .inr (2, [.ref t_lists_a, .ref t_lengths_a, .long (lZ t_seed)])), (t_lists_a, .inl (cI, 400, .inl (aI u)))]) 0 0 := by
  refine cq_enter (cc := cDr_swap) (maxL := 4) (ret := none) (by decide) rfl (Nat.le_of_ble_eq_true rfl) ?_
  intro p e s m below meth c A args Q H hAe hQ hsz hAt hA hP hK hD hS ls hl
  obtain ⟨hx, hb, hr, hml, hown, hts, hlocks, hin⟩ := hAt
  have hown : s.vm.findClass RDr = some m.cls := hown
  have hl : lv_has ls 4 [(0, .ref t_a), (1, .int (iZ za)), (2, .int (iZ zb))] := hl
  refine lv_aload_n hx hb dDr_swap_0 rfl (lv_at hl 0 rfl) ?_
  refine va_get (D := D) (ci := 2) (v := .ref t_lists_a) (C := RDr) (T := TDr) (N := 3) hx hb hts layDr hown hK.1 hP 0 rfl rfl 0 (by decide) (hts _ (hm g116)) (fun _ h9 => h9) rfl dDr_swap_1 ?_
  refine lv_iload_n hx hb dDr_swap_4 rfl (lv_at hl 1 rfl) ?_
  refine z_iald hx hb hK hP 1 0 rfl rfl (by omega) (by omega) (by decide) dDr_swap_5 ?_
  refine lv_istore_n (lv' := [(3, .int (iZ (t_lists_f za))), (0, .ref t_a), (1, .int (iZ za)), (2, .int (iZ zb))]) hx hb dDr_swap_6 rfl hl (by decide) rfl (fun ls hl => ?_)
  refine lv_aload_n hx hb dDr_swap_7 rfl (lv_at hl 1 rfl) ?_
  refine va_get (D := D) (ci := 2) (v := .ref t_lists_a) (C := RDr) (T := TDr) (N := 3) hx hb hts layDr hown hK.1 hP 0 rfl rfl 0 (by decide) (hts _ (hm g116)) (fun _ h9 => h9) rfl dDr_swap_8 ?_
  refine lv_iload_n hx hb dDr_swap_11 rfl (lv_at hl 2 rfl) ?_
  refine lv_aload_n hx hb dDr_swap_12 rfl (lv_at hl 1 rfl) ?_
  refine va_get (D := D) (ci := 2) (v := .ref t_lists_a) (C := RDr) (T := TDr) (N := 3) hx hb hts layDr hown hK.1 hP 0 rfl rfl 0 (by decide) (hts _ (hm g116)) (fun _ h9 => h9) rfl dDr_swap_13 ?_
  refine lv_iload_n hx hb dDr_swap_16 rfl (lv_at hl 3 rfl) ?_
  refine z_iald hx hb hK hP 1 0 rfl rfl (by omega) (by omega) (by decide) dDr_swap_17 ?_
  refine z_iast hx hb hK hP hD hS 1 0 rfl rfl (by omega) (by omega) (by decide) dDr_swap_18 (fun H locs hP hD hS => ?_)
  have hP : va_P D clAll [(t_a, .inr (2, [.ref t_lists_a, .ref t_lengths_a, .long (lZ t_seed)])), (t_lists_a, .inl (cI, 400, .inl (aI (pu t_lists_f za (t_lists_f zb)))))] H := hP
  have hD : va_D A [(t_a, .inr (2, [.ref t_lists_a, .ref t_lengths_a, .long (lZ t_seed)])), (t_lists_a, .inl (cI, 400, .inl (aI (pu t_lists_f za (t_lists_f zb)))))] := hD
  refine lv_aload_n hx hb dDr_swap_19 rfl (lv_at hl 1 rfl) ?_
  refine va_get (D := D) (ci := 2) (v := .ref t_lists_a) (C := RDr) (T := TDr) (N := 3) hx hb hts layDr hown hK.1 hP 0 rfl rfl 0 (by decide) (hts _ (hm g116)) (fun _ h9 => h9) rfl dDr_swap_20 ?_
  refine lv_iload_n hx hb dDr_swap_23 rfl (lv_at hl 3 rfl) ?_
  refine lv_iload_n hx hb dDr_swap_24 rfl (lv_at hl 0 rfl) ?_
  refine z_iast hx hb hK hP hD hS 1 0 rfl rfl (by omega) (by omega) (by decide) dDr_swap_25 (fun H locs hP hD hS => ?_)
  have hP : va_P D clAll [(t_a, .inr (2, [.ref t_lists_a, .ref t_lengths_a, .long (lZ t_seed)])), (t_lists_a, .inl (cI, 400, .inl (aI (pu (pu t_lists_f za (t_lists_f zb)) zb (t_lists_f za)))))] H := hP
  have hD : va_D A [(t_a, .inr (2, [.ref t_lists_a, .ref t_lengths_a, .long (lZ t_seed)])), (t_lists_a, .inl (cI, 400, .inl (aI (pu (pu t_lists_f za (t_lists_f zb)) zb (t_lists_f za)))))] := hD
  exact cq_vret hx hb hr hlocks hAe hQ (pu (pu t_lists_f za (t_lists_f zb)) zb (t_lists_f za)) (by (try dsimp only) <;> (first | rfl | omega | (refine Or.inl ?_; and_intros <;> first | rfl | omega) | (refine Or.inr ?_; and_intros <;> first | rfl | omega))) (hP.sub [0, 1] rfl) (hD.sub [0, 1] (by decide) rfl) hS (by decide) (by decide) dDr_swap_26
set_option maxHeartbeats 4000000 in
set_option maxRecDepth 100000 in
theorem k_Draws_taken (l : Launch) (D : va_G) (cI cJ cZ : ClassId) (t_a t_lists_a t_lengths_a : Nat) (sz : Nat) (t_seed : Int) (t_lists_f : Int → Int) (t_lengths_f : Int → Int) (z : Int) (zk : Int) (h_z1 : -2147483648 ≤ z) (h_z2 : z < 2147483648) (h_zk1 : -2147483648 ≤ zk) (h_zk2 : zk < 2147483648) (hz : 0 ≤ z ∧ z < 4) (hle : ∀ j, 0 ≤ t_lengths_f j ∧ t_lengths_f j ≤ 100) (hli : ∀ j, 0 ≤ t_lists_f j ∧ t_lists_f j ≤ 99) : cq_i l yDr_taken wsDr_taken ({ frames := 0, cells := 0, slots := 0, locals := 0 }) D clAll [(cI, .int), (cJ, .long), (cZ, .boolean)] nwAll [.ref t_a, .int (iZ z), .int (iZ zk)] [(t_a, .inr (2, [.ref t_lists_a, .ref t_lengths_a, .long (lZ t_seed)])), (t_lists_a, .inl (cI, 400, .inl (aI t_lists_f))), (t_lengths_a, .inl (cI, 4, .inl (aI t_lengths_f)))] sz (S := Int) (fun (r : Int32) (u : Int) => r = iZ u ∧ ((0 ≤ zk ∧ zk < t_lengths_f z ∧ u = t_lists_f (z * 100 + zk)) ∨ (¬ (0 ≤ zk ∧ zk < t_lengths_f z) ∧ u = -1))) (fun (u : Int) => [(t_a, .inr (2, [.ref t_lists_a, .ref t_lengths_a, .long (lZ t_seed)])), (t_lists_a, .inl (cI, 400, .inl (aI t_lists_f))), (t_lengths_a, .inl (cI, 4, .inl (aI t_lengths_f)))]) 0 0 := by
  refine cq_enter (cc := cDr_taken) (maxL := 3) (ret := some .int) (by decide) rfl (Nat.le_of_ble_eq_true rfl) ?_
  intro p e s m below meth c A args Q H hAe hQ hsz hAt hA hP hK hD hS ls hl
  obtain ⟨hx, hb, hr, hml, hown, hts, hlocks, hin⟩ := hAt
  have hown : s.vm.findClass RDr = some m.cls := hown
  have hl : lv_has ls 3 [(0, .ref t_a), (1, .int (iZ z)), (2, .int (iZ zk))] := hl
  refine lv_iload_n hx hb dDr_taken_0 rfl (lv_at hl 2 rfl) ?_
  refine z_if_lt (tgt := 28) hx hb (by omega) (by omega) dDr_taken_1 (by decide) (fun c_1 => ?_) (fun c_1 => ?_)
  ·
    refine lv_iconst (v := iZ (-1)) hx hb dDr_taken_28 (by decide) ?_
    exact cq_iret hx hb hr hlocks hAe hQ (-1) ⟨rfl, (by (try dsimp only) <;> (first | rfl | omega | (refine Or.inl ?_; and_intros <;> first | rfl | omega) | (refine Or.inr ?_; and_intros <;> first | rfl | omega)))⟩ (hP.sub [0, 1, 2] rfl) (hD.sub [0, 1, 2] (by decide) rfl) hS (by decide) (by decide) dDr_taken_29
  ·
    refine lv_iload_n hx hb dDr_taken_4 rfl (lv_at hl 2 rfl) ?_
    refine lv_aload_n hx hb dDr_taken_5 rfl (lv_at hl 0 rfl) ?_
    refine va_get (D := D) (ci := 2) (v := .ref t_lengths_a) (C := RDr) (T := TDr) (N := 3) hx hb hts layDr hown hK.1 hP 0 rfl rfl 1 (by decide) (hts _ (hm g117)) (fun _ h9 => h9) rfl dDr_taken_6 ?_
    refine lv_iload_n hx hb dDr_taken_9 rfl (lv_at hl 1 rfl) ?_
    refine z_iald hx hb hK hP 2 0 rfl rfl (by omega) (by omega) (by decide) dDr_taken_10 ?_
    have f_2 := hle z
    refine z_icmp_ge (tgt := 28) hx hb (by omega) (by omega) (by omega) (by omega) dDr_taken_11 (by decide) (fun c_3 => ?_) (fun c_3 => ?_)
    ·
      refine lv_iconst (v := iZ (-1)) hx hb dDr_taken_28 (by decide) ?_
      exact cq_iret hx hb hr hlocks hAe hQ (-1) ⟨rfl, (by (try dsimp only) <;> (first | rfl | omega | (refine Or.inl ?_; and_intros <;> first | rfl | omega) | (refine Or.inr ?_; and_intros <;> first | rfl | omega)))⟩ (hP.sub [0, 1, 2] rfl) (hD.sub [0, 1, 2] (by decide) rfl) hS (by decide) (by decide) dDr_taken_29
    ·
      refine lv_aload_n hx hb dDr_taken_14 rfl (lv_at hl 0 rfl) ?_
      refine va_get (D := D) (ci := 2) (v := .ref t_lists_a) (C := RDr) (T := TDr) (N := 3) hx hb hts layDr hown hK.1 hP 0 rfl rfl 0 (by decide) (hts _ (hm g116)) (fun _ h9 => h9) rfl dDr_taken_15 ?_
      refine lv_iload_n hx hb dDr_taken_18 rfl (lv_at hl 1 rfl) ?_
      refine lv_bipush (v := iZ (100)) hx hb dDr_taken_19 (by decide) ?_
      refine z_imul hx hb dDr_taken_21 ?_
      refine lv_iload_n hx hb dDr_taken_22 rfl (lv_at hl 2 rfl) ?_
      refine z_iadd hx hb dDr_taken_23 ?_
      refine z_iald hx hb hK hP 1 0 rfl rfl (by omega) (by omega) (by decide) dDr_taken_24 ?_
      have f_4 := hli ((z * 100) + zk)
      refine lv_goto (tgt := 29) hx hb dDr_taken_25 (by decide) ?_
      exact cq_iret hx hb hr hlocks hAe hQ (t_lists_f ((z * 100) + zk)) ⟨rfl, (by (try dsimp only) <;> (first | rfl | omega | (refine Or.inl ?_; and_intros <;> first | rfl | omega) | (refine Or.inr ?_; and_intros <;> first | rfl | omega)))⟩ (hP.sub [0, 1, 2] rfl) (hD.sub [0, 1, 2] (by decide) rfl) hS (by decide) (by decide) dDr_taken_29
set_option maxHeartbeats 4000000 in
set_option maxRecDepth 100000 in
theorem k_Draws_take (l : Launch) (D : va_G) (cI cJ cZ : ClassId) (t_a t_lists_a t_lengths_a : Nat) (sz : Nat) (t_seed : Int) (t_lists_f : Int → Int) (t_lengths_f : Int → Int) (z : Int) (size : Int) (n : Int) (h_z1 : -2147483648 ≤ z) (h_z2 : z < 2147483648) (h_size1 : -2147483648 ≤ size) (h_size2 : size < 2147483648) (h_n1 : -2147483648 ≤ n) (h_n2 : n < 2147483648) (hz : 0 ≤ z ∧ z < 4) (hs : 1 ≤ size ∧ size ≤ 100) (hli : ∀ j, 0 ≤ t_lists_f j ∧ t_lists_f j ≤ 99) : cq_i l yDr_take wsDr_take ({ frames := 1, cells := 0, slots := 0, locals := 23 }) D clAll [(cI, .int), (cJ, .long), (cZ, .boolean)] nwAll [.ref t_a, .int (iZ z), .int (iZ size), .int (iZ n)] [(t_a, .inr (2, [.ref t_lists_a, .ref t_lengths_a, .long (lZ t_seed)])), (t_lists_a, .inl (cI, 400, .inl (aI t_lists_f))), (t_lengths_a, .inl (cI, 4, .inl (aI t_lengths_f)))] sz (S := Int × Int × (Int → Int) × (Int → Int)) (fun (r : Int32) (u : Int × Int × (Int → Int) × (Int → Int)) => r = iZ u.1 ∧ (((0 ≤ n ∧ n ≤ size) ∧ u.1 = n ∧ (u.2.2.1, u.2.1) = drN (z * 100) size n.toNat (ini t_lists_f (z * 100) size, t_seed) ∧ u.2.2.2 = pu t_lengths_f z n) ∨ (¬ (0 ≤ n ∧ n ≤ size) ∧ u.1 = -1 ∧ (u.2.2.1, u.2.1) = (t_lists_f, t_seed) ∧ u.2.2.2 = t_lengths_f)) ∧ (∀ j, 0 ≤ u.2.2.1 j ∧ u.2.2.1 j ≤ 99)) (fun (u : Int × Int × (Int → Int) × (Int → Int)) => [(t_a, .inr (2, [.ref t_lists_a, .ref t_lengths_a, .long (lZ u.2.1)])), (t_lists_a, .inl (cI, 400, .inl (aI u.2.2.1))), (t_lengths_a, .inl (cI, 4, .inl (aI u.2.2.2)))]) 0 0 := by
  refine cq_enter (cc := cDr_take) (maxL := 6) (ret := some .int) (by decide) rfl (Nat.le_of_ble_eq_true rfl) ?_
  intro p e s m below meth c A args Q H hAe hQ hsz hAt hA hP hK hD hS ls hl
  obtain ⟨hx, hb, hr, hml, hown, hts, hlocks, hin⟩ := hAt
  have hown : s.vm.findClass RDr = some m.cls := hown
  have hl : lv_has ls 6 [(0, .ref t_a), (1, .int (iZ z)), (2, .int (iZ size)), (3, .int (iZ n))] := hl
  refine lv_iload_n hx hb dDr_take_0 rfl (lv_at hl 3 rfl) ?_
  refine z_if_lt (tgt := 9) hx hb (by omega) (by omega) dDr_take_1 (by decide) (fun c_1 => ?_) (fun c_1 => ?_)
  ·
    refine lv_iconst (v := iZ (-1)) hx hb dDr_take_9 (by decide) ?_
    exact cq_iret hx hb hr hlocks hAe hQ (-1, t_seed, t_lists_f, t_lengths_f) ⟨rfl, (by (try dsimp only) <;> (first | exact Or.inl ⟨by omega, by omega, dr_end hdr (by omega), rfl⟩ | exact Or.inr ⟨by omega, by omega, rfl, rfl⟩)), (by (try dsimp only) <;> (first | exact hlr | exact hli))⟩ (hP.sub [0, 1, 2] rfl) (hD.sub [0, 1, 2] (by decide) rfl) hS (by decide) (by decide) dDr_take_10
  ·
    refine lv_iload_n hx hb dDr_take_4 rfl (lv_at hl 3 rfl) ?_
    refine lv_iload_n hx hb dDr_take_5 rfl (lv_at hl 2 rfl) ?_
    refine z_icmp_le (tgt := 11) hx hb (by omega) (by omega) (by omega) (by omega) dDr_take_6 (by decide) (fun c_2 => ?_) (fun c_2 => ?_)
    ·
      refine lv_iload_n hx hb dDr_take_11 rfl (lv_at hl 1 rfl) ?_
      refine lv_bipush (v := iZ (100)) hx hb dDr_take_12 (by decide) ?_
      refine z_imul hx hb dDr_take_14 ?_
      refine lv_istore (lv' := [(4, .int (iZ (z * 100))), (0, .ref t_a), (1, .int (iZ z)), (2, .int (iZ size)), (3, .int (iZ n))]) hx hb dDr_take_15 hl (by decide) rfl (fun ls hl => ?_)
      refine lv_iconst (v := iZ 0) hx hb dDr_take_17 (by decide) ?_
      refine lv_istore (lv' := [(5, .int (iZ 0)), (4, .int (iZ (z * 100))), (0, .ref t_a), (1, .int (iZ z)), (2, .int (iZ size)), (3, .int (iZ n))]) hx hb dDr_take_18 hl (by decide) rfl (fun ls hl => ?_)
      have loop_3 : ∀ (n_5 : Nat) (i : Int) (lists : Int → Int), (0 ≤ i) → (i ≤ size) → (lists = ini t_lists_f (z * 100) i) → (∀ j, 0 ≤ lists j ∧ lists j ≤ 99) → (size - i < (n_5 : Int)) → ∀ (H : Heap) (locs : List Loc), va_P D clAll [(t_a, .inr (2, [.ref t_lists_a, .ref t_lengths_a, .long (lZ t_seed)])), (t_lists_a, .inl (cI, 400, .inl (aI lists))), (t_lengths_a, .inl (cI, 4, .inl (aI t_lengths_f)))] H → va_D A [(t_a, .inr (2, [.ref t_lists_a, .ref t_lengths_a, .long (lZ t_seed)])), (t_lists_a, .inl (cI, 400, .inl (aI lists))), (t_lengths_a, .inl (cI, 4, .inl (aI t_lengths_f)))] → va_S A s.heap H locs → ∀ ls : Array Slot, lv_has ls 6 [(0, .ref t_a), (1, .int (iZ z)), (2, .int (iZ size)), (3, .int (iZ n)), (4, .int (iZ (z * 100))), (5, .int (iZ i))] → W p l e { frames := 1, cells := 0, slots := 0, locals := 23 } s m args below meth c H locs 0 0 Q (F0 m 20 ls []) := by
        intro n_5
        induction n_5 with
        | zero => intro i lists hi hi2 hin0 hlr hm_6; exact absurd hm_6 (by omega)
        | succ n_5 ih_4 =>
          intro i lists hi hi2 hin0 hlr hm_6 H locs hP hD hS ls hl
          refine lv_iload hx hb dDr_take_20 (lv_at hl 5 rfl) ?_
          refine lv_iload_n hx hb dDr_take_22 rfl (lv_at hl 2 rfl) ?_
          refine z_icmp_ge (tgt := 44) hx hb (by omega) (by omega) (by omega) (by omega) dDr_take_23 (by decide) (fun c_7 => ?_) (fun c_7 => ?_)
          ·
            refine lv_iconst (v := iZ 0) hx hb dDr_take_44 (by decide) ?_
            refine lv_istore (lv' := [(5, .int (iZ 0)), (0, .ref t_a), (1, .int (iZ z)), (2, .int (iZ size)), (3, .int (iZ n)), (4, .int (iZ (z * 100)))]) hx hb dDr_take_45 hl (by decide) rfl (fun ls hl => ?_)
            have loop_8 : ∀ (n_10 : Nat) (i : Int) (lists : Int → Int) (seed : Int), (0 ≤ i) → (i ≤ n) → ((lists, seed) = drN (z * 100) size i.toNat (ini t_lists_f (z * 100) size, t_seed)) → (∀ j, 0 ≤ lists j ∧ lists j ≤ 99) → (n - i < (n_10 : Int)) → ∀ (H : Heap) (locs : List Loc), va_P D clAll [(t_a, .inr (2, [.ref t_lists_a, .ref t_lengths_a, .long (lZ seed)])), (t_lists_a, .inl (cI, 400, .inl (aI lists))), (t_lengths_a, .inl (cI, 4, .inl (aI t_lengths_f)))] H → va_D A [(t_a, .inr (2, [.ref t_lists_a, .ref t_lengths_a, .long (lZ seed)])), (t_lists_a, .inl (cI, 400, .inl (aI lists))), (t_lengths_a, .inl (cI, 4, .inl (aI t_lengths_f)))] → va_S A s.heap H locs → ∀ ls : Array Slot, lv_has ls 6 [(0, .ref t_a), (1, .int (iZ z)), (2, .int (iZ size)), (3, .int (iZ n)), (4, .int (iZ (z * 100))), (5, .int (iZ i))] → W p l e { frames := 1, cells := 0, slots := 0, locals := 23 } s m args below meth c H locs 0 0 Q (F0 m 47 ls []) := by
              intro n_10
              induction n_10 with
              | zero => intro i lists seed hi hi2 hdr hlr hm_11; exact absurd hm_11 (by omega)
              | succ n_10 ih_9 =>
                intro i lists seed hi hi2 hdr hlr hm_11 H locs hP hD hS ls hl
                refine lv_iload hx hb dDr_take_47 (lv_at hl 5 rfl) ?_
                refine lv_iload_n hx hb dDr_take_49 rfl (lv_at hl 3 rfl) ?_
                refine z_icmp_ge (tgt := 88) hx hb (by omega) (by omega) (by omega) (by omega) dDr_take_50 (by decide) (fun c_12 => ?_) (fun c_12 => ?_)
                ·
                  refine lv_aload_n hx hb dDr_take_88 rfl (lv_at hl 0 rfl) ?_
                  refine va_get (D := D) (ci := 2) (v := .ref t_lengths_a) (C := RDr) (T := TDr) (N := 3) hx hb hts layDr hown hK.1 hP 0 rfl rfl 1 (by decide) (hts _ (hm g117)) (fun _ h9 => h9) rfl dDr_take_89 ?_
                  refine lv_iload_n hx hb dDr_take_92 rfl (lv_at hl 1 rfl) ?_
                  refine lv_iload_n hx hb dDr_take_93 rfl (lv_at hl 3 rfl) ?_
                  refine z_iast hx hb hK hP hD hS 2 0 rfl rfl (by omega) (by omega) (by decide) dDr_take_94 (fun H locs hP hD hS => ?_)
                  have hP : va_P D clAll [(t_a, .inr (2, [.ref t_lists_a, .ref t_lengths_a, .long (lZ seed)])), (t_lists_a, .inl (cI, 400, .inl (aI lists))), (t_lengths_a, .inl (cI, 4, .inl (aI (pu t_lengths_f z n))))] H := hP
                  have hD : va_D A [(t_a, .inr (2, [.ref t_lists_a, .ref t_lengths_a, .long (lZ seed)])), (t_lists_a, .inl (cI, 400, .inl (aI lists))), (t_lengths_a, .inl (cI, 4, .inl (aI (pu t_lengths_f z n))))] := hD
                  refine lv_iload_n hx hb dDr_take_95 rfl (lv_at hl 3 rfl) ?_
                  exact cq_iret hx hb hr hlocks hAe hQ (n, seed, lists, (pu t_lengths_f z n)) ⟨rfl, (by (try dsimp only) <;> (first | exact Or.inl ⟨by omega, by omega, dr_end hdr (by omega), rfl⟩ | exact Or.inr ⟨by omega, by omega, rfl, rfl⟩)), (by (try dsimp only) <;> (first | exact hlr | exact hli))⟩ (hP.sub [0, 1, 2] rfl) (hD.sub [0, 1, 2] (by decide) rfl) hS (by decide) (by decide) dDr_take_96
                ·
                  refine lv_iload hx hb dDr_take_53 (lv_at hl 5 rfl) ?_
                  refine lv_iload_n hx hb dDr_take_55 rfl (lv_at hl 2 rfl) ?_
                  refine z_icmp_ge (tgt := 88) hx hb (by omega) (by omega) (by omega) (by omega) dDr_take_56 (by decide) (fun c_13 => ?_) (fun c_13 => ?_)
                  ·
                    refine lv_aload_n hx hb dDr_take_88 rfl (lv_at hl 0 rfl) ?_
                    refine va_get (D := D) (ci := 2) (v := .ref t_lengths_a) (C := RDr) (T := TDr) (N := 3) hx hb hts layDr hown hK.1 hP 0 rfl rfl 1 (by decide) (hts _ (hm g117)) (fun _ h9 => h9) rfl dDr_take_89 ?_
                    refine lv_iload_n hx hb dDr_take_92 rfl (lv_at hl 1 rfl) ?_
                    refine lv_iload_n hx hb dDr_take_93 rfl (lv_at hl 3 rfl) ?_
                    refine z_iast hx hb hK hP hD hS 2 0 rfl rfl (by omega) (by omega) (by decide) dDr_take_94 (fun H locs hP hD hS => ?_)
                    have hP : va_P D clAll [(t_a, .inr (2, [.ref t_lists_a, .ref t_lengths_a, .long (lZ seed)])), (t_lists_a, .inl (cI, 400, .inl (aI lists))), (t_lengths_a, .inl (cI, 4, .inl (aI (pu t_lengths_f z n))))] H := hP
                    have hD : va_D A [(t_a, .inr (2, [.ref t_lists_a, .ref t_lengths_a, .long (lZ seed)])), (t_lists_a, .inl (cI, 400, .inl (aI lists))), (t_lengths_a, .inl (cI, 4, .inl (aI (pu t_lengths_f z n))))] := hD
                    refine lv_iload_n hx hb dDr_take_95 rfl (lv_at hl 3 rfl) ?_
                    exact cq_iret hx hb hr hlocks hAe hQ (n, seed, lists, (pu t_lengths_f z n)) ⟨rfl, (by (try dsimp only) <;> (first | exact Or.inl ⟨by omega, by omega, dr_end hdr (by omega), rfl⟩ | exact Or.inr ⟨by omega, by omega, rfl, rfl⟩)), (by (try dsimp only) <;> (first | exact hlr | exact hli))⟩ (hP.sub [0, 1, 2] rfl) (hD.sub [0, 1, 2] (by decide) rfl) hS (by decide) (by decide) dDr_take_96
                  ·
                    refine lv_aload_n hx hb dDr_take_59 rfl (lv_at hl 0 rfl) ?_
                    refine lv_iload hx hb dDr_take_60 (lv_at hl 4 rfl) ?_
                    refine lv_iload hx hb dDr_take_62 (lv_at hl 5 rfl) ?_
                    refine z_iadd hx hb dDr_take_64 ?_
                    refine lv_iload hx hb dDr_take_65 (lv_at hl 4 rfl) ?_
                    refine lv_iload hx hb dDr_take_67 (lv_at hl 5 rfl) ?_
                    refine z_iadd hx hb dDr_take_69 ?_
                    refine lv_aload_n hx hb dDr_take_70 rfl (lv_at hl 0 rfl) ?_
                    refine lv_iload_n hx hb dDr_take_71 rfl (lv_at hl 2 rfl) ?_
                    refine lv_iload hx hb dDr_take_72 (lv_at hl 5 rfl) ?_
                    refine z_isub hx hb dDr_take_74 ?_
                    refine cq_calli (wr := [(t_lists_a, .inl (cI, 400, .inl (aI lists))), (t_lengths_a, .inl (cI, 4, .inl (aI t_lengths_f)))]) (va_runV (C := RDr) (As := [.int (iZ (size - i))]) (rest := [.int (iZ ((z * 100) + i)), .int (iZ ((z * 100) + i)), .ref t_a]) ⟨hx, hb, hml, hown, hts⟩ (k_Draws_nextBelow l D cI cJ cZ t_a t_lists_a t_lengths_a H.size seed (size - i) (by omega) (by omega) (by first | assumption | omega)) ⟨(callB_of 1 hts (gAll cmDr_nextBelow) rfl rfl rfl (hts _ (hm g61)) (hts _ (hm g275)) (by decide +kernel) ⟨Nat.le_of_ble_eq_true rfl, Nat.le_of_ble_eq_true rfl⟩), (hts _ (hm g276)), (hts _ (hm g10))⟩ (cq_preV (va_recv hK.1 hP (ci := 2) (q0 := 0) rfl rfl) (cq_preS hK hP hD [0] (by decide) rfl)) rfl rfl hl.1 rfl (lv_room (Nat.le_of_ble_eq_true rfl)) dDr_take_75 ⟨by decide, by decide⟩) hP hD hS hA [0] [1, 2] rfl rfl (by decide) (by decide) (fun r u H locs hw_14 hP hD hS => ?_)
                    obtain ⟨o_15, o_16⟩ := u
                    try dsimp only at hw_14
                    obtain ⟨rfl, rfl, rfl⟩ := hw_14
                    have hP : va_P D clAll [(t_lists_a, .inl (cI, 400, .inl (aI lists))), (t_lengths_a, .inl (cI, 4, .inl (aI t_lengths_f))), (t_a, .inr (2, [.ref t_lists_a, .ref t_lengths_a, .long (lZ (sd seed))]))] H := hP
                    have hD : va_D A [(t_lists_a, .inl (cI, 400, .inl (aI lists))), (t_lengths_a, .inl (cI, 4, .inl (aI t_lengths_f))), (t_a, .inr (2, [.ref t_lists_a, .ref t_lengths_a, .long (lZ (sd seed))]))] := hD
                    have hrn := rnd_b seed (size - i) (by omega)
                    refine z_iadd hx hb dDr_take_78 ?_
                    refine cq_callv (wr := [(t_lengths_a, .inl (cI, 4, .inl (aI t_lengths_f)))]) (va_runV (C := RDr) (As := [.int (iZ ((z * 100) + i)), .int (iZ (((z * 100) + i) + (rnd seed (size - i))))]) (rest := []) ⟨hx, hb, hml, hown, hts⟩ (k_Draws_swap l D cI cJ cZ t_a t_lists_a t_lengths_a H.size (sd seed) lists ((z * 100) + i) (((z * 100) + i) + (rnd seed (size - i))) (by omega) (by omega) (by omega) (by omega) (by first | assumption | omega) (by first | assumption | omega)) ⟨(callB_of 2 hts (gAll cmDr_swap) rfl rfl rfl (hts _ (hm g61)) (hts _ (hm g280)) (by decide +kernel) ⟨Nat.le_of_ble_eq_true rfl, Nat.le_of_ble_eq_true rfl⟩), (hts _ (hm g281)), (hts _ (hm g11))⟩ (cq_preV (va_recv hK.1 hP (ci := 2) (q0 := 2) rfl rfl) (cq_preS hK hP hD [2, 0] (by decide) rfl)) rfl rfl hl.1 rfl (lv_room (Nat.le_of_ble_eq_true rfl)) dDr_take_79 ⟨by decide, by decide⟩) hP hD hS hA [2, 0] [1] rfl rfl (by decide) (by decide) (fun u H locs hw_17 hP hD hS => ?_)
                    obtain ⟨o_18, rfl⟩ : ∃ z, z = u := ⟨_, rfl⟩
                    try dsimp only at hw_17
                    obtain rfl := hw_17
                    have hP : va_P D clAll [(t_lengths_a, .inl (cI, 4, .inl (aI t_lengths_f))), (t_a, .inr (2, [.ref t_lists_a, .ref t_lengths_a, .long (lZ (sd seed))])), (t_lists_a, .inl (cI, 400, .inl (aI (pu (pu lists ((z * 100) + i) (lists (((z * 100) + i) + (rnd seed (size - i))))) (((z * 100) + i) + (rnd seed (size - i))) (lists ((z * 100) + i))))))] H := hP
                    have hD : va_D A [(t_lengths_a, .inl (cI, 4, .inl (aI t_lengths_f))), (t_a, .inr (2, [.ref t_lists_a, .ref t_lengths_a, .long (lZ (sd seed))])), (t_lists_a, .inl (cI, 400, .inl (aI (pu (pu lists ((z * 100) + i) (lists (((z * 100) + i) + (rnd seed (size - i))))) (((z * 100) + i) + (rnd seed (size - i))) (lists ((z * 100) + i))))))] := hD
                    refine lv_iinc (v := iZ (i + 1)) (lv' := [(5, .int (iZ (i + 1))), (0, .ref t_a), (1, .int (iZ z)), (2, .int (iZ size)), (3, .int (iZ n)), (4, .int (iZ (z * 100)))]) hx hb dDr_take_82 hl (k := 5) rfl (iZ_add i 1) (by decide) rfl (fun ls hl => ?_)
                    refine lv_goto (tgt := 47) hx hb dDr_take_85 (by decide) ?_
                    exact ih_9  (i + 1) (pu (pu lists ((z * 100) + i) (lists (((z * 100) + i) + (rnd seed (size - i))))) (((z * 100) + i) + (rnd seed (size - i))) (lists ((z * 100) + i))) (sd seed) (by omega) (by omega) (by exact dr_s hdr hi) (by exact pu_all (pu_all hlr (hlr _).1 (hlr _).2) (hlr _).1 (hlr _).2) (by omega) _ _ (hP.sub [1, 2, 0] rfl) (hD.sub [1, 2, 0] (by decide) rfl) hS ls (lv_sub hl [1, 2, 3, 4, 5, 0] rfl)
            exact loop_8 ((n - 0 : Int).toNat + 1) 0 lists t_seed (by omega) (by omega) (by exact ini_d hin0 (by omega)) (by exact hlr) (by omega) _ _ (hP.sub [0, 1, 2] rfl) (hD.sub [0, 1, 2] (by decide) rfl) hS ls (lv_sub hl [1, 2, 3, 4, 5, 0] rfl)
          ·
            refine lv_aload_n hx hb dDr_take_26 rfl (lv_at hl 0 rfl) ?_
            refine va_get (D := D) (ci := 2) (v := .ref t_lists_a) (C := RDr) (T := TDr) (N := 3) hx hb hts layDr hown hK.1 hP 0 rfl rfl 0 (by decide) (hts _ (hm g116)) (fun _ h9 => h9) rfl dDr_take_27 ?_
            refine lv_iload hx hb dDr_take_30 (lv_at hl 4 rfl) ?_
            refine lv_iload hx hb dDr_take_32 (lv_at hl 5 rfl) ?_
            refine z_iadd hx hb dDr_take_34 ?_
            refine lv_iload hx hb dDr_take_35 (lv_at hl 5 rfl) ?_
            refine z_iast hx hb hK hP hD hS 1 0 rfl rfl (by omega) (by omega) (by decide) dDr_take_37 (fun H locs hP hD hS => ?_)
            have hP : va_P D clAll [(t_a, .inr (2, [.ref t_lists_a, .ref t_lengths_a, .long (lZ t_seed)])), (t_lists_a, .inl (cI, 400, .inl (aI (pu lists ((z * 100) + i) i)))), (t_lengths_a, .inl (cI, 4, .inl (aI t_lengths_f)))] H := hP
            have hD : va_D A [(t_a, .inr (2, [.ref t_lists_a, .ref t_lengths_a, .long (lZ t_seed)])), (t_lists_a, .inl (cI, 400, .inl (aI (pu lists ((z * 100) + i) i)))), (t_lengths_a, .inl (cI, 4, .inl (aI t_lengths_f)))] := hD
            refine lv_iinc (v := iZ (i + 1)) (lv' := [(5, .int (iZ (i + 1))), (0, .ref t_a), (1, .int (iZ z)), (2, .int (iZ size)), (3, .int (iZ n)), (4, .int (iZ (z * 100)))]) hx hb dDr_take_38 hl (k := 5) rfl (iZ_add i 1) (by decide) rfl (fun ls hl => ?_)
            refine lv_goto (tgt := 20) hx hb dDr_take_41 (by decide) ?_
            exact ih_4  (i + 1) (pu lists ((z * 100) + i) i) (by omega) (by omega) (by exact ini_s hin0 hi) (by exact pu_all hlr (by omega) (by omega)) (by omega) _ _ (hP.sub [0, 1, 2] rfl) (hD.sub [0, 1, 2] (by decide) rfl) hS ls (lv_sub hl [1, 2, 3, 4, 5, 0] rfl)
      exact loop_3 ((size - 0 : Int).toNat + 1) 0 t_lists_f (by omega) (by omega) (by exact ini_0) (by exact hli) (by omega) _ _ (hP.sub [0, 1, 2] rfl) (hD.sub [0, 1, 2] (by decide) rfl) hS ls (lv_sub hl [2, 3, 4, 5, 1, 0] rfl)
    ·
      refine lv_iconst (v := iZ (-1)) hx hb dDr_take_9 (by decide) ?_
      exact cq_iret hx hb hr hlocks hAe hQ (-1, t_seed, t_lists_f, t_lengths_f) ⟨rfl, (by (try dsimp only) <;> (first | exact Or.inl ⟨by omega, by omega, dr_end hdr (by omega), rfl⟩ | exact Or.inr ⟨by omega, by omega, rfl, rfl⟩)), (by (try dsimp only) <;> (first | exact hlr | exact hli))⟩ (hP.sub [0, 1, 2] rfl) (hD.sub [0, 1, 2] (by decide) rfl) hS (by decide) (by decide) dDr_take_10
