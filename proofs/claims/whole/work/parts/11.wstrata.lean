set_option maxHeartbeats 4000000 in
set_option maxRecDepth 100000 in
theorem k_Strata_has (l : Launch) (D : va_G) (cI cJ cZ : ClassId) (t_a t_sizes_a t_costs_a t_gone_a : Nat) (sz : Nat) (t_made : Int) (z : Int) (h_z1 : -2147483648 ≤ z) (h_z2 : z < 2147483648) (hn1 : 0 ≤ t_made) (hn2 : t_made ≤ 4) : cq_i l ySt_has wsSt_has ({ frames := 0, cells := 0, slots := 0, locals := 0 }) D clAll [(cI, .int), (cJ, .long), (cZ, .boolean)] nwAll [.ref t_a, .int (iZ z)] [(t_a, .inr (6, [.ref t_sizes_a, .ref t_costs_a, .ref t_gone_a, .int (iZ t_made)]))] sz (S := Int) (fun (r : Int32) (u : Int) => r = iZ u ∧ ((u = 1 ∧ 0 ≤ z ∧ z < t_made) ∨ (u = 0 ∧ (z < 0 ∨ t_made ≤ z)))) (fun (u : Int) => [(t_a, .inr (6, [.ref t_sizes_a, .ref t_costs_a, .ref t_gone_a, .int (iZ t_made)]))]) 0 0 := by
  refine cq_enter (cc := cSt_has) (maxL := 2) (ret := some .boolean) (by decide) rfl (Nat.le_of_ble_eq_true rfl) ?_
  intro p e s m below meth c A args Q H hAe hQ hsz hAt hA hP hK hD hS ls hl
  obtain ⟨hx, hb, hr, hml, hown, hts, hlocks, hin⟩ := hAt
  have hown : s.vm.findClass RSt = some m.cls := hown
  have hl : lv_has ls 2 [(0, .ref t_a), (1, .int (iZ z))] := hl
  refine lv_iload_n hx hb dSt_has_0 rfl (lv_at hl 1 rfl) ?_
  refine z_if_lt (tgt := 16) hx hb (by omega) (by omega) dSt_has_1 (by decide) (fun c_1 => ?_) (fun c_1 => ?_)
  ·
    refine lv_iconst (v := iZ 0) hx hb dSt_has_16 (by decide) ?_
    exact cq_zret hx hb hr hlocks hAe hQ (bo_narr (by omega) (by omega)) 0 ⟨rfl, (by (try dsimp only) <;> (first | rfl | omega | (refine Or.inl ?_; and_intros <;> first | rfl | omega) | (refine Or.inr ?_; and_intros <;> first | rfl | omega)))⟩ (hP.sub [0] rfl) (hD.sub [0] (by decide) rfl) hS (by decide) (by decide) dSt_has_17
  ·
    refine lv_iload_n hx hb dSt_has_4 rfl (lv_at hl 1 rfl) ?_
    refine lv_aload_n hx hb dSt_has_5 rfl (lv_at hl 0 rfl) ?_
    refine va_get (D := D) (ci := 6) (v := .int (iZ t_made)) (C := RSt) (T := TSt) (N := 4) hx hb hts laySt hown hK.1 hP 0 rfl rfl 3 (by decide) (hts _ (hm g88)) (fun _ h9 => h9) rfl dSt_has_6 ?_
    refine z_icmp_ge (tgt := 16) hx hb (by omega) (by omega) (by omega) (by omega) dSt_has_9 (by decide) (fun c_2 => ?_) (fun c_2 => ?_)
    ·
      refine lv_iconst (v := iZ 0) hx hb dSt_has_16 (by decide) ?_
      exact cq_zret hx hb hr hlocks hAe hQ (bo_narr (by omega) (by omega)) 0 ⟨rfl, (by (try dsimp only) <;> (first | rfl | omega | (refine Or.inl ?_; and_intros <;> first | rfl | omega) | (refine Or.inr ?_; and_intros <;> first | rfl | omega)))⟩ (hP.sub [0] rfl) (hD.sub [0] (by decide) rfl) hS (by decide) (by decide) dSt_has_17
    ·
      refine lv_iconst (v := iZ 1) hx hb dSt_has_12 (by decide) ?_
      refine lv_goto (tgt := 17) hx hb dSt_has_13 (by decide) ?_
      exact cq_zret hx hb hr hlocks hAe hQ (bo_narr (by omega) (by omega)) 1 ⟨rfl, (by (try dsimp only) <;> (first | rfl | omega | (refine Or.inl ?_; and_intros <;> first | rfl | omega) | (refine Or.inr ?_; and_intros <;> first | rfl | omega)))⟩ (hP.sub [0] rfl) (hD.sub [0] (by decide) rfl) hS (by decide) (by decide) dSt_has_17
set_option maxHeartbeats 4000000 in
set_option maxRecDepth 100000 in
theorem k_Strata_stands (l : Launch) (D : va_G) (cI cJ cZ : ClassId) (t_a t_sizes_a t_costs_a t_gone_a : Nat) (sz : Nat) (t_made : Int) (t_gone_f : Int → Int) (z : Int) (h_z1 : -2147483648 ≤ z) (h_z2 : z < 2147483648) (hn1 : 0 ≤ t_made) (hn2 : t_made ≤ 4) (hgo : ∀ j, 0 ≤ t_gone_f j ∧ t_gone_f j ≤ 1) : cq_i l ySt_stands wsSt_stands ({ frames := 1, cells := 0, slots := 0, locals := 21 }) D clAll [(cI, .int), (cJ, .long), (cZ, .boolean)] nwAll [.ref t_a, .int (iZ z)] [(t_a, .inr (6, [.ref t_sizes_a, .ref t_costs_a, .ref t_gone_a, .int (iZ t_made)])), (t_gone_a, .inl (cZ, 4, .inl (aI t_gone_f)))] sz (S := Int) (fun (r : Int32) (u : Int) => r = iZ u ∧ ((u = 1 ∧ 0 ≤ z ∧ z < t_made ∧ t_gone_f z = 0) ∨ (u = 0 ∧ ¬ (0 ≤ z ∧ z < t_made ∧ t_gone_f z = 0)))) (fun (u : Int) => [(t_a, .inr (6, [.ref t_sizes_a, .ref t_costs_a, .ref t_gone_a, .int (iZ t_made)])), (t_gone_a, .inl (cZ, 4, .inl (aI t_gone_f)))]) 0 0 := by
  refine cq_enter (cc := cSt_stands) (maxL := 2) (ret := some .boolean) (by decide) rfl (Nat.le_of_ble_eq_true rfl) ?_
  intro p e s m below meth c A args Q H hAe hQ hsz hAt hA hP hK hD hS ls hl
  obtain ⟨hx, hb, hr, hml, hown, hts, hlocks, hin⟩ := hAt
  have hown : s.vm.findClass RSt = some m.cls := hown
  have hl : lv_has ls 2 [(0, .ref t_a), (1, .int (iZ z))] := hl
  refine lv_aload_n hx hb dSt_stands_0 rfl (lv_at hl 0 rfl) ?_
  refine lv_iload_n hx hb dSt_stands_1 rfl (lv_at hl 1 rfl) ?_
  refine cq_calli (wr := [(t_gone_a, .inl (cZ, 4, .inl (aI t_gone_f)))]) (va_runV (C := RSt) (As := [.int (iZ z)]) (rest := []) ⟨hx, hb, hml, hown, hts⟩ (k_Strata_has l D cI cJ cZ t_a t_sizes_a t_costs_a t_gone_a H.size t_made z (by omega) (by omega) (by first | assumption | omega) (by first | assumption | omega)) ⟨(callB_of 1 hts (gAll cmSt_has) rfl rfl rfl (hts _ (hm g59)) (hts _ (hm g233)) (by decide +kernel) ⟨Nat.le_of_ble_eq_true rfl, Nat.le_of_ble_eq_true rfl⟩), (hts _ (hm g234)), (hts _ (hm g3))⟩ (cq_preV (va_recv hK.1 hP (ci := 6) (q0 := 0) rfl rfl) (cq_preS hK hP hD [0] (by decide) rfl)) rfl rfl hl.1 rfl (lv_room (Nat.le_of_ble_eq_true rfl)) dSt_stands_2 ⟨by decide, by decide⟩) hP hD hS hA [0] [1] rfl rfl (by decide) (by decide) (fun r u H locs hw_1 hP hD hS => ?_)
  obtain ⟨o_2, rfl⟩ : ∃ z, z = u := ⟨_, rfl⟩
  try dsimp only at hw_1
  obtain ⟨rfl, p_3⟩ := hw_1
  have hP : va_P D clAll [(t_gone_a, .inl (cZ, 4, .inl (aI t_gone_f))), (t_a, .inr (6, [.ref t_sizes_a, .ref t_costs_a, .ref t_gone_a, .int (iZ t_made)]))] H := hP
  have hD : va_D A [(t_gone_a, .inl (cZ, 4, .inl (aI t_gone_f))), (t_a, .inr (6, [.ref t_sizes_a, .ref t_costs_a, .ref t_gone_a, .int (iZ t_made)]))] := hD
  refine z_if_eq (tgt := 21) hx hb (by omega) (by omega) dSt_stands_5 (by decide) (fun c_4 => ?_) (fun c_4 => ?_)
  ·
    refine lv_iconst (v := iZ 0) hx hb dSt_stands_21 (by decide) ?_
    exact cq_zret hx hb hr hlocks hAe hQ (bo_narr (by omega) (by omega)) 0 ⟨rfl, (by (try dsimp only) <;> (first | rfl | omega | (refine Or.inl ?_; and_intros <;> first | rfl | omega) | (refine Or.inr ?_; and_intros <;> first | rfl | omega)))⟩ (hP.sub [1, 0] rfl) (hD.sub [1, 0] (by decide) rfl) hS (by decide) (by decide) dSt_stands_22
  ·
    refine lv_aload_n hx hb dSt_stands_8 rfl (lv_at hl 0 rfl) ?_
    refine va_get (D := D) (ci := 6) (v := .ref t_gone_a) (C := RSt) (T := TSt) (N := 4) hx hb hts laySt hown hK.1 hP 1 rfl rfl 2 (by decide) (hts _ (hm g87)) (fun _ h9 => h9) rfl dSt_stands_9 ?_
    refine lv_iload_n hx hb dSt_stands_12 rfl (lv_at hl 1 rfl) ?_
    refine z_zald hx hb hK hP 0 2 rfl rfl (by omega) (by omega) (by decide) dSt_stands_13 ?_
    have f_5 := hgo z
    refine z_if_ne (tgt := 21) hx hb (by omega) (by omega) dSt_stands_14 (by decide) (fun c_6 => ?_) (fun c_6 => ?_)
    ·
      refine lv_iconst (v := iZ 0) hx hb dSt_stands_21 (by decide) ?_
      exact cq_zret hx hb hr hlocks hAe hQ (bo_narr (by omega) (by omega)) 0 ⟨rfl, (by (try dsimp only) <;> (first | rfl | omega | (refine Or.inl ?_; and_intros <;> first | rfl | omega) | (refine Or.inr ?_; and_intros <;> first | rfl | omega)))⟩ (hP.sub [1, 0] rfl) (hD.sub [1, 0] (by decide) rfl) hS (by decide) (by decide) dSt_stands_22
    ·
      refine lv_iconst (v := iZ 1) hx hb dSt_stands_17 (by decide) ?_
      refine lv_goto (tgt := 22) hx hb dSt_stands_18 (by decide) ?_
      exact cq_zret hx hb hr hlocks hAe hQ (bo_narr (by omega) (by omega)) 1 ⟨rfl, (by (try dsimp only) <;> (first | rfl | omega | (refine Or.inl ?_; and_intros <;> first | rfl | omega) | (refine Or.inr ?_; and_intros <;> first | rfl | omega)))⟩ (hP.sub [1, 0] rfl) (hD.sub [1, 0] (by decide) rfl) hS (by decide) (by decide) dSt_stands_22
set_option maxHeartbeats 4000000 in
set_option maxRecDepth 100000 in
theorem k_Strata_add (l : Launch) (D : va_G) (cI cJ cZ : ClassId) (t_a t_sizes_a t_costs_a t_gone_a : Nat) (sz : Nat) (t_made : Int) (t_sizes_f : Int → Int) (t_costs_f : Int → Int) (size : Int) (h_size1 : -2147483648 ≤ size) (h_size2 : size < 2147483648) (hn1 : 0 ≤ t_made) (hn2 : t_made ≤ 4) : cq_i l ySt_add wsSt_add ({ frames := 0, cells := 0, slots := 0, locals := 0 }) D clAll [(cI, .int), (cJ, .long), (cZ, .boolean)] nwAll [.ref t_a, .int (iZ size)] [(t_a, .inr (6, [.ref t_sizes_a, .ref t_costs_a, .ref t_gone_a, .int (iZ t_made)])), (t_sizes_a, .inl (cI, 4, .inl (aI t_sizes_f))), (t_costs_a, .inl (cJ, 4, .inr (.inl (aL t_costs_f))))] sz (S := Int × Int × (Int → Int) × (Int → Int)) (fun (r : Int32) (u : Int × Int × (Int → Int) × (Int → Int)) => r = iZ u.1 ∧ (((t_made < 4 ∧ 1 ≤ size ∧ size ≤ 100) ∧ u.1 = t_made ∧ u.2.1 = t_made + 1 ∧ u.2.2.1 = pu t_sizes_f t_made size ∧ u.2.2.2 = pu t_costs_f t_made 1) ∨ (¬ (t_made < 4 ∧ 1 ≤ size ∧ size ≤ 100) ∧ u.1 = -1 ∧ u.2.1 = t_made ∧ u.2.2.1 = t_sizes_f ∧ u.2.2.2 = t_costs_f))) (fun (u : Int × Int × (Int → Int) × (Int → Int)) => [(t_a, .inr (6, [.ref t_sizes_a, .ref t_costs_a, .ref t_gone_a, .int (iZ u.2.1)])), (t_sizes_a, .inl (cI, 4, .inl (aI u.2.2.1))), (t_costs_a, .inl (cJ, 4, .inr (.inl (aL u.2.2.2))))]) 0 0 := by
  refine cq_enter (cc := cSt_add) (maxL := 3) (ret := some .int) (by decide) rfl (Nat.le_of_ble_eq_true rfl) ?_
  intro p e s m below meth c A args Q H hAe hQ hsz hAt hA hP hK hD hS ls hl
  obtain ⟨hx, hb, hr, hml, hown, hts, hlocks, hin⟩ := hAt
  have hown : s.vm.findClass RSt = some m.cls := hown
  have hl : lv_has ls 3 [(0, .ref t_a), (1, .int (iZ size))] := hl
  refine lv_aload_n hx hb dSt_add_0 rfl (lv_at hl 0 rfl) ?_
  refine va_get (D := D) (ci := 6) (v := .int (iZ t_made)) (C := RSt) (T := TSt) (N := 4) hx hb hts laySt hown hK.1 hP 0 rfl rfl 3 (by decide) (hts _ (hm g88)) (fun _ h9 => h9) rfl dSt_add_1 ?_
  refine lv_iconst (v := iZ 4) hx hb dSt_add_4 (by decide) ?_
  refine z_icmp_ge (tgt := 19) hx hb (by omega) (by omega) (by omega) (by omega) dSt_add_5 (by decide) (fun c_1 => ?_) (fun c_1 => ?_)
  ·
    refine lv_iconst (v := iZ (-1)) hx hb dSt_add_19 (by decide) ?_
    exact cq_iret hx hb hr hlocks hAe hQ (-1, t_made, t_sizes_f, t_costs_f) ⟨rfl, (by (try dsimp only) <;> (first | rfl | omega | (refine Or.inl ?_; and_intros <;> first | rfl | omega) | (refine Or.inr ?_; and_intros <;> first | rfl | omega)))⟩ (hP.sub [0, 1, 2] rfl) (hD.sub [0, 1, 2] (by decide) rfl) hS (by decide) (by decide) dSt_add_20
  ·
    refine lv_iload_n hx hb dSt_add_8 rfl (lv_at hl 1 rfl) ?_
    refine lv_iconst (v := iZ 1) hx hb dSt_add_9 (by decide) ?_
    refine z_icmp_lt (tgt := 19) hx hb (by omega) (by omega) (by omega) (by omega) dSt_add_10 (by decide) (fun c_2 => ?_) (fun c_2 => ?_)
    ·
      refine lv_iconst (v := iZ (-1)) hx hb dSt_add_19 (by decide) ?_
      exact cq_iret hx hb hr hlocks hAe hQ (-1, t_made, t_sizes_f, t_costs_f) ⟨rfl, (by (try dsimp only) <;> (first | rfl | omega | (refine Or.inl ?_; and_intros <;> first | rfl | omega) | (refine Or.inr ?_; and_intros <;> first | rfl | omega)))⟩ (hP.sub [0, 1, 2] rfl) (hD.sub [0, 1, 2] (by decide) rfl) hS (by decide) (by decide) dSt_add_20
    ·
      refine lv_iload_n hx hb dSt_add_13 rfl (lv_at hl 1 rfl) ?_
      refine lv_bipush (v := iZ (100)) hx hb dSt_add_14 (by decide) ?_
      refine z_icmp_le (tgt := 21) hx hb (by omega) (by omega) (by omega) (by omega) dSt_add_16 (by decide) (fun c_3 => ?_) (fun c_3 => ?_)
      ·
        refine lv_aload_n hx hb dSt_add_21 rfl (lv_at hl 0 rfl) ?_
        refine va_get (D := D) (ci := 6) (v := .int (iZ t_made)) (C := RSt) (T := TSt) (N := 4) hx hb hts laySt hown hK.1 hP 0 rfl rfl 3 (by decide) (hts _ (hm g88)) (fun _ h9 => h9) rfl dSt_add_22 ?_
        refine lv_istore_n (lv' := [(2, .int (iZ t_made)), (0, .ref t_a), (1, .int (iZ size))]) hx hb dSt_add_25 rfl hl (by decide) rfl (fun ls hl => ?_)
        refine lv_aload_n hx hb dSt_add_26 rfl (lv_at hl 1 rfl) ?_
        refine va_get (D := D) (ci := 6) (v := .ref t_sizes_a) (C := RSt) (T := TSt) (N := 4) hx hb hts laySt hown hK.1 hP 0 rfl rfl 0 (by decide) (hts _ (hm g85)) (fun _ h9 => h9) rfl dSt_add_27 ?_
        refine lv_iload_n hx hb dSt_add_30 rfl (lv_at hl 0 rfl) ?_
        refine lv_iload_n hx hb dSt_add_31 rfl (lv_at hl 2 rfl) ?_
        refine z_iast hx hb hK hP hD hS 1 0 rfl rfl (by omega) (by omega) (by decide) dSt_add_32 (fun H locs hP hD hS => ?_)
        have hP : va_P D clAll [(t_a, .inr (6, [.ref t_sizes_a, .ref t_costs_a, .ref t_gone_a, .int (iZ t_made)])), (t_sizes_a, .inl (cI, 4, .inl (aI (pu t_sizes_f t_made size)))), (t_costs_a, .inl (cJ, 4, .inr (.inl (aL t_costs_f))))] H := hP
        have hD : va_D A [(t_a, .inr (6, [.ref t_sizes_a, .ref t_costs_a, .ref t_gone_a, .int (iZ t_made)])), (t_sizes_a, .inl (cI, 4, .inl (aI (pu t_sizes_f t_made size)))), (t_costs_a, .inl (cJ, 4, .inr (.inl (aL t_costs_f))))] := hD
        refine lv_aload_n hx hb dSt_add_33 rfl (lv_at hl 1 rfl) ?_
        refine va_get (D := D) (ci := 6) (v := .ref t_costs_a) (C := RSt) (T := TSt) (N := 4) hx hb hts laySt hown hK.1 hP 0 rfl rfl 1 (by decide) (hts _ (hm g86)) (fun _ h9 => h9) rfl dSt_add_34 ?_
        refine lv_iload_n hx hb dSt_add_37 rfl (lv_at hl 0 rfl) ?_
        refine lv_lconst (v := lZ 1) hx hb dSt_add_38 (by decide) ?_
        refine z_last hx hb hK hP hD hS 2 1 rfl rfl (by omega) (by omega) (by decide) dSt_add_39 (fun H locs hP hD hS => ?_)
        have hP : va_P D clAll [(t_a, .inr (6, [.ref t_sizes_a, .ref t_costs_a, .ref t_gone_a, .int (iZ t_made)])), (t_sizes_a, .inl (cI, 4, .inl (aI (pu t_sizes_f t_made size)))), (t_costs_a, .inl (cJ, 4, .inr (.inl (aL (pu t_costs_f t_made 1)))))] H := hP
        have hD : va_D A [(t_a, .inr (6, [.ref t_sizes_a, .ref t_costs_a, .ref t_gone_a, .int (iZ t_made)])), (t_sizes_a, .inl (cI, 4, .inl (aI (pu t_sizes_f t_made size)))), (t_costs_a, .inl (cJ, 4, .inr (.inl (aL (pu t_costs_f t_made 1)))))] := hD
        refine lv_aload_n hx hb dSt_add_40 rfl (lv_at hl 1 rfl) ?_
        refine lv_dup hx hb dSt_add_41 rfl ?_
        refine va_get (D := D) (ci := 6) (v := .int (iZ t_made)) (C := RSt) (T := TSt) (N := 4) hx hb hts laySt hown hK.1 hP 0 rfl rfl 3 (by decide) (hts _ (hm g88)) (fun _ h9 => h9) rfl dSt_add_42 ?_
        refine lv_iconst (v := iZ 1) hx hb dSt_add_45 (by decide) ?_
        refine z_iadd hx hb dSt_add_46 ?_
        refine va_put (D := D) (ci := 6) (v := .int (iZ (t_made + 1))) (ty := .int) (C := RSt) (T := TSt) (N := 4) hx hb hts laySt tySt tySt_ok nmSt hown hK.1 hP hD hS 0 rfl rfl 3 (by decide) (hts _ (hm g88)) (fun _ h9 => h9) rfl (by decide +kernel) rfl rfl (Nat.le_of_ble_eq_true rfl) dSt_add_47 (fun H locs hP hD hS => ?_)
        have hP : va_P D clAll [(t_a, .inr (6, [.ref t_sizes_a, .ref t_costs_a, .ref t_gone_a, .int (iZ (t_made + 1))])), (t_sizes_a, .inl (cI, 4, .inl (aI (pu t_sizes_f t_made size)))), (t_costs_a, .inl (cJ, 4, .inr (.inl (aL (pu t_costs_f t_made 1)))))] H := hP
        have hD : va_D A [(t_a, .inr (6, [.ref t_sizes_a, .ref t_costs_a, .ref t_gone_a, .int (iZ (t_made + 1))])), (t_sizes_a, .inl (cI, 4, .inl (aI (pu t_sizes_f t_made size)))), (t_costs_a, .inl (cJ, 4, .inr (.inl (aL (pu t_costs_f t_made 1)))))] := hD
        refine lv_iload_n hx hb dSt_add_50 rfl (lv_at hl 0 rfl) ?_
        exact cq_iret hx hb hr hlocks hAe hQ (t_made, t_made + 1, (pu t_sizes_f t_made size), (pu t_costs_f t_made 1)) ⟨rfl, (by (try dsimp only) <;> (first | rfl | omega | (refine Or.inl ?_; and_intros <;> first | rfl | omega) | (refine Or.inr ?_; and_intros <;> first | rfl | omega)))⟩ (hP.sub [0, 1, 2] rfl) (hD.sub [0, 1, 2] (by decide) rfl) hS (by decide) (by decide) dSt_add_51
      ·
        refine lv_iconst (v := iZ (-1)) hx hb dSt_add_19 (by decide) ?_
        exact cq_iret hx hb hr hlocks hAe hQ (-1, t_made, t_sizes_f, t_costs_f) ⟨rfl, (by (try dsimp only) <;> (first | rfl | omega | (refine Or.inl ?_; and_intros <;> first | rfl | omega) | (refine Or.inr ?_; and_intros <;> first | rfl | omega)))⟩ (hP.sub [0, 1, 2] rfl) (hD.sub [0, 1, 2] (by decide) rfl) hS (by decide) (by decide) dSt_add_20
set_option maxHeartbeats 4000000 in
set_option maxRecDepth 100000 in
theorem k_Strata_setCost (l : Launch) (D : va_G) (cI cJ cZ : ClassId) (t_a t_sizes_a t_costs_a t_gone_a : Nat) (sz : Nat) (t_made : Int) (t_gone_f : Int → Int) (t_costs_f : Int → Int) (z : Int) (cents : Int) (h_z1 : -2147483648 ≤ z) (h_z2 : z < 2147483648) (h_cents1 : -9223372036854775808 ≤ cents) (h_cents2 : cents < 9223372036854775808) (hn1 : 0 ≤ t_made) (hn2 : t_made ≤ 4) (hgo : ∀ j, 0 ≤ t_gone_f j ∧ t_gone_f j ≤ 1) : cq_i l ySt_setCost wsSt_setCost ({ frames := 2, cells := 0, slots := 0, locals := 42 }) D clAll [(cI, .int), (cJ, .long), (cZ, .boolean)] nwAll [.ref t_a, .int (iZ z), .long (lZ cents)] [(t_a, .inr (6, [.ref t_sizes_a, .ref t_costs_a, .ref t_gone_a, .int (iZ t_made)])), (t_gone_a, .inl (cZ, 4, .inl (aI t_gone_f))), (t_costs_a, .inl (cJ, 4, .inr (.inl (aL t_costs_f))))] sz (S := Int × (Int → Int)) (fun (r : Int32) (u : Int × (Int → Int)) => r = iZ u.1 ∧ ((((0 ≤ z ∧ z < t_made ∧ t_gone_f z = 0) ∧ 1 ≤ cents ∧ cents ≤ 100000) ∧ u.1 = 1 ∧ u.2 = pu t_costs_f z cents) ∨ (¬ ((0 ≤ z ∧ z < t_made ∧ t_gone_f z = 0) ∧ 1 ≤ cents ∧ cents ≤ 100000) ∧ u.1 = 0 ∧ u.2 = t_costs_f))) (fun (u : Int × (Int → Int)) => [(t_a, .inr (6, [.ref t_sizes_a, .ref t_costs_a, .ref t_gone_a, .int (iZ t_made)])), (t_gone_a, .inl (cZ, 4, .inl (aI t_gone_f))), (t_costs_a, .inl (cJ, 4, .inr (.inl (aL u.2))))]) 0 0 := by
  refine cq_enter (cc := cSt_setCost) (maxL := 4) (ret := some .boolean) (by decide) rfl (Nat.le_of_ble_eq_true rfl) ?_
  intro p e s m below meth c A args Q H hAe hQ hsz hAt hA hP hK hD hS ls hl
  obtain ⟨hx, hb, hr, hml, hown, hts, hlocks, hin⟩ := hAt
  have hown : s.vm.findClass RSt = some m.cls := hown
  have hl : lv_has ls 4 [(0, .ref t_a), (1, .int (iZ z)), (2, .long (lZ cents))] := hl
  refine lv_aload_n hx hb dSt_setCost_0 rfl (lv_at hl 0 rfl) ?_
  refine lv_iload_n hx hb dSt_setCost_1 rfl (lv_at hl 1 rfl) ?_
  refine cq_calli (wr := [(t_costs_a, .inl (cJ, 4, .inr (.inl (aL t_costs_f))))]) (va_runV (C := RSt) (As := [.int (iZ z)]) (rest := []) ⟨hx, hb, hml, hown, hts⟩ (k_Strata_stands l D cI cJ cZ t_a t_sizes_a t_costs_a t_gone_a H.size t_made t_gone_f z (by omega) (by omega) (by first | assumption | omega) (by first | assumption | omega) (by first | assumption | omega)) ⟨(callB_of 1 hts (gAll cmSt_stands) rfl rfl rfl (hts _ (hm g59)) (hts _ (hm g230)) (by decide +kernel) ⟨Nat.le_of_ble_eq_true rfl, Nat.le_of_ble_eq_true rfl⟩), (hts _ (hm g231)), (hts _ (hm g2))⟩ (cq_preV (va_recv hK.1 hP (ci := 6) (q0 := 0) rfl rfl) (cq_preS hK hP hD [0, 1] (by decide) rfl)) rfl rfl hl.1 rfl (lv_room (Nat.le_of_ble_eq_true rfl)) dSt_setCost_2 ⟨by decide, by decide⟩) hP hD hS hA [0, 1] [2] rfl rfl (by decide) (by decide) (fun r u H locs hw_1 hP hD hS => ?_)
  obtain ⟨o_2, rfl⟩ : ∃ z, z = u := ⟨_, rfl⟩
  try dsimp only at hw_1
  obtain ⟨rfl, p_3⟩ := hw_1
  have hP : va_P D clAll [(t_costs_a, .inl (cJ, 4, .inr (.inl (aL t_costs_f)))), (t_a, .inr (6, [.ref t_sizes_a, .ref t_costs_a, .ref t_gone_a, .int (iZ t_made)])), (t_gone_a, .inl (cZ, 4, .inl (aI t_gone_f)))] H := hP
  have hD : va_D A [(t_costs_a, .inl (cJ, 4, .inr (.inl (aL t_costs_f)))), (t_a, .inr (6, [.ref t_sizes_a, .ref t_costs_a, .ref t_gone_a, .int (iZ t_made)])), (t_gone_a, .inl (cZ, 4, .inl (aI t_gone_f)))] := hD
  refine z_if_eq (tgt := 22) hx hb (by omega) (by omega) dSt_setCost_5 (by decide) (fun c_4 => ?_) (fun c_4 => ?_)
  ·
    refine lv_iconst (v := iZ 0) hx hb dSt_setCost_22 (by decide) ?_
    exact cq_zret hx hb hr hlocks hAe hQ (bo_narr (by omega) (by omega)) (0, t_costs_f) ⟨rfl, (by (try dsimp only) <;> (first | rfl | omega | (refine Or.inl ?_; and_intros <;> first | rfl | omega) | (refine Or.inr ?_; and_intros <;> first | rfl | omega)))⟩ (hP.sub [1, 2, 0] rfl) (hD.sub [1, 2, 0] (by decide) rfl) hS (by decide) (by decide) dSt_setCost_23
  ·
    refine lv_lload_n hx hb dSt_setCost_8 rfl (lv_at hl 2 rfl) ?_
    refine lv_lconst (v := lZ 1) hx hb dSt_setCost_9 (by decide) ?_
    refine z_lcmp_lt (tgt := 22) hx hb (by omega) (by omega) (by omega) (by omega) dSt_setCost_10 dSt_setCost_11 (by decide) (fun c_5 => ?_) (fun c_5 => ?_)
    ·
      refine lv_iconst (v := iZ 0) hx hb dSt_setCost_22 (by decide) ?_
      exact cq_zret hx hb hr hlocks hAe hQ (bo_narr (by omega) (by omega)) (0, t_costs_f) ⟨rfl, (by (try dsimp only) <;> (first | rfl | omega | (refine Or.inl ?_; and_intros <;> first | rfl | omega) | (refine Or.inr ?_; and_intros <;> first | rfl | omega)))⟩ (hP.sub [1, 2, 0] rfl) (hD.sub [1, 2, 0] (by decide) rfl) hS (by decide) (by decide) dSt_setCost_23
    ·
      refine lv_lload_n hx hb dSt_setCost_14 rfl (lv_at hl 2 rfl) ?_
      refine lv_ldc2 (v := lZ (100000)) hx hb hown (hts _ (hm g236)) dSt_setCost_15 ?_
      refine z_lcmp_le (tgt := 24) hx hb (by omega) (by omega) (by omega) (by omega) dSt_setCost_18 dSt_setCost_19 (by decide) (fun c_6 => ?_) (fun c_6 => ?_)
      ·
        refine lv_aload_n hx hb dSt_setCost_24 rfl (lv_at hl 0 rfl) ?_
        refine va_get (D := D) (ci := 6) (v := .ref t_costs_a) (C := RSt) (T := TSt) (N := 4) hx hb hts laySt hown hK.1 hP 1 rfl rfl 1 (by decide) (hts _ (hm g86)) (fun _ h9 => h9) rfl dSt_setCost_25 ?_
        refine lv_iload_n hx hb dSt_setCost_28 rfl (lv_at hl 1 rfl) ?_
        refine lv_lload_n hx hb dSt_setCost_29 rfl (lv_at hl 2 rfl) ?_
        refine z_last hx hb hK hP hD hS 0 1 rfl rfl (by omega) (by omega) (by decide) dSt_setCost_30 (fun H locs hP hD hS => ?_)
        have hP : va_P D clAll [(t_costs_a, .inl (cJ, 4, .inr (.inl (aL (pu t_costs_f z cents))))), (t_a, .inr (6, [.ref t_sizes_a, .ref t_costs_a, .ref t_gone_a, .int (iZ t_made)])), (t_gone_a, .inl (cZ, 4, .inl (aI t_gone_f)))] H := hP
        have hD : va_D A [(t_costs_a, .inl (cJ, 4, .inr (.inl (aL (pu t_costs_f z cents))))), (t_a, .inr (6, [.ref t_sizes_a, .ref t_costs_a, .ref t_gone_a, .int (iZ t_made)])), (t_gone_a, .inl (cZ, 4, .inl (aI t_gone_f)))] := hD
        refine lv_iconst (v := iZ 1) hx hb dSt_setCost_31 (by decide) ?_
        exact cq_zret hx hb hr hlocks hAe hQ (bo_narr (by omega) (by omega)) (1, (pu t_costs_f z cents)) ⟨rfl, (by (try dsimp only) <;> (first | rfl | omega | (refine Or.inl ?_; and_intros <;> first | rfl | omega) | (refine Or.inr ?_; and_intros <;> first | rfl | omega)))⟩ (hP.sub [1, 2, 0] rfl) (hD.sub [1, 2, 0] (by decide) rfl) hS (by decide) (by decide) dSt_setCost_32
      ·
        refine lv_iconst (v := iZ 0) hx hb dSt_setCost_22 (by decide) ?_
        exact cq_zret hx hb hr hlocks hAe hQ (bo_narr (by omega) (by omega)) (0, t_costs_f) ⟨rfl, (by (try dsimp only) <;> (first | rfl | omega | (refine Or.inl ?_; and_intros <;> first | rfl | omega) | (refine Or.inr ?_; and_intros <;> first | rfl | omega)))⟩ (hP.sub [1, 2, 0] rfl) (hD.sub [1, 2, 0] (by decide) rfl) hS (by decide) (by decide) dSt_setCost_23
set_option maxHeartbeats 4000000 in
set_option maxRecDepth 100000 in
theorem k_Strata_merge (l : Launch) (D : va_G) (cI cJ cZ : ClassId) (t_a t_sizes_a t_costs_a t_gone_a : Nat) (sz : Nat) (t_made : Int) (t_gone_f : Int → Int) (t_sizes_f : Int → Int) (za : Int) (zb : Int) (h_za1 : -2147483648 ≤ za) (h_za2 : za < 2147483648) (h_zb1 : -2147483648 ≤ zb) (h_zb2 : zb < 2147483648) (hn1 : 0 ≤ t_made) (hn2 : t_made ≤ 4) (hgo : ∀ j, 0 ≤ t_gone_f j ∧ t_gone_f j ≤ 1) (hsz0 : ∀ j, 0 ≤ t_sizes_f j ∧ t_sizes_f j ≤ 100) : cq_i l ySt_merge wsSt_merge ({ frames := 2, cells := 0, slots := 0, locals := 42 }) D clAll [(cI, .int), (cJ, .long), (cZ, .boolean)] nwAll [.ref t_a, .int (iZ za), .int (iZ zb)] [(t_a, .inr (6, [.ref t_sizes_a, .ref t_costs_a, .ref t_gone_a, .int (iZ t_made)])), (t_gone_a, .inl (cZ, 4, .inl (aI t_gone_f))), (t_sizes_a, .inl (cI, 4, .inl (aI t_sizes_f)))] sz (S := Int × (Int → Int) × (Int → Int)) (fun (r : Int32) (u : Int × (Int → Int) × (Int → Int)) => r = iZ u.1 ∧ ((((0 ≤ za ∧ za < t_made ∧ t_gone_f za = 0) ∧ (0 ≤ zb ∧ zb < t_made ∧ t_gone_f zb = 0) ∧ ¬ za = zb ∧ t_sizes_f za + t_sizes_f zb ≤ 100) ∧ u.1 = 1 ∧ u.2.1 = pu t_gone_f zb 1 ∧ u.2.2 = pu t_sizes_f za (t_sizes_f za + t_sizes_f zb)) ∨ (¬ ((0 ≤ za ∧ za < t_made ∧ t_gone_f za = 0) ∧ (0 ≤ zb ∧ zb < t_made ∧ t_gone_f zb = 0) ∧ ¬ za = zb ∧ t_sizes_f za + t_sizes_f zb ≤ 100) ∧ u.1 = 0 ∧ u.2.1 = t_gone_f ∧ u.2.2 = t_sizes_f))) (fun (u : Int × (Int → Int) × (Int → Int)) => [(t_a, .inr (6, [.ref t_sizes_a, .ref t_costs_a, .ref t_gone_a, .int (iZ t_made)])), (t_gone_a, .inl (cZ, 4, .inl (aI u.2.1))), (t_sizes_a, .inl (cI, 4, .inl (aI u.2.2)))]) 0 0 := by
  refine cq_enter (cc := cSt_merge) (maxL := 4) (ret := some .boolean) (by decide) rfl (Nat.le_of_ble_eq_true rfl) ?_
  intro p e s m below meth c A args Q H hAe hQ hsz hAt hA hP hK hD hS ls hl
  obtain ⟨hx, hb, hr, hml, hown, hts, hlocks, hin⟩ := hAt
  have hown : s.vm.findClass RSt = some m.cls := hown
  have hl : lv_has ls 4 [(0, .ref t_a), (1, .int (iZ za)), (2, .int (iZ zb))] := hl
  refine lv_aload_n hx hb dSt_merge_0 rfl (lv_at hl 0 rfl) ?_
  refine lv_iload_n hx hb dSt_merge_1 rfl (lv_at hl 1 rfl) ?_
  refine cq_calli (wr := [(t_sizes_a, .inl (cI, 4, .inl (aI t_sizes_f)))]) (va_runV (C := RSt) (As := [.int (iZ za)]) (rest := []) ⟨hx, hb, hml, hown, hts⟩ (k_Strata_stands l D cI cJ cZ t_a t_sizes_a t_costs_a t_gone_a H.size t_made t_gone_f za (by omega) (by omega) (by first | assumption | omega) (by first | assumption | omega) (by first | assumption | omega)) ⟨(callB_of 1 hts (gAll cmSt_stands) rfl rfl rfl (hts _ (hm g59)) (hts _ (hm g230)) (by decide +kernel) ⟨Nat.le_of_ble_eq_true rfl, Nat.le_of_ble_eq_true rfl⟩), (hts _ (hm g231)), (hts _ (hm g2))⟩ (cq_preV (va_recv hK.1 hP (ci := 6) (q0 := 0) rfl rfl) (cq_preS hK hP hD [0, 1] (by decide) rfl)) rfl rfl hl.1 rfl (lv_room (Nat.le_of_ble_eq_true rfl)) dSt_merge_2 ⟨by decide, by decide⟩) hP hD hS hA [0, 1] [2] rfl rfl (by decide) (by decide) (fun r u H locs hw_1 hP hD hS => ?_)
  obtain ⟨o_2, rfl⟩ : ∃ z, z = u := ⟨_, rfl⟩
  try dsimp only at hw_1
  obtain ⟨rfl, p_3⟩ := hw_1
  have hP : va_P D clAll [(t_sizes_a, .inl (cI, 4, .inl (aI t_sizes_f))), (t_a, .inr (6, [.ref t_sizes_a, .ref t_costs_a, .ref t_gone_a, .int (iZ t_made)])), (t_gone_a, .inl (cZ, 4, .inl (aI t_gone_f)))] H := hP
  have hD : va_D A [(t_sizes_a, .inl (cI, 4, .inl (aI t_sizes_f))), (t_a, .inr (6, [.ref t_sizes_a, .ref t_costs_a, .ref t_gone_a, .int (iZ t_made)])), (t_gone_a, .inl (cZ, 4, .inl (aI t_gone_f)))] := hD
  refine z_if_eq (tgt := 21) hx hb (by omega) (by omega) dSt_merge_5 (by decide) (fun c_4 => ?_) (fun c_4 => ?_)
  ·
    refine lv_iconst (v := iZ 0) hx hb dSt_merge_21 (by decide) ?_
    exact cq_zret hx hb hr hlocks hAe hQ (bo_narr (by omega) (by omega)) (0, t_gone_f, t_sizes_f) ⟨rfl, (by (try dsimp only) <;> (first | rfl | omega | (refine Or.inl ?_; and_intros <;> first | rfl | omega) | (refine Or.inr ?_; and_intros <;> first | rfl | omega)))⟩ (hP.sub [1, 2, 0] rfl) (hD.sub [1, 2, 0] (by decide) rfl) hS (by decide) (by decide) dSt_merge_22
  ·
    refine lv_aload_n hx hb dSt_merge_8 rfl (lv_at hl 0 rfl) ?_
    refine lv_iload_n hx hb dSt_merge_9 rfl (lv_at hl 2 rfl) ?_
    refine cq_calli (wr := [(t_sizes_a, .inl (cI, 4, .inl (aI t_sizes_f)))]) (va_runV (C := RSt) (As := [.int (iZ zb)]) (rest := []) ⟨hx, hb, hml, hown, hts⟩ (k_Strata_stands l D cI cJ cZ t_a t_sizes_a t_costs_a t_gone_a H.size t_made t_gone_f zb (by omega) (by omega) (by first | assumption | omega) (by first | assumption | omega) (by first | assumption | omega)) ⟨(callB_of 1 hts (gAll cmSt_stands) rfl rfl rfl (hts _ (hm g59)) (hts _ (hm g230)) (by decide +kernel) ⟨Nat.le_of_ble_eq_true rfl, Nat.le_of_ble_eq_true rfl⟩), (hts _ (hm g231)), (hts _ (hm g2))⟩ (cq_preV (va_recv hK.1 hP (ci := 6) (q0 := 1) rfl rfl) (cq_preS hK hP hD [1, 2] (by decide) rfl)) rfl rfl hl.1 rfl (lv_room (Nat.le_of_ble_eq_true rfl)) dSt_merge_10 ⟨by decide, by decide⟩) hP hD hS hA [1, 2] [0] rfl rfl (by decide) (by decide) (fun r u H locs hw_5 hP hD hS => ?_)
    obtain ⟨o_6, rfl⟩ : ∃ z, z = u := ⟨_, rfl⟩
    try dsimp only at hw_5
    obtain ⟨rfl, p_7⟩ := hw_5
    have hP : va_P D clAll [(t_sizes_a, .inl (cI, 4, .inl (aI t_sizes_f))), (t_a, .inr (6, [.ref t_sizes_a, .ref t_costs_a, .ref t_gone_a, .int (iZ t_made)])), (t_gone_a, .inl (cZ, 4, .inl (aI t_gone_f)))] H := hP
    have hD : va_D A [(t_sizes_a, .inl (cI, 4, .inl (aI t_sizes_f))), (t_a, .inr (6, [.ref t_sizes_a, .ref t_costs_a, .ref t_gone_a, .int (iZ t_made)])), (t_gone_a, .inl (cZ, 4, .inl (aI t_gone_f)))] := hD
    refine z_if_eq (tgt := 21) hx hb (by omega) (by omega) dSt_merge_13 (by decide) (fun c_8 => ?_) (fun c_8 => ?_)
    ·
      refine lv_iconst (v := iZ 0) hx hb dSt_merge_21 (by decide) ?_
      exact cq_zret hx hb hr hlocks hAe hQ (bo_narr (by omega) (by omega)) (0, t_gone_f, t_sizes_f) ⟨rfl, (by (try dsimp only) <;> (first | rfl | omega | (refine Or.inl ?_; and_intros <;> first | rfl | omega) | (refine Or.inr ?_; and_intros <;> first | rfl | omega)))⟩ (hP.sub [1, 2, 0] rfl) (hD.sub [1, 2, 0] (by decide) rfl) hS (by decide) (by decide) dSt_merge_22
    ·
      refine lv_iload_n hx hb dSt_merge_16 rfl (lv_at hl 1 rfl) ?_
      refine lv_iload_n hx hb dSt_merge_17 rfl (lv_at hl 2 rfl) ?_
      refine z_icmp_ne (tgt := 23) hx hb (by omega) (by omega) (by omega) (by omega) dSt_merge_18 (by decide) (fun c_9 => ?_) (fun c_9 => ?_)
      ·
        refine lv_aload_n hx hb dSt_merge_23 rfl (lv_at hl 0 rfl) ?_
        refine va_get (D := D) (ci := 6) (v := .ref t_sizes_a) (C := RSt) (T := TSt) (N := 4) hx hb hts laySt hown hK.1 hP 1 rfl rfl 0 (by decide) (hts _ (hm g85)) (fun _ h9 => h9) rfl dSt_merge_24 ?_
        refine lv_iload_n hx hb dSt_merge_27 rfl (lv_at hl 1 rfl) ?_
        refine z_iald hx hb hK hP 0 0 rfl rfl (by omega) (by omega) (by decide) dSt_merge_28 ?_
        have f_10 := hsz0 za
        refine lv_aload_n hx hb dSt_merge_29 rfl (lv_at hl 0 rfl) ?_
        refine va_get (D := D) (ci := 6) (v := .ref t_sizes_a) (C := RSt) (T := TSt) (N := 4) hx hb hts laySt hown hK.1 hP 1 rfl rfl 0 (by decide) (hts _ (hm g85)) (fun _ h9 => h9) rfl dSt_merge_30 ?_
        refine lv_iload_n hx hb dSt_merge_33 rfl (lv_at hl 2 rfl) ?_
        refine z_iald hx hb hK hP 0 0 rfl rfl (by omega) (by omega) (by decide) dSt_merge_34 ?_
        have f_11 := hsz0 zb
        refine z_iadd hx hb dSt_merge_35 ?_
        refine lv_istore_n (lv' := [(3, .int (iZ ((t_sizes_f za) + (t_sizes_f zb)))), (0, .ref t_a), (1, .int (iZ za)), (2, .int (iZ zb))]) hx hb dSt_merge_36 rfl hl (by decide) rfl (fun ls hl => ?_)
        refine lv_iload_n hx hb dSt_merge_37 rfl (lv_at hl 0 rfl) ?_
        refine lv_bipush (v := iZ (100)) hx hb dSt_merge_38 (by decide) ?_
        refine z_icmp_le (tgt := 45) hx hb (by omega) (by omega) (by omega) (by omega) dSt_merge_40 (by decide) (fun c_12 => ?_) (fun c_12 => ?_)
        ·
          refine lv_aload_n hx hb dSt_merge_45 rfl (lv_at hl 1 rfl) ?_
          refine va_get (D := D) (ci := 6) (v := .ref t_sizes_a) (C := RSt) (T := TSt) (N := 4) hx hb hts laySt hown hK.1 hP 1 rfl rfl 0 (by decide) (hts _ (hm g85)) (fun _ h9 => h9) rfl dSt_merge_46 ?_
          refine lv_iload_n hx hb dSt_merge_49 rfl (lv_at hl 2 rfl) ?_
          refine lv_iload_n hx hb dSt_merge_50 rfl (lv_at hl 0 rfl) ?_
          refine z_iast hx hb hK hP hD hS 0 0 rfl rfl (by omega) (by omega) (by decide) dSt_merge_51 (fun H locs hP hD hS => ?_)
          have hP : va_P D clAll [(t_sizes_a, .inl (cI, 4, .inl (aI (pu t_sizes_f za ((t_sizes_f za) + (t_sizes_f zb)))))), (t_a, .inr (6, [.ref t_sizes_a, .ref t_costs_a, .ref t_gone_a, .int (iZ t_made)])), (t_gone_a, .inl (cZ, 4, .inl (aI t_gone_f)))] H := hP
          have hD : va_D A [(t_sizes_a, .inl (cI, 4, .inl (aI (pu t_sizes_f za ((t_sizes_f za) + (t_sizes_f zb)))))), (t_a, .inr (6, [.ref t_sizes_a, .ref t_costs_a, .ref t_gone_a, .int (iZ t_made)])), (t_gone_a, .inl (cZ, 4, .inl (aI t_gone_f)))] := hD
          refine lv_aload_n hx hb dSt_merge_52 rfl (lv_at hl 1 rfl) ?_
          refine va_get (D := D) (ci := 6) (v := .ref t_gone_a) (C := RSt) (T := TSt) (N := 4) hx hb hts laySt hown hK.1 hP 1 rfl rfl 2 (by decide) (hts _ (hm g87)) (fun _ h9 => h9) rfl dSt_merge_53 ?_
          refine lv_iload_n hx hb dSt_merge_56 rfl (lv_at hl 3 rfl) ?_
          refine lv_iconst (v := iZ 1) hx hb dSt_merge_57 (by decide) ?_
          refine z_zast hx hb hK hP hD hS 2 2 rfl rfl (by omega) (by omega) (by decide) (by omega) (by omega) dSt_merge_58 (fun H locs hP hD hS => ?_)
          have hP : va_P D clAll [(t_sizes_a, .inl (cI, 4, .inl (aI (pu t_sizes_f za ((t_sizes_f za) + (t_sizes_f zb)))))), (t_a, .inr (6, [.ref t_sizes_a, .ref t_costs_a, .ref t_gone_a, .int (iZ t_made)])), (t_gone_a, .inl (cZ, 4, .inl (aI (pu t_gone_f zb 1))))] H := hP
          have hD : va_D A [(t_sizes_a, .inl (cI, 4, .inl (aI (pu t_sizes_f za ((t_sizes_f za) + (t_sizes_f zb)))))), (t_a, .inr (6, [.ref t_sizes_a, .ref t_costs_a, .ref t_gone_a, .int (iZ t_made)])), (t_gone_a, .inl (cZ, 4, .inl (aI (pu t_gone_f zb 1))))] := hD
          refine lv_iconst (v := iZ 1) hx hb dSt_merge_59 (by decide) ?_
          exact cq_zret hx hb hr hlocks hAe hQ (bo_narr (by omega) (by omega)) (1, (pu t_gone_f zb 1), (pu t_sizes_f za ((t_sizes_f za) + (t_sizes_f zb)))) ⟨rfl, (by (try dsimp only) <;> (first | rfl | omega | (refine Or.inl ?_; and_intros <;> first | rfl | omega) | (refine Or.inr ?_; and_intros <;> first | rfl | omega)))⟩ (hP.sub [1, 2, 0] rfl) (hD.sub [1, 2, 0] (by decide) rfl) hS (by decide) (by decide) dSt_merge_60
        ·
          refine lv_iconst (v := iZ 0) hx hb dSt_merge_43 (by decide) ?_
          exact cq_zret hx hb hr hlocks hAe hQ (bo_narr (by omega) (by omega)) (0, t_gone_f, t_sizes_f) ⟨rfl, (by (try dsimp only) <;> (first | rfl | omega | (refine Or.inl ?_; and_intros <;> first | rfl | omega) | (refine Or.inr ?_; and_intros <;> first | rfl | omega)))⟩ (hP.sub [1, 2, 0] rfl) (hD.sub [1, 2, 0] (by decide) rfl) hS (by decide) (by decide) dSt_merge_44
      ·
        refine lv_iconst (v := iZ 0) hx hb dSt_merge_21 (by decide) ?_
        exact cq_zret hx hb hr hlocks hAe hQ (bo_narr (by omega) (by omega)) (0, t_gone_f, t_sizes_f) ⟨rfl, (by (try dsimp only) <;> (first | rfl | omega | (refine Or.inl ?_; and_intros <;> first | rfl | omega) | (refine Or.inr ?_; and_intros <;> first | rfl | omega)))⟩ (hP.sub [1, 2, 0] rfl) (hD.sub [1, 2, 0] (by decide) rfl) hS (by decide) (by decide) dSt_merge_22
