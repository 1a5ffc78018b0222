set_option maxHeartbeats 4000000 in
set_option maxRecDepth 100000 in
theorem k_Bags_has (l : Launch) (D : va_G) (cI cJ cZ : ClassId) (t_a t_homes_a t_dates_a t_lost_a t_grams_a : Nat) (sz : Nat) (t_made : Int) (z : Int) (h_z1 : -2147483648 ≤ z) (h_z2 : z < 2147483648) (hn1 : 0 ≤ t_made) (hn2 : t_made ≤ 12) : cq_i l yBg_has wsBg_has ({ frames := 0, cells := 0, slots := 0, locals := 0 }) D clAll [(cI, .int), (cJ, .long), (cZ, .boolean)] nwAll [.ref t_a, .int (iZ z)] [(t_a, .inr (0, [.ref t_homes_a, .ref t_dates_a, .ref t_lost_a, .ref t_grams_a, .int (iZ t_made)]))] sz (S := Int) (fun (r : Int32) (u : Int) => r = iZ u ∧ ((u = 1 ∧ 0 ≤ z ∧ z < t_made) ∨ (u = 0 ∧ (z < 0 ∨ t_made ≤ z)))) (fun (u : Int) => [(t_a, .inr (0, [.ref t_homes_a, .ref t_dates_a, .ref t_lost_a, .ref t_grams_a, .int (iZ t_made)]))]) 0 0 := by
  refine cq_enter (cc := cBg_has) (maxL := 2) (ret := some .boolean) (by decide) rfl (Nat.le_of_ble_eq_true rfl) ?_
  intro p e s m below meth c A args Q H hAe hQ hsz hAt hA hP hK hD hS ls hl
  obtain ⟨hx, hb, hr, hml, hown, hts, hlocks, hin⟩ := hAt
  have hown : s.vm.findClass RBg = some m.cls := hown
  have hl : lv_has ls 2 [(0, .ref t_a), (1, .int (iZ z))] := hl
  refine lv_iload_n hx hb dBg_has_0 rfl (lv_at hl 1 rfl) ?_
  refine z_if_lt (tgt := 16) hx hb (by omega) (by omega) dBg_has_1 (by decide) (fun c_1 => ?_) (fun c_1 => ?_)
  ·
    refine lv_iconst (v := iZ 0) hx hb dBg_has_16 (by decide) ?_
    exact cq_zret hx hb hr hlocks hAe hQ (bo_narr (by omega) (by omega)) 0 ⟨rfl, (by (try dsimp only) <;> (first | rfl | omega | (refine Or.inl ?_; and_intros <;> first | rfl | omega) | (refine Or.inr ?_; and_intros <;> first | rfl | omega)))⟩ (hP.sub [0] rfl) (hD.sub [0] (by decide) rfl) hS (by decide) (by decide) dBg_has_17
  ·
    refine lv_iload_n hx hb dBg_has_4 rfl (lv_at hl 1 rfl) ?_
    refine lv_aload_n hx hb dBg_has_5 rfl (lv_at hl 0 rfl) ?_
    refine va_get (D := D) (ci := 0) (v := .int (iZ t_made)) (C := RBg) (T := TBg) (N := 5) hx hb hts layBg hown hK.1 hP 0 rfl rfl 4 (by decide) (hts _ (hm g105)) (fun _ h9 => h9) rfl dBg_has_6 ?_
    refine z_icmp_ge (tgt := 16) hx hb (by omega) (by omega) (by omega) (by omega) dBg_has_9 (by decide) (fun c_2 => ?_) (fun c_2 => ?_)
    ·
      refine lv_iconst (v := iZ 0) hx hb dBg_has_16 (by decide) ?_
      exact cq_zret hx hb hr hlocks hAe hQ (bo_narr (by omega) (by omega)) 0 ⟨rfl, (by (try dsimp only) <;> (first | rfl | omega | (refine Or.inl ?_; and_intros <;> first | rfl | omega) | (refine Or.inr ?_; and_intros <;> first | rfl | omega)))⟩ (hP.sub [0] rfl) (hD.sub [0] (by decide) rfl) hS (by decide) (by decide) dBg_has_17
    ·
      refine lv_iconst (v := iZ 1) hx hb dBg_has_12 (by decide) ?_
      refine lv_goto (tgt := 17) hx hb dBg_has_13 (by decide) ?_
      exact cq_zret hx hb hr hlocks hAe hQ (bo_narr (by omega) (by omega)) 1 ⟨rfl, (by (try dsimp only) <;> (first | rfl | omega | (refine Or.inl ?_; and_intros <;> first | rfl | omega) | (refine Or.inr ?_; and_intros <;> first | rfl | omega)))⟩ (hP.sub [0] rfl) (hD.sub [0] (by decide) rfl) hS (by decide) (by decide) dBg_has_17
set_option maxHeartbeats 4000000 in
set_option maxRecDepth 100000 in
theorem k_Bags_add (l : Launch) (D : va_G) (cI cJ cZ : ClassId) (t_a t_homes_a t_dates_a t_lost_a t_grams_a : Nat) (sz : Nat) (t_made : Int) (t_homes_f : Int → Int) (z : Int) (h_z1 : -2147483648 ≤ z) (h_z2 : z < 2147483648) (hn1 : 0 ≤ t_made) (hn2 : t_made ≤ 12) : cq_i l yBg_add wsBg_add ({ frames := 0, cells := 0, slots := 0, locals := 0 }) D clAll [(cI, .int), (cJ, .long), (cZ, .boolean)] nwAll [.ref t_a, .int (iZ z)] [(t_a, .inr (0, [.ref t_homes_a, .ref t_dates_a, .ref t_lost_a, .ref t_grams_a, .int (iZ t_made)])), (t_homes_a, .inl (cI, 12, .inl (aI t_homes_f)))] sz (S := Int × Int × (Int → Int)) (fun (r : Int32) (u : Int × Int × (Int → Int)) => r = iZ u.1 ∧ ((t_made < 12 ∧ u.1 = t_made ∧ u.2.1 = t_made + 1 ∧ u.2.2 = pu t_homes_f t_made z) ∨ (¬ t_made < 12 ∧ u.1 = -1 ∧ u.2.1 = t_made ∧ u.2.2 = t_homes_f))) (fun (u : Int × Int × (Int → Int)) => [(t_a, .inr (0, [.ref t_homes_a, .ref t_dates_a, .ref t_lost_a, .ref t_grams_a, .int (iZ u.2.1)])), (t_homes_a, .inl (cI, 12, .inl (aI u.2.2)))]) 0 0 := by
  refine cq_enter (cc := cBg_add) (maxL := 3) (ret := some .int) (by decide) rfl (Nat.le_of_ble_eq_true rfl) ?_
  intro p e s m below meth c A args Q H hAe hQ hsz hAt hA hP hK hD hS ls hl
  obtain ⟨hx, hb, hr, hml, hown, hts, hlocks, hin⟩ := hAt
  have hown : s.vm.findClass RBg = some m.cls := hown
  have hl : lv_has ls 3 [(0, .ref t_a), (1, .int (iZ z))] := hl
  refine lv_aload_n hx hb dBg_add_0 rfl (lv_at hl 0 rfl) ?_
  refine va_get (D := D) (ci := 0) (v := .int (iZ t_made)) (C := RBg) (T := TBg) (N := 5) hx hb hts layBg hown hK.1 hP 0 rfl rfl 4 (by decide) (hts _ (hm g105)) (fun _ h9 => h9) rfl dBg_add_1 ?_
  refine lv_bipush (v := iZ (12)) hx hb dBg_add_4 (by decide) ?_
  refine z_icmp_lt (tgt := 11) hx hb (by omega) (by omega) (by omega) (by omega) dBg_add_6 (by decide) (fun c_1 => ?_) (fun c_1 => ?_)
  ·
    refine lv_aload_n hx hb dBg_add_11 rfl (lv_at hl 0 rfl) ?_
    refine va_get (D := D) (ci := 0) (v := .int (iZ t_made)) (C := RBg) (T := TBg) (N := 5) hx hb hts layBg hown hK.1 hP 0 rfl rfl 4 (by decide) (hts _ (hm g105)) (fun _ h9 => h9) rfl dBg_add_12 ?_
    refine lv_istore_n (lv' := [(2, .int (iZ t_made)), (0, .ref t_a), (1, .int (iZ z))]) hx hb dBg_add_15 rfl hl (by decide) rfl (fun ls hl => ?_)
    refine lv_aload_n hx hb dBg_add_16 rfl (lv_at hl 1 rfl) ?_
    refine va_get (D := D) (ci := 0) (v := .ref t_homes_a) (C := RBg) (T := TBg) (N := 5) hx hb hts layBg hown hK.1 hP 0 rfl rfl 0 (by decide) (hts _ (hm g101)) (fun _ h9 => h9) rfl dBg_add_17 ?_
    refine lv_iload_n hx hb dBg_add_20 rfl (lv_at hl 0 rfl) ?_
    refine lv_iload_n hx hb dBg_add_21 rfl (lv_at hl 2 rfl) ?_
    refine z_iast hx hb hK hP hD hS 1 0 rfl rfl (by omega) (by omega) (by decide) dBg_add_22 (fun H locs hP hD hS => ?_)
    have hP : va_P D clAll [(t_a, .inr (0, [.ref t_homes_a, .ref t_dates_a, .ref t_lost_a, .ref t_grams_a, .int (iZ t_made)])), (t_homes_a, .inl (cI, 12, .inl (aI (pu t_homes_f t_made z))))] H := hP
    have hD : va_D A [(t_a, .inr (0, [.ref t_homes_a, .ref t_dates_a, .ref t_lost_a, .ref t_grams_a, .int (iZ t_made)])), (t_homes_a, .inl (cI, 12, .inl (aI (pu t_homes_f t_made z))))] := hD
    refine lv_aload_n hx hb dBg_add_23 rfl (lv_at hl 1 rfl) ?_
    refine lv_dup hx hb dBg_add_24 rfl ?_
    refine va_get (D := D) (ci := 0) (v := .int (iZ t_made)) (C := RBg) (T := TBg) (N := 5) hx hb hts layBg hown hK.1 hP 0 rfl rfl 4 (by decide) (hts _ (hm g105)) (fun _ h9 => h9) rfl dBg_add_25 ?_
    refine lv_iconst (v := iZ 1) hx hb dBg_add_28 (by decide) ?_
    refine z_iadd hx hb dBg_add_29 ?_
    refine va_put (D := D) (ci := 0) (v := .int (iZ (t_made + 1))) (ty := .int) (C := RBg) (T := TBg) (N := 5) hx hb hts layBg tyBg tyBg_ok nmBg hown hK.1 hP hD hS 0 rfl rfl 4 (by decide) (hts _ (hm g105)) (fun _ h9 => h9) rfl (by decide +kernel) rfl rfl (Nat.le_of_ble_eq_true rfl) dBg_add_30 (fun H locs hP hD hS => ?_)
    have hP : va_P D clAll [(t_a, .inr (0, [.ref t_homes_a, .ref t_dates_a, .ref t_lost_a, .ref t_grams_a, .int (iZ (t_made + 1))])), (t_homes_a, .inl (cI, 12, .inl (aI (pu t_homes_f t_made z))))] H := hP
    have hD : va_D A [(t_a, .inr (0, [.ref t_homes_a, .ref t_dates_a, .ref t_lost_a, .ref t_grams_a, .int (iZ (t_made + 1))])), (t_homes_a, .inl (cI, 12, .inl (aI (pu t_homes_f t_made z))))] := hD
    refine lv_iload_n hx hb dBg_add_33 rfl (lv_at hl 0 rfl) ?_
    exact cq_iret hx hb hr hlocks hAe hQ (t_made, t_made + 1, (pu t_homes_f t_made z)) ⟨rfl, (by (try dsimp only) <;> (first | rfl | omega | (refine Or.inl ?_; and_intros <;> first | rfl | omega) | (refine Or.inr ?_; and_intros <;> first | rfl | omega)))⟩ (hP.sub [0, 1] rfl) (hD.sub [0, 1] (by decide) rfl) hS (by decide) (by decide) dBg_add_34
  ·
    refine lv_iconst (v := iZ (-1)) hx hb dBg_add_9 (by decide) ?_
    exact cq_iret hx hb hr hlocks hAe hQ (-1, t_made, t_homes_f) ⟨rfl, (by (try dsimp only) <;> (first | rfl | omega | (refine Or.inl ?_; and_intros <;> first | rfl | omega) | (refine Or.inr ?_; and_intros <;> first | rfl | omega)))⟩ (hP.sub [0, 1] rfl) (hD.sub [0, 1] (by decide) rfl) hS (by decide) (by decide) dBg_add_10
set_option maxHeartbeats 4000000 in
set_option maxRecDepth 100000 in
theorem k_Bags_setGrams (l : Launch) (D : va_G) (cI cJ cZ : ClassId) (t_a t_homes_a t_dates_a t_lost_a t_grams_a : Nat) (sz : Nat) (t_made : Int) (t_grams_f : Int → Int) (z : Int) (kind : Int) (gm : Int) (h_z1 : -2147483648 ≤ z) (h_z2 : z < 2147483648) (h_kind1 : -2147483648 ≤ kind) (h_kind2 : kind < 2147483648) (h_gm1 : -9223372036854775808 ≤ gm) (h_gm2 : gm < 9223372036854775808) (hn1 : 0 ≤ t_made) (hn2 : t_made ≤ 12) : cq_i l yBg_setGrams wsBg_setGrams ({ frames := 1, cells := 0, slots := 0, locals := 21 }) D clAll [(cI, .int), (cJ, .long), (cZ, .boolean)] nwAll [.ref t_a, .int (iZ z), .int (iZ kind), .long (lZ gm)] [(t_a, .inr (0, [.ref t_homes_a, .ref t_dates_a, .ref t_lost_a, .ref t_grams_a, .int (iZ t_made)])), (t_grams_a, .inl (cJ, 36, .inr (.inl (aL t_grams_f))))] sz (S := Int × (Int → Int)) (fun (r : Int32) (u : Int × (Int → Int)) => r = iZ u.1 ∧ ((((0 ≤ z ∧ z < t_made) ∧ (0 ≤ kind ∧ kind < 3) ∧ 0 ≤ gm ∧ gm ≤ 10000) ∧ u.1 = 1 ∧ u.2 = pu t_grams_f (z * 3 + kind) gm) ∨ (¬ ((0 ≤ z ∧ z < t_made) ∧ (0 ≤ kind ∧ kind < 3) ∧ 0 ≤ gm ∧ gm ≤ 10000) ∧ u.1 = 0 ∧ u.2 = t_grams_f))) (fun (u : Int × (Int → Int)) => [(t_a, .inr (0, [.ref t_homes_a, .ref t_dates_a, .ref t_lost_a, .ref t_grams_a, .int (iZ t_made)])), (t_grams_a, .inl (cJ, 36, .inr (.inl (aL u.2))))]) 0 0 := by
  refine cq_enter (cc := cBg_setGrams) (maxL := 5) (ret := some .boolean) (by decide) rfl (Nat.le_of_ble_eq_true rfl) ?_
  intro p e s m below meth c A args Q H hAe hQ hsz hAt hA hP hK hD hS ls hl
  obtain ⟨hx, hb, hr, hml, hown, hts, hlocks, hin⟩ := hAt
  have hown : s.vm.findClass RBg = some m.cls := hown
  have hl : lv_has ls 5 [(0, .ref t_a), (1, .int (iZ z)), (2, .int (iZ kind)), (3, .long (lZ gm))] := hl
  refine lv_aload_n hx hb dBg_setGrams_0 rfl (lv_at hl 0 rfl) ?_
  refine lv_iload_n hx hb dBg_setGrams_1 rfl (lv_at hl 1 rfl) ?_
  refine cq_calli (wr := [(t_grams_a, .inl (cJ, 36, .inr (.inl (aL t_grams_f))))]) (va_runV (C := RBg) (As := [.int (iZ z)]) (rest := []) ⟨hx, hb, hml, hown, hts⟩ (k_Bags_has l D cI cJ cZ t_a t_homes_a t_dates_a t_lost_a t_grams_a H.size t_made z (by omega) (by omega) (by first | assumption | omega) (by first | assumption | omega)) ⟨(callB_of 1 hts (gAll cmBg_has) rfl rfl rfl (hts _ (hm g60)) (hts _ (hm g249)) (by decide +kernel) ⟨Nat.le_of_ble_eq_true rfl, Nat.le_of_ble_eq_true rfl⟩), (hts _ (hm g250)), (hts _ (hm g6))⟩ (cq_preV (va_recv hK.1 hP (ci := 0) (q0 := 0) rfl rfl) (cq_preS hK hP hD [0] (by decide) rfl)) rfl rfl hl.1 rfl (lv_room (Nat.le_of_ble_eq_true rfl)) dBg_setGrams_2 ⟨by decide, by decide⟩) hP hD hS hA [0] [1] rfl rfl (by decide) (by decide) (fun r u H locs hw_1 hP hD hS => ?_)
  obtain ⟨o_2, rfl⟩ : ∃ z, z = u := ⟨_, rfl⟩
  try dsimp only at hw_1
  obtain ⟨rfl, p_3⟩ := hw_1
  have hP : va_P D clAll [(t_grams_a, .inl (cJ, 36, .inr (.inl (aL t_grams_f)))), (t_a, .inr (0, [.ref t_homes_a, .ref t_dates_a, .ref t_lost_a, .ref t_grams_a, .int (iZ t_made)]))] H := hP
  have hD : va_D A [(t_grams_a, .inl (cJ, 36, .inr (.inl (aL t_grams_f)))), (t_a, .inr (0, [.ref t_homes_a, .ref t_dates_a, .ref t_lost_a, .ref t_grams_a, .int (iZ t_made)]))] := hD
  refine z_if_eq (tgt := 22) hx hb (by omega) (by omega) dBg_setGrams_5 (by decide) (fun c_4 => ?_) (fun c_4 => ?_)
  ·
    refine lv_iconst (v := iZ 0) hx hb dBg_setGrams_22 (by decide) ?_
    exact cq_zret hx hb hr hlocks hAe hQ (bo_narr (by omega) (by omega)) (0, t_grams_f) ⟨rfl, (by (try dsimp only) <;> (first | rfl | omega | (refine Or.inl ?_; and_intros <;> first | rfl | omega) | (refine Or.inr ?_; and_intros <;> first | rfl | omega)))⟩ (hP.sub [1, 0] rfl) (hD.sub [1, 0] (by decide) rfl) hS (by decide) (by decide) dBg_setGrams_23
  ·
    refine lv_iload_n hx hb dBg_setGrams_8 rfl (lv_at hl 2 rfl) ?_
    refine cq_calli (wr := [(t_grams_a, .inl (cJ, 36, .inr (.inl (aL t_grams_f)))), (t_a, .inr (0, [.ref t_homes_a, .ref t_dates_a, .ref t_lost_a, .ref t_grams_a, .int (iZ t_made)]))]) (va_runSN (As := [.int (iZ kind)]) (rest := []) ⟨hx, hb, hml, hown, hts⟩ (k_StratumCounts_isKind l D cI cJ cZ H.size kind (by omega) (by omega)) ⟨(va_cnB 1 hts (gAll cmSc_isKind) rfl rfl rfl (hK.2.2 _ n26) (hts _ (hm g58)) (by decide +kernel) ⟨Nat.le_of_ble_eq_true rfl, Nat.le_of_ble_eq_true rfl⟩), (hts _ (hm g252)), trivial⟩ (cq_preS hK hP hD [] (by decide) rfl) rfl rfl hl.1 rfl (lv_room (Nat.le_of_ble_eq_true rfl)) dBg_setGrams_9 ⟨by decide, by decide⟩) hP hD hS hA [] [0, 1] rfl rfl (by decide) (by decide) (fun r u H locs hw_5 hP hD hS => ?_)
    obtain ⟨o_6, rfl⟩ : ∃ z, z = u := ⟨_, rfl⟩
    try dsimp only at hw_5
    obtain ⟨rfl, p_7⟩ := hw_5
    have hP : va_P D clAll [(t_grams_a, .inl (cJ, 36, .inr (.inl (aL t_grams_f)))), (t_a, .inr (0, [.ref t_homes_a, .ref t_dates_a, .ref t_lost_a, .ref t_grams_a, .int (iZ t_made)]))] H := hP
    have hD : va_D A [(t_grams_a, .inl (cJ, 36, .inr (.inl (aL t_grams_f)))), (t_a, .inr (0, [.ref t_homes_a, .ref t_dates_a, .ref t_lost_a, .ref t_grams_a, .int (iZ t_made)]))] := hD
    refine z_if_eq (tgt := 22) hx hb (by omega) (by omega) dBg_setGrams_12 (by decide) (fun c_8 => ?_) (fun c_8 => ?_)
    ·
      refine lv_iconst (v := iZ 0) hx hb dBg_setGrams_22 (by decide) ?_
      exact cq_zret hx hb hr hlocks hAe hQ (bo_narr (by omega) (by omega)) (0, t_grams_f) ⟨rfl, (by (try dsimp only) <;> (first | rfl | omega | (refine Or.inl ?_; and_intros <;> first | rfl | omega) | (refine Or.inr ?_; and_intros <;> first | rfl | omega)))⟩ (hP.sub [1, 0] rfl) (hD.sub [1, 0] (by decide) rfl) hS (by decide) (by decide) dBg_setGrams_23
    ·
      refine lv_lload_n hx hb dBg_setGrams_15 rfl (lv_at hl 3 rfl) ?_
      refine cq_calli (wr := [(t_grams_a, .inl (cJ, 36, .inr (.inl (aL t_grams_f)))), (t_a, .inr (0, [.ref t_homes_a, .ref t_dates_a, .ref t_lost_a, .ref t_grams_a, .int (iZ t_made)]))]) (va_runSN (As := [.long (lZ gm)]) (rest := []) ⟨hx, hb, hml, hown, hts⟩ (k_StratumCounts_isGrams l D cI cJ cZ H.size gm (by omega) (by omega)) ⟨(va_cnB 1 hts (gAll cmSc_isGrams) rfl rfl rfl (hK.2.2 _ n27) (hts _ (hm g58)) (by decide +kernel) ⟨Nat.le_of_ble_eq_true rfl, Nat.le_of_ble_eq_true rfl⟩), (hts _ (hm g254)), trivial⟩ (cq_preS hK hP hD [] (by decide) rfl) rfl rfl hl.1 rfl (lv_room (Nat.le_of_ble_eq_true rfl)) dBg_setGrams_16 ⟨by decide, by decide⟩) hP hD hS hA [] [0, 1] rfl rfl (by decide) (by decide) (fun r u H locs hw_9 hP hD hS => ?_)
      obtain ⟨o_10, rfl⟩ : ∃ z, z = u := ⟨_, rfl⟩
      try dsimp only at hw_9
      obtain ⟨rfl, p_11⟩ := hw_9
      have hP : va_P D clAll [(t_grams_a, .inl (cJ, 36, .inr (.inl (aL t_grams_f)))), (t_a, .inr (0, [.ref t_homes_a, .ref t_dates_a, .ref t_lost_a, .ref t_grams_a, .int (iZ t_made)]))] H := hP
      have hD : va_D A [(t_grams_a, .inl (cJ, 36, .inr (.inl (aL t_grams_f)))), (t_a, .inr (0, [.ref t_homes_a, .ref t_dates_a, .ref t_lost_a, .ref t_grams_a, .int (iZ t_made)]))] := hD
      refine z_if_ne (tgt := 24) hx hb (by omega) (by omega) dBg_setGrams_19 (by decide) (fun c_12 => ?_) (fun c_12 => ?_)
      ·
        refine lv_aload_n hx hb dBg_setGrams_24 rfl (lv_at hl 0 rfl) ?_
        refine va_get (D := D) (ci := 0) (v := .ref t_grams_a) (C := RBg) (T := TBg) (N := 5) hx hb hts layBg hown hK.1 hP 1 rfl rfl 3 (by decide) (hts _ (hm g104)) (fun _ h9 => h9) rfl dBg_setGrams_25 ?_
        refine lv_iload_n hx hb dBg_setGrams_28 rfl (lv_at hl 1 rfl) ?_
        refine lv_iconst (v := iZ 3) hx hb dBg_setGrams_29 (by decide) ?_
        refine z_imul hx hb dBg_setGrams_30 ?_
        refine lv_iload_n hx hb dBg_setGrams_31 rfl (lv_at hl 2 rfl) ?_
        refine z_iadd hx hb dBg_setGrams_32 ?_
        refine lv_lload_n hx hb dBg_setGrams_33 rfl (lv_at hl 3 rfl) ?_
        refine z_last hx hb hK hP hD hS 0 1 rfl rfl (by omega) (by omega) (by decide) dBg_setGrams_34 (fun H locs hP hD hS => ?_)
        have hP : va_P D clAll [(t_grams_a, .inl (cJ, 36, .inr (.inl (aL (pu t_grams_f ((z * 3) + kind) gm))))), (t_a, .inr (0, [.ref t_homes_a, .ref t_dates_a, .ref t_lost_a, .ref t_grams_a, .int (iZ t_made)]))] H := hP
        have hD : va_D A [(t_grams_a, .inl (cJ, 36, .inr (.inl (aL (pu t_grams_f ((z * 3) + kind) gm))))), (t_a, .inr (0, [.ref t_homes_a, .ref t_dates_a, .ref t_lost_a, .ref t_grams_a, .int (iZ t_made)]))] := hD
        refine lv_iconst (v := iZ 1) hx hb dBg_setGrams_35 (by decide) ?_
        exact cq_zret hx hb hr hlocks hAe hQ (bo_narr (by omega) (by omega)) (1, (pu t_grams_f ((z * 3) + kind) gm)) ⟨rfl, (by (try dsimp only) <;> (first | rfl | omega | (refine Or.inl ?_; and_intros <;> first | rfl | omega) | (refine Or.inr ?_; and_intros <;> first | rfl | omega)))⟩ (hP.sub [1, 0] rfl) (hD.sub [1, 0] (by decide) rfl) hS (by decide) (by decide) dBg_setGrams_36
      ·
        refine lv_iconst (v := iZ 0) hx hb dBg_setGrams_22 (by decide) ?_
        exact cq_zret hx hb hr hlocks hAe hQ (bo_narr (by omega) (by omega)) (0, t_grams_f) ⟨rfl, (by (try dsimp only) <;> (first | rfl | omega | (refine Or.inl ?_; and_intros <;> first | rfl | omega) | (refine Or.inr ?_; and_intros <;> first | rfl | omega)))⟩ (hP.sub [1, 0] rfl) (hD.sub [1, 0] (by decide) rfl) hS (by decide) (by decide) dBg_setGrams_23
set_option maxHeartbeats 4000000 in
set_option maxRecDepth 100000 in
theorem k_Bags_setYear (l : Launch) (D : va_G) (cI cJ cZ : ClassId) (t_a t_homes_a t_dates_a t_lost_a t_grams_a : Nat) (sz : Nat) (t_made : Int) (t_dates_f : Int → Int) (z : Int) (y : Int) (h_z1 : -2147483648 ≤ z) (h_z2 : z < 2147483648) (h_y1 : -2147483648 ≤ y) (h_y2 : y < 2147483648) (hn1 : 0 ≤ t_made) (hn2 : t_made ≤ 12) : cq_i l yBg_setYear wsBg_setYear ({ frames := 1, cells := 0, slots := 0, locals := 21 }) D clAll [(cI, .int), (cJ, .long), (cZ, .boolean)] nwAll [.ref t_a, .int (iZ z), .int (iZ y)] [(t_a, .inr (0, [.ref t_homes_a, .ref t_dates_a, .ref t_lost_a, .ref t_grams_a, .int (iZ t_made)])), (t_dates_a, .inl (cI, 12, .inl (aI t_dates_f)))] sz (S := Int × (Int → Int)) (fun (r : Int32) (u : Int × (Int → Int)) => r = iZ u.1 ∧ ((((0 ≤ z ∧ z < t_made) ∧ 0 ≤ y ∧ y < 2) ∧ u.1 = 1 ∧ u.2 = pu t_dates_f z y) ∨ (¬ ((0 ≤ z ∧ z < t_made) ∧ 0 ≤ y ∧ y < 2) ∧ u.1 = 0 ∧ u.2 = t_dates_f))) (fun (u : Int × (Int → Int)) => [(t_a, .inr (0, [.ref t_homes_a, .ref t_dates_a, .ref t_lost_a, .ref t_grams_a, .int (iZ t_made)])), (t_dates_a, .inl (cI, 12, .inl (aI u.2)))]) 0 0 := by
  refine cq_enter (cc := cBg_setYear) (maxL := 3) (ret := some .boolean) (by decide) rfl (Nat.le_of_ble_eq_true rfl) ?_
  intro p e s m below meth c A args Q H hAe hQ hsz hAt hA hP hK hD hS ls hl
  obtain ⟨hx, hb, hr, hml, hown, hts, hlocks, hin⟩ := hAt
  have hown : s.vm.findClass RBg = some m.cls := hown
  have hl : lv_has ls 3 [(0, .ref t_a), (1, .int (iZ z)), (2, .int (iZ y))] := hl
  refine lv_aload_n hx hb dBg_setYear_0 rfl (lv_at hl 0 rfl) ?_
  refine lv_iload_n hx hb dBg_setYear_1 rfl (lv_at hl 1 rfl) ?_
  refine cq_calli (wr := [(t_dates_a, .inl (cI, 12, .inl (aI t_dates_f)))]) (va_runV (C := RBg) (As := [.int (iZ z)]) (rest := []) ⟨hx, hb, hml, hown, hts⟩ (k_Bags_has l D cI cJ cZ t_a t_homes_a t_dates_a t_lost_a t_grams_a H.size t_made z (by omega) (by omega) (by first | assumption | omega) (by first | assumption | omega)) ⟨(callB_of 1 hts (gAll cmBg_has) rfl rfl rfl (hts _ (hm g60)) (hts _ (hm g249)) (by decide +kernel) ⟨Nat.le_of_ble_eq_true rfl, Nat.le_of_ble_eq_true rfl⟩), (hts _ (hm g250)), (hts _ (hm g6))⟩ (cq_preV (va_recv hK.1 hP (ci := 0) (q0 := 0) rfl rfl) (cq_preS hK hP hD [0] (by decide) rfl)) rfl rfl hl.1 rfl (lv_room (Nat.le_of_ble_eq_true rfl)) dBg_setYear_2 ⟨by decide, by decide⟩) hP hD hS hA [0] [1] rfl rfl (by decide) (by decide) (fun r u H locs hw_1 hP hD hS => ?_)
  obtain ⟨o_2, rfl⟩ : ∃ z, z = u := ⟨_, rfl⟩
  try dsimp only at hw_1
  obtain ⟨rfl, p_3⟩ := hw_1
  have hP : va_P D clAll [(t_dates_a, .inl (cI, 12, .inl (aI t_dates_f))), (t_a, .inr (0, [.ref t_homes_a, .ref t_dates_a, .ref t_lost_a, .ref t_grams_a, .int (iZ t_made)]))] H := hP
  have hD : va_D A [(t_dates_a, .inl (cI, 12, .inl (aI t_dates_f))), (t_a, .inr (0, [.ref t_homes_a, .ref t_dates_a, .ref t_lost_a, .ref t_grams_a, .int (iZ t_made)]))] := hD
  refine z_if_eq (tgt := 17) hx hb (by omega) (by omega) dBg_setYear_5 (by decide) (fun c_4 => ?_) (fun c_4 => ?_)
  ·
    refine lv_iconst (v := iZ 0) hx hb dBg_setYear_17 (by decide) ?_
    exact cq_zret hx hb hr hlocks hAe hQ (bo_narr (by omega) (by omega)) (0, t_dates_f) ⟨rfl, (by (try dsimp only) <;> (first | rfl | omega | (refine Or.inl ?_; and_intros <;> first | rfl | omega) | (refine Or.inr ?_; and_intros <;> first | rfl | omega)))⟩ (hP.sub [1, 0] rfl) (hD.sub [1, 0] (by decide) rfl) hS (by decide) (by decide) dBg_setYear_18
  ·
    refine lv_iload_n hx hb dBg_setYear_8 rfl (lv_at hl 2 rfl) ?_
    refine z_if_lt (tgt := 17) hx hb (by omega) (by omega) dBg_setYear_9 (by decide) (fun c_5 => ?_) (fun c_5 => ?_)
    ·
      refine lv_iconst (v := iZ 0) hx hb dBg_setYear_17 (by decide) ?_
      exact cq_zret hx hb hr hlocks hAe hQ (bo_narr (by omega) (by omega)) (0, t_dates_f) ⟨rfl, (by (try dsimp only) <;> (first | rfl | omega | (refine Or.inl ?_; and_intros <;> first | rfl | omega) | (refine Or.inr ?_; and_intros <;> first | rfl | omega)))⟩ (hP.sub [1, 0] rfl) (hD.sub [1, 0] (by decide) rfl) hS (by decide) (by decide) dBg_setYear_18
    ·
      refine lv_iload_n hx hb dBg_setYear_12 rfl (lv_at hl 2 rfl) ?_
      refine lv_iconst (v := iZ 2) hx hb dBg_setYear_13 (by decide) ?_
      refine z_icmp_lt (tgt := 19) hx hb (by omega) (by omega) (by omega) (by omega) dBg_setYear_14 (by decide) (fun c_6 => ?_) (fun c_6 => ?_)
      ·
        refine lv_aload_n hx hb dBg_setYear_19 rfl (lv_at hl 0 rfl) ?_
        refine va_get (D := D) (ci := 0) (v := .ref t_dates_a) (C := RBg) (T := TBg) (N := 5) hx hb hts layBg hown hK.1 hP 1 rfl rfl 1 (by decide) (hts _ (hm g102)) (fun _ h9 => h9) rfl dBg_setYear_20 ?_
        refine lv_iload_n hx hb dBg_setYear_23 rfl (lv_at hl 1 rfl) ?_
        refine lv_iload_n hx hb dBg_setYear_24 rfl (lv_at hl 2 rfl) ?_
        refine z_iast hx hb hK hP hD hS 0 0 rfl rfl (by omega) (by omega) (by decide) dBg_setYear_25 (fun H locs hP hD hS => ?_)
        have hP : va_P D clAll [(t_dates_a, .inl (cI, 12, .inl (aI (pu t_dates_f z y)))), (t_a, .inr (0, [.ref t_homes_a, .ref t_dates_a, .ref t_lost_a, .ref t_grams_a, .int (iZ t_made)]))] H := hP
        have hD : va_D A [(t_dates_a, .inl (cI, 12, .inl (aI (pu t_dates_f z y)))), (t_a, .inr (0, [.ref t_homes_a, .ref t_dates_a, .ref t_lost_a, .ref t_grams_a, .int (iZ t_made)]))] := hD
        refine lv_iconst (v := iZ 1) hx hb dBg_setYear_26 (by decide) ?_
        exact cq_zret hx hb hr hlocks hAe hQ (bo_narr (by omega) (by omega)) (1, (pu t_dates_f z y)) ⟨rfl, (by (try dsimp only) <;> (first | rfl | omega | (refine Or.inl ?_; and_intros <;> first | rfl | omega) | (refine Or.inr ?_; and_intros <;> first | rfl | omega)))⟩ (hP.sub [1, 0] rfl) (hD.sub [1, 0] (by decide) rfl) hS (by decide) (by decide) dBg_setYear_27
      ·
        refine lv_iconst (v := iZ 0) hx hb dBg_setYear_17 (by decide) ?_
        exact cq_zret hx hb hr hlocks hAe hQ (bo_narr (by omega) (by omega)) (0, t_dates_f) ⟨rfl, (by (try dsimp only) <;> (first | rfl | omega | (refine Or.inl ?_; and_intros <;> first | rfl | omega) | (refine Or.inr ?_; and_intros <;> first | rfl | omega)))⟩ (hP.sub [1, 0] rfl) (hD.sub [1, 0] (by decide) rfl) hS (by decide) (by decide) dBg_setYear_18
set_option maxHeartbeats 4000000 in
set_option maxRecDepth 100000 in
theorem k_Bags_lose (l : Launch) (D : va_G) (cI cJ cZ : ClassId) (t_a t_homes_a t_dates_a t_lost_a t_grams_a : Nat) (sz : Nat) (t_made : Int) (t_lost_f : Int → Int) (z : Int) (h_z1 : -2147483648 ≤ z) (h_z2 : z < 2147483648) (hn1 : 0 ≤ t_made) (hn2 : t_made ≤ 12) (hlo : ∀ j, 0 ≤ t_lost_f j ∧ t_lost_f j ≤ 1) : cq_i l yBg_lose wsBg_lose ({ frames := 1, cells := 0, slots := 0, locals := 21 }) D clAll [(cI, .int), (cJ, .long), (cZ, .boolean)] nwAll [.ref t_a, .int (iZ z)] [(t_a, .inr (0, [.ref t_homes_a, .ref t_dates_a, .ref t_lost_a, .ref t_grams_a, .int (iZ t_made)])), (t_lost_a, .inl (cZ, 12, .inl (aI t_lost_f)))] sz (S := Int × (Int → Int)) (fun (r : Int32) (u : Int × (Int → Int)) => r = iZ u.1 ∧ (((0 ≤ z ∧ z < t_made ∧ t_lost_f z = 0) ∧ u.1 = 1 ∧ u.2 = pu t_lost_f z 1) ∨ (¬ (0 ≤ z ∧ z < t_made ∧ t_lost_f z = 0) ∧ u.1 = 0 ∧ u.2 = t_lost_f))) (fun (u : Int × (Int → Int)) => [(t_a, .inr (0, [.ref t_homes_a, .ref t_dates_a, .ref t_lost_a, .ref t_grams_a, .int (iZ t_made)])), (t_lost_a, .inl (cZ, 12, .inl (aI u.2)))]) 0 0 := by
  refine cq_enter (cc := cBg_lose) (maxL := 2) (ret := some .boolean) (by decide) rfl (Nat.le_of_ble_eq_true rfl) ?_
  intro p e s m below meth c A args Q H hAe hQ hsz hAt hA hP hK hD hS ls hl
  obtain ⟨hx, hb, hr, hml, hown, hts, hlocks, hin⟩ := hAt
  have hown : s.vm.findClass RBg = some m.cls := hown
  have hl : lv_has ls 2 [(0, .ref t_a), (1, .int (iZ z))] := hl
  refine lv_aload_n hx hb dBg_lose_0 rfl (lv_at hl 0 rfl) ?_
  refine lv_iload_n hx hb dBg_lose_1 rfl (lv_at hl 1 rfl) ?_
  refine cq_calli (wr := [(t_lost_a, .inl (cZ, 12, .inl (aI t_lost_f)))]) (va_runV (C := RBg) (As := [.int (iZ z)]) (rest := []) ⟨hx, hb, hml, hown, hts⟩ (k_Bags_has l D cI cJ cZ t_a t_homes_a t_dates_a t_lost_a t_grams_a H.size t_made z (by omega) (by omega) (by first | assumption | omega) (by first | assumption | omega)) ⟨(callB_of 1 hts (gAll cmBg_has) rfl rfl rfl (hts _ (hm g60)) (hts _ (hm g249)) (by decide +kernel) ⟨Nat.le_of_ble_eq_true rfl, Nat.le_of_ble_eq_true rfl⟩), (hts _ (hm g250)), (hts _ (hm g6))⟩ (cq_preV (va_recv hK.1 hP (ci := 0) (q0 := 0) rfl rfl) (cq_preS hK hP hD [0] (by decide) rfl)) rfl rfl hl.1 rfl (lv_room (Nat.le_of_ble_eq_true rfl)) dBg_lose_2 ⟨by decide, by decide⟩) hP hD hS hA [0] [1] rfl rfl (by decide) (by decide) (fun r u H locs hw_1 hP hD hS => ?_)
  obtain ⟨o_2, rfl⟩ : ∃ z, z = u := ⟨_, rfl⟩
  try dsimp only at hw_1
  obtain ⟨rfl, p_3⟩ := hw_1
  have hP : va_P D clAll [(t_lost_a, .inl (cZ, 12, .inl (aI t_lost_f))), (t_a, .inr (0, [.ref t_homes_a, .ref t_dates_a, .ref t_lost_a, .ref t_grams_a, .int (iZ t_made)]))] H := hP
  have hD : va_D A [(t_lost_a, .inl (cZ, 12, .inl (aI t_lost_f))), (t_a, .inr (0, [.ref t_homes_a, .ref t_dates_a, .ref t_lost_a, .ref t_grams_a, .int (iZ t_made)]))] := hD
  refine z_if_eq (tgt := 17) hx hb (by omega) (by omega) dBg_lose_5 (by decide) (fun c_4 => ?_) (fun c_4 => ?_)
  ·
    refine lv_iconst (v := iZ 0) hx hb dBg_lose_17 (by decide) ?_
    exact cq_zret hx hb hr hlocks hAe hQ (bo_narr (by omega) (by omega)) (0, t_lost_f) ⟨rfl, (by (try dsimp only) <;> (first | rfl | omega | (refine Or.inl ?_; and_intros <;> first | rfl | omega) | (refine Or.inr ?_; and_intros <;> first | rfl | omega)))⟩ (hP.sub [1, 0] rfl) (hD.sub [1, 0] (by decide) rfl) hS (by decide) (by decide) dBg_lose_18
  ·
    refine lv_aload_n hx hb dBg_lose_8 rfl (lv_at hl 0 rfl) ?_
    refine va_get (D := D) (ci := 0) (v := .ref t_lost_a) (C := RBg) (T := TBg) (N := 5) hx hb hts layBg hown hK.1 hP 1 rfl rfl 2 (by decide) (hts _ (hm g103)) (fun _ h9 => h9) rfl dBg_lose_9 ?_
    refine lv_iload_n hx hb dBg_lose_12 rfl (lv_at hl 1 rfl) ?_
    refine z_zald hx hb hK hP 0 2 rfl rfl (by omega) (by omega) (by decide) dBg_lose_13 ?_
    have f_5 := hlo z
    refine z_if_eq (tgt := 19) hx hb (by omega) (by omega) dBg_lose_14 (by decide) (fun c_6 => ?_) (fun c_6 => ?_)
    ·
      refine lv_aload_n hx hb dBg_lose_19 rfl (lv_at hl 0 rfl) ?_
      refine va_get (D := D) (ci := 0) (v := .ref t_lost_a) (C := RBg) (T := TBg) (N := 5) hx hb hts layBg hown hK.1 hP 1 rfl rfl 2 (by decide) (hts _ (hm g103)) (fun _ h9 => h9) rfl dBg_lose_20 ?_
      refine lv_iload_n hx hb dBg_lose_23 rfl (lv_at hl 1 rfl) ?_
      refine lv_iconst (v := iZ 1) hx hb dBg_lose_24 (by decide) ?_
      refine z_zast hx hb hK hP hD hS 0 2 rfl rfl (by omega) (by omega) (by decide) (by omega) (by omega) dBg_lose_25 (fun H locs hP hD hS => ?_)
      have hP : va_P D clAll [(t_lost_a, .inl (cZ, 12, .inl (aI (pu t_lost_f z 1)))), (t_a, .inr (0, [.ref t_homes_a, .ref t_dates_a, .ref t_lost_a, .ref t_grams_a, .int (iZ t_made)]))] H := hP
      have hD : va_D A [(t_lost_a, .inl (cZ, 12, .inl (aI (pu t_lost_f z 1)))), (t_a, .inr (0, [.ref t_homes_a, .ref t_dates_a, .ref t_lost_a, .ref t_grams_a, .int (iZ t_made)]))] := hD
      refine lv_iconst (v := iZ 1) hx hb dBg_lose_26 (by decide) ?_
      exact cq_zret hx hb hr hlocks hAe hQ (bo_narr (by omega) (by omega)) (1, (pu t_lost_f z 1)) ⟨rfl, (by (try dsimp only) <;> (first | rfl | omega | (refine Or.inl ?_; and_intros <;> first | rfl | omega) | (refine Or.inr ?_; and_intros <;> first | rfl | omega)))⟩ (hP.sub [1, 0] rfl) (hD.sub [1, 0] (by decide) rfl) hS (by decide) (by decide) dBg_lose_27
    ·
      refine lv_iconst (v := iZ 0) hx hb dBg_lose_17 (by decide) ?_
      exact cq_zret hx hb hr hlocks hAe hQ (bo_narr (by omega) (by omega)) (0, t_lost_f) ⟨rfl, (by (try dsimp only) <;> (first | rfl | omega | (refine Or.inl ?_; and_intros <;> first | rfl | omega) | (refine Or.inr ?_; and_intros <;> first | rfl | omega)))⟩ (hP.sub [1, 0] rfl) (hD.sub [1, 0] (by decide) rfl) hS (by decide) (by decide) dBg_lose_18
set_option maxHeartbeats 4000000 in
set_option maxRecDepth 100000 in
theorem k_Bags_move (l : Launch) (D : va_G) (cI cJ cZ : ClassId) (t_a t_homes_a t_dates_a t_lost_a t_grams_a : Nat) (sz : Nat) (t_made : Int) (t_homes_f : Int → Int) (zf : Int) (zi : Int) (h_zf1 : -2147483648 ≤ zf) (h_zf2 : zf < 2147483648) (h_zi1 : -2147483648 ≤ zi) (h_zi2 : zi < 2147483648) (hn1 : 0 ≤ t_made) (hn2 : t_made ≤ 12) (hho : ∀ j, 0 ≤ t_homes_f j ∧ t_homes_f j ≤ 3) (hzi : 0 ≤ zi ∧ zi ≤ 3) : cq_v l yBg_move wsBg_move ({ frames := 0, cells := 0, slots := 0, locals := 0 }) D clAll [(cI, .int), (cJ, .long), (cZ, .boolean)] nwAll [.ref t_a, .int (iZ zf), .int (iZ zi)] [(t_a, .inr (0, [.ref t_homes_a, .ref t_dates_a, .ref t_lost_a, .ref t_grams_a, .int (iZ t_made)])), (t_homes_a, .inl (cI, 12, .inl (aI t_homes_f)))] sz (S := (Int → Int)) (fun (u : (Int → Int)) => (u = mv t_homes_f t_made zf zi)) (fun (u : (Int → Int)) => [(t_a, .inr (0, [.ref t_homes_a, .ref t_dates_a, .ref t_lost_a, .ref t_grams_a, .int (iZ t_made)])), (t_homes_a, .inl (cI, 12, .inl (aI u)))]) 0 0 := by
  refine cq_enter (cc := cBg_move) (maxL := 4) (ret := none) (by decide) rfl (Nat.le_of_ble_eq_true rfl) ?_
  intro p e s m below meth c A args Q H hAe hQ hsz hAt hA hP hK hD hS ls hl
  obtain ⟨hx, hb, hr, hml, hown, hts, hlocks, hin⟩ := hAt
  have hown : s.vm.findClass RBg = some m.cls := hown
  have hl : lv_has ls 4 [(0, .ref t_a), (1, .int (iZ zf)), (2, .int (iZ zi))] := hl
  refine lv_iconst (v := iZ 0) hx hb dBg_move_0 (by decide) ?_
  refine lv_istore_n (lv' := [(3, .int (iZ 0)), (0, .ref t_a), (1, .int (iZ zf)), (2, .int (iZ zi))]) hx hb dBg_move_1 rfl hl (by decide) rfl (fun ls hl => ?_)
  have loop_1 : ∀ (n_3 : Nat) (i : Int) (homes : Int → Int), (0 ≤ i) → (i ≤ t_made) → (homes = mv t_homes_f i zf zi) → (∀ j, 0 ≤ homes j ∧ homes j ≤ 3) → (t_made - i < (n_3 : Int)) → ∀ (H : Heap) (locs : List Loc), va_P D clAll [(t_a, .inr (0, [.ref t_homes_a, .ref t_dates_a, .ref t_lost_a, .ref t_grams_a, .int (iZ t_made)])), (t_homes_a, .inl (cI, 12, .inl (aI homes)))] H → va_D A [(t_a, .inr (0, [.ref t_homes_a, .ref t_dates_a, .ref t_lost_a, .ref t_grams_a, .int (iZ t_made)])), (t_homes_a, .inl (cI, 12, .inl (aI homes)))] → va_S A s.heap H locs → ∀ ls : Array Slot, lv_has ls 4 [(0, .ref t_a), (1, .int (iZ zf)), (2, .int (iZ zi)), (3, .int (iZ i))] → W p l e { frames := 0, cells := 0, slots := 0, locals := 0 } s m args below meth c H locs 0 0 Q (F0 m 2 ls []) := by
    intro n_3
    induction n_3 with
    | zero => intro i homes hi hi2 hmv hmb hm_4; exact absurd hm_4 (by omega)
    | succ n_3 ih_2 =>
      intro i homes hi hi2 hmv hmb hm_4 H locs hP hD hS ls hl
      refine lv_iload_n hx hb dBg_move_2 rfl (lv_at hl 3 rfl) ?_
      refine lv_aload_n hx hb dBg_move_3 rfl (lv_at hl 0 rfl) ?_
      refine va_get (D := D) (ci := 0) (v := .int (iZ t_made)) (C := RBg) (T := TBg) (N := 5) hx hb hts layBg hown hK.1 hP 0 rfl rfl 4 (by decide) (hts _ (hm g105)) (fun _ h9 => h9) rfl dBg_move_4 ?_
      refine z_icmp_ge (tgt := 33) hx hb (by omega) (by omega) (by omega) (by omega) dBg_move_7 (by decide) (fun c_5 => ?_) (fun c_5 => ?_)
      ·
        exact cq_vret hx hb hr hlocks hAe hQ homes (by (try dsimp only) <;> (exact mv_end hmv (by omega))) (hP.sub [0, 1] rfl) (hD.sub [0, 1] (by decide) rfl) hS (by decide) (by decide) dBg_move_33
      ·
        refine lv_aload_n hx hb dBg_move_10 rfl (lv_at hl 0 rfl) ?_
        refine va_get (D := D) (ci := 0) (v := .ref t_homes_a) (C := RBg) (T := TBg) (N := 5) hx hb hts layBg hown hK.1 hP 0 rfl rfl 0 (by decide) (hts _ (hm g101)) (fun _ h9 => h9) rfl dBg_move_11 ?_
        refine lv_iload_n hx hb dBg_move_14 rfl (lv_at hl 3 rfl) ?_
        refine z_iald hx hb hK hP 1 0 rfl rfl (by omega) (by omega) (by decide) dBg_move_15 ?_
        have f_6 := hmb i
        refine lv_iload_n hx hb dBg_move_16 rfl (lv_at hl 1 rfl) ?_
        refine z_icmp_ne (tgt := 27) hx hb (by omega) (by omega) (by omega) (by omega) dBg_move_17 (by decide) (fun c_7 => ?_) (fun c_7 => ?_)
        ·
          refine lv_iinc (v := iZ (i + 1)) (lv' := [(3, .int (iZ (i + 1))), (0, .ref t_a), (1, .int (iZ zf)), (2, .int (iZ zi))]) hx hb dBg_move_27 hl (k := 3) rfl (iZ_add i 1) (by decide) rfl (fun ls hl => ?_)
          refine lv_goto (tgt := 2) hx hb dBg_move_30 (by decide) ?_
          exact ih_2  (i + 1) homes (by omega) (by omega) (by first | exact mv_hit hmv hi (by assumption) | exact mv_miss hmv hi (by assumption)) (by first | exact pu_all hmb (by omega) (by omega) | exact hmb) (by omega) _ _ (hP.sub [0, 1] rfl) (hD.sub [0, 1] (by decide) rfl) hS ls (lv_sub hl [1, 2, 3, 0] rfl)
        ·
          refine lv_aload_n hx hb dBg_move_20 rfl (lv_at hl 0 rfl) ?_
          refine va_get (D := D) (ci := 0) (v := .ref t_homes_a) (C := RBg) (T := TBg) (N := 5) hx hb hts layBg hown hK.1 hP 0 rfl rfl 0 (by decide) (hts _ (hm g101)) (fun _ h9 => h9) rfl dBg_move_21 ?_
          refine lv_iload_n hx hb dBg_move_24 rfl (lv_at hl 3 rfl) ?_
          refine lv_iload_n hx hb dBg_move_25 rfl (lv_at hl 2 rfl) ?_
          refine z_iast hx hb hK hP hD hS 1 0 rfl rfl (by omega) (by omega) (by decide) dBg_move_26 (fun H locs hP hD hS => ?_)
          have hP : va_P D clAll [(t_a, .inr (0, [.ref t_homes_a, .ref t_dates_a, .ref t_lost_a, .ref t_grams_a, .int (iZ t_made)])), (t_homes_a, .inl (cI, 12, .inl (aI (pu homes i zi))))] H := hP
          have hD : va_D A [(t_a, .inr (0, [.ref t_homes_a, .ref t_dates_a, .ref t_lost_a, .ref t_grams_a, .int (iZ t_made)])), (t_homes_a, .inl (cI, 12, .inl (aI (pu homes i zi))))] := hD
          refine lv_iinc (v := iZ (i + 1)) (lv' := [(3, .int (iZ (i + 1))), (0, .ref t_a), (1, .int (iZ zf)), (2, .int (iZ zi))]) hx hb dBg_move_27 hl (k := 3) rfl (iZ_add i 1) (by decide) rfl (fun ls hl => ?_)
          refine lv_goto (tgt := 2) hx hb dBg_move_30 (by decide) ?_
          exact ih_2  (i + 1) (pu homes i zi) (by omega) (by omega) (by first | exact mv_hit hmv hi (by assumption) | exact mv_miss hmv hi (by assumption)) (by first | exact pu_all hmb (by omega) (by omega) | exact hmb) (by omega) _ _ (hP.sub [0, 1] rfl) (hD.sub [0, 1] (by decide) rfl) hS ls (lv_sub hl [1, 2, 3, 0] rfl)
  exact loop_1 ((t_made - 0 : Int).toNat + 1) 0 t_homes_f (by omega) (by omega) (by exact mv_0) (by exact hho) (by omega) _ _ (hP.sub [0, 1] rfl) (hD.sub [0, 1] (by decide) rfl) hS ls (lv_sub hl [1, 2, 3, 0] rfl)
set_option maxHeartbeats 4000000 in
set_option maxRecDepth 100000 in
theorem k_Bags_gramsOf (l : Launch) (D : va_G) (cI cJ cZ : ClassId) (t_a t_homes_a t_dates_a t_lost_a t_grams_a : Nat) (sz : Nat) (t_made : Int) (t_grams_f : Int → Int) (z : Int) (kind : Int) (h_z1 : -2147483648 ≤ z) (h_z2 : z < 2147483648) (h_kind1 : -2147483648 ≤ kind) (h_kind2 : kind < 2147483648) (hn1 : 0 ≤ t_made) (hn2 : t_made ≤ 12) (hz : 0 ≤ z ∧ z < t_made) (hk : 0 ≤ kind ∧ kind < 3) : cq_l l yBg_gramsOf wsBg_gramsOf ({ frames := 1, cells := 0, slots := 0, locals := 21 }) D clAll [(cI, .int), (cJ, .long), (cZ, .boolean)] nwAll [.ref t_a, .int (iZ z), .int (iZ kind)] [(t_a, .inr (0, [.ref t_homes_a, .ref t_dates_a, .ref t_lost_a, .ref t_grams_a, .int (iZ t_made)])), (t_grams_a, .inl (cJ, 36, .inr (.inl (aL t_grams_f))))] sz (S := Int) (fun (r : Int64) (u : Int) => r = lZ u ∧ (u = t_grams_f (z * 3 + kind))) (fun (u : Int) => [(t_a, .inr (0, [.ref t_homes_a, .ref t_dates_a, .ref t_lost_a, .ref t_grams_a, .int (iZ t_made)])), (t_grams_a, .inl (cJ, 36, .inr (.inl (aL t_grams_f))))]) 0 0 := by
  refine cq_enter (cc := cBg_gramsOf) (maxL := 3) (ret := some .long) (by decide) rfl (Nat.le_of_ble_eq_true rfl) ?_
  intro p e s m below meth c A args Q H hAe hQ hsz hAt hA hP hK hD hS ls hl
  obtain ⟨hx, hb, hr, hml, hown, hts, hlocks, hin⟩ := hAt
  have hown : s.vm.findClass RBg = some m.cls := hown
  have hl : lv_has ls 3 [(0, .ref t_a), (1, .int (iZ z)), (2, .int (iZ kind))] := hl
  refine lv_aload_n hx hb dBg_gramsOf_0 rfl (lv_at hl 0 rfl) ?_
  refine lv_iload_n hx hb dBg_gramsOf_1 rfl (lv_at hl 1 rfl) ?_
  refine cq_calli (wr := [(t_grams_a, .inl (cJ, 36, .inr (.inl (aL t_grams_f))))]) (va_runV (C := RBg) (As := [.int (iZ z)]) (rest := []) ⟨hx, hb, hml, hown, hts⟩ (k_Bags_has l D cI cJ cZ t_a t_homes_a t_dates_a t_lost_a t_grams_a H.size t_made z (by omega) (by omega) (by first | assumption | omega) (by first | assumption | omega)) ⟨(callB_of 1 hts (gAll cmBg_has) rfl rfl rfl (hts _ (hm g60)) (hts _ (hm g249)) (by decide +kernel) ⟨Nat.le_of_ble_eq_true rfl, Nat.le_of_ble_eq_true rfl⟩), (hts _ (hm g250)), (hts _ (hm g6))⟩ (cq_preV (va_recv hK.1 hP (ci := 0) (q0 := 0) rfl rfl) (cq_preS hK hP hD [0] (by decide) rfl)) rfl rfl hl.1 rfl (lv_room (Nat.le_of_ble_eq_true rfl)) dBg_gramsOf_2 ⟨by decide, by decide⟩) hP hD hS hA [0] [1] rfl rfl (by decide) (by decide) (fun r u H locs hw_1 hP hD hS => ?_)
  obtain ⟨o_2, rfl⟩ : ∃ z, z = u := ⟨_, rfl⟩
  try dsimp only at hw_1
  obtain ⟨rfl, p_3⟩ := hw_1
  have hP : va_P D clAll [(t_grams_a, .inl (cJ, 36, .inr (.inl (aL t_grams_f)))), (t_a, .inr (0, [.ref t_homes_a, .ref t_dates_a, .ref t_lost_a, .ref t_grams_a, .int (iZ t_made)]))] H := hP
  have hD : va_D A [(t_grams_a, .inl (cJ, 36, .inr (.inl (aL t_grams_f)))), (t_a, .inr (0, [.ref t_homes_a, .ref t_dates_a, .ref t_lost_a, .ref t_grams_a, .int (iZ t_made)]))] := hD
  refine z_if_eq (tgt := 28) hx hb (by omega) (by omega) dBg_gramsOf_5 (by decide) (fun c_4 => ?_) (fun c_4 => ?_)
  ·
    refine lv_lconst (v := lZ 0) hx hb dBg_gramsOf_28 (by decide) ?_
    exact cq_lret hx hb hr hlocks hAe hQ 0 ⟨rfl, (by (try dsimp only) <;> (first | rfl | omega | (refine Or.inl ?_; and_intros <;> first | rfl | omega) | (refine Or.inr ?_; and_intros <;> first | rfl | omega)))⟩ (hP.sub [1, 0] rfl) (hD.sub [1, 0] (by decide) rfl) hS (by decide) (by decide) dBg_gramsOf_29
  ·
    refine lv_iload_n hx hb dBg_gramsOf_8 rfl (lv_at hl 2 rfl) ?_
    refine cq_calli (wr := [(t_grams_a, .inl (cJ, 36, .inr (.inl (aL t_grams_f)))), (t_a, .inr (0, [.ref t_homes_a, .ref t_dates_a, .ref t_lost_a, .ref t_grams_a, .int (iZ t_made)]))]) (va_runSN (As := [.int (iZ kind)]) (rest := []) ⟨hx, hb, hml, hown, hts⟩ (k_StratumCounts_isKind l D cI cJ cZ H.size kind (by omega) (by omega)) ⟨(va_cnB 1 hts (gAll cmSc_isKind) rfl rfl rfl (hK.2.2 _ n26) (hts _ (hm g58)) (by decide +kernel) ⟨Nat.le_of_ble_eq_true rfl, Nat.le_of_ble_eq_true rfl⟩), (hts _ (hm g252)), trivial⟩ (cq_preS hK hP hD [] (by decide) rfl) rfl rfl hl.1 rfl (lv_room (Nat.le_of_ble_eq_true rfl)) dBg_gramsOf_9 ⟨by decide, by decide⟩) hP hD hS hA [] [0, 1] rfl rfl (by decide) (by decide) (fun r u H locs hw_5 hP hD hS => ?_)
    obtain ⟨o_6, rfl⟩ : ∃ z, z = u := ⟨_, rfl⟩
    try dsimp only at hw_5
    obtain ⟨rfl, p_7⟩ := hw_5
    have hP : va_P D clAll [(t_grams_a, .inl (cJ, 36, .inr (.inl (aL t_grams_f)))), (t_a, .inr (0, [.ref t_homes_a, .ref t_dates_a, .ref t_lost_a, .ref t_grams_a, .int (iZ t_made)]))] H := hP
    have hD : va_D A [(t_grams_a, .inl (cJ, 36, .inr (.inl (aL t_grams_f)))), (t_a, .inr (0, [.ref t_homes_a, .ref t_dates_a, .ref t_lost_a, .ref t_grams_a, .int (iZ t_made)]))] := hD
    refine z_if_eq (tgt := 28) hx hb (by omega) (by omega) dBg_gramsOf_12 (by decide) (fun c_8 => ?_) (fun c_8 => ?_)
    ·
      refine lv_lconst (v := lZ 0) hx hb dBg_gramsOf_28 (by decide) ?_
      exact cq_lret hx hb hr hlocks hAe hQ 0 ⟨rfl, (by (try dsimp only) <;> (first | rfl | omega | (refine Or.inl ?_; and_intros <;> first | rfl | omega) | (refine Or.inr ?_; and_intros <;> first | rfl | omega)))⟩ (hP.sub [1, 0] rfl) (hD.sub [1, 0] (by decide) rfl) hS (by decide) (by decide) dBg_gramsOf_29
    ·
      refine lv_aload_n hx hb dBg_gramsOf_15 rfl (lv_at hl 0 rfl) ?_
      refine va_get (D := D) (ci := 0) (v := .ref t_grams_a) (C := RBg) (T := TBg) (N := 5) hx hb hts layBg hown hK.1 hP 1 rfl rfl 3 (by decide) (hts _ (hm g104)) (fun _ h9 => h9) rfl dBg_gramsOf_16 ?_
      refine lv_iload_n hx hb dBg_gramsOf_19 rfl (lv_at hl 1 rfl) ?_
      refine lv_iconst (v := iZ 3) hx hb dBg_gramsOf_20 (by decide) ?_
      refine z_imul hx hb dBg_gramsOf_21 ?_
      refine lv_iload_n hx hb dBg_gramsOf_22 rfl (lv_at hl 2 rfl) ?_
      refine z_iadd hx hb dBg_gramsOf_23 ?_
      refine z_lald hx hb hK hP 0 1 rfl rfl (by omega) (by omega) (by decide) dBg_gramsOf_24 ?_
      refine lv_goto (tgt := 29) hx hb dBg_gramsOf_25 (by decide) ?_
      exact cq_lret hx hb hr hlocks hAe hQ (t_grams_f ((z * 3) + kind)) ⟨rfl, (by (try dsimp only) <;> (first | rfl | omega | (refine Or.inl ?_; and_intros <;> first | rfl | omega) | (refine Or.inr ?_; and_intros <;> first | rfl | omega)))⟩ (hP.sub [1, 0] rfl) (hD.sub [1, 0] (by decide) rfl) hS (by decide) (by decide) dBg_gramsOf_29
