set_option maxHeartbeats 4000000 in
set_option maxRecDepth 100000 in
theorem m_isIn (l : Launch) (D : va_G) (cI cJ cZ : ClassId) (sz : Nat) (nv : Int) (nl : Int) (nm : Int) (h_nv1 : -9223372036854775808 ≤ nv) (h_nv2 : nv < 9223372036854775808) (h_nl1 : -9223372036854775808 ≤ nl) (h_nl2 : nl < 9223372036854775808) (h_nm1 : -9223372036854775808 ≤ nm) (h_nm2 : nm < 9223372036854775808) : cq_i l yMd_isIn wsMd_isIn ({ frames := 0, cells := 0, slots := 0, locals := 0 }) D clAll [(cI, .int), (cJ, .long), (cZ, .boolean)] nwAll [.long (lZ nv), .long (lZ nl), .long (lZ nm)] [] sz (S := Int) (fun (r : Int32) (u : Int) => r = iZ u ∧ ((u = 1 ∧ nl ≤ nv ∧ nv ≤ nm) ∨ (u = 0 ∧ ¬ (nl ≤ nv ∧ nv ≤ nm)))) (fun (u : Int) => []) 0 0 := by
  refine cq_enter (cc := cMd_isIn) (maxL := 6) (ret := some .boolean) (by decide) rfl (Nat.le_of_ble_eq_true rfl) ?_
  intro p e s m below meth c A args Q H hAe hQ hsz hAt hA hP hK hD hS ls hl
  obtain ⟨hx, hb, hr, hml, hown, hts, hlocks, hin⟩ := hAt
  have hown : s.vm.findClass RMd = some m.cls := hown
  have hl : lv_has ls 6 [(0, .long (lZ nv)), (2, .long (lZ nl)), (4, .long (lZ nm))] := hl
  refine lv_lload_n hx hb dMd_isIn_0 rfl (lv_at hl 0 rfl) ?_
  refine lv_lload_n hx hb dMd_isIn_1 rfl (lv_at hl 1 rfl) ?_
  refine z_lcmp_lt (tgt := 17) hx hb (by omega) (by omega) (by omega) (by omega) dMd_isIn_2 dMd_isIn_3 (by decide) (fun c_1 => ?_) (fun c_1 => ?_)
  ·
    refine lv_iconst (v := iZ 0) hx hb dMd_isIn_17 (by decide) ?_
    exact cq_zret hx hb hr hlocks hAe hQ (bo_narr (by omega) (by omega)) 0 ⟨rfl, (by (try dsimp only) <;> (first | rfl | omega | (refine Or.inl ?_; and_intros <;> first | rfl | omega) | (refine Or.inr ?_; and_intros <;> first | rfl | omega)))⟩ (hP.sub [] rfl) (hD.sub [] (by decide) rfl) hS (by decide) (by decide) dMd_isIn_18
  ·
    refine lv_lload_n hx hb dMd_isIn_6 rfl (lv_at hl 0 rfl) ?_
    refine lv_lload hx hb dMd_isIn_7 (lv_at hl 2 rfl) ?_
    refine z_lcmp_gt (tgt := 17) hx hb (by omega) (by omega) (by omega) (by omega) dMd_isIn_9 dMd_isIn_10 (by decide) (fun c_2 => ?_) (fun c_2 => ?_)
    ·
      refine lv_iconst (v := iZ 0) hx hb dMd_isIn_17 (by decide) ?_
      exact cq_zret hx hb hr hlocks hAe hQ (bo_narr (by omega) (by omega)) 0 ⟨rfl, (by (try dsimp only) <;> (first | rfl | omega | (refine Or.inl ?_; and_intros <;> first | rfl | omega) | (refine Or.inr ?_; and_intros <;> first | rfl | omega)))⟩ (hP.sub [] rfl) (hD.sub [] (by decide) rfl) hS (by decide) (by decide) dMd_isIn_18
    ·
      refine lv_iconst (v := iZ 1) hx hb dMd_isIn_13 (by decide) ?_
      refine lv_goto (tgt := 18) hx hb dMd_isIn_14 (by decide) ?_
      exact cq_zret hx hb hr hlocks hAe hQ (bo_narr (by omega) (by omega)) 1 ⟨rfl, (by (try dsimp only) <;> (first | rfl | omega | (refine Or.inl ?_; and_intros <;> first | rfl | omega) | (refine Or.inr ?_; and_intros <;> first | rfl | omega)))⟩ (hP.sub [] rfl) (hD.sub [] (by decide) rfl) hS (by decide) (by decide) dMd_isIn_18
set_option maxHeartbeats 4000000 in
set_option maxRecDepth 100000 in
theorem m_isHere (l : Launch) (D : va_G) (cI cJ cZ : ClassId) (t_a t_sizes_a t_costs_a t_gone_a t_drawn_a t_drawnCounts_a t_owners_a t_years_a t_missing_a t_grams_a t_planned_a t_againBag_a t_againKind_a t_againGrams_a t_trial_a : Nat) (sz : Nat) (t_seed : Int) (t_strata : Int) (t_bags : Int) (t_hasPlan : Int) (t_again : Int) (t_over : Int) (t_under : Int) (t_gone_f : Int → Int) (z : Int) (h_z1 : -2147483648 ≤ z) (h_z2 : z < 2147483648) (hn1 : 0 ≤ t_strata) (hn2 : t_strata ≤ 4) (hgo : ∀ j, 0 ≤ t_gone_f j ∧ t_gone_f j ≤ 1) : cq_i l yMd_isHere wsMd_isHere ({ frames := 0, cells := 0, slots := 0, locals := 0 }) D clAll [(cI, .int), (cJ, .long), (cZ, .boolean)] nwAll [.ref t_a, .int (iZ z)] [(t_a, .inr (9, [.long (lZ t_seed), .int (iZ t_strata), .ref t_sizes_a, .ref t_costs_a, .ref t_gone_a, .ref t_drawn_a, .ref t_drawnCounts_a, .int (iZ t_bags), .ref t_owners_a, .ref t_years_a, .ref t_missing_a, .ref t_grams_a, .int (iZ t_hasPlan), .ref t_planned_a, .int (iZ t_again), .ref t_againBag_a, .ref t_againKind_a, .ref t_againGrams_a, .long (lZ t_over), .long (lZ t_under), .ref t_trial_a])), (t_gone_a, .inl (cZ, 4, .inl (aI t_gone_f)))] sz (S := Int) (fun (r : Int32) (u : Int) => r = iZ u ∧ ((u = 1 ∧ (0 ≤ z ∧ z < t_strata ∧ t_gone_f z = 0)) ∨ (u = 0 ∧ ¬ (0 ≤ z ∧ z < t_strata ∧ t_gone_f z = 0)))) (fun (u : Int) => [(t_a, .inr (9, [.long (lZ t_seed), .int (iZ t_strata), .ref t_sizes_a, .ref t_costs_a, .ref t_gone_a, .ref t_drawn_a, .ref t_drawnCounts_a, .int (iZ t_bags), .ref t_owners_a, .ref t_years_a, .ref t_missing_a, .ref t_grams_a, .int (iZ t_hasPlan), .ref t_planned_a, .int (iZ t_again), .ref t_againBag_a, .ref t_againKind_a, .ref t_againGrams_a, .long (lZ t_over), .long (lZ t_under), .ref t_trial_a])), (t_gone_a, .inl (cZ, 4, .inl (aI t_gone_f)))]) 0 0 := by
  refine cq_enter (cc := cMd_isHere) (maxL := 2) (ret := some .boolean) (by decide) rfl (Nat.le_of_ble_eq_true rfl) ?_
  intro p e s m below meth c A args Q H hAe hQ hsz hAt hA hP hK hD hS ls hl
  obtain ⟨hx, hb, hr, hml, hown, hts, hlocks, hin⟩ := hAt
  have hown : s.vm.findClass RMd = some m.cls := hown
  have hl : lv_has ls 2 [(0, .ref t_a), (1, .int (iZ z))] := hl
  refine lv_iload_n hx hb dMd_isHere_0 rfl (lv_at hl 1 rfl) ?_
  refine z_if_lt (tgt := 25) hx hb (by omega) (by omega) dMd_isHere_1 (by decide) (fun c_1 => ?_) (fun c_1 => ?_)
  ·
    refine lv_iconst (v := iZ 0) hx hb dMd_isHere_25 (by decide) ?_
    exact cq_zret hx hb hr hlocks hAe hQ (bo_narr (by omega) (by omega)) 0 ⟨rfl, (by (try dsimp only) <;> (first | rfl | omega | (refine Or.inl ?_; and_intros <;> first | rfl | omega) | (refine Or.inr ?_; and_intros <;> first | rfl | omega)))⟩ (hP.sub [0, 1] rfl) (hD.sub [0, 1] (by decide) rfl) hS (by decide) (by decide) dMd_isHere_26
  ·
    refine lv_iload_n hx hb dMd_isHere_4 rfl (lv_at hl 1 rfl) ?_
    refine lv_aload_n hx hb dMd_isHere_5 rfl (lv_at hl 0 rfl) ?_
    refine va_get (D := D) (ci := 9) (v := .int (iZ t_strata)) (C := RMd) (T := TMd) (N := 21) hx hb hts layMd hown hK.1 hP 0 rfl rfl 1 (by decide) (hts _ (hm g435)) (fun _ h9 => h9) rfl dMd_isHere_6 ?_
    refine z_icmp_ge (tgt := 25) hx hb (by omega) (by omega) (by omega) (by omega) dMd_isHere_9 (by decide) (fun c_2 => ?_) (fun c_2 => ?_)
    ·
      refine lv_iconst (v := iZ 0) hx hb dMd_isHere_25 (by decide) ?_
      exact cq_zret hx hb hr hlocks hAe hQ (bo_narr (by omega) (by omega)) 0 ⟨rfl, (by (try dsimp only) <;> (first | rfl | omega | (refine Or.inl ?_; and_intros <;> first | rfl | omega) | (refine Or.inr ?_; and_intros <;> first | rfl | omega)))⟩ (hP.sub [0, 1] rfl) (hD.sub [0, 1] (by decide) rfl) hS (by decide) (by decide) dMd_isHere_26
    ·
      refine lv_aload_n hx hb dMd_isHere_12 rfl (lv_at hl 0 rfl) ?_
      refine va_get (D := D) (ci := 9) (v := .ref t_gone_a) (C := RMd) (T := TMd) (N := 21) hx hb hts layMd hown hK.1 hP 0 rfl rfl 4 (by decide) (hts _ (hm g438)) (fun _ h9 => h9) rfl dMd_isHere_13 ?_
      refine lv_iload_n hx hb dMd_isHere_16 rfl (lv_at hl 1 rfl) ?_
      refine z_zald hx hb hK hP 1 2 rfl rfl (by omega) (by omega) (by decide) dMd_isHere_17 ?_
      have f_3 := hgo z
      refine z_if_ne (tgt := 25) hx hb (by omega) (by omega) dMd_isHere_18 (by decide) (fun c_4 => ?_) (fun c_4 => ?_)
      ·
        refine lv_iconst (v := iZ 0) hx hb dMd_isHere_25 (by decide) ?_
        exact cq_zret hx hb hr hlocks hAe hQ (bo_narr (by omega) (by omega)) 0 ⟨rfl, (by (try dsimp only) <;> (first | rfl | omega | (refine Or.inl ?_; and_intros <;> first | rfl | omega) | (refine Or.inr ?_; and_intros <;> first | rfl | omega)))⟩ (hP.sub [0, 1] rfl) (hD.sub [0, 1] (by decide) rfl) hS (by decide) (by decide) dMd_isHere_26
      ·
        refine lv_iconst (v := iZ 1) hx hb dMd_isHere_21 (by decide) ?_
        refine lv_goto (tgt := 26) hx hb dMd_isHere_22 (by decide) ?_
        exact cq_zret hx hb hr hlocks hAe hQ (bo_narr (by omega) (by omega)) 1 ⟨rfl, (by (try dsimp only) <;> (first | rfl | omega | (refine Or.inl ?_; and_intros <;> first | rfl | omega) | (refine Or.inr ?_; and_intros <;> first | rfl | omega)))⟩ (hP.sub [0, 1] rfl) (hD.sub [0, 1] (by decide) rfl) hS (by decide) (by decide) dMd_isHere_26
set_option maxHeartbeats 4000000 in
set_option maxRecDepth 100000 in
theorem m_isBag (l : Launch) (D : va_G) (cI cJ cZ : ClassId) (t_a t_sizes_a t_costs_a t_gone_a t_drawn_a t_drawnCounts_a t_owners_a t_years_a t_missing_a t_grams_a t_planned_a t_againBag_a t_againKind_a t_againGrams_a t_trial_a : Nat) (sz : Nat) (t_seed : Int) (t_strata : Int) (t_bags : Int) (t_hasPlan : Int) (t_again : Int) (t_over : Int) (t_under : Int) (z : Int) (h_z1 : -2147483648 ≤ z) (h_z2 : z < 2147483648) (hb1 : 0 ≤ t_bags) (hb2 : t_bags ≤ 12) : cq_i l yMd_isBag wsMd_isBag ({ frames := 0, cells := 0, slots := 0, locals := 0 }) D clAll [(cI, .int), (cJ, .long), (cZ, .boolean)] nwAll [.ref t_a, .int (iZ z)] [(t_a, .inr (9, [.long (lZ t_seed), .int (iZ t_strata), .ref t_sizes_a, .ref t_costs_a, .ref t_gone_a, .ref t_drawn_a, .ref t_drawnCounts_a, .int (iZ t_bags), .ref t_owners_a, .ref t_years_a, .ref t_missing_a, .ref t_grams_a, .int (iZ t_hasPlan), .ref t_planned_a, .int (iZ t_again), .ref t_againBag_a, .ref t_againKind_a, .ref t_againGrams_a, .long (lZ t_over), .long (lZ t_under), .ref t_trial_a]))] sz (S := Int) (fun (r : Int32) (u : Int) => r = iZ u ∧ ((u = 1 ∧ 0 ≤ z ∧ z < t_bags) ∨ (u = 0 ∧ ¬ (0 ≤ z ∧ z < t_bags)))) (fun (u : Int) => [(t_a, .inr (9, [.long (lZ t_seed), .int (iZ t_strata), .ref t_sizes_a, .ref t_costs_a, .ref t_gone_a, .ref t_drawn_a, .ref t_drawnCounts_a, .int (iZ t_bags), .ref t_owners_a, .ref t_years_a, .ref t_missing_a, .ref t_grams_a, .int (iZ t_hasPlan), .ref t_planned_a, .int (iZ t_again), .ref t_againBag_a, .ref t_againKind_a, .ref t_againGrams_a, .long (lZ t_over), .long (lZ t_under), .ref t_trial_a]))]) 0 0 := by
  refine cq_enter (cc := cMd_isBag) (maxL := 2) (ret := some .boolean) (by decide) rfl (Nat.le_of_ble_eq_true rfl) ?_
  intro p e s m below meth c A args Q H hAe hQ hsz hAt hA hP hK hD hS ls hl
  obtain ⟨hx, hb, hr, hml, hown, hts, hlocks, hin⟩ := hAt
  have hown : s.vm.findClass RMd = some m.cls := hown
  have hl : lv_has ls 2 [(0, .ref t_a), (1, .int (iZ z))] := hl
  refine lv_iload_n hx hb dMd_isBag_0 rfl (lv_at hl 1 rfl) ?_
  refine z_if_lt (tgt := 16) hx hb (by omega) (by omega) dMd_isBag_1 (by decide) (fun c_1 => ?_) (fun c_1 => ?_)
  ·
    refine lv_iconst (v := iZ 0) hx hb dMd_isBag_16 (by decide) ?_
    exact cq_zret hx hb hr hlocks hAe hQ (bo_narr (by omega) (by omega)) 0 ⟨rfl, (by (try dsimp only) <;> (first | rfl | omega | (refine Or.inl ?_; and_intros <;> first | rfl | omega) | (refine Or.inr ?_; and_intros <;> first | rfl | omega)))⟩ (hP.sub [0] rfl) (hD.sub [0] (by decide) rfl) hS (by decide) (by decide) dMd_isBag_17
  ·
    refine lv_iload_n hx hb dMd_isBag_4 rfl (lv_at hl 1 rfl) ?_
    refine lv_aload_n hx hb dMd_isBag_5 rfl (lv_at hl 0 rfl) ?_
    refine va_get (D := D) (ci := 9) (v := .int (iZ t_bags)) (C := RMd) (T := TMd) (N := 21) hx hb hts layMd hown hK.1 hP 0 rfl rfl 7 (by decide) (hts _ (hm g441)) (fun _ h9 => h9) rfl dMd_isBag_6 ?_
    refine z_icmp_ge (tgt := 16) hx hb (by omega) (by omega) (by omega) (by omega) dMd_isBag_9 (by decide) (fun c_2 => ?_) (fun c_2 => ?_)
    ·
      refine lv_iconst (v := iZ 0) hx hb dMd_isBag_16 (by decide) ?_
      exact cq_zret hx hb hr hlocks hAe hQ (bo_narr (by omega) (by omega)) 0 ⟨rfl, (by (try dsimp only) <;> (first | rfl | omega | (refine Or.inl ?_; and_intros <;> first | rfl | omega) | (refine Or.inr ?_; and_intros <;> first | rfl | omega)))⟩ (hP.sub [0] rfl) (hD.sub [0] (by decide) rfl) hS (by decide) (by decide) dMd_isBag_17
    ·
      refine lv_iconst (v := iZ 1) hx hb dMd_isBag_12 (by decide) ?_
      refine lv_goto (tgt := 17) hx hb dMd_isBag_13 (by decide) ?_
      exact cq_zret hx hb hr hlocks hAe hQ (bo_narr (by omega) (by omega)) 1 ⟨rfl, (by (try dsimp only) <;> (first | rfl | omega | (refine Or.inl ?_; and_intros <;> first | rfl | omega) | (refine Or.inr ?_; and_intros <;> first | rfl | omega)))⟩ (hP.sub [0] rfl) (hD.sub [0] (by decide) rfl) hS (by decide) (by decide) dMd_isBag_17
set_option maxHeartbeats 4000000 in
set_option maxRecDepth 100000 in
theorem m_isKind (l : Launch) (D : va_G) (cI cJ cZ : ClassId) (sz : Nat) (kind : Int) (h_kind1 : -2147483648 ≤ kind) (h_kind2 : kind < 2147483648) : cq_i l yMd_isKind wsMd_isKind ({ frames := 0, cells := 0, slots := 0, locals := 0 }) D clAll [(cI, .int), (cJ, .long), (cZ, .boolean)] nwAll [.int (iZ kind)] [] sz (S := Int) (fun (r : Int32) (u : Int) => r = iZ u ∧ ((u = 1 ∧ 0 ≤ kind ∧ kind < 3) ∨ (u = 0 ∧ ¬ (0 ≤ kind ∧ kind < 3)))) (fun (u : Int) => []) 0 0 := by
  refine cq_enter (cc := cMd_isKind) (maxL := 1) (ret := some .boolean) (by decide) rfl (Nat.le_of_ble_eq_true rfl) ?_
  intro p e s m below meth c A args Q H hAe hQ hsz hAt hA hP hK hD hS ls hl
  obtain ⟨hx, hb, hr, hml, hown, hts, hlocks, hin⟩ := hAt
  have hown : s.vm.findClass RMd = some m.cls := hown
  have hl : lv_has ls 1 [(0, .int (iZ kind))] := hl
  refine lv_iload_n hx hb dMd_isKind_0 rfl (lv_at hl 0 rfl) ?_
  refine z_if_lt (tgt := 13) hx hb (by omega) (by omega) dMd_isKind_1 (by decide) (fun c_1 => ?_) (fun c_1 => ?_)
  ·
    refine lv_iconst (v := iZ 0) hx hb dMd_isKind_13 (by decide) ?_
    exact cq_zret hx hb hr hlocks hAe hQ (bo_narr (by omega) (by omega)) 0 ⟨rfl, (by (try dsimp only) <;> (first | rfl | omega | (refine Or.inl ?_; and_intros <;> first | rfl | omega) | (refine Or.inr ?_; and_intros <;> first | rfl | omega)))⟩ (hP.sub [] rfl) (hD.sub [] (by decide) rfl) hS (by decide) (by decide) dMd_isKind_14
  ·
    refine lv_iload_n hx hb dMd_isKind_4 rfl (lv_at hl 0 rfl) ?_
    refine lv_iconst (v := iZ 3) hx hb dMd_isKind_5 (by decide) ?_
    refine z_icmp_ge (tgt := 13) hx hb (by omega) (by omega) (by omega) (by omega) dMd_isKind_6 (by decide) (fun c_2 => ?_) (fun c_2 => ?_)
    ·
      refine lv_iconst (v := iZ 0) hx hb dMd_isKind_13 (by decide) ?_
      exact cq_zret hx hb hr hlocks hAe hQ (bo_narr (by omega) (by omega)) 0 ⟨rfl, (by (try dsimp only) <;> (first | rfl | omega | (refine Or.inl ?_; and_intros <;> first | rfl | omega) | (refine Or.inr ?_; and_intros <;> first | rfl | omega)))⟩ (hP.sub [] rfl) (hD.sub [] (by decide) rfl) hS (by decide) (by decide) dMd_isKind_14
    ·
      refine lv_iconst (v := iZ 1) hx hb dMd_isKind_9 (by decide) ?_
      refine lv_goto (tgt := 14) hx hb dMd_isKind_10 (by decide) ?_
      exact cq_zret hx hb hr hlocks hAe hQ (bo_narr (by omega) (by omega)) 1 ⟨rfl, (by (try dsimp only) <;> (first | rfl | omega | (refine Or.inl ?_; and_intros <;> first | rfl | omega) | (refine Or.inr ?_; and_intros <;> first | rfl | omega)))⟩ (hP.sub [] rfl) (hD.sub [] (by decide) rfl) hS (by decide) (by decide) dMd_isKind_14
set_option maxHeartbeats 4000000 in
set_option maxRecDepth 100000 in
theorem m_stratum (l : Launch) (D : va_G) (cI cJ cZ : ClassId) (t_a t_sizes_a t_costs_a t_gone_a t_drawn_a t_drawnCounts_a t_owners_a t_years_a t_missing_a t_grams_a t_planned_a t_againBag_a t_againKind_a t_againGrams_a t_trial_a : Nat) (sz : Nat) (t_seed : Int) (t_strata : Int) (t_bags : Int) (t_hasPlan : Int) (t_again : Int) (t_over : Int) (t_under : Int) (t_sizes_f : Int → Int) (t_costs_f : Int → Int) (size : Int) (h_size1 : -2147483648 ≤ size) (h_size2 : size < 2147483648) (hn1 : 0 ≤ t_strata) (hn2 : t_strata ≤ 4) : cq_i l yMd_stratum wsMd_stratum ({ frames := 1, cells := 0, slots := 0, locals := 25 }) D clAll [(cI, .int), (cJ, .long), (cZ, .boolean)] nwAll [.ref t_a, .int (iZ size)] [(t_a, .inr (9, [.long (lZ t_seed), .int (iZ t_strata), .ref t_sizes_a, .ref t_costs_a, .ref t_gone_a, .ref t_drawn_a, .ref t_drawnCounts_a, .int (iZ t_bags), .ref t_owners_a, .ref t_years_a, .ref t_missing_a, .ref t_grams_a, .int (iZ t_hasPlan), .ref t_planned_a, .int (iZ t_again), .ref t_againBag_a, .ref t_againKind_a, .ref t_againGrams_a, .long (lZ t_over), .long (lZ t_under), .ref t_trial_a])), (t_sizes_a, .inl (cI, 4, .inl (aI t_sizes_f))), (t_costs_a, .inl (cJ, 4, .inr (.inl (aL t_costs_f))))] sz (S := Int × Int × (Int → Int) × (Int → Int)) (fun (r : Int32) (u : Int × Int × (Int → Int) × (Int → Int)) => r = iZ u.1 ∧ (((t_strata < 4 ∧ 1 ≤ size ∧ size ≤ 100) ∧ u.1 = t_strata ∧ u.2.1 = t_strata + 1 ∧ u.2.2.1 = pu t_sizes_f t_strata size ∧ u.2.2.2 = pu t_costs_f t_strata 1) ∨ (¬ (t_strata < 4 ∧ 1 ≤ size ∧ size ≤ 100) ∧ u.1 = -1 ∧ u.2.1 = t_strata ∧ u.2.2.1 = t_sizes_f ∧ u.2.2.2 = t_costs_f))) (fun (u : Int × Int × (Int → Int) × (Int → Int)) => [(t_a, .inr (9, [.long (lZ t_seed), .int (iZ u.2.1), .ref t_sizes_a, .ref t_costs_a, .ref t_gone_a, .ref t_drawn_a, .ref t_drawnCounts_a, .int (iZ t_bags), .ref t_owners_a, .ref t_years_a, .ref t_missing_a, .ref t_grams_a, .int (iZ t_hasPlan), .ref t_planned_a, .int (iZ t_again), .ref t_againBag_a, .ref t_againKind_a, .ref t_againGrams_a, .long (lZ t_over), .long (lZ t_under), .ref t_trial_a])), (t_sizes_a, .inl (cI, 4, .inl (aI u.2.2.1))), (t_costs_a, .inl (cJ, 4, .inr (.inl (aL u.2.2.2))))]) 0 0 := by
  refine cq_enter (cc := cMd_stratum) (maxL := 2) (ret := some .int) (by decide) rfl (Nat.le_of_ble_eq_true rfl) ?_
  intro p e s m below meth c A args Q H hAe hQ hsz hAt hA hP hK hD hS ls hl
  obtain ⟨hx, hb, hr, hml, hown, hts, hlocks, hin⟩ := hAt
  have hown : s.vm.findClass RMd = some m.cls := hown
  have hl : lv_has ls 2 [(0, .ref t_a), (1, .int (iZ size))] := hl
  refine lv_aload_n hx hb dMd_stratum_0 rfl (lv_at hl 0 rfl) ?_
  refine va_get (D := D) (ci := 9) (v := .int (iZ t_strata)) (C := RMd) (T := TMd) (N := 21) hx hb hts layMd hown hK.1 hP 0 rfl rfl 1 (by decide) (hts _ (hm g435)) (fun _ h9 => h9) rfl dMd_stratum_1 ?_
  refine lv_iconst (v := iZ 4) hx hb dMd_stratum_4 (by decide) ?_
  refine z_icmp_eq (tgt := 20) hx hb (by omega) (by omega) (by omega) (by omega) dMd_stratum_5 (by decide) (fun c_1 => ?_) (fun c_1 => ?_)
  ·
    refine lv_iconst (v := iZ (-1)) hx hb dMd_stratum_20 (by decide) ?_
    exact cq_iret hx hb hr hlocks hAe hQ (-1, t_strata, t_sizes_f, t_costs_f) ⟨rfl, (by (try dsimp only) <;> (first | (refine Or.inl ?_; and_intros <;> first | rfl | omega) | (refine Or.inr ?_; and_intros <;> first | rfl | omega)))⟩ (hP.sub [0, 1, 2] rfl) (hD.sub [0, 1, 2] (by decide) rfl) hS (by decide) (by decide) dMd_stratum_21
  ·
    refine lv_iload_n hx hb dMd_stratum_8 rfl (lv_at hl 1 rfl) ?_
    refine z_i2l hx hb (by omega) (by omega) dMd_stratum_9 ?_
    refine lv_lconst (v := lZ 1) hx hb dMd_stratum_10 (by decide) ?_
    refine lv_ldc2 (v := lZ (100)) hx hb hown (hts _ (hm g480)) dMd_stratum_11 ?_
    refine cq_calli (wr := [(t_a, .inr (9, [.long (lZ t_seed), .int (iZ t_strata), .ref t_sizes_a, .ref t_costs_a, .ref t_gone_a, .ref t_drawn_a, .ref t_drawnCounts_a, .int (iZ t_bags), .ref t_owners_a, .ref t_years_a, .ref t_missing_a, .ref t_grams_a, .int (iZ t_hasPlan), .ref t_planned_a, .int (iZ t_again), .ref t_againBag_a, .ref t_againKind_a, .ref t_againGrams_a, .long (lZ t_over), .long (lZ t_under), .ref t_trial_a])), (t_sizes_a, .inl (cI, 4, .inl (aI t_sizes_f))), (t_costs_a, .inl (cJ, 4, .inr (.inl (aL t_costs_f))))]) (va_runS (As := [.long (lZ size), .long (lZ 1), .long (lZ 100)]) (rest := []) ⟨hx, hb, hml, hown, hts⟩ (m_isIn l D cI cJ cZ H.size size 1 100 (by omega) (by omega) (by omega) (by omega) (by omega) (by omega)) ⟨(callB_of 3 hts (gAll cmMd_isIn) rfl rfl rfl (hts _ (hm g67)) (hts _ (hm g481)) (by decide +kernel) ⟨Nat.le_of_ble_eq_true rfl, Nat.le_of_ble_eq_true rfl⟩), (hts _ (hm g482))⟩ (cq_preS hK hP hD [] (by decide) rfl) rfl rfl hl.1 rfl (lv_room (Nat.le_of_ble_eq_true rfl)) dMd_stratum_14 ⟨by decide, by decide⟩) hP hD hS hA [] [0, 1, 2] rfl rfl (by decide) (by decide) (fun r u H locs hw_2 hP hD hS => ?_)
    obtain ⟨o_3, rfl⟩ : ∃ z, z = u := ⟨_, rfl⟩
    try dsimp only at hw_2
    obtain ⟨rfl, p_4⟩ := hw_2
    have hP : va_P D clAll [(t_a, .inr (9, [.long (lZ t_seed), .int (iZ t_strata), .ref t_sizes_a, .ref t_costs_a, .ref t_gone_a, .ref t_drawn_a, .ref t_drawnCounts_a, .int (iZ t_bags), .ref t_owners_a, .ref t_years_a, .ref t_missing_a, .ref t_grams_a, .int (iZ t_hasPlan), .ref t_planned_a, .int (iZ t_again), .ref t_againBag_a, .ref t_againKind_a, .ref t_againGrams_a, .long (lZ t_over), .long (lZ t_under), .ref t_trial_a])), (t_sizes_a, .inl (cI, 4, .inl (aI t_sizes_f))), (t_costs_a, .inl (cJ, 4, .inr (.inl (aL t_costs_f))))] H := hP
    have hD : va_D A [(t_a, .inr (9, [.long (lZ t_seed), .int (iZ t_strata), .ref t_sizes_a, .ref t_costs_a, .ref t_gone_a, .ref t_drawn_a, .ref t_drawnCounts_a, .int (iZ t_bags), .ref t_owners_a, .ref t_years_a, .ref t_missing_a, .ref t_grams_a, .int (iZ t_hasPlan), .ref t_planned_a, .int (iZ t_again), .ref t_againBag_a, .ref t_againKind_a, .ref t_againGrams_a, .long (lZ t_over), .long (lZ t_under), .ref t_trial_a])), (t_sizes_a, .inl (cI, 4, .inl (aI t_sizes_f))), (t_costs_a, .inl (cJ, 4, .inr (.inl (aL t_costs_f))))] := hD
    refine z_if_ne (tgt := 22) hx hb (by omega) (by omega) dMd_stratum_17 (by decide) (fun c_5 => ?_) (fun c_5 => ?_)
    ·
      refine lv_aload_n hx hb dMd_stratum_22 rfl (lv_at hl 0 rfl) ?_
      refine va_get (D := D) (ci := 9) (v := .ref t_sizes_a) (C := RMd) (T := TMd) (N := 21) hx hb hts layMd hown hK.1 hP 0 rfl rfl 2 (by decide) (hts _ (hm g436)) (fun _ h9 => h9) rfl dMd_stratum_23 ?_
      refine lv_aload_n hx hb dMd_stratum_26 rfl (lv_at hl 0 rfl) ?_
      refine va_get (D := D) (ci := 9) (v := .int (iZ t_strata)) (C := RMd) (T := TMd) (N := 21) hx hb hts layMd hown hK.1 hP 0 rfl rfl 1 (by decide) (hts _ (hm g435)) (fun _ h9 => h9) rfl dMd_stratum_27 ?_
      refine lv_iload_n hx hb dMd_stratum_30 rfl (lv_at hl 1 rfl) ?_
      refine z_iast hx hb hK hP hD hS 1 0 rfl rfl (by omega) (by omega) (by decide) dMd_stratum_31 (fun H locs hP hD hS => ?_)
      have hP : va_P D clAll [(t_a, .inr (9, [.long (lZ t_seed), .int (iZ t_strata), .ref t_sizes_a, .ref t_costs_a, .ref t_gone_a, .ref t_drawn_a, .ref t_drawnCounts_a, .int (iZ t_bags), .ref t_owners_a, .ref t_years_a, .ref t_missing_a, .ref t_grams_a, .int (iZ t_hasPlan), .ref t_planned_a, .int (iZ t_again), .ref t_againBag_a, .ref t_againKind_a, .ref t_againGrams_a, .long (lZ t_over), .long (lZ t_under), .ref t_trial_a])), (t_sizes_a, .inl (cI, 4, .inl (aI (pu t_sizes_f t_strata size)))), (t_costs_a, .inl (cJ, 4, .inr (.inl (aL t_costs_f))))] H := hP
      have hD : va_D A [(t_a, .inr (9, [.long (lZ t_seed), .int (iZ t_strata), .ref t_sizes_a, .ref t_costs_a, .ref t_gone_a, .ref t_drawn_a, .ref t_drawnCounts_a, .int (iZ t_bags), .ref t_owners_a, .ref t_years_a, .ref t_missing_a, .ref t_grams_a, .int (iZ t_hasPlan), .ref t_planned_a, .int (iZ t_again), .ref t_againBag_a, .ref t_againKind_a, .ref t_againGrams_a, .long (lZ t_over), .long (lZ t_under), .ref t_trial_a])), (t_sizes_a, .inl (cI, 4, .inl (aI (pu t_sizes_f t_strata size)))), (t_costs_a, .inl (cJ, 4, .inr (.inl (aL t_costs_f))))] := hD
      refine lv_aload_n hx hb dMd_stratum_32 rfl (lv_at hl 0 rfl) ?_
      refine va_get (D := D) (ci := 9) (v := .ref t_costs_a) (C := RMd) (T := TMd) (N := 21) hx hb hts layMd hown hK.1 hP 0 rfl rfl 3 (by decide) (hts _ (hm g437)) (fun _ h9 => h9) rfl dMd_stratum_33 ?_
      refine lv_aload_n hx hb dMd_stratum_36 rfl (lv_at hl 0 rfl) ?_
      refine va_get (D := D) (ci := 9) (v := .int (iZ t_strata)) (C := RMd) (T := TMd) (N := 21) hx hb hts layMd hown hK.1 hP 0 rfl rfl 1 (by decide) (hts _ (hm g435)) (fun _ h9 => h9) rfl dMd_stratum_37 ?_
      refine lv_lconst (v := lZ 1) hx hb dMd_stratum_40 (by decide) ?_
      refine z_last hx hb hK hP hD hS 2 1 rfl rfl (by omega) (by omega) (by decide) dMd_stratum_41 (fun H locs hP hD hS => ?_)
      have hP : va_P D clAll [(t_a, .inr (9, [.long (lZ t_seed), .int (iZ t_strata), .ref t_sizes_a, .ref t_costs_a, .ref t_gone_a, .ref t_drawn_a, .ref t_drawnCounts_a, .int (iZ t_bags), .ref t_owners_a, .ref t_years_a, .ref t_missing_a, .ref t_grams_a, .int (iZ t_hasPlan), .ref t_planned_a, .int (iZ t_again), .ref t_againBag_a, .ref t_againKind_a, .ref t_againGrams_a, .long (lZ t_over), .long (lZ t_under), .ref t_trial_a])), (t_sizes_a, .inl (cI, 4, .inl (aI (pu t_sizes_f t_strata size)))), (t_costs_a, .inl (cJ, 4, .inr (.inl (aL (pu t_costs_f t_strata 1)))))] H := hP
      have hD : va_D A [(t_a, .inr (9, [.long (lZ t_seed), .int (iZ t_strata), .ref t_sizes_a, .ref t_costs_a, .ref t_gone_a, .ref t_drawn_a, .ref t_drawnCounts_a, .int (iZ t_bags), .ref t_owners_a, .ref t_years_a, .ref t_missing_a, .ref t_grams_a, .int (iZ t_hasPlan), .ref t_planned_a, .int (iZ t_again), .ref t_againBag_a, .ref t_againKind_a, .ref t_againGrams_a, .long (lZ t_over), .long (lZ t_under), .ref t_trial_a])), (t_sizes_a, .inl (cI, 4, .inl (aI (pu t_sizes_f t_strata size)))), (t_costs_a, .inl (cJ, 4, .inr (.inl (aL (pu t_costs_f t_strata 1)))))] := hD
      refine lv_aload_n hx hb dMd_stratum_42 rfl (lv_at hl 0 rfl) ?_
      refine lv_dup hx hb dMd_stratum_43 rfl ?_
      refine va_get (D := D) (ci := 9) (v := .int (iZ t_strata)) (C := RMd) (T := TMd) (N := 21) hx hb hts layMd hown hK.1 hP 0 rfl rfl 1 (by decide) (hts _ (hm g435)) (fun _ h9 => h9) rfl dMd_stratum_44 ?_
      refine lv_iconst (v := iZ 1) hx hb dMd_stratum_47 (by decide) ?_
      refine z_iadd hx hb dMd_stratum_48 ?_
      refine va_put (D := D) (ci := 9) (v := .int (iZ (t_strata + 1))) (ty := .int) (C := RMd) (T := TMd) (N := 21) hx hb hts layMd tyMd tyMd_ok nmMd hown hK.1 hP hD hS 0 rfl rfl 1 (by decide) (hts _ (hm g435)) (fun _ h9 => h9) rfl (by decide +kernel) rfl rfl (Nat.le_of_ble_eq_true rfl) dMd_stratum_49 (fun H locs hP hD hS => ?_)
      have hP : va_P D clAll [(t_a, .inr (9, [.long (lZ t_seed), .int (iZ (t_strata + 1)), .ref t_sizes_a, .ref t_costs_a, .ref t_gone_a, .ref t_drawn_a, .ref t_drawnCounts_a, .int (iZ t_bags), .ref t_owners_a, .ref t_years_a, .ref t_missing_a, .ref t_grams_a, .int (iZ t_hasPlan), .ref t_planned_a, .int (iZ t_again), .ref t_againBag_a, .ref t_againKind_a, .ref t_againGrams_a, .long (lZ t_over), .long (lZ t_under), .ref t_trial_a])), (t_sizes_a, .inl (cI, 4, .inl (aI (pu t_sizes_f t_strata size)))), (t_costs_a, .inl (cJ, 4, .inr (.inl (aL (pu t_costs_f t_strata 1)))))] H := hP
      have hD : va_D A [(t_a, .inr (9, [.long (lZ t_seed), .int (iZ (t_strata + 1)), .ref t_sizes_a, .ref t_costs_a, .ref t_gone_a, .ref t_drawn_a, .ref t_drawnCounts_a, .int (iZ t_bags), .ref t_owners_a, .ref t_years_a, .ref t_missing_a, .ref t_grams_a, .int (iZ t_hasPlan), .ref t_planned_a, .int (iZ t_again), .ref t_againBag_a, .ref t_againKind_a, .ref t_againGrams_a, .long (lZ t_over), .long (lZ t_under), .ref t_trial_a])), (t_sizes_a, .inl (cI, 4, .inl (aI (pu t_sizes_f t_strata size)))), (t_costs_a, .inl (cJ, 4, .inr (.inl (aL (pu t_costs_f t_strata 1)))))] := hD
      refine lv_aload_n hx hb dMd_stratum_52 rfl (lv_at hl 0 rfl) ?_
      refine va_get (D := D) (ci := 9) (v := .int (iZ (t_strata + 1))) (C := RMd) (T := TMd) (N := 21) hx hb hts layMd hown hK.1 hP 0 rfl rfl 1 (by decide) (hts _ (hm g435)) (fun _ h9 => h9) rfl dMd_stratum_53 ?_
      refine lv_iconst (v := iZ 1) hx hb dMd_stratum_56 (by decide) ?_
      refine z_isub hx hb dMd_stratum_57 ?_
      exact cq_iret hx hb hr hlocks hAe hQ ((t_strata + 1) - 1, t_strata + 1, (pu t_sizes_f t_strata size), (pu t_costs_f t_strata 1)) ⟨rfl, (by (try dsimp only) <;> (first | (refine Or.inl ?_; and_intros <;> first | rfl | omega) | (refine Or.inr ?_; and_intros <;> first | rfl | omega)))⟩ (hP.sub [0, 1, 2] rfl) (hD.sub [0, 1, 2] (by decide) rfl) hS (by decide) (by decide) dMd_stratum_58
    ·
      refine lv_iconst (v := iZ (-1)) hx hb dMd_stratum_20 (by decide) ?_
      exact cq_iret hx hb hr hlocks hAe hQ (-1, t_strata, t_sizes_f, t_costs_f) ⟨rfl, (by (try dsimp only) <;> (first | (refine Or.inl ?_; and_intros <;> first | rfl | omega) | (refine Or.inr ?_; and_intros <;> first | rfl | omega)))⟩ (hP.sub [0, 1, 2] rfl) (hD.sub [0, 1, 2] (by decide) rfl) hS (by decide) (by decide) dMd_stratum_21
set_option maxHeartbeats 4000000 in
set_option maxRecDepth 100000 in
theorem m_cost (l : Launch) (D : va_G) (cI cJ cZ : ClassId) (t_a t_sizes_a t_costs_a t_gone_a t_drawn_a t_drawnCounts_a t_owners_a t_years_a t_missing_a t_grams_a t_planned_a t_againBag_a t_againKind_a t_againGrams_a t_trial_a : Nat) (sz : Nat) (t_seed : Int) (t_strata : Int) (t_bags : Int) (t_hasPlan : Int) (t_again : Int) (t_over : Int) (t_under : Int) (t_gone_f : Int → Int) (t_costs_f : Int → Int) (z : Int) (cents : Int) (h_z1 : -2147483648 ≤ z) (h_z2 : z < 2147483648) (h_cents1 : -9223372036854775808 ≤ cents) (h_cents2 : cents < 9223372036854775808) (hn1 : 0 ≤ t_strata) (hn2 : t_strata ≤ 4) (hgo : ∀ j, 0 ≤ t_gone_f j ∧ t_gone_f j ≤ 1) : cq_i l yMd_cost wsMd_cost ({ frames := 1, cells := 0, slots := 0, locals := 25 }) D clAll [(cI, .int), (cJ, .long), (cZ, .boolean)] nwAll [.ref t_a, .int (iZ z), .long (lZ cents)] [(t_a, .inr (9, [.long (lZ t_seed), .int (iZ t_strata), .ref t_sizes_a, .ref t_costs_a, .ref t_gone_a, .ref t_drawn_a, .ref t_drawnCounts_a, .int (iZ t_bags), .ref t_owners_a, .ref t_years_a, .ref t_missing_a, .ref t_grams_a, .int (iZ t_hasPlan), .ref t_planned_a, .int (iZ t_again), .ref t_againBag_a, .ref t_againKind_a, .ref t_againGrams_a, .long (lZ t_over), .long (lZ t_under), .ref t_trial_a])), (t_gone_a, .inl (cZ, 4, .inl (aI t_gone_f))), (t_costs_a, .inl (cJ, 4, .inr (.inl (aL t_costs_f))))] sz (S := Int × (Int → Int)) (fun (r : Int32) (u : Int × (Int → Int)) => r = iZ u.1 ∧ ((((0 ≤ z ∧ z < t_strata ∧ t_gone_f z = 0) ∧ 1 ≤ cents ∧ cents ≤ 100000) ∧ u.1 = 1 ∧ u.2 = pu t_costs_f z cents) ∨ (¬ ((0 ≤ z ∧ z < t_strata ∧ t_gone_f z = 0) ∧ 1 ≤ cents ∧ cents ≤ 100000) ∧ u.1 = 0 ∧ u.2 = t_costs_f))) (fun (u : Int × (Int → Int)) => [(t_a, .inr (9, [.long (lZ t_seed), .int (iZ t_strata), .ref t_sizes_a, .ref t_costs_a, .ref t_gone_a, .ref t_drawn_a, .ref t_drawnCounts_a, .int (iZ t_bags), .ref t_owners_a, .ref t_years_a, .ref t_missing_a, .ref t_grams_a, .int (iZ t_hasPlan), .ref t_planned_a, .int (iZ t_again), .ref t_againBag_a, .ref t_againKind_a, .ref t_againGrams_a, .long (lZ t_over), .long (lZ t_under), .ref t_trial_a])), (t_gone_a, .inl (cZ, 4, .inl (aI t_gone_f))), (t_costs_a, .inl (cJ, 4, .inr (.inl (aL u.2))))]) 0 0 := by
  refine cq_enter (cc := cMd_cost) (maxL := 4) (ret := some .boolean) (by decide) rfl (Nat.le_of_ble_eq_true rfl) ?_
  intro p e s m below meth c A args Q H hAe hQ hsz hAt hA hP hK hD hS ls hl
  obtain ⟨hx, hb, hr, hml, hown, hts, hlocks, hin⟩ := hAt
  have hown : s.vm.findClass RMd = some m.cls := hown
  have hl : lv_has ls 4 [(0, .ref t_a), (1, .int (iZ z)), (2, .long (lZ cents))] := hl
  refine lv_aload_n hx hb dMd_cost_0 rfl (lv_at hl 0 rfl) ?_
  refine lv_iload_n hx hb dMd_cost_1 rfl (lv_at hl 1 rfl) ?_
  refine cq_calli (wr := [(t_costs_a, .inl (cJ, 4, .inr (.inl (aL t_costs_f))))]) (va_runV (C := RMd) (As := [.int (iZ z)]) (rest := []) ⟨hx, hb, hml, hown, hts⟩ (m_isHere l D cI cJ cZ t_a t_sizes_a t_costs_a t_gone_a t_drawn_a t_drawnCounts_a t_owners_a t_years_a t_missing_a t_grams_a t_planned_a t_againBag_a t_againKind_a t_againGrams_a t_trial_a H.size t_seed t_strata t_bags t_hasPlan t_again t_over t_under t_gone_f z (by omega) (by omega) (by first | assumption | omega) (by first | assumption | omega) (by first | assumption | omega)) ⟨(callB_of 1 hts (gAll cmMd_isHere) rfl rfl rfl (hts _ (hm g67)) (hts _ (hm g488)) (by decide +kernel) ⟨Nat.le_of_ble_eq_true rfl, Nat.le_of_ble_eq_true rfl⟩), (hts _ (hm g489)), (hts _ (hm g41))⟩ (cq_preV (va_recv hK.1 hP (ci := 9) (q0 := 0) rfl rfl) (cq_preS hK hP hD [0, 1] (by decide) rfl)) rfl rfl hl.1 rfl (lv_room (Nat.le_of_ble_eq_true rfl)) dMd_cost_2 ⟨by decide, by decide⟩) hP hD hS hA [0, 1] [2] rfl rfl (by decide) (by decide) (fun r u H locs hw_1 hP hD hS => ?_)
  obtain ⟨o_2, rfl⟩ : ∃ z, z = u := ⟨_, rfl⟩
  try dsimp only at hw_1
  obtain ⟨rfl, p_3⟩ := hw_1
  have hP : va_P D clAll [(t_costs_a, .inl (cJ, 4, .inr (.inl (aL t_costs_f)))), (t_a, .inr (9, [.long (lZ t_seed), .int (iZ t_strata), .ref t_sizes_a, .ref t_costs_a, .ref t_gone_a, .ref t_drawn_a, .ref t_drawnCounts_a, .int (iZ t_bags), .ref t_owners_a, .ref t_years_a, .ref t_missing_a, .ref t_grams_a, .int (iZ t_hasPlan), .ref t_planned_a, .int (iZ t_again), .ref t_againBag_a, .ref t_againKind_a, .ref t_againGrams_a, .long (lZ t_over), .long (lZ t_under), .ref t_trial_a])), (t_gone_a, .inl (cZ, 4, .inl (aI t_gone_f)))] H := hP
  have hD : va_D A [(t_costs_a, .inl (cJ, 4, .inr (.inl (aL t_costs_f)))), (t_a, .inr (9, [.long (lZ t_seed), .int (iZ t_strata), .ref t_sizes_a, .ref t_costs_a, .ref t_gone_a, .ref t_drawn_a, .ref t_drawnCounts_a, .int (iZ t_bags), .ref t_owners_a, .ref t_years_a, .ref t_missing_a, .ref t_grams_a, .int (iZ t_hasPlan), .ref t_planned_a, .int (iZ t_again), .ref t_againBag_a, .ref t_againKind_a, .ref t_againGrams_a, .long (lZ t_over), .long (lZ t_under), .ref t_trial_a])), (t_gone_a, .inl (cZ, 4, .inl (aI t_gone_f)))] := hD
  refine z_if_eq (tgt := 19) hx hb (by omega) (by omega) dMd_cost_5 (by decide) (fun c_4 => ?_) (fun c_4 => ?_)
  ·
    refine lv_iconst (v := iZ 0) hx hb dMd_cost_19 (by decide) ?_
    exact cq_zret hx hb hr hlocks hAe hQ (bo_narr (by omega) (by omega)) (0, t_costs_f) ⟨rfl, (by (try dsimp only) <;> (first | (refine Or.inl ?_; and_intros <;> first | rfl | omega) | (refine Or.inr ?_; and_intros <;> first | rfl | omega)))⟩ (hP.sub [1, 2, 0] rfl) (hD.sub [1, 2, 0] (by decide) rfl) hS (by decide) (by decide) dMd_cost_20
  ·
    refine lv_lload_n hx hb dMd_cost_8 rfl (lv_at hl 2 rfl) ?_
    refine lv_lconst (v := lZ 1) hx hb dMd_cost_9 (by decide) ?_
    refine lv_ldc2 (v := lZ (100000)) hx hb hown (hts _ (hm g491)) dMd_cost_10 ?_
    refine cq_calli (wr := [(t_costs_a, .inl (cJ, 4, .inr (.inl (aL t_costs_f)))), (t_a, .inr (9, [.long (lZ t_seed), .int (iZ t_strata), .ref t_sizes_a, .ref t_costs_a, .ref t_gone_a, .ref t_drawn_a, .ref t_drawnCounts_a, .int (iZ t_bags), .ref t_owners_a, .ref t_years_a, .ref t_missing_a, .ref t_grams_a, .int (iZ t_hasPlan), .ref t_planned_a, .int (iZ t_again), .ref t_againBag_a, .ref t_againKind_a, .ref t_againGrams_a, .long (lZ t_over), .long (lZ t_under), .ref t_trial_a])), (t_gone_a, .inl (cZ, 4, .inl (aI t_gone_f)))]) (va_runS (As := [.long (lZ cents), .long (lZ 1), .long (lZ 100000)]) (rest := []) ⟨hx, hb, hml, hown, hts⟩ (m_isIn l D cI cJ cZ H.size cents 1 100000 (by omega) (by omega) (by omega) (by omega) (by omega) (by omega)) ⟨(callB_of 3 hts (gAll cmMd_isIn) rfl rfl rfl (hts _ (hm g67)) (hts _ (hm g481)) (by decide +kernel) ⟨Nat.le_of_ble_eq_true rfl, Nat.le_of_ble_eq_true rfl⟩), (hts _ (hm g482))⟩ (cq_preS hK hP hD [] (by decide) rfl) rfl rfl hl.1 rfl (lv_room (Nat.le_of_ble_eq_true rfl)) dMd_cost_13 ⟨by decide, by decide⟩) hP hD hS hA [] [0, 1, 2] rfl rfl (by decide) (by decide) (fun r u H locs hw_5 hP hD hS => ?_)
    obtain ⟨o_6, rfl⟩ : ∃ z, z = u := ⟨_, rfl⟩
    try dsimp only at hw_5
    obtain ⟨rfl, p_7⟩ := hw_5
    have hP : va_P D clAll [(t_costs_a, .inl (cJ, 4, .inr (.inl (aL t_costs_f)))), (t_a, .inr (9, [.long (lZ t_seed), .int (iZ t_strata), .ref t_sizes_a, .ref t_costs_a, .ref t_gone_a, .ref t_drawn_a, .ref t_drawnCounts_a, .int (iZ t_bags), .ref t_owners_a, .ref t_years_a, .ref t_missing_a, .ref t_grams_a, .int (iZ t_hasPlan), .ref t_planned_a, .int (iZ t_again), .ref t_againBag_a, .ref t_againKind_a, .ref t_againGrams_a, .long (lZ t_over), .long (lZ t_under), .ref t_trial_a])), (t_gone_a, .inl (cZ, 4, .inl (aI t_gone_f)))] H := hP
    have hD : va_D A [(t_costs_a, .inl (cJ, 4, .inr (.inl (aL t_costs_f)))), (t_a, .inr (9, [.long (lZ t_seed), .int (iZ t_strata), .ref t_sizes_a, .ref t_costs_a, .ref t_gone_a, .ref t_drawn_a, .ref t_drawnCounts_a, .int (iZ t_bags), .ref t_owners_a, .ref t_years_a, .ref t_missing_a, .ref t_grams_a, .int (iZ t_hasPlan), .ref t_planned_a, .int (iZ t_again), .ref t_againBag_a, .ref t_againKind_a, .ref t_againGrams_a, .long (lZ t_over), .long (lZ t_under), .ref t_trial_a])), (t_gone_a, .inl (cZ, 4, .inl (aI t_gone_f)))] := hD
    refine z_if_ne (tgt := 21) hx hb (by omega) (by omega) dMd_cost_16 (by decide) (fun c_8 => ?_) (fun c_8 => ?_)
    ·
      refine lv_aload_n hx hb dMd_cost_21 rfl (lv_at hl 0 rfl) ?_
      refine va_get (D := D) (ci := 9) (v := .ref t_costs_a) (C := RMd) (T := TMd) (N := 21) hx hb hts layMd hown hK.1 hP 1 rfl rfl 3 (by decide) (hts _ (hm g437)) (fun _ h9 => h9) rfl dMd_cost_22 ?_
      refine lv_iload_n hx hb dMd_cost_25 rfl (lv_at hl 1 rfl) ?_
      refine lv_lload_n hx hb dMd_cost_26 rfl (lv_at hl 2 rfl) ?_
      refine z_last hx hb hK hP hD hS 0 1 rfl rfl (by omega) (by omega) (by decide) dMd_cost_27 (fun H locs hP hD hS => ?_)
      have hP : va_P D clAll [(t_costs_a, .inl (cJ, 4, .inr (.inl (aL (pu t_costs_f z cents))))), (t_a, .inr (9, [.long (lZ t_seed), .int (iZ t_strata), .ref t_sizes_a, .ref t_costs_a, .ref t_gone_a, .ref t_drawn_a, .ref t_drawnCounts_a, .int (iZ t_bags), .ref t_owners_a, .ref t_years_a, .ref t_missing_a, .ref t_grams_a, .int (iZ t_hasPlan), .ref t_planned_a, .int (iZ t_again), .ref t_againBag_a, .ref t_againKind_a, .ref t_againGrams_a, .long (lZ t_over), .long (lZ t_under), .ref t_trial_a])), (t_gone_a, .inl (cZ, 4, .inl (aI t_gone_f)))] H := hP
      have hD : va_D A [(t_costs_a, .inl (cJ, 4, .inr (.inl (aL (pu t_costs_f z cents))))), (t_a, .inr (9, [.long (lZ t_seed), .int (iZ t_strata), .ref t_sizes_a, .ref t_costs_a, .ref t_gone_a, .ref t_drawn_a, .ref t_drawnCounts_a, .int (iZ t_bags), .ref t_owners_a, .ref t_years_a, .ref t_missing_a, .ref t_grams_a, .int (iZ t_hasPlan), .ref t_planned_a, .int (iZ t_again), .ref t_againBag_a, .ref t_againKind_a, .ref t_againGrams_a, .long (lZ t_over), .long (lZ t_under), .ref t_trial_a])), (t_gone_a, .inl (cZ, 4, .inl (aI t_gone_f)))] := hD
      refine lv_iconst (v := iZ 1) hx hb dMd_cost_28 (by decide) ?_
      exact cq_zret hx hb hr hlocks hAe hQ (bo_narr (by omega) (by omega)) (1, (pu t_costs_f z cents)) ⟨rfl, (by (try dsimp only) <;> (first | (refine Or.inl ?_; and_intros <;> first | rfl | omega) | (refine Or.inr ?_; and_intros <;> first | rfl | omega)))⟩ (hP.sub [1, 2, 0] rfl) (hD.sub [1, 2, 0] (by decide) rfl) hS (by decide) (by decide) dMd_cost_29
    ·
      refine lv_iconst (v := iZ 0) hx hb dMd_cost_19 (by decide) ?_
      exact cq_zret hx hb hr hlocks hAe hQ (bo_narr (by omega) (by omega)) (0, t_costs_f) ⟨rfl, (by (try dsimp only) <;> (first | (refine Or.inl ?_; and_intros <;> first | rfl | omega) | (refine Or.inr ?_; and_intros <;> first | rfl | omega)))⟩ (hP.sub [1, 2, 0] rfl) (hD.sub [1, 2, 0] (by decide) rfl) hS (by decide) (by decide) dMd_cost_20
set_option maxHeartbeats 4000000 in
set_option maxRecDepth 100000 in
theorem m_bag (l : Launch) (D : va_G) (cI cJ cZ : ClassId) (t_a t_sizes_a t_costs_a t_gone_a t_drawn_a t_drawnCounts_a t_owners_a t_years_a t_missing_a t_grams_a t_planned_a t_againBag_a t_againKind_a t_againGrams_a t_trial_a : Nat) (sz : Nat) (t_seed : Int) (t_strata : Int) (t_bags : Int) (t_hasPlan : Int) (t_again : Int) (t_over : Int) (t_under : Int) (t_gone_f : Int → Int) (t_owners_f : Int → Int) (z : Int) (h_z1 : -2147483648 ≤ z) (h_z2 : z < 2147483648) (hn1 : 0 ≤ t_strata) (hn2 : t_strata ≤ 4) (hb1 : 0 ≤ t_bags) (hb2 : t_bags ≤ 12) (hgo : ∀ j, 0 ≤ t_gone_f j ∧ t_gone_f j ≤ 1) : cq_i l yMd_bag wsMd_bag ({ frames := 1, cells := 0, slots := 0, locals := 21 }) D clAll [(cI, .int), (cJ, .long), (cZ, .boolean)] nwAll [.ref t_a, .int (iZ z)] [(t_a, .inr (9, [.long (lZ t_seed), .int (iZ t_strata), .ref t_sizes_a, .ref t_costs_a, .ref t_gone_a, .ref t_drawn_a, .ref t_drawnCounts_a, .int (iZ t_bags), .ref t_owners_a, .ref t_years_a, .ref t_missing_a, .ref t_grams_a, .int (iZ t_hasPlan), .ref t_planned_a, .int (iZ t_again), .ref t_againBag_a, .ref t_againKind_a, .ref t_againGrams_a, .long (lZ t_over), .long (lZ t_under), .ref t_trial_a])), (t_gone_a, .inl (cZ, 4, .inl (aI t_gone_f))), (t_owners_a, .inl (cI, 12, .inl (aI t_owners_f)))] sz (S := Int × Int × (Int → Int)) (fun (r : Int32) (u : Int × Int × (Int → Int)) => r = iZ u.1 ∧ ((((0 ≤ z ∧ z < t_strata ∧ t_gone_f z = 0) ∧ t_bags < 12) ∧ u.1 = t_bags ∧ u.2.1 = t_bags + 1 ∧ u.2.2 = pu t_owners_f t_bags z) ∨ (¬ ((0 ≤ z ∧ z < t_strata ∧ t_gone_f z = 0) ∧ t_bags < 12) ∧ u.1 = -1 ∧ u.2.1 = t_bags ∧ u.2.2 = t_owners_f))) (fun (u : Int × Int × (Int → Int)) => [(t_a, .inr (9, [.long (lZ t_seed), .int (iZ t_strata), .ref t_sizes_a, .ref t_costs_a, .ref t_gone_a, .ref t_drawn_a, .ref t_drawnCounts_a, .int (iZ u.2.1), .ref t_owners_a, .ref t_years_a, .ref t_missing_a, .ref t_grams_a, .int (iZ t_hasPlan), .ref t_planned_a, .int (iZ t_again), .ref t_againBag_a, .ref t_againKind_a, .ref t_againGrams_a, .long (lZ t_over), .long (lZ t_under), .ref t_trial_a])), (t_gone_a, .inl (cZ, 4, .inl (aI t_gone_f))), (t_owners_a, .inl (cI, 12, .inl (aI u.2.2)))]) 0 0 := by
  refine cq_enter (cc := cMd_bag) (maxL := 2) (ret := some .int) (by decide) rfl (Nat.le_of_ble_eq_true rfl) ?_
  intro p e s m below meth c A args Q H hAe hQ hsz hAt hA hP hK hD hS ls hl
  obtain ⟨hx, hb, hr, hml, hown, hts, hlocks, hin⟩ := hAt
  have hown : s.vm.findClass RMd = some m.cls := hown
  have hl : lv_has ls 2 [(0, .ref t_a), (1, .int (iZ z))] := hl
  refine lv_aload_n hx hb dMd_bag_0 rfl (lv_at hl 0 rfl) ?_
  refine va_get (D := D) (ci := 9) (v := .int (iZ t_bags)) (C := RMd) (T := TMd) (N := 21) hx hb hts layMd hown hK.1 hP 0 rfl rfl 7 (by decide) (hts _ (hm g441)) (fun _ h9 => h9) rfl dMd_bag_1 ?_
  refine lv_bipush (v := iZ (12)) hx hb dMd_bag_4 (by decide) ?_
  refine z_icmp_eq (tgt := 17) hx hb (by omega) (by omega) (by omega) (by omega) dMd_bag_6 (by decide) (fun c_1 => ?_) (fun c_1 => ?_)
  ·
    refine lv_iconst (v := iZ (-1)) hx hb dMd_bag_17 (by decide) ?_
    exact cq_iret hx hb hr hlocks hAe hQ (-1, t_bags, t_owners_f) ⟨rfl, (by (try dsimp only) <;> (first | (refine Or.inl ?_; and_intros <;> first | rfl | omega) | (refine Or.inr ?_; and_intros <;> first | rfl | omega)))⟩ (hP.sub [0, 1, 2] rfl) (hD.sub [0, 1, 2] (by decide) rfl) hS (by decide) (by decide) dMd_bag_18
  ·
    refine lv_aload_n hx hb dMd_bag_9 rfl (lv_at hl 0 rfl) ?_
    refine lv_iload_n hx hb dMd_bag_10 rfl (lv_at hl 1 rfl) ?_
    refine cq_calli (wr := [(t_owners_a, .inl (cI, 12, .inl (aI t_owners_f)))]) (va_runV (C := RMd) (As := [.int (iZ z)]) (rest := []) ⟨hx, hb, hml, hown, hts⟩ (m_isHere l D cI cJ cZ t_a t_sizes_a t_costs_a t_gone_a t_drawn_a t_drawnCounts_a t_owners_a t_years_a t_missing_a t_grams_a t_planned_a t_againBag_a t_againKind_a t_againGrams_a t_trial_a H.size t_seed t_strata t_bags t_hasPlan t_again t_over t_under t_gone_f z (by omega) (by omega) (by first | assumption | omega) (by first | assumption | omega) (by first | assumption | omega)) ⟨(callB_of 1 hts (gAll cmMd_isHere) rfl rfl rfl (hts _ (hm g67)) (hts _ (hm g488)) (by decide +kernel) ⟨Nat.le_of_ble_eq_true rfl, Nat.le_of_ble_eq_true rfl⟩), (hts _ (hm g489)), (hts _ (hm g41))⟩ (cq_preV (va_recv hK.1 hP (ci := 9) (q0 := 0) rfl rfl) (cq_preS hK hP hD [0, 1] (by decide) rfl)) rfl rfl hl.1 rfl (lv_room (Nat.le_of_ble_eq_true rfl)) dMd_bag_11 ⟨by decide, by decide⟩) hP hD hS hA [0, 1] [2] rfl rfl (by decide) (by decide) (fun r u H locs hw_2 hP hD hS => ?_)
    obtain ⟨o_3, rfl⟩ : ∃ z, z = u := ⟨_, rfl⟩
    try dsimp only at hw_2
    obtain ⟨rfl, p_4⟩ := hw_2
    have hP : va_P D clAll [(t_owners_a, .inl (cI, 12, .inl (aI t_owners_f))), (t_a, .inr (9, [.long (lZ t_seed), .int (iZ t_strata), .ref t_sizes_a, .ref t_costs_a, .ref t_gone_a, .ref t_drawn_a, .ref t_drawnCounts_a, .int (iZ t_bags), .ref t_owners_a, .ref t_years_a, .ref t_missing_a, .ref t_grams_a, .int (iZ t_hasPlan), .ref t_planned_a, .int (iZ t_again), .ref t_againBag_a, .ref t_againKind_a, .ref t_againGrams_a, .long (lZ t_over), .long (lZ t_under), .ref t_trial_a])), (t_gone_a, .inl (cZ, 4, .inl (aI t_gone_f)))] H := hP
    have hD : va_D A [(t_owners_a, .inl (cI, 12, .inl (aI t_owners_f))), (t_a, .inr (9, [.long (lZ t_seed), .int (iZ t_strata), .ref t_sizes_a, .ref t_costs_a, .ref t_gone_a, .ref t_drawn_a, .ref t_drawnCounts_a, .int (iZ t_bags), .ref t_owners_a, .ref t_years_a, .ref t_missing_a, .ref t_grams_a, .int (iZ t_hasPlan), .ref t_planned_a, .int (iZ t_again), .ref t_againBag_a, .ref t_againKind_a, .ref t_againGrams_a, .long (lZ t_over), .long (lZ t_under), .ref t_trial_a])), (t_gone_a, .inl (cZ, 4, .inl (aI t_gone_f)))] := hD
    refine z_if_ne (tgt := 19) hx hb (by omega) (by omega) dMd_bag_14 (by decide) (fun c_5 => ?_) (fun c_5 => ?_)
    ·
      refine lv_aload_n hx hb dMd_bag_19 rfl (lv_at hl 0 rfl) ?_
      refine va_get (D := D) (ci := 9) (v := .ref t_owners_a) (C := RMd) (T := TMd) (N := 21) hx hb hts layMd hown hK.1 hP 1 rfl rfl 8 (by decide) (hts _ (hm g442)) (fun _ h9 => h9) rfl dMd_bag_20 ?_
      refine lv_aload_n hx hb dMd_bag_23 rfl (lv_at hl 0 rfl) ?_
      refine va_get (D := D) (ci := 9) (v := .int (iZ t_bags)) (C := RMd) (T := TMd) (N := 21) hx hb hts layMd hown hK.1 hP 1 rfl rfl 7 (by decide) (hts _ (hm g441)) (fun _ h9 => h9) rfl dMd_bag_24 ?_
      refine lv_iload_n hx hb dMd_bag_27 rfl (lv_at hl 1 rfl) ?_
      refine z_iast hx hb hK hP hD hS 0 0 rfl rfl (by omega) (by omega) (by decide) dMd_bag_28 (fun H locs hP hD hS => ?_)
      have hP : va_P D clAll [(t_owners_a, .inl (cI, 12, .inl (aI (pu t_owners_f t_bags z)))), (t_a, .inr (9, [.long (lZ t_seed), .int (iZ t_strata), .ref t_sizes_a, .ref t_costs_a, .ref t_gone_a, .ref t_drawn_a, .ref t_drawnCounts_a, .int (iZ t_bags), .ref t_owners_a, .ref t_years_a, .ref t_missing_a, .ref t_grams_a, .int (iZ t_hasPlan), .ref t_planned_a, .int (iZ t_again), .ref t_againBag_a, .ref t_againKind_a, .ref t_againGrams_a, .long (lZ t_over), .long (lZ t_under), .ref t_trial_a])), (t_gone_a, .inl (cZ, 4, .inl (aI t_gone_f)))] H := hP
      have hD : va_D A [(t_owners_a, .inl (cI, 12, .inl (aI (pu t_owners_f t_bags z)))), (t_a, .inr (9, [.long (lZ t_seed), .int (iZ t_strata), .ref t_sizes_a, .ref t_costs_a, .ref t_gone_a, .ref t_drawn_a, .ref t_drawnCounts_a, .int (iZ t_bags), .ref t_owners_a, .ref t_years_a, .ref t_missing_a, .ref t_grams_a, .int (iZ t_hasPlan), .ref t_planned_a, .int (iZ t_again), .ref t_againBag_a, .ref t_againKind_a, .ref t_againGrams_a, .long (lZ t_over), .long (lZ t_under), .ref t_trial_a])), (t_gone_a, .inl (cZ, 4, .inl (aI t_gone_f)))] := hD
      refine lv_aload_n hx hb dMd_bag_29 rfl (lv_at hl 0 rfl) ?_
      refine lv_dup hx hb dMd_bag_30 rfl ?_
      refine va_get (D := D) (ci := 9) (v := .int (iZ t_bags)) (C := RMd) (T := TMd) (N := 21) hx hb hts layMd hown hK.1 hP 1 rfl rfl 7 (by decide) (hts _ (hm g441)) (fun _ h9 => h9) rfl dMd_bag_31 ?_
      refine lv_iconst (v := iZ 1) hx hb dMd_bag_34 (by decide) ?_
      refine z_iadd hx hb dMd_bag_35 ?_
      refine va_put (D := D) (ci := 9) (v := .int (iZ (t_bags + 1))) (ty := .int) (C := RMd) (T := TMd) (N := 21) hx hb hts layMd tyMd tyMd_ok nmMd hown hK.1 hP hD hS 1 rfl rfl 7 (by decide) (hts _ (hm g441)) (fun _ h9 => h9) rfl (by decide +kernel) rfl rfl (Nat.le_of_ble_eq_true rfl) dMd_bag_36 (fun H locs hP hD hS => ?_)
      have hP : va_P D clAll [(t_owners_a, .inl (cI, 12, .inl (aI (pu t_owners_f t_bags z)))), (t_a, .inr (9, [.long (lZ t_seed), .int (iZ t_strata), .ref t_sizes_a, .ref t_costs_a, .ref t_gone_a, .ref t_drawn_a, .ref t_drawnCounts_a, .int (iZ (t_bags + 1)), .ref t_owners_a, .ref t_years_a, .ref t_missing_a, .ref t_grams_a, .int (iZ t_hasPlan), .ref t_planned_a, .int (iZ t_again), .ref t_againBag_a, .ref t_againKind_a, .ref t_againGrams_a, .long (lZ t_over), .long (lZ t_under), .ref t_trial_a])), (t_gone_a, .inl (cZ, 4, .inl (aI t_gone_f)))] H := hP
      have hD : va_D A [(t_owners_a, .inl (cI, 12, .inl (aI (pu t_owners_f t_bags z)))), (t_a, .inr (9, [.long (lZ t_seed), .int (iZ t_strata), .ref t_sizes_a, .ref t_costs_a, .ref t_gone_a, .ref t_drawn_a, .ref t_drawnCounts_a, .int (iZ (t_bags + 1)), .ref t_owners_a, .ref t_years_a, .ref t_missing_a, .ref t_grams_a, .int (iZ t_hasPlan), .ref t_planned_a, .int (iZ t_again), .ref t_againBag_a, .ref t_againKind_a, .ref t_againGrams_a, .long (lZ t_over), .long (lZ t_under), .ref t_trial_a])), (t_gone_a, .inl (cZ, 4, .inl (aI t_gone_f)))] := hD
      refine lv_aload_n hx hb dMd_bag_39 rfl (lv_at hl 0 rfl) ?_
      refine va_get (D := D) (ci := 9) (v := .int (iZ (t_bags + 1))) (C := RMd) (T := TMd) (N := 21) hx hb hts layMd hown hK.1 hP 1 rfl rfl 7 (by decide) (hts _ (hm g441)) (fun _ h9 => h9) rfl dMd_bag_40 ?_
      refine lv_iconst (v := iZ 1) hx hb dMd_bag_43 (by decide) ?_
      refine z_isub hx hb dMd_bag_44 ?_
      exact cq_iret hx hb hr hlocks hAe hQ ((t_bags + 1) - 1, t_bags + 1, (pu t_owners_f t_bags z)) ⟨rfl, (by (try dsimp only) <;> (first | (refine Or.inl ?_; and_intros <;> first | rfl | omega) | (refine Or.inr ?_; and_intros <;> first | rfl | omega)))⟩ (hP.sub [1, 2, 0] rfl) (hD.sub [1, 2, 0] (by decide) rfl) hS (by decide) (by decide) dMd_bag_45
    ·
      refine lv_iconst (v := iZ (-1)) hx hb dMd_bag_17 (by decide) ?_
      exact cq_iret hx hb hr hlocks hAe hQ (-1, t_bags, t_owners_f) ⟨rfl, (by (try dsimp only) <;> (first | (refine Or.inl ?_; and_intros <;> first | rfl | omega) | (refine Or.inr ?_; and_intros <;> first | rfl | omega)))⟩ (hP.sub [1, 2, 0] rfl) (hD.sub [1, 2, 0] (by decide) rfl) hS (by decide) (by decide) dMd_bag_18
set_option maxHeartbeats 4000000 in
set_option maxRecDepth 100000 in
theorem m_weight (l : Launch) (D : va_G) (cI cJ cZ : ClassId) (t_a t_sizes_a t_costs_a t_gone_a t_drawn_a t_drawnCounts_a t_owners_a t_years_a t_missing_a t_grams_a t_planned_a t_againBag_a t_againKind_a t_againGrams_a t_trial_a : Nat) (sz : Nat) (t_seed : Int) (t_strata : Int) (t_bags : Int) (t_hasPlan : Int) (t_again : Int) (t_over : Int) (t_under : Int) (t_grams_f : Int → Int) (z : Int) (kind : Int) (gm : Int) (h_z1 : -2147483648 ≤ z) (h_z2 : z < 2147483648) (h_kind1 : -2147483648 ≤ kind) (h_kind2 : kind < 2147483648) (h_gm1 : -9223372036854775808 ≤ gm) (h_gm2 : gm < 9223372036854775808) (hb1 : 0 ≤ t_bags) (hb2 : t_bags ≤ 12) : cq_i l yMd_weight wsMd_weight ({ frames := 1, cells := 0, slots := 0, locals := 25 }) D clAll [(cI, .int), (cJ, .long), (cZ, .boolean)] nwAll [.ref t_a, .int (iZ z), .int (iZ kind), .long (lZ gm)] [(t_a, .inr (9, [.long (lZ t_seed), .int (iZ t_strata), .ref t_sizes_a, .ref t_costs_a, .ref t_gone_a, .ref t_drawn_a, .ref t_drawnCounts_a, .int (iZ t_bags), .ref t_owners_a, .ref t_years_a, .ref t_missing_a, .ref t_grams_a, .int (iZ t_hasPlan), .ref t_planned_a, .int (iZ t_again), .ref t_againBag_a, .ref t_againKind_a, .ref t_againGrams_a, .long (lZ t_over), .long (lZ t_under), .ref t_trial_a])), (t_grams_a, .inl (cJ, 36, .inr (.inl (aL t_grams_f))))] sz (S := Int × (Int → Int)) (fun (r : Int32) (u : Int × (Int → Int)) => r = iZ u.1 ∧ ((((0 ≤ z ∧ z < t_bags) ∧ (0 ≤ kind ∧ kind < 3) ∧ 0 ≤ gm ∧ gm ≤ 10000) ∧ u.1 = 1 ∧ u.2 = pu t_grams_f (z * 3 + kind) gm) ∨ (¬ ((0 ≤ z ∧ z < t_bags) ∧ (0 ≤ kind ∧ kind < 3) ∧ 0 ≤ gm ∧ gm ≤ 10000) ∧ u.1 = 0 ∧ u.2 = t_grams_f))) (fun (u : Int × (Int → Int)) => [(t_a, .inr (9, [.long (lZ t_seed), .int (iZ t_strata), .ref t_sizes_a, .ref t_costs_a, .ref t_gone_a, .ref t_drawn_a, .ref t_drawnCounts_a, .int (iZ t_bags), .ref t_owners_a, .ref t_years_a, .ref t_missing_a, .ref t_grams_a, .int (iZ t_hasPlan), .ref t_planned_a, .int (iZ t_again), .ref t_againBag_a, .ref t_againKind_a, .ref t_againGrams_a, .long (lZ t_over), .long (lZ t_under), .ref t_trial_a])), (t_grams_a, .inl (cJ, 36, .inr (.inl (aL u.2))))]) 0 0 := by
  refine cq_enter (cc := cMd_weight) (maxL := 5) (ret := some .boolean) (by decide) rfl (Nat.le_of_ble_eq_true rfl) ?_
  intro p e s m below meth c A args Q H hAe hQ hsz hAt hA hP hK hD hS ls hl
  obtain ⟨hx, hb, hr, hml, hown, hts, hlocks, hin⟩ := hAt
  have hown : s.vm.findClass RMd = some m.cls := hown
  have hl : lv_has ls 5 [(0, .ref t_a), (1, .int (iZ z)), (2, .int (iZ kind)), (3, .long (lZ gm))] := hl
  refine lv_aload_n hx hb dMd_weight_0 rfl (lv_at hl 0 rfl) ?_
  refine lv_iload_n hx hb dMd_weight_1 rfl (lv_at hl 1 rfl) ?_
  refine cq_calli (wr := [(t_grams_a, .inl (cJ, 36, .inr (.inl (aL t_grams_f))))]) (va_runV (C := RMd) (As := [.int (iZ z)]) (rest := []) ⟨hx, hb, hml, hown, hts⟩ (m_isBag l D cI cJ cZ t_a t_sizes_a t_costs_a t_gone_a t_drawn_a t_drawnCounts_a t_owners_a t_years_a t_missing_a t_grams_a t_planned_a t_againBag_a t_againKind_a t_againGrams_a t_trial_a H.size t_seed t_strata t_bags t_hasPlan t_again t_over t_under z (by omega) (by omega) (by first | assumption | omega) (by first | assumption | omega)) ⟨(callB_of 1 hts (gAll cmMd_isBag) rfl rfl rfl (hts _ (hm g67)) (hts _ (hm g500)) (by decide +kernel) ⟨Nat.le_of_ble_eq_true rfl, Nat.le_of_ble_eq_true rfl⟩), (hts _ (hm g501)), (hts _ (hm g42))⟩ (cq_preV (va_recv hK.1 hP (ci := 9) (q0 := 0) rfl rfl) (cq_preS hK hP hD [0] (by decide) rfl)) rfl rfl hl.1 rfl (lv_room (Nat.le_of_ble_eq_true rfl)) dMd_weight_2 ⟨by decide, by decide⟩) hP hD hS hA [0] [1] rfl rfl (by decide) (by decide) (fun r u H locs hw_1 hP hD hS => ?_)
  obtain ⟨o_2, rfl⟩ : ∃ z, z = u := ⟨_, rfl⟩
  try dsimp only at hw_1
  obtain ⟨rfl, p_3⟩ := hw_1
  have hP : va_P D clAll [(t_grams_a, .inl (cJ, 36, .inr (.inl (aL t_grams_f)))), (t_a, .inr (9, [.long (lZ t_seed), .int (iZ t_strata), .ref t_sizes_a, .ref t_costs_a, .ref t_gone_a, .ref t_drawn_a, .ref t_drawnCounts_a, .int (iZ t_bags), .ref t_owners_a, .ref t_years_a, .ref t_missing_a, .ref t_grams_a, .int (iZ t_hasPlan), .ref t_planned_a, .int (iZ t_again), .ref t_againBag_a, .ref t_againKind_a, .ref t_againGrams_a, .long (lZ t_over), .long (lZ t_under), .ref t_trial_a]))] H := hP
  have hD : va_D A [(t_grams_a, .inl (cJ, 36, .inr (.inl (aL t_grams_f)))), (t_a, .inr (9, [.long (lZ t_seed), .int (iZ t_strata), .ref t_sizes_a, .ref t_costs_a, .ref t_gone_a, .ref t_drawn_a, .ref t_drawnCounts_a, .int (iZ t_bags), .ref t_owners_a, .ref t_years_a, .ref t_missing_a, .ref t_grams_a, .int (iZ t_hasPlan), .ref t_planned_a, .int (iZ t_again), .ref t_againBag_a, .ref t_againKind_a, .ref t_againGrams_a, .long (lZ t_over), .long (lZ t_under), .ref t_trial_a]))] := hD
  refine z_if_eq (tgt := 26) hx hb (by omega) (by omega) dMd_weight_5 (by decide) (fun c_4 => ?_) (fun c_4 => ?_)
  ·
    refine lv_iconst (v := iZ 0) hx hb dMd_weight_26 (by decide) ?_
    exact cq_zret hx hb hr hlocks hAe hQ (bo_narr (by omega) (by omega)) (0, t_grams_f) ⟨rfl, (by (try dsimp only) <;> (first | (refine Or.inl ?_; and_intros <;> first | rfl | omega) | (refine Or.inr ?_; and_intros <;> first | rfl | omega)))⟩ (hP.sub [1, 0] rfl) (hD.sub [1, 0] (by decide) rfl) hS (by decide) (by decide) dMd_weight_27
  ·
    refine lv_iload_n hx hb dMd_weight_8 rfl (lv_at hl 2 rfl) ?_
    refine cq_calli (wr := [(t_grams_a, .inl (cJ, 36, .inr (.inl (aL t_grams_f)))), (t_a, .inr (9, [.long (lZ t_seed), .int (iZ t_strata), .ref t_sizes_a, .ref t_costs_a, .ref t_gone_a, .ref t_drawn_a, .ref t_drawnCounts_a, .int (iZ t_bags), .ref t_owners_a, .ref t_years_a, .ref t_missing_a, .ref t_grams_a, .int (iZ t_hasPlan), .ref t_planned_a, .int (iZ t_again), .ref t_againBag_a, .ref t_againKind_a, .ref t_againGrams_a, .long (lZ t_over), .long (lZ t_under), .ref t_trial_a]))]) (va_runS (As := [.int (iZ kind)]) (rest := []) ⟨hx, hb, hml, hown, hts⟩ (m_isKind l D cI cJ cZ H.size kind (by omega) (by omega)) ⟨(callB_of 1 hts (gAll cmMd_isKind) rfl rfl rfl (hts _ (hm g67)) (hts _ (hm g503)) (by decide +kernel) ⟨Nat.le_of_ble_eq_true rfl, Nat.le_of_ble_eq_true rfl⟩), (hts _ (hm g504))⟩ (cq_preS hK hP hD [] (by decide) rfl) rfl rfl hl.1 rfl (lv_room (Nat.le_of_ble_eq_true rfl)) dMd_weight_9 ⟨by decide, by decide⟩) hP hD hS hA [] [0, 1] rfl rfl (by decide) (by decide) (fun r u H locs hw_5 hP hD hS => ?_)
    obtain ⟨o_6, rfl⟩ : ∃ z, z = u := ⟨_, rfl⟩
    try dsimp only at hw_5
    obtain ⟨rfl, p_7⟩ := hw_5
    have hP : va_P D clAll [(t_grams_a, .inl (cJ, 36, .inr (.inl (aL t_grams_f)))), (t_a, .inr (9, [.long (lZ t_seed), .int (iZ t_strata), .ref t_sizes_a, .ref t_costs_a, .ref t_gone_a, .ref t_drawn_a, .ref t_drawnCounts_a, .int (iZ t_bags), .ref t_owners_a, .ref t_years_a, .ref t_missing_a, .ref t_grams_a, .int (iZ t_hasPlan), .ref t_planned_a, .int (iZ t_again), .ref t_againBag_a, .ref t_againKind_a, .ref t_againGrams_a, .long (lZ t_over), .long (lZ t_under), .ref t_trial_a]))] H := hP
    have hD : va_D A [(t_grams_a, .inl (cJ, 36, .inr (.inl (aL t_grams_f)))), (t_a, .inr (9, [.long (lZ t_seed), .int (iZ t_strata), .ref t_sizes_a, .ref t_costs_a, .ref t_gone_a, .ref t_drawn_a, .ref t_drawnCounts_a, .int (iZ t_bags), .ref t_owners_a, .ref t_years_a, .ref t_missing_a, .ref t_grams_a, .int (iZ t_hasPlan), .ref t_planned_a, .int (iZ t_again), .ref t_againBag_a, .ref t_againKind_a, .ref t_againGrams_a, .long (lZ t_over), .long (lZ t_under), .ref t_trial_a]))] := hD
    refine z_if_eq (tgt := 26) hx hb (by omega) (by omega) dMd_weight_12 (by decide) (fun c_8 => ?_) (fun c_8 => ?_)
    ·
      refine lv_iconst (v := iZ 0) hx hb dMd_weight_26 (by decide) ?_
      exact cq_zret hx hb hr hlocks hAe hQ (bo_narr (by omega) (by omega)) (0, t_grams_f) ⟨rfl, (by (try dsimp only) <;> (first | (refine Or.inl ?_; and_intros <;> first | rfl | omega) | (refine Or.inr ?_; and_intros <;> first | rfl | omega)))⟩ (hP.sub [1, 0] rfl) (hD.sub [1, 0] (by decide) rfl) hS (by decide) (by decide) dMd_weight_27
    ·
      refine lv_lload_n hx hb dMd_weight_15 rfl (lv_at hl 3 rfl) ?_
      refine lv_lconst (v := lZ 0) hx hb dMd_weight_16 (by decide) ?_
      refine lv_ldc2 (v := lZ (10000)) hx hb hown (hts _ (hm g506)) dMd_weight_17 ?_
      refine cq_calli (wr := [(t_grams_a, .inl (cJ, 36, .inr (.inl (aL t_grams_f)))), (t_a, .inr (9, [.long (lZ t_seed), .int (iZ t_strata), .ref t_sizes_a, .ref t_costs_a, .ref t_gone_a, .ref t_drawn_a, .ref t_drawnCounts_a, .int (iZ t_bags), .ref t_owners_a, .ref t_years_a, .ref t_missing_a, .ref t_grams_a, .int (iZ t_hasPlan), .ref t_planned_a, .int (iZ t_again), .ref t_againBag_a, .ref t_againKind_a, .ref t_againGrams_a, .long (lZ t_over), .long (lZ t_under), .ref t_trial_a]))]) (va_runS (As := [.long (lZ gm), .long (lZ 0), .long (lZ 10000)]) (rest := []) ⟨hx, hb, hml, hown, hts⟩ (m_isIn l D cI cJ cZ H.size gm 0 10000 (by omega) (by omega) (by omega) (by omega) (by omega) (by omega)) ⟨(callB_of 3 hts (gAll cmMd_isIn) rfl rfl rfl (hts _ (hm g67)) (hts _ (hm g481)) (by decide +kernel) ⟨Nat.le_of_ble_eq_true rfl, Nat.le_of_ble_eq_true rfl⟩), (hts _ (hm g482))⟩ (cq_preS hK hP hD [] (by decide) rfl) rfl rfl hl.1 rfl (lv_room (Nat.le_of_ble_eq_true rfl)) dMd_weight_20 ⟨by decide, by decide⟩) hP hD hS hA [] [0, 1] rfl rfl (by decide) (by decide) (fun r u H locs hw_9 hP hD hS => ?_)
      obtain ⟨o_10, rfl⟩ : ∃ z, z = u := ⟨_, rfl⟩
      try dsimp only at hw_9
      obtain ⟨rfl, p_11⟩ := hw_9
      have hP : va_P D clAll [(t_grams_a, .inl (cJ, 36, .inr (.inl (aL t_grams_f)))), (t_a, .inr (9, [.long (lZ t_seed), .int (iZ t_strata), .ref t_sizes_a, .ref t_costs_a, .ref t_gone_a, .ref t_drawn_a, .ref t_drawnCounts_a, .int (iZ t_bags), .ref t_owners_a, .ref t_years_a, .ref t_missing_a, .ref t_grams_a, .int (iZ t_hasPlan), .ref t_planned_a, .int (iZ t_again), .ref t_againBag_a, .ref t_againKind_a, .ref t_againGrams_a, .long (lZ t_over), .long (lZ t_under), .ref t_trial_a]))] H := hP
      have hD : va_D A [(t_grams_a, .inl (cJ, 36, .inr (.inl (aL t_grams_f)))), (t_a, .inr (9, [.long (lZ t_seed), .int (iZ t_strata), .ref t_sizes_a, .ref t_costs_a, .ref t_gone_a, .ref t_drawn_a, .ref t_drawnCounts_a, .int (iZ t_bags), .ref t_owners_a, .ref t_years_a, .ref t_missing_a, .ref t_grams_a, .int (iZ t_hasPlan), .ref t_planned_a, .int (iZ t_again), .ref t_againBag_a, .ref t_againKind_a, .ref t_againGrams_a, .long (lZ t_over), .long (lZ t_under), .ref t_trial_a]))] := hD
      refine z_if_ne (tgt := 28) hx hb (by omega) (by omega) dMd_weight_23 (by decide) (fun c_12 => ?_) (fun c_12 => ?_)
      ·
        refine lv_aload_n hx hb dMd_weight_28 rfl (lv_at hl 0 rfl) ?_
        refine va_get (D := D) (ci := 9) (v := .ref t_grams_a) (C := RMd) (T := TMd) (N := 21) hx hb hts layMd hown hK.1 hP 1 rfl rfl 11 (by decide) (hts _ (hm g445)) (fun _ h9 => h9) rfl dMd_weight_29 ?_
        refine lv_iconst (v := iZ 3) hx hb dMd_weight_32 (by decide) ?_
        refine lv_iload_n hx hb dMd_weight_33 rfl (lv_at hl 1 rfl) ?_
        refine z_imul hx hb dMd_weight_34 ?_
        refine cq_ti (congrArg iZ (Int.mul_comm _ _)) ?_
        refine lv_iload_n hx hb dMd_weight_35 rfl (lv_at hl 2 rfl) ?_
        refine z_iadd hx hb dMd_weight_36 ?_
        refine lv_lload_n hx hb dMd_weight_37 rfl (lv_at hl 3 rfl) ?_
        refine z_last hx hb hK hP hD hS 0 1 rfl rfl (by omega) (by omega) (by decide) dMd_weight_38 (fun H locs hP hD hS => ?_)
        have hP : va_P D clAll [(t_grams_a, .inl (cJ, 36, .inr (.inl (aL (pu t_grams_f ((z * 3) + kind) gm))))), (t_a, .inr (9, [.long (lZ t_seed), .int (iZ t_strata), .ref t_sizes_a, .ref t_costs_a, .ref t_gone_a, .ref t_drawn_a, .ref t_drawnCounts_a, .int (iZ t_bags), .ref t_owners_a, .ref t_years_a, .ref t_missing_a, .ref t_grams_a, .int (iZ t_hasPlan), .ref t_planned_a, .int (iZ t_again), .ref t_againBag_a, .ref t_againKind_a, .ref t_againGrams_a, .long (lZ t_over), .long (lZ t_under), .ref t_trial_a]))] H := hP
        have hD : va_D A [(t_grams_a, .inl (cJ, 36, .inr (.inl (aL (pu t_grams_f ((z * 3) + kind) gm))))), (t_a, .inr (9, [.long (lZ t_seed), .int (iZ t_strata), .ref t_sizes_a, .ref t_costs_a, .ref t_gone_a, .ref t_drawn_a, .ref t_drawnCounts_a, .int (iZ t_bags), .ref t_owners_a, .ref t_years_a, .ref t_missing_a, .ref t_grams_a, .int (iZ t_hasPlan), .ref t_planned_a, .int (iZ t_again), .ref t_againBag_a, .ref t_againKind_a, .ref t_againGrams_a, .long (lZ t_over), .long (lZ t_under), .ref t_trial_a]))] := hD
        refine lv_iconst (v := iZ 1) hx hb dMd_weight_39 (by decide) ?_
        exact cq_zret hx hb hr hlocks hAe hQ (bo_narr (by omega) (by omega)) (1, (pu t_grams_f ((z * 3) + kind) gm)) ⟨rfl, (by (try dsimp only) <;> (first | (refine Or.inl ?_; and_intros <;> first | rfl | omega) | (refine Or.inr ?_; and_intros <;> first | rfl | omega)))⟩ (hP.sub [1, 0] rfl) (hD.sub [1, 0] (by decide) rfl) hS (by decide) (by decide) dMd_weight_40
      ·
        refine lv_iconst (v := iZ 0) hx hb dMd_weight_26 (by decide) ?_
        exact cq_zret hx hb hr hlocks hAe hQ (bo_narr (by omega) (by omega)) (0, t_grams_f) ⟨rfl, (by (try dsimp only) <;> (first | (refine Or.inl ?_; and_intros <;> first | rfl | omega) | (refine Or.inr ?_; and_intros <;> first | rfl | omega)))⟩ (hP.sub [1, 0] rfl) (hD.sub [1, 0] (by decide) rfl) hS (by decide) (by decide) dMd_weight_27
set_option maxHeartbeats 4000000 in
set_option maxRecDepth 100000 in
theorem m_year (l : Launch) (D : va_G) (cI cJ cZ : ClassId) (t_a t_sizes_a t_costs_a t_gone_a t_drawn_a t_drawnCounts_a t_owners_a t_years_a t_missing_a t_grams_a t_planned_a t_againBag_a t_againKind_a t_againGrams_a t_trial_a : Nat) (sz : Nat) (t_seed : Int) (t_strata : Int) (t_bags : Int) (t_hasPlan : Int) (t_again : Int) (t_over : Int) (t_under : Int) (t_years_f : Int → Int) (z : Int) (y : Int) (h_z1 : -2147483648 ≤ z) (h_z2 : z < 2147483648) (h_y1 : -2147483648 ≤ y) (h_y2 : y < 2147483648) (hb1 : 0 ≤ t_bags) (hb2 : t_bags ≤ 12) : cq_i l yMd_year wsMd_year ({ frames := 1, cells := 0, slots := 0, locals := 21 }) D clAll [(cI, .int), (cJ, .long), (cZ, .boolean)] nwAll [.ref t_a, .int (iZ z), .int (iZ y)] [(t_a, .inr (9, [.long (lZ t_seed), .int (iZ t_strata), .ref t_sizes_a, .ref t_costs_a, .ref t_gone_a, .ref t_drawn_a, .ref t_drawnCounts_a, .int (iZ t_bags), .ref t_owners_a, .ref t_years_a, .ref t_missing_a, .ref t_grams_a, .int (iZ t_hasPlan), .ref t_planned_a, .int (iZ t_again), .ref t_againBag_a, .ref t_againKind_a, .ref t_againGrams_a, .long (lZ t_over), .long (lZ t_under), .ref t_trial_a])), (t_years_a, .inl (cI, 12, .inl (aI t_years_f)))] sz (S := Int × (Int → Int)) (fun (r : Int32) (u : Int × (Int → Int)) => r = iZ u.1 ∧ ((((0 ≤ z ∧ z < t_bags) ∧ 0 ≤ y ∧ y < 2) ∧ u.1 = 1 ∧ u.2 = pu t_years_f z y) ∨ (¬ ((0 ≤ z ∧ z < t_bags) ∧ 0 ≤ y ∧ y < 2) ∧ u.1 = 0 ∧ u.2 = t_years_f))) (fun (u : Int × (Int → Int)) => [(t_a, .inr (9, [.long (lZ t_seed), .int (iZ t_strata), .ref t_sizes_a, .ref t_costs_a, .ref t_gone_a, .ref t_drawn_a, .ref t_drawnCounts_a, .int (iZ t_bags), .ref t_owners_a, .ref t_years_a, .ref t_missing_a, .ref t_grams_a, .int (iZ t_hasPlan), .ref t_planned_a, .int (iZ t_again), .ref t_againBag_a, .ref t_againKind_a, .ref t_againGrams_a, .long (lZ t_over), .long (lZ t_under), .ref t_trial_a])), (t_years_a, .inl (cI, 12, .inl (aI u.2)))]) 0 0 := by
  refine cq_enter (cc := cMd_year) (maxL := 3) (ret := some .boolean) (by decide) rfl (Nat.le_of_ble_eq_true rfl) ?_
  intro p e s m below meth c A args Q H hAe hQ hsz hAt hA hP hK hD hS ls hl
  obtain ⟨hx, hb, hr, hml, hown, hts, hlocks, hin⟩ := hAt
  have hown : s.vm.findClass RMd = some m.cls := hown
  have hl : lv_has ls 3 [(0, .ref t_a), (1, .int (iZ z)), (2, .int (iZ y))] := hl
  refine lv_aload_n hx hb dMd_year_0 rfl (lv_at hl 0 rfl) ?_
  refine lv_iload_n hx hb dMd_year_1 rfl (lv_at hl 1 rfl) ?_
  refine cq_calli (wr := [(t_years_a, .inl (cI, 12, .inl (aI t_years_f)))]) (va_runV (C := RMd) (As := [.int (iZ z)]) (rest := []) ⟨hx, hb, hml, hown, hts⟩ (m_isBag l D cI cJ cZ t_a t_sizes_a t_costs_a t_gone_a t_drawn_a t_drawnCounts_a t_owners_a t_years_a t_missing_a t_grams_a t_planned_a t_againBag_a t_againKind_a t_againGrams_a t_trial_a H.size t_seed t_strata t_bags t_hasPlan t_again t_over t_under z (by omega) (by omega) (by first | assumption | omega) (by first | assumption | omega)) ⟨(callB_of 1 hts (gAll cmMd_isBag) rfl rfl rfl (hts _ (hm g67)) (hts _ (hm g500)) (by decide +kernel) ⟨Nat.le_of_ble_eq_true rfl, Nat.le_of_ble_eq_true rfl⟩), (hts _ (hm g501)), (hts _ (hm g42))⟩ (cq_preV (va_recv hK.1 hP (ci := 9) (q0 := 0) rfl rfl) (cq_preS hK hP hD [0] (by decide) rfl)) rfl rfl hl.1 rfl (lv_room (Nat.le_of_ble_eq_true rfl)) dMd_year_2 ⟨by decide, by decide⟩) hP hD hS hA [0] [1] rfl rfl (by decide) (by decide) (fun r u H locs hw_1 hP hD hS => ?_)
  obtain ⟨o_2, rfl⟩ : ∃ z, z = u := ⟨_, rfl⟩
  try dsimp only at hw_1
  obtain ⟨rfl, p_3⟩ := hw_1
  have hP : va_P D clAll [(t_years_a, .inl (cI, 12, .inl (aI t_years_f))), (t_a, .inr (9, [.long (lZ t_seed), .int (iZ t_strata), .ref t_sizes_a, .ref t_costs_a, .ref t_gone_a, .ref t_drawn_a, .ref t_drawnCounts_a, .int (iZ t_bags), .ref t_owners_a, .ref t_years_a, .ref t_missing_a, .ref t_grams_a, .int (iZ t_hasPlan), .ref t_planned_a, .int (iZ t_again), .ref t_againBag_a, .ref t_againKind_a, .ref t_againGrams_a, .long (lZ t_over), .long (lZ t_under), .ref t_trial_a]))] H := hP
  have hD : va_D A [(t_years_a, .inl (cI, 12, .inl (aI t_years_f))), (t_a, .inr (9, [.long (lZ t_seed), .int (iZ t_strata), .ref t_sizes_a, .ref t_costs_a, .ref t_gone_a, .ref t_drawn_a, .ref t_drawnCounts_a, .int (iZ t_bags), .ref t_owners_a, .ref t_years_a, .ref t_missing_a, .ref t_grams_a, .int (iZ t_hasPlan), .ref t_planned_a, .int (iZ t_again), .ref t_againBag_a, .ref t_againKind_a, .ref t_againGrams_a, .long (lZ t_over), .long (lZ t_under), .ref t_trial_a]))] := hD
  refine z_if_eq (tgt := 17) hx hb (by omega) (by omega) dMd_year_5 (by decide) (fun c_4 => ?_) (fun c_4 => ?_)
  ·
    refine lv_iconst (v := iZ 0) hx hb dMd_year_17 (by decide) ?_
    exact cq_zret hx hb hr hlocks hAe hQ (bo_narr (by omega) (by omega)) (0, t_years_f) ⟨rfl, (by (try dsimp only) <;> (first | (refine Or.inl ?_; and_intros <;> first | rfl | omega) | (refine Or.inr ?_; and_intros <;> first | rfl | omega)))⟩ (hP.sub [1, 0] rfl) (hD.sub [1, 0] (by decide) rfl) hS (by decide) (by decide) dMd_year_18
  ·
    refine lv_iload_n hx hb dMd_year_8 rfl (lv_at hl 2 rfl) ?_
    refine z_if_lt (tgt := 17) hx hb (by omega) (by omega) dMd_year_9 (by decide) (fun c_5 => ?_) (fun c_5 => ?_)
    ·
      refine lv_iconst (v := iZ 0) hx hb dMd_year_17 (by decide) ?_
      exact cq_zret hx hb hr hlocks hAe hQ (bo_narr (by omega) (by omega)) (0, t_years_f) ⟨rfl, (by (try dsimp only) <;> (first | (refine Or.inl ?_; and_intros <;> first | rfl | omega) | (refine Or.inr ?_; and_intros <;> first | rfl | omega)))⟩ (hP.sub [1, 0] rfl) (hD.sub [1, 0] (by decide) rfl) hS (by decide) (by decide) dMd_year_18
    ·
      refine lv_iload_n hx hb dMd_year_12 rfl (lv_at hl 2 rfl) ?_
      refine lv_iconst (v := iZ 1) hx hb dMd_year_13 (by decide) ?_
      refine z_icmp_le (tgt := 19) hx hb (by omega) (by omega) (by omega) (by omega) dMd_year_14 (by decide) (fun c_6 => ?_) (fun c_6 => ?_)
      ·
        refine lv_aload_n hx hb dMd_year_19 rfl (lv_at hl 0 rfl) ?_
        refine va_get (D := D) (ci := 9) (v := .ref t_years_a) (C := RMd) (T := TMd) (N := 21) hx hb hts layMd hown hK.1 hP 1 rfl rfl 9 (by decide) (hts _ (hm g443)) (fun _ h9 => h9) rfl dMd_year_20 ?_
        refine lv_iload_n hx hb dMd_year_23 rfl (lv_at hl 1 rfl) ?_
        refine lv_iload_n hx hb dMd_year_24 rfl (lv_at hl 2 rfl) ?_
        refine z_iast hx hb hK hP hD hS 0 0 rfl rfl (by omega) (by omega) (by decide) dMd_year_25 (fun H locs hP hD hS => ?_)
        have hP : va_P D clAll [(t_years_a, .inl (cI, 12, .inl (aI (pu t_years_f z y)))), (t_a, .inr (9, [.long (lZ t_seed), .int (iZ t_strata), .ref t_sizes_a, .ref t_costs_a, .ref t_gone_a, .ref t_drawn_a, .ref t_drawnCounts_a, .int (iZ t_bags), .ref t_owners_a, .ref t_years_a, .ref t_missing_a, .ref t_grams_a, .int (iZ t_hasPlan), .ref t_planned_a, .int (iZ t_again), .ref t_againBag_a, .ref t_againKind_a, .ref t_againGrams_a, .long (lZ t_over), .long (lZ t_under), .ref t_trial_a]))] H := hP
        have hD : va_D A [(t_years_a, .inl (cI, 12, .inl (aI (pu t_years_f z y)))), (t_a, .inr (9, [.long (lZ t_seed), .int (iZ t_strata), .ref t_sizes_a, .ref t_costs_a, .ref t_gone_a, .ref t_drawn_a, .ref t_drawnCounts_a, .int (iZ t_bags), .ref t_owners_a, .ref t_years_a, .ref t_missing_a, .ref t_grams_a, .int (iZ t_hasPlan), .ref t_planned_a, .int (iZ t_again), .ref t_againBag_a, .ref t_againKind_a, .ref t_againGrams_a, .long (lZ t_over), .long (lZ t_under), .ref t_trial_a]))] := hD
        refine lv_iconst (v := iZ 1) hx hb dMd_year_26 (by decide) ?_
        exact cq_zret hx hb hr hlocks hAe hQ (bo_narr (by omega) (by omega)) (1, (pu t_years_f z y)) ⟨rfl, (by (try dsimp only) <;> (first | (refine Or.inl ?_; and_intros <;> first | rfl | omega) | (refine Or.inr ?_; and_intros <;> first | rfl | omega)))⟩ (hP.sub [1, 0] rfl) (hD.sub [1, 0] (by decide) rfl) hS (by decide) (by decide) dMd_year_27
      ·
        refine lv_iconst (v := iZ 0) hx hb dMd_year_17 (by decide) ?_
        exact cq_zret hx hb hr hlocks hAe hQ (bo_narr (by omega) (by omega)) (0, t_years_f) ⟨rfl, (by (try dsimp only) <;> (first | (refine Or.inl ?_; and_intros <;> first | rfl | omega) | (refine Or.inr ?_; and_intros <;> first | rfl | omega)))⟩ (hP.sub [1, 0] rfl) (hD.sub [1, 0] (by decide) rfl) hS (by decide) (by decide) dMd_year_18
set_option maxHeartbeats 4000000 in
set_option maxRecDepth 100000 in
theorem m_missing (l : Launch) (D : va_G) (cI cJ cZ : ClassId) (t_a t_sizes_a t_costs_a t_gone_a t_drawn_a t_drawnCounts_a t_owners_a t_years_a t_missing_a t_grams_a t_planned_a t_againBag_a t_againKind_a t_againGrams_a t_trial_a : Nat) (sz : Nat) (t_seed : Int) (t_strata : Int) (t_bags : Int) (t_hasPlan : Int) (t_again : Int) (t_over : Int) (t_under : Int) (t_missing_f : Int → Int) (z : Int) (h_z1 : -2147483648 ≤ z) (h_z2 : z < 2147483648) (hb1 : 0 ≤ t_bags) (hb2 : t_bags ≤ 12) (hlo : ∀ j, 0 ≤ t_missing_f j ∧ t_missing_f j ≤ 1) : cq_i l yMd_missing wsMd_missing ({ frames := 1, cells := 0, slots := 0, locals := 21 }) D clAll [(cI, .int), (cJ, .long), (cZ, .boolean)] nwAll [.ref t_a, .int (iZ z)] [(t_a, .inr (9, [.long (lZ t_seed), .int (iZ t_strata), .ref t_sizes_a, .ref t_costs_a, .ref t_gone_a, .ref t_drawn_a, .ref t_drawnCounts_a, .int (iZ t_bags), .ref t_owners_a, .ref t_years_a, .ref t_missing_a, .ref t_grams_a, .int (iZ t_hasPlan), .ref t_planned_a, .int (iZ t_again), .ref t_againBag_a, .ref t_againKind_a, .ref t_againGrams_a, .long (lZ t_over), .long (lZ t_under), .ref t_trial_a])), (t_missing_a, .inl (cZ, 12, .inl (aI t_missing_f)))] sz (S := Int × (Int → Int)) (fun (r : Int32) (u : Int × (Int → Int)) => r = iZ u.1 ∧ (((0 ≤ z ∧ z < t_bags ∧ t_missing_f z = 0) ∧ u.1 = 1 ∧ u.2 = pu t_missing_f z 1) ∨ (¬ (0 ≤ z ∧ z < t_bags ∧ t_missing_f z = 0) ∧ u.1 = 0 ∧ u.2 = t_missing_f))) (fun (u : Int × (Int → Int)) => [(t_a, .inr (9, [.long (lZ t_seed), .int (iZ t_strata), .ref t_sizes_a, .ref t_costs_a, .ref t_gone_a, .ref t_drawn_a, .ref t_drawnCounts_a, .int (iZ t_bags), .ref t_owners_a, .ref t_years_a, .ref t_missing_a, .ref t_grams_a, .int (iZ t_hasPlan), .ref t_planned_a, .int (iZ t_again), .ref t_againBag_a, .ref t_againKind_a, .ref t_againGrams_a, .long (lZ t_over), .long (lZ t_under), .ref t_trial_a])), (t_missing_a, .inl (cZ, 12, .inl (aI u.2)))]) 0 0 := by
  refine cq_enter (cc := cMd_missing) (maxL := 2) (ret := some .boolean) (by decide) rfl (Nat.le_of_ble_eq_true rfl) ?_
  intro p e s m below meth c A args Q H hAe hQ hsz hAt hA hP hK hD hS ls hl
  obtain ⟨hx, hb, hr, hml, hown, hts, hlocks, hin⟩ := hAt
  have hown : s.vm.findClass RMd = some m.cls := hown
  have hl : lv_has ls 2 [(0, .ref t_a), (1, .int (iZ z))] := hl
  refine lv_aload_n hx hb dMd_missing_0 rfl (lv_at hl 0 rfl) ?_
  refine lv_iload_n hx hb dMd_missing_1 rfl (lv_at hl 1 rfl) ?_
  refine cq_calli (wr := [(t_missing_a, .inl (cZ, 12, .inl (aI t_missing_f)))]) (va_runV (C := RMd) (As := [.int (iZ z)]) (rest := []) ⟨hx, hb, hml, hown, hts⟩ (m_isBag l D cI cJ cZ t_a t_sizes_a t_costs_a t_gone_a t_drawn_a t_drawnCounts_a t_owners_a t_years_a t_missing_a t_grams_a t_planned_a t_againBag_a t_againKind_a t_againGrams_a t_trial_a H.size t_seed t_strata t_bags t_hasPlan t_again t_over t_under z (by omega) (by omega) (by first | assumption | omega) (by first | assumption | omega)) ⟨(callB_of 1 hts (gAll cmMd_isBag) rfl rfl rfl (hts _ (hm g67)) (hts _ (hm g500)) (by decide +kernel) ⟨Nat.le_of_ble_eq_true rfl, Nat.le_of_ble_eq_true rfl⟩), (hts _ (hm g501)), (hts _ (hm g42))⟩ (cq_preV (va_recv hK.1 hP (ci := 9) (q0 := 0) rfl rfl) (cq_preS hK hP hD [0] (by decide) rfl)) rfl rfl hl.1 rfl (lv_room (Nat.le_of_ble_eq_true rfl)) dMd_missing_2 ⟨by decide, by decide⟩) hP hD hS hA [0] [1] rfl rfl (by decide) (by decide) (fun r u H locs hw_1 hP hD hS => ?_)
  obtain ⟨o_2, rfl⟩ : ∃ z, z = u := ⟨_, rfl⟩
  try dsimp only at hw_1
  obtain ⟨rfl, p_3⟩ := hw_1
  have hP : va_P D clAll [(t_missing_a, .inl (cZ, 12, .inl (aI t_missing_f))), (t_a, .inr (9, [.long (lZ t_seed), .int (iZ t_strata), .ref t_sizes_a, .ref t_costs_a, .ref t_gone_a, .ref t_drawn_a, .ref t_drawnCounts_a, .int (iZ t_bags), .ref t_owners_a, .ref t_years_a, .ref t_missing_a, .ref t_grams_a, .int (iZ t_hasPlan), .ref t_planned_a, .int (iZ t_again), .ref t_againBag_a, .ref t_againKind_a, .ref t_againGrams_a, .long (lZ t_over), .long (lZ t_under), .ref t_trial_a]))] H := hP
  have hD : va_D A [(t_missing_a, .inl (cZ, 12, .inl (aI t_missing_f))), (t_a, .inr (9, [.long (lZ t_seed), .int (iZ t_strata), .ref t_sizes_a, .ref t_costs_a, .ref t_gone_a, .ref t_drawn_a, .ref t_drawnCounts_a, .int (iZ t_bags), .ref t_owners_a, .ref t_years_a, .ref t_missing_a, .ref t_grams_a, .int (iZ t_hasPlan), .ref t_planned_a, .int (iZ t_again), .ref t_againBag_a, .ref t_againKind_a, .ref t_againGrams_a, .long (lZ t_over), .long (lZ t_under), .ref t_trial_a]))] := hD
  refine z_if_eq (tgt := 17) hx hb (by omega) (by omega) dMd_missing_5 (by decide) (fun c_4 => ?_) (fun c_4 => ?_)
  ·
    refine lv_iconst (v := iZ 0) hx hb dMd_missing_17 (by decide) ?_
    exact cq_zret hx hb hr hlocks hAe hQ (bo_narr (by omega) (by omega)) (0, t_missing_f) ⟨rfl, (by (try dsimp only) <;> (first | (refine Or.inl ?_; and_intros <;> first | rfl | omega) | (refine Or.inr ?_; and_intros <;> first | rfl | omega)))⟩ (hP.sub [1, 0] rfl) (hD.sub [1, 0] (by decide) rfl) hS (by decide) (by decide) dMd_missing_18
  ·
    refine lv_aload_n hx hb dMd_missing_8 rfl (lv_at hl 0 rfl) ?_
    refine va_get (D := D) (ci := 9) (v := .ref t_missing_a) (C := RMd) (T := TMd) (N := 21) hx hb hts layMd hown hK.1 hP 1 rfl rfl 10 (by decide) (hts _ (hm g444)) (fun _ h9 => h9) rfl dMd_missing_9 ?_
    refine lv_iload_n hx hb dMd_missing_12 rfl (lv_at hl 1 rfl) ?_
    refine z_zald hx hb hK hP 0 2 rfl rfl (by omega) (by omega) (by decide) dMd_missing_13 ?_
    have f_5 := hlo z
    refine z_if_eq (tgt := 19) hx hb (by omega) (by omega) dMd_missing_14 (by decide) (fun c_6 => ?_) (fun c_6 => ?_)
    ·
      refine lv_aload_n hx hb dMd_missing_19 rfl (lv_at hl 0 rfl) ?_
      refine va_get (D := D) (ci := 9) (v := .ref t_missing_a) (C := RMd) (T := TMd) (N := 21) hx hb hts layMd hown hK.1 hP 1 rfl rfl 10 (by decide) (hts _ (hm g444)) (fun _ h9 => h9) rfl dMd_missing_20 ?_
      refine lv_iload_n hx hb dMd_missing_23 rfl (lv_at hl 1 rfl) ?_
      refine lv_iconst (v := iZ 1) hx hb dMd_missing_24 (by decide) ?_
      refine z_zast hx hb hK hP hD hS 0 2 rfl rfl (by omega) (by omega) (by decide) (by omega) (by omega) dMd_missing_25 (fun H locs hP hD hS => ?_)
      have hP : va_P D clAll [(t_missing_a, .inl (cZ, 12, .inl (aI (pu t_missing_f z 1)))), (t_a, .inr (9, [.long (lZ t_seed), .int (iZ t_strata), .ref t_sizes_a, .ref t_costs_a, .ref t_gone_a, .ref t_drawn_a, .ref t_drawnCounts_a, .int (iZ t_bags), .ref t_owners_a, .ref t_years_a, .ref t_missing_a, .ref t_grams_a, .int (iZ t_hasPlan), .ref t_planned_a, .int (iZ t_again), .ref t_againBag_a, .ref t_againKind_a, .ref t_againGrams_a, .long (lZ t_over), .long (lZ t_under), .ref t_trial_a]))] H := hP
      have hD : va_D A [(t_missing_a, .inl (cZ, 12, .inl (aI (pu t_missing_f z 1)))), (t_a, .inr (9, [.long (lZ t_seed), .int (iZ t_strata), .ref t_sizes_a, .ref t_costs_a, .ref t_gone_a, .ref t_drawn_a, .ref t_drawnCounts_a, .int (iZ t_bags), .ref t_owners_a, .ref t_years_a, .ref t_missing_a, .ref t_grams_a, .int (iZ t_hasPlan), .ref t_planned_a, .int (iZ t_again), .ref t_againBag_a, .ref t_againKind_a, .ref t_againGrams_a, .long (lZ t_over), .long (lZ t_under), .ref t_trial_a]))] := hD
      refine lv_iconst (v := iZ 1) hx hb dMd_missing_26 (by decide) ?_
      exact cq_zret hx hb hr hlocks hAe hQ (bo_narr (by omega) (by omega)) (1, (pu t_missing_f z 1)) ⟨rfl, (by (try dsimp only) <;> (first | (refine Or.inl ?_; and_intros <;> first | rfl | omega) | (refine Or.inr ?_; and_intros <;> first | rfl | omega)))⟩ (hP.sub [1, 0] rfl) (hD.sub [1, 0] (by decide) rfl) hS (by decide) (by decide) dMd_missing_27
    ·
      refine lv_iconst (v := iZ 0) hx hb dMd_missing_17 (by decide) ?_
      exact cq_zret hx hb hr hlocks hAe hQ (bo_narr (by omega) (by omega)) (0, t_missing_f) ⟨rfl, (by (try dsimp only) <;> (first | (refine Or.inl ?_; and_intros <;> first | rfl | omega) | (refine Or.inr ?_; and_intros <;> first | rfl | omega)))⟩ (hP.sub [1, 0] rfl) (hD.sub [1, 0] (by decide) rfl) hS (by decide) (by decide) dMd_missing_18
set_option maxHeartbeats 4000000 in
set_option maxRecDepth 100000 in
theorem m_draw (l : Launch) (D : va_G) (cI cJ cZ : ClassId) (t_a t_sizes_a t_costs_a t_gone_a t_drawn_a t_drawnCounts_a t_owners_a t_years_a t_missing_a t_grams_a t_planned_a t_againBag_a t_againKind_a t_againGrams_a t_trial_a : Nat) (sz : Nat) (t_seed : Int) (t_strata : Int) (t_bags : Int) (t_hasPlan : Int) (t_again : Int) (t_over : Int) (t_under : Int) (t_gone_f : Int → Int) (t_sizes_f : Int → Int) (t_drawn_f : Int → Int) (t_drawnCounts_f : Int → Int) (z : Int) (n : Int) (h_z1 : -2147483648 ≤ z) (h_z2 : z < 2147483648) (h_n1 : -2147483648 ≤ n) (h_n2 : n < 2147483648) (hn1 : 0 ≤ t_strata) (hn2 : t_strata ≤ 4) (hgo : ∀ j, 0 ≤ t_gone_f j ∧ t_gone_f j ≤ 1) (hss : ∀ j, 0 ≤ t_sizes_f j ∧ t_sizes_f j ≤ 100) (hli : ∀ j, 0 ≤ t_drawn_f j ∧ t_drawn_f j ≤ 99) (hsp : ∀ j, 0 ≤ j → j < t_strata → 1 ≤ t_sizes_f j) : cq_i l yMd_draw wsMd_draw ({ frames := 1, cells := 0, slots := 0, locals := 21 }) D clAll [(cI, .int), (cJ, .long), (cZ, .boolean)] nwAll [.ref t_a, .int (iZ z), .int (iZ n)] [(t_a, .inr (9, [.long (lZ t_seed), .int (iZ t_strata), .ref t_sizes_a, .ref t_costs_a, .ref t_gone_a, .ref t_drawn_a, .ref t_drawnCounts_a, .int (iZ t_bags), .ref t_owners_a, .ref t_years_a, .ref t_missing_a, .ref t_grams_a, .int (iZ t_hasPlan), .ref t_planned_a, .int (iZ t_again), .ref t_againBag_a, .ref t_againKind_a, .ref t_againGrams_a, .long (lZ t_over), .long (lZ t_under), .ref t_trial_a])), (t_gone_a, .inl (cZ, 4, .inl (aI t_gone_f))), (t_sizes_a, .inl (cI, 4, .inl (aI t_sizes_f))), (t_drawn_a, .inl (cI, 400, .inl (aI t_drawn_f))), (t_drawnCounts_a, .inl (cI, 4, .inl (aI t_drawnCounts_f)))] sz (S := Int × Int × (Int → Int) × (Int → Int)) (fun (r : Int32) (u : Int × Int × (Int → Int) × (Int → Int)) => r = iZ u.1 ∧ ((((0 ≤ z ∧ z < t_strata ∧ t_gone_f z = 0) ∧ 0 ≤ n ∧ n ≤ t_sizes_f z) ∧ u.1 = n ∧ (u.2.2.1, u.2.1) = drN (z * 100) (t_sizes_f z) n.toNat (ini t_drawn_f (z * 100) (t_sizes_f z), t_seed) ∧ u.2.2.2 = pu t_drawnCounts_f z n) ∨ (¬ ((0 ≤ z ∧ z < t_strata ∧ t_gone_f z = 0) ∧ 0 ≤ n ∧ n ≤ t_sizes_f z) ∧ u.1 = -1 ∧ (u.2.2.1, u.2.1) = (t_drawn_f, t_seed) ∧ u.2.2.2 = t_drawnCounts_f)) ∧ (∀ j, 0 ≤ u.2.2.1 j ∧ u.2.2.1 j ≤ 99)) (fun (u : Int × Int × (Int → Int) × (Int → Int)) => [(t_a, .inr (9, [.long (lZ u.2.1), .int (iZ t_strata), .ref t_sizes_a, .ref t_costs_a, .ref t_gone_a, .ref t_drawn_a, .ref t_drawnCounts_a, .int (iZ t_bags), .ref t_owners_a, .ref t_years_a, .ref t_missing_a, .ref t_grams_a, .int (iZ t_hasPlan), .ref t_planned_a, .int (iZ t_again), .ref t_againBag_a, .ref t_againKind_a, .ref t_againGrams_a, .long (lZ t_over), .long (lZ t_under), .ref t_trial_a])), (t_gone_a, .inl (cZ, 4, .inl (aI t_gone_f))), (t_sizes_a, .inl (cI, 4, .inl (aI t_sizes_f))), (t_drawn_a, .inl (cI, 400, .inl (aI u.2.2.1))), (t_drawnCounts_a, .inl (cI, 4, .inl (aI u.2.2.2)))]) 0 0 := by
  refine cq_enter (cc := cMd_draw) (maxL := 6) (ret := some .int) (by decide) rfl (Nat.le_of_ble_eq_true rfl) ?_
  intro p e s m below meth c A args Q H hAe hQ hsz hAt hA hP hK hD hS ls hl
  obtain ⟨hx, hb, hr, hml, hown, hts, hlocks, hin⟩ := hAt
  have hown : s.vm.findClass RMd = some m.cls := hown
  have hl : lv_has ls 6 [(0, .ref t_a), (1, .int (iZ z)), (2, .int (iZ n))] := hl
  refine lv_aload_n hx hb dMd_draw_0 rfl (lv_at hl 0 rfl) ?_
  refine lv_iload_n hx hb dMd_draw_1 rfl (lv_at hl 1 rfl) ?_
  refine cq_calli (wr := [(t_sizes_a, .inl (cI, 4, .inl (aI t_sizes_f))), (t_drawn_a, .inl (cI, 400, .inl (aI t_drawn_f))), (t_drawnCounts_a, .inl (cI, 4, .inl (aI t_drawnCounts_f)))]) (va_runV (C := RMd) (As := [.int (iZ z)]) (rest := []) ⟨hx, hb, hml, hown, hts⟩ (m_isHere l D cI cJ cZ t_a t_sizes_a t_costs_a t_gone_a t_drawn_a t_drawnCounts_a t_owners_a t_years_a t_missing_a t_grams_a t_planned_a t_againBag_a t_againKind_a t_againGrams_a t_trial_a H.size t_seed t_strata t_bags t_hasPlan t_again t_over t_under t_gone_f z (by omega) (by omega) (by first | assumption | omega) (by first | assumption | omega) (by first | assumption | omega)) ⟨(callB_of 1 hts (gAll cmMd_isHere) rfl rfl rfl (hts _ (hm g67)) (hts _ (hm g488)) (by decide +kernel) ⟨Nat.le_of_ble_eq_true rfl, Nat.le_of_ble_eq_true rfl⟩), (hts _ (hm g489)), (hts _ (hm g41))⟩ (cq_preV (va_recv hK.1 hP (ci := 9) (q0 := 0) rfl rfl) (cq_preS hK hP hD [0, 1] (by decide) rfl)) rfl rfl hl.1 rfl (lv_room (Nat.le_of_ble_eq_true rfl)) dMd_draw_2 ⟨by decide, by decide⟩) hP hD hS hA [0, 1] [2, 3, 4] rfl rfl (by decide) (by decide) (fun r u H locs hw_1 hP hD hS => ?_)
  obtain ⟨o_2, rfl⟩ : ∃ z, z = u := ⟨_, rfl⟩
  try dsimp only at hw_1
  obtain ⟨rfl, p_3⟩ := hw_1
  have hP : va_P D clAll [(t_sizes_a, .inl (cI, 4, .inl (aI t_sizes_f))), (t_drawn_a, .inl (cI, 400, .inl (aI t_drawn_f))), (t_drawnCounts_a, .inl (cI, 4, .inl (aI t_drawnCounts_f))), (t_a, .inr (9, [.long (lZ t_seed), .int (iZ t_strata), .ref t_sizes_a, .ref t_costs_a, .ref t_gone_a, .ref t_drawn_a, .ref t_drawnCounts_a, .int (iZ t_bags), .ref t_owners_a, .ref t_years_a, .ref t_missing_a, .ref t_grams_a, .int (iZ t_hasPlan), .ref t_planned_a, .int (iZ t_again), .ref t_againBag_a, .ref t_againKind_a, .ref t_againGrams_a, .long (lZ t_over), .long (lZ t_under), .ref t_trial_a])), (t_gone_a, .inl (cZ, 4, .inl (aI t_gone_f)))] H := hP
  have hD : va_D A [(t_sizes_a, .inl (cI, 4, .inl (aI t_sizes_f))), (t_drawn_a, .inl (cI, 400, .inl (aI t_drawn_f))), (t_drawnCounts_a, .inl (cI, 4, .inl (aI t_drawnCounts_f))), (t_a, .inr (9, [.long (lZ t_seed), .int (iZ t_strata), .ref t_sizes_a, .ref t_costs_a, .ref t_gone_a, .ref t_drawn_a, .ref t_drawnCounts_a, .int (iZ t_bags), .ref t_owners_a, .ref t_years_a, .ref t_missing_a, .ref t_grams_a, .int (iZ t_hasPlan), .ref t_planned_a, .int (iZ t_again), .ref t_againBag_a, .ref t_againKind_a, .ref t_againGrams_a, .long (lZ t_over), .long (lZ t_under), .ref t_trial_a])), (t_gone_a, .inl (cZ, 4, .inl (aI t_gone_f)))] := hD
  refine z_if_eq (tgt := 22) hx hb (by omega) (by omega) dMd_draw_5 (by decide) (fun c_4 => ?_) (fun c_4 => ?_)
  ·
    refine lv_iconst (v := iZ (-1)) hx hb dMd_draw_22 (by decide) ?_
    exact cq_iret hx hb hr hlocks hAe hQ (-1, t_seed, t_drawn_f, t_drawnCounts_f) ⟨rfl, (by (try dsimp only) <;> (first | exact Or.inl ⟨by omega, by omega, dr_end hdr (by omega), rfl⟩ | exact Or.inr ⟨by omega, by omega, rfl, rfl⟩)), (by (try dsimp only) <;> (first | exact hlr | exact hli))⟩ (hP.sub [3, 4, 0, 1, 2] rfl) (hD.sub [3, 4, 0, 1, 2] (by decide) rfl) hS (by decide) (by decide) dMd_draw_23
  ·
    refine lv_iload_n hx hb dMd_draw_8 rfl (lv_at hl 2 rfl) ?_
    refine z_if_lt (tgt := 22) hx hb (by omega) (by omega) dMd_draw_9 (by decide) (fun c_5 => ?_) (fun c_5 => ?_)
    ·
      refine lv_iconst (v := iZ (-1)) hx hb dMd_draw_22 (by decide) ?_
      exact cq_iret hx hb hr hlocks hAe hQ (-1, t_seed, t_drawn_f, t_drawnCounts_f) ⟨rfl, (by (try dsimp only) <;> (first | exact Or.inl ⟨by omega, by omega, dr_end hdr (by omega), rfl⟩ | exact Or.inr ⟨by omega, by omega, rfl, rfl⟩)), (by (try dsimp only) <;> (first | exact hlr | exact hli))⟩ (hP.sub [3, 4, 0, 1, 2] rfl) (hD.sub [3, 4, 0, 1, 2] (by decide) rfl) hS (by decide) (by decide) dMd_draw_23
    ·
      refine lv_iload_n hx hb dMd_draw_12 rfl (lv_at hl 2 rfl) ?_
      refine lv_aload_n hx hb dMd_draw_13 rfl (lv_at hl 0 rfl) ?_
      refine va_get (D := D) (ci := 9) (v := .ref t_sizes_a) (C := RMd) (T := TMd) (N := 21) hx hb hts layMd hown hK.1 hP 3 rfl rfl 2 (by decide) (hts _ (hm g436)) (fun _ h9 => h9) rfl dMd_draw_14 ?_
      refine lv_iload_n hx hb dMd_draw_17 rfl (lv_at hl 1 rfl) ?_
      refine z_iald hx hb hK hP 0 0 rfl rfl (by omega) (by omega) (by decide) dMd_draw_18 ?_
      have f_6 := hss z
      refine z_icmp_le (tgt := 24) hx hb (by omega) (by omega) (by omega) (by omega) dMd_draw_19 (by decide) (fun c_7 => ?_) (fun c_7 => ?_)
      ·
        refine lv_iconst (v := iZ 0) hx hb dMd_draw_24 (by decide) ?_
        refine lv_istore_n (lv' := [(3, .int (iZ 0)), (0, .ref t_a), (1, .int (iZ z)), (2, .int (iZ n))]) hx hb dMd_draw_25 rfl hl (by decide) rfl (fun ls hl => ?_)
        have hsz1 := hss z
        have hsz2 := hsp z (by omega) (by omega)
        have loop_8 : ∀ (n_10 : Nat) (i : Int) (lists : Int → Int), (0 ≤ i) → (i ≤ t_sizes_f z) → (lists = ini t_drawn_f (z * 100) i) → (∀ j, 0 ≤ lists j ∧ lists j ≤ 99) → (t_sizes_f z - i < (n_10 : Int)) → ∀ (H : Heap) (locs : List Loc), va_P D clAll [(t_sizes_a, .inl (cI, 4, .inl (aI t_sizes_f))), (t_drawn_a, .inl (cI, 400, .inl (aI lists))), (t_drawnCounts_a, .inl (cI, 4, .inl (aI t_drawnCounts_f))), (t_a, .inr (9, [.long (lZ t_seed), .int (iZ t_strata), .ref t_sizes_a, .ref t_costs_a, .ref t_gone_a, .ref t_drawn_a, .ref t_drawnCounts_a, .int (iZ t_bags), .ref t_owners_a, .ref t_years_a, .ref t_missing_a, .ref t_grams_a, .int (iZ t_hasPlan), .ref t_planned_a, .int (iZ t_again), .ref t_againBag_a, .ref t_againKind_a, .ref t_againGrams_a, .long (lZ t_over), .long (lZ t_under), .ref t_trial_a])), (t_gone_a, .inl (cZ, 4, .inl (aI t_gone_f)))] H → va_D A [(t_sizes_a, .inl (cI, 4, .inl (aI t_sizes_f))), (t_drawn_a, .inl (cI, 400, .inl (aI lists))), (t_drawnCounts_a, .inl (cI, 4, .inl (aI t_drawnCounts_f))), (t_a, .inr (9, [.long (lZ t_seed), .int (iZ t_strata), .ref t_sizes_a, .ref t_costs_a, .ref t_gone_a, .ref t_drawn_a, .ref t_drawnCounts_a, .int (iZ t_bags), .ref t_owners_a, .ref t_years_a, .ref t_missing_a, .ref t_grams_a, .int (iZ t_hasPlan), .ref t_planned_a, .int (iZ t_again), .ref t_againBag_a, .ref t_againKind_a, .ref t_againGrams_a, .long (lZ t_over), .long (lZ t_under), .ref t_trial_a])), (t_gone_a, .inl (cZ, 4, .inl (aI t_gone_f)))] → va_S A s.heap H locs → ∀ ls : Array Slot, lv_has ls 6 [(0, .ref t_a), (1, .int (iZ z)), (2, .int (iZ n)), (3, .int (iZ i))] → W p l e { frames := 1, cells := 0, slots := 0, locals := 21 } s m args below meth c H locs 0 0 Q (F0 m 26 ls []) := by
          intro n_10
          induction n_10 with
          | zero => intro i lists hi hi2 hin0 hlr hm_11; exact absurd hm_11 (by omega)
          | succ n_10 ih_9 =>
            intro i lists hi hi2 hin0 hlr hm_11 H locs hP hD hS ls hl
            refine lv_iload_n hx hb dMd_draw_26 rfl (lv_at hl 3 rfl) ?_
            refine lv_aload_n hx hb dMd_draw_27 rfl (lv_at hl 0 rfl) ?_
            refine va_get (D := D) (ci := 9) (v := .ref t_sizes_a) (C := RMd) (T := TMd) (N := 21) hx hb hts layMd hown hK.1 hP 3 rfl rfl 2 (by decide) (hts _ (hm g436)) (fun _ h9 => h9) rfl dMd_draw_28 ?_
            refine lv_iload_n hx hb dMd_draw_31 rfl (lv_at hl 1 rfl) ?_
            refine z_iald hx hb hK hP 0 0 rfl rfl (by omega) (by omega) (by decide) dMd_draw_32 ?_
            have f_12 := hss z
            refine z_icmp_ge (tgt := 54) hx hb (by omega) (by omega) (by omega) (by omega) dMd_draw_33 (by decide) (fun c_13 => ?_) (fun c_13 => ?_)
            ·
              refine lv_iconst (v := iZ 0) hx hb dMd_draw_54 (by decide) ?_
              refine lv_istore_n (lv' := [(3, .int (iZ 0)), (0, .ref t_a), (1, .int (iZ z)), (2, .int (iZ n))]) hx hb dMd_draw_55 rfl hl (by decide) rfl (fun ls hl => ?_)
              have loop_14 : ∀ (n_16 : Nat) (i : Int) (lists : Int → Int) (seed : Int), (0 ≤ i) → (i ≤ n) → ((lists, seed) = drN (z * 100) (t_sizes_f z) i.toNat (ini t_drawn_f (z * 100) (t_sizes_f z), t_seed)) → (∀ j, 0 ≤ lists j ∧ lists j ≤ 99) → (n - i < (n_16 : Int)) → ∀ (H : Heap) (locs : List Loc), va_P D clAll [(t_sizes_a, .inl (cI, 4, .inl (aI t_sizes_f))), (t_drawn_a, .inl (cI, 400, .inl (aI lists))), (t_drawnCounts_a, .inl (cI, 4, .inl (aI t_drawnCounts_f))), (t_a, .inr (9, [.long (lZ seed), .int (iZ t_strata), .ref t_sizes_a, .ref t_costs_a, .ref t_gone_a, .ref t_drawn_a, .ref t_drawnCounts_a, .int (iZ t_bags), .ref t_owners_a, .ref t_years_a, .ref t_missing_a, .ref t_grams_a, .int (iZ t_hasPlan), .ref t_planned_a, .int (iZ t_again), .ref t_againBag_a, .ref t_againKind_a, .ref t_againGrams_a, .long (lZ t_over), .long (lZ t_under), .ref t_trial_a])), (t_gone_a, .inl (cZ, 4, .inl (aI t_gone_f)))] H → va_D A [(t_sizes_a, .inl (cI, 4, .inl (aI t_sizes_f))), (t_drawn_a, .inl (cI, 400, .inl (aI lists))), (t_drawnCounts_a, .inl (cI, 4, .inl (aI t_drawnCounts_f))), (t_a, .inr (9, [.long (lZ seed), .int (iZ t_strata), .ref t_sizes_a, .ref t_costs_a, .ref t_gone_a, .ref t_drawn_a, .ref t_drawnCounts_a, .int (iZ t_bags), .ref t_owners_a, .ref t_years_a, .ref t_missing_a, .ref t_grams_a, .int (iZ t_hasPlan), .ref t_planned_a, .int (iZ t_again), .ref t_againBag_a, .ref t_againKind_a, .ref t_againGrams_a, .long (lZ t_over), .long (lZ t_under), .ref t_trial_a])), (t_gone_a, .inl (cZ, 4, .inl (aI t_gone_f)))] → va_S A s.heap H locs → ∀ ls : Array Slot, lv_has ls 6 [(0, .ref t_a), (1, .int (iZ z)), (2, .int (iZ n)), (3, .int (iZ i))] → W p l e { frames := 1, cells := 0, slots := 0, locals := 21 } s m args below meth c H locs 0 0 Q (F0 m 56 ls []) := by
                intro n_16
                induction n_16 with
                | zero => intro i lists seed hi hi2 hdr hlr hm_17; exact absurd hm_17 (by omega)
                | succ n_16 ih_15 =>
                  intro i lists seed hi hi2 hdr hlr hm_17 H locs hP hD hS ls hl
                  refine lv_iload_n hx hb dMd_draw_56 rfl (lv_at hl 3 rfl) ?_
                  refine lv_iload_n hx hb dMd_draw_57 rfl (lv_at hl 2 rfl) ?_
                  refine z_icmp_ge (tgt := 155) hx hb (by omega) (by omega) (by omega) (by omega) dMd_draw_58 (by decide) (fun c_18 => ?_) (fun c_18 => ?_)
                  ·
                    refine lv_aload_n hx hb dMd_draw_155 rfl (lv_at hl 0 rfl) ?_
                    refine va_get (D := D) (ci := 9) (v := .ref t_drawnCounts_a) (C := RMd) (T := TMd) (N := 21) hx hb hts layMd hown hK.1 hP 3 rfl rfl 6 (by decide) (hts _ (hm g440)) (fun _ h9 => h9) rfl dMd_draw_156 ?_
                    refine lv_iload_n hx hb dMd_draw_159 rfl (lv_at hl 1 rfl) ?_
                    refine lv_iload_n hx hb dMd_draw_160 rfl (lv_at hl 2 rfl) ?_
                    refine z_iast hx hb hK hP hD hS 2 0 rfl rfl (by omega) (by omega) (by decide) dMd_draw_161 (fun H locs hP hD hS => ?_)
                    have hP : va_P D clAll [(t_sizes_a, .inl (cI, 4, .inl (aI t_sizes_f))), (t_drawn_a, .inl (cI, 400, .inl (aI lists))), (t_drawnCounts_a, .inl (cI, 4, .inl (aI (pu t_drawnCounts_f z n)))), (t_a, .inr (9, [.long (lZ seed), .int (iZ t_strata), .ref t_sizes_a, .ref t_costs_a, .ref t_gone_a, .ref t_drawn_a, .ref t_drawnCounts_a, .int (iZ t_bags), .ref t_owners_a, .ref t_years_a, .ref t_missing_a, .ref t_grams_a, .int (iZ t_hasPlan), .ref t_planned_a, .int (iZ t_again), .ref t_againBag_a, .ref t_againKind_a, .ref t_againGrams_a, .long (lZ t_over), .long (lZ t_under), .ref t_trial_a])), (t_gone_a, .inl (cZ, 4, .inl (aI t_gone_f)))] H := hP
                    have hD : va_D A [(t_sizes_a, .inl (cI, 4, .inl (aI t_sizes_f))), (t_drawn_a, .inl (cI, 400, .inl (aI lists))), (t_drawnCounts_a, .inl (cI, 4, .inl (aI (pu t_drawnCounts_f z n)))), (t_a, .inr (9, [.long (lZ seed), .int (iZ t_strata), .ref t_sizes_a, .ref t_costs_a, .ref t_gone_a, .ref t_drawn_a, .ref t_drawnCounts_a, .int (iZ t_bags), .ref t_owners_a, .ref t_years_a, .ref t_missing_a, .ref t_grams_a, .int (iZ t_hasPlan), .ref t_planned_a, .int (iZ t_again), .ref t_againBag_a, .ref t_againKind_a, .ref t_againGrams_a, .long (lZ t_over), .long (lZ t_under), .ref t_trial_a])), (t_gone_a, .inl (cZ, 4, .inl (aI t_gone_f)))] := hD
                    refine lv_iload_n hx hb dMd_draw_162 rfl (lv_at hl 2 rfl) ?_
                    exact cq_iret hx hb hr hlocks hAe hQ (n, seed, lists, (pu t_drawnCounts_f z n)) ⟨rfl, (by (try dsimp only) <;> (first | exact Or.inl ⟨by omega, by omega, dr_end hdr (by omega), rfl⟩ | exact Or.inr ⟨by omega, by omega, rfl, rfl⟩)), (by (try dsimp only) <;> (first | exact hlr | exact hli))⟩ (hP.sub [3, 4, 0, 1, 2] rfl) (hD.sub [3, 4, 0, 1, 2] (by decide) rfl) hS (by decide) (by decide) dMd_draw_163
                  ·
                    refine lv_aload_n hx hb dMd_draw_61 rfl (lv_at hl 0 rfl) ?_
                    refine lv_aload_n hx hb dMd_draw_62 rfl (lv_at hl 0 rfl) ?_
                    refine va_get (D := D) (ci := 9) (v := .long (lZ seed)) (C := RMd) (T := TMd) (N := 21) hx hb hts layMd hown hK.1 hP 3 rfl rfl 0 (by decide) (hts _ (hm g434)) (fun _ h9 => h9) rfl dMd_draw_63 ?_
                    refine lv_ldc2 (v := lZ (6364136223846793005)) hx hb hown (hts _ (hm g519)) dMd_draw_66 ?_
                    refine z_lmul hx hb dMd_draw_69 ?_
                    refine lv_ldc2 (v := lZ (1442695040888963407)) hx hb hown (hts _ (hm g520)) dMd_draw_70 ?_
                    refine z_ladd hx hb dMd_draw_73 ?_
                    refine va_put (D := D) (ci := 9) (v := .long (lZ ((seed * 6364136223846793005) + 1442695040888963407))) (ty := .long) (C := RMd) (T := TMd) (N := 21) hx hb hts layMd tyMd tyMd_ok nmMd hown hK.1 hP hD hS 3 rfl rfl 0 (by decide) (hts _ (hm g434)) (fun _ h9 => h9) rfl (by decide +kernel) rfl rfl (Nat.le_of_ble_eq_true rfl) dMd_draw_74 (fun H locs hP hD hS => ?_)
                    have hP : va_P D clAll [(t_sizes_a, .inl (cI, 4, .inl (aI t_sizes_f))), (t_drawn_a, .inl (cI, 400, .inl (aI lists))), (t_drawnCounts_a, .inl (cI, 4, .inl (aI t_drawnCounts_f))), (t_a, .inr (9, [.long (lZ ((seed * 6364136223846793005) + 1442695040888963407)), .int (iZ t_strata), .ref t_sizes_a, .ref t_costs_a, .ref t_gone_a, .ref t_drawn_a, .ref t_drawnCounts_a, .int (iZ t_bags), .ref t_owners_a, .ref t_years_a, .ref t_missing_a, .ref t_grams_a, .int (iZ t_hasPlan), .ref t_planned_a, .int (iZ t_again), .ref t_againBag_a, .ref t_againKind_a, .ref t_againGrams_a, .long (lZ t_over), .long (lZ t_under), .ref t_trial_a])), (t_gone_a, .inl (cZ, 4, .inl (aI t_gone_f)))] H := hP
                    have hD : va_D A [(t_sizes_a, .inl (cI, 4, .inl (aI t_sizes_f))), (t_drawn_a, .inl (cI, 400, .inl (aI lists))), (t_drawnCounts_a, .inl (cI, 4, .inl (aI t_drawnCounts_f))), (t_a, .inr (9, [.long (lZ ((seed * 6364136223846793005) + 1442695040888963407)), .int (iZ t_strata), .ref t_sizes_a, .ref t_costs_a, .ref t_gone_a, .ref t_drawn_a, .ref t_drawnCounts_a, .int (iZ t_bags), .ref t_owners_a, .ref t_years_a, .ref t_missing_a, .ref t_grams_a, .int (iZ t_hasPlan), .ref t_planned_a, .int (iZ t_again), .ref t_againBag_a, .ref t_againKind_a, .ref t_againGrams_a, .long (lZ t_over), .long (lZ t_under), .ref t_trial_a])), (t_gone_a, .inl (cZ, 4, .inl (aI t_gone_f)))] := hD
                    refine lv_iload_n hx hb dMd_draw_77 rfl (lv_at hl 3 rfl) ?_
                    refine lv_aload_n hx hb dMd_draw_78 rfl (lv_at hl 0 rfl) ?_
                    refine va_get (D := D) (ci := 9) (v := .long (lZ ((seed * 6364136223846793005) + 1442695040888963407))) (C := RMd) (T := TMd) (N := 21) hx hb hts layMd hown hK.1 hP 3 rfl rfl 0 (by decide) (hts _ (hm g434)) (fun _ h9 => h9) rfl dMd_draw_79 ?_
                    refine lv_bipush (v := iZ (33)) hx hb dMd_draw_82 (by decide) ?_
                    refine z_lushr33 hx hb dMd_draw_84 ?_
                    refine lv_aload_n hx hb dMd_draw_85 rfl (lv_at hl 0 rfl) ?_
                    refine va_get (D := D) (ci := 9) (v := .ref t_sizes_a) (C := RMd) (T := TMd) (N := 21) hx hb hts layMd hown hK.1 hP 3 rfl rfl 2 (by decide) (hts _ (hm g436)) (fun _ h9 => h9) rfl dMd_draw_86 ?_
                    refine lv_iload_n hx hb dMd_draw_89 rfl (lv_at hl 1 rfl) ?_
                    refine z_iald hx hb hK hP 0 0 rfl rfl (by omega) (by omega) (by decide) dMd_draw_90 ?_
                    have f_19 := hss z
                    refine lv_iload_n hx hb dMd_draw_91 rfl (lv_at hl 3 rfl) ?_
                    refine z_isub hx hb dMd_draw_92 ?_
                    refine z_i2l hx hb (by omega) (by omega) dMd_draw_93 ?_
                    refine z_lrem hx hb (by omega) (by omega) (by omega) (by omega) dMd_draw_94 ?_
                    refine z_l2i hx hb dMd_draw_95 ?_
                    refine cq_ti (rfl) ?_
                    have hrn := rnd_b seed (t_sizes_f z - i) (by omega)
                    refine z_iadd hx hb dMd_draw_96 ?_
                    refine lv_istore (lv' := [(4, .int (iZ (i + (rnd seed (t_sizes_f z - i))))), (0, .ref t_a), (1, .int (iZ z)), (2, .int (iZ n)), (3, .int (iZ i))]) hx hb dMd_draw_97 hl (by decide) rfl (fun ls hl => ?_)
                    refine lv_aload_n hx hb dMd_draw_99 rfl (lv_at hl 1 rfl) ?_
                    refine va_get (D := D) (ci := 9) (v := .ref t_drawn_a) (C := RMd) (T := TMd) (N := 21) hx hb hts layMd hown hK.1 hP 3 rfl rfl 5 (by decide) (hts _ (hm g439)) (fun _ h9 => h9) rfl dMd_draw_100 ?_
                    refine lv_bipush (v := iZ (100)) hx hb dMd_draw_103 (by decide) ?_
                    refine lv_iload_n hx hb dMd_draw_105 rfl (lv_at hl 2 rfl) ?_
                    refine z_imul hx hb dMd_draw_106 ?_
                    refine cq_ti (congrArg iZ (Int.mul_comm _ _)) ?_
                    refine lv_iload hx hb dMd_draw_107 (lv_at hl 0 rfl) ?_
                    refine z_iadd hx hb dMd_draw_109 ?_
                    refine z_iald hx hb hK hP 1 0 rfl rfl (by omega) (by omega) (by decide) dMd_draw_110 ?_
                    refine lv_istore (lv' := [(5, .int (iZ (lists ((z * 100) + (i + (rnd seed (t_sizes_f z - i))))))), (4, .int (iZ (i + (rnd seed (t_sizes_f z - i))))), (0, .ref t_a), (1, .int (iZ z)), (2, .int (iZ n)), (3, .int (iZ i))]) hx hb dMd_draw_111 hl (by decide) rfl (fun ls hl => ?_)
                    refine lv_aload_n hx hb dMd_draw_113 rfl (lv_at hl 2 rfl) ?_
                    refine va_get (D := D) (ci := 9) (v := .ref t_drawn_a) (C := RMd) (T := TMd) (N := 21) hx hb hts layMd hown hK.1 hP 3 rfl rfl 5 (by decide) (hts _ (hm g439)) (fun _ h9 => h9) rfl dMd_draw_114 ?_
                    refine lv_bipush (v := iZ (100)) hx hb dMd_draw_117 (by decide) ?_
                    refine lv_iload_n hx hb dMd_draw_119 rfl (lv_at hl 3 rfl) ?_
                    refine z_imul hx hb dMd_draw_120 ?_
                    refine cq_ti (congrArg iZ (Int.mul_comm _ _)) ?_
                    refine lv_iload hx hb dMd_draw_121 (lv_at hl 1 rfl) ?_
                    refine z_iadd hx hb dMd_draw_123 ?_
                    refine lv_aload_n hx hb dMd_draw_124 rfl (lv_at hl 2 rfl) ?_
                    refine va_get (D := D) (ci := 9) (v := .ref t_drawn_a) (C := RMd) (T := TMd) (N := 21) hx hb hts layMd hown hK.1 hP 3 rfl rfl 5 (by decide) (hts _ (hm g439)) (fun _ h9 => h9) rfl dMd_draw_125 ?_
                    refine lv_bipush (v := iZ (100)) hx hb dMd_draw_128 (by decide) ?_
                    refine lv_iload_n hx hb dMd_draw_130 rfl (lv_at hl 3 rfl) ?_
                    refine z_imul hx hb dMd_draw_131 ?_
                    refine cq_ti (congrArg iZ (Int.mul_comm _ _)) ?_
                    refine lv_iload_n hx hb dMd_draw_132 rfl (lv_at hl 5 rfl) ?_
                    refine z_iadd hx hb dMd_draw_133 ?_
                    refine z_iald hx hb hK hP 1 0 rfl rfl (by omega) (by omega) (by decide) dMd_draw_134 ?_
                    refine z_iast hx hb hK hP hD hS 1 0 rfl rfl (by omega) (by omega) (by decide) dMd_draw_135 (fun H locs hP hD hS => ?_)
                    have hP : va_P D clAll [(t_sizes_a, .inl (cI, 4, .inl (aI t_sizes_f))), (t_drawn_a, .inl (cI, 400, .inl (aI (pu lists ((z * 100) + (i + (rnd seed (t_sizes_f z - i)))) (lists ((z * 100) + i)))))), (t_drawnCounts_a, .inl (cI, 4, .inl (aI t_drawnCounts_f))), (t_a, .inr (9, [.long (lZ ((seed * 6364136223846793005) + 1442695040888963407)), .int (iZ t_strata), .ref t_sizes_a, .ref t_costs_a, .ref t_gone_a, .ref t_drawn_a, .ref t_drawnCounts_a, .int (iZ t_bags), .ref t_owners_a, .ref t_years_a, .ref t_missing_a, .ref t_grams_a, .int (iZ t_hasPlan), .ref t_planned_a, .int (iZ t_again), .ref t_againBag_a, .ref t_againKind_a, .ref t_againGrams_a, .long (lZ t_over), .long (lZ t_under), .ref t_trial_a])), (t_gone_a, .inl (cZ, 4, .inl (aI t_gone_f)))] H := hP
                    have hD : va_D A [(t_sizes_a, .inl (cI, 4, .inl (aI t_sizes_f))), (t_drawn_a, .inl (cI, 400, .inl (aI (pu lists ((z * 100) + (i + (rnd seed (t_sizes_f z - i)))) (lists ((z * 100) + i)))))), (t_drawnCounts_a, .inl (cI, 4, .inl (aI t_drawnCounts_f))), (t_a, .inr (9, [.long (lZ ((seed * 6364136223846793005) + 1442695040888963407)), .int (iZ t_strata), .ref t_sizes_a, .ref t_costs_a, .ref t_gone_a, .ref t_drawn_a, .ref t_drawnCounts_a, .int (iZ t_bags), .ref t_owners_a, .ref t_years_a, .ref t_missing_a, .ref t_grams_a, .int (iZ t_hasPlan), .ref t_planned_a, .int (iZ t_again), .ref t_againBag_a, .ref t_againKind_a, .ref t_againGrams_a, .long (lZ t_over), .long (lZ t_under), .ref t_trial_a])), (t_gone_a, .inl (cZ, 4, .inl (aI t_gone_f)))] := hD
                    refine lv_aload_n hx hb dMd_draw_136 rfl (lv_at hl 2 rfl) ?_
                    refine va_get (D := D) (ci := 9) (v := .ref t_drawn_a) (C := RMd) (T := TMd) (N := 21) hx hb hts layMd hown hK.1 hP 3 rfl rfl 5 (by decide) (hts _ (hm g439)) (fun _ h9 => h9) rfl dMd_draw_137 ?_
                    refine lv_bipush (v := iZ (100)) hx hb dMd_draw_140 (by decide) ?_
                    refine lv_iload_n hx hb dMd_draw_142 rfl (lv_at hl 3 rfl) ?_
                    refine z_imul hx hb dMd_draw_143 ?_
                    refine cq_ti (congrArg iZ (Int.mul_comm _ _)) ?_
                    refine lv_iload_n hx hb dMd_draw_144 rfl (lv_at hl 5 rfl) ?_
                    refine z_iadd hx hb dMd_draw_145 ?_
                    refine lv_iload hx hb dMd_draw_146 (lv_at hl 0 rfl) ?_
                    refine z_iast hx hb hK hP hD hS 1 0 rfl rfl (by omega) (by omega) (by decide) dMd_draw_148 (fun H locs hP hD hS => ?_)
                    have hP : va_P D clAll [(t_sizes_a, .inl (cI, 4, .inl (aI t_sizes_f))), (t_drawn_a, .inl (cI, 400, .inl (aI (pu (pu lists ((z * 100) + (i + (rnd seed (t_sizes_f z - i)))) (lists ((z * 100) + i))) ((z * 100) + i) (lists ((z * 100) + (i + (rnd seed (t_sizes_f z - i))))))))), (t_drawnCounts_a, .inl (cI, 4, .inl (aI t_drawnCounts_f))), (t_a, .inr (9, [.long (lZ ((seed * 6364136223846793005) + 1442695040888963407)), .int (iZ t_strata), .ref t_sizes_a, .ref t_costs_a, .ref t_gone_a, .ref t_drawn_a, .ref t_drawnCounts_a, .int (iZ t_bags), .ref t_owners_a, .ref t_years_a, .ref t_missing_a, .ref t_grams_a, .int (iZ t_hasPlan), .ref t_planned_a, .int (iZ t_again), .ref t_againBag_a, .ref t_againKind_a, .ref t_againGrams_a, .long (lZ t_over), .long (lZ t_under), .ref t_trial_a])), (t_gone_a, .inl (cZ, 4, .inl (aI t_gone_f)))] H := hP
                    have hD : va_D A [(t_sizes_a, .inl (cI, 4, .inl (aI t_sizes_f))), (t_drawn_a, .inl (cI, 400, .inl (aI (pu (pu lists ((z * 100) + (i + (rnd seed (t_sizes_f z - i)))) (lists ((z * 100) + i))) ((z * 100) + i) (lists ((z * 100) + (i + (rnd seed (t_sizes_f z - i))))))))), (t_drawnCounts_a, .inl (cI, 4, .inl (aI t_drawnCounts_f))), (t_a, .inr (9, [.long (lZ ((seed * 6364136223846793005) + 1442695040888963407)), .int (iZ t_strata), .ref t_sizes_a, .ref t_costs_a, .ref t_gone_a, .ref t_drawn_a, .ref t_drawnCounts_a, .int (iZ t_bags), .ref t_owners_a, .ref t_years_a, .ref t_missing_a, .ref t_grams_a, .int (iZ t_hasPlan), .ref t_planned_a, .int (iZ t_again), .ref t_againBag_a, .ref t_againKind_a, .ref t_againGrams_a, .long (lZ t_over), .long (lZ t_under), .ref t_trial_a])), (t_gone_a, .inl (cZ, 4, .inl (aI t_gone_f)))] := hD
                    refine lv_iinc (v := iZ (i + 1)) (lv' := [(3, .int (iZ (i + 1))), (5, .int (iZ (lists ((z * 100) + (i + (rnd seed (t_sizes_f z - i))))))), (4, .int (iZ (i + (rnd seed (t_sizes_f z - i))))), (0, .ref t_a), (1, .int (iZ z)), (2, .int (iZ n))]) hx hb dMd_draw_149 hl (k := 5) rfl (iZ_add i 1) (by decide) rfl (fun ls hl => ?_)
                    refine lv_goto (tgt := 56) hx hb dMd_draw_152 (by decide) ?_
                    exact ih_15  (i + 1) (pu (pu lists ((z * 100) + (i + (rnd seed (t_sizes_f z - i)))) (lists ((z * 100) + i))) ((z * 100) + i) (lists ((z * 100) + (i + (rnd seed (t_sizes_f z - i)))))) ((seed * 6364136223846793005) + 1442695040888963407) (by omega) (by omega) (by exact dr_s2 hdr hi (rnd_b seed (t_sizes_f z - i) (by omega))) (by exact pu_all (pu_all hlr (hlr _).1 (hlr _).2) (hlr _).1 (hlr _).2) (by omega) _ _ (hP.sub [0, 1, 2, 3, 4] rfl) (hD.sub [0, 1, 2, 3, 4] (by decide) rfl) hS ls (lv_sub hl [3, 4, 5, 0] rfl)
              exact loop_14 ((n - 0 : Int).toNat + 1) 0 lists t_seed (by omega) (by omega) (by exact ini_d hin0 (by omega)) (by exact hlr) (by omega) _ _ (hP.sub [0, 1, 2, 3, 4] rfl) (hD.sub [0, 1, 2, 3, 4] (by decide) rfl) hS ls (lv_sub hl [1, 2, 3, 0] rfl)
            ·
              refine lv_aload_n hx hb dMd_draw_36 rfl (lv_at hl 0 rfl) ?_
              refine va_get (D := D) (ci := 9) (v := .ref t_drawn_a) (C := RMd) (T := TMd) (N := 21) hx hb hts layMd hown hK.1 hP 3 rfl rfl 5 (by decide) (hts _ (hm g439)) (fun _ h9 => h9) rfl dMd_draw_37 ?_
              refine lv_bipush (v := iZ (100)) hx hb dMd_draw_40 (by decide) ?_
              refine lv_iload_n hx hb dMd_draw_42 rfl (lv_at hl 1 rfl) ?_
              refine z_imul hx hb dMd_draw_43 ?_
              refine cq_ti (congrArg iZ (Int.mul_comm _ _)) ?_
              refine lv_iload_n hx hb dMd_draw_44 rfl (lv_at hl 3 rfl) ?_
              refine z_iadd hx hb dMd_draw_45 ?_
              refine lv_iload_n hx hb dMd_draw_46 rfl (lv_at hl 3 rfl) ?_
              refine z_iast hx hb hK hP hD hS 1 0 rfl rfl (by omega) (by omega) (by decide) dMd_draw_47 (fun H locs hP hD hS => ?_)
              have hP : va_P D clAll [(t_sizes_a, .inl (cI, 4, .inl (aI t_sizes_f))), (t_drawn_a, .inl (cI, 400, .inl (aI (pu lists ((z * 100) + i) i)))), (t_drawnCounts_a, .inl (cI, 4, .inl (aI t_drawnCounts_f))), (t_a, .inr (9, [.long (lZ t_seed), .int (iZ t_strata), .ref t_sizes_a, .ref t_costs_a, .ref t_gone_a, .ref t_drawn_a, .ref t_drawnCounts_a, .int (iZ t_bags), .ref t_owners_a, .ref t_years_a, .ref t_missing_a, .ref t_grams_a, .int (iZ t_hasPlan), .ref t_planned_a, .int (iZ t_again), .ref t_againBag_a, .ref t_againKind_a, .ref t_againGrams_a, .long (lZ t_over), .long (lZ t_under), .ref t_trial_a])), (t_gone_a, .inl (cZ, 4, .inl (aI t_gone_f)))] H := hP
              have hD : va_D A [(t_sizes_a, .inl (cI, 4, .inl (aI t_sizes_f))), (t_drawn_a, .inl (cI, 400, .inl (aI (pu lists ((z * 100) + i) i)))), (t_drawnCounts_a, .inl (cI, 4, .inl (aI t_drawnCounts_f))), (t_a, .inr (9, [.long (lZ t_seed), .int (iZ t_strata), .ref t_sizes_a, .ref t_costs_a, .ref t_gone_a, .ref t_drawn_a, .ref t_drawnCounts_a, .int (iZ t_bags), .ref t_owners_a, .ref t_years_a, .ref t_missing_a, .ref t_grams_a, .int (iZ t_hasPlan), .ref t_planned_a, .int (iZ t_again), .ref t_againBag_a, .ref t_againKind_a, .ref t_againGrams_a, .long (lZ t_over), .long (lZ t_under), .ref t_trial_a])), (t_gone_a, .inl (cZ, 4, .inl (aI t_gone_f)))] := hD
              refine lv_iinc (v := iZ (i + 1)) (lv' := [(3, .int (iZ (i + 1))), (0, .ref t_a), (1, .int (iZ z)), (2, .int (iZ n))]) hx hb dMd_draw_48 hl (k := 3) rfl (iZ_add i 1) (by decide) rfl (fun ls hl => ?_)
              refine lv_goto (tgt := 26) hx hb dMd_draw_51 (by decide) ?_
              exact ih_9  (i + 1) (pu lists ((z * 100) + i) i) (by omega) (by omega) (by exact ini_s hin0 hi) (by exact pu_all hlr (by omega) (by omega)) (by omega) _ _ (hP.sub [0, 1, 2, 3, 4] rfl) (hD.sub [0, 1, 2, 3, 4] (by decide) rfl) hS ls (lv_sub hl [1, 2, 3, 0] rfl)
        exact loop_8 ((t_sizes_f z - 0 : Int).toNat + 1) 0 t_drawn_f (by omega) (by omega) (by exact ini_0) (by exact hli) (by omega) _ _ (hP.sub [0, 1, 2, 3, 4] rfl) (hD.sub [0, 1, 2, 3, 4] (by decide) rfl) hS ls (lv_sub hl [1, 2, 3, 0] rfl)
      ·
        refine lv_iconst (v := iZ (-1)) hx hb dMd_draw_22 (by decide) ?_
        exact cq_iret hx hb hr hlocks hAe hQ (-1, t_seed, t_drawn_f, t_drawnCounts_f) ⟨rfl, (by (try dsimp only) <;> (first | exact Or.inl ⟨by omega, by omega, dr_end hdr (by omega), rfl⟩ | exact Or.inr ⟨by omega, by omega, rfl, rfl⟩)), (by (try dsimp only) <;> (first | exact hlr | exact hli))⟩ (hP.sub [3, 4, 0, 1, 2] rfl) (hD.sub [3, 4, 0, 1, 2] (by decide) rfl) hS (by decide) (by decide) dMd_draw_23
set_option maxHeartbeats 4000000 in
set_option maxRecDepth 100000 in
theorem m_drawn (l : Launch) (D : va_G) (cI cJ cZ : ClassId) (t_a t_sizes_a t_costs_a t_gone_a t_drawn_a t_drawnCounts_a t_owners_a t_years_a t_missing_a t_grams_a t_planned_a t_againBag_a t_againKind_a t_againGrams_a t_trial_a : Nat) (sz : Nat) (t_seed : Int) (t_strata : Int) (t_bags : Int) (t_hasPlan : Int) (t_again : Int) (t_over : Int) (t_under : Int) (t_drawn_f : Int → Int) (t_drawnCounts_f : Int → Int) (z : Int) (zk : Int) (h_z1 : -2147483648 ≤ z) (h_z2 : z < 2147483648) (h_zk1 : -2147483648 ≤ zk) (h_zk2 : zk < 2147483648) (hn1 : 0 ≤ t_strata) (hn2 : t_strata ≤ 4) (hle : ∀ j, 0 ≤ t_drawnCounts_f j ∧ t_drawnCounts_f j ≤ 100) (hli : ∀ j, 0 ≤ t_drawn_f j ∧ t_drawn_f j ≤ 99) : cq_i l yMd_drawn wsMd_drawn ({ frames := 0, cells := 0, slots := 0, locals := 0 }) D clAll [(cI, .int), (cJ, .long), (cZ, .boolean)] nwAll [.ref t_a, .int (iZ z), .int (iZ zk)] [(t_a, .inr (9, [.long (lZ t_seed), .int (iZ t_strata), .ref t_sizes_a, .ref t_costs_a, .ref t_gone_a, .ref t_drawn_a, .ref t_drawnCounts_a, .int (iZ t_bags), .ref t_owners_a, .ref t_years_a, .ref t_missing_a, .ref t_grams_a, .int (iZ t_hasPlan), .ref t_planned_a, .int (iZ t_again), .ref t_againBag_a, .ref t_againKind_a, .ref t_againGrams_a, .long (lZ t_over), .long (lZ t_under), .ref t_trial_a])), (t_drawn_a, .inl (cI, 400, .inl (aI t_drawn_f))), (t_drawnCounts_a, .inl (cI, 4, .inl (aI t_drawnCounts_f)))] sz (S := Int) (fun (r : Int32) (u : Int) => r = iZ u ∧ ((((0 ≤ z ∧ z < t_strata) ∧ 0 ≤ zk ∧ zk < t_drawnCounts_f z) ∧ u = t_drawn_f (z * 100 + zk)) ∨ (¬ ((0 ≤ z ∧ z < t_strata) ∧ 0 ≤ zk ∧ zk < t_drawnCounts_f z) ∧ u = -1))) (fun (u : Int) => [(t_a, .inr (9, [.long (lZ t_seed), .int (iZ t_strata), .ref t_sizes_a, .ref t_costs_a, .ref t_gone_a, .ref t_drawn_a, .ref t_drawnCounts_a, .int (iZ t_bags), .ref t_owners_a, .ref t_years_a, .ref t_missing_a, .ref t_grams_a, .int (iZ t_hasPlan), .ref t_planned_a, .int (iZ t_again), .ref t_againBag_a, .ref t_againKind_a, .ref t_againGrams_a, .long (lZ t_over), .long (lZ t_under), .ref t_trial_a])), (t_drawn_a, .inl (cI, 400, .inl (aI t_drawn_f))), (t_drawnCounts_a, .inl (cI, 4, .inl (aI t_drawnCounts_f)))]) 0 0 := by
  refine cq_enter (cc := cMd_drawn) (maxL := 3) (ret := some .int) (by decide) rfl (Nat.le_of_ble_eq_true rfl) ?_
  intro p e s m below meth c A args Q H hAe hQ hsz hAt hA hP hK hD hS ls hl
  obtain ⟨hx, hb, hr, hml, hown, hts, hlocks, hin⟩ := hAt
  have hown : s.vm.findClass RMd = some m.cls := hown
  have hl : lv_has ls 3 [(0, .ref t_a), (1, .int (iZ z)), (2, .int (iZ zk))] := hl
  refine lv_iload_n hx hb dMd_drawn_0 rfl (lv_at hl 1 rfl) ?_
  refine z_if_lt (tgt := 40) hx hb (by omega) (by omega) dMd_drawn_1 (by decide) (fun c_1 => ?_) (fun c_1 => ?_)
  ·
    refine lv_iconst (v := iZ (-1)) hx hb dMd_drawn_40 (by decide) ?_
    exact cq_iret hx hb hr hlocks hAe hQ (-1) ⟨rfl, (by (try dsimp only) <;> (first | (refine Or.inl ?_; and_intros <;> first | rfl | omega) | (refine Or.inr ?_; and_intros <;> first | rfl | omega)))⟩ (hP.sub [0, 1, 2] rfl) (hD.sub [0, 1, 2] (by decide) rfl) hS (by decide) (by decide) dMd_drawn_41
  ·
    refine lv_iload_n hx hb dMd_drawn_4 rfl (lv_at hl 1 rfl) ?_
    refine lv_aload_n hx hb dMd_drawn_5 rfl (lv_at hl 0 rfl) ?_
    refine va_get (D := D) (ci := 9) (v := .int (iZ t_strata)) (C := RMd) (T := TMd) (N := 21) hx hb hts layMd hown hK.1 hP 0 rfl rfl 1 (by decide) (hts _ (hm g435)) (fun _ h9 => h9) rfl dMd_drawn_6 ?_
    refine z_icmp_ge (tgt := 40) hx hb (by omega) (by omega) (by omega) (by omega) dMd_drawn_9 (by decide) (fun c_2 => ?_) (fun c_2 => ?_)
    ·
      refine lv_iconst (v := iZ (-1)) hx hb dMd_drawn_40 (by decide) ?_
      exact cq_iret hx hb hr hlocks hAe hQ (-1) ⟨rfl, (by (try dsimp only) <;> (first | (refine Or.inl ?_; and_intros <;> first | rfl | omega) | (refine Or.inr ?_; and_intros <;> first | rfl | omega)))⟩ (hP.sub [0, 1, 2] rfl) (hD.sub [0, 1, 2] (by decide) rfl) hS (by decide) (by decide) dMd_drawn_41
    ·
      refine lv_iload_n hx hb dMd_drawn_12 rfl (lv_at hl 2 rfl) ?_
      refine z_if_lt (tgt := 40) hx hb (by omega) (by omega) dMd_drawn_13 (by decide) (fun c_3 => ?_) (fun c_3 => ?_)
      ·
        refine lv_iconst (v := iZ (-1)) hx hb dMd_drawn_40 (by decide) ?_
        exact cq_iret hx hb hr hlocks hAe hQ (-1) ⟨rfl, (by (try dsimp only) <;> (first | (refine Or.inl ?_; and_intros <;> first | rfl | omega) | (refine Or.inr ?_; and_intros <;> first | rfl | omega)))⟩ (hP.sub [0, 1, 2] rfl) (hD.sub [0, 1, 2] (by decide) rfl) hS (by decide) (by decide) dMd_drawn_41
      ·
        refine lv_iload_n hx hb dMd_drawn_16 rfl (lv_at hl 2 rfl) ?_
        refine lv_aload_n hx hb dMd_drawn_17 rfl (lv_at hl 0 rfl) ?_
        refine va_get (D := D) (ci := 9) (v := .ref t_drawnCounts_a) (C := RMd) (T := TMd) (N := 21) hx hb hts layMd hown hK.1 hP 0 rfl rfl 6 (by decide) (hts _ (hm g440)) (fun _ h9 => h9) rfl dMd_drawn_18 ?_
        refine lv_iload_n hx hb dMd_drawn_21 rfl (lv_at hl 1 rfl) ?_
        refine z_iald hx hb hK hP 2 0 rfl rfl (by omega) (by omega) (by decide) dMd_drawn_22 ?_
        have f_4 := hle z
        refine z_icmp_ge (tgt := 40) hx hb (by omega) (by omega) (by omega) (by omega) dMd_drawn_23 (by decide) (fun c_5 => ?_) (fun c_5 => ?_)
        ·
          refine lv_iconst (v := iZ (-1)) hx hb dMd_drawn_40 (by decide) ?_
          exact cq_iret hx hb hr hlocks hAe hQ (-1) ⟨rfl, (by (try dsimp only) <;> (first | (refine Or.inl ?_; and_intros <;> first | rfl | omega) | (refine Or.inr ?_; and_intros <;> first | rfl | omega)))⟩ (hP.sub [0, 1, 2] rfl) (hD.sub [0, 1, 2] (by decide) rfl) hS (by decide) (by decide) dMd_drawn_41
        ·
          refine lv_aload_n hx hb dMd_drawn_26 rfl (lv_at hl 0 rfl) ?_
          refine va_get (D := D) (ci := 9) (v := .ref t_drawn_a) (C := RMd) (T := TMd) (N := 21) hx hb hts layMd hown hK.1 hP 0 rfl rfl 5 (by decide) (hts _ (hm g439)) (fun _ h9 => h9) rfl dMd_drawn_27 ?_
          refine lv_bipush (v := iZ (100)) hx hb dMd_drawn_30 (by decide) ?_
          refine lv_iload_n hx hb dMd_drawn_32 rfl (lv_at hl 1 rfl) ?_
          refine z_imul hx hb dMd_drawn_33 ?_
          refine cq_ti (congrArg iZ (Int.mul_comm _ _)) ?_
          refine lv_iload_n hx hb dMd_drawn_34 rfl (lv_at hl 2 rfl) ?_
          refine z_iadd hx hb dMd_drawn_35 ?_
          refine z_iald hx hb hK hP 1 0 rfl rfl (by omega) (by omega) (by decide) dMd_drawn_36 ?_
          have f_6 := hli ((z * 100) + zk)
          refine lv_goto (tgt := 41) hx hb dMd_drawn_37 (by decide) ?_
          exact cq_iret hx hb hr hlocks hAe hQ (t_drawn_f ((z * 100) + zk)) ⟨rfl, (by (try dsimp only) <;> (first | (refine Or.inl ?_; and_intros <;> first | rfl | omega) | (refine Or.inr ?_; and_intros <;> first | rfl | omega)))⟩ (hP.sub [0, 1, 2] rfl) (hD.sub [0, 1, 2] (by decide) rfl) hS (by decide) (by decide) dMd_drawn_41
