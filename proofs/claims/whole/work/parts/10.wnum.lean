set_option maxHeartbeats 4000000 in
set_option maxRecDepth 100000 in
theorem k_StratumCounts_isKind (l : Launch) (D : va_G) (cI cJ cZ : ClassId) (sz : Nat) (kind : Int) (h_kind1 : -2147483648 ≤ kind) (h_kind2 : kind < 2147483648) : cq_i l ySc_isKind wsSc_isKind ({ frames := 0, cells := 0, slots := 0, locals := 0 }) D clAll [(cI, .int), (cJ, .long), (cZ, .boolean)] nwAll [.int (iZ kind)] [] sz (S := Int) (fun (r : Int32) (u : Int) => r = iZ u ∧ ((u = 1 ∧ 0 ≤ kind ∧ kind < 3) ∨ (u = 0 ∧ (kind < 0 ∨ 3 ≤ kind)))) (fun (u : Int) => []) 0 0 := by
  refine cq_enter (cc := cSc_isKind) (maxL := 1) (ret := some .boolean) (by decide) rfl (Nat.le_of_ble_eq_true rfl) ?_
  intro p e s m below meth c A args Q H hAe hQ hsz hAt hA hP hK hD hS ls hl
  obtain ⟨hx, hb, hr, hml, hown, hts, hlocks, hin⟩ := hAt
  have hown : s.vm.findClass RSc = some m.cls := hown
  have hl : lv_has ls 1 [(0, .int (iZ kind))] := hl
  refine lv_iload_n hx hb dSc_isKind_0 rfl (lv_at hl 0 rfl) ?_
  refine z_if_lt (tgt := 13) hx hb (by omega) (by omega) dSc_isKind_1 (by decide) (fun c_1 => ?_) (fun c_1 => ?_)
  ·
    refine lv_iconst (v := iZ 0) hx hb dSc_isKind_13 (by decide) ?_
    exact cq_zret hx hb hr hlocks hAe hQ (bo_narr (by omega) (by omega)) 0 ⟨rfl, (by (try dsimp only) <;> (first | rfl | omega | (refine Or.inl ?_; and_intros <;> first | rfl | omega) | (refine Or.inr ?_; and_intros <;> first | rfl | omega)))⟩ (hP.sub [] rfl) (hD.sub [] (by decide) rfl) hS (by decide) (by decide) dSc_isKind_14
  ·
    refine lv_iload_n hx hb dSc_isKind_4 rfl (lv_at hl 0 rfl) ?_
    refine lv_iconst (v := iZ 3) hx hb dSc_isKind_5 (by decide) ?_
    refine z_icmp_ge (tgt := 13) hx hb (by omega) (by omega) (by omega) (by omega) dSc_isKind_6 (by decide) (fun c_2 => ?_) (fun c_2 => ?_)
    ·
      refine lv_iconst (v := iZ 0) hx hb dSc_isKind_13 (by decide) ?_
      exact cq_zret hx hb hr hlocks hAe hQ (bo_narr (by omega) (by omega)) 0 ⟨rfl, (by (try dsimp only) <;> (first | rfl | omega | (refine Or.inl ?_; and_intros <;> first | rfl | omega) | (refine Or.inr ?_; and_intros <;> first | rfl | omega)))⟩ (hP.sub [] rfl) (hD.sub [] (by decide) rfl) hS (by decide) (by decide) dSc_isKind_14
    ·
      refine lv_iconst (v := iZ 1) hx hb dSc_isKind_9 (by decide) ?_
      refine lv_goto (tgt := 14) hx hb dSc_isKind_10 (by decide) ?_
      exact cq_zret hx hb hr hlocks hAe hQ (bo_narr (by omega) (by omega)) 1 ⟨rfl, (by (try dsimp only) <;> (first | rfl | omega | (refine Or.inl ?_; and_intros <;> first | rfl | omega) | (refine Or.inr ?_; and_intros <;> first | rfl | omega)))⟩ (hP.sub [] rfl) (hD.sub [] (by decide) rfl) hS (by decide) (by decide) dSc_isKind_14
set_option maxHeartbeats 4000000 in
set_option maxRecDepth 100000 in
theorem k_StratumCounts_isPart (l : Launch) (D : va_G) (cI cJ cZ : ClassId) (sz : Nat) (part : Int) (h_part1 : -2147483648 ≤ part) (h_part2 : part < 2147483648) : cq_i l ySc_isPart wsSc_isPart ({ frames := 0, cells := 0, slots := 0, locals := 0 }) D clAll [(cI, .int), (cJ, .long), (cZ, .boolean)] nwAll [.int (iZ part)] [] sz (S := Int) (fun (r : Int32) (u : Int) => r = iZ u ∧ ((u = 1 ∧ 0 ≤ part ∧ part < 2) ∨ (u = 0 ∧ (part < 0 ∨ 2 ≤ part)))) (fun (u : Int) => []) 0 0 := by
  refine cq_enter (cc := cSc_isPart) (maxL := 1) (ret := some .boolean) (by decide) rfl (Nat.le_of_ble_eq_true rfl) ?_
  intro p e s m below meth c A args Q H hAe hQ hsz hAt hA hP hK hD hS ls hl
  obtain ⟨hx, hb, hr, hml, hown, hts, hlocks, hin⟩ := hAt
  have hown : s.vm.findClass RSc = some m.cls := hown
  have hl : lv_has ls 1 [(0, .int (iZ part))] := hl
  refine lv_iload_n hx hb dSc_isPart_0 rfl (lv_at hl 0 rfl) ?_
  refine z_if_lt (tgt := 13) hx hb (by omega) (by omega) dSc_isPart_1 (by decide) (fun c_1 => ?_) (fun c_1 => ?_)
  ·
    refine lv_iconst (v := iZ 0) hx hb dSc_isPart_13 (by decide) ?_
    exact cq_zret hx hb hr hlocks hAe hQ (bo_narr (by omega) (by omega)) 0 ⟨rfl, (by (try dsimp only) <;> (first | rfl | omega | (refine Or.inl ?_; and_intros <;> first | rfl | omega) | (refine Or.inr ?_; and_intros <;> first | rfl | omega)))⟩ (hP.sub [] rfl) (hD.sub [] (by decide) rfl) hS (by decide) (by decide) dSc_isPart_14
  ·
    refine lv_iload_n hx hb dSc_isPart_4 rfl (lv_at hl 0 rfl) ?_
    refine lv_iconst (v := iZ 2) hx hb dSc_isPart_5 (by decide) ?_
    refine z_icmp_ge (tgt := 13) hx hb (by omega) (by omega) (by omega) (by omega) dSc_isPart_6 (by decide) (fun c_2 => ?_) (fun c_2 => ?_)
    ·
      refine lv_iconst (v := iZ 0) hx hb dSc_isPart_13 (by decide) ?_
      exact cq_zret hx hb hr hlocks hAe hQ (bo_narr (by omega) (by omega)) 0 ⟨rfl, (by (try dsimp only) <;> (first | rfl | omega | (refine Or.inl ?_; and_intros <;> first | rfl | omega) | (refine Or.inr ?_; and_intros <;> first | rfl | omega)))⟩ (hP.sub [] rfl) (hD.sub [] (by decide) rfl) hS (by decide) (by decide) dSc_isPart_14
    ·
      refine lv_iconst (v := iZ 1) hx hb dSc_isPart_9 (by decide) ?_
      refine lv_goto (tgt := 14) hx hb dSc_isPart_10 (by decide) ?_
      exact cq_zret hx hb hr hlocks hAe hQ (bo_narr (by omega) (by omega)) 1 ⟨rfl, (by (try dsimp only) <;> (first | rfl | omega | (refine Or.inl ?_; and_intros <;> first | rfl | omega) | (refine Or.inr ?_; and_intros <;> first | rfl | omega)))⟩ (hP.sub [] rfl) (hD.sub [] (by decide) rfl) hS (by decide) (by decide) dSc_isPart_14
set_option maxHeartbeats 4000000 in
set_option maxRecDepth 100000 in
theorem k_StratumCounts_isGrams (l : Launch) (D : va_G) (cI cJ cZ : ClassId) (sz : Nat) (gm : Int) (h_gm1 : -9223372036854775808 ≤ gm) (h_gm2 : gm < 9223372036854775808) : cq_i l ySc_isGrams wsSc_isGrams ({ frames := 0, cells := 0, slots := 0, locals := 0 }) D clAll [(cI, .int), (cJ, .long), (cZ, .boolean)] nwAll [.long (lZ gm)] [] sz (S := Int) (fun (r : Int32) (u : Int) => r = iZ u ∧ ((u = 1 ∧ 0 ≤ gm ∧ gm ≤ 10000) ∨ (u = 0 ∧ (gm < 0 ∨ 10000 < gm)))) (fun (u : Int) => []) 0 0 := by
  refine cq_enter (cc := cSc_isGrams) (maxL := 2) (ret := some .boolean) (by decide) rfl (Nat.le_of_ble_eq_true rfl) ?_
  intro p e s m below meth c A args Q H hAe hQ hsz hAt hA hP hK hD hS ls hl
  obtain ⟨hx, hb, hr, hml, hown, hts, hlocks, hin⟩ := hAt
  have hown : s.vm.findClass RSc = some m.cls := hown
  have hl : lv_has ls 2 [(0, .long (lZ gm))] := hl
  refine lv_lload_n hx hb dSc_isGrams_0 rfl (lv_at hl 0 rfl) ?_
  refine lv_lconst (v := lZ 0) hx hb dSc_isGrams_1 (by decide) ?_
  refine z_lcmp_lt (tgt := 18) hx hb (by omega) (by omega) (by omega) (by omega) dSc_isGrams_2 dSc_isGrams_3 (by decide) (fun c_1 => ?_) (fun c_1 => ?_)
  ·
    refine lv_iconst (v := iZ 0) hx hb dSc_isGrams_18 (by decide) ?_
    exact cq_zret hx hb hr hlocks hAe hQ (bo_narr (by omega) (by omega)) 0 ⟨rfl, (by (try dsimp only) <;> (first | rfl | omega | (refine Or.inl ?_; and_intros <;> first | rfl | omega) | (refine Or.inr ?_; and_intros <;> first | rfl | omega)))⟩ (hP.sub [] rfl) (hD.sub [] (by decide) rfl) hS (by decide) (by decide) dSc_isGrams_19
  ·
    refine lv_lload_n hx hb dSc_isGrams_6 rfl (lv_at hl 0 rfl) ?_
    refine lv_ldc2 (v := lZ (10000)) hx hb hown (hts _ (hm g256)) dSc_isGrams_7 ?_
    refine z_lcmp_gt (tgt := 18) hx hb (by omega) (by omega) (by omega) (by omega) dSc_isGrams_10 dSc_isGrams_11 (by decide) (fun c_2 => ?_) (fun c_2 => ?_)
    ·
      refine lv_iconst (v := iZ 0) hx hb dSc_isGrams_18 (by decide) ?_
      exact cq_zret hx hb hr hlocks hAe hQ (bo_narr (by omega) (by omega)) 0 ⟨rfl, (by (try dsimp only) <;> (first | rfl | omega | (refine Or.inl ?_; and_intros <;> first | rfl | omega) | (refine Or.inr ?_; and_intros <;> first | rfl | omega)))⟩ (hP.sub [] rfl) (hD.sub [] (by decide) rfl) hS (by decide) (by decide) dSc_isGrams_19
    ·
      refine lv_iconst (v := iZ 1) hx hb dSc_isGrams_14 (by decide) ?_
      refine lv_goto (tgt := 19) hx hb dSc_isGrams_15 (by decide) ?_
      exact cq_zret hx hb hr hlocks hAe hQ (bo_narr (by omega) (by omega)) 1 ⟨rfl, (by (try dsimp only) <;> (first | rfl | omega | (refine Or.inl ?_; and_intros <;> first | rfl | omega) | (refine Or.inr ?_; and_intros <;> first | rfl | omega)))⟩ (hP.sub [] rfl) (hD.sub [] (by decide) rfl) hS (by decide) (by decide) dSc_isGrams_19
set_option maxHeartbeats 4000000 in
set_option maxRecDepth 100000 in
theorem k_StratumCounts_greatestShared (l : Launch) (D : va_G) (cI cJ cZ : ClassId) (sz : Nat) (ka : Int) (kb : Int) (h_ka1 : -9223372036854775808 ≤ ka) (h_ka2 : ka < 9223372036854775808) (h_kb1 : -9223372036854775808 ≤ kb) (h_kb2 : kb < 9223372036854775808) (ha : 0 ≤ ka) (hb0 : 0 ≤ kb) : cq_l l ySc_greatestShared wsSc_greatestShared ({ frames := 0, cells := 0, slots := 0, locals := 0 }) D clAll [(cI, .int), (cJ, .long), (cZ, .boolean)] nwAll [.long (lZ ka), .long (lZ kb)] [] sz (S := Int) (fun (r : Int64) (u : Int) => r = lZ u ∧ (u = (Int.gcd ka kb : Int))) (fun (u : Int) => []) 0 0 := by
  refine cq_enter (cc := cSc_greatestShared) (maxL := 11) (ret := some .long) (by decide) rfl (Nat.le_of_ble_eq_true rfl) ?_
  intro p e s m below meth c A args Q H hAe hQ hsz hAt hA hP hK hD hS ls hl
  obtain ⟨hx, hb, hr, hml, hown, hts, hlocks, hin⟩ := hAt
  have hown : s.vm.findClass RSc = some m.cls := hown
  have hl : lv_has ls 11 [(0, .long (lZ ka)), (2, .long (lZ kb))] := hl
  refine lv_lload_n hx hb dSc_greatestShared_0 rfl (lv_at hl 0 rfl) ?_
  refine lv_lstore (lv' := [(4, .long (lZ ka)), (0, .long (lZ ka)), (2, .long (lZ kb))]) hx hb dSc_greatestShared_1 hl (by decide) rfl (fun ls hl => ?_)
  refine lv_lload_n hx hb dSc_greatestShared_3 rfl (lv_at hl 2 rfl) ?_
  refine lv_lstore (lv' := [(6, .long (lZ kb)), (4, .long (lZ ka)), (0, .long (lZ ka)), (2, .long (lZ kb))]) hx hb dSc_greatestShared_4 hl (by decide) rfl (fun ls hl => ?_)
  refine lv_iconst (v := iZ 0) hx hb dSc_greatestShared_6 (by decide) ?_
  refine lv_istore (lv' := [(8, .int (iZ 0)), (6, .long (lZ kb)), (4, .long (lZ ka)), (0, .long (lZ ka)), (2, .long (lZ kb))]) hx hb dSc_greatestShared_7 hl (by decide) rfl (fun ls hl => ?_)
  have loop_1 : ∀ (n_3 : Nat) (g : Int) (h : Int) (i : Int), (0 ≤ g) → (g < 9223372036854775808) → (0 ≤ h) → (h < 9223372036854775808) → (0 ≤ i) → (i ≤ 100) → (Int.gcd g h = Int.gcd ka kb) → ((eu (100 - i).toNat (g, h)).2 = 0) → (100 - i < (n_3 : Int)) → ∀ (H : Heap) (locs : List Loc), va_P D clAll [] H → va_D A [] → va_S A s.heap H locs → ∀ ls : Array Slot, lv_has ls 11 [(4, .long (lZ g)), (6, .long (lZ h)), (8, .int (iZ i))] → W p l e { frames := 0, cells := 0, slots := 0, locals := 0 } s m args below meth c H locs 0 0 Q (F0 m 9 ls []) := by
    intro n_3
    induction n_3 with
    | zero => intro g h i hg hg2 hh hh2 hi hi2 hG hE hm_4; exact absurd hm_4 (by omega)
    | succ n_3 ih_2 =>
      intro g h i hg hg2 hh hh2 hi hi2 hG hE hm_4 H locs hP hD hS ls hl
      refine lv_iload hx hb dSc_greatestShared_9 (lv_at hl 2 rfl) ?_
      refine lv_bipush (v := iZ (100)) hx hb dSc_greatestShared_11 (by decide) ?_
      refine z_icmp_ge (tgt := 44) hx hb (by omega) (by omega) (by omega) (by omega) dSc_greatestShared_13 (by decide) (fun c_5 => ?_) (fun c_5 => ?_)
      ·
        refine lv_lload hx hb dSc_greatestShared_44 (lv_at hl 0 rfl) ?_
        exact cq_lret hx hb hr hlocks hAe hQ g ⟨rfl, (by (try dsimp only) <;> (first | exact gs_end hg hG (by assumption) | exact gs_end hg hG (gs_h hE (by omega))))⟩ (hP.sub [] rfl) (hD.sub [] (by decide) rfl) hS (by decide) (by decide) dSc_greatestShared_46
      ·
        refine lv_lload hx hb dSc_greatestShared_16 (lv_at hl 1 rfl) ?_
        refine lv_lconst (v := lZ 0) hx hb dSc_greatestShared_18 (by decide) ?_
        refine z_lcmp_eq (tgt := 44) hx hb (by omega) (by omega) (by omega) (by omega) dSc_greatestShared_19 dSc_greatestShared_20 (by decide) (fun c_6 => ?_) (fun c_6 => ?_)
        ·
          refine lv_lload hx hb dSc_greatestShared_44 (lv_at hl 0 rfl) ?_
          exact cq_lret hx hb hr hlocks hAe hQ g ⟨rfl, (by (try dsimp only) <;> (first | exact gs_end hg hG (by assumption) | exact gs_end hg hG (gs_h hE (by omega))))⟩ (hP.sub [] rfl) (hD.sub [] (by decide) rfl) hS (by decide) (by decide) dSc_greatestShared_46
        ·
          refine lv_lload hx hb dSc_greatestShared_23 (lv_at hl 0 rfl) ?_
          refine lv_lload hx hb dSc_greatestShared_25 (lv_at hl 1 rfl) ?_
          refine z_lrem hx hb (by omega) (by omega) (by omega) (by omega) dSc_greatestShared_27 ?_
          refine lv_lstore (lv' := [(9, .long (lZ (g % h))), (4, .long (lZ g)), (6, .long (lZ h)), (8, .int (iZ i))]) hx hb dSc_greatestShared_28 hl (by decide) rfl (fun ls hl => ?_)
          refine lv_lload hx hb dSc_greatestShared_30 (lv_at hl 2 rfl) ?_
          refine lv_lstore (lv' := [(4, .long (lZ h)), (9, .long (lZ (g % h))), (6, .long (lZ h)), (8, .int (iZ i))]) hx hb dSc_greatestShared_32 hl (by decide) rfl (fun ls hl => ?_)
          refine lv_lload hx hb dSc_greatestShared_34 (lv_at hl 1 rfl) ?_
          refine lv_lstore (lv' := [(6, .long (lZ (g % h))), (4, .long (lZ h)), (9, .long (lZ (g % h))), (8, .int (iZ i))]) hx hb dSc_greatestShared_36 hl (by decide) rfl (fun ls hl => ?_)
          refine lv_iinc (v := iZ (i + 1)) (lv' := [(8, .int (iZ (i + 1))), (6, .long (lZ (g % h))), (4, .long (lZ h)), (9, .long (lZ (g % h)))]) hx hb dSc_greatestShared_38 hl (k := 3) rfl (iZ_add i 1) (by decide) rfl (fun ls hl => ?_)
          refine lv_goto (tgt := 9) hx hb dSc_greatestShared_41 (by decide) ?_
          exact ih_2  h (g % h) (i + 1) (by omega) (by omega) (by exact Int.emod_nonneg _ (by assumption)) (by exact gs_lt hh hh2 (by assumption)) (by omega) (by omega) (by exact (gc_step g h).trans hG) (by exact gs_E hE (by assumption) (by omega)) (by omega) _ _ (hP.sub [] rfl) (hD.sub [] (by decide) rfl) hS ls (lv_sub hl [2, 1, 0] rfl)
  exact loop_1 ((100 - 0 : Int).toNat + 1) ka kb 0 (by omega) (by omega) (by omega) (by omega) (by omega) (by omega) (by rfl) (by exact eu_100 _ hb0 h_kb2) (by omega) _ _ (hP.sub [] rfl) (hD.sub [] (by decide) rfl) hS ls (lv_sub hl [2, 1, 0] rfl)
set_option maxHeartbeats 4000000 in
set_option maxRecDepth 100000 in
theorem k_StratumCounts_leastCommon (l : Launch) (D : va_G) (cI cJ cZ : ClassId) (sz : Nat) (ka : Int) (kb : Int) (h_ka1 : -9223372036854775808 ≤ ka) (h_ka2 : ka < 9223372036854775808) (h_kb1 : -9223372036854775808 ≤ kb) (h_kb2 : kb < 9223372036854775808) (ha : 1 ≤ ka) (hb0 : 1 ≤ kb) : cq_l l ySc_leastCommon wsSc_leastCommon ({ frames := 1, cells := 0, slots := 0, locals := 30 }) D clAll [(cI, .int), (cJ, .long), (cZ, .boolean)] nwAll [.long (lZ ka), .long (lZ kb)] [] sz (S := Int) (fun (r : Int64) (u : Int) => r = lZ u ∧ (u = ka / (Int.gcd ka kb : Int) * kb)) (fun (u : Int) => []) 0 0 := by
  refine cq_enter (cc := cSc_leastCommon) (maxL := 6) (ret := some .long) (by decide) rfl (Nat.le_of_ble_eq_true rfl) ?_
  intro p e s m below meth c A args Q H hAe hQ hsz hAt hA hP hK hD hS ls hl
  obtain ⟨hx, hb, hr, hml, hown, hts, hlocks, hin⟩ := hAt
  have hown : s.vm.findClass RSc = some m.cls := hown
  have hl : lv_has ls 6 [(0, .long (lZ ka)), (2, .long (lZ kb))] := hl
  refine lv_lload_n hx hb dSc_leastCommon_0 rfl (lv_at hl 0 rfl) ?_
  refine lv_lload_n hx hb dSc_leastCommon_1 rfl (lv_at hl 1 rfl) ?_
  refine cq_calll (wr := []) (va_runS (As := [.long (lZ ka), .long (lZ kb)]) (rest := []) ⟨hx, hb, hml, hown, hts⟩ (k_StratumCounts_greatestShared l D cI cJ cZ H.size ka kb (by omega) (by omega) (by omega) (by omega) (by first | assumption | omega) (by first | assumption | omega)) ⟨(callB_of 2 hts (gAll cmSc_greatestShared) rfl rfl rfl (hts _ (hm g58)) (hts _ (hm g318)) (by decide +kernel) ⟨Nat.le_of_ble_eq_true rfl, Nat.le_of_ble_eq_true rfl⟩), (hts _ (hm g319))⟩ (cq_preS hK hP hD [] (by decide) rfl) rfl rfl hl.1 rfl (lv_room (Nat.le_of_ble_eq_true rfl)) dSc_leastCommon_2 ⟨by decide, by decide⟩) hP hD hS hA [] [] rfl rfl (by decide) (by decide) (fun r u H locs hw_1 hP hD hS => ?_)
  obtain ⟨o_2, rfl⟩ : ∃ z, z = u := ⟨_, rfl⟩
  try dsimp only at hw_1
  obtain ⟨rfl, rfl⟩ := hw_1
  have hP : va_P D clAll [] H := hP
  have hD : va_D A [] := hD
  refine lv_lstore (lv' := [(4, .long (lZ (Int.gcd ka kb : Int))), (0, .long (lZ ka)), (2, .long (lZ kb))]) hx hb dSc_leastCommon_5 hl (by decide) rfl (fun ls hl => ?_)
  have hgp := gc_bd (b := kb) ha
  refine lv_lload hx hb dSc_leastCommon_7 (lv_at hl 0 rfl) ?_
  refine lv_lconst (v := lZ 1) hx hb dSc_leastCommon_9 (by decide) ?_
  refine z_lcmp_ge (tgt := 18) hx hb (by omega) (by omega) (by omega) (by omega) dSc_leastCommon_10 dSc_leastCommon_11 (by decide) (fun c_3 => ?_) (fun c_3 => ?_)
  ·
    refine lv_lload_n hx hb dSc_leastCommon_18 rfl (lv_at hl 1 rfl) ?_
    refine lv_lload hx hb dSc_leastCommon_19 (lv_at hl 0 rfl) ?_
    refine z_ldiv hx hb (by omega) (by omega) (by omega) (by omega) dSc_leastCommon_21 ?_
    refine lv_lload_n hx hb dSc_leastCommon_22 rfl (lv_at hl 2 rfl) ?_
    refine z_lmul hx hb dSc_leastCommon_23 ?_
    exact cq_lret hx hb hr hlocks hAe hQ ((ka / (Int.gcd ka kb : Int)) * kb) ⟨rfl, (by (try dsimp only) <;> (first | rfl | omega | (refine Or.inl ?_; and_intros <;> first | rfl | omega) | (refine Or.inr ?_; and_intros <;> first | rfl | omega)))⟩ (hP.sub [] rfl) (hD.sub [] (by decide) rfl) hS (by decide) (by decide) dSc_leastCommon_24
  ·
    refine lv_lconst (v := lZ 0) hx hb dSc_leastCommon_14 (by decide) ?_
    refine lv_goto (tgt := 24) hx hb dSc_leastCommon_15 (by decide) ?_
    exact cq_lret hx hb hr hlocks hAe hQ 0 ⟨rfl, (by (try dsimp only) <;> (first | rfl | omega | (refine Or.inl ?_; and_intros <;> first | rfl | omega) | (refine Or.inr ?_; and_intros <;> first | rfl | omega)))⟩ (hP.sub [] rfl) (hD.sub [] (by decide) rfl) hS (by decide) (by decide) dSc_leastCommon_24
set_option maxHeartbeats 4000000 in
set_option maxRecDepth 100000 in
theorem k_StratumCounts_tell (l : Launch) (D : va_G) (cI cJ cZ : ClassId) (sz : Nat) (ka : Int) (kb : Int) (kp : Int) (h_ka1 : -9223372036854775808 ≤ ka) (h_ka2 : ka < 9223372036854775808) (h_kb1 : -9223372036854775808 ≤ kb) (h_kb2 : kb < 9223372036854775808) (h_kp1 : -2147483648 ≤ kp) (h_kp2 : kp < 2147483648) (ha : 0 ≤ ka) (hb0 : 1 ≤ kb) : cq_l l ySc_tell wsSc_tell ({ frames := 1, cells := 0, slots := 0, locals := 30 }) D clAll [(cI, .int), (cJ, .long), (cZ, .boolean)] nwAll [.long (lZ ka), .long (lZ kb), .int (iZ kp)] [] sz (S := Int) (fun (r : Int64) (u : Int) => r = lZ u ∧ (u = (if kp = 0 then ka else kb) / (Int.gcd ka kb : Int))) (fun (u : Int) => []) 0 0 := by
  refine cq_enter (cc := cSc_tell) (maxL := 7) (ret := some .long) (by decide) rfl (Nat.le_of_ble_eq_true rfl) ?_
  intro p e s m below meth c A args Q H hAe hQ hsz hAt hA hP hK hD hS ls hl
  obtain ⟨hx, hb, hr, hml, hown, hts, hlocks, hin⟩ := hAt
  have hown : s.vm.findClass RSc = some m.cls := hown
  have hl : lv_has ls 7 [(0, .long (lZ ka)), (2, .long (lZ kb)), (4, .int (iZ kp))] := hl
  refine lv_lload_n hx hb dSc_tell_0 rfl (lv_at hl 0 rfl) ?_
  refine lv_lload_n hx hb dSc_tell_1 rfl (lv_at hl 1 rfl) ?_
  refine cq_calll (wr := []) (va_runS (As := [.long (lZ ka), .long (lZ kb)]) (rest := []) ⟨hx, hb, hml, hown, hts⟩ (k_StratumCounts_greatestShared l D cI cJ cZ H.size ka kb (by omega) (by omega) (by omega) (by omega) (by first | assumption | omega) (by first | assumption | omega)) ⟨(callB_of 2 hts (gAll cmSc_greatestShared) rfl rfl rfl (hts _ (hm g58)) (hts _ (hm g318)) (by decide +kernel) ⟨Nat.le_of_ble_eq_true rfl, Nat.le_of_ble_eq_true rfl⟩), (hts _ (hm g319))⟩ (cq_preS hK hP hD [] (by decide) rfl) rfl rfl hl.1 rfl (lv_room (Nat.le_of_ble_eq_true rfl)) dSc_tell_2 ⟨by decide, by decide⟩) hP hD hS hA [] [] rfl rfl (by decide) (by decide) (fun r u H locs hw_1 hP hD hS => ?_)
  obtain ⟨o_2, rfl⟩ : ∃ z, z = u := ⟨_, rfl⟩
  try dsimp only at hw_1
  obtain ⟨rfl, rfl⟩ := hw_1
  have hP : va_P D clAll [] H := hP
  have hD : va_D A [] := hD
  refine lv_lstore (lv' := [(5, .long (lZ (Int.gcd ka kb : Int))), (0, .long (lZ ka)), (2, .long (lZ kb)), (4, .int (iZ kp))]) hx hb dSc_tell_5 hl (by decide) rfl (fun ls hl => ?_)
  have hgp := gc_bd2 (a := ka) hb0
  refine lv_lload hx hb dSc_tell_7 (lv_at hl 0 rfl) ?_
  refine lv_lconst (v := lZ 1) hx hb dSc_tell_9 (by decide) ?_
  refine z_lcmp_ge (tgt := 18) hx hb (by omega) (by omega) (by omega) (by omega) dSc_tell_10 dSc_tell_11 (by decide) (fun c_3 => ?_) (fun c_3 => ?_)
  ·
    refine lv_iload hx hb dSc_tell_18 (lv_at hl 3 rfl) ?_
    refine z_if_ne (tgt := 27) hx hb (by omega) (by omega) dSc_tell_20 (by decide) (fun c_4 => ?_) (fun c_4 => ?_)
    ·
      refine lv_lload_n hx hb dSc_tell_27 rfl (lv_at hl 2 rfl) ?_
      refine lv_lload hx hb dSc_tell_28 (lv_at hl 0 rfl) ?_
      refine z_ldiv hx hb (by omega) (by omega) (by omega) (by omega) dSc_tell_30 ?_
      exact cq_lret hx hb hr hlocks hAe hQ (kb / (Int.gcd ka kb : Int)) ⟨rfl, (by (try dsimp only) <;> (first | (rw [if_pos (by assumption)]; done) | (rw [if_neg (by assumption)]; done) | omega))⟩ (hP.sub [] rfl) (hD.sub [] (by decide) rfl) hS (by decide) (by decide) dSc_tell_31
    ·
      refine lv_lload_n hx hb dSc_tell_23 rfl (lv_at hl 1 rfl) ?_
      refine lv_goto (tgt := 28) hx hb dSc_tell_24 (by decide) ?_
      refine lv_lload hx hb dSc_tell_28 (lv_at hl 0 rfl) ?_
      refine z_ldiv hx hb (by omega) (by omega) (by omega) (by omega) dSc_tell_30 ?_
      exact cq_lret hx hb hr hlocks hAe hQ (ka / (Int.gcd ka kb : Int)) ⟨rfl, (by (try dsimp only) <;> (first | (rw [if_pos (by assumption)]; done) | (rw [if_neg (by assumption)]; done) | omega))⟩ (hP.sub [] rfl) (hD.sub [] (by decide) rfl) hS (by decide) (by decide) dSc_tell_31
  ·
    refine lv_ldc2 (v := lZ (-1)) hx hb hown (hts _ (hm g297)) dSc_tell_14 ?_
    exact cq_lret hx hb hr hlocks hAe hQ (-1) ⟨rfl, (by (try dsimp only) <;> (first | (rw [if_pos (by assumption)]; done) | (rw [if_neg (by assumption)]; done) | omega))⟩ (hP.sub [] rfl) (hD.sub [] (by decide) rfl) hS (by decide) (by decide) dSc_tell_17
