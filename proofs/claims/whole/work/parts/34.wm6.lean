set_option maxHeartbeats 4000000 in
set_option maxRecDepth 100000 in
theorem m_isAtMost (l : Launch) (D : va_G) (cI cJ cZ : ClassId) (sz : Nat) (qa : Int) (qb : Int) (qc : Int) (qd : Int) (h_qa1 : -9223372036854775808 ≤ qa) (h_qa2 : qa < 9223372036854775808) (h_qb1 : -9223372036854775808 ≤ qb) (h_qb2 : qb < 9223372036854775808) (h_qc1 : -9223372036854775808 ≤ qc) (h_qc2 : qc < 9223372036854775808) (h_qd1 : -9223372036854775808 ≤ qd) (h_qd2 : qd < 9223372036854775808) (ha : 0 ≤ qa) (hb0 : 1 ≤ qb) (hc0 : 0 ≤ qc) (hd0 : 1 ≤ qd) : cq_i l yMd_isAtMost wsMd_isAtMost ({ frames := 0, cells := 0, slots := 0, locals := 0 }) D clAll [(cI, .int), (cJ, .long), (cZ, .boolean)] nwAll [.long (lZ qa), .long (lZ qb), .long (lZ qc), .long (lZ qd)] [] sz (S := Int) (fun (r : Int32) (u : Int) => r = iZ u ∧ ((u = 1 ∧ qa * qd ≤ qc * qb) ∨ (u = 0 ∧ ¬ qa * qd ≤ qc * qb))) (fun (u : Int) => []) 0 0 := by
  refine cq_enter (cc := cMd_isAtMost) (maxL := 27) (ret := some .boolean) (by decide) rfl (Nat.le_of_ble_eq_true rfl) ?_
  intro p e s m below meth c A args Q H hAe hQ hsz hAt hA hP hK hD hS ls hl
  obtain ⟨hx, hb, hr, hml, hown, hts, hlocks, hin⟩ := hAt
  have hown : s.vm.findClass RMd = some m.cls := hown
  have hl : lv_has ls 27 [(0, .long (lZ qa)), (2, .long (lZ qb)), (4, .long (lZ qc)), (6, .long (lZ qd))] := hl
  refine lv_lload_n hx hb dMd_isAtMost_0 rfl (lv_at hl 0 rfl) ?_
  refine lv_lstore (lv' := [(8, .long (lZ qa)), (0, .long (lZ qa)), (2, .long (lZ qb)), (4, .long (lZ qc)), (6, .long (lZ qd))]) hx hb dMd_isAtMost_1 hl (by decide) rfl (fun ls hl => ?_)
  refine lv_lload_n hx hb dMd_isAtMost_3 rfl (lv_at hl 2 rfl) ?_
  refine lv_lstore (lv' := [(10, .long (lZ qb)), (8, .long (lZ qa)), (0, .long (lZ qa)), (2, .long (lZ qb)), (4, .long (lZ qc)), (6, .long (lZ qd))]) hx hb dMd_isAtMost_4 hl (by decide) rfl (fun ls hl => ?_)
  refine lv_lload hx hb dMd_isAtMost_6 (lv_at hl 4 rfl) ?_
  refine lv_lstore (lv' := [(12, .long (lZ qc)), (10, .long (lZ qb)), (8, .long (lZ qa)), (0, .long (lZ qa)), (2, .long (lZ qb)), (4, .long (lZ qc)), (6, .long (lZ qd))]) hx hb dMd_isAtMost_8 hl (by decide) rfl (fun ls hl => ?_)
  refine lv_lload hx hb dMd_isAtMost_10 (lv_at hl 6 rfl) ?_
  refine lv_lstore (lv' := [(14, .long (lZ qd)), (12, .long (lZ qc)), (10, .long (lZ qb)), (8, .long (lZ qa)), (0, .long (lZ qa)), (2, .long (lZ qb)), (4, .long (lZ qc)), (6, .long (lZ qd))]) hx hb dMd_isAtMost_12 hl (by decide) rfl (fun ls hl => ?_)
  refine lv_iconst (v := iZ 0) hx hb dMd_isAtMost_14 (by decide) ?_
  refine lv_istore (lv' := [(16, .int (iZ 0)), (14, .long (lZ qd)), (12, .long (lZ qc)), (10, .long (lZ qb)), (8, .long (lZ qa)), (0, .long (lZ qa)), (2, .long (lZ qb)), (4, .long (lZ qc)), (6, .long (lZ qd))]) hx hb dMd_isAtMost_15 hl (by decide) rfl (fun ls hl => ?_)
  have loop_1 : ∀ (n_3 : Nat) (w : Int) (x : Int) (y : Int) (z : Int) (tn : Int), (0 ≤ w) → (w < 9223372036854775808) → (1 ≤ x) → (x < 9223372036854775808) → (0 ≤ y) → (y < 9223372036854775808) → (1 ≤ z) → (z < 9223372036854775808) → (amI (qa * qd ≤ qc * qb) (w * z) (y * x) tn) → (x < (n_3 : Int)) → ∀ (H : Heap) (locs : List Loc), va_P D clAll [] H → va_D A [] → va_S A s.heap H locs → ∀ ls : Array Slot, lv_has ls 27 [(8, .long (lZ w)), (10, .long (lZ x)), (12, .long (lZ y)), (14, .long (lZ z)), (16, .int (iZ tn))] → W p l e { frames := 0, cells := 0, slots := 0, locals := 0 } s m args below meth c H locs 0 0 Q (F0 m 17 ls []) := by
    intro n_3
    induction n_3 with
    | zero => intro w x y z tn hw0 hw2 hx1 hx2 hy0 hy2 hz1 hz2 hI hm_4; exact absurd hm_4 (by omega)
    | succ n_3 ih_2 =>
      intro w x y z tn hw0 hw2 hx1 hx2 hy0 hy2 hz1 hz2 hI hm_4 H locs hP hD hS ls hl
      refine lv_lload hx hb dMd_isAtMost_17 (lv_at hl 0 rfl) ?_
      refine lv_lload hx hb dMd_isAtMost_19 (lv_at hl 1 rfl) ?_
      refine z_ldiv hx hb (by omega) (by omega) (by omega) (by omega) dMd_isAtMost_21 ?_
      refine lv_lstore (lv' := [(17, .long (lZ (w / x))), (8, .long (lZ w)), (10, .long (lZ x)), (12, .long (lZ y)), (14, .long (lZ z)), (16, .int (iZ tn))]) hx hb dMd_isAtMost_22 hl (by decide) rfl (fun ls hl => ?_)
      have hdw := div_bd (c := w) (b := x) hw0 hx1
      have hdy := div_bd (c := y) (b := z) hy0 hz1
      have htn := am_rng hI
      refine lv_lload hx hb dMd_isAtMost_24 (lv_at hl 3 rfl) ?_
      refine lv_lload hx hb dMd_isAtMost_26 (lv_at hl 4 rfl) ?_
      refine z_ldiv hx hb (by omega) (by omega) (by omega) (by omega) dMd_isAtMost_28 ?_
      refine lv_lstore (lv' := [(19, .long (lZ (y / z))), (17, .long (lZ (w / x))), (8, .long (lZ w)), (10, .long (lZ x)), (12, .long (lZ y)), (14, .long (lZ z)), (16, .int (iZ tn))]) hx hb dMd_isAtMost_29 hl (by decide) rfl (fun ls hl => ?_)
      refine lv_lload hx hb dMd_isAtMost_31 (lv_at hl 1 rfl) ?_
      refine lv_lload hx hb dMd_isAtMost_33 (lv_at hl 0 rfl) ?_
      refine z_lcmp_eq (tgt := 63) hx hb (by omega) (by omega) (by omega) (by omega) dMd_isAtMost_35 dMd_isAtMost_36 (by decide) (fun c_5 => ?_) (fun c_5 => ?_)
      ·
        have hq := am_eq hI hx1 hz1 (by assumption)
        refine lv_lload hx hb dMd_isAtMost_63 (lv_at hl 2 rfl) ?_
        refine lv_lload hx hb dMd_isAtMost_65 (lv_at hl 3 rfl) ?_
        refine z_lrem hx hb (by omega) (by omega) (by omega) (by omega) dMd_isAtMost_67 ?_
        refine lv_lstore (lv' := [(21, .long (lZ (w % x))), (19, .long (lZ (y / z))), (17, .long (lZ (w / x))), (8, .long (lZ w)), (10, .long (lZ x)), (12, .long (lZ y)), (14, .long (lZ z)), (16, .int (iZ tn))]) hx hb dMd_isAtMost_68 hl (by decide) rfl (fun ls hl => ?_)
        refine lv_lload hx hb dMd_isAtMost_70 (lv_at hl 5 rfl) ?_
        refine lv_lload hx hb dMd_isAtMost_72 (lv_at hl 6 rfl) ?_
        refine z_lrem hx hb (by omega) (by omega) (by omega) (by omega) dMd_isAtMost_74 ?_
        refine lv_lstore (lv' := [(23, .long (lZ (y % z))), (21, .long (lZ (w % x))), (19, .long (lZ (y / z))), (17, .long (lZ (w / x))), (8, .long (lZ w)), (10, .long (lZ x)), (12, .long (lZ y)), (14, .long (lZ z)), (16, .int (iZ tn))]) hx hb dMd_isAtMost_75 hl (by decide) rfl (fun ls hl => ?_)
        refine lv_lload hx hb dMd_isAtMost_77 (lv_at hl 1 rfl) ?_
        refine lv_lconst (v := lZ 0) hx hb dMd_isAtMost_79 (by decide) ?_
        refine z_lcmp_eq (tgt := 91) hx hb (by omega) (by omega) (by omega) (by omega) dMd_isAtMost_80 dMd_isAtMost_81 (by decide) (fun c_6 => ?_) (fun c_6 => ?_)
        ·
          refine lv_lload hx hb dMd_isAtMost_91 (lv_at hl 1 rfl) ?_
          refine lv_lconst (v := lZ 0) hx hb dMd_isAtMost_93 (by decide) ?_
          refine z_lcmp_ne (tgt := 102) hx hb (by omega) (by omega) (by omega) (by omega) dMd_isAtMost_94 dMd_isAtMost_95 (by decide) (fun c_7 => ?_) (fun c_7 => ?_)
          ·
            refine lv_iconst (v := iZ 0) hx hb dMd_isAtMost_102 (by decide) ?_
            refine lv_istore (lv' := [(25, .int (iZ 0)), (23, .long (lZ (y % z))), (21, .long (lZ (w % x))), (19, .long (lZ (y / z))), (17, .long (lZ (w / x))), (8, .long (lZ w)), (10, .long (lZ x)), (12, .long (lZ y)), (14, .long (lZ z)), (16, .int (iZ tn))]) hx hb dMd_isAtMost_103 hl (by decide) rfl (fun ls hl => ?_)
            refine lv_lload hx hb dMd_isAtMost_105 (lv_at hl 2 rfl) ?_
            refine lv_lconst (v := lZ 0) hx hb dMd_isAtMost_107 (by decide) ?_
            refine z_lcmp_ne (tgt := 123) hx hb (by omega) (by omega) (by omega) (by omega) dMd_isAtMost_108 dMd_isAtMost_109 (by decide) (fun c_8 => ?_) (fun c_8 => ?_)
            ·
              refine lv_iconst (v := iZ 0) hx hb dMd_isAtMost_123 (by decide) ?_
              refine lv_istore (lv' := [(26, .int (iZ 0)), (25, .int (iZ 0)), (23, .long (lZ (y % z))), (21, .long (lZ (w % x))), (19, .long (lZ (y / z))), (17, .long (lZ (w / x))), (8, .long (lZ w)), (10, .long (lZ x)), (12, .long (lZ y)), (14, .long (lZ z)), (16, .int (iZ tn))]) hx hb dMd_isAtMost_124 hl (by decide) rfl (fun ls hl => ?_)
              refine lv_iload hx hb dMd_isAtMost_126 (lv_at hl 0 rfl) ?_
              refine z_if_ne (tgt := 138) hx hb (by decide) (by decide) dMd_isAtMost_128 (by decide) (fun c_9 => absurd c_9 (by decide)) (fun c_9 => ?_)
              refine lv_iload hx hb dMd_isAtMost_131 (lv_at hl 1 rfl) ?_
              refine lv_iload hx hb dMd_isAtMost_133 (lv_at hl 10 rfl) ?_
              refine z_icmp_eq (tgt := 142) hx hb (by omega) (by omega) (by omega) (by omega) dMd_isAtMost_135 (by decide) (fun c_10 => ?_) (fun c_10 => ?_)
              ·
                refine lv_iconst (v := iZ 0) hx hb dMd_isAtMost_142 (by decide) ?_
                exact cq_zret hx hb hr hlocks hAe hQ (bo_narr (by omega) (by omega)) 0 ⟨rfl, (by (try dsimp only) <;> (first | exact am_end hI (by omega) | exact am_end hq.1 (by omega)))⟩ (hP.sub [] rfl) (hD.sub [] (by decide) rfl) hS (by decide) (by decide) dMd_isAtMost_143
              ·
                refine lv_iconst (v := iZ 1) hx hb dMd_isAtMost_138 (by decide) ?_
                refine lv_goto (tgt := 143) hx hb dMd_isAtMost_139 (by decide) ?_
                exact cq_zret hx hb hr hlocks hAe hQ (bo_narr (by omega) (by omega)) 1 ⟨rfl, (by (try dsimp only) <;> (first | exact am_end hI (by omega) | exact am_end hq.1 (by omega)))⟩ (hP.sub [] rfl) (hD.sub [] (by decide) rfl) hS (by decide) (by decide) dMd_isAtMost_143
            ·
              refine lv_lload hx hb dMd_isAtMost_112 (lv_at hl 1 rfl) ?_
              refine lv_lconst (v := lZ 0) hx hb dMd_isAtMost_114 (by decide) ?_
              refine z_lcmp_ne (tgt := 123) hx hb (by omega) (by omega) (by omega) (by omega) dMd_isAtMost_115 dMd_isAtMost_116 (by decide) (fun c_11 => ?_) (fun c_11 => ?_)
              ·
                refine lv_iconst (v := iZ 0) hx hb dMd_isAtMost_123 (by decide) ?_
                refine lv_istore (lv' := [(26, .int (iZ 0)), (25, .int (iZ 0)), (23, .long (lZ (y % z))), (21, .long (lZ (w % x))), (19, .long (lZ (y / z))), (17, .long (lZ (w / x))), (8, .long (lZ w)), (10, .long (lZ x)), (12, .long (lZ y)), (14, .long (lZ z)), (16, .int (iZ tn))]) hx hb dMd_isAtMost_124 hl (by decide) rfl (fun ls hl => ?_)
                refine lv_iload hx hb dMd_isAtMost_126 (lv_at hl 0 rfl) ?_
                refine z_if_ne (tgt := 138) hx hb (by decide) (by decide) dMd_isAtMost_128 (by decide) (fun c_12 => absurd c_12 (by decide)) (fun c_12 => ?_)
                refine lv_iload hx hb dMd_isAtMost_131 (lv_at hl 1 rfl) ?_
                refine lv_iload hx hb dMd_isAtMost_133 (lv_at hl 10 rfl) ?_
                refine z_icmp_eq (tgt := 142) hx hb (by omega) (by omega) (by omega) (by omega) dMd_isAtMost_135 (by decide) (fun c_13 => ?_) (fun c_13 => ?_)
                ·
                  refine lv_iconst (v := iZ 0) hx hb dMd_isAtMost_142 (by decide) ?_
                  exact cq_zret hx hb hr hlocks hAe hQ (bo_narr (by omega) (by omega)) 0 ⟨rfl, (by (try dsimp only) <;> (first | exact am_end hI (by omega) | exact am_end hq.1 (by omega)))⟩ (hP.sub [] rfl) (hD.sub [] (by decide) rfl) hS (by decide) (by decide) dMd_isAtMost_143
                ·
                  refine lv_iconst (v := iZ 1) hx hb dMd_isAtMost_138 (by decide) ?_
                  refine lv_goto (tgt := 143) hx hb dMd_isAtMost_139 (by decide) ?_
                  exact cq_zret hx hb hr hlocks hAe hQ (bo_narr (by omega) (by omega)) 1 ⟨rfl, (by (try dsimp only) <;> (first | exact am_end hI (by omega) | exact am_end hq.1 (by omega)))⟩ (hP.sub [] rfl) (hD.sub [] (by decide) rfl) hS (by decide) (by decide) dMd_isAtMost_143
              ·
                refine lv_iconst (v := iZ 1) hx hb dMd_isAtMost_119 (by decide) ?_
                refine lv_goto (tgt := 124) hx hb dMd_isAtMost_120 (by decide) ?_
                refine lv_istore (lv' := [(26, .int (iZ 1)), (25, .int (iZ 0)), (23, .long (lZ (y % z))), (21, .long (lZ (w % x))), (19, .long (lZ (y / z))), (17, .long (lZ (w / x))), (8, .long (lZ w)), (10, .long (lZ x)), (12, .long (lZ y)), (14, .long (lZ z)), (16, .int (iZ tn))]) hx hb dMd_isAtMost_124 hl (by decide) rfl (fun ls hl => ?_)
                refine lv_iload hx hb dMd_isAtMost_126 (lv_at hl 0 rfl) ?_
                refine z_if_ne (tgt := 138) hx hb (by decide) (by decide) dMd_isAtMost_128 (by decide) (fun c_14 => ?_) (fun c_14 => absurd c_14 (by decide))
                refine lv_iconst (v := iZ 1) hx hb dMd_isAtMost_138 (by decide) ?_
                refine lv_goto (tgt := 143) hx hb dMd_isAtMost_139 (by decide) ?_
                exact cq_zret hx hb hr hlocks hAe hQ (bo_narr (by omega) (by omega)) 1 ⟨rfl, (by (try dsimp only) <;> (first | exact am_end hI (by omega) | exact am_end hq.1 (by omega)))⟩ (hP.sub [] rfl) (hD.sub [] (by decide) rfl) hS (by decide) (by decide) dMd_isAtMost_143
          ·
            refine lv_iconst (v := iZ 1) hx hb dMd_isAtMost_98 (by decide) ?_
            refine lv_goto (tgt := 103) hx hb dMd_isAtMost_99 (by decide) ?_
            refine lv_istore (lv' := [(25, .int (iZ 1)), (23, .long (lZ (y % z))), (21, .long (lZ (w % x))), (19, .long (lZ (y / z))), (17, .long (lZ (w / x))), (8, .long (lZ w)), (10, .long (lZ x)), (12, .long (lZ y)), (14, .long (lZ z)), (16, .int (iZ tn))]) hx hb dMd_isAtMost_103 hl (by decide) rfl (fun ls hl => ?_)
            refine lv_lload hx hb dMd_isAtMost_105 (lv_at hl 2 rfl) ?_
            refine lv_lconst (v := lZ 0) hx hb dMd_isAtMost_107 (by decide) ?_
            refine z_lcmp_ne (tgt := 123) hx hb (by omega) (by omega) (by omega) (by omega) dMd_isAtMost_108 dMd_isAtMost_109 (by decide) (fun c_15 => ?_) (fun c_15 => ?_)
            ·
              refine lv_iconst (v := iZ 0) hx hb dMd_isAtMost_123 (by decide) ?_
              refine lv_istore (lv' := [(26, .int (iZ 0)), (25, .int (iZ 1)), (23, .long (lZ (y % z))), (21, .long (lZ (w % x))), (19, .long (lZ (y / z))), (17, .long (lZ (w / x))), (8, .long (lZ w)), (10, .long (lZ x)), (12, .long (lZ y)), (14, .long (lZ z)), (16, .int (iZ tn))]) hx hb dMd_isAtMost_124 hl (by decide) rfl (fun ls hl => ?_)
              refine lv_iload hx hb dMd_isAtMost_126 (lv_at hl 0 rfl) ?_
              refine z_if_ne (tgt := 138) hx hb (by decide) (by decide) dMd_isAtMost_128 (by decide) (fun c_16 => absurd c_16 (by decide)) (fun c_16 => ?_)
              refine lv_iload hx hb dMd_isAtMost_131 (lv_at hl 1 rfl) ?_
              refine lv_iload hx hb dMd_isAtMost_133 (lv_at hl 10 rfl) ?_
              refine z_icmp_eq (tgt := 142) hx hb (by omega) (by omega) (by omega) (by omega) dMd_isAtMost_135 (by decide) (fun c_17 => ?_) (fun c_17 => ?_)
              ·
                refine lv_iconst (v := iZ 0) hx hb dMd_isAtMost_142 (by decide) ?_
                exact cq_zret hx hb hr hlocks hAe hQ (bo_narr (by omega) (by omega)) 0 ⟨rfl, (by (try dsimp only) <;> (first | exact am_end hI (by omega) | exact am_end hq.1 (by omega)))⟩ (hP.sub [] rfl) (hD.sub [] (by decide) rfl) hS (by decide) (by decide) dMd_isAtMost_143
              ·
                refine lv_iconst (v := iZ 1) hx hb dMd_isAtMost_138 (by decide) ?_
                refine lv_goto (tgt := 143) hx hb dMd_isAtMost_139 (by decide) ?_
                exact cq_zret hx hb hr hlocks hAe hQ (bo_narr (by omega) (by omega)) 1 ⟨rfl, (by (try dsimp only) <;> (first | exact am_end hI (by omega) | exact am_end hq.1 (by omega)))⟩ (hP.sub [] rfl) (hD.sub [] (by decide) rfl) hS (by decide) (by decide) dMd_isAtMost_143
            ·
              refine lv_lload hx hb dMd_isAtMost_112 (lv_at hl 1 rfl) ?_
              refine lv_lconst (v := lZ 0) hx hb dMd_isAtMost_114 (by decide) ?_
              refine z_lcmp_ne (tgt := 123) hx hb (by omega) (by omega) (by omega) (by omega) dMd_isAtMost_115 dMd_isAtMost_116 (by decide) (fun c_18 => ?_) (fun c_18 => ?_)
              ·
                refine lv_iconst (v := iZ 0) hx hb dMd_isAtMost_123 (by decide) ?_
                refine lv_istore (lv' := [(26, .int (iZ 0)), (25, .int (iZ 1)), (23, .long (lZ (y % z))), (21, .long (lZ (w % x))), (19, .long (lZ (y / z))), (17, .long (lZ (w / x))), (8, .long (lZ w)), (10, .long (lZ x)), (12, .long (lZ y)), (14, .long (lZ z)), (16, .int (iZ tn))]) hx hb dMd_isAtMost_124 hl (by decide) rfl (fun ls hl => ?_)
                refine lv_iload hx hb dMd_isAtMost_126 (lv_at hl 0 rfl) ?_
                refine z_if_ne (tgt := 138) hx hb (by decide) (by decide) dMd_isAtMost_128 (by decide) (fun c_19 => absurd c_19 (by decide)) (fun c_19 => ?_)
                refine lv_iload hx hb dMd_isAtMost_131 (lv_at hl 1 rfl) ?_
                refine lv_iload hx hb dMd_isAtMost_133 (lv_at hl 10 rfl) ?_
                refine z_icmp_eq (tgt := 142) hx hb (by omega) (by omega) (by omega) (by omega) dMd_isAtMost_135 (by decide) (fun c_20 => ?_) (fun c_20 => ?_)
                ·
                  refine lv_iconst (v := iZ 0) hx hb dMd_isAtMost_142 (by decide) ?_
                  exact cq_zret hx hb hr hlocks hAe hQ (bo_narr (by omega) (by omega)) 0 ⟨rfl, (by (try dsimp only) <;> (first | exact am_end hI (by omega) | exact am_end hq.1 (by omega)))⟩ (hP.sub [] rfl) (hD.sub [] (by decide) rfl) hS (by decide) (by decide) dMd_isAtMost_143
                ·
                  refine lv_iconst (v := iZ 1) hx hb dMd_isAtMost_138 (by decide) ?_
                  refine lv_goto (tgt := 143) hx hb dMd_isAtMost_139 (by decide) ?_
                  exact cq_zret hx hb hr hlocks hAe hQ (bo_narr (by omega) (by omega)) 1 ⟨rfl, (by (try dsimp only) <;> (first | exact am_end hI (by omega) | exact am_end hq.1 (by omega)))⟩ (hP.sub [] rfl) (hD.sub [] (by decide) rfl) hS (by decide) (by decide) dMd_isAtMost_143
              ·
                refine lv_iconst (v := iZ 1) hx hb dMd_isAtMost_119 (by decide) ?_
                refine lv_goto (tgt := 124) hx hb dMd_isAtMost_120 (by decide) ?_
                refine lv_istore (lv' := [(26, .int (iZ 1)), (25, .int (iZ 1)), (23, .long (lZ (y % z))), (21, .long (lZ (w % x))), (19, .long (lZ (y / z))), (17, .long (lZ (w / x))), (8, .long (lZ w)), (10, .long (lZ x)), (12, .long (lZ y)), (14, .long (lZ z)), (16, .int (iZ tn))]) hx hb dMd_isAtMost_124 hl (by decide) rfl (fun ls hl => ?_)
                refine lv_iload hx hb dMd_isAtMost_126 (lv_at hl 0 rfl) ?_
                refine z_if_ne (tgt := 138) hx hb (by decide) (by decide) dMd_isAtMost_128 (by decide) (fun c_21 => ?_) (fun c_21 => absurd c_21 (by decide))
                refine lv_iconst (v := iZ 1) hx hb dMd_isAtMost_138 (by decide) ?_
                refine lv_goto (tgt := 143) hx hb dMd_isAtMost_139 (by decide) ?_
                exact cq_zret hx hb hr hlocks hAe hQ (bo_narr (by omega) (by omega)) 1 ⟨rfl, (by (try dsimp only) <;> (first | exact am_end hI (by omega) | exact am_end hq.1 (by omega)))⟩ (hP.sub [] rfl) (hD.sub [] (by decide) rfl) hS (by decide) (by decide) dMd_isAtMost_143
        ·
          refine lv_lload hx hb dMd_isAtMost_84 (lv_at hl 0 rfl) ?_
          refine lv_lconst (v := lZ 0) hx hb dMd_isAtMost_86 (by decide) ?_
          refine z_lcmp_ne (tgt := 144) hx hb (by omega) (by omega) (by omega) (by omega) dMd_isAtMost_87 dMd_isAtMost_88 (by decide) (fun c_22 => ?_) (fun c_22 => ?_)
          ·
            refine lv_lload hx hb dMd_isAtMost_144 (lv_at hl 5 rfl) ?_
            refine lv_lstore (lv' := [(8, .long (lZ x)), (23, .long (lZ (y % z))), (21, .long (lZ (w % x))), (19, .long (lZ (y / z))), (17, .long (lZ (w / x))), (10, .long (lZ x)), (12, .long (lZ y)), (14, .long (lZ z)), (16, .int (iZ tn))]) hx hb dMd_isAtMost_146 hl (by decide) rfl (fun ls hl => ?_)
            refine lv_lload hx hb dMd_isAtMost_148 (lv_at hl 2 rfl) ?_
            refine lv_lstore (lv' := [(10, .long (lZ (w % x))), (8, .long (lZ x)), (23, .long (lZ (y % z))), (21, .long (lZ (w % x))), (19, .long (lZ (y / z))), (17, .long (lZ (w / x))), (12, .long (lZ y)), (14, .long (lZ z)), (16, .int (iZ tn))]) hx hb dMd_isAtMost_150 hl (by decide) rfl (fun ls hl => ?_)
            refine lv_lload hx hb dMd_isAtMost_152 (lv_at hl 7 rfl) ?_
            refine lv_lstore (lv' := [(12, .long (lZ z)), (10, .long (lZ (w % x))), (8, .long (lZ x)), (23, .long (lZ (y % z))), (21, .long (lZ (w % x))), (19, .long (lZ (y / z))), (17, .long (lZ (w / x))), (14, .long (lZ z)), (16, .int (iZ tn))]) hx hb dMd_isAtMost_154 hl (by decide) rfl (fun ls hl => ?_)
            refine lv_lload hx hb dMd_isAtMost_156 (lv_at hl 3 rfl) ?_
            refine lv_lstore (lv' := [(14, .long (lZ (y % z))), (12, .long (lZ z)), (10, .long (lZ (w % x))), (8, .long (lZ x)), (23, .long (lZ (y % z))), (21, .long (lZ (w % x))), (19, .long (lZ (y / z))), (17, .long (lZ (w / x))), (16, .int (iZ tn))]) hx hb dMd_isAtMost_158 hl (by decide) rfl (fun ls hl => ?_)
            refine lv_iload hx hb dMd_isAtMost_160 (lv_at hl 8 rfl) ?_
            refine z_if_ne (tgt := 169) hx hb (by omega) (by omega) dMd_isAtMost_162 (by decide) (fun c_23 => ?_) (fun c_23 => ?_)
            ·
              refine lv_iconst (v := iZ 0) hx hb dMd_isAtMost_169 (by decide) ?_
              refine lv_istore (lv' := [(16, .int (iZ 0)), (14, .long (lZ (y % z))), (12, .long (lZ z)), (10, .long (lZ (w % x))), (8, .long (lZ x)), (23, .long (lZ (y % z))), (21, .long (lZ (w % x))), (19, .long (lZ (y / z))), (17, .long (lZ (w / x)))]) hx hb dMd_isAtMost_170 hl (by decide) rfl (fun ls hl => ?_)
              refine lv_goto (tgt := 17) hx hb dMd_isAtMost_172 (by decide) ?_
              exact ih_2  x (w % x) z (y % z) 0 (by omega) (by omega) (by omega) (by omega) (by omega) (by omega) (by omega) (by omega) (by first | exact am_fl0 hq.1 (by assumption) | exact am_fl1 hq.1 (by assumption)) (by omega) _ _ (hP.sub [] rfl) (hD.sub [] (by decide) rfl) hS ls (lv_sub hl [4, 3, 2, 1, 0] rfl)
            ·
              refine lv_iconst (v := iZ 1) hx hb dMd_isAtMost_165 (by decide) ?_
              refine lv_goto (tgt := 170) hx hb dMd_isAtMost_166 (by decide) ?_
              refine lv_istore (lv' := [(16, .int (iZ 1)), (14, .long (lZ (y % z))), (12, .long (lZ z)), (10, .long (lZ (w % x))), (8, .long (lZ x)), (23, .long (lZ (y % z))), (21, .long (lZ (w % x))), (19, .long (lZ (y / z))), (17, .long (lZ (w / x)))]) hx hb dMd_isAtMost_170 hl (by decide) rfl (fun ls hl => ?_)
              refine lv_goto (tgt := 17) hx hb dMd_isAtMost_172 (by decide) ?_
              exact ih_2  x (w % x) z (y % z) 1 (by omega) (by omega) (by omega) (by omega) (by omega) (by omega) (by omega) (by omega) (by first | exact am_fl0 hq.1 (by assumption) | exact am_fl1 hq.1 (by assumption)) (by omega) _ _ (hP.sub [] rfl) (hD.sub [] (by decide) rfl) hS ls (lv_sub hl [4, 3, 2, 1, 0] rfl)
          ·
            refine lv_lload hx hb dMd_isAtMost_91 (lv_at hl 1 rfl) ?_
            refine lv_lconst (v := lZ 0) hx hb dMd_isAtMost_93 (by decide) ?_
            refine z_lcmp_ne (tgt := 102) hx hb (by omega) (by omega) (by omega) (by omega) dMd_isAtMost_94 dMd_isAtMost_95 (by decide) (fun c_24 => ?_) (fun c_24 => ?_)
            ·
              refine lv_iconst (v := iZ 0) hx hb dMd_isAtMost_102 (by decide) ?_
              refine lv_istore (lv' := [(25, .int (iZ 0)), (23, .long (lZ (y % z))), (21, .long (lZ (w % x))), (19, .long (lZ (y / z))), (17, .long (lZ (w / x))), (8, .long (lZ w)), (10, .long (lZ x)), (12, .long (lZ y)), (14, .long (lZ z)), (16, .int (iZ tn))]) hx hb dMd_isAtMost_103 hl (by decide) rfl (fun ls hl => ?_)
              refine lv_lload hx hb dMd_isAtMost_105 (lv_at hl 2 rfl) ?_
              refine lv_lconst (v := lZ 0) hx hb dMd_isAtMost_107 (by decide) ?_
              refine z_lcmp_ne (tgt := 123) hx hb (by omega) (by omega) (by omega) (by omega) dMd_isAtMost_108 dMd_isAtMost_109 (by decide) (fun c_25 => ?_) (fun c_25 => ?_)
              ·
                refine lv_iconst (v := iZ 0) hx hb dMd_isAtMost_123 (by decide) ?_
                refine lv_istore (lv' := [(26, .int (iZ 0)), (25, .int (iZ 0)), (23, .long (lZ (y % z))), (21, .long (lZ (w % x))), (19, .long (lZ (y / z))), (17, .long (lZ (w / x))), (8, .long (lZ w)), (10, .long (lZ x)), (12, .long (lZ y)), (14, .long (lZ z)), (16, .int (iZ tn))]) hx hb dMd_isAtMost_124 hl (by decide) rfl (fun ls hl => ?_)
                refine lv_iload hx hb dMd_isAtMost_126 (lv_at hl 0 rfl) ?_
                refine z_if_ne (tgt := 138) hx hb (by decide) (by decide) dMd_isAtMost_128 (by decide) (fun c_26 => absurd c_26 (by decide)) (fun c_26 => ?_)
                refine lv_iload hx hb dMd_isAtMost_131 (lv_at hl 1 rfl) ?_
                refine lv_iload hx hb dMd_isAtMost_133 (lv_at hl 10 rfl) ?_
                refine z_icmp_eq (tgt := 142) hx hb (by omega) (by omega) (by omega) (by omega) dMd_isAtMost_135 (by decide) (fun c_27 => ?_) (fun c_27 => ?_)
                ·
                  refine lv_iconst (v := iZ 0) hx hb dMd_isAtMost_142 (by decide) ?_
                  exact cq_zret hx hb hr hlocks hAe hQ (bo_narr (by omega) (by omega)) 0 ⟨rfl, (by (try dsimp only) <;> (first | exact am_end hI (by omega) | exact am_end hq.1 (by omega)))⟩ (hP.sub [] rfl) (hD.sub [] (by decide) rfl) hS (by decide) (by decide) dMd_isAtMost_143
                ·
                  refine lv_iconst (v := iZ 1) hx hb dMd_isAtMost_138 (by decide) ?_
                  refine lv_goto (tgt := 143) hx hb dMd_isAtMost_139 (by decide) ?_
                  exact cq_zret hx hb hr hlocks hAe hQ (bo_narr (by omega) (by omega)) 1 ⟨rfl, (by (try dsimp only) <;> (first | exact am_end hI (by omega) | exact am_end hq.1 (by omega)))⟩ (hP.sub [] rfl) (hD.sub [] (by decide) rfl) hS (by decide) (by decide) dMd_isAtMost_143
              ·
                refine lv_lload hx hb dMd_isAtMost_112 (lv_at hl 1 rfl) ?_
                refine lv_lconst (v := lZ 0) hx hb dMd_isAtMost_114 (by decide) ?_
                refine z_lcmp_ne (tgt := 123) hx hb (by omega) (by omega) (by omega) (by omega) dMd_isAtMost_115 dMd_isAtMost_116 (by decide) (fun c_28 => ?_) (fun c_28 => ?_)
                ·
                  refine lv_iconst (v := iZ 0) hx hb dMd_isAtMost_123 (by decide) ?_
                  refine lv_istore (lv' := [(26, .int (iZ 0)), (25, .int (iZ 0)), (23, .long (lZ (y % z))), (21, .long (lZ (w % x))), (19, .long (lZ (y / z))), (17, .long (lZ (w / x))), (8, .long (lZ w)), (10, .long (lZ x)), (12, .long (lZ y)), (14, .long (lZ z)), (16, .int (iZ tn))]) hx hb dMd_isAtMost_124 hl (by decide) rfl (fun ls hl => ?_)
                  refine lv_iload hx hb dMd_isAtMost_126 (lv_at hl 0 rfl) ?_
                  refine z_if_ne (tgt := 138) hx hb (by decide) (by decide) dMd_isAtMost_128 (by decide) (fun c_29 => absurd c_29 (by decide)) (fun c_29 => ?_)
                  refine lv_iload hx hb dMd_isAtMost_131 (lv_at hl 1 rfl) ?_
                  refine lv_iload hx hb dMd_isAtMost_133 (lv_at hl 10 rfl) ?_
                  refine z_icmp_eq (tgt := 142) hx hb (by omega) (by omega) (by omega) (by omega) dMd_isAtMost_135 (by decide) (fun c_30 => ?_) (fun c_30 => ?_)
                  ·
                    refine lv_iconst (v := iZ 0) hx hb dMd_isAtMost_142 (by decide) ?_
                    exact cq_zret hx hb hr hlocks hAe hQ (bo_narr (by omega) (by omega)) 0 ⟨rfl, (by (try dsimp only) <;> (first | exact am_end hI (by omega) | exact am_end hq.1 (by omega)))⟩ (hP.sub [] rfl) (hD.sub [] (by decide) rfl) hS (by decide) (by decide) dMd_isAtMost_143
                  ·
                    refine lv_iconst (v := iZ 1) hx hb dMd_isAtMost_138 (by decide) ?_
                    refine lv_goto (tgt := 143) hx hb dMd_isAtMost_139 (by decide) ?_
                    exact cq_zret hx hb hr hlocks hAe hQ (bo_narr (by omega) (by omega)) 1 ⟨rfl, (by (try dsimp only) <;> (first | exact am_end hI (by omega) | exact am_end hq.1 (by omega)))⟩ (hP.sub [] rfl) (hD.sub [] (by decide) rfl) hS (by decide) (by decide) dMd_isAtMost_143
                ·
                  refine lv_iconst (v := iZ 1) hx hb dMd_isAtMost_119 (by decide) ?_
                  refine lv_goto (tgt := 124) hx hb dMd_isAtMost_120 (by decide) ?_
                  refine lv_istore (lv' := [(26, .int (iZ 1)), (25, .int (iZ 0)), (23, .long (lZ (y % z))), (21, .long (lZ (w % x))), (19, .long (lZ (y / z))), (17, .long (lZ (w / x))), (8, .long (lZ w)), (10, .long (lZ x)), (12, .long (lZ y)), (14, .long (lZ z)), (16, .int (iZ tn))]) hx hb dMd_isAtMost_124 hl (by decide) rfl (fun ls hl => ?_)
                  refine lv_iload hx hb dMd_isAtMost_126 (lv_at hl 0 rfl) ?_
                  refine z_if_ne (tgt := 138) hx hb (by decide) (by decide) dMd_isAtMost_128 (by decide) (fun c_31 => ?_) (fun c_31 => absurd c_31 (by decide))
                  refine lv_iconst (v := iZ 1) hx hb dMd_isAtMost_138 (by decide) ?_
                  refine lv_goto (tgt := 143) hx hb dMd_isAtMost_139 (by decide) ?_
                  exact cq_zret hx hb hr hlocks hAe hQ (bo_narr (by omega) (by omega)) 1 ⟨rfl, (by (try dsimp only) <;> (first | exact am_end hI (by omega) | exact am_end hq.1 (by omega)))⟩ (hP.sub [] rfl) (hD.sub [] (by decide) rfl) hS (by decide) (by decide) dMd_isAtMost_143
            ·
              refine lv_iconst (v := iZ 1) hx hb dMd_isAtMost_98 (by decide) ?_
              refine lv_goto (tgt := 103) hx hb dMd_isAtMost_99 (by decide) ?_
              refine lv_istore (lv' := [(25, .int (iZ 1)), (23, .long (lZ (y % z))), (21, .long (lZ (w % x))), (19, .long (lZ (y / z))), (17, .long (lZ (w / x))), (8, .long (lZ w)), (10, .long (lZ x)), (12, .long (lZ y)), (14, .long (lZ z)), (16, .int (iZ tn))]) hx hb dMd_isAtMost_103 hl (by decide) rfl (fun ls hl => ?_)
              refine lv_lload hx hb dMd_isAtMost_105 (lv_at hl 2 rfl) ?_
              refine lv_lconst (v := lZ 0) hx hb dMd_isAtMost_107 (by decide) ?_
              refine z_lcmp_ne (tgt := 123) hx hb (by omega) (by omega) (by omega) (by omega) dMd_isAtMost_108 dMd_isAtMost_109 (by decide) (fun c_32 => ?_) (fun c_32 => ?_)
              ·
                refine lv_iconst (v := iZ 0) hx hb dMd_isAtMost_123 (by decide) ?_
                refine lv_istore (lv' := [(26, .int (iZ 0)), (25, .int (iZ 1)), (23, .long (lZ (y % z))), (21, .long (lZ (w % x))), (19, .long (lZ (y / z))), (17, .long (lZ (w / x))), (8, .long (lZ w)), (10, .long (lZ x)), (12, .long (lZ y)), (14, .long (lZ z)), (16, .int (iZ tn))]) hx hb dMd_isAtMost_124 hl (by decide) rfl (fun ls hl => ?_)
                refine lv_iload hx hb dMd_isAtMost_126 (lv_at hl 0 rfl) ?_
                refine z_if_ne (tgt := 138) hx hb (by decide) (by decide) dMd_isAtMost_128 (by decide) (fun c_33 => absurd c_33 (by decide)) (fun c_33 => ?_)
                refine lv_iload hx hb dMd_isAtMost_131 (lv_at hl 1 rfl) ?_
                refine lv_iload hx hb dMd_isAtMost_133 (lv_at hl 10 rfl) ?_
                refine z_icmp_eq (tgt := 142) hx hb (by omega) (by omega) (by omega) (by omega) dMd_isAtMost_135 (by decide) (fun c_34 => ?_) (fun c_34 => ?_)
                ·
                  refine lv_iconst (v := iZ 0) hx hb dMd_isAtMost_142 (by decide) ?_
                  exact cq_zret hx hb hr hlocks hAe hQ (bo_narr (by omega) (by omega)) 0 ⟨rfl, (by (try dsimp only) <;> (first | exact am_end hI (by omega) | exact am_end hq.1 (by omega)))⟩ (hP.sub [] rfl) (hD.sub [] (by decide) rfl) hS (by decide) (by decide) dMd_isAtMost_143
                ·
                  refine lv_iconst (v := iZ 1) hx hb dMd_isAtMost_138 (by decide) ?_
                  refine lv_goto (tgt := 143) hx hb dMd_isAtMost_139 (by decide) ?_
                  exact cq_zret hx hb hr hlocks hAe hQ (bo_narr (by omega) (by omega)) 1 ⟨rfl, (by (try dsimp only) <;> (first | exact am_end hI (by omega) | exact am_end hq.1 (by omega)))⟩ (hP.sub [] rfl) (hD.sub [] (by decide) rfl) hS (by decide) (by decide) dMd_isAtMost_143
              ·
                refine lv_lload hx hb dMd_isAtMost_112 (lv_at hl 1 rfl) ?_
                refine lv_lconst (v := lZ 0) hx hb dMd_isAtMost_114 (by decide) ?_
                refine z_lcmp_ne (tgt := 123) hx hb (by omega) (by omega) (by omega) (by omega) dMd_isAtMost_115 dMd_isAtMost_116 (by decide) (fun c_35 => ?_) (fun c_35 => ?_)
                ·
                  refine lv_iconst (v := iZ 0) hx hb dMd_isAtMost_123 (by decide) ?_
                  refine lv_istore (lv' := [(26, .int (iZ 0)), (25, .int (iZ 1)), (23, .long (lZ (y % z))), (21, .long (lZ (w % x))), (19, .long (lZ (y / z))), (17, .long (lZ (w / x))), (8, .long (lZ w)), (10, .long (lZ x)), (12, .long (lZ y)), (14, .long (lZ z)), (16, .int (iZ tn))]) hx hb dMd_isAtMost_124 hl (by decide) rfl (fun ls hl => ?_)
                  refine lv_iload hx hb dMd_isAtMost_126 (lv_at hl 0 rfl) ?_
                  refine z_if_ne (tgt := 138) hx hb (by decide) (by decide) dMd_isAtMost_128 (by decide) (fun c_36 => absurd c_36 (by decide)) (fun c_36 => ?_)
                  refine lv_iload hx hb dMd_isAtMost_131 (lv_at hl 1 rfl) ?_
                  refine lv_iload hx hb dMd_isAtMost_133 (lv_at hl 10 rfl) ?_
                  refine z_icmp_eq (tgt := 142) hx hb (by omega) (by omega) (by omega) (by omega) dMd_isAtMost_135 (by decide) (fun c_37 => ?_) (fun c_37 => ?_)
                  ·
                    refine lv_iconst (v := iZ 0) hx hb dMd_isAtMost_142 (by decide) ?_
                    exact cq_zret hx hb hr hlocks hAe hQ (bo_narr (by omega) (by omega)) 0 ⟨rfl, (by (try dsimp only) <;> (first | exact am_end hI (by omega) | exact am_end hq.1 (by omega)))⟩ (hP.sub [] rfl) (hD.sub [] (by decide) rfl) hS (by decide) (by decide) dMd_isAtMost_143
                  ·
                    refine lv_iconst (v := iZ 1) hx hb dMd_isAtMost_138 (by decide) ?_
                    refine lv_goto (tgt := 143) hx hb dMd_isAtMost_139 (by decide) ?_
                    exact cq_zret hx hb hr hlocks hAe hQ (bo_narr (by omega) (by omega)) 1 ⟨rfl, (by (try dsimp only) <;> (first | exact am_end hI (by omega) | exact am_end hq.1 (by omega)))⟩ (hP.sub [] rfl) (hD.sub [] (by decide) rfl) hS (by decide) (by decide) dMd_isAtMost_143
                ·
                  refine lv_iconst (v := iZ 1) hx hb dMd_isAtMost_119 (by decide) ?_
                  refine lv_goto (tgt := 124) hx hb dMd_isAtMost_120 (by decide) ?_
                  refine lv_istore (lv' := [(26, .int (iZ 1)), (25, .int (iZ 1)), (23, .long (lZ (y % z))), (21, .long (lZ (w % x))), (19, .long (lZ (y / z))), (17, .long (lZ (w / x))), (8, .long (lZ w)), (10, .long (lZ x)), (12, .long (lZ y)), (14, .long (lZ z)), (16, .int (iZ tn))]) hx hb dMd_isAtMost_124 hl (by decide) rfl (fun ls hl => ?_)
                  refine lv_iload hx hb dMd_isAtMost_126 (lv_at hl 0 rfl) ?_
                  refine z_if_ne (tgt := 138) hx hb (by decide) (by decide) dMd_isAtMost_128 (by decide) (fun c_38 => ?_) (fun c_38 => absurd c_38 (by decide))
                  refine lv_iconst (v := iZ 1) hx hb dMd_isAtMost_138 (by decide) ?_
                  refine lv_goto (tgt := 143) hx hb dMd_isAtMost_139 (by decide) ?_
                  exact cq_zret hx hb hr hlocks hAe hQ (bo_narr (by omega) (by omega)) 1 ⟨rfl, (by (try dsimp only) <;> (first | exact am_end hI (by omega) | exact am_end hq.1 (by omega)))⟩ (hP.sub [] rfl) (hD.sub [] (by decide) rfl) hS (by decide) (by decide) dMd_isAtMost_143
      ·
        have hne := am_ne hx1 hz1 (by assumption)
        refine lv_lload hx hb dMd_isAtMost_39 (lv_at hl 1 rfl) ?_
        refine lv_lload hx hb dMd_isAtMost_41 (lv_at hl 0 rfl) ?_
        refine z_lcmp_ge (tgt := 51) hx hb (by omega) (by omega) (by omega) (by omega) dMd_isAtMost_43 dMd_isAtMost_44 (by decide) (fun c_39 => ?_) (fun c_39 => ?_)
        ·
          refine lv_iconst (v := iZ 0) hx hb dMd_isAtMost_51 (by decide) ?_
          refine lv_iload hx hb dMd_isAtMost_52 (lv_at hl 6 rfl) ?_
          refine z_icmp_eq (tgt := 61) hx hb (by omega) (by omega) (by omega) (by omega) dMd_isAtMost_54 (by decide) (fun c_40 => ?_) (fun c_40 => ?_)
          ·
            refine lv_iconst (v := iZ 0) hx hb dMd_isAtMost_61 (by decide) ?_
            exact cq_zret hx hb hr hlocks hAe hQ (bo_narr (by omega) (by omega)) 0 ⟨rfl, (by (try dsimp only) <;> (first | exact am_end hI (by omega) | exact am_end hq.1 (by omega)))⟩ (hP.sub [] rfl) (hD.sub [] (by decide) rfl) hS (by decide) (by decide) dMd_isAtMost_62
          ·
            refine lv_iconst (v := iZ 1) hx hb dMd_isAtMost_57 (by decide) ?_
            refine lv_goto (tgt := 62) hx hb dMd_isAtMost_58 (by decide) ?_
            exact cq_zret hx hb hr hlocks hAe hQ (bo_narr (by omega) (by omega)) 1 ⟨rfl, (by (try dsimp only) <;> (first | exact am_end hI (by omega) | exact am_end hq.1 (by omega)))⟩ (hP.sub [] rfl) (hD.sub [] (by decide) rfl) hS (by decide) (by decide) dMd_isAtMost_62
        ·
          refine lv_iconst (v := iZ 1) hx hb dMd_isAtMost_47 (by decide) ?_
          refine lv_goto (tgt := 52) hx hb dMd_isAtMost_48 (by decide) ?_
          refine lv_iload hx hb dMd_isAtMost_52 (lv_at hl 6 rfl) ?_
          refine z_icmp_eq (tgt := 61) hx hb (by omega) (by omega) (by omega) (by omega) dMd_isAtMost_54 (by decide) (fun c_41 => ?_) (fun c_41 => ?_)
          ·
            refine lv_iconst (v := iZ 0) hx hb dMd_isAtMost_61 (by decide) ?_
            exact cq_zret hx hb hr hlocks hAe hQ (bo_narr (by omega) (by omega)) 0 ⟨rfl, (by (try dsimp only) <;> (first | exact am_end hI (by omega) | exact am_end hq.1 (by omega)))⟩ (hP.sub [] rfl) (hD.sub [] (by decide) rfl) hS (by decide) (by decide) dMd_isAtMost_62
          ·
            refine lv_iconst (v := iZ 1) hx hb dMd_isAtMost_57 (by decide) ?_
            refine lv_goto (tgt := 62) hx hb dMd_isAtMost_58 (by decide) ?_
            exact cq_zret hx hb hr hlocks hAe hQ (bo_narr (by omega) (by omega)) 1 ⟨rfl, (by (try dsimp only) <;> (first | exact am_end hI (by omega) | exact am_end hq.1 (by omega)))⟩ (hP.sub [] rfl) (hD.sub [] (by decide) rfl) hS (by decide) (by decide) dMd_isAtMost_62
  exact loop_1 ((qb : Int).toNat + 1) qa qb qc qd 0 (by omega) (by omega) (by omega) (by omega) (by omega) (by omega) (by omega) (by omega) (by exact am_0) (by omega) _ _ (hP.sub [] rfl) (hD.sub [] (by decide) rfl) hS ls (lv_sub hl [4, 3, 2, 1, 0] rfl)
set_option maxHeartbeats 4000000 in
set_option maxRecDepth 100000 in
theorem m_trialCost (l : Launch) (D : va_G) (cI cJ cZ : ClassId) (t_a t_sizes_a t_costs_a t_gone_a t_drawn_a t_drawnCounts_a t_owners_a t_years_a t_missing_a t_grams_a t_planned_a t_againBag_a t_againKind_a t_againGrams_a t_trial_a : Nat) (sz : Nat) (t_seed : Int) (t_strata : Int) (t_bags : Int) (t_hasPlan : Int) (t_again : Int) (t_over : Int) (t_under : Int) (t_trial_f : Int → Int) (t_costs_f : Int → Int) (hn1 : 0 ≤ t_strata) (hn2 : t_strata ≤ 4) (htr : ∀ j, 0 ≤ j → j < 4 → 0 ≤ t_trial_f j ∧ t_trial_f j ≤ 6) (hto : ∀ j, t_strata ≤ j → j < 4 → t_trial_f j = 0) : cq_l l yMd_trialCost wsMd_trialCost ({ frames := 0, cells := 0, slots := 0, locals := 0 }) D clAll [(cI, .int), (cJ, .long), (cZ, .boolean)] nwAll [.ref t_a] [(t_a, .inr (9, [.long (lZ t_seed), .int (iZ t_strata), .ref t_sizes_a, .ref t_costs_a, .ref t_gone_a, .ref t_drawn_a, .ref t_drawnCounts_a, .int (iZ t_bags), .ref t_owners_a, .ref t_years_a, .ref t_missing_a, .ref t_grams_a, .int (iZ t_hasPlan), .ref t_planned_a, .int (iZ t_again), .ref t_againBag_a, .ref t_againKind_a, .ref t_againGrams_a, .long (lZ t_over), .long (lZ t_under), .ref t_trial_a])), (t_trial_a, .inl (cI, 4, .inl (aI t_trial_f))), (t_costs_a, .inl (cJ, 4, .inr (.inl (aL t_costs_f))))] sz (S := Int) (fun (r : Int64) (u : Int) => r = lZ u ∧ (u = ncost t_costs_f t_trial_f)) (fun (u : Int) => [(t_a, .inr (9, [.long (lZ t_seed), .int (iZ t_strata), .ref t_sizes_a, .ref t_costs_a, .ref t_gone_a, .ref t_drawn_a, .ref t_drawnCounts_a, .int (iZ t_bags), .ref t_owners_a, .ref t_years_a, .ref t_missing_a, .ref t_grams_a, .int (iZ t_hasPlan), .ref t_planned_a, .int (iZ t_again), .ref t_againBag_a, .ref t_againKind_a, .ref t_againGrams_a, .long (lZ t_over), .long (lZ t_under), .ref t_trial_a])), (t_trial_a, .inl (cI, 4, .inl (aI t_trial_f))), (t_costs_a, .inl (cJ, 4, .inr (.inl (aL t_costs_f))))]) 0 0 := by
  refine cq_enter (cc := cMd_trialCost) (maxL := 4) (ret := some .long) (by decide) rfl (Nat.le_of_ble_eq_true rfl) ?_
  intro p e s m below meth c A args Q H hAe hQ hsz hAt hA hP hK hD hS ls hl
  obtain ⟨hx, hb, hr, hml, hown, hts, hlocks, hin⟩ := hAt
  have hown : s.vm.findClass RMd = some m.cls := hown
  have hl : lv_has ls 4 [(0, .ref t_a)] := hl
  refine lv_lconst (v := lZ 0) hx hb dMd_trialCost_0 (by decide) ?_
  refine lv_lstore_n (lv' := [(1, .long (lZ 0)), (0, .ref t_a)]) hx hb dMd_trialCost_1 rfl hl (by decide) rfl (fun ls hl => ?_)
  refine lv_iconst (v := iZ 0) hx hb dMd_trialCost_2 (by decide) ?_
  refine lv_istore_n (lv' := [(3, .int (iZ 0)), (1, .long (lZ 0)), (0, .ref t_a)]) hx hb dMd_trialCost_3 rfl hl (by decide) rfl (fun ls hl => ?_)
  have loop_1 : ∀ (n_3 : Nat) (cs : Int) (i : Int), (0 ≤ i) → (i ≤ t_strata) → (cs = sZ (fun j => t_trial_f j * t_costs_f j) i) → (t_strata - i < (n_3 : Int)) → ∀ (H : Heap) (locs : List Loc), va_P D clAll [(t_a, .inr (9, [.long (lZ t_seed), .int (iZ t_strata), .ref t_sizes_a, .ref t_costs_a, .ref t_gone_a, .ref t_drawn_a, .ref t_drawnCounts_a, .int (iZ t_bags), .ref t_owners_a, .ref t_years_a, .ref t_missing_a, .ref t_grams_a, .int (iZ t_hasPlan), .ref t_planned_a, .int (iZ t_again), .ref t_againBag_a, .ref t_againKind_a, .ref t_againGrams_a, .long (lZ t_over), .long (lZ t_under), .ref t_trial_a])), (t_trial_a, .inl (cI, 4, .inl (aI t_trial_f))), (t_costs_a, .inl (cJ, 4, .inr (.inl (aL t_costs_f))))] H → va_D A [(t_a, .inr (9, [.long (lZ t_seed), .int (iZ t_strata), .ref t_sizes_a, .ref t_costs_a, .ref t_gone_a, .ref t_drawn_a, .ref t_drawnCounts_a, .int (iZ t_bags), .ref t_owners_a, .ref t_years_a, .ref t_missing_a, .ref t_grams_a, .int (iZ t_hasPlan), .ref t_planned_a, .int (iZ t_again), .ref t_againBag_a, .ref t_againKind_a, .ref t_againGrams_a, .long (lZ t_over), .long (lZ t_under), .ref t_trial_a])), (t_trial_a, .inl (cI, 4, .inl (aI t_trial_f))), (t_costs_a, .inl (cJ, 4, .inr (.inl (aL t_costs_f))))] → va_S A s.heap H locs → ∀ ls : Array Slot, lv_has ls 4 [(0, .ref t_a), (1, .long (lZ cs)), (3, .int (iZ i))] → W p l e { frames := 0, cells := 0, slots := 0, locals := 0 } s m args below meth c H locs 0 0 Q (F0 m 4 ls []) := by
    intro n_3
    induction n_3 with
    | zero => intro cs i hi hi2 hcs hm_4; exact absurd hm_4 (by omega)
    | succ n_3 ih_2 =>
      intro cs i hi hi2 hcs hm_4 H locs hP hD hS ls hl
      refine lv_iload_n hx hb dMd_trialCost_4 rfl (lv_at hl 2 rfl) ?_
      refine lv_aload_n hx hb dMd_trialCost_5 rfl (lv_at hl 0 rfl) ?_
      refine va_get (D := D) (ci := 9) (v := .int (iZ t_strata)) (C := RMd) (T := TMd) (N := 21) hx hb hts layMd hown hK.1 hP 0 rfl rfl 1 (by decide) (hts _ (hm g435)) (fun _ h9 => h9) rfl dMd_trialCost_6 ?_
      refine z_icmp_ge (tgt := 35) hx hb (by omega) (by omega) (by omega) (by omega) dMd_trialCost_9 (by decide) (fun c_5 => ?_) (fun c_5 => ?_)
      ·
        refine lv_lload_n hx hb dMd_trialCost_35 rfl (lv_at hl 1 rfl) ?_
        exact cq_lret hx hb hr hlocks hAe hQ cs ⟨rfl, (by (try dsimp only) <;> (exact nc_ext hcs (by omega) hn1 hn2 hto))⟩ (hP.sub [0, 1, 2] rfl) (hD.sub [0, 1, 2] (by decide) rfl) hS (by decide) (by decide) dMd_trialCost_36
      ·
        refine lv_lload_n hx hb dMd_trialCost_12 rfl (lv_at hl 1 rfl) ?_
        refine lv_aload_n hx hb dMd_trialCost_13 rfl (lv_at hl 0 rfl) ?_
        refine va_get (D := D) (ci := 9) (v := .ref t_trial_a) (C := RMd) (T := TMd) (N := 21) hx hb hts layMd hown hK.1 hP 0 rfl rfl 20 (by decide) (hts _ (hm g454)) (fun _ h9 => h9) rfl dMd_trialCost_14 ?_
        refine lv_iload_n hx hb dMd_trialCost_17 rfl (lv_at hl 2 rfl) ?_
        refine z_iald hx hb hK hP 1 0 rfl rfl (by omega) (by omega) (by decide) dMd_trialCost_18 ?_
        have f_6 := htr i (by omega) (by omega)
        refine z_i2l hx hb (by omega) (by omega) dMd_trialCost_19 ?_
        refine lv_aload_n hx hb dMd_trialCost_20 rfl (lv_at hl 0 rfl) ?_
        refine va_get (D := D) (ci := 9) (v := .ref t_costs_a) (C := RMd) (T := TMd) (N := 21) hx hb hts layMd hown hK.1 hP 0 rfl rfl 3 (by decide) (hts _ (hm g437)) (fun _ h9 => h9) rfl dMd_trialCost_21 ?_
        refine lv_iload_n hx hb dMd_trialCost_24 rfl (lv_at hl 2 rfl) ?_
        refine z_lald hx hb hK hP 2 1 rfl rfl (by omega) (by omega) (by decide) dMd_trialCost_25 ?_
        refine z_lmul hx hb dMd_trialCost_26 ?_
        refine z_ladd hx hb dMd_trialCost_27 ?_
        refine lv_lstore_n (lv' := [(1, .long (lZ (cs + ((t_trial_f i) * (t_costs_f i))))), (0, .ref t_a), (3, .int (iZ i))]) hx hb dMd_trialCost_28 rfl hl (by decide) rfl (fun ls hl => ?_)
        refine lv_iinc (v := iZ (i + 1)) (lv' := [(3, .int (iZ (i + 1))), (1, .long (lZ (cs + ((t_trial_f i) * (t_costs_f i))))), (0, .ref t_a)]) hx hb dMd_trialCost_29 hl (k := 2) rfl (iZ_add i 1) (by decide) rfl (fun ls hl => ?_)
        refine lv_goto (tgt := 4) hx hb dMd_trialCost_32 (by decide) ?_
        exact ih_2  (cs + ((t_trial_f i) * (t_costs_f i))) (i + 1) (by omega) (by omega) (by exact nc_1 hcs hi) (by omega) _ _ (hP.sub [0, 1, 2] rfl) (hD.sub [0, 1, 2] (by decide) rfl) hS ls (lv_sub hl [2, 1, 0] rfl)
  exact loop_1 ((t_strata - 0 : Int).toNat + 1) 0 0 (by omega) (by omega) (by rfl) (by omega) _ _ (hP.sub [0, 1, 2] rfl) (hD.sub [0, 1, 2] (by decide) rfl) hS ls (lv_sub hl [2, 1, 0] rfl)
set_option maxHeartbeats 4000000 in
set_option maxRecDepth 100000 in
theorem m_tryPlan (l : Launch) (D : va_G) (cI cJ cZ : ClassId) (t_a t_sizes_a t_costs_a t_gone_a t_drawn_a t_drawnCounts_a t_owners_a t_years_a t_missing_a t_grams_a t_planned_a t_againBag_a t_againKind_a t_againGrams_a t_trial_a : Nat) (sz : Nat) (t_seed : Int) (t_strata : Int) (t_bags : Int) (t_hasPlan : Int) (t_again : Int) (t_over : Int) (t_under : Int) (t_gone_f : Int → Int) (t_owners_f : Int → Int) (t_missing_f : Int → Int) (t_trial_f : Int → Int) (num : Int) (h_num1 : -2147483648 ≤ num) (h_num2 : num < 2147483648) (hn1 : 0 ≤ t_strata) (hn2 : t_strata ≤ 4) (hb1 : 0 ≤ t_bags) (hb2 : t_bags ≤ 12) (hgo : ∀ j, 0 ≤ t_gone_f j ∧ t_gone_f j ≤ 1) (hho : ∀ j, 0 ≤ t_owners_f j ∧ t_owners_f j ≤ 3) (hlo : ∀ j, 0 ≤ t_missing_f j ∧ t_missing_f j ≤ 1) (hzero : ∀ j, 0 ≤ j → j < 4 → (t_strata ≤ j ∨ ¬ t_gone_f j = 0) → NBf t_owners_f t_missing_f t_bags j = 0) (hnum : 0 ≤ num ∧ num < 1296) : cq_v l yMd_tryPlan wsMd_tryPlan ({ frames := 2, cells := 0, slots := 0, locals := 44 }) D clAll [(cI, .int), (cJ, .long), (cZ, .boolean)] nwAll [.ref t_a, .int (iZ num)] [(t_a, .inr (9, [.long (lZ t_seed), .int (iZ t_strata), .ref t_sizes_a, .ref t_costs_a, .ref t_gone_a, .ref t_drawn_a, .ref t_drawnCounts_a, .int (iZ t_bags), .ref t_owners_a, .ref t_years_a, .ref t_missing_a, .ref t_grams_a, .int (iZ t_hasPlan), .ref t_planned_a, .int (iZ t_again), .ref t_againBag_a, .ref t_againKind_a, .ref t_againGrams_a, .long (lZ t_over), .long (lZ t_under), .ref t_trial_a])), (t_gone_a, .inl (cZ, 4, .inl (aI t_gone_f))), (t_owners_a, .inl (cI, 12, .inl (aI t_owners_f))), (t_missing_a, .inl (cZ, 12, .inl (aI t_missing_f))), (t_trial_a, .inl (cI, 4, .inl (aI t_trial_f)))] sz (S := (Int → Int)) (fun (u : (Int → Int)) => (∀ j, 0 ≤ j → j < 4 → u j = tpl (NBf t_owners_f t_missing_f t_bags) num j)) (fun (u : (Int → Int)) => [(t_a, .inr (9, [.long (lZ t_seed), .int (iZ t_strata), .ref t_sizes_a, .ref t_costs_a, .ref t_gone_a, .ref t_drawn_a, .ref t_drawnCounts_a, .int (iZ t_bags), .ref t_owners_a, .ref t_years_a, .ref t_missing_a, .ref t_grams_a, .int (iZ t_hasPlan), .ref t_planned_a, .int (iZ t_again), .ref t_againBag_a, .ref t_againKind_a, .ref t_againGrams_a, .long (lZ t_over), .long (lZ t_under), .ref t_trial_a])), (t_gone_a, .inl (cZ, 4, .inl (aI t_gone_f))), (t_owners_a, .inl (cI, 12, .inl (aI t_owners_f))), (t_missing_a, .inl (cZ, 12, .inl (aI t_missing_f))), (t_trial_a, .inl (cI, 4, .inl (aI u)))]) 0 0 := by
  refine cq_enter (cc := cMd_tryPlan) (maxL := 4) (ret := none) (by decide) rfl (Nat.le_of_ble_eq_true rfl) ?_
  intro p e s m below meth c A args Q H hAe hQ hsz hAt hA hP hK hD hS ls hl
  obtain ⟨hx, hb, hr, hml, hown, hts, hlocks, hin⟩ := hAt
  have hown : s.vm.findClass RMd = some m.cls := hown
  have hl : lv_has ls 4 [(0, .ref t_a), (1, .int (iZ num))] := hl
  refine lv_iload_n hx hb dMd_tryPlan_0 rfl (lv_at hl 1 rfl) ?_
  refine lv_istore_n (lv' := [(2, .int (iZ num)), (0, .ref t_a), (1, .int (iZ num))]) hx hb dMd_tryPlan_1 rfl hl (by decide) rfl (fun ls hl => ?_)
  refine lv_iconst (v := iZ 3) hx hb dMd_tryPlan_2 (by decide) ?_
  refine lv_istore_n (lv' := [(3, .int (iZ 3)), (2, .int (iZ num)), (0, .ref t_a), (1, .int (iZ num))]) hx hb dMd_tryPlan_3 rfl hl (by decide) rfl (fun ls hl => ?_)
  have loop_1 : ∀ (n_3 : Nat) (rs : Int) (i : Int) (tr : Int → Int), (-1 ≤ i) → (i ≤ 3) → (rs = num / d6 (3 - i)) → (∀ j, i < j → j < 4 → tr j = tpl (NBf t_owners_f t_missing_f t_bags) num j) → (i + 1 < (n_3 : Int)) → ∀ (H : Heap) (locs : List Loc), va_P D clAll [(t_a, .inr (9, [.long (lZ t_seed), .int (iZ t_strata), .ref t_sizes_a, .ref t_costs_a, .ref t_gone_a, .ref t_drawn_a, .ref t_drawnCounts_a, .int (iZ t_bags), .ref t_owners_a, .ref t_years_a, .ref t_missing_a, .ref t_grams_a, .int (iZ t_hasPlan), .ref t_planned_a, .int (iZ t_again), .ref t_againBag_a, .ref t_againKind_a, .ref t_againGrams_a, .long (lZ t_over), .long (lZ t_under), .ref t_trial_a])), (t_gone_a, .inl (cZ, 4, .inl (aI t_gone_f))), (t_owners_a, .inl (cI, 12, .inl (aI t_owners_f))), (t_missing_a, .inl (cZ, 12, .inl (aI t_missing_f))), (t_trial_a, .inl (cI, 4, .inl (aI tr)))] H → va_D A [(t_a, .inr (9, [.long (lZ t_seed), .int (iZ t_strata), .ref t_sizes_a, .ref t_costs_a, .ref t_gone_a, .ref t_drawn_a, .ref t_drawnCounts_a, .int (iZ t_bags), .ref t_owners_a, .ref t_years_a, .ref t_missing_a, .ref t_grams_a, .int (iZ t_hasPlan), .ref t_planned_a, .int (iZ t_again), .ref t_againBag_a, .ref t_againKind_a, .ref t_againGrams_a, .long (lZ t_over), .long (lZ t_under), .ref t_trial_a])), (t_gone_a, .inl (cZ, 4, .inl (aI t_gone_f))), (t_owners_a, .inl (cI, 12, .inl (aI t_owners_f))), (t_missing_a, .inl (cZ, 12, .inl (aI t_missing_f))), (t_trial_a, .inl (cI, 4, .inl (aI tr)))] → va_S A s.heap H locs → ∀ ls : Array Slot, lv_has ls 4 [(0, .ref t_a), (1, .int (iZ num)), (2, .int (iZ rs)), (3, .int (iZ i))] → W p l e { frames := 2, cells := 0, slots := 0, locals := 44 } s m args below meth c H locs 0 0 Q (F0 m 4 ls []) := by
    intro n_3
    induction n_3 with
    | zero => intro rs i tr hi hi2 hrs htp hm_4; exact absurd hm_4 (by omega)
    | succ n_3 ih_2 =>
      intro rs i tr hi hi2 hrs htp hm_4 H locs hP hD hS ls hl
      refine lv_iload_n hx hb dMd_tryPlan_4 rfl (lv_at hl 3 rfl) ?_
      have hrb := rs_b hrs hnum
      refine z_if_lt (tgt := 51) hx hb (by omega) (by omega) dMd_tryPlan_5 (by decide) (fun c_5 => ?_) (fun c_5 => ?_)
      ·
        exact cq_vret hx hb hr hlocks hAe hQ tr (by (try dsimp only) <;> (exact tp_end htp (by omega))) (hP.sub [0, 1, 2, 3, 4] rfl) (hD.sub [0, 1, 2, 3, 4] (by decide) rfl) hS (by decide) (by decide) dMd_tryPlan_51
      ·
        refine lv_aload_n hx hb dMd_tryPlan_8 rfl (lv_at hl 0 rfl) ?_
        refine va_get (D := D) (ci := 9) (v := .ref t_trial_a) (C := RMd) (T := TMd) (N := 21) hx hb hts layMd hown hK.1 hP 0 rfl rfl 20 (by decide) (hts _ (hm g454)) (fun _ h9 => h9) rfl dMd_tryPlan_9 ?_
        refine lv_iload_n hx hb dMd_tryPlan_12 rfl (lv_at hl 3 rfl) ?_
        refine lv_iload_n hx hb dMd_tryPlan_13 rfl (lv_at hl 3 rfl) ?_
        refine lv_aload_n hx hb dMd_tryPlan_14 rfl (lv_at hl 0 rfl) ?_
        refine va_get (D := D) (ci := 9) (v := .int (iZ t_strata)) (C := RMd) (T := TMd) (N := 21) hx hb hts layMd hown hK.1 hP 0 rfl rfl 1 (by decide) (hts _ (hm g435)) (fun _ h9 => h9) rfl dMd_tryPlan_15 ?_
        refine z_icmp_ge (tgt := 38) hx hb (by omega) (by omega) (by omega) (by omega) dMd_tryPlan_18 (by decide) (fun c_6 => ?_) (fun c_6 => ?_)
        ·
          refine lv_iconst (v := iZ 0) hx hb dMd_tryPlan_38 (by decide) ?_
          refine z_iast hx hb hK hP hD hS 4 0 rfl rfl (by omega) (by omega) (by decide) dMd_tryPlan_39 (fun H locs hP hD hS => ?_)
          have hP : va_P D clAll [(t_a, .inr (9, [.long (lZ t_seed), .int (iZ t_strata), .ref t_sizes_a, .ref t_costs_a, .ref t_gone_a, .ref t_drawn_a, .ref t_drawnCounts_a, .int (iZ t_bags), .ref t_owners_a, .ref t_years_a, .ref t_missing_a, .ref t_grams_a, .int (iZ t_hasPlan), .ref t_planned_a, .int (iZ t_again), .ref t_againBag_a, .ref t_againKind_a, .ref t_againGrams_a, .long (lZ t_over), .long (lZ t_under), .ref t_trial_a])), (t_gone_a, .inl (cZ, 4, .inl (aI t_gone_f))), (t_owners_a, .inl (cI, 12, .inl (aI t_owners_f))), (t_missing_a, .inl (cZ, 12, .inl (aI t_missing_f))), (t_trial_a, .inl (cI, 4, .inl (aI (pu tr i 0))))] H := hP
          have hD : va_D A [(t_a, .inr (9, [.long (lZ t_seed), .int (iZ t_strata), .ref t_sizes_a, .ref t_costs_a, .ref t_gone_a, .ref t_drawn_a, .ref t_drawnCounts_a, .int (iZ t_bags), .ref t_owners_a, .ref t_years_a, .ref t_missing_a, .ref t_grams_a, .int (iZ t_hasPlan), .ref t_planned_a, .int (iZ t_again), .ref t_againBag_a, .ref t_againKind_a, .ref t_againGrams_a, .long (lZ t_over), .long (lZ t_under), .ref t_trial_a])), (t_gone_a, .inl (cZ, 4, .inl (aI t_gone_f))), (t_owners_a, .inl (cI, 12, .inl (aI t_owners_f))), (t_missing_a, .inl (cZ, 12, .inl (aI t_missing_f))), (t_trial_a, .inl (cI, 4, .inl (aI (pu tr i 0))))] := hD
          refine lv_iload_n hx hb dMd_tryPlan_40 rfl (lv_at hl 2 rfl) ?_
          refine lv_bipush (v := iZ (6)) hx hb dMd_tryPlan_41 (by decide) ?_
          refine z_idiv hx hb (by omega) (by omega) (by omega) (by omega) dMd_tryPlan_43 ?_
          refine lv_istore_n (lv' := [(2, .int (iZ (rs / 6))), (0, .ref t_a), (1, .int (iZ num)), (3, .int (iZ i))]) hx hb dMd_tryPlan_44 rfl hl (by decide) rfl (fun ls hl => ?_)
          refine lv_iinc (v := iZ (i - 1)) (lv' := [(3, .int (iZ (i - 1))), (2, .int (iZ (rs / 6))), (0, .ref t_a), (1, .int (iZ num))]) hx hb dMd_tryPlan_45 hl (k := 3) rfl (by rw [show Int32.ofInt (-1) = iZ (-1) from rfl, iZ_add]; congr 1) (by decide) rfl (fun ls hl => ?_)
          refine lv_goto (tgt := 4) hx hb dMd_tryPlan_48 (by decide) ?_
          exact ih_2  (rs / 6) (i - 1) (pu tr i 0) (by omega) (by omega) (by exact rs_s hrs (by omega)) (by first | exact tp_y htp hrs (ct_y pc0 (by assumption)) | exact tp_n htp (ct_n pc0 (by assumption)) | exact tp_n htp (zr_n hzero (by omega) (by omega) (by assumption))) (by omega) _ _ (hP.sub [0, 1, 2, 3, 4] rfl) (hD.sub [0, 1, 2, 3, 4] (by decide) rfl) hS ls (lv_sub hl [2, 3, 1, 0] rfl)
        ·
          refine lv_aload_n hx hb dMd_tryPlan_21 rfl (lv_at hl 0 rfl) ?_
          refine lv_iload_n hx hb dMd_tryPlan_22 rfl (lv_at hl 3 rfl) ?_
          refine cq_calli (wr := [(t_trial_a, .inl (cI, 4, .inl (aI tr)))]) (va_runV (C := RMd) (As := [.int (iZ i)]) (rest := [.int (iZ i), .ref t_trial_a]) ⟨hx, hb, hml, hown, hts⟩ (m_counts l D cI cJ cZ t_a t_sizes_a t_costs_a t_gone_a t_drawn_a t_drawnCounts_a t_owners_a t_years_a t_missing_a t_grams_a t_planned_a t_againBag_a t_againKind_a t_againGrams_a t_trial_a H.size t_seed t_strata t_bags t_hasPlan t_again t_over t_under t_gone_f t_owners_f t_missing_f i (by omega) (by omega) (by first | assumption | omega) (by first | assumption | omega) (by first | assumption | omega) (by first | assumption | omega) (by first | assumption | omega) (by first | assumption | omega) (by first | assumption | omega) (by first | assumption | omega) (by first | assumption | omega)) ⟨(callB_of 1 hts (gAll cmMd_counts) rfl rfl rfl (hts _ (hm g67)) (hts _ (hm g529)) (by decide +kernel) ⟨Nat.le_of_ble_eq_true rfl, Nat.le_of_ble_eq_true rfl⟩), (hts _ (hm g530)), (hts _ (hm g43))⟩ (cq_preV (va_recv hK.1 hP (ci := 9) (q0 := 0) rfl rfl) (cq_preS hK hP hD [0, 1, 2, 3] (by decide) rfl)) rfl rfl hl.1 rfl (lv_room (Nat.le_of_ble_eq_true rfl)) dMd_tryPlan_23 ⟨by decide, by decide⟩) hP hD hS hA [0, 1, 2, 3] [4] rfl rfl (by decide) (by decide) (fun r u H locs hw_7 hP hD hS => ?_)
          obtain ⟨o_8, rfl⟩ : ∃ z, z = u := ⟨_, rfl⟩
          try dsimp only at hw_7
          obtain ⟨rfl, pc0⟩ := hw_7
          have hP : va_P D clAll [(t_trial_a, .inl (cI, 4, .inl (aI tr))), (t_a, .inr (9, [.long (lZ t_seed), .int (iZ t_strata), .ref t_sizes_a, .ref t_costs_a, .ref t_gone_a, .ref t_drawn_a, .ref t_drawnCounts_a, .int (iZ t_bags), .ref t_owners_a, .ref t_years_a, .ref t_missing_a, .ref t_grams_a, .int (iZ t_hasPlan), .ref t_planned_a, .int (iZ t_again), .ref t_againBag_a, .ref t_againKind_a, .ref t_againGrams_a, .long (lZ t_over), .long (lZ t_under), .ref t_trial_a])), (t_gone_a, .inl (cZ, 4, .inl (aI t_gone_f))), (t_owners_a, .inl (cI, 12, .inl (aI t_owners_f))), (t_missing_a, .inl (cZ, 12, .inl (aI t_missing_f)))] H := hP
          have hD : va_D A [(t_trial_a, .inl (cI, 4, .inl (aI tr))), (t_a, .inr (9, [.long (lZ t_seed), .int (iZ t_strata), .ref t_sizes_a, .ref t_costs_a, .ref t_gone_a, .ref t_drawn_a, .ref t_drawnCounts_a, .int (iZ t_bags), .ref t_owners_a, .ref t_years_a, .ref t_missing_a, .ref t_grams_a, .int (iZ t_hasPlan), .ref t_planned_a, .int (iZ t_again), .ref t_againBag_a, .ref t_againKind_a, .ref t_againGrams_a, .long (lZ t_over), .long (lZ t_under), .ref t_trial_a])), (t_gone_a, .inl (cZ, 4, .inl (aI t_gone_f))), (t_owners_a, .inl (cI, 12, .inl (aI t_owners_f))), (t_missing_a, .inl (cZ, 12, .inl (aI t_missing_f)))] := hD
          refine z_if_eq (tgt := 38) hx hb (by omega) (by omega) dMd_tryPlan_26 (by decide) (fun c_9 => ?_) (fun c_9 => ?_)
          ·
            refine lv_iconst (v := iZ 0) hx hb dMd_tryPlan_38 (by decide) ?_
            refine z_iast hx hb hK hP hD hS 0 0 rfl rfl (by omega) (by omega) (by decide) dMd_tryPlan_39 (fun H locs hP hD hS => ?_)
            have hP : va_P D clAll [(t_trial_a, .inl (cI, 4, .inl (aI (pu tr i 0)))), (t_a, .inr (9, [.long (lZ t_seed), .int (iZ t_strata), .ref t_sizes_a, .ref t_costs_a, .ref t_gone_a, .ref t_drawn_a, .ref t_drawnCounts_a, .int (iZ t_bags), .ref t_owners_a, .ref t_years_a, .ref t_missing_a, .ref t_grams_a, .int (iZ t_hasPlan), .ref t_planned_a, .int (iZ t_again), .ref t_againBag_a, .ref t_againKind_a, .ref t_againGrams_a, .long (lZ t_over), .long (lZ t_under), .ref t_trial_a])), (t_gone_a, .inl (cZ, 4, .inl (aI t_gone_f))), (t_owners_a, .inl (cI, 12, .inl (aI t_owners_f))), (t_missing_a, .inl (cZ, 12, .inl (aI t_missing_f)))] H := hP
            have hD : va_D A [(t_trial_a, .inl (cI, 4, .inl (aI (pu tr i 0)))), (t_a, .inr (9, [.long (lZ t_seed), .int (iZ t_strata), .ref t_sizes_a, .ref t_costs_a, .ref t_gone_a, .ref t_drawn_a, .ref t_drawnCounts_a, .int (iZ t_bags), .ref t_owners_a, .ref t_years_a, .ref t_missing_a, .ref t_grams_a, .int (iZ t_hasPlan), .ref t_planned_a, .int (iZ t_again), .ref t_againBag_a, .ref t_againKind_a, .ref t_againGrams_a, .long (lZ t_over), .long (lZ t_under), .ref t_trial_a])), (t_gone_a, .inl (cZ, 4, .inl (aI t_gone_f))), (t_owners_a, .inl (cI, 12, .inl (aI t_owners_f))), (t_missing_a, .inl (cZ, 12, .inl (aI t_missing_f)))] := hD
            refine lv_iload_n hx hb dMd_tryPlan_40 rfl (lv_at hl 2 rfl) ?_
            refine lv_bipush (v := iZ (6)) hx hb dMd_tryPlan_41 (by decide) ?_
            refine z_idiv hx hb (by omega) (by omega) (by omega) (by omega) dMd_tryPlan_43 ?_
            refine lv_istore_n (lv' := [(2, .int (iZ (rs / 6))), (0, .ref t_a), (1, .int (iZ num)), (3, .int (iZ i))]) hx hb dMd_tryPlan_44 rfl hl (by decide) rfl (fun ls hl => ?_)
            refine lv_iinc (v := iZ (i - 1)) (lv' := [(3, .int (iZ (i - 1))), (2, .int (iZ (rs / 6))), (0, .ref t_a), (1, .int (iZ num))]) hx hb dMd_tryPlan_45 hl (k := 3) rfl (by rw [show Int32.ofInt (-1) = iZ (-1) from rfl, iZ_add]; congr 1) (by decide) rfl (fun ls hl => ?_)
            refine lv_goto (tgt := 4) hx hb dMd_tryPlan_48 (by decide) ?_
            exact ih_2  (rs / 6) (i - 1) (pu tr i 0) (by omega) (by omega) (by exact rs_s hrs (by omega)) (by first | exact tp_y htp hrs (ct_y pc0 (by assumption)) | exact tp_n htp (ct_n pc0 (by assumption)) | exact tp_n htp (zr_n hzero (by omega) (by omega) (by assumption))) (by omega) _ _ (hP.sub [1, 2, 3, 4, 0] rfl) (hD.sub [1, 2, 3, 4, 0] (by decide) rfl) hS ls (lv_sub hl [2, 3, 1, 0] rfl)
          ·
            refine lv_iconst (v := iZ 1) hx hb dMd_tryPlan_29 (by decide) ?_
            refine lv_iload_n hx hb dMd_tryPlan_30 rfl (lv_at hl 2 rfl) ?_
            refine lv_bipush (v := iZ (6)) hx hb dMd_tryPlan_31 (by decide) ?_
            refine z_irem hx hb (by omega) (by omega) (by omega) (by omega) dMd_tryPlan_33 ?_
            refine z_iadd hx hb dMd_tryPlan_34 ?_
            refine lv_goto (tgt := 39) hx hb dMd_tryPlan_35 (by decide) ?_
            refine z_iast hx hb hK hP hD hS 0 0 rfl rfl (by omega) (by omega) (by decide) dMd_tryPlan_39 (fun H locs hP hD hS => ?_)
            have hP : va_P D clAll [(t_trial_a, .inl (cI, 4, .inl (aI (pu tr i (1 + (rs % 6)))))), (t_a, .inr (9, [.long (lZ t_seed), .int (iZ t_strata), .ref t_sizes_a, .ref t_costs_a, .ref t_gone_a, .ref t_drawn_a, .ref t_drawnCounts_a, .int (iZ t_bags), .ref t_owners_a, .ref t_years_a, .ref t_missing_a, .ref t_grams_a, .int (iZ t_hasPlan), .ref t_planned_a, .int (iZ t_again), .ref t_againBag_a, .ref t_againKind_a, .ref t_againGrams_a, .long (lZ t_over), .long (lZ t_under), .ref t_trial_a])), (t_gone_a, .inl (cZ, 4, .inl (aI t_gone_f))), (t_owners_a, .inl (cI, 12, .inl (aI t_owners_f))), (t_missing_a, .inl (cZ, 12, .inl (aI t_missing_f)))] H := hP
            have hD : va_D A [(t_trial_a, .inl (cI, 4, .inl (aI (pu tr i (1 + (rs % 6)))))), (t_a, .inr (9, [.long (lZ t_seed), .int (iZ t_strata), .ref t_sizes_a, .ref t_costs_a, .ref t_gone_a, .ref t_drawn_a, .ref t_drawnCounts_a, .int (iZ t_bags), .ref t_owners_a, .ref t_years_a, .ref t_missing_a, .ref t_grams_a, .int (iZ t_hasPlan), .ref t_planned_a, .int (iZ t_again), .ref t_againBag_a, .ref t_againKind_a, .ref t_againGrams_a, .long (lZ t_over), .long (lZ t_under), .ref t_trial_a])), (t_gone_a, .inl (cZ, 4, .inl (aI t_gone_f))), (t_owners_a, .inl (cI, 12, .inl (aI t_owners_f))), (t_missing_a, .inl (cZ, 12, .inl (aI t_missing_f)))] := hD
            refine lv_iload_n hx hb dMd_tryPlan_40 rfl (lv_at hl 2 rfl) ?_
            refine lv_bipush (v := iZ (6)) hx hb dMd_tryPlan_41 (by decide) ?_
            refine z_idiv hx hb (by omega) (by omega) (by omega) (by omega) dMd_tryPlan_43 ?_
            refine lv_istore_n (lv' := [(2, .int (iZ (rs / 6))), (0, .ref t_a), (1, .int (iZ num)), (3, .int (iZ i))]) hx hb dMd_tryPlan_44 rfl hl (by decide) rfl (fun ls hl => ?_)
            refine lv_iinc (v := iZ (i - 1)) (lv' := [(3, .int (iZ (i - 1))), (2, .int (iZ (rs / 6))), (0, .ref t_a), (1, .int (iZ num))]) hx hb dMd_tryPlan_45 hl (k := 3) rfl (by rw [show Int32.ofInt (-1) = iZ (-1) from rfl, iZ_add]; congr 1) (by decide) rfl (fun ls hl => ?_)
            refine lv_goto (tgt := 4) hx hb dMd_tryPlan_48 (by decide) ?_
            exact ih_2  (rs / 6) (i - 1) (pu tr i (1 + (rs % 6))) (by omega) (by omega) (by exact rs_s hrs (by omega)) (by first | exact tp_y htp hrs (ct_y pc0 (by assumption)) | exact tp_n htp (ct_n pc0 (by assumption)) | exact tp_n htp (zr_n hzero (by omega) (by omega) (by assumption))) (by omega) _ _ (hP.sub [1, 2, 3, 4, 0] rfl) (hD.sub [1, 2, 3, 4, 0] (by decide) rfl) hS ls (lv_sub hl [2, 3, 1, 0] rfl)
  exact loop_1 ((3 + 1 : Int).toNat + 1) num 3 t_trial_f (by omega) (by omega) (by show num = num / 1; omega) (by exact fun j h1 h2 => absurd h2 (by omega)) (by omega) _ _ (hP.sub [0, 1, 2, 3, 4] rfl) (hD.sub [0, 1, 2, 3, 4] (by decide) rfl) hS ls (lv_sub hl [2, 3, 1, 0] rfl)
set_option maxHeartbeats 4000000 in
set_option maxRecDepth 100000 in
theorem m_isOwn (l : Launch) (D : va_G) (cI cJ cZ : ClassId) (t_a t_sizes_a t_costs_a t_gone_a t_drawn_a t_drawnCounts_a t_owners_a t_years_a t_missing_a t_grams_a t_planned_a t_againBag_a t_againKind_a t_againGrams_a t_trial_a : Nat) (sz : Nat) (t_seed : Int) (t_strata : Int) (t_bags : Int) (t_hasPlan : Int) (t_again : Int) (t_over : Int) (t_under : Int) (t_gone_f : Int → Int) (t_owners_f : Int → Int) (t_missing_f : Int → Int) (num : Int) (h_num1 : -2147483648 ≤ num) (h_num2 : num < 2147483648) (hn1 : 0 ≤ t_strata) (hn2 : t_strata ≤ 4) (hb1 : 0 ≤ t_bags) (hb2 : t_bags ≤ 12) (hgo : ∀ j, 0 ≤ t_gone_f j ∧ t_gone_f j ≤ 1) (hho : ∀ j, 0 ≤ t_owners_f j ∧ t_owners_f j ≤ 3) (hlo : ∀ j, 0 ≤ t_missing_f j ∧ t_missing_f j ≤ 1) (hzero : ∀ j, 0 ≤ j → j < 4 → (t_strata ≤ j ∨ ¬ t_gone_f j = 0) → NBf t_owners_f t_missing_f t_bags j = 0) (hnum : 0 ≤ num ∧ num < 1296) : cq_i l yMd_isOwn wsMd_isOwn ({ frames := 2, cells := 0, slots := 0, locals := 44 }) D clAll [(cI, .int), (cJ, .long), (cZ, .boolean)] nwAll [.ref t_a, .int (iZ num)] [(t_a, .inr (9, [.long (lZ t_seed), .int (iZ t_strata), .ref t_sizes_a, .ref t_costs_a, .ref t_gone_a, .ref t_drawn_a, .ref t_drawnCounts_a, .int (iZ t_bags), .ref t_owners_a, .ref t_years_a, .ref t_missing_a, .ref t_grams_a, .int (iZ t_hasPlan), .ref t_planned_a, .int (iZ t_again), .ref t_againBag_a, .ref t_againKind_a, .ref t_againGrams_a, .long (lZ t_over), .long (lZ t_under), .ref t_trial_a])), (t_gone_a, .inl (cZ, 4, .inl (aI t_gone_f))), (t_owners_a, .inl (cI, 12, .inl (aI t_owners_f))), (t_missing_a, .inl (cZ, 12, .inl (aI t_missing_f)))] sz (S := Int) (fun (r : Int32) (u : Int) => r = iZ u ∧ ((u = 1 ∧ own (NBf t_owners_f t_missing_f t_bags) num) ∨ (u = 0 ∧ ¬ own (NBf t_owners_f t_missing_f t_bags) num))) (fun (u : Int) => [(t_a, .inr (9, [.long (lZ t_seed), .int (iZ t_strata), .ref t_sizes_a, .ref t_costs_a, .ref t_gone_a, .ref t_drawn_a, .ref t_drawnCounts_a, .int (iZ t_bags), .ref t_owners_a, .ref t_years_a, .ref t_missing_a, .ref t_grams_a, .int (iZ t_hasPlan), .ref t_planned_a, .int (iZ t_again), .ref t_againBag_a, .ref t_againKind_a, .ref t_againGrams_a, .long (lZ t_over), .long (lZ t_under), .ref t_trial_a])), (t_gone_a, .inl (cZ, 4, .inl (aI t_gone_f))), (t_owners_a, .inl (cI, 12, .inl (aI t_owners_f))), (t_missing_a, .inl (cZ, 12, .inl (aI t_missing_f)))]) 0 0 := by
  refine cq_enter (cc := cMd_isOwn) (maxL := 5) (ret := some .boolean) (by decide) rfl (Nat.le_of_ble_eq_true rfl) ?_
  intro p e s m below meth c A args Q H hAe hQ hsz hAt hA hP hK hD hS ls hl
  obtain ⟨hx, hb, hr, hml, hown, hts, hlocks, hin⟩ := hAt
  have hown : s.vm.findClass RMd = some m.cls := hown
  have hl : lv_has ls 5 [(0, .ref t_a), (1, .int (iZ num))] := hl
  refine lv_iload_n hx hb dMd_isOwn_0 rfl (lv_at hl 1 rfl) ?_
  refine lv_istore_n (lv' := [(2, .int (iZ num)), (0, .ref t_a), (1, .int (iZ num))]) hx hb dMd_isOwn_1 rfl hl (by decide) rfl (fun ls hl => ?_)
  refine lv_iconst (v := iZ 1) hx hb dMd_isOwn_2 (by decide) ?_
  refine lv_istore_n (lv' := [(3, .int (iZ 1)), (2, .int (iZ num)), (0, .ref t_a), (1, .int (iZ num))]) hx hb dMd_isOwn_3 rfl hl (by decide) rfl (fun ls hl => ?_)
  refine lv_iconst (v := iZ 3) hx hb dMd_isOwn_4 (by decide) ?_
  refine lv_istore (lv' := [(4, .int (iZ 3)), (3, .int (iZ 1)), (2, .int (iZ num)), (0, .ref t_a), (1, .int (iZ num))]) hx hb dMd_isOwn_5 hl (by decide) rfl (fun ls hl => ?_)
  have loop_1 : ∀ (n_3 : Nat) (rs : Int) (ow : Int) (i : Int), (-1 ≤ i) → (i ≤ 3) → (rs = num / d6 (3 - i)) → (owI (NBf t_owners_f t_missing_f t_bags) num i ow) → (i + 1 < (n_3 : Int)) → ∀ (H : Heap) (locs : List Loc), va_P D clAll [(t_a, .inr (9, [.long (lZ t_seed), .int (iZ t_strata), .ref t_sizes_a, .ref t_costs_a, .ref t_gone_a, .ref t_drawn_a, .ref t_drawnCounts_a, .int (iZ t_bags), .ref t_owners_a, .ref t_years_a, .ref t_missing_a, .ref t_grams_a, .int (iZ t_hasPlan), .ref t_planned_a, .int (iZ t_again), .ref t_againBag_a, .ref t_againKind_a, .ref t_againGrams_a, .long (lZ t_over), .long (lZ t_under), .ref t_trial_a])), (t_gone_a, .inl (cZ, 4, .inl (aI t_gone_f))), (t_owners_a, .inl (cI, 12, .inl (aI t_owners_f))), (t_missing_a, .inl (cZ, 12, .inl (aI t_missing_f)))] H → va_D A [(t_a, .inr (9, [.long (lZ t_seed), .int (iZ t_strata), .ref t_sizes_a, .ref t_costs_a, .ref t_gone_a, .ref t_drawn_a, .ref t_drawnCounts_a, .int (iZ t_bags), .ref t_owners_a, .ref t_years_a, .ref t_missing_a, .ref t_grams_a, .int (iZ t_hasPlan), .ref t_planned_a, .int (iZ t_again), .ref t_againBag_a, .ref t_againKind_a, .ref t_againGrams_a, .long (lZ t_over), .long (lZ t_under), .ref t_trial_a])), (t_gone_a, .inl (cZ, 4, .inl (aI t_gone_f))), (t_owners_a, .inl (cI, 12, .inl (aI t_owners_f))), (t_missing_a, .inl (cZ, 12, .inl (aI t_missing_f)))] → va_S A s.heap H locs → ∀ ls : Array Slot, lv_has ls 5 [(0, .ref t_a), (1, .int (iZ num)), (2, .int (iZ rs)), (3, .int (iZ ow)), (4, .int (iZ i))] → W p l e { frames := 2, cells := 0, slots := 0, locals := 44 } s m args below meth c H locs 0 0 Q (F0 m 7 ls []) := by
    intro n_3
    induction n_3 with
    | zero => intro rs ow i hi hi2 hrs how hm_4; exact absurd hm_4 (by omega)
    | succ n_3 ih_2 =>
      intro rs ow i hi hi2 hrs how hm_4 H locs hP hD hS ls hl
      refine lv_iload hx hb dMd_isOwn_7 (lv_at hl 4 rfl) ?_
      have hrb := rs_b hrs hnum
      have hor := ow_rng how
      refine z_if_lt (tgt := 58) hx hb (by omega) (by omega) dMd_isOwn_9 (by decide) (fun c_5 => ?_) (fun c_5 => ?_)
      ·
        refine lv_iload_n hx hb dMd_isOwn_58 rfl (lv_at hl 3 rfl) ?_
        exact cq_zret hx hb hr hlocks hAe hQ (bo_narr (by have hor := ow_rng how; omega) (by have hor := ow_rng how; omega)) ow ⟨rfl, (by (try dsimp only) <;> (exact ow_end how (by omega)))⟩ (hP.sub [0, 1, 2, 3] rfl) (hD.sub [0, 1, 2, 3] (by decide) rfl) hS (by decide) (by decide) dMd_isOwn_59
      ·
        refine lv_iload_n hx hb dMd_isOwn_12 rfl (lv_at hl 3 rfl) ?_
        refine z_if_eq (tgt := 45) hx hb (by omega) (by omega) dMd_isOwn_13 (by decide) (fun c_6 => ?_) (fun c_6 => ?_)
        ·
          refine lv_iconst (v := iZ 0) hx hb dMd_isOwn_45 (by decide) ?_
          refine lv_istore_n (lv' := [(3, .int (iZ 0)), (0, .ref t_a), (1, .int (iZ num)), (2, .int (iZ rs)), (4, .int (iZ i))]) hx hb dMd_isOwn_46 rfl hl (by decide) rfl (fun ls hl => ?_)
          refine lv_iload_n hx hb dMd_isOwn_47 rfl (lv_at hl 3 rfl) ?_
          refine lv_bipush (v := iZ (6)) hx hb dMd_isOwn_48 (by decide) ?_
          refine z_idiv hx hb (by omega) (by omega) (by omega) (by omega) dMd_isOwn_50 ?_
          refine lv_istore_n (lv' := [(2, .int (iZ (rs / 6))), (3, .int (iZ 0)), (0, .ref t_a), (1, .int (iZ num)), (4, .int (iZ i))]) hx hb dMd_isOwn_51 rfl hl (by decide) rfl (fun ls hl => ?_)
          refine lv_iinc (v := iZ (i - 1)) (lv' := [(4, .int (iZ (i - 1))), (2, .int (iZ (rs / 6))), (3, .int (iZ 0)), (0, .ref t_a), (1, .int (iZ num))]) hx hb dMd_isOwn_52 hl (k := 4) rfl (by rw [show Int32.ofInt (-1) = iZ (-1) from rfl, iZ_add]; congr 1) (by decide) rfl (fun ls hl => ?_)
          refine lv_goto (tgt := 7) hx hb dMd_isOwn_55 (by decide) ?_
          exact ih_2  (rs / 6) 0 (i - 1) (by omega) (by omega) (by exact rs_s hrs (by omega)) (by first | exact ow_z how (by assumption) | exact ow_y how (by assumption) (Or.inl (ct_y pc0 (by assumption))) | exact ow_y how (by assumption) (Or.inr ((dg_x hrs).symm.trans (by assumption))) | exact ow_n (ow := ow) (by omega) (ct_n pc0 (by assumption)) (fun z => absurd ((dg_x hrs).trans z) (by assumption)) | exact ow_n (ow := ow) (by omega) (zr_n hzero (by omega) (by omega) (by assumption)) (fun z => absurd ((dg_x hrs).trans z) (by assumption))) (by omega) _ _ (hP.sub [0, 1, 2, 3] rfl) (hD.sub [0, 1, 2, 3] (by decide) rfl) hS ls (lv_sub hl [3, 4, 1, 2, 0] rfl)
        ·
          refine lv_iload hx hb dMd_isOwn_16 (lv_at hl 4 rfl) ?_
          refine lv_aload_n hx hb dMd_isOwn_18 rfl (lv_at hl 0 rfl) ?_
          refine va_get (D := D) (ci := 9) (v := .int (iZ t_strata)) (C := RMd) (T := TMd) (N := 21) hx hb hts layMd hown hK.1 hP 0 rfl rfl 1 (by decide) (hts _ (hm g435)) (fun _ h9 => h9) rfl dMd_isOwn_19 ?_
          refine z_icmp_ge (tgt := 34) hx hb (by omega) (by omega) (by omega) (by omega) dMd_isOwn_22 (by decide) (fun c_7 => ?_) (fun c_7 => ?_)
          ·
            refine lv_iload_n hx hb dMd_isOwn_34 rfl (lv_at hl 2 rfl) ?_
            refine lv_bipush (v := iZ (6)) hx hb dMd_isOwn_35 (by decide) ?_
            refine z_irem hx hb (by omega) (by omega) (by omega) (by omega) dMd_isOwn_37 ?_
            refine z_if_ne (tgt := 45) hx hb (by omega) (by omega) dMd_isOwn_38 (by decide) (fun c_8 => ?_) (fun c_8 => ?_)
            ·
              refine lv_iconst (v := iZ 0) hx hb dMd_isOwn_45 (by decide) ?_
              refine lv_istore_n (lv' := [(3, .int (iZ 0)), (0, .ref t_a), (1, .int (iZ num)), (2, .int (iZ rs)), (4, .int (iZ i))]) hx hb dMd_isOwn_46 rfl hl (by decide) rfl (fun ls hl => ?_)
              refine lv_iload_n hx hb dMd_isOwn_47 rfl (lv_at hl 3 rfl) ?_
              refine lv_bipush (v := iZ (6)) hx hb dMd_isOwn_48 (by decide) ?_
              refine z_idiv hx hb (by omega) (by omega) (by omega) (by omega) dMd_isOwn_50 ?_
              refine lv_istore_n (lv' := [(2, .int (iZ (rs / 6))), (3, .int (iZ 0)), (0, .ref t_a), (1, .int (iZ num)), (4, .int (iZ i))]) hx hb dMd_isOwn_51 rfl hl (by decide) rfl (fun ls hl => ?_)
              refine lv_iinc (v := iZ (i - 1)) (lv' := [(4, .int (iZ (i - 1))), (2, .int (iZ (rs / 6))), (3, .int (iZ 0)), (0, .ref t_a), (1, .int (iZ num))]) hx hb dMd_isOwn_52 hl (k := 4) rfl (by rw [show Int32.ofInt (-1) = iZ (-1) from rfl, iZ_add]; congr 1) (by decide) rfl (fun ls hl => ?_)
              refine lv_goto (tgt := 7) hx hb dMd_isOwn_55 (by decide) ?_
              exact ih_2  (rs / 6) 0 (i - 1) (by omega) (by omega) (by exact rs_s hrs (by omega)) (by first | exact ow_z how (by assumption) | exact ow_y how (by assumption) (Or.inl (ct_y pc0 (by assumption))) | exact ow_y how (by assumption) (Or.inr ((dg_x hrs).symm.trans (by assumption))) | exact ow_n (ow := ow) (by omega) (ct_n pc0 (by assumption)) (fun z => absurd ((dg_x hrs).trans z) (by assumption)) | exact ow_n (ow := ow) (by omega) (zr_n hzero (by omega) (by omega) (by assumption)) (fun z => absurd ((dg_x hrs).trans z) (by assumption))) (by omega) _ _ (hP.sub [0, 1, 2, 3] rfl) (hD.sub [0, 1, 2, 3] (by decide) rfl) hS ls (lv_sub hl [3, 4, 1, 2, 0] rfl)
            ·
              refine lv_iconst (v := iZ 1) hx hb dMd_isOwn_41 (by decide) ?_
              refine lv_goto (tgt := 46) hx hb dMd_isOwn_42 (by decide) ?_
              refine lv_istore_n (lv' := [(3, .int (iZ 1)), (0, .ref t_a), (1, .int (iZ num)), (2, .int (iZ rs)), (4, .int (iZ i))]) hx hb dMd_isOwn_46 rfl hl (by decide) rfl (fun ls hl => ?_)
              refine lv_iload_n hx hb dMd_isOwn_47 rfl (lv_at hl 3 rfl) ?_
              refine lv_bipush (v := iZ (6)) hx hb dMd_isOwn_48 (by decide) ?_
              refine z_idiv hx hb (by omega) (by omega) (by omega) (by omega) dMd_isOwn_50 ?_
              refine lv_istore_n (lv' := [(2, .int (iZ (rs / 6))), (3, .int (iZ 1)), (0, .ref t_a), (1, .int (iZ num)), (4, .int (iZ i))]) hx hb dMd_isOwn_51 rfl hl (by decide) rfl (fun ls hl => ?_)
              refine lv_iinc (v := iZ (i - 1)) (lv' := [(4, .int (iZ (i - 1))), (2, .int (iZ (rs / 6))), (3, .int (iZ 1)), (0, .ref t_a), (1, .int (iZ num))]) hx hb dMd_isOwn_52 hl (k := 4) rfl (by rw [show Int32.ofInt (-1) = iZ (-1) from rfl, iZ_add]; congr 1) (by decide) rfl (fun ls hl => ?_)
              refine lv_goto (tgt := 7) hx hb dMd_isOwn_55 (by decide) ?_
              exact ih_2  (rs / 6) 1 (i - 1) (by omega) (by omega) (by exact rs_s hrs (by omega)) (by first | exact ow_z how (by assumption) | exact ow_y how (by assumption) (Or.inl (ct_y pc0 (by assumption))) | exact ow_y how (by assumption) (Or.inr ((dg_x hrs).symm.trans (by assumption))) | exact ow_n (ow := ow) (by omega) (ct_n pc0 (by assumption)) (fun z => absurd ((dg_x hrs).trans z) (by assumption)) | exact ow_n (ow := ow) (by omega) (zr_n hzero (by omega) (by omega) (by assumption)) (fun z => absurd ((dg_x hrs).trans z) (by assumption))) (by omega) _ _ (hP.sub [0, 1, 2, 3] rfl) (hD.sub [0, 1, 2, 3] (by decide) rfl) hS ls (lv_sub hl [3, 4, 1, 2, 0] rfl)
          ·
            refine lv_aload_n hx hb dMd_isOwn_25 rfl (lv_at hl 0 rfl) ?_
            refine lv_iload hx hb dMd_isOwn_26 (lv_at hl 4 rfl) ?_
            refine cq_calli (wr := []) (va_runV (C := RMd) (As := [.int (iZ i)]) (rest := []) ⟨hx, hb, hml, hown, hts⟩ (m_counts l D cI cJ cZ t_a t_sizes_a t_costs_a t_gone_a t_drawn_a t_drawnCounts_a t_owners_a t_years_a t_missing_a t_grams_a t_planned_a t_againBag_a t_againKind_a t_againGrams_a t_trial_a H.size t_seed t_strata t_bags t_hasPlan t_again t_over t_under t_gone_f t_owners_f t_missing_f i (by omega) (by omega) (by first | assumption | omega) (by first | assumption | omega) (by first | assumption | omega) (by first | assumption | omega) (by first | assumption | omega) (by first | assumption | omega) (by first | assumption | omega) (by first | assumption | omega) (by first | assumption | omega)) ⟨(callB_of 1 hts (gAll cmMd_counts) rfl rfl rfl (hts _ (hm g67)) (hts _ (hm g529)) (by decide +kernel) ⟨Nat.le_of_ble_eq_true rfl, Nat.le_of_ble_eq_true rfl⟩), (hts _ (hm g530)), (hts _ (hm g43))⟩ (cq_preV (va_recv hK.1 hP (ci := 9) (q0 := 0) rfl rfl) (cq_preS hK hP hD [0, 1, 2, 3] (by decide) rfl)) rfl rfl hl.1 rfl (lv_room (Nat.le_of_ble_eq_true rfl)) dMd_isOwn_28 ⟨by decide, by decide⟩) hP hD hS hA [0, 1, 2, 3] [] rfl rfl (by decide) (by decide) (fun r u H locs hw_9 hP hD hS => ?_)
            obtain ⟨o_10, rfl⟩ : ∃ z, z = u := ⟨_, rfl⟩
            try dsimp only at hw_9
            obtain ⟨rfl, pc0⟩ := hw_9
            have hP : va_P D clAll [(t_a, .inr (9, [.long (lZ t_seed), .int (iZ t_strata), .ref t_sizes_a, .ref t_costs_a, .ref t_gone_a, .ref t_drawn_a, .ref t_drawnCounts_a, .int (iZ t_bags), .ref t_owners_a, .ref t_years_a, .ref t_missing_a, .ref t_grams_a, .int (iZ t_hasPlan), .ref t_planned_a, .int (iZ t_again), .ref t_againBag_a, .ref t_againKind_a, .ref t_againGrams_a, .long (lZ t_over), .long (lZ t_under), .ref t_trial_a])), (t_gone_a, .inl (cZ, 4, .inl (aI t_gone_f))), (t_owners_a, .inl (cI, 12, .inl (aI t_owners_f))), (t_missing_a, .inl (cZ, 12, .inl (aI t_missing_f)))] H := hP
            have hD : va_D A [(t_a, .inr (9, [.long (lZ t_seed), .int (iZ t_strata), .ref t_sizes_a, .ref t_costs_a, .ref t_gone_a, .ref t_drawn_a, .ref t_drawnCounts_a, .int (iZ t_bags), .ref t_owners_a, .ref t_years_a, .ref t_missing_a, .ref t_grams_a, .int (iZ t_hasPlan), .ref t_planned_a, .int (iZ t_again), .ref t_againBag_a, .ref t_againKind_a, .ref t_againGrams_a, .long (lZ t_over), .long (lZ t_under), .ref t_trial_a])), (t_gone_a, .inl (cZ, 4, .inl (aI t_gone_f))), (t_owners_a, .inl (cI, 12, .inl (aI t_owners_f))), (t_missing_a, .inl (cZ, 12, .inl (aI t_missing_f)))] := hD
            refine z_if_ne (tgt := 41) hx hb (by omega) (by omega) dMd_isOwn_31 (by decide) (fun c_11 => ?_) (fun c_11 => ?_)
            ·
              refine lv_iconst (v := iZ 1) hx hb dMd_isOwn_41 (by decide) ?_
              refine lv_goto (tgt := 46) hx hb dMd_isOwn_42 (by decide) ?_
              refine lv_istore_n (lv' := [(3, .int (iZ 1)), (0, .ref t_a), (1, .int (iZ num)), (2, .int (iZ rs)), (4, .int (iZ i))]) hx hb dMd_isOwn_46 rfl hl (by decide) rfl (fun ls hl => ?_)
              refine lv_iload_n hx hb dMd_isOwn_47 rfl (lv_at hl 3 rfl) ?_
              refine lv_bipush (v := iZ (6)) hx hb dMd_isOwn_48 (by decide) ?_
              refine z_idiv hx hb (by omega) (by omega) (by omega) (by omega) dMd_isOwn_50 ?_
              refine lv_istore_n (lv' := [(2, .int (iZ (rs / 6))), (3, .int (iZ 1)), (0, .ref t_a), (1, .int (iZ num)), (4, .int (iZ i))]) hx hb dMd_isOwn_51 rfl hl (by decide) rfl (fun ls hl => ?_)
              refine lv_iinc (v := iZ (i - 1)) (lv' := [(4, .int (iZ (i - 1))), (2, .int (iZ (rs / 6))), (3, .int (iZ 1)), (0, .ref t_a), (1, .int (iZ num))]) hx hb dMd_isOwn_52 hl (k := 4) rfl (by rw [show Int32.ofInt (-1) = iZ (-1) from rfl, iZ_add]; congr 1) (by decide) rfl (fun ls hl => ?_)
              refine lv_goto (tgt := 7) hx hb dMd_isOwn_55 (by decide) ?_
              exact ih_2  (rs / 6) 1 (i - 1) (by omega) (by omega) (by exact rs_s hrs (by omega)) (by first | exact ow_z how (by assumption) | exact ow_y how (by assumption) (Or.inl (ct_y pc0 (by assumption))) | exact ow_y how (by assumption) (Or.inr ((dg_x hrs).symm.trans (by assumption))) | exact ow_n (ow := ow) (by omega) (ct_n pc0 (by assumption)) (fun z => absurd ((dg_x hrs).trans z) (by assumption)) | exact ow_n (ow := ow) (by omega) (zr_n hzero (by omega) (by omega) (by assumption)) (fun z => absurd ((dg_x hrs).trans z) (by assumption))) (by omega) _ _ (hP.sub [0, 1, 2, 3] rfl) (hD.sub [0, 1, 2, 3] (by decide) rfl) hS ls (lv_sub hl [3, 4, 1, 2, 0] rfl)
            ·
              refine lv_iload_n hx hb dMd_isOwn_34 rfl (lv_at hl 2 rfl) ?_
              refine lv_bipush (v := iZ (6)) hx hb dMd_isOwn_35 (by decide) ?_
              refine z_irem hx hb (by omega) (by omega) (by omega) (by omega) dMd_isOwn_37 ?_
              refine z_if_ne (tgt := 45) hx hb (by omega) (by omega) dMd_isOwn_38 (by decide) (fun c_12 => ?_) (fun c_12 => ?_)
              ·
                refine lv_iconst (v := iZ 0) hx hb dMd_isOwn_45 (by decide) ?_
                refine lv_istore_n (lv' := [(3, .int (iZ 0)), (0, .ref t_a), (1, .int (iZ num)), (2, .int (iZ rs)), (4, .int (iZ i))]) hx hb dMd_isOwn_46 rfl hl (by decide) rfl (fun ls hl => ?_)
                refine lv_iload_n hx hb dMd_isOwn_47 rfl (lv_at hl 3 rfl) ?_
                refine lv_bipush (v := iZ (6)) hx hb dMd_isOwn_48 (by decide) ?_
                refine z_idiv hx hb (by omega) (by omega) (by omega) (by omega) dMd_isOwn_50 ?_
                refine lv_istore_n (lv' := [(2, .int (iZ (rs / 6))), (3, .int (iZ 0)), (0, .ref t_a), (1, .int (iZ num)), (4, .int (iZ i))]) hx hb dMd_isOwn_51 rfl hl (by decide) rfl (fun ls hl => ?_)
                refine lv_iinc (v := iZ (i - 1)) (lv' := [(4, .int (iZ (i - 1))), (2, .int (iZ (rs / 6))), (3, .int (iZ 0)), (0, .ref t_a), (1, .int (iZ num))]) hx hb dMd_isOwn_52 hl (k := 4) rfl (by rw [show Int32.ofInt (-1) = iZ (-1) from rfl, iZ_add]; congr 1) (by decide) rfl (fun ls hl => ?_)
                refine lv_goto (tgt := 7) hx hb dMd_isOwn_55 (by decide) ?_
                exact ih_2  (rs / 6) 0 (i - 1) (by omega) (by omega) (by exact rs_s hrs (by omega)) (by first | exact ow_z how (by assumption) | exact ow_y how (by assumption) (Or.inl (ct_y pc0 (by assumption))) | exact ow_y how (by assumption) (Or.inr ((dg_x hrs).symm.trans (by assumption))) | exact ow_n (ow := ow) (by omega) (ct_n pc0 (by assumption)) (fun z => absurd ((dg_x hrs).trans z) (by assumption)) | exact ow_n (ow := ow) (by omega) (zr_n hzero (by omega) (by omega) (by assumption)) (fun z => absurd ((dg_x hrs).trans z) (by assumption))) (by omega) _ _ (hP.sub [0, 1, 2, 3] rfl) (hD.sub [0, 1, 2, 3] (by decide) rfl) hS ls (lv_sub hl [3, 4, 1, 2, 0] rfl)
              ·
                refine lv_iconst (v := iZ 1) hx hb dMd_isOwn_41 (by decide) ?_
                refine lv_goto (tgt := 46) hx hb dMd_isOwn_42 (by decide) ?_
                refine lv_istore_n (lv' := [(3, .int (iZ 1)), (0, .ref t_a), (1, .int (iZ num)), (2, .int (iZ rs)), (4, .int (iZ i))]) hx hb dMd_isOwn_46 rfl hl (by decide) rfl (fun ls hl => ?_)
                refine lv_iload_n hx hb dMd_isOwn_47 rfl (lv_at hl 3 rfl) ?_
                refine lv_bipush (v := iZ (6)) hx hb dMd_isOwn_48 (by decide) ?_
                refine z_idiv hx hb (by omega) (by omega) (by omega) (by omega) dMd_isOwn_50 ?_
                refine lv_istore_n (lv' := [(2, .int (iZ (rs / 6))), (3, .int (iZ 1)), (0, .ref t_a), (1, .int (iZ num)), (4, .int (iZ i))]) hx hb dMd_isOwn_51 rfl hl (by decide) rfl (fun ls hl => ?_)
                refine lv_iinc (v := iZ (i - 1)) (lv' := [(4, .int (iZ (i - 1))), (2, .int (iZ (rs / 6))), (3, .int (iZ 1)), (0, .ref t_a), (1, .int (iZ num))]) hx hb dMd_isOwn_52 hl (k := 4) rfl (by rw [show Int32.ofInt (-1) = iZ (-1) from rfl, iZ_add]; congr 1) (by decide) rfl (fun ls hl => ?_)
                refine lv_goto (tgt := 7) hx hb dMd_isOwn_55 (by decide) ?_
                exact ih_2  (rs / 6) 1 (i - 1) (by omega) (by omega) (by exact rs_s hrs (by omega)) (by first | exact ow_z how (by assumption) | exact ow_y how (by assumption) (Or.inl (ct_y pc0 (by assumption))) | exact ow_y how (by assumption) (Or.inr ((dg_x hrs).symm.trans (by assumption))) | exact ow_n (ow := ow) (by omega) (ct_n pc0 (by assumption)) (fun z => absurd ((dg_x hrs).trans z) (by assumption)) | exact ow_n (ow := ow) (by omega) (zr_n hzero (by omega) (by omega) (by assumption)) (fun z => absurd ((dg_x hrs).trans z) (by assumption))) (by omega) _ _ (hP.sub [0, 1, 2, 3] rfl) (hD.sub [0, 1, 2, 3] (by decide) rfl) hS ls (lv_sub hl [3, 4, 1, 2, 0] rfl)
  exact loop_1 ((3 + 1 : Int).toNat + 1) num 1 3 (by omega) (by omega) (by show num = num / 1; omega) (by exact ow_0) (by omega) _ _ (hP.sub [0, 1, 2, 3] rfl) (hD.sub [0, 1, 2, 3] (by decide) rfl) hS ls (lv_sub hl [3, 4, 2, 1, 0] rfl)
