/-! THE LAYER: worlds with nest words, entry, return and call rows in one piece each. -/
def cq_is (w : Cond) : Bool := match w with
  | .fieldLinkNest .. => true
  | .methodLinkNest .. => true
  | _ => false
def cq_N (nw : List Cond) (U : State) : Prop := ∀ w ∈ nw, va_Nw w U
theorem cq_N.warm {nw : List Cond} (hn : nw.all cq_is = true) {s U : State} (hW : s.WarmedH U.vm) (h : cq_N nw s) : cq_N nw U := by
  intro w hw
  have h1 := h w hw
  have h2 := List.all_eq_true.mp hn w hw
  cases w <;> first | exact va_Nw.warmF hW h1 | exact va_Nw.warmM hW h1 | (simp [cq_is] at h2)
theorem cq_N.same {nw : List Cond} (hn : nw.all cq_is = true) {s U : State} (hv : s.vm = U.vm) (h : cq_N nw s) : cq_N nw U := by
  intro w hw
  have h1 := h w hw
  have h2 := List.all_eq_true.mp hn w hw
  cases w <;> first | exact va_Nw.same rfl hv h1 | (simp [cq_is] at h2)
/-- tables and nest words -/
def cq_K (D : va_G) (cl : List vw_C) (tys : List (ClassId × FieldType)) (nw : List Cond) (U : State) : Prop := va_K D cl tys U ∧ nw.all cq_is = true ∧ cq_N nw U
theorem cq_K.warm {D : va_G} {cl : List vw_C} {tys : List (ClassId × FieldType)} {nw : List Cond} {s U : State} (hW : s.WarmedH U.vm) (h : cq_K D cl tys nw s) : cq_K D cl tys nw U := ⟨va_K.moved hW.alike h.1, h.2.1, h.2.2.warm h.2.1 hW⟩
theorem cq_K.same {D : va_G} {cl : List vw_C} {tys : List (ClassId × FieldType)} {nw : List Cond} {s U : State} (hv : s.vm = U.vm) (h : cq_K D cl tys nw s) : cq_K D cl tys nw U := ⟨va_K.moved (by rw [← hv]; exact Vm.Alike.refl s.vm) h.1, h.2.1, h.2.2.same h.2.1 hv⟩
def cq_Pre (D : va_G) (cl : List vw_C) (tys : List (ClassId × FieldType)) (nw : List Cond) (av : List Value) (ws : va_W) (sz : Nat) : Array Value → State → Prop :=
  va_Pc av (fun U => U.heap.size = sz ∧ va_P D cl ws U.heap ∧ cq_K D cl tys nw U ∧ va_D (fun _ => True) ws)
def cq_B (D : va_G) (cl : List vw_C) (ws : va_W) (sz : Nat) {S : Type} (wo : S → va_W) (u : S) (t : State) : Prop := va_P D cl (wo u) t.heap ∧ va_D (va_A ws sz) (wo u)
theorem cq_Pre.blind {D : va_G} {cl : List vw_C} {tys : List (ClassId × FieldType)} {nw : List Cond} {av : List Value} {ws : va_W} {sz : Nat} : FrameBlind (cq_Pre D cl tys nw av ws sz) := by
  intro a U g mk q
  obtain ⟨q0, q1, qP, qK, qD⟩ := q
  exact ⟨q0, q1, qP, cq_K.same (s := U) (U := U.calling g mk a) rfl qK, qD⟩
/-- contracts by what they answer -/
abbrev cq_i (l : Launch) (y : MethodName) (wy : List Cond) (rm : Room) (D : va_G) (cl : List vw_C) (tys : List (ClassId × FieldType)) (nw : List Cond) (av : List Value) (ws : va_W) (sz : Nat) {S : Type} (post : Int32 → S → Prop) (wo : S → va_W) (mc ms : Nat) : Prop :=
  Met l y wy rm (cq_Pre D cl tys nw av ws sz) (va_Qi post (cq_B D cl ws sz wo) (va_A ws sz)) mc ms (va_A ws sz)
abbrev cq_l (l : Launch) (y : MethodName) (wy : List Cond) (rm : Room) (D : va_G) (cl : List vw_C) (tys : List (ClassId × FieldType)) (nw : List Cond) (av : List Value) (ws : va_W) (sz : Nat) {S : Type} (post : Int64 → S → Prop) (wo : S → va_W) (mc ms : Nat) : Prop :=
  Met l y wy rm (cq_Pre D cl tys nw av ws sz) (va_Ql post (cq_B D cl ws sz wo) (va_A ws sz)) mc ms (va_A ws sz)
abbrev cq_v (l : Launch) (y : MethodName) (wy : List Cond) (rm : Room) (D : va_G) (cl : List vw_C) (tys : List (ClassId × FieldType)) (nw : List Cond) (av : List Value) (ws : va_W) (sz : Nat) {S : Type} (post : S → Prop) (wo : S → va_W) (mc ms : Nat) : Prop :=
  Met l y wy rm (cq_Pre D cl tys nw av ws sz) (va_Qv post (cq_B D cl ws sz wo) (va_A ws sz)) mc ms (va_A ws sz)
/-- what a body knows -/
def cq_At (p : Program) (s : State) (m : MethodId) (meth : Method) (c : Code) (y : MethodName) (wy : List Cond) (cc : ByteArray) (maxL : Nat) (ret : Option FieldType) (args : Array Value) : Prop :=
  p.tables.exec = Jvm.exec ∧ c.code = cc ∧ meth.sig.returnType = ret ∧ c.maxLocals = maxL ∧ s.vm.findClass y.cls = some m.cls ∧ (∀ w ∈ wy, w.before args s = true) ∧ meth.locks = false ∧ meth.name = y.name
theorem cq_enter {l : Launch} {y : MethodName} {wy wy' : List Cond} {rm : Room} {D : va_G} {cl : List vw_C} {tys : List (ClassId × FieldType)} {nw : List Cond} {av : List Value} {ws : va_W} {sz : Nat} {Qc : Array Value → State → Outcome → State → Prop} {mc ms : Nat} {free : Addr → Prop} {cc : ByteArray} {maxL : Nat} {ret : Option FieldType}
    (hy : plainName y.cls = true) (hw : wy = Cond.code y cc maxL ret :: wy') (hn : (lg_sl av).length ≤ maxL)
    (body : ∀ (p : Program) (e : Env) (s : State) (m : MethodId) (below : List Frame) (meth : Method) (c : Code) (A : Nat → Prop) (args : Array Value) (Q : State → Prop) (H : Heap), A = va_A ws sz → Q = MQ below Qc args s mc ms free → s.heap.size = sz → cq_At p s m meth c y wy cc maxL ret args → (∀ q : Nat, s.heap.size ≤ q → A q) → va_P D cl ws H → cq_K D cl tys nw s → va_D A ws → va_S A s.heap H [] → ∀ ls : Array Slot, lv_has ls maxL (lv_args 0 av) →
      W p l e rm s m args below meth c H [] 0 0 Q (F0 m 0 ls [])) : Met l y wy rm (cq_Pre D cl tys nw av ws sz) Qc mc ms free := by
  refine Met.ofW (cc := cc) (maxL := maxL) (ret := ret) hy hw ?_
  intro p e s m args below meth c s₁ B hml hv
  obtain ⟨rfl, hsz, hP, hK, hD0⟩ := hv
  rw [lg_entry_eq]
  refine body p e s m below meth c (va_A ws sz) _ _ _ rfl rfl hsz ⟨B.exec, B.bytes, B.returns, hml, findClass_of_methodNamed B.named, atoms_spec (ws := wy) B.pre, B.notSynchronized, (name_of_methodNamed B.named B.method).1⟩ (fun q h => Or.inr (by rw [← hsz]; exact h)) hP hK hD0.self va_S.rf _ (lv_entry av hn)
section CQ
variable {p : Program} {l : Launch} {e : Env} {R : Room} {s : State} {m : MethodId} {args : Array Value} {below : List Frame} {meth : Method} {c : Code} {H : Heap} {locs : List Loc} {cells slots : Nat} {Q : State → Prop}
variable {cc : ByteArray} {pc : Nat} {ls : Array Slot} {rest st0 : List Value} {D : va_G} {cl : List vw_C} {tys : List (ClassId × FieldType)} {nw : List Cond} {A : Nat → Prop} {ws wc wr : va_W} {sz mc ms : Nat} {H0 : Heap}
theorem cq_iret {S : Type} {post : Int32 → S → Prop} {wo : S → va_W} (hx : p.tables.exec = Jvm.exec) (hb : c.code = cc) (hr : meth.sig.returnType = some .int) (hlocks : meth.locks = false) (hAe : A = va_A ws sz) (hQ : Q = MQ below (va_Qi post (cq_B D cl ws sz wo) (va_A ws sz)) args s mc ms (va_A ws sz)) {v : Int32} (u : S) (hpost : post v u) (hP : va_P D cl (wo u) H) (hD : va_D A (wo u)) (hS : va_S A s.heap H locs) (hc : cells ≤ mc) (hs : slots ≤ ms) (hdg : decode cc pc = .ok (.ireturn, 1)) :
    W p l e R s m args below meth c H locs cells slots Q (F0 m pc ls [.int v]) := by
  subst hAe
  subst hQ
  refine W.widen hc hs ?_
  exact W.iret hx hb hr (fun t ht hW => ⟨⟨v, u, rfl, hpost, by rw [ht]; exact hP, hD⟩, hS.F ht⟩) hS.2.2 hdg
theorem cq_zret {S : Type} {post : Int32 → S → Prop} {wo : S → va_W} (hx : p.tables.exec = Jvm.exec) (hb : c.code = cc) (hr : meth.sig.returnType = some .boolean) (hlocks : meth.locks = false) (hAe : A = va_A ws sz) (hQ : Q = MQ below (va_Qi post (cq_B D cl ws sz wo) (va_A ws sz)) args s mc ms (va_A ws sz)) {v : Int32} (hn : narrow .boolean (.int v) = .int v) (u : S) (hpost : post v u) (hP : va_P D cl (wo u) H) (hD : va_D A (wo u)) (hS : va_S A s.heap H locs) (hc : cells ≤ mc) (hs : slots ≤ ms) (hdg : decode cc pc = .ok (.ireturn, 1)) :
    W p l e R s m args below meth c H locs cells slots Q (F0 m pc ls [.int v]) := by
  subst hAe
  subst hQ
  refine W.widen hc hs ?_
  exact W.zret hx hb hr hn (fun t ht hW => ⟨⟨v, u, rfl, hpost, by rw [ht]; exact hP, hD⟩, hS.F ht⟩) hS.2.2 hdg
theorem cq_lret {S : Type} {post : Int64 → S → Prop} {wo : S → va_W} (hx : p.tables.exec = Jvm.exec) (hb : c.code = cc) (hr : meth.sig.returnType = some .long) (hlocks : meth.locks = false) (hAe : A = va_A ws sz) (hQ : Q = MQ below (va_Ql post (cq_B D cl ws sz wo) (va_A ws sz)) args s mc ms (va_A ws sz)) {v : Int64} (u : S) (hpost : post v u) (hP : va_P D cl (wo u) H) (hD : va_D A (wo u)) (hS : va_S A s.heap H locs) (hc : cells ≤ mc) (hs : slots ≤ ms) (hdg : decode cc pc = .ok (.lreturn, 1)) :
    W p l e R s m args below meth c H locs cells slots Q (F0 m pc ls [.long v]) := by
  subst hAe
  subst hQ
  refine W.widen hc hs ?_
  exact W.lret hx hb hr (fun t ht hW => ⟨⟨v, u, rfl, hpost, by rw [ht]; exact hP, hD⟩, hS.F ht⟩) hS.2.2 hdg
theorem cq_vret {S : Type} {post : S → Prop} {wo : S → va_W} (hx : p.tables.exec = Jvm.exec) (hb : c.code = cc) (hr : meth.sig.returnType = none) (hlocks : meth.locks = false) (hAe : A = va_A ws sz) (hQ : Q = MQ below (va_Qv post (cq_B D cl ws sz wo) (va_A ws sz)) args s mc ms (va_A ws sz)) (u : S) (hpost : post u) (hP : va_P D cl (wo u) H) (hD : va_D A (wo u)) (hS : va_S A s.heap H locs) (hc : cells ≤ mc) (hs : slots ≤ ms) (hdg : decode cc pc = .ok (.return_, 1)) :
    W p l e R s m args below meth c H locs cells slots Q (F0 m pc ls []) := by
  subst hAe
  subst hQ
  refine W.widen hc hs ?_
  exact W.vret hx hb hr (fun t ht hW => ⟨⟨u, rfl, hpost, by rw [ht]; exact hP, hD⟩, hS.F ht⟩) hS.2.2 hdg
/-- a call's start, out of the world that stands -/
theorem cq_preS {av : List Value} (hK : cq_K D cl tys nw s) (hP : va_P D cl ws H) (hD : va_D A ws) (isC : List Nat) (hn : va_nd isC = true) (hC : isC.map (fun i => ws[i]?) = wc.map some) : PreS s H (cq_Pre D cl tys nw av wc H.size) av := by
  have hP' : va_P D cl wc H := by
    refine hP.sub isC ?_
    have h2 : ∀ (is : List Nat) (w : va_W), is.map (fun i => ws[i]?) = w.map some → is.filterMap (fun i => ws[i]?) = w := by
      intro is
      induction is with
      | nil =>
        intro w h
        cases w with
        | nil => rfl
        | cons x w => cases h
      | cons i is ih =>
        intro w h
        cases w with
        | nil => cases h
        | cons x w =>
          rw [List.map_cons, List.map_cons] at h
          injection h with e1 e2
          rw [List.filterMap_cons, e1]
          exact congrArg _ (ih w e2)
    exact h2 isC wc hC
  have hD' : va_D A wc := hD.sub isC hn hC
  exact ⟨cq_Pre.blind, fun U hU hW => ⟨rfl, by rw [hU], by rw [hU]; exact hP', hK.warm hW, hD'.weaken (fun _ _ _ _ => trivial)⟩⟩
theorem cq_preV {C : String} {b : Nat} {As : List Value} (hr : ∃ cellB : Cell, H[b]? = some cellB ∧ cellB.vm.isStatics = false ∧ s.vm.findClass C = some cellB.cls) (h : PreS s H (cq_Pre D cl tys nw (.ref b :: As) wc H.size) (.ref b :: As)) : PreV s H C b (cq_Pre D cl tys nw (.ref b :: As) wc H.size) As := ⟨h.1, hr, h.2⟩
theorem cq_calli {S : Type} {post : Int32 → S → Prop} {wo : S → va_W} {a : Array Value} (hr : va_Run p l e R s m args below meth c H locs cells slots mc ms (F0 m pc ls st0) rest (va_Qi post (cq_B D cl wc H.size wo) (va_A wc H.size) a) (va_A wc H.size))
    (hP : va_P D cl ws H) (hD : va_D A ws) (hS : va_S A H0 H locs) (hA : ∀ q, H0.size ≤ q → A q) (isC isR : List Nat) (hC : isC.map (fun i => ws[i]?) = wc.map some) (hR : isR.map (fun i => ws[i]?) = wr.map some) (hn : va_nd isR = true) (hdis : ∀ i ∈ isR, i ∉ isC)
    (kk : ∀ (r : Int32) (u : S) (H1 : Heap) (locs1 : List Loc), post r u → va_P D cl (wr ++ wo u) H1 → va_D A (wr ++ wo u) → va_S A H0 H1 locs1 → W p l e R s m args below meth c H1 locs1 (cells + mc) (slots + ms) Q (F0 m (pc + 3) ls (.int r :: rest))) : W p l e R s m args below meth c H locs cells slots Q (F0 m pc ls st0) := by
  have hF := va_free (wc := wc) hD hS hA isC hC
  refine va_calli hr hS (fun q _ h => hF q h) hF (fun r u t H1 locs1 ht hvm hw hB hz1 hk1 hS1 => ?_)
  obtain ⟨hP1, hD1⟩ := hB
  rw [ht] at hP1
  obtain ⟨hP2, hD2⟩ := va_join hP hD isC isR hC hR hn hdis hk1 hF hP1 hD1
  exact kk r u H1 locs1 hw hP2 hD2 hS1
theorem cq_calll {S : Type} {post : Int64 → S → Prop} {wo : S → va_W} {a : Array Value} (hr : va_Run p l e R s m args below meth c H locs cells slots mc ms (F0 m pc ls st0) rest (va_Ql post (cq_B D cl wc H.size wo) (va_A wc H.size) a) (va_A wc H.size))
    (hP : va_P D cl ws H) (hD : va_D A ws) (hS : va_S A H0 H locs) (hA : ∀ q, H0.size ≤ q → A q) (isC isR : List Nat) (hC : isC.map (fun i => ws[i]?) = wc.map some) (hR : isR.map (fun i => ws[i]?) = wr.map some) (hn : va_nd isR = true) (hdis : ∀ i ∈ isR, i ∉ isC)
    (kk : ∀ (r : Int64) (u : S) (H1 : Heap) (locs1 : List Loc), post r u → va_P D cl (wr ++ wo u) H1 → va_D A (wr ++ wo u) → va_S A H0 H1 locs1 → W p l e R s m args below meth c H1 locs1 (cells + mc) (slots + ms) Q (F0 m (pc + 3) ls (.long r :: rest))) : W p l e R s m args below meth c H locs cells slots Q (F0 m pc ls st0) := by
  have hF := va_free (wc := wc) hD hS hA isC hC
  refine va_calll hr hS (fun q _ h => hF q h) hF (fun r u t H1 locs1 ht hvm hw hB hz1 hk1 hS1 => ?_)
  obtain ⟨hP1, hD1⟩ := hB
  rw [ht] at hP1
  obtain ⟨hP2, hD2⟩ := va_join hP hD isC isR hC hR hn hdis hk1 hF hP1 hD1
  exact kk r u H1 locs1 hw hP2 hD2 hS1
theorem cq_callv {S : Type} {post : S → Prop} {wo : S → va_W} {a : Array Value} (hr : va_Run p l e R s m args below meth c H locs cells slots mc ms (F0 m pc ls st0) rest (va_Qv post (cq_B D cl wc H.size wo) (va_A wc H.size) a) (va_A wc H.size))
    (hP : va_P D cl ws H) (hD : va_D A ws) (hS : va_S A H0 H locs) (hA : ∀ q, H0.size ≤ q → A q) (isC isR : List Nat) (hC : isC.map (fun i => ws[i]?) = wc.map some) (hR : isR.map (fun i => ws[i]?) = wr.map some) (hn : va_nd isR = true) (hdis : ∀ i ∈ isR, i ∉ isC)
    (kk : ∀ (u : S) (H1 : Heap) (locs1 : List Loc), post u → va_P D cl (wr ++ wo u) H1 → va_D A (wr ++ wo u) → va_S A H0 H1 locs1 → W p l e R s m args below meth c H1 locs1 (cells + mc) (slots + ms) Q (F0 m (pc + 3) ls rest)) : W p l e R s m args below meth c H locs cells slots Q (F0 m pc ls st0) := by
  have hF := va_free (wc := wc) hD hS hA isC hC
  refine va_callv hr hS (fun q _ h => hF q h) hF (fun u t H1 locs1 ht hvm hw hB hz1 hk1 hS1 => ?_)
  obtain ⟨hP1, hD1⟩ := hB
  rw [ht] at hP1
  obtain ⟨hP2, hD2⟩ := va_join hP hD isC isR hC hR hn hdis hk1 hF hP1 hD1
  exact kk u H1 locs1 hw hP2 hD2 hS1
/-- the top of the stack by another name -/
theorem cq_ti {x y : Int32} (h : x = y) (k : W p l e R s m args below meth c H locs cells slots Q (F0 m pc ls (.int y :: rest))) : W p l e R s m args below meth c H locs cells slots Q (F0 m pc ls (.int x :: rest)) := h ▸ k
theorem cq_tl {x y : Int64} (h : x = y) (k : W p l e R s m args below meth c H locs cells slots Q (F0 m pc ls (.long y :: rest))) : W p l e R s m args below meth c H locs cells slots Q (F0 m pc ls (.long x :: rest)) := h ▸ k
/-- a new array of a known kind -/
theorem cq_newa (hexec : p.tables.exec = Jvm.exec) (hb : c.code = cc) {atype : ArrayType} (harr : (Cond.arrayClass (newarray.typeOf atype)).before args s = true) {ty : FieldType} (hty : newarray.typeOf atype = ty) (hK : cq_K D cl tys nw s) (hP : va_P D cl ws H) (hD : va_D A ws) (hS : va_S A H0 H locs) (hA : ∀ q, H0.size ≤ q → A q)
    (t0 : Nat) {cA : ClassId} (ht : tys[t0]? = some (cA, ty)) {n : Int32} {N' : Nat} {a0 : vp_A} (ha : ∀ cA : ClassId, vp_cell cA a0 = arrV cA N' (fun _ => defaultValue ty)) (hn : ¬ n < 0) (hN : n.toNatClampNeg = N') (hbytes : N' * componentBytes ty ≤ 536870912) (hcells : cells + 1 ≤ R.cells) (hslots : slots + N' ≤ R.slots) (hdg : decode cc pc = .ok (.newarray atype, 2))
    (kk : ∀ (q : Nat) (H1 : Heap), va_P D cl (ws ++ [(q, .inl (cA, a0))]) H1 → va_D A (ws ++ [(q, .inl (cA, a0))]) → va_S A H0 H1 locs →
      W p l e R s m args below meth c H1 locs (cells + 1) (slots + N') Q (F0 m (pc + 2) ls (.ref q :: rest))) : W p l e R s m args below meth c H locs cells slots Q (F0 m pc ls (.int n :: rest)) := by
  refine va_newa hexec hb harr hty hK.1 hP hD hS hA ha hn hN hbytes hcells hslots hdg (fun q cB H1 hK1 hP1 hD1 hS1 => ?_)
  have e1 := (hK1.2 tys.length (cB, ty) (by rw [List.getElem?_append_right (Nat.le_refl _), Nat.sub_self]; rfl)).2
  have e2 := (hK.1.2 t0 (cA, ty) ht).2
  have e3 : cB = cA := by
    have hne : ∀ C, ty ≠ .object C := by intro C h; rw [← hty] at h; cases atype <;> cases h
    cases ty with
    | object C => exact absurd rfl (hne C)
    | _ => exact Option.some.inj (e1.symm.trans e2)
  subst e3
  exact kk q H1 hP1 hD1 hS1
end CQ
/-! NUMBERS: every int is iZ of an integer, every long lZ of one; arrays hold functions of integers. -/
def iZ (z : Int) : Int32 := Int32.ofInt z
def lZ (z : Int) : Int64 := Int64.ofInt z
theorem iZ_of (x : Int32) : iZ x.toInt = x := Int32.ofInt_toInt x
theorem lZ_of (x : Int64) : lZ x.toInt = x := Int64.ofInt_toInt x
theorem iZ_toInt {z : Int} (h1 : -2147483648 ≤ z) (h2 : z < 2147483648) : (iZ z).toInt = z := Int32.toInt_ofInt_of_le (by omega) (by omega)
theorem lZ_toInt {z : Int} (h1 : -9223372036854775808 ≤ z) (h2 : z < 9223372036854775808) : (lZ z).toInt = z := Int64.toInt_ofInt_of_le (by omega) (by omega)
theorem iZ_b1 (x : Int32) : -2147483648 ≤ x.toInt := Int32.le_toInt x
theorem iZ_b2 (x : Int32) : x.toInt < 2147483648 := Int32.toInt_lt x
theorem lZ_b1 (x : Int64) : -9223372036854775808 ≤ x.toInt := Int64.le_toInt x
theorem lZ_b2 (x : Int64) : x.toInt < 9223372036854775808 := Int64.toInt_lt x
theorem iZ_add (a b : Int) : iZ a + iZ b = iZ (a + b) := (Int32.ofInt_add a b).symm
theorem iZ_sub (a b : Int) : iZ a - iZ b = iZ (a - b) := (Int32.ofInt_sub a b).symm
theorem iZ_mul (a b : Int) : iZ a * iZ b = iZ (a * b) := (Int32.ofInt_mul a b).symm
theorem lZ_add (a b : Int) : lZ a + lZ b = lZ (a + b) := (Int64.ofInt_add a b).symm
theorem lZ_sub (a b : Int) : lZ a - lZ b = lZ (a - b) := (Int64.ofInt_sub a b).symm
theorem lZ_mul (a b : Int) : lZ a * lZ b = lZ (a * b) := (Int64.ofInt_mul a b).symm
theorem lZ_neg (a : Int) : - lZ a = lZ (-a) := (Int64.ofInt_neg a).symm
theorem iZ_lt {a b : Int} (ha1 : -2147483648 ≤ a) (ha2 : a < 2147483648) (hb1 : -2147483648 ≤ b) (hb2 : b < 2147483648) : iZ a < iZ b ↔ a < b := by
  rw [Int32.lt_iff_toInt_lt, iZ_toInt ha1 ha2, iZ_toInt hb1 hb2]
theorem iZ_le {a b : Int} (ha1 : -2147483648 ≤ a) (ha2 : a < 2147483648) (hb1 : -2147483648 ≤ b) (hb2 : b < 2147483648) : iZ a ≤ iZ b ↔ a ≤ b := by
  rw [Int32.le_iff_toInt_le, iZ_toInt ha1 ha2, iZ_toInt hb1 hb2]
theorem iZ_eq {a b : Int} (ha1 : -2147483648 ≤ a) (ha2 : a < 2147483648) (hb1 : -2147483648 ≤ b) (hb2 : b < 2147483648) : iZ a = iZ b ↔ a = b := by
  rw [← Int32.toInt_inj, iZ_toInt ha1 ha2, iZ_toInt hb1 hb2]
theorem lZ_lt {a b : Int} (ha1 : -9223372036854775808 ≤ a) (ha2 : a < 9223372036854775808) (hb1 : -9223372036854775808 ≤ b) (hb2 : b < 9223372036854775808) : lZ a < lZ b ↔ a < b := by
  rw [Int64.lt_iff_toInt_lt, lZ_toInt ha1 ha2, lZ_toInt hb1 hb2]
theorem lZ_eq {a b : Int} (ha1 : -9223372036854775808 ≤ a) (ha2 : a < 9223372036854775808) (hb1 : -9223372036854775808 ≤ b) (hb2 : b < 9223372036854775808) : lZ a = lZ b ↔ a = b := by
  rw [← Int64.toInt_inj, lZ_toInt ha1 ha2, lZ_toInt hb1 hb2]
theorem iZ_0 : (0 : Int32) = iZ 0 := by decide
theorem iZ_clamp {z : Int} (h1 : 0 ≤ z) (h2 : z < 2147483648) : (iZ z).toNatClampNeg = z.toNat := by
  show (iZ z).toInt.toNat = z.toNat
  rw [iZ_toInt (by omega) h2]
theorem iZ_cast {z : Int} (h1 : 0 ≤ z) (h2 : z < 2147483648) : ((iZ z).toNatClampNeg : Int) = z := by rw [iZ_clamp h1 h2]; omega
theorem iZ_in {z : Int} {n : Nat} (h1 : 0 ≤ z) (h2 : z < n) (hn : n < 2147483648) : vp_in (iZ z) n := vp_in_iff.mpr (by rw [iZ_toInt (by omega) (by omega)]; exact ⟨h1, h2⟩)
theorem iZ_nN (n : Nat) : nI n = iZ n := by
  apply Int32.toBitVec_inj.mp
  simp [nI, iZ]
theorem lZ_nN (n : Nat) : lN n = lZ n := by
  apply Int64.toBitVec_inj.mp
  simp [lN, lZ]
theorem iZ_div {a b : Int} (ha : 0 ≤ a) (ha2 : a < 2147483648) (hb : 0 < b) (hb2 : b < 2147483648) : iZ a / iZ b = iZ (a / b) := by
  obtain ⟨n, rfl⟩ := Int.eq_ofNat_of_zero_le ha
  obtain ⟨k, rfl⟩ := Int.eq_ofNat_of_zero_le (Int.le_of_lt hb)
  rw [← iZ_nN, ← iZ_nN, pk_div (by omega) (by omega) (by omega), iZ_nN]
  rfl
theorem iZ_rem {a b : Int} (ha : 0 ≤ a) (ha2 : a < 2147483648) (hb : 0 < b) (hb2 : b < 2147483648) : iZ a - iZ a / iZ b * iZ b = iZ (a % b) := by
  rw [iZ_div ha ha2 hb hb2, iZ_mul, iZ_sub]
  congr 1
  have := Int.mul_ediv_add_emod a b
  rw [Int.mul_comm] at this
  omega
theorem lZ_div {a b : Int} (ha : 0 ≤ a) (ha2 : a < 9223372036854775808) (hb : 0 < b) (hb2 : b < 9223372036854775808) : lZ a / lZ b = lZ (a / b) := by
  obtain ⟨n, rfl⟩ := Int.eq_ofNat_of_zero_le ha
  obtain ⟨k, rfl⟩ := Int.eq_ofNat_of_zero_le (Int.le_of_lt hb)
  rw [← lZ_nN, ← lZ_nN, pk_lDiv (by omega) (by omega) (by omega), lZ_nN]
  rfl
theorem lZ_rem {a b : Int} (ha : 0 ≤ a) (ha2 : a < 9223372036854775808) (hb : 0 < b) (hb2 : b < 9223372036854775808) : lZ a - lZ a / lZ b * lZ b = lZ (a % b) := by
  rw [lZ_div ha ha2 hb hb2, lZ_mul, lZ_sub]
  congr 1
  have := Int.mul_ediv_add_emod a b
  rw [Int.mul_comm] at this
  omega
theorem iZ_l {z : Int} (h1 : -2147483648 ≤ z) (h2 : z < 2147483648) : (iZ z).toInt64 = lZ z := by
  apply Int64.toInt_inj.mp
  rw [Int32.toInt_toInt64, iZ_toInt h1 h2, lZ_toInt (by omega) (by omega)]
theorem lZ_i (z : Int) : (lZ z).toInt32 = iZ z := by
  apply Int32.toBitVec_inj.mp
  simp [lZ, iZ]
  
theorem lg_lt {x y : Int64} : lg_cmp x y < 0 ↔ x < y := by
  unfold lg_cmp
  by_cases h1 : x > y
  · have h2 : ¬ x < y := Int64.not_lt.mpr (Int64.le_of_lt h1)
    simp [h1, h2]
  · by_cases h2 : x = y
    · subst h2; simp
    · have h3 : x < y := by
        rcases Int64.lt_or_eq_of_le (Int64.not_lt.mp h1) with h | h
        · exact h
        · exact absurd h h2
      simp [h1, h2, h3]
theorem lg_eq {x y : Int64} : lg_cmp x y = 0 ↔ x = y := by
  unfold lg_cmp
  by_cases h1 : x > y
  · have h2 : ¬ x = y := fun e => by subst e; exact absurd h1 (Int64.lt_irrefl)
    simp [h1, h2]
  · by_cases h2 : x = y
    · simp [h2]
    · simp [h1, h2]
theorem lg_gt {x y : Int64} : 0 < lg_cmp x y ↔ y < x := by
  unfold lg_cmp
  by_cases h1 : x > y
  · simp [h1]
  · by_cases h2 : x = y
    · simp [h2]
    · simp [h1, h2]
theorem lg_ge {x y : Int64} : 0 ≤ lg_cmp x y ↔ ¬ x < y := by rw [← lg_lt, Int32.not_lt]
theorem lg_le {x y : Int64} : lg_cmp x y ≤ 0 ↔ ¬ y < x := by rw [← lg_gt, Int32.not_lt]
theorem lZ_nat (x : Int) : (lZ x).toUInt64.toNat = (x % 18446744073709551616).toNat := by
  show (BitVec.ofInt 64 x).toNat = _
  rw [BitVec.toNat_ofInt]
  rfl
theorem lZ_ush33 (x : Int) : ((lZ x).toUInt64 >>> ((iZ 33).toInt64.toUInt64 &&& Int64.toUInt64 63)).toInt64 = lZ (x % 18446744073709551616 / 8589934592) := by
  have h : ((iZ 33).toInt64.toUInt64 &&& Int64.toUInt64 63).toNat % 64 = 33 := by decide
  have e : (lZ x).toUInt64 >>> ((iZ 33).toInt64.toUInt64 &&& Int64.toUInt64 63) = (lZ (x % 18446744073709551616 / 8589934592)).toUInt64 := UInt64.toNat_inj.mp (by
    rw [UInt64.toNat_shiftRight, h, Nat.shiftRight_eq_div_pow, lZ_nat, lZ_nat]
    omega)
  rw [e]
  rfl
def aI (f : Int → Int) : Nat → Int32 := fun j => iZ (f j)
def aL (f : Int → Int) : Nat → Int64 := fun j => lZ (f j)
def pu (f : Int → Int) (k v : Int) : Int → Int := fun j => if j = k then v else f j
theorem pu_eq (f : Int → Int) (k v : Int) : pu f k v k = v := if_pos rfl
theorem pu_ne (f : Int → Int) {k v j : Int} (h : ¬ j = k) : pu f k v j = f j := if_neg h
theorem aI_get (f : Int → Int) {z : Int} (h1 : 0 ≤ z) (h2 : z < 2147483648) : aI f (iZ z).toNatClampNeg = iZ (f z) := by
  unfold aI; rw [iZ_cast h1 h2]
theorem aL_get (f : Int → Int) {z : Int} (h1 : 0 ≤ z) (h2 : z < 2147483648) : aL f (iZ z).toNatClampNeg = lZ (f z) := by
  unfold aL; rw [iZ_cast h1 h2]
theorem aI_set (f : Int → Int) {z v : Int} (h1 : 0 ≤ z) (h2 : z < 2147483648) : upd (aI f) (iZ z).toNatClampNeg (iZ v) = aI (pu f z v) := by
  funext j
  unfold upd aI pu
  have e := iZ_cast h1 h2
  by_cases h : j = (iZ z).toNatClampNeg
  · rw [if_pos h, if_pos (by rw [h, e])]
  · rw [if_neg h, if_neg (fun q => h (by omega))]
theorem aL_set (f : Int → Int) {z v : Int} (h1 : 0 ≤ z) (h2 : z < 2147483648) : vp_updL (aL f) (iZ z).toNatClampNeg (lZ v) = aL (pu f z v) := by
  funext j
  unfold vp_updL aL pu
  have e := iZ_cast h1 h2
  by_cases h : j = (iZ z).toNatClampNeg
  · rw [if_pos h, if_pos (by rw [h, e])]
  · rw [if_neg h, if_neg (fun q => h (by omega))]
theorem aI_0 : (fun _ => (0 : Int32)) = aI (fun _ => 0) := by funext j; exact iZ_0
theorem aL_0 : (fun _ => (0 : Int64)) = aL (fun _ => 0) := by funext j; show (0 : Int64) = lZ 0; decide
theorem bo_nar {v : Int} (h1 : 0 ≤ v) (h2 : v < 2) : vp_nar .boolean (iZ v) = iZ v := by
  rcases (show v = 0 ∨ v = 1 by omega) with rfl | rfl <;> decide
theorem bo_narr {v : Int} (h1 : 0 ≤ v) (h2 : v < 2) : narrow .boolean (.int (iZ v)) = .int (iZ v) := by
  rcases (show v = 0 ∨ v = 1 by omega) with rfl | rfl <;> decide
theorem bo_fits {v : Int} (h1 : 0 ≤ v) (h2 : v < 2) : fits .boolean (.int (iZ v)) = true := by
  rcases (show v = 0 ∨ v = 1 by omega) with rfl | rfl <;> decide
section NW
variable {p : Program} {l : Launch} {e : Env} {R : Room} {s : State} {m : MethodId} {args : Array Value} {below : List Frame} {meth : Method} {c : Code} {H : Heap} {locs : List Loc} {cells slots : Nat} {Q : State → Prop}
variable {cc : ByteArray} {pc : Nat} {ls : Array Slot} {rest : List Value} {D : va_G} {cl : List vw_C} {tys : List (ClassId × FieldType)} {nw : List Cond} {A : Nat → Prop} {ws : va_W} {H0 : Heap} {a : Nat}
theorem z_iadd (hx : p.tables.exec = Jvm.exec) (hb : c.code = cc) {x y : Int} (hdg : decode cc pc = .ok (.iadd, 1)) (k : W p l e R s m args below meth c H locs cells slots Q (F0 m (pc + 1) ls (.int (iZ (x + y)) :: rest))) : W p l e R s m args below meth c H locs cells slots Q (F0 m pc ls (.int (iZ y) :: .int (iZ x) :: rest)) := lv_iadd hx hb hdg (cq_ti (iZ_add x y) k)
theorem z_isub (hx : p.tables.exec = Jvm.exec) (hb : c.code = cc) {x y : Int} (hdg : decode cc pc = .ok (.isub, 1)) (k : W p l e R s m args below meth c H locs cells slots Q (F0 m (pc + 1) ls (.int (iZ (x - y)) :: rest))) : W p l e R s m args below meth c H locs cells slots Q (F0 m pc ls (.int (iZ y) :: .int (iZ x) :: rest)) := lv_isub hx hb hdg (cq_ti (iZ_sub x y) k)
theorem z_imul (hx : p.tables.exec = Jvm.exec) (hb : c.code = cc) {x y : Int} (hdg : decode cc pc = .ok (.imul, 1)) (k : W p l e R s m args below meth c H locs cells slots Q (F0 m (pc + 1) ls (.int (iZ (x * y)) :: rest))) : W p l e R s m args below meth c H locs cells slots Q (F0 m pc ls (.int (iZ y) :: .int (iZ x) :: rest)) := lv_imul hx hb hdg (cq_ti (iZ_mul x y) k)
theorem z_ladd (hx : p.tables.exec = Jvm.exec) (hb : c.code = cc) {x y : Int} (hdg : decode cc pc = .ok (.ladd, 1)) (k : W p l e R s m args below meth c H locs cells slots Q (F0 m (pc + 1) ls (.long (lZ (x + y)) :: rest))) : W p l e R s m args below meth c H locs cells slots Q (F0 m pc ls (.long (lZ y) :: .long (lZ x) :: rest)) := lv_ladd hx hb hdg (cq_tl (lZ_add x y) k)
theorem z_lsub (hx : p.tables.exec = Jvm.exec) (hb : c.code = cc) {x y : Int} (hdg : decode cc pc = .ok (.lsub, 1)) (k : W p l e R s m args below meth c H locs cells slots Q (F0 m (pc + 1) ls (.long (lZ (x - y)) :: rest))) : W p l e R s m args below meth c H locs cells slots Q (F0 m pc ls (.long (lZ y) :: .long (lZ x) :: rest)) := lv_lsub hx hb hdg (cq_tl (lZ_sub x y) k)
theorem z_lmul (hx : p.tables.exec = Jvm.exec) (hb : c.code = cc) {x y : Int} (hdg : decode cc pc = .ok (.lmul, 1)) (k : W p l e R s m args below meth c H locs cells slots Q (F0 m (pc + 1) ls (.long (lZ (x * y)) :: rest))) : W p l e R s m args below meth c H locs cells slots Q (F0 m pc ls (.long (lZ y) :: .long (lZ x) :: rest)) := lv_lmul hx hb hdg (cq_tl (lZ_mul x y) k)
theorem z_ldiv (hx : p.tables.exec = Jvm.exec) (hb : c.code = cc) {x y : Int} (h1 : 0 ≤ x) (h2 : x < 9223372036854775808) (h3 : 0 < y) (h4 : y < 9223372036854775808) (hdg : decode cc pc = .ok (.ldiv, 1)) (k : W p l e R s m args below meth c H locs cells slots Q (F0 m (pc + 1) ls (.long (lZ (x / y)) :: rest))) : W p l e R s m args below meth c H locs cells slots Q (F0 m pc ls (.long (lZ y) :: .long (lZ x) :: rest)) :=
  lv_ldiv hx hb hdg (fun q => absurd ((lZ_eq (a := y) (b := 0) (by omega) h4 (by omega) (by omega)).mp q) (by omega)) (cq_tl (lZ_div h1 h2 h3 h4) k)
theorem z_lrem (hx : p.tables.exec = Jvm.exec) (hb : c.code = cc) {x y : Int} (h1 : 0 ≤ x) (h2 : x < 9223372036854775808) (h3 : 0 < y) (h4 : y < 9223372036854775808) (hdg : decode cc pc = .ok (.lrem, 1)) (k : W p l e R s m args below meth c H locs cells slots Q (F0 m (pc + 1) ls (.long (lZ (x % y)) :: rest))) : W p l e R s m args below meth c H locs cells slots Q (F0 m pc ls (.long (lZ y) :: .long (lZ x) :: rest)) :=
  lv_lrem hx hb hdg (fun q => absurd ((lZ_eq (a := y) (b := 0) (by omega) h4 (by omega) (by omega)).mp q) (by omega)) (cq_tl (lZ_rem h1 h2 h3 h4) k)
theorem z_i2l (hx : p.tables.exec = Jvm.exec) (hb : c.code = cc) {x : Int} (h1 : -2147483648 ≤ x) (h2 : x < 2147483648) (hdg : decode cc pc = .ok (.i2l, 1)) (k : W p l e R s m args below meth c H locs cells slots Q (F0 m (pc + 1) ls (.long (lZ x) :: rest))) : W p l e R s m args below meth c H locs cells slots Q (F0 m pc ls (.int (iZ x) :: rest)) := lv_i2l hx hb hdg (iZ_l h1 h2) k
theorem z_l2i (hx : p.tables.exec = Jvm.exec) (hb : c.code = cc) {x : Int} (hdg : decode cc pc = .ok (.l2i, 1)) (k : W p l e R s m args below meth c H locs cells slots Q (F0 m (pc + 1) ls (.int (iZ x) :: rest))) : W p l e R s m args below meth c H locs cells slots Q (F0 m pc ls (.long (lZ x) :: rest)) := lv_l2i hx hb hdg (lZ_i x) k
theorem z_icmp_eq (hx : p.tables.exec = Jvm.exec) (hb : c.code = cc) {x y : Int} (h1 : -2147483648 ≤ x) (h2 : x < 2147483648) (h3 : -2147483648 ≤ y) (h4 : y < 2147483648) {off : Int} {tgt : Nat} (hdg : decode cc pc = .ok (.if_icmp .eq off, 3)) (ht : (pc : Int) + off = (tgt : Int)) (kt : x = y → W p l e R s m args below meth c H locs cells slots Q (F0 m tgt ls rest)) (kf : ¬ x = y → W p l e R s m args below meth c H locs cells slots Q (F0 m (pc + 3) ls rest)) : W p l e R s m args below meth c H locs cells slots Q (F0 m pc ls (.int (iZ y) :: .int (iZ x) :: rest)) := by
  have hi := iZ_eq h1 h2 h3 h4
  refine lv_icmp_eq hx hb hdg ht (fun q => kt ?_) (fun q => kf ?_)
  · exact hi.mp q
  · exact fun z => q (hi.mpr z)
theorem z_icmp_ne (hx : p.tables.exec = Jvm.exec) (hb : c.code = cc) {x y : Int} (h1 : -2147483648 ≤ x) (h2 : x < 2147483648) (h3 : -2147483648 ≤ y) (h4 : y < 2147483648) {off : Int} {tgt : Nat} (hdg : decode cc pc = .ok (.if_icmp .ne off, 3)) (ht : (pc : Int) + off = (tgt : Int)) (kt : ¬ x = y → W p l e R s m args below meth c H locs cells slots Q (F0 m tgt ls rest)) (kf : x = y → W p l e R s m args below meth c H locs cells slots Q (F0 m (pc + 3) ls rest)) : W p l e R s m args below meth c H locs cells slots Q (F0 m pc ls (.int (iZ y) :: .int (iZ x) :: rest)) := by
  have hi := iZ_eq h1 h2 h3 h4
  refine lv_icmp_ne hx hb hdg ht (fun q => kt ?_) (fun q => kf ?_)
  · exact fun z => q (hi.mpr z)
  · exact hi.mp q
theorem z_icmp_lt (hx : p.tables.exec = Jvm.exec) (hb : c.code = cc) {x y : Int} (h1 : -2147483648 ≤ x) (h2 : x < 2147483648) (h3 : -2147483648 ≤ y) (h4 : y < 2147483648) {off : Int} {tgt : Nat} (hdg : decode cc pc = .ok (.if_icmp .lt off, 3)) (ht : (pc : Int) + off = (tgt : Int)) (kt : x < y → W p l e R s m args below meth c H locs cells slots Q (F0 m tgt ls rest)) (kf : ¬ x < y → W p l e R s m args below meth c H locs cells slots Q (F0 m (pc + 3) ls rest)) : W p l e R s m args below meth c H locs cells slots Q (F0 m pc ls (.int (iZ y) :: .int (iZ x) :: rest)) := by
  have hi := iZ_lt h1 h2 h3 h4
  refine lv_icmp_lt hx hb hdg ht (fun q => kt ?_) (fun q => kf ?_)
  · exact hi.mp q
  · exact fun z => q (hi.mpr z)
theorem z_icmp_ge (hx : p.tables.exec = Jvm.exec) (hb : c.code = cc) {x y : Int} (h1 : -2147483648 ≤ x) (h2 : x < 2147483648) (h3 : -2147483648 ≤ y) (h4 : y < 2147483648) {off : Int} {tgt : Nat} (hdg : decode cc pc = .ok (.if_icmp .ge off, 3)) (ht : (pc : Int) + off = (tgt : Int)) (kt : ¬ x < y → W p l e R s m args below meth c H locs cells slots Q (F0 m tgt ls rest)) (kf : x < y → W p l e R s m args below meth c H locs cells slots Q (F0 m (pc + 3) ls rest)) : W p l e R s m args below meth c H locs cells slots Q (F0 m pc ls (.int (iZ y) :: .int (iZ x) :: rest)) := by
  have hi := iZ_lt h1 h2 h3 h4
  refine lv_icmp_ge hx hb hdg ht (fun q => kt ?_) (fun q => kf ?_)
  · exact fun z => Int32.not_lt.mpr q (hi.mpr z)
  · exact hi.mp (Int32.not_le.mp q)
theorem z_icmp_gt (hx : p.tables.exec = Jvm.exec) (hb : c.code = cc) {x y : Int} (h1 : -2147483648 ≤ x) (h2 : x < 2147483648) (h3 : -2147483648 ≤ y) (h4 : y < 2147483648) {off : Int} {tgt : Nat} (hdg : decode cc pc = .ok (.if_icmp .gt off, 3)) (ht : (pc : Int) + off = (tgt : Int)) (kt : y < x → W p l e R s m args below meth c H locs cells slots Q (F0 m tgt ls rest)) (kf : ¬ y < x → W p l e R s m args below meth c H locs cells slots Q (F0 m (pc + 3) ls rest)) : W p l e R s m args below meth c H locs cells slots Q (F0 m pc ls (.int (iZ y) :: .int (iZ x) :: rest)) := by
  have hi := iZ_lt h3 h4 h1 h2
  refine lv_icmp_gt hx hb hdg ht (fun q => kt ?_) (fun q => kf ?_)
  · exact hi.mp q
  · exact fun z => q (hi.mpr z)
theorem z_icmp_le (hx : p.tables.exec = Jvm.exec) (hb : c.code = cc) {x y : Int} (h1 : -2147483648 ≤ x) (h2 : x < 2147483648) (h3 : -2147483648 ≤ y) (h4 : y < 2147483648) {off : Int} {tgt : Nat} (hdg : decode cc pc = .ok (.if_icmp .le off, 3)) (ht : (pc : Int) + off = (tgt : Int)) (kt : ¬ y < x → W p l e R s m args below meth c H locs cells slots Q (F0 m tgt ls rest)) (kf : y < x → W p l e R s m args below meth c H locs cells slots Q (F0 m (pc + 3) ls rest)) : W p l e R s m args below meth c H locs cells slots Q (F0 m pc ls (.int (iZ y) :: .int (iZ x) :: rest)) := by
  have hi := iZ_lt h3 h4 h1 h2
  refine lv_icmp_le hx hb hdg ht (fun q => kt ?_) (fun q => kf ?_)
  · exact fun z => Int32.not_lt.mpr q (hi.mpr z)
  · exact hi.mp (Int32.not_le.mp q)
theorem z_if_eq (hx : p.tables.exec = Jvm.exec) (hb : c.code = cc) {x : Int} (h1 : -2147483648 ≤ x) (h2 : x < 2147483648) {off : Int} {tgt : Nat} (hdg : decode cc pc = .ok (.ifCond .eq off, 3)) (ht : (pc : Int) + off = (tgt : Int)) (kt : x = 0 → W p l e R s m args below meth c H locs cells slots Q (F0 m tgt ls rest)) (kf : ¬ x = 0 → W p l e R s m args below meth c H locs cells slots Q (F0 m (pc + 3) ls rest)) : W p l e R s m args below meth c H locs cells slots Q (F0 m pc ls (.int (iZ x) :: rest)) := by
  have hi : iZ x = iZ 0 ↔ x = 0 := iZ_eq h1 h2 (by omega) (by omega)
  rw [← iZ_0] at hi
  refine lv_if_eq hx hb hdg ht (fun q => kt ?_) (fun q => kf ?_)
  · exact hi.mp q
  · exact fun z => q (hi.mpr z)
theorem z_if_ne (hx : p.tables.exec = Jvm.exec) (hb : c.code = cc) {x : Int} (h1 : -2147483648 ≤ x) (h2 : x < 2147483648) {off : Int} {tgt : Nat} (hdg : decode cc pc = .ok (.ifCond .ne off, 3)) (ht : (pc : Int) + off = (tgt : Int)) (kt : ¬ x = 0 → W p l e R s m args below meth c H locs cells slots Q (F0 m tgt ls rest)) (kf : x = 0 → W p l e R s m args below meth c H locs cells slots Q (F0 m (pc + 3) ls rest)) : W p l e R s m args below meth c H locs cells slots Q (F0 m pc ls (.int (iZ x) :: rest)) := by
  have hi : iZ x = iZ 0 ↔ x = 0 := iZ_eq h1 h2 (by omega) (by omega)
  rw [← iZ_0] at hi
  refine lv_if_ne hx hb hdg ht (fun q => kt ?_) (fun q => kf ?_)
  · exact fun z => q (hi.mpr z)
  · exact hi.mp q
theorem z_if_lt (hx : p.tables.exec = Jvm.exec) (hb : c.code = cc) {x : Int} (h1 : -2147483648 ≤ x) (h2 : x < 2147483648) {off : Int} {tgt : Nat} (hdg : decode cc pc = .ok (.ifCond .lt off, 3)) (ht : (pc : Int) + off = (tgt : Int)) (kt : x < 0 → W p l e R s m args below meth c H locs cells slots Q (F0 m tgt ls rest)) (kf : ¬ x < 0 → W p l e R s m args below meth c H locs cells slots Q (F0 m (pc + 3) ls rest)) : W p l e R s m args below meth c H locs cells slots Q (F0 m pc ls (.int (iZ x) :: rest)) := by
  have hi : iZ x < iZ 0 ↔ x < 0 := iZ_lt h1 h2 (by omega) (by omega)
  rw [← iZ_0] at hi
  refine lv_if_lt hx hb hdg ht (fun q => kt ?_) (fun q => kf ?_)
  · exact hi.mp q
  · exact fun z => q (hi.mpr z)
theorem z_if_ge (hx : p.tables.exec = Jvm.exec) (hb : c.code = cc) {x : Int} (h1 : -2147483648 ≤ x) (h2 : x < 2147483648) {off : Int} {tgt : Nat} (hdg : decode cc pc = .ok (.ifCond .ge off, 3)) (ht : (pc : Int) + off = (tgt : Int)) (kt : ¬ x < 0 → W p l e R s m args below meth c H locs cells slots Q (F0 m tgt ls rest)) (kf : x < 0 → W p l e R s m args below meth c H locs cells slots Q (F0 m (pc + 3) ls rest)) : W p l e R s m args below meth c H locs cells slots Q (F0 m pc ls (.int (iZ x) :: rest)) := by
  have hi : iZ x < iZ 0 ↔ x < 0 := iZ_lt h1 h2 (by omega) (by omega)
  rw [← iZ_0] at hi
  refine lv_if_ge hx hb hdg ht (fun q => kt ?_) (fun q => kf ?_)
  · exact fun z => Int32.not_lt.mpr q (hi.mpr z)
  · exact hi.mp (Int32.not_le.mp q)
theorem z_if_gt (hx : p.tables.exec = Jvm.exec) (hb : c.code = cc) {x : Int} (h1 : -2147483648 ≤ x) (h2 : x < 2147483648) {off : Int} {tgt : Nat} (hdg : decode cc pc = .ok (.ifCond .gt off, 3)) (ht : (pc : Int) + off = (tgt : Int)) (kt : 0 < x → W p l e R s m args below meth c H locs cells slots Q (F0 m tgt ls rest)) (kf : ¬ 0 < x → W p l e R s m args below meth c H locs cells slots Q (F0 m (pc + 3) ls rest)) : W p l e R s m args below meth c H locs cells slots Q (F0 m pc ls (.int (iZ x) :: rest)) := by
  have hi : iZ 0 < iZ x ↔ 0 < x := iZ_lt (by omega) (by omega) h1 h2
  rw [← iZ_0] at hi
  refine lv_if_gt hx hb hdg ht (fun q => kt ?_) (fun q => kf ?_)
  · exact hi.mp q
  · exact fun z => q (hi.mpr z)
theorem z_if_le (hx : p.tables.exec = Jvm.exec) (hb : c.code = cc) {x : Int} (h1 : -2147483648 ≤ x) (h2 : x < 2147483648) {off : Int} {tgt : Nat} (hdg : decode cc pc = .ok (.ifCond .le off, 3)) (ht : (pc : Int) + off = (tgt : Int)) (kt : ¬ 0 < x → W p l e R s m args below meth c H locs cells slots Q (F0 m tgt ls rest)) (kf : 0 < x → W p l e R s m args below meth c H locs cells slots Q (F0 m (pc + 3) ls rest)) : W p l e R s m args below meth c H locs cells slots Q (F0 m pc ls (.int (iZ x) :: rest)) := by
  have hi : iZ 0 < iZ x ↔ 0 < x := iZ_lt (by omega) (by omega) h1 h2
  rw [← iZ_0] at hi
  refine lv_if_le hx hb hdg ht (fun q => kt ?_) (fun q => kf ?_)
  · exact fun z => Int32.not_lt.mpr q (hi.mpr z)
  · exact hi.mp (Int32.not_le.mp q)
theorem z_lcmp_eq (hx : p.tables.exec = Jvm.exec) (hb : c.code = cc) {x y : Int} (h1 : -9223372036854775808 ≤ x) (h2 : x < 9223372036854775808) (h3 : -9223372036854775808 ≤ y) (h4 : y < 9223372036854775808) {off : Int} {tgt : Nat} (hd0 : decode cc pc = .ok (.lcmp, 1)) (hdg : decode cc (pc + 1) = .ok (.ifCond .eq off, 3)) (ht : ((pc + 1 : Nat) : Int) + off = (tgt : Int)) (kt : x = y → W p l e R s m args below meth c H locs cells slots Q (F0 m tgt ls rest)) (kf : ¬ x = y → W p l e R s m args below meth c H locs cells slots Q (F0 m (pc + 4) ls rest)) : W p l e R s m args below meth c H locs cells slots Q (F0 m pc ls (.long (lZ y) :: .long (lZ x) :: rest)) := by
  have hi := lZ_eq h1 h2 h3 h4
  refine W.lcmp hx hb hd0 ?_
  refine lv_if_eq hx hb hdg ht (fun q => kt ?_) (fun q => kf ?_)
  · exact hi.mp (lg_eq.mp q)
  · exact fun z => q (lg_eq.mpr (hi.mpr z))
theorem z_lcmp_ne (hx : p.tables.exec = Jvm.exec) (hb : c.code = cc) {x y : Int} (h1 : -9223372036854775808 ≤ x) (h2 : x < 9223372036854775808) (h3 : -9223372036854775808 ≤ y) (h4 : y < 9223372036854775808) {off : Int} {tgt : Nat} (hd0 : decode cc pc = .ok (.lcmp, 1)) (hdg : decode cc (pc + 1) = .ok (.ifCond .ne off, 3)) (ht : ((pc + 1 : Nat) : Int) + off = (tgt : Int)) (kt : ¬ x = y → W p l e R s m args below meth c H locs cells slots Q (F0 m tgt ls rest)) (kf : x = y → W p l e R s m args below meth c H locs cells slots Q (F0 m (pc + 4) ls rest)) : W p l e R s m args below meth c H locs cells slots Q (F0 m pc ls (.long (lZ y) :: .long (lZ x) :: rest)) := by
  have hi := lZ_eq h1 h2 h3 h4
  refine W.lcmp hx hb hd0 ?_
  refine lv_if_ne hx hb hdg ht (fun q => kt ?_) (fun q => kf ?_)
  · exact fun z => q (lg_eq.mpr (hi.mpr z))
  · exact hi.mp (lg_eq.mp q)
theorem z_lcmp_lt (hx : p.tables.exec = Jvm.exec) (hb : c.code = cc) {x y : Int} (h1 : -9223372036854775808 ≤ x) (h2 : x < 9223372036854775808) (h3 : -9223372036854775808 ≤ y) (h4 : y < 9223372036854775808) {off : Int} {tgt : Nat} (hd0 : decode cc pc = .ok (.lcmp, 1)) (hdg : decode cc (pc + 1) = .ok (.ifCond .lt off, 3)) (ht : ((pc + 1 : Nat) : Int) + off = (tgt : Int)) (kt : x < y → W p l e R s m args below meth c H locs cells slots Q (F0 m tgt ls rest)) (kf : ¬ x < y → W p l e R s m args below meth c H locs cells slots Q (F0 m (pc + 4) ls rest)) : W p l e R s m args below meth c H locs cells slots Q (F0 m pc ls (.long (lZ y) :: .long (lZ x) :: rest)) := by
  have hi := lZ_lt h1 h2 h3 h4
  refine W.lcmp hx hb hd0 ?_
  refine lv_if_lt hx hb hdg ht (fun q => kt ?_) (fun q => kf ?_)
  · exact hi.mp (lg_lt.mp q)
  · exact fun z => q (lg_lt.mpr (hi.mpr z))
theorem z_lcmp_ge (hx : p.tables.exec = Jvm.exec) (hb : c.code = cc) {x y : Int} (h1 : -9223372036854775808 ≤ x) (h2 : x < 9223372036854775808) (h3 : -9223372036854775808 ≤ y) (h4 : y < 9223372036854775808) {off : Int} {tgt : Nat} (hd0 : decode cc pc = .ok (.lcmp, 1)) (hdg : decode cc (pc + 1) = .ok (.ifCond .ge off, 3)) (ht : ((pc + 1 : Nat) : Int) + off = (tgt : Int)) (kt : ¬ x < y → W p l e R s m args below meth c H locs cells slots Q (F0 m tgt ls rest)) (kf : x < y → W p l e R s m args below meth c H locs cells slots Q (F0 m (pc + 4) ls rest)) : W p l e R s m args below meth c H locs cells slots Q (F0 m pc ls (.long (lZ y) :: .long (lZ x) :: rest)) := by
  have hi := lZ_lt h1 h2 h3 h4
  refine W.lcmp hx hb hd0 ?_
  refine lv_if_ge hx hb hdg ht (fun q => kt ?_) (fun q => kf ?_)
  · exact fun z => (lg_ge.mp q) (hi.mpr z)
  · exact hi.mp (Classical.not_not.mp (fun z => q (lg_ge.mpr z)))
theorem z_lcmp_gt (hx : p.tables.exec = Jvm.exec) (hb : c.code = cc) {x y : Int} (h1 : -9223372036854775808 ≤ x) (h2 : x < 9223372036854775808) (h3 : -9223372036854775808 ≤ y) (h4 : y < 9223372036854775808) {off : Int} {tgt : Nat} (hd0 : decode cc pc = .ok (.lcmp, 1)) (hdg : decode cc (pc + 1) = .ok (.ifCond .gt off, 3)) (ht : ((pc + 1 : Nat) : Int) + off = (tgt : Int)) (kt : y < x → W p l e R s m args below meth c H locs cells slots Q (F0 m tgt ls rest)) (kf : ¬ y < x → W p l e R s m args below meth c H locs cells slots Q (F0 m (pc + 4) ls rest)) : W p l e R s m args below meth c H locs cells slots Q (F0 m pc ls (.long (lZ y) :: .long (lZ x) :: rest)) := by
  have hi := lZ_lt h3 h4 h1 h2
  refine W.lcmp hx hb hd0 ?_
  refine lv_if_gt hx hb hdg ht (fun q => kt ?_) (fun q => kf ?_)
  · exact hi.mp (lg_gt.mp q)
  · exact fun z => q (lg_gt.mpr (hi.mpr z))
theorem z_lcmp_le (hx : p.tables.exec = Jvm.exec) (hb : c.code = cc) {x y : Int} (h1 : -9223372036854775808 ≤ x) (h2 : x < 9223372036854775808) (h3 : -9223372036854775808 ≤ y) (h4 : y < 9223372036854775808) {off : Int} {tgt : Nat} (hd0 : decode cc pc = .ok (.lcmp, 1)) (hdg : decode cc (pc + 1) = .ok (.ifCond .le off, 3)) (ht : ((pc + 1 : Nat) : Int) + off = (tgt : Int)) (kt : ¬ y < x → W p l e R s m args below meth c H locs cells slots Q (F0 m tgt ls rest)) (kf : y < x → W p l e R s m args below meth c H locs cells slots Q (F0 m (pc + 4) ls rest)) : W p l e R s m args below meth c H locs cells slots Q (F0 m pc ls (.long (lZ y) :: .long (lZ x) :: rest)) := by
  have hi := lZ_lt h3 h4 h1 h2
  refine W.lcmp hx hb hd0 ?_
  refine lv_if_le hx hb hdg ht (fun q => kt ?_) (fun q => kf ?_)
  · exact fun z => (lg_le.mp q) (hi.mpr z)
  · exact hi.mp (Classical.not_not.mp (fun z => q (lg_le.mpr z)))
theorem z_iald (hx : p.tables.exec = Jvm.exec) (hb : c.code = cc) (hK : cq_K D cl tys nw s) (hP : va_P D cl ws H) (q0 t0 : Nat) {cA : ClassId} {n : Nat} {f : Int → Int} (ha : ws[q0]? = some (a, .inl (cA, n, .inl (aI f)))) (ht : tys[t0]? = some (cA, .int)) {i : Int} (h1 : 0 ≤ i) (h2 : i < (n : Int)) (hn : n < 2147483648) (hdg : decode cc pc = .ok (.iaload, 1))
    (kk : W p l e R s m args below meth c H locs cells slots Q (F0 m (pc + 1) ls (.int (iZ (f i)) :: rest))) : W p l e R s m args below meth c H locs cells slots Q (F0 m pc ls (.int (iZ i) :: .ref a :: rest)) :=
  va_iald hx hb hK.1 hP q0 t0 ha ht (iZ_in h1 h2 hn) hdg (cq_ti (aI_get f h1 (by omega)) kk)
theorem z_zald (hx : p.tables.exec = Jvm.exec) (hb : c.code = cc) (hK : cq_K D cl tys nw s) (hP : va_P D cl ws H) (q0 t0 : Nat) {cA : ClassId} {n : Nat} {f : Int → Int} (ha : ws[q0]? = some (a, .inl (cA, n, .inl (aI f)))) (ht : tys[t0]? = some (cA, .boolean)) {i : Int} (h1 : 0 ≤ i) (h2 : i < (n : Int)) (hn : n < 2147483648) (hdg : decode cc pc = .ok (.baload, 1))
    (kk : W p l e R s m args below meth c H locs cells slots Q (F0 m (pc + 1) ls (.int (iZ (f i)) :: rest))) : W p l e R s m args below meth c H locs cells slots Q (F0 m pc ls (.int (iZ i) :: .ref a :: rest)) :=
  va_zald hx hb hK.1 hP q0 t0 ha ht (iZ_in h1 h2 hn) hdg (cq_ti (aI_get f h1 (by omega)) kk)
theorem z_lald (hx : p.tables.exec = Jvm.exec) (hb : c.code = cc) (hK : cq_K D cl tys nw s) (hP : va_P D cl ws H) (q0 t0 : Nat) {cA : ClassId} {n : Nat} {f : Int → Int} (ha : ws[q0]? = some (a, .inl (cA, n, .inr (.inl (aL f))))) (ht : tys[t0]? = some (cA, .long)) {i : Int} (h1 : 0 ≤ i) (h2 : i < (n : Int)) (hn : n < 2147483648) (hdg : decode cc pc = .ok (.laload, 1))
    (kk : W p l e R s m args below meth c H locs cells slots Q (F0 m (pc + 1) ls (.long (lZ (f i)) :: rest))) : W p l e R s m args below meth c H locs cells slots Q (F0 m pc ls (.int (iZ i) :: .ref a :: rest)) :=
  va_lald hx hb hK.1 hP q0 t0 ha ht (iZ_in h1 h2 hn) hdg (cq_tl (aL_get f h1 (by omega)) kk)
theorem z_iast (hx : p.tables.exec = Jvm.exec) (hb : c.code = cc) (hK : cq_K D cl tys nw s) (hP : va_P D cl ws H) (hD : va_D A ws) (hS : va_S A H0 H locs) (q0 t0 : Nat) {cA : ClassId} {n : Nat} {f : Int → Int} (ha : ws[q0]? = some (a, .inl (cA, n, .inl (aI f)))) (ht : tys[t0]? = some (cA, .int)) {i x : Int} (h1 : 0 ≤ i) (h2 : i < (n : Int)) (hn : n < 2147483648) (hdg : decode cc pc = .ok (.iastore, 1))
    (kk : ∀ (H1 : Heap) (locs1 : List Loc), va_P D cl (ws.set q0 (a, .inl (cA, n, .inl (aI (pu f i x))))) H1 → va_D A (ws.set q0 (a, .inl (cA, n, .inl (aI (pu f i x))))) → va_S A H0 H1 locs1 → W p l e R s m args below meth c H1 locs1 cells slots Q (F0 m (pc + 1) ls rest)) : W p l e R s m args below meth c H locs cells slots Q (F0 m pc ls (.int (iZ x) :: .int (iZ i) :: .ref a :: rest)) := by
  refine va_iast hx hb hK.1 hP hD hS q0 t0 ha ht (iZ_in h1 h2 hn) hdg (fun H1 locs1 hP1 hD1 hS1 => ?_)
  rw [aI_set f h1 (by omega)] at hP1 hD1
  exact kk H1 locs1 hP1 hD1 hS1
theorem z_zast (hx : p.tables.exec = Jvm.exec) (hb : c.code = cc) (hK : cq_K D cl tys nw s) (hP : va_P D cl ws H) (hD : va_D A ws) (hS : va_S A H0 H locs) (q0 t0 : Nat) {cA : ClassId} {n : Nat} {f : Int → Int} (ha : ws[q0]? = some (a, .inl (cA, n, .inl (aI f)))) (ht : tys[t0]? = some (cA, .boolean)) {i x : Int} (h1 : 0 ≤ i) (h2 : i < (n : Int)) (hn : n < 2147483648) (h5 : 0 ≤ x) (h6 : x < 2) (hdg : decode cc pc = .ok (.bastore, 1))
    (kk : ∀ (H1 : Heap) (locs1 : List Loc), va_P D cl (ws.set q0 (a, .inl (cA, n, .inl (aI (pu f i x))))) H1 → va_D A (ws.set q0 (a, .inl (cA, n, .inl (aI (pu f i x))))) → va_S A H0 H1 locs1 → W p l e R s m args below meth c H1 locs1 cells slots Q (F0 m (pc + 1) ls rest)) : W p l e R s m args below meth c H locs cells slots Q (F0 m pc ls (.int (iZ x) :: .int (iZ i) :: .ref a :: rest)) := by
  refine va_zast hx hb hK.1 hP hD hS q0 t0 ha ht (iZ_in h1 h2 hn) hdg (fun H1 locs1 hP1 hD1 hS1 => ?_)
  rw [bo_nar h5 h6, aI_set f h1 (by omega)] at hP1 hD1
  exact kk H1 locs1 hP1 hD1 hS1
theorem z_last (hx : p.tables.exec = Jvm.exec) (hb : c.code = cc) (hK : cq_K D cl tys nw s) (hP : va_P D cl ws H) (hD : va_D A ws) (hS : va_S A H0 H locs) (q0 t0 : Nat) {cA : ClassId} {n : Nat} {f : Int → Int} (ha : ws[q0]? = some (a, .inl (cA, n, .inr (.inl (aL f))))) (ht : tys[t0]? = some (cA, .long)) {i x : Int} (h1 : 0 ≤ i) (h2 : i < (n : Int)) (hn : n < 2147483648) (hdg : decode cc pc = .ok (.lastore, 1))
    (kk : ∀ (H1 : Heap) (locs1 : List Loc), va_P D cl (ws.set q0 (a, .inl (cA, n, .inr (.inl (aL (pu f i x)))))) H1 → va_D A (ws.set q0 (a, .inl (cA, n, .inr (.inl (aL (pu f i x)))))) → va_S A H0 H1 locs1 → W p l e R s m args below meth c H1 locs1 cells slots Q (F0 m (pc + 1) ls rest)) : W p l e R s m args below meth c H locs cells slots Q (F0 m pc ls (.long (lZ x) :: .int (iZ i) :: .ref a :: rest)) := by
  refine va_last hx hb hK.1 hP hD hS q0 t0 ha ht (iZ_in h1 h2 hn) hdg (fun H1 locs1 hP1 hD1 hS1 => ?_)
  rw [aL_set f h1 (by omega)] at hP1 hD1
  exact kk H1 locs1 hP1 hD1 hS1
theorem z_lushr33 (hx : p.tables.exec = Jvm.exec) (hb : c.code = cc) {x : Int} (hdg : decode cc pc = .ok (.lushr, 1)) (k : W p l e R s m args below meth c H locs cells slots Q (F0 m (pc + 1) ls (.long (lZ (x % 18446744073709551616 / 8589934592)) :: rest))) : W p l e R s m args below meth c H locs cells slots Q (F0 m pc ls (.int (iZ 33) :: .long (lZ x) :: rest)) := lv_lushr hx hb hdg (lZ_ush33 x) k
end NW
