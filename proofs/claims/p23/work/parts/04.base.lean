/-! base: pure steps, contracts over explicit worlds, calls -/
def bd {α β : Type} (x : Option α) (k : α → Option β) : Option β := match x with
  | none => none
  | some a => k a
def lt1 {α β : Type} (e : α) (k : α → β) : β := k e
def lpR {σ : Type} (step : σ → σ) (z : σ) : Nat → σ
  | 0 => z
  | j + 1 => step (lpR step z j)
theorem ckP {α : Type} {c : Prop} [Decidable c] {x O : Option α} (hN : O ≠ none) (h : (if c then x else none) = O) : c ∧ x = O := by
  by_cases hc : c
  · rw [if_pos hc] at h; exact ⟨hc, h⟩
  · rw [if_neg hc] at h; exact absurd h.symm hN
theorem ifT {α : Type} {c : Prop} [Decidable c] {x y O : α} (hc : c) (h : (if c then x else y) = O) : x = O := by
  rw [if_pos hc] at h; exact h
theorem ifF {α : Type} {c : Prop} [Decidable c] {x y O : α} (hc : ¬ c) (h : (if c then x else y) = O) : y = O := by
  rw [if_neg hc] at h; exact h
theorem bdN {α β : Type} {x : Option α} {k : α → Option β} {O : Option β} (hN : O ≠ none) (h : bd x k = O) : x ≠ none := by
  intro e; subst e; exact hN h.symm
theorem bdQ {α β : Type} {x : Option α} {k : α → Option β} {O : Option β} {u : α} (hx : x = some u) (h : bd x k = O) : k u = O := by
  subst hx; exact h
theorem ltP {α β : Type} {e v : α} {k : α → β} {O : β} (hv : v = e) (h : lt1 e k = O) : k v = O := by
  subst hv; exact h
def resv : Nat → Value := fun k => match k with
  | 0 => .long 1970170228
  | 1 => .long 7955827
  | 2 => .long 28271
  | 3 => .long 7562612
  | 4 => .long 444300616805
  | 5 => .long 1650551909
  | _ => .long 125779836236645
def resL : Nat → Int64 := fun k => match k with
  | 0 => 1970170228
  | 1 => 7955827
  | 2 => 28271
  | 3 => 7562612
  | 4 => 444300616805
  | 5 => 1650551909
  | _ => 125779836236645
theorem resv_L : ∀ k, resv k = .long (resL k)
  | 0 => rfl
  | 1 => rfl
  | 2 => rfl
  | 3 => rfl
  | 4 => rfl
  | 5 => rfl
  | _ + 6 => rfl
def NW (U : State) : Prop := ∀ w ∈ NL, va_Nw w U
theorem NW.warm {s U : State} (hW : s.WarmedH U.vm) (h : NW s) : NW U := by
  intro w hw
  have h1 := h w hw
  have h2 : isNest w = true := (List.mem_filter.mp hw).2
  cases w <;> first | exact va_Nw.warmF hW h1 | exact va_Nw.warmM hW h1 | (simp [isNest] at h2)
theorem NW.same {s U : State} (hv : s.vm = U.vm) (h : NW s) : NW U := by
  intro w hw
  have h1 := h w hw
  have h2 : isNest w = true := (List.mem_filter.mp hw).2
  cases w <;> first | exact va_Nw.same rfl hv h1 | (simp [isNest] at h2)
def RZ (rz : Nat) (A : Nat → Prop) (U : State) : Prop := va_Z RX4 "RESERVED" "[J" (.ref rz) A U U.heap ∧ va_T .long rz 7 resv A U U.heap
def EV (D : va_G) (cB cI cJ cZ : ClassId) (rz : Nat) (A : Nat → Prop) (U : State) : Prop := va_K D classes (tys4 cB cI cJ cZ) U ∧ NW U ∧ RZ rz A U
def PW (D : va_G) (cB cI cJ cZ : ClassId) (rz : Nat) (av : List Value) (ws : va_W) (sz : Nat) : Array Value → State → Prop := va_Pc av (fun U => U.heap.size = sz ∧ va_P D classes ws U.heap ∧ va_D (fun _ => True) ws ∧ EV D cB cI cJ cZ rz (va_A ws sz) U)
def QI {S : Type} (D : va_G) (O : Option (Int32 × S)) (Wf : Int32 × S → va_W) (A : Nat → Prop) : Array Value → State → Outcome → State → Prop := va_Qi (fun r u => O = some u ∧ r = u.1) (fun u t => va_P D classes (Wf u) t.heap ∧ va_D A (Wf u)) A
def QZ {S : Type} (D : va_G) (O : Option (Int32 × S)) (Wf : Int32 × S → va_W) (A : Nat → Prop) : Array Value → State → Outcome → State → Prop := va_Qi (fun r u => O = some u ∧ r = u.1 ∧ narrow .boolean (.int u.1) = .int u.1) (fun u t => va_P D classes (Wf u) t.heap ∧ va_D A (Wf u)) A
def QJ {S : Type} (D : va_G) (O : Option (Int64 × S)) (Wf : Int64 × S → va_W) (A : Nat → Prop) : Array Value → State → Outcome → State → Prop := va_Ql (fun r u => O = some u ∧ r = u.1) (fun u t => va_P D classes (Wf u) t.heap ∧ va_D A (Wf u)) A
def QV {S : Type} (D : va_G) (O : Option (Unit × S)) (Wf : Unit × S → va_W) (A : Nat → Prop) : Array Value → State → Outcome → State → Prop := va_Qv (fun u => O = some u) (fun u t => va_P D classes (Wf u) t.heap ∧ va_D A (Wf u)) A
/-- a constructor's end: new addresses b -/
def QN {S : Type} (D : va_G) (O : Option (Unit × S)) (Wf : Unit × S → List Nat → va_W) (nb : Nat) (A : Nat → Prop) : Array Value → State → Outcome → State → Prop := va_Qv (fun u : (Unit × S) × List Nat => O = some u.1 ∧ u.2.length = nb) (fun u t => va_P D classes (Wf u.1 u.2) t.heap ∧ va_D A (Wf u.1 u.2)) A
theorem PW_blind (D : va_G) (cB cI cJ cZ : ClassId) (rz : Nat) (av : List Value) (ws : va_W) (sz : Nat) : FrameBlind (PW D cB cI cJ cZ rz av ws sz) := by
  intro a U g mk q
  obtain ⟨q0, q1, qP, qD, qK, qN, qZ, qT⟩ := q
  exact ⟨q0, q1, qP, qD, va_K.moved (u := U) (U := U.calling g mk a) (Vm.Alike.refl U.vm) qK, NW.same (s := U) (U := U.calling g mk a) rfl qN, va_Z.moved (u := U) (U := U.calling g mk a) (Vm.Alike.refl U.vm) qZ, va_T.moved (u := U) (U := U.calling g mk a) (Vm.Alike.refl U.vm) qT⟩
theorem PW_pre {D : va_G} {cB cI cJ cZ : ClassId} {rz : Nat} {av : List Value} {wc : va_W} {A : Nat → Prop} {s : State} {H : Heap} {locs : List Loc} (hE : EV D cB cI cJ cZ rz A s) (hS : va_S A s.heap H locs) (hF : ∀ q, va_A wc H.size q → A q) (hP : va_P D classes wc H) (hD : va_D A wc) : ∀ U : State, U.heap = H → s.WarmedH U.vm → PW D cB cI cJ cZ rz av wc H.size av.toArray U := by
  intro U hU hW
  obtain ⟨hK, hN, hZ, hT⟩ := hE
  refine ⟨rfl, by rw [hU], by rw [hU]; exact hP, hD.weaken (fun _ _ _ _ => trivial), va_K.moved hW.alike hK, NW.warm hW hN, ?_, ?_⟩
  · rw [hU]
    exact ((hZ.kept (fun a h1 h2 => hS.2.1 a h1 h2)).narrow hF).moved hW.alike
  · rw [hU]
    exact ((hT.kept (fun a h1 h2 => hS.2.1 a h1 h2)).narrow hF).moved hW.alike
theorem gAll {c : Cond} (hc : c ∈ AL) : GoodIn AL (c :: AL) := fun w h => by
  rcases List.mem_cons.mp h with rfl | h
  · exact ⟨hc, good_of_word (AL_good hc)⟩
  · exact ⟨h, good_of_word (AL_good h)⟩
theorem gOne {big ws : List Cond} {c : Cond} (hc : c ∈ AL) (h : GoodIn AL ws) (hb : ∀ w ∈ AL, w ∈ big) : GoodIn big (c :: ws) := fun w hw => by
  rcases List.mem_cons.mp hw with rfl | hw
  · exact ⟨hb _ hc, good_of_word (AL_good hc)⟩
  · exact ⟨hb _ (h w hw).1, (h w hw).2⟩
theorem gV {own C : String} {idx : Nat} {y : MethodName} {c : Cond} (w1 : Cond.methodLink own idx y ∈ AL) (w2 : Cond.instanceMethod y ∈ AL) (w3 : Cond.selects C y y ∈ AL) (w4 : Cond.initialized C ∈ AL) (w5 : c ∈ AL) : GoodIn AL (wsV own idx C y (c :: AL)) :=
  gOne w1 (gOne w2 (gOne w3 (gOne w4 (gAll w5) (fun _ h => h)) (fun _ h => h)) (fun _ h => h)) (fun _ h => h)
theorem gS {own : String} {idx : Nat} {y : MethodName} {c : Cond} (w1 : Cond.methodLink own idx y ∈ AL) (w2 : Cond.static y ∈ AL) (w4 : Cond.initialized y.cls ∈ AL) (w5 : c ∈ AL) : GoodIn AL (va_wsS own idx y (c :: AL)) :=
  gOne w1 (gOne w2 (gOne w4 (gAll w5) (fun _ h => h)) (fun _ h => h)) (fun _ h => h)
theorem fm_of_map {α : Type} {f : Nat → Option α} : ∀ {is : List Nat} {l : List α}, is.map f = l.map some → is.filterMap f = l
  | [], [], _ => rfl
  | [], _ :: _, h => by simp at h
  | _ :: _, [], h => by simp at h
  | i :: is, a :: l, h => by
    simp only [List.map_cons, List.cons.injEq] at h
    rw [List.filterMap_cons, h.1, fm_of_map h.2]
def CBn (y : MethodName) (n : Nat) : Prop := y.cls ≠ "java/lang/invoke/MethodHandle" ∧ y.cls ≠ "java/lang/invoke/VarHandle" ∧ (parseMethodDescriptor y.desc).map (fun d => d.parameters.length) = some n
section BASE
variable {p : Program} {l : Launch} {e : Env} {R : Room} {s : State} {m : MethodId} {args : Array Value} {below : List Frame} {meth : Method} {c : Code} {H : Heap} {locs : List Loc} {cells slots : Nat} {Q : State → Prop}
variable {cc bytes : ByteArray} {pc nL idx maxL mc ms n : Nat} {own : String} {y : MethodName} {ret : Option FieldType} {ls : Array Slot} {rest As st0 : List Value} {rm : Room} {b : Nat}
variable {D : va_G} {cB cI cJ cZ : ClassId} {rz : Nat} {A : Nat → Prop} {ws wc wr : va_W}
/-- what a call has behind it -/
theorem jn {w1 W2 : va_W} {H1 : Heap} (hP : va_P D classes ws H) (hD : va_D A ws) (isC isR perm : List Nat) (hC : isC.map (fun i => ws[i]?) = wc.map some) (hR : isR.map (fun i => ws[i]?) = wr.map some) (hn : va_nd isR = true) (hdis : ∀ i ∈ isR, i ∉ isC) (hnp : va_nd perm = true) (hW2 : perm.map (fun i => (wr ++ w1)[i]?) = W2.map some) (hk : ∀ q : Nat, q < H.size → ¬ va_A wc H.size q → H1[q]? = H[q]?) (hF : ∀ q, va_A wc H.size q → A q) (hP1 : va_P D classes w1 H1) (hD1 : va_D (va_A wc H.size) w1) : va_P D classes W2 H1 ∧ va_D A W2 := by
  obtain ⟨a1, a2⟩ := va_join hP hD isC isR hC hR hn hdis hk hF hP1 hD1
  exact ⟨a1.sub perm (fm_of_map hW2), a2.sub perm hnp hW2⟩
theorem callVI {S : Type} {O : Option (Int32 × S)} {Wf W2 : Int32 × S → va_W} (X : CallFix p m c cc nL s args AL own) (hE : EV D cB cI cJ cZ rz A s) (hP : va_P D classes ws H) (hD : va_D A ws) (hS : va_S A s.heap H locs) (hA : ∀ q, s.heap.size ≤ q → A q)
    (hM : Met l y (Cond.code y bytes maxL ret :: AL) rm (PW D cB cI cJ cZ rz (.ref b :: As) wc H.size) (QI D O Wf (va_A wc H.size)) mc ms (va_A wc H.size))
    (w1 : Cond.methodLink own idx y ∈ AL) (w2 : Cond.instanceMethod y ∈ AL) (w3 : Cond.selects y.cls y y ∈ AL) (w4 : Cond.initialized y.cls ∈ AL) (w5 : Cond.code y bytes maxL ret ∈ AL) (hd : CBn y n) (hrc : rm.cells = mc) (hrs : rm.slots = ms) (hR : rm.frames + 1 ≤ R.frames ∧ 8 + (maxL + 11) + rm.locals ≤ R.locals) (hn : As.length = n) (hsz : ls.size = nL) (hst0 : st0 = As.reverse ++ .ref b :: rest) (hst : (rest.map fun v => v.category).sum ≤ 8) (hdg : decode cc pc = .ok (.invokevirtual idx, 3)) (hcap : cells + mc ≤ R.cells ∧ slots + ms ≤ R.slots) {c2 s2 : Nat} (hc2 : cells + mc = c2) (hs2 : slots + ms = s2) {ci k0 : Nat} {T : u_T} {N : Nat} {fs : List Value} (hre : ws[k0]? = some (b, .inr (ci, fs))) (hci : classes[ci]? = some (y.cls, T, N))
    (isC isR perm : List Nat) (hC : isC.map (fun i => ws[i]?) = wc.map some) (hRr : isR.map (fun i => ws[i]?) = wr.map some) (hnC : va_nd isC = true) (hnR : va_nd isR = true) (hdis : ∀ i ∈ isR, i ∉ isC) (hnp : va_nd perm = true) (hW2 : ∀ u, perm.map (fun i => (wr ++ Wf u)[i]?) = (W2 u).map some)
    (kk : ∀ (u : Int32 × S) (H1 : Heap) (locs1 : List Loc), O = some u → va_P D classes (W2 u) H1 → va_D A (W2 u) → va_S A s.heap H1 locs1 → W p l e R s m args below meth c H1 locs1 c2 s2 Q (F0 m (pc + 3) ls (.int u.1 :: rest))) : W p l e R s m args below meth c H locs cells slots Q (F0 m pc ls st0) := by
  subst hst0; subst hc2; subst hs2
  have hPc : va_P D classes wc H := hP.sub isC (fm_of_map hC)
  have hDc : va_D A wc := hD.sub isC hnC hC
  have hFc := va_free (wc := wc) hD hS hA isC hC
  refine va_calli (va_runV (As := As) (rest := rest) X hM (cwV n X.2.2.2.2 (gV w1 w2 w3 w4 w5) rfl hrc hrs ⟨rfl, hd⟩ hR) ⟨PW_blind D cB cI cJ cZ rz _ wc H.size, va_recv hE.1 hP hci hre, PW_pre hE hS hFc hPc hDc⟩ rfl hn hsz rfl (lv_room hst) hdg hcap) hS (fun q _ h => hFc q h) hFc (fun r u t H1 locs1 ht hvm hw hB hz1 hk1 hS1 => ?_)
  obtain ⟨hw, rfl⟩ := hw
  obtain ⟨hP1, hD1⟩ := hB
  rw [ht] at hP1
  obtain ⟨hP2, hD2⟩ := jn hP hD isC isR perm hC hRr hnR hdis hnp (hW2 u) hk1 hFc hP1 hD1
  exact kk u H1 locs1 hw hP2 hD2 hS1
theorem callVZ {S : Type} {O : Option (Int32 × S)} {Wf W2 : Int32 × S → va_W} (X : CallFix p m c cc nL s args AL own) (hE : EV D cB cI cJ cZ rz A s) (hP : va_P D classes ws H) (hD : va_D A ws) (hS : va_S A s.heap H locs) (hA : ∀ q, s.heap.size ≤ q → A q)
    (hM : Met l y (Cond.code y bytes maxL ret :: AL) rm (PW D cB cI cJ cZ rz (.ref b :: As) wc H.size) (QZ D O Wf (va_A wc H.size)) mc ms (va_A wc H.size))
    (w1 : Cond.methodLink own idx y ∈ AL) (w2 : Cond.instanceMethod y ∈ AL) (w3 : Cond.selects y.cls y y ∈ AL) (w4 : Cond.initialized y.cls ∈ AL) (w5 : Cond.code y bytes maxL ret ∈ AL) (hd : CBn y n) (hrc : rm.cells = mc) (hrs : rm.slots = ms) (hR : rm.frames + 1 ≤ R.frames ∧ 8 + (maxL + 11) + rm.locals ≤ R.locals) (hn : As.length = n) (hsz : ls.size = nL) (hst0 : st0 = As.reverse ++ .ref b :: rest) (hst : (rest.map fun v => v.category).sum ≤ 8) (hdg : decode cc pc = .ok (.invokevirtual idx, 3)) (hcap : cells + mc ≤ R.cells ∧ slots + ms ≤ R.slots) {c2 s2 : Nat} (hc2 : cells + mc = c2) (hs2 : slots + ms = s2) {ci k0 : Nat} {T : u_T} {N : Nat} {fs : List Value} (hre : ws[k0]? = some (b, .inr (ci, fs))) (hci : classes[ci]? = some (y.cls, T, N))
    (isC isR perm : List Nat) (hC : isC.map (fun i => ws[i]?) = wc.map some) (hRr : isR.map (fun i => ws[i]?) = wr.map some) (hnC : va_nd isC = true) (hnR : va_nd isR = true) (hdis : ∀ i ∈ isR, i ∉ isC) (hnp : va_nd perm = true) (hW2 : ∀ u, perm.map (fun i => (wr ++ Wf u)[i]?) = (W2 u).map some)
    (kk : ∀ (u : Int32 × S) (H1 : Heap) (locs1 : List Loc), O = some u → narrow .boolean (.int u.1) = .int u.1 → va_P D classes (W2 u) H1 → va_D A (W2 u) → va_S A s.heap H1 locs1 → W p l e R s m args below meth c H1 locs1 c2 s2 Q (F0 m (pc + 3) ls (.int u.1 :: rest))) : W p l e R s m args below meth c H locs cells slots Q (F0 m pc ls st0) := by
  subst hst0; subst hc2; subst hs2
  have hPc : va_P D classes wc H := hP.sub isC (fm_of_map hC)
  have hDc : va_D A wc := hD.sub isC hnC hC
  have hFc := va_free (wc := wc) hD hS hA isC hC
  refine va_calli (va_runV (As := As) (rest := rest) X hM (cwV n X.2.2.2.2 (gV w1 w2 w3 w4 w5) rfl hrc hrs ⟨rfl, hd⟩ hR) ⟨PW_blind D cB cI cJ cZ rz _ wc H.size, va_recv hE.1 hP hci hre, PW_pre hE hS hFc hPc hDc⟩ rfl hn hsz rfl (lv_room hst) hdg hcap) hS (fun q _ h => hFc q h) hFc (fun r u t H1 locs1 ht hvm hw hB hz1 hk1 hS1 => ?_)
  obtain ⟨hw, rfl, hz⟩ := hw
  obtain ⟨hP1, hD1⟩ := hB
  rw [ht] at hP1
  obtain ⟨hP2, hD2⟩ := jn hP hD isC isR perm hC hRr hnR hdis hnp (hW2 u) hk1 hFc hP1 hD1
  exact kk u H1 locs1 hw hz hP2 hD2 hS1
theorem callVJ {S : Type} {O : Option (Int64 × S)} {Wf W2 : Int64 × S → va_W} (X : CallFix p m c cc nL s args AL own) (hE : EV D cB cI cJ cZ rz A s) (hP : va_P D classes ws H) (hD : va_D A ws) (hS : va_S A s.heap H locs) (hA : ∀ q, s.heap.size ≤ q → A q)
    (hM : Met l y (Cond.code y bytes maxL ret :: AL) rm (PW D cB cI cJ cZ rz (.ref b :: As) wc H.size) (QJ D O Wf (va_A wc H.size)) mc ms (va_A wc H.size))
    (w1 : Cond.methodLink own idx y ∈ AL) (w2 : Cond.instanceMethod y ∈ AL) (w3 : Cond.selects y.cls y y ∈ AL) (w4 : Cond.initialized y.cls ∈ AL) (w5 : Cond.code y bytes maxL ret ∈ AL) (hd : CBn y n) (hrc : rm.cells = mc) (hrs : rm.slots = ms) (hR : rm.frames + 1 ≤ R.frames ∧ 8 + (maxL + 11) + rm.locals ≤ R.locals) (hn : As.length = n) (hsz : ls.size = nL) (hst0 : st0 = As.reverse ++ .ref b :: rest) (hst : (rest.map fun v => v.category).sum ≤ 8) (hdg : decode cc pc = .ok (.invokevirtual idx, 3)) (hcap : cells + mc ≤ R.cells ∧ slots + ms ≤ R.slots) {c2 s2 : Nat} (hc2 : cells + mc = c2) (hs2 : slots + ms = s2) {ci k0 : Nat} {T : u_T} {N : Nat} {fs : List Value} (hre : ws[k0]? = some (b, .inr (ci, fs))) (hci : classes[ci]? = some (y.cls, T, N))
    (isC isR perm : List Nat) (hC : isC.map (fun i => ws[i]?) = wc.map some) (hRr : isR.map (fun i => ws[i]?) = wr.map some) (hnC : va_nd isC = true) (hnR : va_nd isR = true) (hdis : ∀ i ∈ isR, i ∉ isC) (hnp : va_nd perm = true) (hW2 : ∀ u, perm.map (fun i => (wr ++ Wf u)[i]?) = (W2 u).map some)
    (kk : ∀ (u : Int64 × S) (H1 : Heap) (locs1 : List Loc), O = some u → va_P D classes (W2 u) H1 → va_D A (W2 u) → va_S A s.heap H1 locs1 → W p l e R s m args below meth c H1 locs1 c2 s2 Q (F0 m (pc + 3) ls (.long u.1 :: rest))) : W p l e R s m args below meth c H locs cells slots Q (F0 m pc ls st0) := by
  subst hst0; subst hc2; subst hs2
  have hPc : va_P D classes wc H := hP.sub isC (fm_of_map hC)
  have hDc : va_D A wc := hD.sub isC hnC hC
  have hFc := va_free (wc := wc) hD hS hA isC hC
  refine va_calll (va_runV (As := As) (rest := rest) X hM (cwV n X.2.2.2.2 (gV w1 w2 w3 w4 w5) rfl hrc hrs ⟨rfl, hd⟩ hR) ⟨PW_blind D cB cI cJ cZ rz _ wc H.size, va_recv hE.1 hP hci hre, PW_pre hE hS hFc hPc hDc⟩ rfl hn hsz rfl (lv_room hst) hdg hcap) hS (fun q _ h => hFc q h) hFc (fun r u t H1 locs1 ht hvm hw hB hz1 hk1 hS1 => ?_)
  obtain ⟨hw, rfl⟩ := hw
  obtain ⟨hP1, hD1⟩ := hB
  rw [ht] at hP1
  obtain ⟨hP2, hD2⟩ := jn hP hD isC isR perm hC hRr hnR hdis hnp (hW2 u) hk1 hFc hP1 hD1
  exact kk u H1 locs1 hw hP2 hD2 hS1
theorem callVV {S : Type} {O : Option (Unit × S)} {Wf W2 : Unit × S → va_W} (X : CallFix p m c cc nL s args AL own) (hE : EV D cB cI cJ cZ rz A s) (hP : va_P D classes ws H) (hD : va_D A ws) (hS : va_S A s.heap H locs) (hA : ∀ q, s.heap.size ≤ q → A q)
    (hM : Met l y (Cond.code y bytes maxL ret :: AL) rm (PW D cB cI cJ cZ rz (.ref b :: As) wc H.size) (QV D O Wf (va_A wc H.size)) mc ms (va_A wc H.size))
    (w1 : Cond.methodLink own idx y ∈ AL) (w2 : Cond.instanceMethod y ∈ AL) (w3 : Cond.selects y.cls y y ∈ AL) (w4 : Cond.initialized y.cls ∈ AL) (w5 : Cond.code y bytes maxL ret ∈ AL) (hd : CBn y n) (hrc : rm.cells = mc) (hrs : rm.slots = ms) (hR : rm.frames + 1 ≤ R.frames ∧ 8 + (maxL + 11) + rm.locals ≤ R.locals) (hn : As.length = n) (hsz : ls.size = nL) (hst0 : st0 = As.reverse ++ .ref b :: rest) (hst : (rest.map fun v => v.category).sum ≤ 8) (hdg : decode cc pc = .ok (.invokevirtual idx, 3)) (hcap : cells + mc ≤ R.cells ∧ slots + ms ≤ R.slots) {c2 s2 : Nat} (hc2 : cells + mc = c2) (hs2 : slots + ms = s2) {ci k0 : Nat} {T : u_T} {N : Nat} {fs : List Value} (hre : ws[k0]? = some (b, .inr (ci, fs))) (hci : classes[ci]? = some (y.cls, T, N))
    (isC isR perm : List Nat) (hC : isC.map (fun i => ws[i]?) = wc.map some) (hRr : isR.map (fun i => ws[i]?) = wr.map some) (hnC : va_nd isC = true) (hnR : va_nd isR = true) (hdis : ∀ i ∈ isR, i ∉ isC) (hnp : va_nd perm = true) (hW2 : ∀ u, perm.map (fun i => (wr ++ Wf u)[i]?) = (W2 u).map some)
    (kk : ∀ (u : Unit × S) (H1 : Heap) (locs1 : List Loc), O = some u → va_P D classes (W2 u) H1 → va_D A (W2 u) → va_S A s.heap H1 locs1 → W p l e R s m args below meth c H1 locs1 c2 s2 Q (F0 m (pc + 3) ls (rest))) : W p l e R s m args below meth c H locs cells slots Q (F0 m pc ls st0) := by
  subst hst0; subst hc2; subst hs2
  have hPc : va_P D classes wc H := hP.sub isC (fm_of_map hC)
  have hDc : va_D A wc := hD.sub isC hnC hC
  have hFc := va_free (wc := wc) hD hS hA isC hC
  refine va_callv (va_runV (As := As) (rest := rest) X hM (cwV n X.2.2.2.2 (gV w1 w2 w3 w4 w5) rfl hrc hrs ⟨rfl, hd⟩ hR) ⟨PW_blind D cB cI cJ cZ rz _ wc H.size, va_recv hE.1 hP hci hre, PW_pre hE hS hFc hPc hDc⟩ rfl hn hsz rfl (lv_room hst) hdg hcap) hS (fun q _ h => hFc q h) hFc (fun u t H1 locs1 ht hvm hw hB hz1 hk1 hS1 => ?_)
  obtain ⟨hP1, hD1⟩ := hB
  rw [ht] at hP1
  obtain ⟨hP2, hD2⟩ := jn hP hD isC isR perm hC hRr hnR hdis hnp (hW2 u) hk1 hFc hP1 hD1
  exact kk u H1 locs1 hw hP2 hD2 hS1
theorem callVNI {S : Type} {O : Option (Int32 × S)} {Wf W2 : Int32 × S → va_W} (X : CallFix p m c cc nL s args AL own) (hE : EV D cB cI cJ cZ rz A s) (hP : va_P D classes ws H) (hD : va_D A ws) (hS : va_S A s.heap H locs) (hA : ∀ q, s.heap.size ≤ q → A q)
    (hM : Met l y (Cond.code y bytes maxL ret :: AL) rm (PW D cB cI cJ cZ rz (.ref b :: As) wc H.size) (QI D O Wf (va_A wc H.size)) mc ms (va_A wc H.size))
    (w1 : Cond.methodLinkNest own idx y RX6 ∈ NL) (w2 : Cond.instanceMethod y ∈ AL) (w3 : Cond.selects y.cls y y ∈ AL) (w4 : Cond.initialized y.cls ∈ AL) (w5 : Cond.code y bytes maxL ret ∈ AL) (hd : CBn y n) (hrc : rm.cells = mc) (hrs : rm.slots = ms) (hR : rm.frames + 1 ≤ R.frames ∧ 8 + (maxL + 11) + rm.locals ≤ R.locals) (hn : As.length = n) (hsz : ls.size = nL) (hst0 : st0 = As.reverse ++ .ref b :: rest) (hst : (rest.map fun v => v.category).sum ≤ 8) (hdg : decode cc pc = .ok (.invokevirtual idx, 3)) (hcap : cells + mc ≤ R.cells ∧ slots + ms ≤ R.slots) {c2 s2 : Nat} (hc2 : cells + mc = c2) (hs2 : slots + ms = s2) {ci k0 : Nat} {T : u_T} {N : Nat} {fs : List Value} (hre : ws[k0]? = some (b, .inr (ci, fs))) (hci : classes[ci]? = some (y.cls, T, N))
    (isC isR perm : List Nat) (hC : isC.map (fun i => ws[i]?) = wc.map some) (hRr : isR.map (fun i => ws[i]?) = wr.map some) (hnC : va_nd isC = true) (hnR : va_nd isR = true) (hdis : ∀ i ∈ isR, i ∉ isC) (hnp : va_nd perm = true) (hW2 : ∀ u, perm.map (fun i => (wr ++ Wf u)[i]?) = (W2 u).map some)
    (kk : ∀ (u : Int32 × S) (H1 : Heap) (locs1 : List Loc), O = some u → va_P D classes (W2 u) H1 → va_D A (W2 u) → va_S A s.heap H1 locs1 → W p l e R s m args below meth c H1 locs1 c2 s2 Q (F0 m (pc + 3) ls (.int u.1 :: rest))) : W p l e R s m args below meth c H locs cells slots Q (F0 m pc ls st0) := by
  subst hst0; subst hc2; subst hs2
  have hPc : va_P D classes wc H := hP.sub isC (fm_of_map hC)
  have hDc : va_D A wc := hD.sub isC hnC hC
  have hFc := va_free (wc := wc) hD hS hA isC hC
  refine va_calli (va_runVN (As := As) (rest := rest) X hM ⟨va_cnB n X.2.2.2.2 (gAll w5) rfl hrc hrs (hE.2.1 _ w1) (X.2.2.2.2 _ w4) hd hR, X.2.2.2.2 _ w2, X.2.2.2.2 _ w3⟩ ⟨PW_blind D cB cI cJ cZ rz _ wc H.size, va_recv hE.1 hP hci hre, PW_pre hE hS hFc hPc hDc⟩ rfl hn hsz rfl (lv_room hst) hdg hcap) hS (fun q _ h => hFc q h) hFc (fun r u t H1 locs1 ht hvm hw hB hz1 hk1 hS1 => ?_)
  obtain ⟨hw, rfl⟩ := hw
  obtain ⟨hP1, hD1⟩ := hB
  rw [ht] at hP1
  obtain ⟨hP2, hD2⟩ := jn hP hD isC isR perm hC hRr hnR hdis hnp (hW2 u) hk1 hFc hP1 hD1
  exact kk u H1 locs1 hw hP2 hD2 hS1
theorem callVNZ {S : Type} {O : Option (Int32 × S)} {Wf W2 : Int32 × S → va_W} (X : CallFix p m c cc nL s args AL own) (hE : EV D cB cI cJ cZ rz A s) (hP : va_P D classes ws H) (hD : va_D A ws) (hS : va_S A s.heap H locs) (hA : ∀ q, s.heap.size ≤ q → A q)
    (hM : Met l y (Cond.code y bytes maxL ret :: AL) rm (PW D cB cI cJ cZ rz (.ref b :: As) wc H.size) (QZ D O Wf (va_A wc H.size)) mc ms (va_A wc H.size))
    (w1 : Cond.methodLinkNest own idx y RX6 ∈ NL) (w2 : Cond.instanceMethod y ∈ AL) (w3 : Cond.selects y.cls y y ∈ AL) (w4 : Cond.initialized y.cls ∈ AL) (w5 : Cond.code y bytes maxL ret ∈ AL) (hd : CBn y n) (hrc : rm.cells = mc) (hrs : rm.slots = ms) (hR : rm.frames + 1 ≤ R.frames ∧ 8 + (maxL + 11) + rm.locals ≤ R.locals) (hn : As.length = n) (hsz : ls.size = nL) (hst0 : st0 = As.reverse ++ .ref b :: rest) (hst : (rest.map fun v => v.category).sum ≤ 8) (hdg : decode cc pc = .ok (.invokevirtual idx, 3)) (hcap : cells + mc ≤ R.cells ∧ slots + ms ≤ R.slots) {c2 s2 : Nat} (hc2 : cells + mc = c2) (hs2 : slots + ms = s2) {ci k0 : Nat} {T : u_T} {N : Nat} {fs : List Value} (hre : ws[k0]? = some (b, .inr (ci, fs))) (hci : classes[ci]? = some (y.cls, T, N))
    (isC isR perm : List Nat) (hC : isC.map (fun i => ws[i]?) = wc.map some) (hRr : isR.map (fun i => ws[i]?) = wr.map some) (hnC : va_nd isC = true) (hnR : va_nd isR = true) (hdis : ∀ i ∈ isR, i ∉ isC) (hnp : va_nd perm = true) (hW2 : ∀ u, perm.map (fun i => (wr ++ Wf u)[i]?) = (W2 u).map some)
    (kk : ∀ (u : Int32 × S) (H1 : Heap) (locs1 : List Loc), O = some u → narrow .boolean (.int u.1) = .int u.1 → va_P D classes (W2 u) H1 → va_D A (W2 u) → va_S A s.heap H1 locs1 → W p l e R s m args below meth c H1 locs1 c2 s2 Q (F0 m (pc + 3) ls (.int u.1 :: rest))) : W p l e R s m args below meth c H locs cells slots Q (F0 m pc ls st0) := by
  subst hst0; subst hc2; subst hs2
  have hPc : va_P D classes wc H := hP.sub isC (fm_of_map hC)
  have hDc : va_D A wc := hD.sub isC hnC hC
  have hFc := va_free (wc := wc) hD hS hA isC hC
  refine va_calli (va_runVN (As := As) (rest := rest) X hM ⟨va_cnB n X.2.2.2.2 (gAll w5) rfl hrc hrs (hE.2.1 _ w1) (X.2.2.2.2 _ w4) hd hR, X.2.2.2.2 _ w2, X.2.2.2.2 _ w3⟩ ⟨PW_blind D cB cI cJ cZ rz _ wc H.size, va_recv hE.1 hP hci hre, PW_pre hE hS hFc hPc hDc⟩ rfl hn hsz rfl (lv_room hst) hdg hcap) hS (fun q _ h => hFc q h) hFc (fun r u t H1 locs1 ht hvm hw hB hz1 hk1 hS1 => ?_)
  obtain ⟨hw, rfl, hz⟩ := hw
  obtain ⟨hP1, hD1⟩ := hB
  rw [ht] at hP1
  obtain ⟨hP2, hD2⟩ := jn hP hD isC isR perm hC hRr hnR hdis hnp (hW2 u) hk1 hFc hP1 hD1
  exact kk u H1 locs1 hw hz hP2 hD2 hS1
theorem callVNJ {S : Type} {O : Option (Int64 × S)} {Wf W2 : Int64 × S → va_W} (X : CallFix p m c cc nL s args AL own) (hE : EV D cB cI cJ cZ rz A s) (hP : va_P D classes ws H) (hD : va_D A ws) (hS : va_S A s.heap H locs) (hA : ∀ q, s.heap.size ≤ q → A q)
    (hM : Met l y (Cond.code y bytes maxL ret :: AL) rm (PW D cB cI cJ cZ rz (.ref b :: As) wc H.size) (QJ D O Wf (va_A wc H.size)) mc ms (va_A wc H.size))
    (w1 : Cond.methodLinkNest own idx y RX6 ∈ NL) (w2 : Cond.instanceMethod y ∈ AL) (w3 : Cond.selects y.cls y y ∈ AL) (w4 : Cond.initialized y.cls ∈ AL) (w5 : Cond.code y bytes maxL ret ∈ AL) (hd : CBn y n) (hrc : rm.cells = mc) (hrs : rm.slots = ms) (hR : rm.frames + 1 ≤ R.frames ∧ 8 + (maxL + 11) + rm.locals ≤ R.locals) (hn : As.length = n) (hsz : ls.size = nL) (hst0 : st0 = As.reverse ++ .ref b :: rest) (hst : (rest.map fun v => v.category).sum ≤ 8) (hdg : decode cc pc = .ok (.invokevirtual idx, 3)) (hcap : cells + mc ≤ R.cells ∧ slots + ms ≤ R.slots) {c2 s2 : Nat} (hc2 : cells + mc = c2) (hs2 : slots + ms = s2) {ci k0 : Nat} {T : u_T} {N : Nat} {fs : List Value} (hre : ws[k0]? = some (b, .inr (ci, fs))) (hci : classes[ci]? = some (y.cls, T, N))
    (isC isR perm : List Nat) (hC : isC.map (fun i => ws[i]?) = wc.map some) (hRr : isR.map (fun i => ws[i]?) = wr.map some) (hnC : va_nd isC = true) (hnR : va_nd isR = true) (hdis : ∀ i ∈ isR, i ∉ isC) (hnp : va_nd perm = true) (hW2 : ∀ u, perm.map (fun i => (wr ++ Wf u)[i]?) = (W2 u).map some)
    (kk : ∀ (u : Int64 × S) (H1 : Heap) (locs1 : List Loc), O = some u → va_P D classes (W2 u) H1 → va_D A (W2 u) → va_S A s.heap H1 locs1 → W p l e R s m args below meth c H1 locs1 c2 s2 Q (F0 m (pc + 3) ls (.long u.1 :: rest))) : W p l e R s m args below meth c H locs cells slots Q (F0 m pc ls st0) := by
  subst hst0; subst hc2; subst hs2
  have hPc : va_P D classes wc H := hP.sub isC (fm_of_map hC)
  have hDc : va_D A wc := hD.sub isC hnC hC
  have hFc := va_free (wc := wc) hD hS hA isC hC
  refine va_calll (va_runVN (As := As) (rest := rest) X hM ⟨va_cnB n X.2.2.2.2 (gAll w5) rfl hrc hrs (hE.2.1 _ w1) (X.2.2.2.2 _ w4) hd hR, X.2.2.2.2 _ w2, X.2.2.2.2 _ w3⟩ ⟨PW_blind D cB cI cJ cZ rz _ wc H.size, va_recv hE.1 hP hci hre, PW_pre hE hS hFc hPc hDc⟩ rfl hn hsz rfl (lv_room hst) hdg hcap) hS (fun q _ h => hFc q h) hFc (fun r u t H1 locs1 ht hvm hw hB hz1 hk1 hS1 => ?_)
  obtain ⟨hw, rfl⟩ := hw
  obtain ⟨hP1, hD1⟩ := hB
  rw [ht] at hP1
  obtain ⟨hP2, hD2⟩ := jn hP hD isC isR perm hC hRr hnR hdis hnp (hW2 u) hk1 hFc hP1 hD1
  exact kk u H1 locs1 hw hP2 hD2 hS1
theorem callVNV {S : Type} {O : Option (Unit × S)} {Wf W2 : Unit × S → va_W} (X : CallFix p m c cc nL s args AL own) (hE : EV D cB cI cJ cZ rz A s) (hP : va_P D classes ws H) (hD : va_D A ws) (hS : va_S A s.heap H locs) (hA : ∀ q, s.heap.size ≤ q → A q)
    (hM : Met l y (Cond.code y bytes maxL ret :: AL) rm (PW D cB cI cJ cZ rz (.ref b :: As) wc H.size) (QV D O Wf (va_A wc H.size)) mc ms (va_A wc H.size))
    (w1 : Cond.methodLinkNest own idx y RX6 ∈ NL) (w2 : Cond.instanceMethod y ∈ AL) (w3 : Cond.selects y.cls y y ∈ AL) (w4 : Cond.initialized y.cls ∈ AL) (w5 : Cond.code y bytes maxL ret ∈ AL) (hd : CBn y n) (hrc : rm.cells = mc) (hrs : rm.slots = ms) (hR : rm.frames + 1 ≤ R.frames ∧ 8 + (maxL + 11) + rm.locals ≤ R.locals) (hn : As.length = n) (hsz : ls.size = nL) (hst0 : st0 = As.reverse ++ .ref b :: rest) (hst : (rest.map fun v => v.category).sum ≤ 8) (hdg : decode cc pc = .ok (.invokevirtual idx, 3)) (hcap : cells + mc ≤ R.cells ∧ slots + ms ≤ R.slots) {c2 s2 : Nat} (hc2 : cells + mc = c2) (hs2 : slots + ms = s2) {ci k0 : Nat} {T : u_T} {N : Nat} {fs : List Value} (hre : ws[k0]? = some (b, .inr (ci, fs))) (hci : classes[ci]? = some (y.cls, T, N))
    (isC isR perm : List Nat) (hC : isC.map (fun i => ws[i]?) = wc.map some) (hRr : isR.map (fun i => ws[i]?) = wr.map some) (hnC : va_nd isC = true) (hnR : va_nd isR = true) (hdis : ∀ i ∈ isR, i ∉ isC) (hnp : va_nd perm = true) (hW2 : ∀ u, perm.map (fun i => (wr ++ Wf u)[i]?) = (W2 u).map some)
    (kk : ∀ (u : Unit × S) (H1 : Heap) (locs1 : List Loc), O = some u → va_P D classes (W2 u) H1 → va_D A (W2 u) → va_S A s.heap H1 locs1 → W p l e R s m args below meth c H1 locs1 c2 s2 Q (F0 m (pc + 3) ls (rest))) : W p l e R s m args below meth c H locs cells slots Q (F0 m pc ls st0) := by
  subst hst0; subst hc2; subst hs2
  have hPc : va_P D classes wc H := hP.sub isC (fm_of_map hC)
  have hDc : va_D A wc := hD.sub isC hnC hC
  have hFc := va_free (wc := wc) hD hS hA isC hC
  refine va_callv (va_runVN (As := As) (rest := rest) X hM ⟨va_cnB n X.2.2.2.2 (gAll w5) rfl hrc hrs (hE.2.1 _ w1) (X.2.2.2.2 _ w4) hd hR, X.2.2.2.2 _ w2, X.2.2.2.2 _ w3⟩ ⟨PW_blind D cB cI cJ cZ rz _ wc H.size, va_recv hE.1 hP hci hre, PW_pre hE hS hFc hPc hDc⟩ rfl hn hsz rfl (lv_room hst) hdg hcap) hS (fun q _ h => hFc q h) hFc (fun u t H1 locs1 ht hvm hw hB hz1 hk1 hS1 => ?_)
  obtain ⟨hP1, hD1⟩ := hB
  rw [ht] at hP1
  obtain ⟨hP2, hD2⟩ := jn hP hD isC isR perm hC hRr hnR hdis hnp (hW2 u) hk1 hFc hP1 hD1
  exact kk u H1 locs1 hw hP2 hD2 hS1
theorem callSI {S : Type} {O : Option (Int32 × S)} {Wf W2 : Int32 × S → va_W} (X : CallFix p m c cc nL s args AL own) (hE : EV D cB cI cJ cZ rz A s) (hP : va_P D classes ws H) (hD : va_D A ws) (hS : va_S A s.heap H locs) (hA : ∀ q, s.heap.size ≤ q → A q)
    (hM : Met l y (Cond.code y bytes maxL ret :: AL) rm (PW D cB cI cJ cZ rz As wc H.size) (QI D O Wf (va_A wc H.size)) mc ms (va_A wc H.size))
    (w1 : Cond.methodLink own idx y ∈ AL) (w2 : Cond.static y ∈ AL) (w4 : Cond.initialized y.cls ∈ AL) (w5 : Cond.code y bytes maxL ret ∈ AL) (hd : CBn y n) (hrc : rm.cells = mc) (hrs : rm.slots = ms) (hR : rm.frames + 1 ≤ R.frames ∧ 8 + (maxL + 11) + rm.locals ≤ R.locals) (hn : As.length = n) (hsz : ls.size = nL) (hst0 : st0 = As.reverse ++ rest) (hst : (rest.map fun v => v.category).sum ≤ 8) (hdg : decode cc pc = .ok (.invokestatic idx, 3)) (hcap : cells + mc ≤ R.cells ∧ slots + ms ≤ R.slots) {c2 s2 : Nat} (hc2 : cells + mc = c2) (hs2 : slots + ms = s2)
    (isC isR perm : List Nat) (hC : isC.map (fun i => ws[i]?) = wc.map some) (hRr : isR.map (fun i => ws[i]?) = wr.map some) (hnC : va_nd isC = true) (hnR : va_nd isR = true) (hdis : ∀ i ∈ isR, i ∉ isC) (hnp : va_nd perm = true) (hW2 : ∀ u, perm.map (fun i => (wr ++ Wf u)[i]?) = (W2 u).map some)
    (kk : ∀ (u : Int32 × S) (H1 : Heap) (locs1 : List Loc), O = some u → va_P D classes (W2 u) H1 → va_D A (W2 u) → va_S A s.heap H1 locs1 → W p l e R s m args below meth c H1 locs1 c2 s2 Q (F0 m (pc + 3) ls (.int u.1 :: rest))) : W p l e R s m args below meth c H locs cells slots Q (F0 m pc ls st0) := by
  subst hst0; subst hc2; subst hs2
  have hPc : va_P D classes wc H := hP.sub isC (fm_of_map hC)
  have hDc : va_D A wc := hD.sub isC hnC hC
  have hFc := va_free (wc := wc) hD hS hA isC hC
  refine va_calli (va_runS (As := As) (rest := rest) X hM (va_cwS n X.2.2.2.2 (gS w1 w2 w4 w5) rfl hrc hrs hd hR) ⟨PW_blind D cB cI cJ cZ rz _ wc H.size, PW_pre hE hS hFc hPc hDc⟩ rfl hn hsz rfl (lv_room hst) hdg hcap) hS (fun q _ h => hFc q h) hFc (fun r u t H1 locs1 ht hvm hw hB hz1 hk1 hS1 => ?_)
  obtain ⟨hw, rfl⟩ := hw
  obtain ⟨hP1, hD1⟩ := hB
  rw [ht] at hP1
  obtain ⟨hP2, hD2⟩ := jn hP hD isC isR perm hC hRr hnR hdis hnp (hW2 u) hk1 hFc hP1 hD1
  exact kk u H1 locs1 hw hP2 hD2 hS1
theorem callSZ {S : Type} {O : Option (Int32 × S)} {Wf W2 : Int32 × S → va_W} (X : CallFix p m c cc nL s args AL own) (hE : EV D cB cI cJ cZ rz A s) (hP : va_P D classes ws H) (hD : va_D A ws) (hS : va_S A s.heap H locs) (hA : ∀ q, s.heap.size ≤ q → A q)
    (hM : Met l y (Cond.code y bytes maxL ret :: AL) rm (PW D cB cI cJ cZ rz As wc H.size) (QZ D O Wf (va_A wc H.size)) mc ms (va_A wc H.size))
    (w1 : Cond.methodLink own idx y ∈ AL) (w2 : Cond.static y ∈ AL) (w4 : Cond.initialized y.cls ∈ AL) (w5 : Cond.code y bytes maxL ret ∈ AL) (hd : CBn y n) (hrc : rm.cells = mc) (hrs : rm.slots = ms) (hR : rm.frames + 1 ≤ R.frames ∧ 8 + (maxL + 11) + rm.locals ≤ R.locals) (hn : As.length = n) (hsz : ls.size = nL) (hst0 : st0 = As.reverse ++ rest) (hst : (rest.map fun v => v.category).sum ≤ 8) (hdg : decode cc pc = .ok (.invokestatic idx, 3)) (hcap : cells + mc ≤ R.cells ∧ slots + ms ≤ R.slots) {c2 s2 : Nat} (hc2 : cells + mc = c2) (hs2 : slots + ms = s2)
    (isC isR perm : List Nat) (hC : isC.map (fun i => ws[i]?) = wc.map some) (hRr : isR.map (fun i => ws[i]?) = wr.map some) (hnC : va_nd isC = true) (hnR : va_nd isR = true) (hdis : ∀ i ∈ isR, i ∉ isC) (hnp : va_nd perm = true) (hW2 : ∀ u, perm.map (fun i => (wr ++ Wf u)[i]?) = (W2 u).map some)
    (kk : ∀ (u : Int32 × S) (H1 : Heap) (locs1 : List Loc), O = some u → narrow .boolean (.int u.1) = .int u.1 → va_P D classes (W2 u) H1 → va_D A (W2 u) → va_S A s.heap H1 locs1 → W p l e R s m args below meth c H1 locs1 c2 s2 Q (F0 m (pc + 3) ls (.int u.1 :: rest))) : W p l e R s m args below meth c H locs cells slots Q (F0 m pc ls st0) := by
  subst hst0; subst hc2; subst hs2
  have hPc : va_P D classes wc H := hP.sub isC (fm_of_map hC)
  have hDc : va_D A wc := hD.sub isC hnC hC
  have hFc := va_free (wc := wc) hD hS hA isC hC
  refine va_calli (va_runS (As := As) (rest := rest) X hM (va_cwS n X.2.2.2.2 (gS w1 w2 w4 w5) rfl hrc hrs hd hR) ⟨PW_blind D cB cI cJ cZ rz _ wc H.size, PW_pre hE hS hFc hPc hDc⟩ rfl hn hsz rfl (lv_room hst) hdg hcap) hS (fun q _ h => hFc q h) hFc (fun r u t H1 locs1 ht hvm hw hB hz1 hk1 hS1 => ?_)
  obtain ⟨hw, rfl, hz⟩ := hw
  obtain ⟨hP1, hD1⟩ := hB
  rw [ht] at hP1
  obtain ⟨hP2, hD2⟩ := jn hP hD isC isR perm hC hRr hnR hdis hnp (hW2 u) hk1 hFc hP1 hD1
  exact kk u H1 locs1 hw hz hP2 hD2 hS1
theorem callSJ {S : Type} {O : Option (Int64 × S)} {Wf W2 : Int64 × S → va_W} (X : CallFix p m c cc nL s args AL own) (hE : EV D cB cI cJ cZ rz A s) (hP : va_P D classes ws H) (hD : va_D A ws) (hS : va_S A s.heap H locs) (hA : ∀ q, s.heap.size ≤ q → A q)
    (hM : Met l y (Cond.code y bytes maxL ret :: AL) rm (PW D cB cI cJ cZ rz As wc H.size) (QJ D O Wf (va_A wc H.size)) mc ms (va_A wc H.size))
    (w1 : Cond.methodLink own idx y ∈ AL) (w2 : Cond.static y ∈ AL) (w4 : Cond.initialized y.cls ∈ AL) (w5 : Cond.code y bytes maxL ret ∈ AL) (hd : CBn y n) (hrc : rm.cells = mc) (hrs : rm.slots = ms) (hR : rm.frames + 1 ≤ R.frames ∧ 8 + (maxL + 11) + rm.locals ≤ R.locals) (hn : As.length = n) (hsz : ls.size = nL) (hst0 : st0 = As.reverse ++ rest) (hst : (rest.map fun v => v.category).sum ≤ 8) (hdg : decode cc pc = .ok (.invokestatic idx, 3)) (hcap : cells + mc ≤ R.cells ∧ slots + ms ≤ R.slots) {c2 s2 : Nat} (hc2 : cells + mc = c2) (hs2 : slots + ms = s2)
    (isC isR perm : List Nat) (hC : isC.map (fun i => ws[i]?) = wc.map some) (hRr : isR.map (fun i => ws[i]?) = wr.map some) (hnC : va_nd isC = true) (hnR : va_nd isR = true) (hdis : ∀ i ∈ isR, i ∉ isC) (hnp : va_nd perm = true) (hW2 : ∀ u, perm.map (fun i => (wr ++ Wf u)[i]?) = (W2 u).map some)
    (kk : ∀ (u : Int64 × S) (H1 : Heap) (locs1 : List Loc), O = some u → va_P D classes (W2 u) H1 → va_D A (W2 u) → va_S A s.heap H1 locs1 → W p l e R s m args below meth c H1 locs1 c2 s2 Q (F0 m (pc + 3) ls (.long u.1 :: rest))) : W p l e R s m args below meth c H locs cells slots Q (F0 m pc ls st0) := by
  subst hst0; subst hc2; subst hs2
  have hPc : va_P D classes wc H := hP.sub isC (fm_of_map hC)
  have hDc : va_D A wc := hD.sub isC hnC hC
  have hFc := va_free (wc := wc) hD hS hA isC hC
  refine va_calll (va_runS (As := As) (rest := rest) X hM (va_cwS n X.2.2.2.2 (gS w1 w2 w4 w5) rfl hrc hrs hd hR) ⟨PW_blind D cB cI cJ cZ rz _ wc H.size, PW_pre hE hS hFc hPc hDc⟩ rfl hn hsz rfl (lv_room hst) hdg hcap) hS (fun q _ h => hFc q h) hFc (fun r u t H1 locs1 ht hvm hw hB hz1 hk1 hS1 => ?_)
  obtain ⟨hw, rfl⟩ := hw
  obtain ⟨hP1, hD1⟩ := hB
  rw [ht] at hP1
  obtain ⟨hP2, hD2⟩ := jn hP hD isC isR perm hC hRr hnR hdis hnp (hW2 u) hk1 hFc hP1 hD1
  exact kk u H1 locs1 hw hP2 hD2 hS1
theorem callSV {S : Type} {O : Option (Unit × S)} {Wf W2 : Unit × S → va_W} (X : CallFix p m c cc nL s args AL own) (hE : EV D cB cI cJ cZ rz A s) (hP : va_P D classes ws H) (hD : va_D A ws) (hS : va_S A s.heap H locs) (hA : ∀ q, s.heap.size ≤ q → A q)
    (hM : Met l y (Cond.code y bytes maxL ret :: AL) rm (PW D cB cI cJ cZ rz As wc H.size) (QV D O Wf (va_A wc H.size)) mc ms (va_A wc H.size))
    (w1 : Cond.methodLink own idx y ∈ AL) (w2 : Cond.static y ∈ AL) (w4 : Cond.initialized y.cls ∈ AL) (w5 : Cond.code y bytes maxL ret ∈ AL) (hd : CBn y n) (hrc : rm.cells = mc) (hrs : rm.slots = ms) (hR : rm.frames + 1 ≤ R.frames ∧ 8 + (maxL + 11) + rm.locals ≤ R.locals) (hn : As.length = n) (hsz : ls.size = nL) (hst0 : st0 = As.reverse ++ rest) (hst : (rest.map fun v => v.category).sum ≤ 8) (hdg : decode cc pc = .ok (.invokestatic idx, 3)) (hcap : cells + mc ≤ R.cells ∧ slots + ms ≤ R.slots) {c2 s2 : Nat} (hc2 : cells + mc = c2) (hs2 : slots + ms = s2)
    (isC isR perm : List Nat) (hC : isC.map (fun i => ws[i]?) = wc.map some) (hRr : isR.map (fun i => ws[i]?) = wr.map some) (hnC : va_nd isC = true) (hnR : va_nd isR = true) (hdis : ∀ i ∈ isR, i ∉ isC) (hnp : va_nd perm = true) (hW2 : ∀ u, perm.map (fun i => (wr ++ Wf u)[i]?) = (W2 u).map some)
    (kk : ∀ (u : Unit × S) (H1 : Heap) (locs1 : List Loc), O = some u → va_P D classes (W2 u) H1 → va_D A (W2 u) → va_S A s.heap H1 locs1 → W p l e R s m args below meth c H1 locs1 c2 s2 Q (F0 m (pc + 3) ls (rest))) : W p l e R s m args below meth c H locs cells slots Q (F0 m pc ls st0) := by
  subst hst0; subst hc2; subst hs2
  have hPc : va_P D classes wc H := hP.sub isC (fm_of_map hC)
  have hDc : va_D A wc := hD.sub isC hnC hC
  have hFc := va_free (wc := wc) hD hS hA isC hC
  refine va_callv (va_runS (As := As) (rest := rest) X hM (va_cwS n X.2.2.2.2 (gS w1 w2 w4 w5) rfl hrc hrs hd hR) ⟨PW_blind D cB cI cJ cZ rz _ wc H.size, PW_pre hE hS hFc hPc hDc⟩ rfl hn hsz rfl (lv_room hst) hdg hcap) hS (fun q _ h => hFc q h) hFc (fun u t H1 locs1 ht hvm hw hB hz1 hk1 hS1 => ?_)
  obtain ⟨hP1, hD1⟩ := hB
  rw [ht] at hP1
  obtain ⟨hP2, hD2⟩ := jn hP hD isC isR perm hC hRr hnR hdis hnp (hW2 u) hk1 hFc hP1 hD1
  exact kk u H1 locs1 hw hP2 hD2 hS1
theorem callIV {S : Type} {O : Option (Unit × S)} {Wf W2 : Unit × S → va_W} (X : CallFix p m c cc nL s args AL own) (hE : EV D cB cI cJ cZ rz A s) (hP : va_P D classes ws H) (hD : va_D A ws) (hS : va_S A s.heap H locs) (hA : ∀ q, s.heap.size ≤ q → A q)
    (hM : Met l y (Cond.code y bytes maxL none :: AL) rm (PW D cB cI cJ cZ rz (.ref b :: As) wc H.size) (QV D O Wf (va_A wc H.size)) mc ms (va_A wc H.size))
    (w1 : Cond.methodLink own idx y ∈ AL) (w2 : Cond.instanceMethod y ∈ AL) (w3 : y.name = "<init>") (w4 : Cond.initialized y.cls ∈ AL) (w5 : Cond.code y bytes maxL none ∈ AL) (hd : CBn y n) (hrc : rm.cells = mc) (hrs : rm.slots = ms) (hR : rm.frames + 1 ≤ R.frames ∧ 8 + (maxL + 11) + rm.locals ≤ R.locals) (hn : As.length = n) (hsz : ls.size = nL) (hst0 : st0 = As.reverse ++ .ref b :: rest) (hst : (rest.map fun v => v.category).sum ≤ 8) (hdg : decode cc pc = .ok (.invokespecial idx, 3)) (hcap : cells + mc ≤ R.cells ∧ slots + ms ≤ R.slots) {c2 s2 : Nat} (hc2 : cells + mc = c2) (hs2 : slots + ms = s2)
    (isC isR perm : List Nat) (hC : isC.map (fun i => ws[i]?) = wc.map some) (hRr : isR.map (fun i => ws[i]?) = wr.map some) (hnC : va_nd isC = true) (hnR : va_nd isR = true) (hdis : ∀ i ∈ isR, i ∉ isC) (hnp : va_nd perm = true) (hW2 : ∀ u, perm.map (fun i => (wr ++ Wf u)[i]?) = (W2 u).map some)
    (kk : ∀ (u : Unit × S) (H1 : Heap) (locs1 : List Loc), O = some u → va_P D classes (W2 u) H1 → va_D A (W2 u) → va_S A s.heap H1 locs1 → W p l e R s m args below meth c H1 locs1 c2 s2 Q (F0 m (pc + 3) ls (rest))) : W p l e R s m args below meth c H locs cells slots Q (F0 m pc ls st0) := by
  subst hst0; subst hc2; subst hs2
  have hPc : va_P D classes wc H := hP.sub isC (fm_of_map hC)
  have hDc : va_D A wc := hD.sub isC hnC hC
  have hFc := va_free (wc := wc) hD hS hA isC hC
  refine va_callv (va_runI (As := As) (rest := rest) X hM (cwI n X.2.2.2.2 (gAll w5) rfl hrc hrs (X.2.2.2.2 _ w4) (X.2.2.2.2 _ w1) (X.2.2.2.2 _ w2) w3 hd hR) ⟨PW_blind D cB cI cJ cZ rz _ wc H.size, PW_pre hE hS hFc hPc hDc⟩ rfl hn hsz rfl (lv_room hst) hdg hcap) hS (fun q _ h => hFc q h) hFc (fun u t H1 locs1 ht hvm hw hB hz1 hk1 hS1 => ?_)
  obtain ⟨hP1, hD1⟩ := hB
  rw [ht] at hP1
  obtain ⟨hP2, hD2⟩ := jn hP hD isC isR perm hC hRr hnR hdis hnp (hW2 u) hk1 hFc hP1 hD1
  exact kk u H1 locs1 hw hP2 hD2 hS1
theorem callIN {S : Type} {O : Option (Unit × S)} {nb : Nat} {Wf W2 : Unit × S → List Nat → va_W} (X : CallFix p m c cc nL s args AL own) (hE : EV D cB cI cJ cZ rz A s) (hP : va_P D classes ws H) (hD : va_D A ws) (hS : va_S A s.heap H locs) (hA : ∀ q, s.heap.size ≤ q → A q)
    (hM : Met l y (Cond.code y bytes maxL none :: AL) rm (PW D cB cI cJ cZ rz (.ref b :: As) wc H.size) (QN D O Wf nb (va_A wc H.size)) mc ms (va_A wc H.size))
    (w1 : Cond.methodLink own idx y ∈ AL) (w2 : Cond.instanceMethod y ∈ AL) (w3 : y.name = "<init>") (w4 : Cond.initialized y.cls ∈ AL) (w5 : Cond.code y bytes maxL none ∈ AL) (hd : CBn y n) (hrc : rm.cells = mc) (hrs : rm.slots = ms) (hR : rm.frames + 1 ≤ R.frames ∧ 8 + (maxL + 11) + rm.locals ≤ R.locals) (hn : As.length = n) (hsz : ls.size = nL) (hst0 : st0 = As.reverse ++ .ref b :: rest) (hst : (rest.map fun v => v.category).sum ≤ 8) (hdg : decode cc pc = .ok (.invokespecial idx, 3)) (hcap : cells + mc ≤ R.cells ∧ slots + ms ≤ R.slots) {c2 s2 : Nat} (hc2 : cells + mc = c2) (hs2 : slots + ms = s2)
    (isC isR perm : List Nat) (hC : isC.map (fun i => ws[i]?) = wc.map some) (hRr : isR.map (fun i => ws[i]?) = wr.map some) (hnC : va_nd isC = true) (hnR : va_nd isR = true) (hdis : ∀ i ∈ isR, i ∉ isC) (hnp : va_nd perm = true) (hW2 : ∀ u q, perm.map (fun i => (wr ++ Wf u q)[i]?) = (W2 u q).map some)
    (kk : ∀ (u : Unit × S) (q : List Nat) (H1 : Heap) (locs1 : List Loc), O = some u → q.length = nb → va_P D classes (W2 u q) H1 → va_D A (W2 u q) → va_S A s.heap H1 locs1 → W p l e R s m args below meth c H1 locs1 c2 s2 Q (F0 m (pc + 3) ls rest)) : W p l e R s m args below meth c H locs cells slots Q (F0 m pc ls st0) := by
  subst hst0; subst hc2; subst hs2
  have hPc : va_P D classes wc H := hP.sub isC (fm_of_map hC)
  have hDc : va_D A wc := hD.sub isC hnC hC
  have hFc := va_free (wc := wc) hD hS hA isC hC
  refine va_callv (va_runI (As := As) (rest := rest) X hM (cwI n X.2.2.2.2 (gAll w5) rfl hrc hrs (X.2.2.2.2 _ w4) (X.2.2.2.2 _ w1) (X.2.2.2.2 _ w2) w3 hd hR) ⟨PW_blind D cB cI cJ cZ rz _ wc H.size, PW_pre hE hS hFc hPc hDc⟩ rfl hn hsz rfl (lv_room hst) hdg hcap) hS (fun q _ h => hFc q h) hFc (fun u t H1 locs1 ht hvm hw hB hz1 hk1 hS1 => ?_)
  obtain ⟨u, q⟩ := u
  obtain ⟨hP1, hD1⟩ := hB
  rw [ht] at hP1
  obtain ⟨hP2, hD2⟩ := jn hP hD isC isR perm hC hRr hnR hdis hnp (hW2 u q) hk1 hFc hP1 hD1
  exact kk u q H1 locs1 hw.1 hw.2 hP2 hD2 hS1
theorem callINV {S : Type} {O : Option (Unit × S)} {Wf W2 : Unit × S → va_W} (X : CallFix p m c cc nL s args AL own) (hE : EV D cB cI cJ cZ rz A s) (hP : va_P D classes ws H) (hD : va_D A ws) (hS : va_S A s.heap H locs) (hA : ∀ q, s.heap.size ≤ q → A q)
    (hM : Met l y (Cond.code y bytes maxL none :: AL) rm (PW D cB cI cJ cZ rz (.ref b :: As) wc H.size) (QV D O Wf (va_A wc H.size)) mc ms (va_A wc H.size))
    (w1 : Cond.methodLinkNest own idx y RX6 ∈ NL) (w2 : Cond.instanceMethod y ∈ AL) (w3 : y.name = "<init>") (w4 : Cond.initialized y.cls ∈ AL) (w5 : Cond.code y bytes maxL none ∈ AL) (hd : CBn y n) (hrc : rm.cells = mc) (hrs : rm.slots = ms) (hR : rm.frames + 1 ≤ R.frames ∧ 8 + (maxL + 11) + rm.locals ≤ R.locals) (hn : As.length = n) (hsz : ls.size = nL) (hst0 : st0 = As.reverse ++ .ref b :: rest) (hst : (rest.map fun v => v.category).sum ≤ 8) (hdg : decode cc pc = .ok (.invokespecial idx, 3)) (hcap : cells + mc ≤ R.cells ∧ slots + ms ≤ R.slots) {c2 s2 : Nat} (hc2 : cells + mc = c2) (hs2 : slots + ms = s2)
    (isC isR perm : List Nat) (hC : isC.map (fun i => ws[i]?) = wc.map some) (hRr : isR.map (fun i => ws[i]?) = wr.map some) (hnC : va_nd isC = true) (hnR : va_nd isR = true) (hdis : ∀ i ∈ isR, i ∉ isC) (hnp : va_nd perm = true) (hW2 : ∀ u, perm.map (fun i => (wr ++ Wf u)[i]?) = (W2 u).map some)
    (kk : ∀ (u : Unit × S) (H1 : Heap) (locs1 : List Loc), O = some u → va_P D classes (W2 u) H1 → va_D A (W2 u) → va_S A s.heap H1 locs1 → W p l e R s m args below meth c H1 locs1 c2 s2 Q (F0 m (pc + 3) ls (rest))) : W p l e R s m args below meth c H locs cells slots Q (F0 m pc ls st0) := by
  subst hst0; subst hc2; subst hs2
  have hPc : va_P D classes wc H := hP.sub isC (fm_of_map hC)
  have hDc : va_D A wc := hD.sub isC hnC hC
  have hFc := va_free (wc := wc) hD hS hA isC hC
  refine va_callv (va_runIN (As := As) (rest := rest) X hM ⟨va_cnB n X.2.2.2.2 (gAll w5) rfl hrc hrs (hE.2.1 _ w1) (X.2.2.2.2 _ w4) hd hR, w3, X.2.2.2.2 _ w2⟩ ⟨PW_blind D cB cI cJ cZ rz _ wc H.size, PW_pre hE hS hFc hPc hDc⟩ rfl hn hsz rfl (lv_room hst) hdg hcap) hS (fun q _ h => hFc q h) hFc (fun u t H1 locs1 ht hvm hw hB hz1 hk1 hS1 => ?_)
  obtain ⟨hP1, hD1⟩ := hB
  rw [ht] at hP1
  obtain ⟨hP2, hD2⟩ := jn hP hD isC isR perm hC hRr hnR hdis hnp (hW2 u) hk1 hFc hP1 hD1
  exact kk u H1 locs1 hw hP2 hD2 hS1
theorem callINN {S : Type} {O : Option (Unit × S)} {nb : Nat} {Wf W2 : Unit × S → List Nat → va_W} (X : CallFix p m c cc nL s args AL own) (hE : EV D cB cI cJ cZ rz A s) (hP : va_P D classes ws H) (hD : va_D A ws) (hS : va_S A s.heap H locs) (hA : ∀ q, s.heap.size ≤ q → A q)
    (hM : Met l y (Cond.code y bytes maxL none :: AL) rm (PW D cB cI cJ cZ rz (.ref b :: As) wc H.size) (QN D O Wf nb (va_A wc H.size)) mc ms (va_A wc H.size))
    (w1 : Cond.methodLinkNest own idx y RX6 ∈ NL) (w2 : Cond.instanceMethod y ∈ AL) (w3 : y.name = "<init>") (w4 : Cond.initialized y.cls ∈ AL) (w5 : Cond.code y bytes maxL none ∈ AL) (hd : CBn y n) (hrc : rm.cells = mc) (hrs : rm.slots = ms) (hR : rm.frames + 1 ≤ R.frames ∧ 8 + (maxL + 11) + rm.locals ≤ R.locals) (hn : As.length = n) (hsz : ls.size = nL) (hst0 : st0 = As.reverse ++ .ref b :: rest) (hst : (rest.map fun v => v.category).sum ≤ 8) (hdg : decode cc pc = .ok (.invokespecial idx, 3)) (hcap : cells + mc ≤ R.cells ∧ slots + ms ≤ R.slots) {c2 s2 : Nat} (hc2 : cells + mc = c2) (hs2 : slots + ms = s2)
    (isC isR perm : List Nat) (hC : isC.map (fun i => ws[i]?) = wc.map some) (hRr : isR.map (fun i => ws[i]?) = wr.map some) (hnC : va_nd isC = true) (hnR : va_nd isR = true) (hdis : ∀ i ∈ isR, i ∉ isC) (hnp : va_nd perm = true) (hW2 : ∀ u q, perm.map (fun i => (wr ++ Wf u q)[i]?) = (W2 u q).map some)
    (kk : ∀ (u : Unit × S) (q : List Nat) (H1 : Heap) (locs1 : List Loc), O = some u → q.length = nb → va_P D classes (W2 u q) H1 → va_D A (W2 u q) → va_S A s.heap H1 locs1 → W p l e R s m args below meth c H1 locs1 c2 s2 Q (F0 m (pc + 3) ls rest)) : W p l e R s m args below meth c H locs cells slots Q (F0 m pc ls st0) := by
  subst hst0; subst hc2; subst hs2
  have hPc : va_P D classes wc H := hP.sub isC (fm_of_map hC)
  have hDc : va_D A wc := hD.sub isC hnC hC
  have hFc := va_free (wc := wc) hD hS hA isC hC
  refine va_callv (va_runIN (As := As) (rest := rest) X hM ⟨va_cnB n X.2.2.2.2 (gAll w5) rfl hrc hrs (hE.2.1 _ w1) (X.2.2.2.2 _ w4) hd hR, w3, X.2.2.2.2 _ w2⟩ ⟨PW_blind D cB cI cJ cZ rz _ wc H.size, PW_pre hE hS hFc hPc hDc⟩ rfl hn hsz rfl (lv_room hst) hdg hcap) hS (fun q _ h => hFc q h) hFc (fun u t H1 locs1 ht hvm hw hB hz1 hk1 hS1 => ?_)
  obtain ⟨u, q⟩ := u
  obtain ⟨hP1, hD1⟩ := hB
  rw [ht] at hP1
  obtain ⟨hP2, hD2⟩ := jn hP hD isC isR perm hC hRr hnR hdis hnp (hW2 u q) hk1 hFc hP1 hD1
  exact kk u q H1 locs1 hw.1 hw.2 hP2 hD2 hS1
theorem enterI {S : Type} {O : Option (Int32 × S)} {Wf : Int32 × S → va_W} {av : List Value} {sz : Nat} (hy : plainName y.cls = true) (hlen : (lg_sl av).length ≤ nL)
    (body : ∀ (p : Program) (e : Env) (s : State) (m : MethodId) (below : List Frame) (meth : Method) (c : Code) (A : Nat → Prop) (Q : State → Prop), CallFix p m c cc nL s av.toArray AL y.cls → (∀ q, s.heap.size ≤ q → A q) → EV D cB cI cJ cZ rz A s → meth.name = y.name → s.heap.size = sz → va_P D classes ws s.heap → va_D A ws → va_S A s.heap s.heap [] →
      (∀ (u : Int32 × S) (H : Heap) (locs : List Loc) (ls : Array Slot) (pc : Nat), some u = O → va_P D classes (Wf u) H → va_D A (Wf u) → va_S A s.heap H locs → decode cc pc = .ok (.ireturn, 1) → W p l e rm s m av.toArray below meth c H locs mc ms Q (F0 m pc ls [.int u.1])) →
      ∀ ls : Array Slot, lv_has ls nL (lv_args 0 av) → W p l e rm s m av.toArray below meth c s.heap [] 0 0 Q (F0 m 0 ls [])) : Met l y (Cond.code y cc nL (some .int) :: AL) rm (PW D cB cI cJ cZ rz av ws sz) (QI D O Wf (va_A ws sz)) mc ms (va_A ws sz) := by
  refine Met.ofW (cc := cc) (maxL := nL) (ret := (some .int)) hy rfl ?_
  intro p e s m args below meth c s₁ B hml hv
  obtain ⟨rfl, hsz, hP, hD0, hE⟩ := hv
  have hr := B.returns
  have hts := atoms_spec (ws := Cond.code y cc nL (some .int) :: AL) B.pre
  have hlocks := B.notSynchronized
  subst hsz
  have hD := hD0.self (sz := s.heap.size)
  rw [lg_entry_eq]
  refine body p e s m below meth c (va_A ws s.heap.size) _ ⟨B.exec, B.bytes, hml, findClass_of_methodNamed B.named, fun w h => hts w (List.mem_cons_of_mem _ h)⟩ (fun q h => Or.inr h) hE (name_of_methodNamed B.named B.method).1 rfl hP hD va_S.rf ?_ _ (lv_entry av hlen)
  intro u H locs ls pc hO hP hD hS hdg
  exact W.iret B.exec B.bytes hr (fun t ht hW => ⟨⟨u.1, u, rfl, ⟨hO.symm, rfl⟩, by rw [ht]; exact hP, hD⟩, hS.F ht⟩) hS.2.2 hdg hlocks
theorem enterZ {S : Type} {O : Option (Int32 × S)} {Wf : Int32 × S → va_W} {av : List Value} {sz : Nat} (hy : plainName y.cls = true) (hlen : (lg_sl av).length ≤ nL)
    (body : ∀ (p : Program) (e : Env) (s : State) (m : MethodId) (below : List Frame) (meth : Method) (c : Code) (A : Nat → Prop) (Q : State → Prop), CallFix p m c cc nL s av.toArray AL y.cls → (∀ q, s.heap.size ≤ q → A q) → EV D cB cI cJ cZ rz A s → meth.name = y.name → s.heap.size = sz → va_P D classes ws s.heap → va_D A ws → va_S A s.heap s.heap [] →
      (∀ (u : Int32 × S) (H : Heap) (locs : List Loc) (ls : Array Slot) (pc : Nat), some u = O → narrow .boolean (.int u.1) = .int u.1 → va_P D classes (Wf u) H → va_D A (Wf u) → va_S A s.heap H locs → decode cc pc = .ok (.ireturn, 1) → W p l e rm s m av.toArray below meth c H locs mc ms Q (F0 m pc ls [.int u.1])) →
      ∀ ls : Array Slot, lv_has ls nL (lv_args 0 av) → W p l e rm s m av.toArray below meth c s.heap [] 0 0 Q (F0 m 0 ls [])) : Met l y (Cond.code y cc nL (some .boolean) :: AL) rm (PW D cB cI cJ cZ rz av ws sz) (QZ D O Wf (va_A ws sz)) mc ms (va_A ws sz) := by
  refine Met.ofW (cc := cc) (maxL := nL) (ret := (some .boolean)) hy rfl ?_
  intro p e s m args below meth c s₁ B hml hv
  obtain ⟨rfl, hsz, hP, hD0, hE⟩ := hv
  have hr := B.returns
  have hts := atoms_spec (ws := Cond.code y cc nL (some .boolean) :: AL) B.pre
  have hlocks := B.notSynchronized
  subst hsz
  have hD := hD0.self (sz := s.heap.size)
  rw [lg_entry_eq]
  refine body p e s m below meth c (va_A ws s.heap.size) _ ⟨B.exec, B.bytes, hml, findClass_of_methodNamed B.named, fun w h => hts w (List.mem_cons_of_mem _ h)⟩ (fun q h => Or.inr h) hE (name_of_methodNamed B.named B.method).1 rfl hP hD va_S.rf ?_ _ (lv_entry av hlen)
  intro u H locs ls pc hO hz hP hD hS hdg
  exact W.zret B.exec B.bytes hr hz (fun t ht hW => ⟨⟨u.1, u, rfl, ⟨hO.symm, rfl, hz⟩, by rw [ht]; exact hP, hD⟩, hS.F ht⟩) hS.2.2 hdg hlocks
theorem enterJ {S : Type} {O : Option (Int64 × S)} {Wf : Int64 × S → va_W} {av : List Value} {sz : Nat} (hy : plainName y.cls = true) (hlen : (lg_sl av).length ≤ nL)
    (body : ∀ (p : Program) (e : Env) (s : State) (m : MethodId) (below : List Frame) (meth : Method) (c : Code) (A : Nat → Prop) (Q : State → Prop), CallFix p m c cc nL s av.toArray AL y.cls → (∀ q, s.heap.size ≤ q → A q) → EV D cB cI cJ cZ rz A s → meth.name = y.name → s.heap.size = sz → va_P D classes ws s.heap → va_D A ws → va_S A s.heap s.heap [] →
      (∀ (u : Int64 × S) (H : Heap) (locs : List Loc) (ls : Array Slot) (pc : Nat), some u = O → va_P D classes (Wf u) H → va_D A (Wf u) → va_S A s.heap H locs → decode cc pc = .ok (.lreturn, 1) → W p l e rm s m av.toArray below meth c H locs mc ms Q (F0 m pc ls [.long u.1])) →
      ∀ ls : Array Slot, lv_has ls nL (lv_args 0 av) → W p l e rm s m av.toArray below meth c s.heap [] 0 0 Q (F0 m 0 ls [])) : Met l y (Cond.code y cc nL (some .long) :: AL) rm (PW D cB cI cJ cZ rz av ws sz) (QJ D O Wf (va_A ws sz)) mc ms (va_A ws sz) := by
  refine Met.ofW (cc := cc) (maxL := nL) (ret := (some .long)) hy rfl ?_
  intro p e s m args below meth c s₁ B hml hv
  obtain ⟨rfl, hsz, hP, hD0, hE⟩ := hv
  have hr := B.returns
  have hts := atoms_spec (ws := Cond.code y cc nL (some .long) :: AL) B.pre
  have hlocks := B.notSynchronized
  subst hsz
  have hD := hD0.self (sz := s.heap.size)
  rw [lg_entry_eq]
  refine body p e s m below meth c (va_A ws s.heap.size) _ ⟨B.exec, B.bytes, hml, findClass_of_methodNamed B.named, fun w h => hts w (List.mem_cons_of_mem _ h)⟩ (fun q h => Or.inr h) hE (name_of_methodNamed B.named B.method).1 rfl hP hD va_S.rf ?_ _ (lv_entry av hlen)
  intro u H locs ls pc hO hP hD hS hdg
  exact W.lret B.exec B.bytes hr (fun t ht hW => ⟨⟨u.1, u, rfl, ⟨hO.symm, rfl⟩, by rw [ht]; exact hP, hD⟩, hS.F ht⟩) hS.2.2 hdg hlocks
theorem enterV {S : Type} {O : Option (Unit × S)} {Wf : Unit × S → va_W} {av : List Value} {sz : Nat} (hy : plainName y.cls = true) (hlen : (lg_sl av).length ≤ nL)
    (body : ∀ (p : Program) (e : Env) (s : State) (m : MethodId) (below : List Frame) (meth : Method) (c : Code) (A : Nat → Prop) (Q : State → Prop), CallFix p m c cc nL s av.toArray AL y.cls → (∀ q, s.heap.size ≤ q → A q) → EV D cB cI cJ cZ rz A s → meth.name = y.name → s.heap.size = sz → va_P D classes ws s.heap → va_D A ws → va_S A s.heap s.heap [] →
      (∀ (u : Unit × S) (H : Heap) (locs : List Loc) (ls : Array Slot) (pc : Nat), some u = O → va_P D classes (Wf u) H → va_D A (Wf u) → va_S A s.heap H locs → decode cc pc = .ok (.return_, 1) → W p l e rm s m av.toArray below meth c H locs mc ms Q (F0 m pc ls [])) →
      ∀ ls : Array Slot, lv_has ls nL (lv_args 0 av) → W p l e rm s m av.toArray below meth c s.heap [] 0 0 Q (F0 m 0 ls [])) : Met l y (Cond.code y cc nL none :: AL) rm (PW D cB cI cJ cZ rz av ws sz) (QV D O Wf (va_A ws sz)) mc ms (va_A ws sz) := by
  refine Met.ofW (cc := cc) (maxL := nL) (ret := none) hy rfl ?_
  intro p e s m args below meth c s₁ B hml hv
  obtain ⟨rfl, hsz, hP, hD0, hE⟩ := hv
  have hr := B.returns
  have hts := atoms_spec (ws := Cond.code y cc nL none :: AL) B.pre
  have hlocks := B.notSynchronized
  subst hsz
  have hD := hD0.self (sz := s.heap.size)
  rw [lg_entry_eq]
  refine body p e s m below meth c (va_A ws s.heap.size) _ ⟨B.exec, B.bytes, hml, findClass_of_methodNamed B.named, fun w h => hts w (List.mem_cons_of_mem _ h)⟩ (fun q h => Or.inr h) hE (name_of_methodNamed B.named B.method).1 rfl hP hD va_S.rf ?_ _ (lv_entry av hlen)
  intro u H locs ls pc hO hP hD hS hdg
  exact W.vret B.exec B.bytes hr (fun t ht hW => ⟨⟨u, rfl, hO.symm, by rw [ht]; exact hP, hD⟩, hS.F ht⟩) hS.2.2 hdg hlocks
theorem enterN {S : Type} {O : Option (Unit × S)} {nb : Nat} {Wf : Unit × S → List Nat → va_W} {av : List Value} {sz : Nat} (hy : plainName y.cls = true) (hlen : (lg_sl av).length ≤ nL)
    (body : ∀ (p : Program) (e : Env) (s : State) (m : MethodId) (below : List Frame) (meth : Method) (c : Code) (A : Nat → Prop) (Q : State → Prop), CallFix p m c cc nL s av.toArray AL y.cls → (∀ q, s.heap.size ≤ q → A q) → EV D cB cI cJ cZ rz A s → meth.name = y.name → s.heap.size = sz → va_P D classes ws s.heap → va_D A ws → va_S A s.heap s.heap [] →
      (∀ (u : Unit × S) (q : List Nat) (H : Heap) (locs : List Loc) (ls : Array Slot) (pc : Nat), some u = O → q.length = nb → va_P D classes (Wf u q) H → va_D A (Wf u q) → va_S A s.heap H locs → decode cc pc = .ok (.return_, 1) → W p l e rm s m av.toArray below meth c H locs mc ms Q (F0 m pc ls [])) →
      ∀ ls : Array Slot, lv_has ls nL (lv_args 0 av) → W p l e rm s m av.toArray below meth c s.heap [] 0 0 Q (F0 m 0 ls [])) : Met l y (Cond.code y cc nL none :: AL) rm (PW D cB cI cJ cZ rz av ws sz) (QN D O Wf nb (va_A ws sz)) mc ms (va_A ws sz) := by
  refine Met.ofW (cc := cc) (maxL := nL) (ret := none) hy rfl ?_
  intro p e s m args below meth c s₁ B hml hv
  obtain ⟨rfl, hsz, hP, hD0, hE⟩ := hv
  have hr := B.returns
  have hts := atoms_spec (ws := Cond.code y cc nL none :: AL) B.pre
  have hlocks := B.notSynchronized
  subst hsz
  have hD := hD0.self (sz := s.heap.size)
  rw [lg_entry_eq]
  refine body p e s m below meth c (va_A ws s.heap.size) _ ⟨B.exec, B.bytes, hml, findClass_of_methodNamed B.named, fun w h => hts w (List.mem_cons_of_mem _ h)⟩ (fun q h => Or.inr h) hE (name_of_methodNamed B.named B.method).1 rfl hP hD va_S.rf ?_ _ (lv_entry av hlen)
  intro u q H locs ls pc hO hq hP hD hS hdg
  exact W.vret B.exec B.bytes hr (fun t ht hW => ⟨⟨(u, q), rfl, ⟨hO.symm, hq⟩, by rw [ht]; exact hP, hD⟩, hS.F ht⟩) hS.2.2 hdg hlocks

theorem arr_uni {cl : List vw_C} {tys : List (ClassId × FieldType)} {c1 c2 : ClassId} {ty : FieldType} (hK : va_K D cl tys s) (i j : Nat) (h1 : tys[i]? = some (c1, ty)) (h2 : tys[j]? = some (c2, ty)) (hp : ty = .int ∨ ty = .long ∨ ty = .byte ∨ ty = .boolean) : c1 = c2 := by
  have a := (hK.2 i _ h1).2
  have b := (hK.2 j _ h2).2
  rcases hp with rfl | rfl | rfl | rfl
  all_goals
    have a' : s.vm.findClass _ = some c1 := a
    have b' : s.vm.findClass _ = some c2 := b
    exact Option.some.inj (a'.symm.trans b')
theorem pt {ref C : String} {T : u_T} {N ci a : Nat} {W2 : va_W} (hx : p.tables.exec = Jvm.exec) (hb : c.code = cc) (ha : ∀ w ∈ AL, w.before args s = true) (hin : ∀ w ∈ u_ws C T N, w ∈ AL) (ty0 : Nat → FieldType) (hty : ∀ k, k < N → parseFieldDescriptor (T k).2.2.1 = some (ty0 k)) (hnm : ∀ a, a < N → ∀ b, b < N → a ≠ b → (T a).2.1 ≠ (T b).2.1) (hown : s.vm.findClass own = some m.cls) (hK : va_K D classes (tys4 cB cI cJ cZ) s) (hP : va_P D classes ws H) (hD : va_D A ws) (hS : va_S A s.heap H locs) (q0 : Nat) {fs : List Value} (he : ws[q0]? = some (a, .inr (ci, fs))) (hc : classes[ci]? = some (C, T, N)) (k : Nat) (hk : k < N) (hlink : (Cond.fieldLink own idx ref (T k).2.1 (T k).2.2.1).before args s = true) (hsame : (T k).1 = ref) (hfin : (T k).2.2.2 = false) {v : Value} (hn : narrow (ty0 k) v = v) (hfit : fits (ty0 k) v = true) (hl : k < fs.length) (hdg : decode cc pc = .ok (.putfield idx, 3)) (hW2 : ws.set q0 (a, .inr (ci, fs.set k v)) = W2)
    (kk : ∀ (H1 : Heap) (locs1 : List Loc), va_P D classes W2 H1 → va_D A W2 → va_S A s.heap H1 locs1 → W p l e R s m args below meth c H1 locs1 cells slots Q (F0 m (pc + 3) ls rest)) : W p l e R s m args below meth c H locs cells slots Q (F0 m pc ls (v :: .ref a :: rest)) := by
  subst hW2
  exact va_put hx hb ha hin ty0 hty hnm hown hK hP hD hS q0 he hc k hk hlink (fun x h => by rw [← hsame]; exact h) hfin (hty k hk) hn hfit hl hdg kk
theorem ptN {ref C : String} {T : u_T} {N ci a : Nat} {W2 : va_W} (hx : p.tables.exec = Jvm.exec) (hb : c.code = cc) (ha : ∀ w ∈ AL, w.before args s = true) (hin : ∀ w ∈ u_ws C T N, w ∈ AL) (ty0 : Nat → FieldType) (hty : ∀ k, k < N → parseFieldDescriptor (T k).2.2.1 = some (ty0 k)) (hnm : ∀ a, a < N → ∀ b, b < N → a ≠ b → (T a).2.1 ≠ (T b).2.1) (hown : s.vm.findClass own = some m.cls) (hK : va_K D classes (tys4 cB cI cJ cZ) s) (hP : va_P D classes ws H) (hD : va_D A ws) (hS : va_S A s.heap H locs) (q0 : Nat) {fs : List Value} (he : ws[q0]? = some (a, .inr (ci, fs))) (hc : classes[ci]? = some (C, T, N)) (k : Nat) (hk : k < N) (hlink : (Cond.fieldLinkNest own idx ref (T k).2.1 (T k).2.2.1 RX6).before args s = true) (hsame : (T k).1 = ref) (hfin : (T k).2.2.2 = false) {v : Value} (hn : narrow (ty0 k) v = v) (hfit : fits (ty0 k) v = true) (hl : k < fs.length) (hdg : decode cc pc = .ok (.putfield idx, 3)) (hW2 : ws.set q0 (a, .inr (ci, fs.set k v)) = W2)
    (kk : ∀ (H1 : Heap) (locs1 : List Loc), va_P D classes W2 H1 → va_D A W2 → va_S A s.heap H1 locs1 → W p l e R s m args below meth c H1 locs1 cells slots Q (F0 m (pc + 3) ls rest)) : W p l e R s m args below meth c H locs cells slots Q (F0 m pc ls (v :: .ref a :: rest)) := by
  subst hW2
  exact va_putN hx hb ha hin ty0 hty hnm hown hK hP hD hS q0 he hc k hk hlink (fun x h => by rw [← hsame]; exact h) hfin (hty k hk) hn hfit hl hdg kk
theorem ptF {ref C : String} {T : u_T} {N ci a : Nat} {W2 : va_W} (hx : p.tables.exec = Jvm.exec) (hb : c.code = cc) (ha : ∀ w ∈ AL, w.before args s = true) (hin : ∀ w ∈ u_ws C T N, w ∈ AL) (ty0 : Nat → FieldType) (hty : ∀ k, k < N → parseFieldDescriptor (T k).2.2.1 = some (ty0 k)) (hnm : ∀ a, a < N → ∀ b, b < N → a ≠ b → (T a).2.1 ≠ (T b).2.1) (hown : s.vm.findClass own = some m.cls) (hK : va_K D classes (tys4 cB cI cJ cZ) s) (hP : va_P D classes ws H) (hD : va_D A ws) (hS : va_S A s.heap H locs) (q0 : Nat) {fs : List Value} (he : ws[q0]? = some (a, .inr (ci, fs))) (hc : classes[ci]? = some (C, T, N)) (k : Nat) (hk : k < N) (hlink : (Cond.fieldLink own idx ref (T k).2.1 (T k).2.2.1).before args s = true) (hsame : (T k).1 = ref) (hfin : (T k).2.2.2 = true) (hin2 : meth.name = "<init>") (hdecl : (T k).1 = own) {v : Value} (hn : narrow (ty0 k) v = v) (hfit : fits (ty0 k) v = true) (hl : k < fs.length) (hdg : decode cc pc = .ok (.putfield idx, 3)) (hW2 : ws.set q0 (a, .inr (ci, fs.set k v)) = W2)
    (kk : ∀ (H1 : Heap) (locs1 : List Loc), va_P D classes W2 H1 → va_D A W2 → va_S A s.heap H1 locs1 → W p l e R s m args below meth c H1 locs1 cells slots Q (F0 m (pc + 3) ls rest)) : W p l e R s m args below meth c H locs cells slots Q (F0 m pc ls (v :: .ref a :: rest)) := by
  subst hW2
  exact va_putF hx hb ha hin ty0 hty hnm hown hK hP hD hS q0 he hc k hk hlink (fun x h => by rw [← hsame]; exact h) hfin hin2 hdecl (hty k hk) hn hfit hl hdg kk
theorem st_i {a k : Nat} {W2 : va_W} (hx : p.tables.exec = Jvm.exec) (hb : c.code = cc) (hK : va_K D classes (tys4 cB cI cJ cZ) s) (hP : va_P D classes ws H) (hD : va_D A ws) (hS : va_S A s.heap H locs) (q0 : Nat) {f g : Nat → Int32} (he : ws[q0]? = some (a, .inl (cI, k, .inl f))) {i : Int32} {x : Int32} (hin : ¬ (i < 0 ∨ k ≤ i.toNatClampNeg)) (hg : g = upd f i.toNatClampNeg x) (hdg : decode cc pc = .ok (.iastore, 1)) (hW2 : ws.set q0 (a, .inl (cI, k, .inl g)) = W2)
    (kk : ∀ (H1 : Heap) (locs1 : List Loc), va_P D classes W2 H1 → va_D A W2 → va_S A s.heap H1 locs1 → W p l e R s m args below meth c H1 locs1 cells slots Q (F0 m (pc + 1) ls rest)) : W p l e R s m args below meth c H locs cells slots Q (F0 m pc ls (.int x :: .int i :: .ref a :: rest)) := by
  subst hg; subst hW2
  exact va_iast hx hb hK hP hD hS q0 1 he rfl (show vp_in i k from hin) hdg kk
theorem ld_i {a k : Nat} (hx : p.tables.exec = Jvm.exec) (hb : c.code = cc) (hK : va_K D classes (tys4 cB cI cJ cZ) s) (hP : va_P D classes ws H) (q0 : Nat) {f : Nat → Int32} (he : ws[q0]? = some (a, .inl (cI, k, .inl f))) {i : Int32} (hin : ¬ (i < 0 ∨ k ≤ i.toNatClampNeg)) (hdg : decode cc pc = .ok (.iaload, 1))
    (kk : W p l e R s m args below meth c H locs cells slots Q (F0 m (pc + 1) ls (.int (f i.toNatClampNeg) :: rest))) : W p l e R s m args below meth c H locs cells slots Q (F0 m pc ls (.int i :: .ref a :: rest)) :=
  va_iald hx hb hK hP q0 1 he rfl (show vp_in i k from hin) hdg kk
theorem nw_i (hx : p.tables.exec = Jvm.exec) (hb : c.code = cc) (harr : (Cond.arrayClass .int).before args s = true) (hK : va_K D classes (tys4 cB cI cJ cZ) s) (hP : va_P D classes ws H) (hD : va_D A ws) (hS : va_S A s.heap H locs) (hA : ∀ q, s.heap.size ≤ q → A q) {k : Int32} {N' : Nat} (hn : ¬ k < 0) (hN : k.toNatClampNeg = N') (hbytes : N' * componentBytes .int ≤ 536870912) (hcells : cells + 1 ≤ R.cells) (hslots : slots + N' ≤ R.slots) {c2 s2 : Nat} (hc2 : cells + 1 = c2) (hs2 : slots + N' = s2) (hdg : decode cc pc = .ok (.newarray .int, 2))
    (kk : ∀ (q : Nat) (H1 : Heap), va_P D classes (ws ++ [(q, .inl (cI, N', .inl (fun _ => 0)))]) H1 → va_D A (ws ++ [(q, .inl (cI, N', .inl (fun _ => 0)))]) → va_S A s.heap H1 locs → W p l e R s m args below meth c H1 locs c2 s2 Q (F0 m (pc + 2) ls (.ref q :: rest))) : W p l e R s m args below meth c H locs cells slots Q (F0 m pc ls (.int k :: rest)) := by
  subst hc2; subst hs2
  refine va_newa (atype := .int) (ty := .int) (N' := N') (n := k) (a0 := (N', .inl (fun _ => 0))) hx hb harr rfl hK hP hD hS hA (fun _ => rfl) hn hN hbytes hcells hslots hdg (fun q cA H1 hK1 hP1 hD1 hS1 => ?_)
  have e : cA = cI := arr_uni (ty := .int) hK1 4 1 rfl rfl (by simp)
  subst e
  exact kk q H1 hP1 hD1 hS1
theorem st_b {a k : Nat} {W2 : va_W} (hx : p.tables.exec = Jvm.exec) (hb : c.code = cc) (hK : va_K D classes (tys4 cB cI cJ cZ) s) (hP : va_P D classes ws H) (hD : va_D A ws) (hS : va_S A s.heap H locs) (q0 : Nat) {f g : Nat → Int32} (he : ws[q0]? = some (a, .inl (cB, k, .inl f))) {i : Int32} {x : Int32} (hin : ¬ (i < 0 ∨ k ≤ i.toNatClampNeg)) (hg : g = upd f i.toNatClampNeg (vp_nar .byte x)) (hdg : decode cc pc = .ok (.bastore, 1)) (hW2 : ws.set q0 (a, .inl (cB, k, .inl g)) = W2)
    (kk : ∀ (H1 : Heap) (locs1 : List Loc), va_P D classes W2 H1 → va_D A W2 → va_S A s.heap H1 locs1 → W p l e R s m args below meth c H1 locs1 cells slots Q (F0 m (pc + 1) ls rest)) : W p l e R s m args below meth c H locs cells slots Q (F0 m pc ls (.int x :: .int i :: .ref a :: rest)) := by
  subst hg; subst hW2
  exact va_bast hx hb hK hP hD hS q0 0 he rfl (show vp_in i k from hin) hdg kk
theorem ld_b {a k : Nat} (hx : p.tables.exec = Jvm.exec) (hb : c.code = cc) (hK : va_K D classes (tys4 cB cI cJ cZ) s) (hP : va_P D classes ws H) (q0 : Nat) {f : Nat → Int32} (he : ws[q0]? = some (a, .inl (cB, k, .inl f))) {i : Int32} (hin : ¬ (i < 0 ∨ k ≤ i.toNatClampNeg)) (hdg : decode cc pc = .ok (.baload, 1))
    (kk : W p l e R s m args below meth c H locs cells slots Q (F0 m (pc + 1) ls (.int (f i.toNatClampNeg) :: rest))) : W p l e R s m args below meth c H locs cells slots Q (F0 m pc ls (.int i :: .ref a :: rest)) :=
  va_bald hx hb hK hP q0 0 he rfl (show vp_in i k from hin) hdg kk
theorem nw_b (hx : p.tables.exec = Jvm.exec) (hb : c.code = cc) (harr : (Cond.arrayClass .byte).before args s = true) (hK : va_K D classes (tys4 cB cI cJ cZ) s) (hP : va_P D classes ws H) (hD : va_D A ws) (hS : va_S A s.heap H locs) (hA : ∀ q, s.heap.size ≤ q → A q) {k : Int32} {N' : Nat} (hn : ¬ k < 0) (hN : k.toNatClampNeg = N') (hbytes : N' * componentBytes .byte ≤ 536870912) (hcells : cells + 1 ≤ R.cells) (hslots : slots + N' ≤ R.slots) {c2 s2 : Nat} (hc2 : cells + 1 = c2) (hs2 : slots + N' = s2) (hdg : decode cc pc = .ok (.newarray .byte, 2))
    (kk : ∀ (q : Nat) (H1 : Heap), va_P D classes (ws ++ [(q, .inl (cB, N', .inl (fun _ => 0)))]) H1 → va_D A (ws ++ [(q, .inl (cB, N', .inl (fun _ => 0)))]) → va_S A s.heap H1 locs → W p l e R s m args below meth c H1 locs c2 s2 Q (F0 m (pc + 2) ls (.ref q :: rest))) : W p l e R s m args below meth c H locs cells slots Q (F0 m pc ls (.int k :: rest)) := by
  subst hc2; subst hs2
  refine va_newa (atype := .byte) (ty := .byte) (N' := N') (n := k) (a0 := (N', .inl (fun _ => 0))) hx hb harr rfl hK hP hD hS hA (fun _ => rfl) hn hN hbytes hcells hslots hdg (fun q cA H1 hK1 hP1 hD1 hS1 => ?_)
  have e : cA = cB := arr_uni (ty := .byte) hK1 4 0 rfl rfl (by simp)
  subst e
  exact kk q H1 hP1 hD1 hS1
theorem st_z {a k : Nat} {W2 : va_W} (hx : p.tables.exec = Jvm.exec) (hb : c.code = cc) (hK : va_K D classes (tys4 cB cI cJ cZ) s) (hP : va_P D classes ws H) (hD : va_D A ws) (hS : va_S A s.heap H locs) (q0 : Nat) {f g : Nat → Int32} (he : ws[q0]? = some (a, .inl (cZ, k, .inl f))) {i : Int32} {x : Int32} (hin : ¬ (i < 0 ∨ k ≤ i.toNatClampNeg)) (hg : g = upd f i.toNatClampNeg (vp_nar .boolean x)) (hdg : decode cc pc = .ok (.bastore, 1)) (hW2 : ws.set q0 (a, .inl (cZ, k, .inl g)) = W2)
    (kk : ∀ (H1 : Heap) (locs1 : List Loc), va_P D classes W2 H1 → va_D A W2 → va_S A s.heap H1 locs1 → W p l e R s m args below meth c H1 locs1 cells slots Q (F0 m (pc + 1) ls rest)) : W p l e R s m args below meth c H locs cells slots Q (F0 m pc ls (.int x :: .int i :: .ref a :: rest)) := by
  subst hg; subst hW2
  exact va_zast hx hb hK hP hD hS q0 3 he rfl (show vp_in i k from hin) hdg kk
theorem ld_z {a k : Nat} (hx : p.tables.exec = Jvm.exec) (hb : c.code = cc) (hK : va_K D classes (tys4 cB cI cJ cZ) s) (hP : va_P D classes ws H) (q0 : Nat) {f : Nat → Int32} (he : ws[q0]? = some (a, .inl (cZ, k, .inl f))) {i : Int32} (hin : ¬ (i < 0 ∨ k ≤ i.toNatClampNeg)) (hdg : decode cc pc = .ok (.baload, 1))
    (kk : W p l e R s m args below meth c H locs cells slots Q (F0 m (pc + 1) ls (.int (f i.toNatClampNeg) :: rest))) : W p l e R s m args below meth c H locs cells slots Q (F0 m pc ls (.int i :: .ref a :: rest)) :=
  va_zald hx hb hK hP q0 3 he rfl (show vp_in i k from hin) hdg kk
theorem nw_z (hx : p.tables.exec = Jvm.exec) (hb : c.code = cc) (harr : (Cond.arrayClass .boolean).before args s = true) (hK : va_K D classes (tys4 cB cI cJ cZ) s) (hP : va_P D classes ws H) (hD : va_D A ws) (hS : va_S A s.heap H locs) (hA : ∀ q, s.heap.size ≤ q → A q) {k : Int32} {N' : Nat} (hn : ¬ k < 0) (hN : k.toNatClampNeg = N') (hbytes : N' * componentBytes .boolean ≤ 536870912) (hcells : cells + 1 ≤ R.cells) (hslots : slots + N' ≤ R.slots) {c2 s2 : Nat} (hc2 : cells + 1 = c2) (hs2 : slots + N' = s2) (hdg : decode cc pc = .ok (.newarray .boolean, 2))
    (kk : ∀ (q : Nat) (H1 : Heap), va_P D classes (ws ++ [(q, .inl (cZ, N', .inl (fun _ => 0)))]) H1 → va_D A (ws ++ [(q, .inl (cZ, N', .inl (fun _ => 0)))]) → va_S A s.heap H1 locs → W p l e R s m args below meth c H1 locs c2 s2 Q (F0 m (pc + 2) ls (.ref q :: rest))) : W p l e R s m args below meth c H locs cells slots Q (F0 m pc ls (.int k :: rest)) := by
  subst hc2; subst hs2
  refine va_newa (atype := .boolean) (ty := .boolean) (N' := N') (n := k) (a0 := (N', .inl (fun _ => 0))) hx hb harr rfl hK hP hD hS hA (fun _ => rfl) hn hN hbytes hcells hslots hdg (fun q cA H1 hK1 hP1 hD1 hS1 => ?_)
  have e : cA = cZ := arr_uni (ty := .boolean) hK1 4 3 rfl rfl (by simp)
  subst e
  exact kk q H1 hP1 hD1 hS1
theorem st_l {a k : Nat} {W2 : va_W} (hx : p.tables.exec = Jvm.exec) (hb : c.code = cc) (hK : va_K D classes (tys4 cB cI cJ cZ) s) (hP : va_P D classes ws H) (hD : va_D A ws) (hS : va_S A s.heap H locs) (q0 : Nat) {f g : Nat → Int64} (he : ws[q0]? = some (a, .inl (cJ, k, .inr (.inl f)))) {i : Int32} {x : Int64} (hin : ¬ (i < 0 ∨ k ≤ i.toNatClampNeg)) (hg : g = vp_updL f i.toNatClampNeg x) (hdg : decode cc pc = .ok (.lastore, 1)) (hW2 : ws.set q0 (a, .inl (cJ, k, .inr (.inl g))) = W2)
    (kk : ∀ (H1 : Heap) (locs1 : List Loc), va_P D classes W2 H1 → va_D A W2 → va_S A s.heap H1 locs1 → W p l e R s m args below meth c H1 locs1 cells slots Q (F0 m (pc + 1) ls rest)) : W p l e R s m args below meth c H locs cells slots Q (F0 m pc ls (.long x :: .int i :: .ref a :: rest)) := by
  subst hg; subst hW2
  exact va_last hx hb hK hP hD hS q0 2 he rfl (show vp_in i k from hin) hdg kk
theorem ld_l {a k : Nat} (hx : p.tables.exec = Jvm.exec) (hb : c.code = cc) (hK : va_K D classes (tys4 cB cI cJ cZ) s) (hP : va_P D classes ws H) (q0 : Nat) {f : Nat → Int64} (he : ws[q0]? = some (a, .inl (cJ, k, .inr (.inl f)))) {i : Int32} (hin : ¬ (i < 0 ∨ k ≤ i.toNatClampNeg)) (hdg : decode cc pc = .ok (.laload, 1))
    (kk : W p l e R s m args below meth c H locs cells slots Q (F0 m (pc + 1) ls (.long (f i.toNatClampNeg) :: rest))) : W p l e R s m args below meth c H locs cells slots Q (F0 m pc ls (.int i :: .ref a :: rest)) :=
  va_lald hx hb hK hP q0 2 he rfl (show vp_in i k from hin) hdg kk
theorem nw_l (hx : p.tables.exec = Jvm.exec) (hb : c.code = cc) (harr : (Cond.arrayClass .long).before args s = true) (hK : va_K D classes (tys4 cB cI cJ cZ) s) (hP : va_P D classes ws H) (hD : va_D A ws) (hS : va_S A s.heap H locs) (hA : ∀ q, s.heap.size ≤ q → A q) {k : Int32} {N' : Nat} (hn : ¬ k < 0) (hN : k.toNatClampNeg = N') (hbytes : N' * componentBytes .long ≤ 536870912) (hcells : cells + 1 ≤ R.cells) (hslots : slots + N' ≤ R.slots) {c2 s2 : Nat} (hc2 : cells + 1 = c2) (hs2 : slots + N' = s2) (hdg : decode cc pc = .ok (.newarray .long, 2))
    (kk : ∀ (q : Nat) (H1 : Heap), va_P D classes (ws ++ [(q, .inl (cJ, N', .inr (.inl (fun _ => 0))))]) H1 → va_D A (ws ++ [(q, .inl (cJ, N', .inr (.inl (fun _ => 0))))]) → va_S A s.heap H1 locs → W p l e R s m args below meth c H1 locs c2 s2 Q (F0 m (pc + 2) ls (.ref q :: rest))) : W p l e R s m args below meth c H locs cells slots Q (F0 m pc ls (.int k :: rest)) := by
  subst hc2; subst hs2
  refine va_newa (atype := .long) (ty := .long) (N' := N') (n := k) (a0 := (N', .inr (.inl (fun _ => 0)))) hx hb harr rfl hK hP hD hS hA (fun _ => rfl) hn hN hbytes hcells hslots hdg (fun q cA H1 hK1 hP1 hD1 hS1 => ?_)
  have e : cA = cJ := arr_uni (ty := .long) hK1 4 2 rfl rfl (by simp)
  subst e
  exact kk q H1 hP1 hD1 hS1

theorem tsI {dflt lo hi : Int} {offs : Array Int} {len : Nat} {x k : Int32} {off : Int} {tgt : Nat} (hx : p.tables.exec = Jvm.exec) (hb : c.code = cc) (hk : x = k) (hdg : decode cc pc = .ok (.tableswitch dflt lo hi offs, len)) (h1 : ¬ k.toInt < lo) (h2 : ¬ hi < k.toInt) (ho : offs[(k.toInt - lo).toNat]? = some off) (ht : (pc : Int) + off = (tgt : Int))
    (kk : W p l e R s m args below meth c H locs cells slots Q (F0 m tgt ls rest)) : W p l e R s m args below meth c H locs cells slots Q (F0 m pc ls (.int x :: rest)) := by
  subst hk
  exact lv_tableIn hx hb hdg h1 h2 ho ht kk
theorem tsO {dflt : Int} {hi : Nat} {offs : Array Int} {len : Nat} {x : Int32} {tgt : Nat} (hx : p.tables.exec = Jvm.exec) (hb : c.code = cc) (hk : ∀ k : Nat, k ≤ hi → x ≠ Int32.ofNat k) (hdg : decode cc pc = .ok (.tableswitch dflt 0 (hi : Int) offs, len)) (hh : hi < 2 ^ 31) (ht : (pc : Int) + dflt = (tgt : Int))
    (kk : W p l e R s m args below meth c H locs cells slots Q (F0 m tgt ls rest)) : W p l e R s m args below meth c H locs cells slots Q (F0 m pc ls (.int x :: rest)) := by
  refine lv_tableOut hx hb hdg ?_ ht kk
  by_cases h0 : x < 0
  · left
    have := Int32.lt_iff_toInt_lt.mp h0
    simpa using this
  · right
    obtain ⟨j, hj, rfl⟩ := nI_of h0
    rw [nI_toInt hj]
    rcases Nat.lt_or_ge hi j with q | q
    · exact_mod_cast q
    · exact absurd rfl (hk j q)
end BASE
