/-! catching: the search of a method's own handlers, with classes named but perhaps not yet looked up -/
theorem pm_goYes {Q : Handler → Pre} {E : CtlPost} {e : Env} {d : Bool} {acts : List Action} {s : State} {f : JFrame} {a : Addr} {x : ExceptionTableEntry} {t : List ExceptionTableEntry} {c : ClassId} {cell : Cell} (hx : covers x f.pc = true) (h0 : x.catchType ≠ 0)
    (hl : s.vm.ClassLinks e.platform f.method.cls x.catchType c) (hcell : s.heap[a]? = some cell) (hobj : ∀ k, cell.vm ≠ .statics k) (hk : ∃ k, s.vm.classes[cell.cls]? = some k) (hc : ∃ k, s.vm.classes[c]? = some k) (b : Bool) (hfit : s.vm.assignable cell.cls c = b) :
    wp (findHandler.go f a (x :: t)) Q E e d acts s ↔ (if b = true then Q (.found x.handlerPc) d acts (s.setVm (s.vm.noted f.method.cls x.catchType (.cls c))) else wp (findHandler.go f a t) Q E e d acts (s.setVm (s.vm.noted f.method.cls x.catchType (.cls c)))) := by
  simp only [covers] at hx
  obtain ⟨ha, ht⟩ := (resolveClass_links e.toSetting hl).op (op := VmOp.resolveClass f.method.cls x.catchType) rfl
  have hal : s.vm.Alike (s.vm.noted f.method.cls x.catchType (.cls c)) := (Vm.Alike.refl s.vm).noted _ _ _
  obtain ⟨k1, hk1⟩ := hk
  obtain ⟨k2, hk2⟩ := hc
  obtain ⟨k1', hk1', -⟩ := hal.2.2 _ _ hk1
  obtain ⟨k2', hk2', -⟩ := hal.2.2 _ _ hk2
  have hfit' : (s.vm.noted f.method.cls x.catchType (.cls c)).assignable cell.cls c = b := by rw [hal.assignable]; exact hfit
  cases b
  · simp [findHandler.go, hx, h0, ha, ht, hcell, hobj, hk1', hk2', hfit', VmOp.dirties, VmOp.acts]
  · simp [findHandler.go, hx, h0, ha, ht, hcell, hobj, hk1', hk2', hfit', VmOp.dirties, VmOp.acts]
/-- a row of the table names the type by cT; b: it takes the thrown one -/
def pm_Row (e : Env) (s : State) (m : MethodId) (th : ClassId) (b : Bool) (y : ExceptionTableEntry) : Prop := y.catchType ≠ 0 ∧ ∃ cT, s.vm.ClassLinks e.platform m.cls y.catchType cT ∧ s.vm.assignable th cT = b
theorem pm_search {e : Env} {s₀ : State} {f : JFrame} {a : Addr} {cell : Cell} (hobj : ∀ k, cell.vm ≠ .statics k) (hk0 : ∃ k, s₀.vm.classes[cell.cls]? = some k) (x : ExceptionTableEntry) (rest : List ExceptionTableEntry) (hx : covers x f.pc = true) (hend : pm_Row e s₀ f.method cell.cls true x) :
    ∀ (pre : List ExceptionTableEntry) (S : State), s₀.WarmedH S.vm → S.heap[a]? = some cell → (∀ y ∈ pre, covers y f.pc = true ∧ pm_Row e s₀ f.method cell.cls false y) →
      ∃ vm', s₀.WarmedH vm' ∧ ∀ (Q : Handler → Pre) (E : CtlPost) (d : Bool) (acts : List Action), wp (findHandler.go f a (pre ++ x :: rest)) Q E e d acts S ↔ Q (.found x.handlerPc) d acts (S.setVm vm') := by
  obtain ⟨k0, hk0⟩ := hk0
  intro pre
  induction pre with
  | nil =>
    intro S hW hcell _
    obtain ⟨k0', hk0', -⟩ := hW.alike.2.2 _ _ hk0
    obtain ⟨h0, c, hl, hfit⟩ := hend
    obtain ⟨dk, _, _, kt, hd, _, _, _, _, hkt, _, hopen⟩ := hl.here
    obtain ⟨kt', hkt', -⟩ := hW.alike.2.2 _ _ hkt
    refine ⟨_, hW.noted hd hopen (State.rightAt_cls hl), fun Q E d acts => ?_⟩
    rw [List.nil_append, pm_goYes hx h0 (hW.classLinks hl) hcell hobj ⟨k0', hk0'⟩ ⟨kt', hkt'⟩ true (by rw [hW.alike.assignable]; exact hfit)]
    simp
  | cons y ys ih =>
    intro S hW hcell hpass
    obtain ⟨k0', hk0', -⟩ := hW.alike.2.2 _ _ hk0
    obtain ⟨hcov, h0, c, hl, hno⟩ := hpass y List.mem_cons_self
    obtain ⟨dk, _, _, kt, hd, _, _, _, _, hkt, _, hopen⟩ := hl.here
    obtain ⟨kt', hkt', -⟩ := hW.alike.2.2 _ _ hkt
    obtain ⟨vm', hW', hq⟩ := ih (S.setVm (S.vm.noted f.method.cls y.catchType (.cls c))) (hW.noted hd hopen (State.rightAt_cls hl)) hcell (fun z hz => hpass z (List.mem_cons_of_mem _ hz))
    refine ⟨vm', hW', fun Q E d acts => ?_⟩
    rw [List.cons_append, pm_goYes hcov h0 (hW.classLinks hl) hcell hobj ⟨k0', hk0'⟩ ⟨kt', hkt'⟩ false (by rw [hW.alike.assignable]; exact hno)]
    rw [if_neg (by decide)]
    exact hq Q E d acts
theorem pm_caught {p : Program} {l : Launch} {e : Env} {R : Room} {s T : State} {m : MethodId} {args : Array Value} {below : List Frame} {meth : Method} {c : Code} {locs : List Loc} {k n : Nat} (X : Stand p l e R s m args below meth c T locs k n) (q : Addr) {g : JFrame} (hg : g.method = m) {cell : Cell} (hcell : T.heap[q]? = some cell) (hv : cell.vm = .none) (hk0 : ∃ k, s.vm.classes[cell.cls]? = some k)
    (pre : List ExceptionTableEntry) (x : ExceptionTableEntry) (rest : List ExceptionTableEntry) (hsplit : c.exceptionTable.toList = pre ++ x :: rest) (hpass : ∀ y ∈ pre, covers y g.pc = true ∧ pm_Row e s m cell.cls false y) (hx : covers x g.pc = true) (hend : pm_Row e s m cell.cls true x) :
    ∃ vm', Stand p l e R s m args below meth c (T.setVm vm') locs k n ∧ Steps p.tables e below ((T.setTop g).pushFrame (.throwing q)) ((T.setVm vm').setTop { g with pc := x.handlerPc, stack := [.ref q] }) := by
  subst hg
  have hvmS : ((T.setTop g).pushFrame (.throwing q)).vm = T.vm := Stand.throwing_vm T g q
  have hhpS : ((T.setTop g).pushFrame (.throwing q)).heap = T.heap := Stand.throwing_heap T g q
  obtain ⟨vm', hW', hq⟩ := pm_search (e := e) (s₀ := s) (f := g) (a := q) (cell := cell) (fun z h => by rw [hv] at h; cases h) hk0 x rest hx hend pre ((T.setTop g).pushFrame (.throwing q)) (by rw [hvmS]; exact X.warmed) (by rw [hhpS]; exact hcell) hpass
  refine ⟨vm', X.noted hW', ?_⟩
  have hfind : ∀ (Q : Handler → Pre) (E : CtlPost) (d : Bool) (acts : List Action), wp (findHandler g q) Q E e d acts ((T.setTop g).pushFrame (.throwing q)) ↔ Q (.found x.handlerPc) d acts (((T.setTop g).pushFrame (.throwing q)).setVm vm') := by
    intro Q E d acts
    rw [W.findHandler_eq (meth := meth) (code := c) (by rw [hvmS]; exact X.method') X.code, hsplit]
    exact hq Q E d acts
  have h := X.here
  obtain ⟨hgo, hw⟩ := h.throwing q
  refine Steps.head hgo hw ?_
  have hst : ∀ r : List Frame, (stepThrowing e ((T.setTop g).pushFrame (.throwing q)) q (.java g :: r)).Is ((((T.setTop g).pushFrame (.throwing q)).setVm vm').setFrames (.java { g with pc := x.handlerPc, stack := [.ref q] } :: r)) [] := by
    intro r
    simp only [stepThrowing, searchFrame, vmDo]
    generalize hr : Sem.go _ e false [] ((T.setTop g).pushFrame (.throwing q)) = res
    obtain ⟨as, rfl, ha⟩ := Sem.eq_ok_of hr (a := Handler.found x.handlerPc) (s' := ((T.setTop g).pushFrame (.throwing q)).setVm vm') (acts' := []) (by simp [hfind _ _ _ _])
    exact ⟨rfl, ha⟩
  rw [stepThread_throwing (frames_entered h.top _), (hst _).1]
  obtain ⟨g₀, hg⟩ := Option.isSome_iff_exists.mp h.top
  obtain ⟨r, hr⟩ := State.topJava?_eq_some.mp hg
  have hr' : (T.setVm vm').frames = .java g₀ :: r := hr
  have e1 : ∀ (u : State) (F Gx : List Frame), ((u.setFrames F).setVm vm').setFrames Gx = (u.setVm vm').setFrames Gx := by
    intro u F Gx
    have h1 : (u.setFrames F).setVm vm' = (u.setVm vm').setFrames F := rfl
    rw [h1, State.setFrames_setFrames]
  rw [State.setTop_of_frames _ hr', hr, List.tail_cons, State.pushFrame, e1, State.setTop_of_frames _ hr, e1]
  exact Steps.refl _
/-! a body with handlers -/
def pm_wsC (M : pm_M) : List Cond := Cond.codeWith M.1 M.2.1 M.2.2.1 M.2.2.2.1 M.2.2.2.2 :: pm_ws
def pm_SemC (l : Launch) (d : Nat) (M : pm_M) (as : List Value) (h : pm_H) (r : Option Value) (h' : pm_H) : Prop := ∀ (D : va_G) (κ : FieldType → ClassId) (α : Nat → Nat) (sz : Nat), Met l M.1 (pm_wsC M) (pm_rm d 1 6) (pm_Pc D κ α as h sz) (pm_Qc D κ α r h' (va_A (pm_w α κ h) sz)) 1 6 (va_A (pm_w α κ h) sz)
def pm_Mc (M : pm_M) (np : Nat) : Prop := Cond.codeWith M.1 M.2.1 M.2.2.1 M.2.2.2.1 M.2.2.2.2 ∈ pm_ws ∧ plainName M.1.cls = true ∧ (M.1.cls ≠ "java/lang/invoke/MethodHandle" ∧ M.1.cls ≠ "java/lang/invoke/VarHandle") ∧ (parseMethodDescriptor M.1.desc).map (fun d => d.parameters.length) = some np ∧ Cond.initialized M.1.cls ∈ pm_ws ∧ M.2.2.1 ≤ 21
def pm_GC (h0 : pm_H) (r : Option Value) (h' : pm_H) (X : pm_X) : State → Prop := match X with
  | (_, _, _, _, s, _, args, below, _, _, _, D, κ, α) => MQ below (pm_Qc D κ α r h' (va_A (pm_w α κ h0) s.heap.size)) args s 1 6 (va_A (pm_w α κ h0) s.heap.size)
theorem pm_semC {l : Launch} {d np : Nat} {M : pm_M} {as : List Value} {ls : List (Option Value)} {h : pm_H} {r : Option Value} {h' : pm_H} (hl : l.stackTraces = false) (ho : pm_Mc M np) (hls : as.map some ++ List.replicate (M.2.2.1 - as.length) none = ls) (hc1 : (as.all fun v => v.category == 1) = true) (hlen : as.length ≤ M.2.2.1)
    (body : pm_Go M (pm_KX l d h) (pm_GC h r h') 0 ls [] h 0 0) : pm_SemC l d M as h r h' := by
  intro D κ α sz
  have hc : ∀ v ∈ as, v.category = 1 := fun v hv => by simpa using List.all_eq_true.mp hc1 v hv
  obtain ⟨o1, o2, o3, o4, o5, o6⟩ := ho
  refine MetFree.of_bodyS (code := M.2.1) (maxLocals := M.2.2.1) (ret := M.2.2.2.1) o2 ?_ ?_
  · intro args s m h9 hn
    obtain ⟨m9, meth, c, hn9, h1, h2, h3, h4, -, h5, h6, -⟩ := Cond.codeWith_spec (atoms_spec (ws := pm_wsC M) h9 _ List.mem_cons_self)
    cases Option.some.inj (hn9.symm.trans hn)
    exact ⟨meth, c, h1, h2, h3, h4, h5, h6⟩
  · intro p e s m args below meth c s₁ B hml hv _
    obtain ⟨rfl, hsz, hP, hKn, hD0, hN⟩ := hv
    subst hsz
    have hh0 : s₁.heap = s.heap := by rw [B.state]; rfl
    have hts := atoms_spec (ws := pm_wsC M) B.pre
    have htab : c.exceptionTable.toList = tableOf M.2.2.2.2 := by
      obtain ⟨m9, meth9, c9, hn9, h1, h2, -, -, h6, -⟩ := Cond.codeWith_spec (hts _ List.mem_cons_self)
      cases Option.some.inj (hn9.symm.trans B.named)
      cases Option.some.inj (h1.symm.trans B.method)
      cases Option.some.inj (h2.symm.trans (Stand.of_body B).code)
      rw [← h6, table_eq]
    subst hls
    have key := body (p, l, e, (headSpec (pm_wsC M) (pm_rm d 1 6)).room, s, m, (as.map (pm_v α)).toArray, below, meth, c, va_A (pm_w α κ h) s.heap.size, D, κ, α) ⟨rfl, rfl, rfl⟩
      ⟨B.exec, B.bytes, B.returns, hml, findClass_of_methodNamed B.named, fun w hw => hts w (List.mem_cons_of_mem _ hw), hKn, fun q hq => Or.inr hq, B.notSynchronized, hN, (name_of_methodNamed B.named B.method).1, hl, htab⟩
      s.heap [] _ ⟨hP, hD0.self, va_S.rf, pm_entry hc hlen⟩
    obtain ⟨t, a1, o, b1, b2, b3⟩ := key s₁ hh0 (Stand.of_body B)
    refine ⟨t, o, ?_, b1, b2, b3⟩
    rw [lg_entry_eq]
    exact a1
theorem pm_retC {l : Launch} {d : Nat} {M : pm_M} {h h' : pm_H} {x : Int32} {pc k n : Nat} {ls : List (Option Value)} (hn : M.2.2.2.1 = some .int) (hk : k ≤ 1) (hk2 : n ≤ 6) (hd : decode M.2.1 pc = .ok (.ireturn, 1)) : pm_Go M (pm_KX l d h) (pm_GC h (some (.int x)) h') pc ls [.int x] h' k n := by
  rintro ⟨p, l1, e, R, s, m, args, below, meth, c, A, D, κ, α⟩ hKX hO H locs rs hs
  obtain ⟨hx, hb, hr, hml, hown, hts, hKn, hA, hlk9, hN, hnm, hstt, htab⟩ := id hO
  obtain ⟨-, -, rfl⟩ := hKX
  obtain ⟨hP, hD, hS, hL⟩ := hs
  refine W.widen (k := 1) (n := 6) hk hk2 ?_
  exact W.zret hx hb (hr.trans hn) rfl (fun t ht hW => ⟨rfl, by rw [ht]; exact hP, va_K.moved hW.alike hKn, hD, hS.F ht⟩) hS.2.2 hd hlk9
/-- how a row of the handlers stands to what is thrown: by the tables, for own and the type named -/
def pm_Hd (own E : String) (b : Bool) (y : Nat × Nat × Nat × Nat) : Prop := y.2.2.2 ≠ 0 ∧ ∃ nm, Cond.classLink own y.2.2.2 nm ∈ pm_ws ∧ (if b = true then Cond.castable E nm ∈ pm_nw else (E, nm) ∈ pm_nc)
theorem pm_hd_row {e : Env} {l : Launch} {s : State} {m : MethodId} {args : Array Value} {own E : String} {th : ClassId} {b : Bool} {y : Nat × Nat × Nat × Nat} {A : Nat → Prop} (ha : l.admits e) (hown : s.vm.findClass own = some m.cls) (hts : ∀ w ∈ pm_ws, w.before args s = true) (hN : pm_N A s) (hth : s.vm.findClass E = some th) (h : pm_Hd own E b y) : pm_Row e s m th b ⟨y.1, y.2.1, y.2.2.1, y.2.2.2⟩ := by
  obtain ⟨h0, nm, h1, h2⟩ := h
  have hpl : e.platform.magicAccessors = ({} : Platform).magicAccessors := by rw [ha.platform]
  obtain ⟨c', hc', hcl⟩ := Cond.classLink_spec hown (hts _ h1) e.platform hpl
  refine ⟨h0, c', hcl, ?_⟩
  cases b
  · rw [if_neg (by decide)] at h2
    obtain ⟨a8, b8, q1, q2, q3⟩ := hN.2.2 _ h2
    cases Option.some.inj (q1.symm.trans hth)
    cases Option.some.inj (q2.symm.trans hc')
    exact q3
  · rw [if_pos rfl] at h2
    obtain ⟨c3, c4, q1, q2, q3⟩ := Cond.castable_spec (hN.1 _ h2)
    cases Option.some.inj (q1.symm.trans hth)
    cases Option.some.inj (q2.symm.trans hc')
    exact q3
theorem pm_L.drop {α : Nat → Nat} {ls : List (Option Value)} {nL i : Nat} {rs rs' : Array Slot} {v : Value} (h : pm_L α ls nL rs) (h' : lv_has rs' nL ((i, v) :: (pm_lv α ls).filter (fun q => !(q.1 == i) && !(q.1 + 1 == i && q.2.category == 2)))) : pm_L α (ls.set i none) nL rs' := by
  refine ⟨h'.1, h'.2.1, fun j w hj => ?_⟩
  rw [List.getElem?_set] at hj
  by_cases hij : i = j
  · subst hij
    rw [if_pos rfl] at hj
    by_cases hl : i < ls.length
    · rw [if_pos hl] at hj
      cases hj
    · rw [if_neg hl] at hj
      cases hj
  · rw [if_neg hij] at hj
    have h1 := h.2.2 j w hj
    refine ⟨h1.1, h'.2.2 (j, pm_v α w) (List.mem_cons_of_mem _ (List.mem_filter.mpr ⟨pm_lv_mem hj, ?_⟩))⟩
    have h2 : (pm_v α w).category = 1 := (pm_v_cat α w).trans h1.1
    simp [h2]
    exact fun z => hij z.symm
/-- a virtual call that throws, caught here: behind the handler's own astore -/
theorem pm_catchV {M M' : pm_M} {G : pm_X → State → Prop} {pc : Nat} {ls : List (Option Value)} {st stk as : List Value} {h h0 h' : pm_H} {l : Launch} {d d' idx np a ci j ln : Nat} {fs : List Value} {cq : vw_C} {E : String} {pre suf : List (Nat × Nat × Nat × Nat)} {y : Nat × Nat × Nat × Nat}
    (hM : pm_SemX l d' M' (.ref a :: as) h E h') (ho : pm_Mo M' np) (hin : Cond.instanceMethod M'.1 ∈ pm_ws) (hse : Cond.selects M'.1.cls M'.1 M'.1 ∈ pm_ws) (hlk : Cond.methodLink M.1.cls idx M'.1 ∈ pm_ws) (hd : decode M.2.1 pc = .ok (.invokevirtual idx, 3)) (hdd : d' + 1 ≤ d) (hn : as.length = np) (hstk : stk = as.reverse ++ .ref a :: st) (hrest : (st.map fun v => v.category).sum ≤ 8) (hh : h[a]? = some (.inl (ci, fs))) (hc : vwCl[ci]? = some cq) (hcq : cq.1 = M'.1.cls)
    (hsplit : M.2.2.2.2 = pre ++ y :: suf) (hpre : ∀ z ∈ pre, covers ⟨z.1, z.2.1, z.2.2.1, z.2.2.2⟩ pc = true ∧ pm_Hd M.1.cls E false z) (hy : covers ⟨y.1, y.2.1, y.2.2.1, y.2.2.2⟩ pc = true) (hyd : pm_Hd M.1.cls E true y)
    (hd2 : (decode M.2.1 y.2.2.1 = .ok (.astore j, 2) ∧ ln = 2) ∨ (∃ jf : Fin 4, (jf : Nat) = j ∧ decode M.2.1 y.2.2.1 = .ok (.astore_n jf, 1) ∧ ln = 1)) (hj : j < M.2.2.1)
    {q : Nat} (hq : y.2.2.1 + ln = q) (kk : pm_Go M (pm_KX l d h0) G q (ls.set j none) [] h' 1 6) : pm_Go M (pm_KX l d h0) G pc ls stk h 0 0 := by
  subst hq
  rintro ⟨p, l1, e, R, s, m, args, below, meth, c, A, D, κ, α⟩ hKX hO H locs rs hs
  obtain ⟨hx, hb, hr, hml, hown, hts, hKn, hA, hlk9, hN, hnm, hstt, htab⟩ := id hO
  obtain ⟨rfl, rfl, hAe⟩ := id hKX
  have hL := hs.2.2.2
  intro T hT X
  obtain ⟨q9, ce, T', locs', u1, u2, u3, u4, u5, u6, X2, st9⟩ := pm_thrV hM ho hin hse hlk hd (show d' + 1 ≤ d from hdd) (show 40 * (d' + 1) ≤ 40 * d by omega) (k := 0) (n := 0) (Nat.le_refl _) (Nat.le_refl _) hn hstk hrest hh hc hcq hO hs T hT X
  obtain ⟨vm', X3, st3⟩ := pm_caught X2 q9 (g := F0 m pc rs (st.map (pm_v α))) rfl u1 u2 (by obtain ⟨k9, h9, -⟩ := Vm.findClass_spec u3; exact ⟨k9, h9⟩) (tableOf pre) ⟨y.1, y.2.1, y.2.2.1, y.2.2.2⟩ (tableOf suf) (by rw [htab, hsplit]; simp [tableOf])
    (fun z hz => by
      obtain ⟨z0, hz0, rfl⟩ := List.mem_map.mp hz
      exact ⟨(hpre z0 hz0).1, pm_hd_row X2.admits hown hts hN u3 (hpre z0 hz0).2⟩) hy (pm_hd_row X2.admits hown hts hN u3 hyd)
  have hW : W p l1 e (pm_rm d 1 6) s m args below meth c T'.heap locs' (0 + 1) (0 + 6) (G (p, l1, e, pm_rm d 1 6, s, m, args, below, meth, c, A, D, κ, α)) (F0 m y.2.2.1 rs [.ref q9]) := by
    rcases hd2 with ⟨hd2, rfl⟩ | ⟨jf, rfl, hd2, rfl⟩
    · exact lv_astore hx hb hd2 hL.has hj rfl (fun rs' h9 => kk _ hKX hO T'.heap locs' rs' ⟨u4, u5, u6, hL.drop h9⟩)
    · exact lv_astore_n hx hb hd2 rfl hL.has hj rfl (fun rs' h9 => kk _ hKX hO T'.heap locs' rs' ⟨u4, u5, u6, hL.drop h9⟩)
  obtain ⟨t, a1, b1⟩ := hW (T'.setVm vm') rfl X3
  exact ⟨t, (st9.trans st3).trans a1, b1⟩
