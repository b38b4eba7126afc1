/-! a callee that throws -/
def pm_XQ (E : String) (mc ms : Nat) (free : Nat → Prop) (B : State → State → Prop) : Array Value → State → Outcome → State → Prop := fun _ st o t => ∃ (q : Addr) (ce : Cell) (L : List Loc), o = .threw q ∧ B st t ∧ t.heap[q]? = some ce ∧ ce.vm = .none ∧ st.vm.findClass E = some ce.cls ∧ st.WarmedH t.vm ∧ st.sameButNew ({ t with vm := st.vm } : State) L mc ms ∧ ∀ z ∈ L, free z.base
def pm_Bx (D : va_G) (κ : FieldType → ClassId) (α : Nat → Nat) (h' : pm_H) (A : Nat → Prop) : State → State → Prop := fun st t => va_P D vwCl (pm_w α κ h') t.heap ∧ va_K D vwCl (pm_ty κ) t ∧ va_D A (pm_w α κ h') ∧ va_F A st t
def pm_SemX (l : Launch) (d : Nat) (M : pm_M) (as : List Value) (h : pm_H) (E : String) (h' : pm_H) : Prop := ∀ (D : va_G) (κ : FieldType → ClassId) (α : Nat → Nat) (sz : Nat), MetFree l M.1 (headSpec (pm_wsM M) (pm_rm d 1 6)) (pm_Pc D κ α as h sz) (fun _ _ _ _ _ => True) (pm_XQ E 1 6 (va_A (pm_w α κ h) sz) (pm_Bx D κ α h' (va_A (pm_w α κ h) sz)))
theorem pm_backX {l : Launch} {R : Room} {p : Program} {e : Env} {below : List Frame} {s : State} {sargs : Array Value} {y : MethodName} {len W9 : Nat} {ws : List Cond} {rm : Room} {Pc : Array Value → State → Prop} {E : String} {mc ms : Nat} {free : Nat → Prop} {B : State → State → Prop} {bytes : ByteArray} {maxL : Nat} {ret : Option FieldType}
    (hM : MetFree l y (headSpec ws rm) Pc (fun _ _ _ _ _ => True) (pm_XQ E mc ms free B)) (hblind : FrameBlind Pc) (hrc : rm.cells = mc) (hrs : rm.slots = ms) (hframes : rm.frames + 1 ≤ R.frames) (hlocals : W9 + (maxL + 11) + rm.locals ≤ R.locals)
    (hws : ∀ w ∈ ws, ∀ a' U, s.WarmedH U.vm → w.before a' U = true) (hcode : Cond.code y bytes maxL ret ∈ ws) (hinit : ∀ a' U, s.WarmedH U.vm → (Cond.initialized y.cls).before a' U = true)
    {m : MethodId} {meth : Method} {c : Code} {U : State} {Ls : List Loc} {c0 s0 : Nat} {g : JFrame} {ig : Instr} {mk : MethodId} {a : Array Value} (X : Stand p l e R s m sargs below meth c U Ls c0 s0) (hg : g.method = m) (hsize : g.locals.size = c.maxLocals) (hdg : decode c.code g.pc = .ok (ig, len)) (hW : 2 * g.monitorRoom + (g.stack.map fun v => v.category).sum ≤ W9) (hn : U.methodNamed? y = some mk) (h4 : c0 + mc ≤ R.cells) (h5 : s0 + ms ≤ R.slots) (hp : Pc a U) :
    ∃ (q : Addr) (ce : Cell) (st t U' : State) (L : List Loc), st.heap = U.heap ∧ U'.heap = t.heap ∧ U'.vm = t.vm ∧ B st t ∧ t.heap[q]? = some ce ∧ ce.vm = .none ∧ U.vm.findClass E = some ce.cls ∧ (∀ z ∈ L, free z.base) ∧ Stand p l e R s m sargs below meth c U' (Ls ++ L) (c0 + mc) (s0 + ms) ∧ Steps p.tables e below (doInvoke e (U.setTop g) [] mk a).1 ((U'.setTop g).pushFrame (.throwing q)) := by
  have w1 : (headSpec ws rm).pre.before a U = true := atoms_intro fun w hw => hws w hw _ _ X.warmed
  have w2 : (Cond.code y bytes maxL ret).before a U = true := hws _ hcode _ _ X.warmed
  have w3 : (Cond.initialized y.cls).before a U = true := hinit _ _ X.warmed
  have w4 : c0 + (headSpec ws rm).room.cells ≤ R.cells := by rw [show (headSpec ws rm).room.cells = mc from hrc]; exact h4
  have w5 : s0 + (headSpec ws rm).room.slots ≤ R.slots := by rw [show (headSpec ws rm).room.slots = ms from hrs]; exact h5
  have hPc : Pc a (U.calling g mk a) := hblind _ _ _ _ hp
  obtain ⟨methY, cY, hmY, hcY, -, hlY, -, -, -, -⟩ := Cond.code_spec hn w2
  obtain ⟨kY, hkY, -⟩ := className_of_methodNamed hn
  have hinitY : kY.init = .initialized := Cond.initialized_spec (findClass_of_methodNamed hn) hkY w3
  have h : At U g.method c below := by rw [hg]; exact X.here
  have hlocals9 : W9 + (maxL + 11) + (headSpec ws rm).room.locals ≤ R.locals := hlocals
  have happ : (headSpec ws rm).appliesLoose y e.platform (U.calling g mk a) = true :=
    Spec.appliesLoose_calling (g := g) h hdg hn hkY hinitY (X.room_calling (g := g) (R' := (headSpec ws rm).room) hsize hmY hcY hframes (by rw [hlY]; omega) w4 w5) w1
  obtain ⟨mid, hmid⟩ := h.above
  have hfr : (U.setTop g).frames = (.java g :: mid) ++ below := by rw [State.frames_setTop' g h.top, hmid]; rfl
  obtain ⟨o, t, hsteps, -, hend, hq⟩ := Steps.callFree hM p X.admits X.cas X.clock (acts := []) hfr happ hPc trivial
  have hq : pm_XQ E mc ms free B a (U.calling g mk a) o t := hq
  rw [State.frames_setTop' g h.top] at hend
  obtain ⟨g₀, hg0⟩ := Option.isSome_iff_exists.mp h.top
  obtain ⟨r, hr⟩ := State.topJava?_eq_some.mp hg0
  have hr' : (({ U with heap := t.heap, slotsUsed := t.slotsUsed } : State).setVm t.vm).frames = .java g₀ :: r := hr
  obtain ⟨q, ce, L, rfl, hB, hce, hcv, hcl, hW₂, hsm, hL⟩ := hq
  obtain ⟨e2, q2, q3, q4, q5, q6⟩ := id hsm
  have e3 : t = ({ (U.calling g mk a).setFrames t.frames with heap := t.heap, slotsUsed := t.slotsUsed } : State).setVm t.vm := by
    have : t = ({ t with vm := (U.calling g mk a).vm } : State).setVm t.vm := rfl
    rw [e2] at this
    exact this
  have hf₂ : t.frames = .throwing q :: .java g :: U.frames.tail := hend
  have hW' : U.WarmedH t.vm := hW₂
  have hs₂ : t = ((({ U with heap := t.heap, slotsUsed := t.slotsUsed } : State).setVm t.vm).setTop g).pushFrame (.throwing q) := by
    refine e3.trans ?_
    rw [hf₂, State.calling_eq h.top, State.setFrames_setFrames, State.pushFrame, State.frames_setTop _ hr', State.setTop_of_frames _ hr', State.setFrames_setFrames, hr]
    rfl
  have hsame : U.sameButNew ({ U with heap := t.heap, slotsUsed := t.slotsUsed } : State) L mc ms := by
    refine ⟨?_, q2, q3, q4, q5, q6⟩
    obtain ⟨t9, ht, -⟩ := State.frames_cons hr
    show ({ U with heap := t.heap, slotsUsed := t.slotsUsed } : State) = { U.setFrames U.frames with heap := t.heap, slotsUsed := t.slotsUsed }
    rw [State.setFrames_self ht]
  subst hg
  refine ⟨q, ce, U.calling g mk a, t, (({ U with heap := t.heap, slotsUsed := t.slotsUsed } : State).setVm t.vm), L, rfl, rfl, rfl, hB, hce, hcv, hcl, hL,
    ⟨X.admits, X.cas, X.clock, X.frames, X.room, X.hears, X.method, X.code, (X.here.setHeapUsed t.heap t.slotsUsed).setVm hW'.alike, X.tail, State.WarmedH.trans X.warmed hW', X.limits, X.bytes, X.same.trans (hsame.setVm s.vm)⟩, ?_⟩
  rw [← hs₂]
  exact hsteps
def pm_GX (h0 : pm_H) (E : String) (h' : pm_H) (X : pm_X) : State → Prop := match X with
  | (_, _, _, _, s, _, args, below, _, _, _, D, κ, α) => fun t => ∃ o, t.status = .running ∧ Ended t below o ∧ pm_XQ E 1 6 (va_A (pm_w α κ h0) s.heap.size) (pm_Bx D κ α h' (va_A (pm_w α κ h0) s.heap.size)) args s o t
def pm_KX (l : Launch) (d : Nat) (h0 : pm_H) (X : pm_X) : Prop := match X with
  | (_, l', _, R, s, _, _, _, _, _, A, _, κ, α) => l' = l ∧ R = pm_rm d 1 6 ∧ A = va_A (pm_w α κ h0) s.heap.size
/-- a call of a method that throws, by a body that has no handler -/
theorem pm_xS {M M' : pm_M} {pc : Nat} {ls : List (Option Value)} {st stk as : List Value} {h h0 h' : pm_H} {l : Launch} {d d' idx np : Nat} {E : String} (hM : pm_SemX l d' M' as h E h') (ho : pm_Mo M' np) (hst : Cond.static M'.1 ∈ pm_ws) (hlk : Cond.methodLink M.1.cls idx M'.1 ∈ pm_ws) (hnh : M.2.2.2.2 = []) (hd : decode M.2.1 pc = .ok (.invokestatic idx, 3)) (hdd : d' + 1 ≤ d) (hn : as.length = np) (hstk : stk = as.reverse ++ st) (hrest : (st.map fun v => v.category).sum ≤ 8) :
    pm_Go M (pm_KX l d h0) (pm_GX h0 E h') pc ls stk h 0 0 := by
  rintro ⟨p, l1, e, R, s, m, args, below, meth, c, A, D, κ, α⟩ hKX hO H locs rs hs
  obtain ⟨hx, hb, hr, hml, hown, hts, hKn, hA, hlk9, hN, hnm, hstt, htab⟩ := id hO
  obtain ⟨rfl, rfl, hAe⟩ := hKX
  obtain ⟨hP, hD, hS, hL⟩ := id hs
  obtain ⟨o1, o2, o3, o4, o5, o6, o7⟩ := ho
  have hstack : stk.map (pm_v α) = (as.map (pm_v α)).reverse ++ st.map (pm_v α) := by rw [hstk, List.map_append, List.map_reverse]
  have hcat : 2 * (F0 m pc rs (st.map (pm_v α))).monitorRoom + ((st.map (pm_v α)).map fun v => v.category).sum ≤ 8 := lv_room (by rw [pm_cats]; exact hrest)
  intro T hT X
  have hcodeW : (Cond.code M'.1 M'.2.1 M'.2.2.1 M'.2.2.2.1).before args s = true := hts _ o1
  obtain ⟨mk, hnamed⟩ := Cond.code_named hcodeW
  obtain ⟨methM, cM, hmethM, -, -, -, -, -, -, hsigM⟩ := Cond.code_spec hnamed hcodeW
  have hstatic : methM.isStatic = true := Cond.static_spec hnamed hmethM (hts _ hst)
  obtain ⟨kP, hkP, -⟩ := className_of_methodNamed hnamed
  have hinitP : kP.init = .initialized := Cond.initialized_spec (findClass_of_methodNamed hnamed) hkP (hts _ o5)
  have hdec : decode c.code pc = .ok (.invokestatic idx, 3) := by rw [hb]; exact hd
  have hlen : (as.map (pm_v α)).length = methM.sig.parameters.length := by
    rw [hsigM] at o4
    rw [List.length_map, hn]
    exact (Option.some.inj o4).symm
  obtain ⟨vm₁, X₁, hstep₁⟩ := X.invokestatic hx hown (hts _ hlk) hnamed hmethM hstatic hkP hinitP o3 (g := F0 m pc rs (stk.map (pm_v α))) rfl (argsL := as.map (pm_v α)) (rest := st.map (pm_v α)) hlen hstack hdec
  have hG := pm_good (M := M') o1
  obtain ⟨q, ce, st9, t9, U', L, g1, g2, g3, ⟨b1, b2, b3, b4⟩, g5, g6, g7, g8, X2, hsteps⟩ := pm_backX (hM D κ α H.size) pm_blind rfl rfl (W9 := 8) (R := pm_rm d 1 6) (bytes := M'.2.1) (maxL := M'.2.2.1) (ret := M'.2.2.2.1) (by simp only [pm_rm]; omega) (by simp only [pm_rm]; omega) (pay_in hts hG) List.mem_cons_self
    (fun a' U hW => word_at hW (pm_ws_good o5) (hts _ o5)) X₁ (g := F0 m pc rs (st.map (pm_v α))) rfl (hL.1.trans hml.symm) hdec hcat (X₁.named hnamed) (by simp [pm_rm]) (by simp [pm_rm]) (pm_pre hP hD hS hA hKn hN (show (T.setVm vm₁).heap = H from hT) X₁.warmed)
  have hcl : s.vm.findClass E = some ce.cls := by
    have z := g7
    rw [X₁.warmed.alike.findClass] at z
    exact z
  have hfr := pm_fr hD hS hA
  have hU : U'.heap = t9.heap := g2
  have hst9 : st9.heap = H := g1.trans hT
  obtain ⟨hz, hk9⟩ := b4
  rw [hst9] at hz hk9
  have hout : ∀ x ∈ c.exceptionTable.toList, covers x pc = false := by rw [htab, hnh]; intro x hx9; cases hx9
  obtain ⟨s1, s2, s3, s4, s5⟩ := X2.leaveThrown q (g := F0 m pc rs (st.map (pm_v α))) rfl rfl rfl hout hlk9
  refine ⟨_, ((hstep₁ _ fun acts => by rw [doInvoke_state]; exact hsteps).trans s1), .threw q, s2, s3, q, ce, locs ++ L, rfl, ⟨?_, ?_, ?_, ?_⟩, ?_, g6, hcl, s4, ?_, ?_⟩
  · show va_P D vwCl (pm_w α κ h') U'.heap
    rw [hU]; exact b1
  · exact va_K.moved s4.alike hKn
  · rw [← hAe]; exact b3.weaken (fun _ q9 _ z => hfr q9.1 z)
  · rw [← hAe]
    refine ⟨?_, fun q9 h1 h2 => ?_⟩
    · show s.heap.size ≤ U'.heap.size
      rw [hU]; exact Nat.le_trans hS.1 hz
    · show U'.heap[q9]? = _
      rw [hU, hk9 q9 (Nat.lt_of_lt_of_le h1 hS.1) (fun z => h2 (hfr q9 z))]
      exact hS.2.1 q9 h1 h2
  · show U'.heap[q]? = some ce
    rw [hU]; exact g5
  · simpa using s5
  · rw [← hAe]
    intro z hz9
    rcases List.mem_append.mp hz9 with z1 | z1
    · exact hS.2.2 z z1
    · exact hfr _ (g8 z z1)

/-- the same frame, as if the method were called anew in this heap -/
theorem pm_rebase {p : Program} {l : Launch} {e : Env} {R R' : Room} {s T : State} {m : MethodId} {args : Array Value} {below : List Frame} {meth : Method} {c : Code} {locs : List Loc} {cells slots : Nat} (X : Stand p l e R s m args below meth c T locs cells slots) (hf : R'.frames ≤ R.frames) (hl : R'.locals ≤ R.locals) (hc : cells + R'.cells ≤ R.cells) (hs : slots + R'.slots ≤ R.slots) :
    Stand p l e R' ((T.setVm s.vm).setFrames (.invoking m args :: below)) m args below meth c T [] 0 0 := by
  have htop : (T.setVm s.vm).topJava?.isSome := X.here.top
  have hF : ((T.setVm s.vm).setFrames (.invoking m args :: below)).frames = .invoking m args :: below := State.frames_setFrames _ (State.cur_lt_of_top htop)
  obtain ⟨g₀, hg0⟩ := Option.isSome_iff_exists.mp htop
  obtain ⟨r, hr⟩ := State.topJava?_eq_some.mp hg0
  have hl9 : e.platform.stackLimits (T.setVm s.vm).me = e.platform.stackLimits s.me := X.limits
  have hb9 : (T.setVm s.vm).me.stackBytes = s.me.stackBytes := X.bytes
  have hU : ((T.setVm s.vm).setFrames (.invoking m args :: below)).localsInUse = s.localsInUse := by
    rw [State.localsInUse_invoking hF (meth := meth) (c := c) X.method X.code, State.localsInUse_invoking X.frames X.method X.code]
  have hroom : ((T.setVm s.vm).setFrames (.invoking m args :: below)).hasRoom e.platform R' = true := by
    have h := X.room
    simp only [State.hasRoom, Bool.and_eq_true, decide_eq_true_eq] at h ⊢
    obtain ⟨⟨⟨⟨h1, h2, h3, h4, h5, h6⟩, h7⟩, h8⟩, h9⟩ := h
    rw [X.frames, List.length_cons] at h2 h3
    have q1 := X.heapSize
    have q2 := X.used
    simp only [hF, hU, List.length_cons, State.stackLimits_setFrames, State.stackBytes_setFrames, hl9, hb9]
    refine ⟨⟨⟨⟨by omega, by omega, by omega, by omega, by omega, h6⟩, ?_⟩, ?_⟩, X.book⟩
    · show T.heap.size + R'.cells ≤ e.platform.maxCells
      omega
    · show T.slotsUsed + R'.slots ≤ e.platform.maxSlots
      omega
  refine ⟨X.admits, X.cas, X.clock, hF, hroom, X.hears, X.method, X.code, X.here, X.tail, X.warmed, ?_, ?_, ?_⟩
  · rw [State.stackLimits_setFrames]; rfl
  · rw [State.stackBytes_setFrames]; rfl
  · refine ⟨?_, Nat.le_refl _, Nat.le_refl _, ?_, ?_, fun a c9 h9 => ⟨c9, h9, rfl, rfl, fun _ _ => rfl⟩⟩
    · obtain ⟨t, ht, -⟩ := State.frames_cons hr
      show T.setVm s.vm = { ((T.setVm s.vm).setFrames (.invoking m args :: below)).setFrames (T.setVm s.vm).frames with heap := T.heap, slotsUsed := T.slotsUsed }
      rw [State.setFrames_setFrames, State.setFrames_self ht]
      rfl
    · show T.slotsUsed = T.slotsUsed + ((T.heap.toList.drop T.heap.size).map (·.slots.size)).sum
      rw [List.drop_eq_nil_of_le (Nat.le_of_eq Array.length_toList)]
      rfl
    · show ((T.heap.toList.drop T.heap.size).map (·.slots.size)).sum ≤ 0
      rw [List.drop_eq_nil_of_le (Nat.le_of_eq Array.length_toList)]
      exact Nat.le_refl _
theorem pm_frame {s U : State} {locs : List Loc} {k n : Nat} (h : s.sameButNew ({ U with vm := s.vm } : State) locs k n) : s.heap.size ≤ U.heap.size ∧ ∀ q : Nat, q < s.heap.size → (∀ z ∈ locs, z.base ≠ q) → U.heap[q]? = s.heap[q]? := by
  obtain ⟨-, h2, -, -, -, h6⟩ := h
  refine ⟨h2, fun q hq hz => ?_⟩
  obtain ⟨c9, e1, e2, e3, e4⟩ := h6 q _ (Array.getElem?_eq_getElem hq)
  have hs : c9.slots = (s.heap[q]).slots := Array.ext_getElem? fun i => e4 i fun hm => hz _ hm rfl
  have h9 : c9 = s.heap[q] := by
    rw [hs] at e2
    exact e2
  have e5 : U.heap[q]? = some c9 := e1
  rw [e5, h9, Array.getElem?_eq_getElem hq]
theorem pm_zw_args {w : Cond} (h : w ∈ pm_zw) {a : Array Value} {U : State} (hb : w.before #[] U = true) : w.before a U = true := by
  simp only [pm_zw, List.mem_cons, List.not_mem_nil, or_false] at h
  rcases h with rfl | rfl | rfl | rfl <;> exact hb
/-- what the tables say of 'throw new E()' -/
def pm_Ex (own : String) (ik ic : Nat) (E : String) (names : List String) : Prop := Bundle.fit E = true ∧ (∀ n ∈ names, Bundle.fit n = true) ∧ Cond.classLink own ik E ∈ pm_ws ∧ Cond.initialized E ∈ pm_ws ∧ ∀ w ∈ Bundle.ownAtoms0 own ic E names, w ∈ pm_ws ∨ w ∈ pm_nw ∨ w ∈ pm_zw
theorem pm_new0 {M : pm_M} {pc : Nat} {ls : List (Option Value)} {st : List Value} {h h0 : pm_H} {l : Launch} {d ik ic : Nat} {E : String} {names : List String} (hE : pm_Ex M.1.cls ik ic E names) (hnh : M.2.2.2.2 = []) (d0 : decode M.2.1 pc = .ok (.new ik, 3)) (d3 : decode M.2.1 (pc + 3) = .ok (.dup, 1)) (d4 : decode M.2.1 (pc + 4) = .ok (.invokespecial ic, 3)) (d7 : decode M.2.1 (pc + 7) = .ok (.athrow, 1)) (hdd : names.length + 4 ≤ d) (hrest : (st.map fun v => v.category).sum ≤ 8) : pm_Go M (pm_KX l d h0) (pm_GX h0 E h) pc ls st h 0 0 := by
  rintro ⟨p, l1, e, R, s, m, args, below, meth, c, A, D, κ, α⟩ hKX hO H locs rs hs
  obtain ⟨hx, hb, hr, hml, hown, hts, hKn, hA, hlk9, hN, hnm, hstt, htab⟩ := id hO
  obtain ⟨rfl, rfl, hAe⟩ := hKX
  obtain ⟨hP, hD, hS, hL⟩ := id hs
  obtain ⟨x1, x2, x3, x4, x5⟩ := hE
  intro T hT X
  have htr : e.platform.stackTraces = false := (show e.platform.stackTraces = l1.stackTraces by rw [X.admits.platform]).trans hstt
  have Y := pm_rebase X (R' := pm_rm d 1 6) (Nat.le_refl _) (Nat.le_refl _) (by simp [pm_rm]) (by simp [pm_rm])
  obtain ⟨s', hA'⟩ : ∃ z, z = (T.setVm s.vm).setFrames (.invoking m args :: below) := ⟨_, rfl⟩
  rw [← hA'] at Y
  have hvm : s'.vm = s.vm := by rw [hA']; rfl
  have hhp : s'.heap = H := by rw [hA']; exact hT
  have hW0 : s.WarmedH s'.vm := by rw [hvm]; exact State.WarmedH.refl s
  have hat : ∀ w ∈ Bundle.ownAtoms0 M.1.cls ic E names, w.before args s' = true := by
    intro w hw
    rcases x5 w hw with z | z | z
    · exact word_at hW0 (pm_ws_good z) (hts w z)
    · exact va_tabs (pm_isN_on (pm_nw_ok w z)) hvm.symm (hN.1 w z)
    · have z2 := hN.2.1 w z s' (by rw [hvm]; exact Vm.Alike.refl _) (by rw [hhp]; exact hS.1) (fun q h1 h2 => by rw [hhp]; exact hS.2.1 q h1 h2)
      exact pm_zw_args z z2
  have hown' : s'.vm.findClass M.1.cls = some m.cls := by rw [hvm]; exact hown
  have hk' : (Cond.classLink M.1.cls ik E).before args s' = true := word_at hW0 (pm_ws_good x3) (hts _ x3)
  have hini' : (Cond.initialized E).before args s' = true := word_at hW0 (pm_ws_good x4) (hts _ x4)
  have hins : (Cond.instantiable E 6).before args s' = true := hat _ (by simp [Bundle.ownAtoms0])
  have hsr := pm_cats α st
  obtain ⟨vm₁, cX, kX, hfX, hkX, -, -, X₁, st1⟩ := Y.newCold hx (own := M.1.cls) (C := E) (index := ik) (n := 6) hown' hk' hins hini' (g := F0 m pc rs (st.map (pm_v α))) rfl (by rw [hb]; exact d0) (by simp [pm_rm]) (by simp [pm_rm])
  generalize hT1 : (T.setVm vm₁).pushCell { cls := cX, slots := kX.instanceTypes.map defaultValue, vm := .none } = T1 at X₁ st1
  have hcat : (Value.ref T.heap.size).category = 1 := rfl
  have hcellA : T1.heap[T.heap.size]? = some (freshCell cX kX) := by rw [← hT1]; exact State.heap_pushCell_size _ _
  have d3' : decode c.code (pc + 3) = .ok (.dup, 1) := by rw [hb]; exact d3
  have hout : ∀ x ∈ c.exceptionTable.toList, covers x (pc + 7) = false := by rw [htab, hnh]; intro x hx9; cases hx9
  obtain ⟨U, hsteps, hrun, hend, hW, hsame, ce, hce, hOc⟩ := X₁.ctorThrow0 hx htr (own := M.1.cls) (cls := E) (names := names) (ic := ic) hown' x1 x2 hat (fun x hx => nomatch hx) hfX hkX hcellA (by rw [hhp, hT]; exact Nat.le_refl _)
    (g := { method := m, pc := pc + 4, locals := rs, stack := .ref T.heap.size :: .ref T.heap.size :: st.map (pm_v α), locked := none }) rfl (hL.1.trans hml.symm) rfl rfl (rest := st.map (pm_v α)) rfl
    (by rw [hb]; exact d4) (by rw [hb]; exact d7) hout (by show names.length + 3 < d; omega) (by
      simp only [List.map_cons, List.sum_cons, hcat, hsr]
      show 2 * 0 + _ + _ ≤ 40 * d
      omega) hlk9
  obtain ⟨f1, f2⟩ := pm_frame hsame
  rw [hhp] at f1 f2
  have f3 : ∀ q : Nat, q < H.size → U.heap[q]? = H[q]? := fun q hq => f2 q hq (fun z hz => nomatch hz)
  have hWs : s.WarmedH U.vm := State.WarmedH.trans hW0 hW
  have hcl : s.vm.findClass E = some ce.cls := by
    have h9 := hOc.cls
    rw [hvm] at h9
    exact h9
  have hall : s.sameButNew ({ U with vm := s.vm } : State) locs 1 6 := by
    subst hA'
    obtain ⟨e1, e2⟩ := hsame
    rw [State.setFrames_setFrames] at e1
    have h2 : (T.setVm s.vm).sameButNew ({ U with vm := s.vm } : State) [] (0 + 1) (0 + 6) := ⟨e1, e2⟩
    have h3 := X.same.trans h2
    rw [List.append_nil] at h3
    exact h3.mono (by omega) (by omega)
  have hsteps2 : Steps p.tables e below (T.setTop (F0 m pc rs (st.map (pm_v α)))) U := by
    refine st1 _ ?_
    show Steps p.tables e below (T1.setTop { method := m, pc := pc + 3, locals := rs, stack := .ref T.heap.size :: st.map (pm_v α), locked := none }) _
    jvm_step X₁.here [X₁.here.top, hx, d3', Value.category]
    exact hsteps
  refine ⟨U, hsteps2, .threw T.heap.size, hrun, hend, T.heap.size, ce, locs, rfl, ⟨?_, va_K.moved hWs.alike hKn, ?_, ?_⟩, hce, hOc.vm, hcl, hWs, hall, ?_⟩
  · exact hP.kept (fun k q hk => f3 q.1 (hP k q hk).lt)
  · rw [← hAe]; exact hD
  · rw [← hAe]
    exact ⟨Nat.le_trans hS.1 f1, fun q h1 h2 => by rw [f3 q (Nat.lt_of_lt_of_le h1 hS.1)]; exact hS.2.1 q h1 h2⟩
  · rw [← hAe]; exact hS.2.2
