/-! a static call of a method with handlers -/
theorem pm_backC {l : Launch} {R : Room} {p : Program} {e : Env} {below : List Frame} {s : State} {sargs : Array Value} {y : MethodName} {len W9 : Nat} {ws : List Cond} {rm : Room} {Pc : Array Value → State → Prop} {Qc : Array Value → State → Outcome → State → Prop} {mc ms : Nat} {free : Addr → Prop} {bytes : ByteArray} {maxL : Nat} {ret : Option FieldType} {hh : List (Nat × Nat × Nat × Nat)}
    (hM : Met l y ws rm Pc Qc mc ms free) (hblind : FrameBlind Pc) (hrc : rm.cells = mc) (hrs : rm.slots = ms) (hframes : rm.frames + 1 ≤ R.frames) (hlocals : W9 + (maxL + 11) + rm.locals ≤ R.locals)
    (hws : ∀ w ∈ ws, ∀ a' U, s.WarmedH U.vm → w.before a' U = true) (hcode : Cond.codeWith y bytes maxL ret hh ∈ ws) (hinit : ∀ a' U, s.WarmedH U.vm → (Cond.initialized y.cls).before a' U = true)
    {m : MethodId} {meth : Method} {c : Code} {U : State} {Ls : List Loc} {c0 s0 : Nat} {g : JFrame} {ig : Instr} {mk : MethodId} {a : Array Value} (X : Stand p l e R s m sargs below meth c U Ls c0 s0) (hg : g.method = m) (hsize : g.locals.size = c.maxLocals) (hdg : decode c.code g.pc = .ok (ig, len)) (hW : 2 * g.monitorRoom + (g.stack.map fun v => v.category).sum ≤ W9) (hn : U.methodNamed? y = some mk) (h4 : c0 + mc ≤ R.cells) (h5 : s0 + ms ≤ R.slots) (hp : Pc a U) :
    ∃ (v : Option Value) (st t U' : State) (L : List Loc), st.heap = U.heap ∧ U'.heap = t.heap ∧ U'.vm = t.vm ∧ Qc a st (.returned v) t ∧ (∀ z ∈ L, free z.base) ∧ Stand p l e R s m sargs below meth c U' (Ls ++ L) (c0 + mc) (s0 + ms) ∧ Steps p.tables e below (doInvoke e (U.setTop g) [] mk a).1 (U'.setTop { g with pc := g.pc + len, stack := v.toList ++ g.stack }) := by
  have w1 : (headSpec ws rm).pre.before a U = true := atoms_intro fun w hw => hws w hw _ _ X.warmed
  have w2 : (Cond.codeWith y bytes maxL ret hh).before a U = true := hws _ hcode _ _ X.warmed
  have w3 : (Cond.initialized y.cls).before a U = true := hinit _ _ X.warmed
  have w4 : c0 + (headSpec ws rm).room.cells ≤ R.cells := by rw [show (headSpec ws rm).room.cells = mc from hrc]; exact h4
  have w5 : s0 + (headSpec ws rm).room.slots ≤ R.slots := by rw [show (headSpec ws rm).room.slots = ms from hrs]; exact h5
  have hPc : Pc a (U.calling g mk a) := hblind _ _ _ _ hp
  obtain ⟨mk9, methY, cY, hn9, hmY, hcY, -, hlY, -⟩ := Cond.codeWith_spec w2
  cases Option.some.inj (hn9.symm.trans hn)
  obtain ⟨kY, hkY, -⟩ := className_of_methodNamed hn
  have hinitY : kY.init = .initialized := Cond.initialized_spec (findClass_of_methodNamed hn) hkY w3
  have h : At U g.method c below := by rw [hg]; exact X.here
  have hlocals9 : W9 + (maxL + 11) + (headSpec ws rm).room.locals ≤ R.locals := hlocals
  have happ : (headSpec ws rm).appliesLoose y e.platform (U.calling g mk a) = true :=
    Spec.appliesLoose_calling (g := g) h hdg hn hkY hinitY (X.room_calling (g := g) (R' := (headSpec ws rm).room) hsize hmY hcY hframes (by rw [hlY]; omega) w4 w5) w1
  obtain ⟨mid, hmid⟩ := h.above
  have hfr : (U.setTop g).frames = (.java g :: mid) ++ below := by rw [State.frames_setTop' g h.top, hmid]; rfl
  obtain ⟨o, t, hsteps, -, hend, hq⟩ := Steps.callFree hM p X.admits X.cas X.clock (acts := []) hfr happ hPc trivial
  have hq : Qc a (U.calling g mk a) o t ∧ ∃ L, FrameEnd (U.calling g mk a) o t L mc ms ∧ ∀ q ∈ L, free q.base := hq
  rw [State.frames_setTop' g h.top] at hend
  obtain ⟨g₀, hg0⟩ := Option.isSome_iff_exists.mp h.top
  obtain ⟨r, hr⟩ := State.topJava?_eq_some.mp hg0
  have hr' : (({ U with heap := t.heap, slotsUsed := t.slotsUsed } : State).setVm t.vm).frames = .java g₀ :: r := hr
  obtain ⟨hqc, L, hfe, hL⟩ := hq
  obtain ⟨⟨v, rfl⟩, hW₂, e2, q2, q3, q4, q5, q6⟩ := id hfe
  have e3 : t = ({ (U.calling g mk a).setFrames t.frames with heap := t.heap, slotsUsed := t.slotsUsed } : State).setVm t.vm := by
    have : t = ({ t with vm := (U.calling g mk a).vm } : State).setVm t.vm := rfl
    rw [e2] at this
    exact this
  obtain ⟨c₂, i₂, len₂, hc₂, hd₂, hf₂⟩ := hend
  have hW' : U.WarmedH t.vm := hW₂
  have hcc : c₂ = c := by
    have h1 : t.code? g.method = U.code? g.method := by
      rw [State.code?_eq, State.code?_eq, hW'.alike.method?]
    exact Option.some.inj (hc₂.symm.trans (h1.trans h.code))
  subst hcc
  have hlen : len₂ = len := by rw [hdg] at hd₂; cases hd₂; rfl
  subst hlen
  have hs₂ : t = (({ U with heap := t.heap, slotsUsed := t.slotsUsed } : State).setVm t.vm).setTop { g with pc := g.pc + len₂, stack := v.toList ++ g.stack } := by
    refine e3.trans ?_
    rw [hf₂, State.calling_eq h.top, State.setFrames_setFrames, State.setTop_of_frames _ hr', hr]
    rfl
  have hsame : U.sameButNew ({ U with heap := t.heap, slotsUsed := t.slotsUsed } : State) L mc ms := by
    refine ⟨?_, q2, q3, q4, q5, q6⟩
    obtain ⟨t9, ht, -⟩ := State.frames_cons hr
    show ({ U with heap := t.heap, slotsUsed := t.slotsUsed } : State) = { U.setFrames U.frames with heap := t.heap, slotsUsed := t.slotsUsed }
    rw [State.setFrames_self ht]
  subst hg
  refine ⟨v, U.calling g mk a, t, (({ U with heap := t.heap, slotsUsed := t.slotsUsed } : State).setVm t.vm), L, rfl, rfl, rfl, hqc, hL,
    ⟨X.admits, X.cas, X.clock, X.frames, X.room, X.hears, X.method, X.code, (X.here.setHeapUsed t.heap t.slotsUsed).setVm hW'.alike, X.tail, State.WarmedH.trans X.warmed hW', X.limits, X.bytes, X.same.trans (hsame.setVm s.vm)⟩, ?_⟩
  rw [← hs₂]
  exact hsteps
theorem pm_goodC {M : pm_M} (h : Cond.codeWith M.1 M.2.1 M.2.2.1 M.2.2.2.1 M.2.2.2.2 ∈ pm_ws) : GoodIn pm_ws (pm_wsC M) := by
  intro w hw
  rcases List.mem_cons.mp hw with rfl | hw
  · exact ⟨h, pm_ws_good h⟩
  · exact ⟨hw, pm_ws_good hw⟩
theorem pm_callC {M M' : pm_M} {K : pm_X → Prop} {G : pm_X → State → Prop} {pc : Nat} {ls : List (Option Value)} {st stk as : List Value} {h h' : pm_H} {k n : Nat} {l : Launch} {d d' mc ms idx np : Nat} {r : Option Value} (hK : ∀ X, K X → pm_Kd l d mc ms X) (hM : pm_SemC l d' M' as h r h') (ho : pm_Mc M' np) (hst : Cond.static M'.1 ∈ pm_ws) (hlk : Cond.methodLink M.1.cls idx M'.1 ∈ pm_ws) (hd : decode M.2.1 pc = .ok (.invokestatic idx, 3)) (hdd : d' + 1 ≤ d) (hn : as.length = np) (hstk : stk = as.reverse ++ st) (hrest : (st.map fun v => v.category).sum ≤ 8) (hk1 : k + 1 ≤ mc) (hk2 : n + 6 ≤ ms)
    {q : Nat} (hq : pc + 3 = q) (kk : pm_Go M K G q ls (r.toList ++ st) h' (k + 1) (n + 6)) : pm_Go M K G pc ls stk h k n := by
  subst hq
  rintro ⟨p, l1, e, R, s, m, args, below, meth, c, A, D, κ, α⟩ hKX hO H locs rs hs
  obtain ⟨hx, hb, hr, hml, hown, hts, hKn, hA, hlk9, hN, hnm, hstt, htab⟩ := id hO
  obtain ⟨hl1, hf1, hf2, hf3, hf4⟩ := hK _ hKX
  dsimp only at hl1 hf1 hf2 hf3 hf4
  subst hl1
  obtain ⟨hP, hD, hS, hL⟩ := id hs
  obtain ⟨o1, o2, o3, o4, o5, o6⟩ := ho
  have hstack : stk.map (pm_v α) = (as.map (pm_v α)).reverse ++ st.map (pm_v α) := by rw [hstk, List.map_append, List.map_reverse]
  have hcat : 2 * (F0 m pc rs (st.map (pm_v α))).monitorRoom + ((st.map (pm_v α)).map fun v => v.category).sum ≤ 8 := lv_room (by rw [pm_cats]; exact hrest)
  intro T hT X
  obtain ⟨mk, methM, cM, hnamed, hmethM, -, -, -, -, -, -, hsigM⟩ := Cond.codeWith_spec (hts _ o1)
  have hstatic : methM.isStatic = true := Cond.static_spec hnamed hmethM (hts _ hst)
  obtain ⟨kP, hkP, -⟩ := className_of_methodNamed hnamed
  have hinitP : kP.init = .initialized := Cond.initialized_spec (findClass_of_methodNamed hnamed) hkP (hts _ o5)
  have hdec : decode c.code pc = .ok (.invokestatic idx, 3) := by rw [hb]; exact hd
  have hlen : (as.map (pm_v α)).length = methM.sig.parameters.length := by
    rw [hsigM] at o4
    rw [List.length_map, hn]
    exact (Option.some.inj o4).symm
  obtain ⟨vm₁, X₁, hstep₁⟩ := X.invokestatic hx hown (hts _ hlk) hnamed hmethM hstatic hkP hinitP o3 (g := F0 m pc rs (stk.map (pm_v α))) rfl (argsL := as.map (pm_v α)) (rest := st.map (pm_v α)) hlen hstack hdec
  obtain ⟨v, st9, t9, U', L, g1, g2, g3, ⟨b0, b1, b2, b3, b4⟩, g8, X2, hsteps⟩ := pm_backC (hM D κ α H.size) pm_blind rfl rfl (W9 := 8) (R := R) (bytes := M'.2.1) (maxL := M'.2.2.1) (ret := M'.2.2.2.1) (hh := M'.2.2.2.2) (by simp only [pm_rm]; omega) (by simp only [pm_rm]; omega) (pay_in hts (pm_goodC o1)) List.mem_cons_self
    (fun a' U hW => word_at hW (pm_ws_good o5) (hts _ o5)) X₁ (g := F0 m pc rs (st.map (pm_v α))) rfl (hL.1.trans hml.symm) hdec hcat (X₁.named hnamed) (by omega) (by omega) (pm_pre hP hD hS hA hKn hN (show (T.setVm vm₁).heap = H from hT) X₁.warmed)
  cases b0
  have hfr := pm_fr hD hS hA
  have hst9 : st9.heap = H := g1.trans hT
  obtain ⟨hz, hk9⟩ := b4
  rw [hst9] at hz hk9
  have hS' : va_S A s.heap U'.heap (locs ++ L) := ⟨by rw [g2]; exact Nat.le_trans hS.1 hz, fun q9 h1 h2 => by
      rw [g2, hk9 q9 (Nat.lt_of_lt_of_le h1 hS.1) (fun z => h2 (hfr q9 z))]
      exact hS.2.1 q9 h1 h2, fun z hz9 => by
      rcases List.mem_append.mp hz9 with z1 | z1
      · exact hS.2.2 z z1
      · exact hfr _ (g8 z z1)⟩
  have z := kk _ hKX hO U'.heap (locs ++ L) rs ⟨by rw [g2]; exact b1, b3.weaken (fun _ q9 _ z => hfr q9.1 z), hS', hL⟩
  obtain ⟨t2, a1, c1⟩ := z U' rfl X2
  have e9 : (r.toList ++ st).map (pm_v α) = (r.map (pm_v α)).toList ++ st.map (pm_v α) := by cases r <;> simp
  rw [e9] at a1
  exact ⟨t2, hstep₁ _ fun acts => by rw [doInvoke_state]; exact hsteps.trans a1, c1⟩
