/-! a body that throws; a virtual call of one; a body that catches -/
theorem pm_semX {l : Launch} {d np : Nat} {M : pm_M} {as : List Value} {ls : List (Option Value)} {h : pm_H} {E : String} {h' : pm_H} (hl : l.stackTraces = false) (ho : pm_Mo M np) (hls : as.map some ++ List.replicate (M.2.2.1 - as.length) none = ls) (hc1 : (as.all fun v => v.category == 1) = true) (hlen : as.length ≤ M.2.2.1)
    (body : pm_Go M (pm_KX l d h) (pm_GX h E h') 0 ls [] h 0 0) : pm_SemX l d M as h E h' := by
  intro D κ α sz
  have hc : ∀ v ∈ as, v.category = 1 := fun v hv => by simpa using List.all_eq_true.mp hc1 v hv
  obtain ⟨o1, o2, o3, o4, o5, o6, o7⟩ := ho
  refine MetFree.of_bodyS (code := M.2.1) (maxLocals := M.2.2.1) (ret := M.2.2.2.1) o2 ?_ ?_
  · intro args s m h9 hn
    obtain ⟨meth, c, h1, h2, h3, h4, h5, h6, -, -⟩ := Cond.code_spec hn (atoms_spec (ws := pm_wsM M) h9 _ List.mem_cons_self)
    exact ⟨meth, c, h1, h2, h3, h4, h5, h6⟩
  · intro p e s m args below meth c s₁ B hml hv _
    obtain ⟨rfl, hsz, hP, hKn, hD0, hN⟩ := hv
    subst hsz
    have hh0 : s₁.heap = s.heap := by rw [B.state]; rfl
    have hts := atoms_spec (ws := pm_wsM M) B.pre
    have htab : c.exceptionTable.toList = tableOf M.2.2.2.2 := by
      obtain ⟨meth9, c9, h1, h2, -, -, -, -, h7, -⟩ := Cond.code_spec B.named (hts _ List.mem_cons_self)
      cases Option.some.inj (h1.symm.trans B.method)
      cases Option.some.inj (h2.symm.trans (Stand.of_body B).code)
      rw [o7, Array.isEmpty_iff.mp h7]
      rfl
    subst hls
    have key := body (p, l, e, (headSpec (pm_wsM M) (pm_rm d 1 6)).room, s, m, (as.map (pm_v α)).toArray, below, meth, c, va_A (pm_w α κ h) s.heap.size, D, κ, α) ⟨rfl, rfl, rfl⟩
      ⟨B.exec, B.bytes, B.returns, hml, findClass_of_methodNamed B.named, fun w hw => hts w (List.mem_cons_of_mem _ hw), hKn, fun q hq => Or.inr hq, B.notSynchronized, hN, (name_of_methodNamed B.named B.method).1, hl, htab⟩
      s.heap [] _ ⟨hP, hD0.self, va_S.rf, pm_entry hc hlen⟩
    obtain ⟨t, a1, o, b1, b2, b3⟩ := key s₁ hh0 (Stand.of_body B)
    refine ⟨t, o, ?_, b1, b2, b3⟩
    rw [lg_entry_eq]
    exact a1
/-- what a call that throws gives its caller: the frame, with the thrown one over it -/
def pm_Thr (p : Program) (l : Launch) (e : Env) (R : Room) (s : State) (m : MethodId) (args : Array Value) (below : List Frame) (meth : Method) (c : Code) (H : Heap) (locs : List Loc) (k n : Nat) (A : Nat → Prop) (D : va_G) (κ : FieldType → ClassId) (α : Nat → Nat) (E : String) (h' : pm_H) (g : JFrame) (rest : List Value) : Prop :=
  ∀ T : State, T.heap = H → Stand p l e R s m args below meth c T locs k n → ∃ (q : Addr) (ce : Cell) (T' : State) (locs' : List Loc), T'.heap[q]? = some ce ∧ ce.vm = .none ∧ s.vm.findClass E = some ce.cls ∧ va_P D vwCl (pm_w α κ h') T'.heap ∧ va_D A (pm_w α κ h') ∧ va_S A s.heap T'.heap locs' ∧
    Stand p l e R s m args below meth c T' locs' (k + 1) (n + 6) ∧ Steps p.tables e below (T.setTop g) ((T'.setTop { g with stack := rest }).pushFrame (.throwing q))
theorem pm_thrV {M M' : pm_M} {pc : Nat} {ls : List (Option Value)} {st stk as : List Value} {h h' : pm_H} {d' idx np a ci : Nat} {fs : List Value} {cq : vw_C} {E : String} {p : Program} {l : Launch} {e : Env} {R : Room} {s : State} {m : MethodId} {args : Array Value} {below : List Frame} {meth : Method} {c : Code} {A : Nat → Prop} {D : va_G} {κ : FieldType → ClassId} {α : Nat → Nat} {H : Heap} {locs : List Loc} {rs : Array Slot} {k n : Nat}
    (hM : pm_SemX l d' M' (.ref a :: as) h E h') (ho : pm_Mo M' np) (hin : Cond.instanceMethod M'.1 ∈ pm_ws) (hse : Cond.selects M'.1.cls M'.1 M'.1 ∈ pm_ws) (hlk : Cond.methodLink M.1.cls idx M'.1 ∈ pm_ws) (hd : decode M.2.1 pc = .ok (.invokevirtual idx, 3)) (hdd : d' + 1 ≤ R.frames) (hdl : 40 * (d' + 1) ≤ R.locals) (hkc : k + 1 ≤ R.cells) (hks : n + 6 ≤ R.slots) (hn : as.length = np) (hstk : stk = as.reverse ++ .ref a :: st) (hrest : (st.map fun v => v.category).sum ≤ 8)
    (hh : h[a]? = some (.inl (ci, fs))) (hc : vwCl[ci]? = some cq) (hcq : cq.1 = M'.1.cls)
    (hO : pm_Ok M (p, l, e, R, s, m, args, below, meth, c, A, D, κ, α)) (hs : pm_St M (p, l, e, R, s, m, args, below, meth, c, A, D, κ, α) ls h H locs rs) :
    pm_Thr p l e R s m args below meth c H locs k n A D κ α E h' (F0 m pc rs (stk.map (pm_v α))) (st.map (pm_v α)) := by
  obtain ⟨hx, hb, hr, hml, hown, hts, hKn, hA, hlk9, hN, hnm, hstt, htab⟩ := id hO
  obtain ⟨hP, hD, hS, hL⟩ := id hs
  obtain ⟨o1, o2, o3, o4, o5, o6, o7⟩ := ho
  have he : (pm_w α κ h)[a]? = some (α a, .inr (ci, fs.map (pm_v α))) := pm_w_at hh
  have hrecv := va_recv hKn hP hc he
  rw [hcq] at hrecv
  obtain ⟨cellB, hcB, hoB, hclB⟩ := hrecv
  have hstack : stk.map (pm_v α) = (as.map (pm_v α)).reverse ++ .ref (α a) :: st.map (pm_v α) := by rw [hstk, List.map_append, List.map_reverse]; rfl
  have hcat : 2 * (F0 m pc rs (st.map (pm_v α))).monitorRoom + ((st.map (pm_v α)).map fun v => v.category).sum ≤ 8 := lv_room (by rw [pm_cats]; exact hrest)
  intro T hT X
  have hcodeW : (Cond.code M'.1 M'.2.1 M'.2.2.1 M'.2.2.2.1).before args s = true := hts _ o1
  obtain ⟨mk, methM, hnamed, hmethM, hstM, habM⟩ := Cond.instanceMethod_spec (hts _ hin)
  obtain ⟨methM', cM, hmethM', -, -, -, -, -, -, hsigM⟩ := Cond.code_spec hnamed hcodeW
  cases hmethM.symm.trans hmethM'
  obtain ⟨c2, r2, m2, q1, q2, q3, q4, kP, hkP, hkPi⟩ := Cond.selects_spec (hts _ hse)
  cases hclB.symm.trans q1
  cases (State.methodFound?_of_named hnamed o3).symm.trans q2
  cases hnamed.symm.trans q3
  have hselP : selectMethod e.platform s.vm cellB.cls mk = .method mk := by rw [Launch.admits_selectMethod X.admits]; exact q4
  have hdec : decode c.code pc = .ok (.invokevirtual idx, 3) := by rw [hb]; exact hd
  have hlen : (as.map (pm_v α)).length = methM.sig.parameters.length := by
    rw [hsigM] at o4
    rw [List.length_map, hn]
    exact (Option.some.inj o4).symm
  obtain ⟨vm₁, X₁, hstep₁⟩ := X.invokevirtual hx hown (hts _ hlk) hnamed hmethM hstM hkP hkPi o3 (a := α a) (cell := cellB) (by rw [hT]; exact hcB)
    (fun z h => by rw [h] at hoB; cases hoB) hselP hmethM habM hkP hkPi (g := F0 m pc rs (stk.map (pm_v α))) rfl (argsL := as.map (pm_v α)) (rest := st.map (pm_v α)) hlen hstack hdec
  have hG := pm_good (M := M') o1
  obtain ⟨q, ce, st9, t9, U', L, g1, g2, g3, ⟨b1, b2, b3, b4⟩, g5, g6, g7, g8, X2, hsteps⟩ := pm_backX (hM D κ α H.size) pm_blind rfl rfl (W9 := 8) (R := R) (bytes := M'.2.1) (maxL := M'.2.2.1) (ret := M'.2.2.2.1) (by simp only [pm_rm]; omega) (by simp only [pm_rm]; omega) (pay_in hts hG) List.mem_cons_self
    (fun a' U hW => word_at hW (pm_ws_good o5) (hts _ o5)) X₁ (g := F0 m pc rs (st.map (pm_v α))) rfl (hL.1.trans hml.symm) hdec hcat (X₁.named hnamed) hkc hks (pm_pre (as := .ref a :: as) hP hD hS hA hKn hN (show (T.setVm vm₁).heap = H from hT) X₁.warmed)
  have hcl : s.vm.findClass E = some ce.cls := by
    have z := g7
    rw [X₁.warmed.alike.findClass] at z
    exact z
  have hfr := pm_fr hD hS hA
  have hst9 : st9.heap = H := g1.trans hT
  obtain ⟨hz, hk9⟩ := b4
  rw [hst9] at hz hk9
  refine ⟨q, ce, U', locs ++ L, by rw [g2]; exact g5, g6, hcl, by rw [g2]; exact b1, b3.weaken (fun _ q9 _ z => hfr q9.1 z), ⟨?_, fun q9 h1 h2 => ?_, fun z hz9 => ?_⟩, X2, hstep₁ _ fun acts => by rw [doInvoke_state]; exact hsteps⟩
  · rw [g2]; exact Nat.le_trans hS.1 hz
  · rw [g2, hk9 q9 (Nat.lt_of_lt_of_le h1 hS.1) (fun z => h2 (hfr q9 z))]
    exact hS.2.1 q9 h1 h2
  · rcases List.mem_append.mp hz9 with z1 | z1
    · exact hS.2.2 z z1
    · exact hfr _ (g8 z z1)
/-- not caught: it leaves this method too -/
theorem pm_xV {M M' : pm_M} {pc : Nat} {ls : List (Option Value)} {st stk as : List Value} {h h0 h' : pm_H} {l : Launch} {d d' idx np a ci : Nat} {fs : List Value} {cq : vw_C} {E : String} (hM : pm_SemX l d' M' (.ref a :: as) h E h') (ho : pm_Mo M' np) (hin : Cond.instanceMethod M'.1 ∈ pm_ws) (hse : Cond.selects M'.1.cls M'.1 M'.1 ∈ pm_ws) (hlk : Cond.methodLink M.1.cls idx M'.1 ∈ pm_ws) (hnh : M.2.2.2.2 = []) (hd : decode M.2.1 pc = .ok (.invokevirtual idx, 3)) (hdd : d' + 1 ≤ d) (hn : as.length = np) (hstk : stk = as.reverse ++ .ref a :: st) (hrest : (st.map fun v => v.category).sum ≤ 8) (hh : h[a]? = some (.inl (ci, fs))) (hc : vwCl[ci]? = some cq) (hcq : cq.1 = M'.1.cls) :
    pm_Go M (pm_KX l d h0) (pm_GX h0 E h') pc ls stk h 0 0 := by
  rintro ⟨p, l1, e, R, s, m, args, below, meth, c, A, D, κ, α⟩ hKX hO H locs rs hs
  obtain ⟨hx, hb, hr, hml, hown, hts, hKn, hA, hlk9, hN, hnm, hstt, htab⟩ := id hO
  obtain ⟨rfl, rfl, hAe⟩ := hKX
  intro T hT X
  obtain ⟨q, ce, T', locs', u1, u2, u3, u4, u5, u6, X2, st9⟩ := pm_thrV hM ho hin hse hlk hd (show d' + 1 ≤ d from hdd) (show 40 * (d' + 1) ≤ 40 * d by omega) (k := 0) (n := 0) (Nat.le_refl _) (Nat.le_refl _) hn hstk hrest hh hc hcq hO hs T hT X
  have hout : ∀ x ∈ c.exceptionTable.toList, covers x pc = false := by rw [htab, hnh]; intro x hx9; cases hx9
  obtain ⟨s1, s2, s3, s4, s5⟩ := X2.leaveThrown q (g := F0 m pc rs (st.map (pm_v α))) rfl rfl rfl hout hlk9
  refine ⟨_, st9.trans s1, .threw q, s2, s3, q, ce, locs', rfl, ⟨u4, va_K.moved s4.alike hKn, by rw [← hAe]; exact u5, ?_⟩, u1, u2, u3, s4, by simpa using s5, by rw [← hAe]; exact u6.2.2⟩
  rw [← hAe]
  exact ⟨u6.1, fun q9 h1 h2 => u6.2.1 q9 h1 h2⟩
