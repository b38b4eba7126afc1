/-! constructors -/
def pm_QN (D : va_G) (κ : FieldType → ClassId) (α : Nat → Nat) (h h' : pm_H) (A : Nat → Prop) : Array Value → State → Outcome → State → Prop := fun _ st o t => o = .returned none ∧ ∃ α', pm_agree α α' h.length h'.length ∧ va_P D vwCl (pm_w α' κ h') t.heap ∧ va_K D vwCl (pm_ty κ) t ∧ va_D A (pm_w α' κ h') ∧ va_F A st t
def pm_SemN (l : Launch) (d mc ms : Nat) (M : pm_M) (as : List Value) (h h' : pm_H) : Prop := ∀ (D : va_G) (κ : FieldType → ClassId) (α : Nat → Nat) (sz : Nat), Met l M.1 (pm_wsM M) (pm_rm d mc ms) (pm_Pc D κ α as h sz) (pm_QN D κ α h h' (va_A (pm_w α κ h) sz)) mc ms (va_A (pm_w α κ h) sz)
def pm_GN (h0 h' : pm_H) (mc ms : Nat) (X : pm_X) : State → Prop := match X with
  | (_, _, _, _, s, _, args, below, _, _, A, D, κ, α) => MQ below (pm_QN D κ α h0 h' A) args s mc ms A
def pm_KN (l : Launch) (d mc ms : Nat) (X : pm_X) : Prop := match X with
  | (_, l', _, R, _, _, _, _, _, _, _, _, _, _) => l' = l ∧ R = pm_rm d mc ms
theorem pm_stabN {l : Launch} {d mc ms : Nat} {h h' : pm_H} : pm_Stab (pm_KN l d mc ms) (pm_GN h h' mc ms) h.length h'.length := by
  rintro ⟨p, l1, e, R, s, m, args, below, meth, c, A, D, κ, α⟩ α' hag hKX
  refine ⟨hKX, ?_⟩
  intro t ht
  obtain ⟨o, a1, a2, ⟨a3, α2, b1, b2⟩, a4⟩ := ht
  exact ⟨o, a1, a2, ⟨a3, α2, fun k hk => (b1 k hk).trans (hag k hk), b2⟩, a4⟩
theorem pm_semN {l : Launch} {d np mc ms : Nat} {M : pm_M} {as : List Value} {ls : List (Option Value)} {h h' : pm_H} (hl : l.stackTraces = false) (ho : pm_Mo M np) (hn : M.2.2.2.1 = none) (hls : as.map some ++ List.replicate (M.2.2.1 - as.length) none = ls) (hc1 : (as.all fun v => v.category == 1) = true) (hlen : as.length ≤ M.2.2.1)
    (body : ∀ (K : pm_X → Prop) (G : pm_X → State → Prop), (∀ X, K X → pm_Kd l d mc ms X) → pm_Stab K G h.length h'.length → (∀ (pc : Nat) (ls : List (Option Value)), decode M.2.1 pc = .ok (.return_, 1) → pm_Go M K G pc ls [] h' mc ms) → pm_Go M K G 0 ls [] h 0 0) : pm_SemN l d mc ms M as h h' := by
  intro D κ α sz
  have hc : ∀ v ∈ as, v.category = 1 := fun v hv => by simpa using List.all_eq_true.mp hc1 v hv
  obtain ⟨o1, o2, o3, o4, o5, o6, o7⟩ := ho
  refine Met.ofW (cc := M.2.1) (maxL := M.2.2.1) (ret := M.2.2.2.1) o2 rfl ?_
  intro p e s m args below meth c s₁ B hml hv
  obtain ⟨rfl, hsz, hP, hKn, hD0, hN⟩ := hv
  subst hsz
  have hts := atoms_spec (ws := pm_wsM M) B.pre
  have htab : c.exceptionTable.toList = tableOf M.2.2.2.2 := by
    obtain ⟨meth9, c9, h1, h2, -, -, -, -, h7, -⟩ := Cond.code_spec B.named (hts _ List.mem_cons_self)
    cases Option.some.inj (h1.symm.trans B.method)
    cases Option.some.inj (h2.symm.trans (Stand.of_body B).code)
    rw [o7, Array.isEmpty_iff.mp h7]
    rfl
  rw [lg_entry_eq]
  have key := body (pm_KN l d mc ms) (pm_GN h h' mc ms) (fun X hX => by
    obtain ⟨p, l1, e, R, s, m, args, below, meth, c, A, D, κ, α⟩ := X
    obtain ⟨rfl, rfl⟩ := hX
    exact ⟨rfl, Nat.le_refl _, Nat.le_refl _, Nat.le_refl _, Nat.le_refl _⟩) pm_stabN (fun pc ls hd => by
    rintro ⟨p, l1, e, R, s, m, args, below, meth, c, A, D, κ, α⟩ hKX hO H locs rs hs
    obtain ⟨hx, hb, hr, hml, hown, hts, hKn, hA, hlk9, hN, hnm, hstt, htab⟩ := id hO
    obtain ⟨hP, hD, hS, hL⟩ := hs
    exact W.vret hx hb (hr.trans hn) (fun t ht hW => ⟨rfl, α, fun _ _ => rfl, by rw [ht]; exact hP, va_K.moved hW.alike hKn, hD, hS.F ht⟩) hS.2.2 hd hlk9)
  subst hls
  exact key (p, l, e, (headSpec (pm_wsM M) (pm_rm d mc ms)).room, s, m, _, below, meth, c, va_A (pm_w α κ h) s.heap.size, D, κ, α) ⟨rfl, rfl⟩
    ⟨B.exec, B.bytes, B.returns, hml, findClass_of_methodNamed B.named, fun w hw => hts w (List.mem_cons_of_mem _ hw), hKn, fun q hq => Or.inr hq, B.notSynchronized, hN, (name_of_methodNamed B.named B.method).1, hl, htab⟩
    s.heap [] _ ⟨hP, hD0.self, va_S.rf, pm_entry hc hlen⟩
section CallN
variable {M : pm_M} {K : pm_X → Prop} {G : pm_X → State → Prop} {pc : Nat} {ls : List (Option Value)} {st stk : List Value} {h : pm_H} {k n : Nat} {l : Launch} {d d' mc ms mc' ms' idx np lo hi : Nat} {M' : pm_M} {as : List Value} {h' : pm_H}
theorem pm_cI {a : Nat} (hK : ∀ X, K X → pm_Kd l d mc ms X) (hSt : pm_Stab K G lo hi) (hM : pm_SemN l d' mc' ms' M' (.ref a :: as) h h') (ho : pm_Mo M' np) (hin : Cond.instanceMethod M'.1 ∈ pm_ws) (hy1 : M'.1.name = "<init>") (hr0 : M'.2.2.2.1 = none) (hlk : pm_Lk M.1.cls idx M'.1) (hd : decode M.2.1 pc = .ok (.invokespecial idx, 3)) (hdd : d' + 1 ≤ d) (hn : as.length = np) (hstk : stk = as.reverse ++ .ref a :: st) (hrest : (st.map fun v => v.category).sum ≤ 8) (hk1 : k + mc' ≤ mc) (hk2 : n + ms' ≤ ms)
    (h1 : lo ≤ h.length) (h2 : h'.length ≤ hi) (w2 : st.all (pm_okr h.length h'.length) = true) (w3 : ls.all (pm_okl h.length h'.length) = true)
    {q : Nat} (hq : pc + 3 = q) (kk : pm_Go M K G q ls st h' (k + mc') (n + ms')) : pm_Go M K G pc ls stk h k n := by
  subst hq
  rintro ⟨p, l1, e, R, s, m, args, below, meth, c, A, D, κ, α⟩ hKX hO H locs rs hs
  obtain ⟨hx, hb, hr, hml, hown, hts, hKn, hA, hlk9, hN, hnm, hstt, htab⟩ := id hO
  obtain ⟨hl1, hf1, hf2, hf3, hf4⟩ := hK _ hKX
  dsimp only at hl1 hf1 hf2 hf3 hf4
  subst hl1
  obtain ⟨hP, hD, hS, hL⟩ := id hs
  obtain ⟨o1, o2, o3, o4, o5, o6, o7⟩ := ho
  have hstack : stk.map (pm_v α) = (as.map (pm_v α)).reverse ++ .ref (α a) :: st.map (pm_v α) := by rw [hstk, List.map_append, List.map_reverse]; rfl
  have hcat : 2 * (F0 m pc rs (stk.map (pm_v α))).monitorRoom + ((st.map (pm_v α)).map fun v => v.category).sum ≤ 8 := lv_room (by rw [pm_cats]; exact hrest)
  have hroom : (pm_rm d' mc' ms').frames + 1 ≤ R.frames ∧ 8 + (M'.2.2.1 + 11) + (pm_rm d' mc' ms').locals ≤ R.locals := by
    simp only [pm_rm]
    constructor <;> omega
  have hws : pm_wsM M' = Cond.code M'.1 M'.2.1 M'.2.2.1 none :: pm_ws := by unfold pm_wsM; rw [hr0]
  have run : va_Run p l1 e R s m args below meth c H locs k n mc' ms' (F0 m pc rs (stk.map (pm_v α))) (st.map (pm_v α)) (pm_QN D κ α h h' (va_A (pm_w α κ h) H.size) (Value.ref (α a) :: as.map (pm_v α)).toArray) (va_A (pm_w α κ h) H.size) := by
    rcases hlk with hlk | ⟨host, hlk⟩
    · exact va_runI (Ts := pm_ws) (own := M.1.cls) ⟨hx, hb, hml, hown, hts⟩ (hM D κ α H.size) ⟨callB_of np hts (pm_good o1) hws rfl rfl (hts _ o5) (hts _ hlk) ⟨o3.1, o3.2, o4⟩ hroom, hy1, hts _ hin⟩ ⟨pm_blind, fun U hU hW => pm_pre (as := .ref a :: as) hP hD hS hA hKn hN hU hW⟩ rfl (by simpa using hn) hL.1 hstack hcat hd ⟨by omega, by omega⟩
    · exact va_runIN (Ts := pm_ws) (own := M.1.cls) ⟨hx, hb, hml, hown, hts⟩ (hM D κ α H.size) ⟨va_cnB np hts (pm_good o1) hws rfl rfl (hN.1 _ hlk) (hts _ o5) ⟨o3.1, o3.2, o4⟩ hroom, hy1, hts _ hin⟩ ⟨pm_blind, fun U hU hW => pm_pre (as := .ref a :: as) hP hD hS hA hKn hN hU hW⟩ rfl (by simpa using hn) hL.1 hstack hcat hd ⟨by omega, by omega⟩
  intro T hT X
  obtain ⟨v, st₀, t, T', L, h0, X', hL9, e1, e2, ⟨hv, α', hag, hP', hK', hD', hF⟩, st9⟩ := run T hT X
  have hfr := pm_fr hD hS hA
  cases hv
  obtain ⟨hz, hk9⟩ := hF
  rw [h0] at hz hk9
  have hS' : va_S A s.heap T'.heap (locs ++ L) := ⟨Nat.le_trans hS.1 (by rw [e1]; exact hz), fun q h1 h2 => by rw [e1, hk9 q (Nat.lt_of_lt_of_le h1 hS.1) (fun z => h2 (hfr q z))]; exact hS.2.1 q h1 h2, fun q hq => by
    rcases List.mem_append.mp hq with z | z
    · exact hS.2.2 q z
    · exact hfr _ (hL9 q z)⟩
  obtain ⟨y1, y2⟩ := hSt (p, l1, e, R, s, m, args, below, meth, c, A, D, κ, α) α' (fun k hk => hag k (by omega)) hKX
  have hO' : pm_Ok M (p, l1, e, R, s, m, args, below, meth, c, A, D, κ, α') := ⟨hx, hb, hr, hml, hown, hts, hKn, hA, hlk9, hN, hnm, hstt, htab⟩
  have z := kk (p, l1, e, R, s, m, args, below, meth, c, A, D, κ, α') y1 hO' T'.heap (locs ++ L) rs ⟨by rw [e1]; exact hP', hD'.weaken (fun _ q _ z => hfr q.1 z), hS', pm_L_ag hag w3 hL⟩
  obtain ⟨t2, a1, b1⟩ := z T' rfl X'
  rw [pm_vs_ag hag w2] at a1
  exact ⟨t2, st9 t2 a1, y2 _ b1⟩
end CallN
