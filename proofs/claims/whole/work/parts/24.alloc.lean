/-! cells that are made: the map of the places grows -/
def pm_ax (X : pm_X) : Nat → Nat := match X with
  | (_, _, _, _, _, _, _, _, _, _, _, _, _, α) => α
def pm_xa (X : pm_X) (α' : Nat → Nat) : pm_X := match X with
  | (p, l, e, R, s, m, args, below, meth, c, A, D, κ, _) => (p, l, e, R, s, m, args, below, meth, c, A, D, κ, α')
/-- K and G don't look at the places from lo to hi -/
def pm_Stab (K : pm_X → Prop) (G : pm_X → State → Prop) (lo hi : Nat) : Prop := ∀ (X : pm_X) (α' : Nat → Nat), (∀ k, k < lo ∨ hi ≤ k → α' k = pm_ax X k) → K X → K (pm_xa X α') ∧ ∀ t, G (pm_xa X α') t → G X t
def pm_okr (lo hi : Nat) (v : Value) : Bool := match v with
  | .ref a => decide (a < lo) || decide (hi ≤ a)
  | _ => true
def pm_okc (lo hi : Nat) (c : pm_C) : Bool := match c with
  | .inl (_, fs) => fs.all (pm_okr lo hi)
  | _ => true
def pm_okl (lo hi : Nat) (o : Option Value) : Bool := match o with
  | some v => pm_okr lo hi v
  | none => true
def pm_agree (α α' : Nat → Nat) (lo hi : Nat) : Prop := ∀ k, k < lo ∨ hi ≤ k → α' k = α k
theorem pm_v_ag {α α' : Nat → Nat} {lo hi : Nat} (h : pm_agree α α' lo hi) {v : Value} (hv : pm_okr lo hi v = true) : pm_v α' v = pm_v α v := by
  cases v with
  | ref a =>
    simp only [pm_okr, Bool.or_eq_true, decide_eq_true_eq] at hv
    simp only [pm_v]
    rw [h a hv]
  | _ => rfl
theorem pm_vs_ag {α α' : Nat → Nat} {lo hi : Nat} (h : pm_agree α α' lo hi) {vs : List Value} (hv : vs.all (pm_okr lo hi) = true) : vs.map (pm_v α') = vs.map (pm_v α) :=
  List.map_congr_left (fun v hm => pm_v_ag h (List.all_eq_true.mp hv v hm))
theorem pm_e_ag {α α' : Nat → Nat} {κ : FieldType → ClassId} {lo hi : Nat} (h : pm_agree α α' lo hi) {c : pm_C} (hc : pm_okc lo hi c = true) : pm_e α' κ c = pm_e α κ c := by
  match c, hc with
  | .inl (ci, fs), hc => simp only [pm_e]; rw [pm_vs_ag h hc]
  | .inr (.inl (ty, n, f)), _ => rfl
  | .inr (.inr (n, f)), _ => rfl
theorem pm_w_ag {α α' : Nat → Nat} {κ : FieldType → ClassId} {lo hi : Nat} (h : pm_agree α α' lo hi) {g : pm_H} (hl : g.length ≤ lo) (hg : g.all (pm_okc lo hi) = true) : pm_w α' κ g = pm_w α κ g := by
  apply List.ext_getElem?
  intro i
  rw [pm_w_get, pm_w_get]
  cases hx : g[i]? with
  | none => rfl
  | some c =>
    have hi := (List.getElem?_eq_some_iff.mp hx).1
    have h1 := h i (Or.inl (by omega))
    have h2 := pm_e_ag (κ := κ) h (List.all_eq_true.mp hg c (List.mem_of_getElem? hx))
    simp [h1, h2]
theorem pm_L_ag {α α' : Nat → Nat} {lo hi : Nat} (h : pm_agree α α' lo hi) {ls : List (Option Value)} {nL : Nat} {rs : Array Slot} (hl : ls.all (pm_okl lo hi) = true) (hL : pm_L α ls nL rs) : pm_L α' ls nL rs := by
  refine ⟨hL.1, hL.2.1, fun i v hv => ?_⟩
  obtain ⟨h1, h2⟩ := hL.2.2 i v hv
  have h3 := List.all_eq_true.mp hl (some v) (List.mem_of_getElem? hv)
  exact ⟨h1, by rw [pm_v_ag h h3]; exact h2⟩
theorem pm_Wmono {p : Program} {l : Launch} {e : Env} {R : Room} {s : State} {m : MethodId} {args : Array Value} {below : List Frame} {meth : Method} {c : Code} {H : Heap} {locs : List Loc} {k n : Nat} {Q Q' : State → Prop} {g : JFrame} (hq : ∀ t, Q' t → Q t) (kk : W p l e R s m args below meth c H locs k n Q' g) : W p l e R s m args below meth c H locs k n Q g := by
  intro T hT X
  obtain ⟨t, a, b⟩ := kk T hT X
  exact ⟨t, a, hq t b⟩
theorem pm_ag_up (α : Nat → Nat) (j q : Nat) : pm_agree α (fun i => if i = j then q else α i) j (j + 1) := by
  intro k hk
  have : k ≠ j := by omega
  simp [this]
/-- what the tables say of 'new' -/
def pm_Nw (own : String) (idx ci : Nat) (fs : List Value) (N : Nat) : Prop := ∃ (C : String) (T : u_T) (ty : Nat → FieldType), vwCl[ci]? = some (C, T, N) ∧ (∀ w ∈ u_ws C T N, w ∈ pm_ws) ∧ (∀ k, k < N → parseFieldDescriptor (T k).2.2.1 = some (ty k)) ∧ Cond.classLink own idx C ∈ pm_ws ∧ Cond.instantiable C N ∈ pm_ws ∧ Cond.initialized C ∈ pm_ws ∧ (∀ j, j < N → defaultValue (ty j) = vp_V fs j) ∧ (fs.all fun v => match v with | .ref _ => false | _ => true) = true
section Alloc
variable {M : pm_M} {K : pm_X → Prop} {G : pm_X → State → Prop} {pc : Nat} {ls : List (Option Value)} {st : List Value} {h : pm_H} {k n lo hi : Nat} {l : Launch} {d mc ms : Nat}
theorem pm_norefs {α : Nat → Nat} {fs : List Value} (h : (fs.all fun v => match v with | .ref _ => false | _ => true) = true) : fs.map (pm_v α) = fs := by
  have h1 : ∀ v ∈ fs, pm_v α v = v := by
    intro v hv
    have h2 := List.all_eq_true.mp h v hv
    cases v <;> first | rfl | (simp at h2)
  calc fs.map (pm_v α) = fs.map id := List.map_congr_left h1
    _ = fs := List.map_id fs
theorem pm_new {idx ci N : Nat} {fs : List Value} (hK : ∀ X, K X → pm_Kd l d mc ms X) (hf : pm_Nw M.1.cls idx ci fs N) (hd : decode M.2.1 pc = .ok (.new idx, 3)) (hSt : pm_Stab K G lo hi) (h1 : lo ≤ h.length) (h2 : h.length + 1 ≤ hi) (w1 : h.all (pm_okc h.length (h.length + 1)) = true) (w2 : st.all (pm_okr h.length (h.length + 1)) = true) (w3 : ls.all (pm_okl h.length (h.length + 1)) = true) (hk1 : k + 1 ≤ mc) (hk2 : n + N ≤ ms)
    {q : Nat} (hq : pc + 3 = q) {j : Nat} (hj : h.length = j) (kk : pm_Go M K G q ls (.ref j :: st) (h ++ [.inl (ci, fs)]) (k + 1) (n + N)) : pm_Go M K G pc ls st h k n := by
  subst hq
  subst hj
  rintro ⟨p, l1, e, R, s, m, args, below, meth, c, A, D, κ, α⟩ hKX hO H locs rs hs
  obtain ⟨hx, hb, hr, hml, hown, hts, hKn, hA, hlk9, hN, hnm, hstt, htab⟩ := id hO
  obtain ⟨hl1, hf1, hf2, hf3, hf4⟩ := hK _ hKX
  dsimp only at hl1 hf1 hf2 hf3 hf4
  obtain ⟨hP, hD, hS, hL⟩ := id hs
  obtain ⟨C, T, ty, hc, hin, hty, x1, x2, x3, x4, x5⟩ := hf
  refine va_new (fs := fs) hx hb hts hin ty hty hown (hts _ x1) (hts _ x2) (hts _ x3) hKn hP hD hS hA hc x4 (by omega) (by omega) hd (fun q9 H1 hP1 hD1 hS1 => ?_)
  obtain ⟨α', ha'⟩ : ∃ z : Nat → Nat, z = fun i => if i = h.length then q9 else α i := ⟨_, rfl⟩
  have hag : pm_agree α α' h.length (h.length + 1) := by rw [ha']; exact pm_ag_up α h.length q9
  have haj : α' h.length = q9 := by rw [ha']; simp
  clear ha'
  have e1 : pm_w α' κ (h ++ [.inl (ci, fs)]) = pm_w α κ h ++ [(q9, .inr (ci, fs))] := by
    rw [pm_w_app, pm_w_ag hag (Nat.le_refl _) w1]
    simp [pm_e, pm_norefs x5, haj]
  obtain ⟨y1, y2⟩ := hSt (p, l1, e, R, s, m, args, below, meth, c, A, D, κ, α) α' (fun k hk => hag k (by omega)) hKX
  have hO' : pm_Ok M (p, l1, e, R, s, m, args, below, meth, c, A, D, κ, α') := ⟨hx, hb, hr, hml, hown, hts, hKn, hA, hlk9, hN, hnm, hstt, htab⟩
  have z := kk (p, l1, e, R, s, m, args, below, meth, c, A, D, κ, α') y1 hO' H1 locs rs ⟨by rw [e1]; exact hP1, by rw [e1]; exact hD1, hS1, pm_L_ag hag w3 hL⟩
  have e2 : (Value.ref h.length :: st).map (pm_v α') = .ref q9 :: st.map (pm_v α) := by
    rw [List.map_cons, pm_vs_ag hag w2]
    simp [pm_v, haj]
  refine pm_Wmono y2 ?_
  rw [← e2]
  exact z
/-- a new array of ints or booleans -/
theorem pm_newa {at0 : ArrayType} {ty : FieldType} {x : Int32} {N : Nat} (hK : ∀ X, K X → pm_Kd l d mc ms X) (hty : (at0 = .int ∧ ty = .int) ∨ (at0 = .boolean ∧ ty = .boolean)) (hw : Cond.arrayClass ty ∈ pm_ws) (hd : decode M.2.1 pc = .ok (.newarray at0, 2)) (hx0 : ¬ x < 0) (hxN : x.toNatClampNeg = N) (hb0 : N ≤ 100000) (hSt : pm_Stab K G lo hi) (h1 : lo ≤ h.length) (h2 : h.length + 1 ≤ hi) (w1 : h.all (pm_okc h.length (h.length + 1)) = true) (w2 : st.all (pm_okr h.length (h.length + 1)) = true) (w3 : ls.all (pm_okl h.length (h.length + 1)) = true) (hk1 : k + 1 ≤ mc) (hk2 : n + N ≤ ms)
    {q : Nat} (hq : pc + 2 = q) {j : Nat} (hj : h.length = j) (kk : pm_Go M K G q ls (.ref j :: st) (h ++ [.inr (.inl (ty, N, fun _ => 0))]) (k + 1) (n + N)) : pm_Go M K G pc ls (.int x :: st) h k n := by
  subst hq
  subst hj
  rintro ⟨p, l1, e, R, s, m, args, below, meth, c, A, D, κ, α⟩ hKX hO H locs rs hs
  obtain ⟨hx, hb, hr, hml, hown, hts, hKn, hA, hlk9, hN, hnm, hstt, htab⟩ := id hO
  obtain ⟨hl1, hf1, hf2, hf3, hf4⟩ := hK _ hKX
  dsimp only at hl1 hf1 hf2 hf3 hf4
  obtain ⟨hP, hD, hS, hL⟩ := id hs
  have t1 : newarray.typeOf at0 = ty := by rcases hty with ⟨rfl, rfl⟩ | ⟨rfl, rfl⟩ <;> rfl
  have t2 : ∀ cA : ClassId, vp_cell cA (N, .inl (fun _ => (0 : Int32))) = arrV cA N (fun _ => defaultValue ty) := by rcases hty with ⟨rfl, rfl⟩ | ⟨rfl, rfl⟩ <;> intro cA <;> rfl
  have t3 : N * componentBytes ty ≤ 536870912 := by
    rcases hty with ⟨rfl, rfl⟩ | ⟨rfl, rfl⟩ <;> simp [componentBytes] <;> omega
  refine va_newa (a0 := (N, .inl (fun _ => (0 : Int32)))) hx hb (by rw [t1]; exact hts _ hw) t1 hKn hP hD hS hA t2 hx0 hxN t3 (by omega) (by omega) hd (fun q9 cA H1 hK1 hP1 hD1 hS1 => ?_)
  have hcA : cA = κ ty := by
    have a1 := (hK1.2 3 (cA, ty) rfl).2
    rcases hty with ⟨rfl, rfl⟩ | ⟨rfl, rfl⟩
    · have a2 := (hKn.2 0 (κ .int, .int) rfl).2
      exact Option.some.inj (Eq.trans (Eq.symm (show s.vm.findClass _ = some cA from a1)) (show s.vm.findClass _ = some (κ .int) from a2))
    · have a2 := (hKn.2 1 (κ .boolean, .boolean) rfl).2
      exact Option.some.inj (Eq.trans (Eq.symm (show s.vm.findClass _ = some cA from a1)) (show s.vm.findClass _ = some (κ .boolean) from a2))
  subst hcA
  obtain ⟨α', ha'⟩ : ∃ z : Nat → Nat, z = fun i => if i = h.length then q9 else α i := ⟨_, rfl⟩
  have hag : pm_agree α α' h.length (h.length + 1) := by rw [ha']; exact pm_ag_up α h.length q9
  have haj : α' h.length = q9 := by rw [ha']; simp
  clear ha'
  have e1 : pm_w α' κ (h ++ [.inr (.inl (ty, N, fun _ => 0))]) = pm_w α κ h ++ [(q9, .inl (κ ty, N, .inl (fun _ => 0)))] := by
    rw [pm_w_app, pm_w_ag hag (Nat.le_refl _) w1]
    simp [pm_e, haj]
  obtain ⟨y1, y2⟩ := hSt (p, l1, e, R, s, m, args, below, meth, c, A, D, κ, α) α' (fun k hk => hag k (by omega)) hKX
  have hO' : pm_Ok M (p, l1, e, R, s, m, args, below, meth, c, A, D, κ, α') := ⟨hx, hb, hr, hml, hown, hts, hKn, hA, hlk9, hN, hnm, hstt, htab⟩
  have z := kk (p, l1, e, R, s, m, args, below, meth, c, A, D, κ, α') y1 hO' H1 locs rs ⟨by rw [e1]; exact hP1, by rw [e1]; exact hD1, hS1, pm_L_ag hag w3 hL⟩
  have e2 : (Value.ref h.length :: st).map (pm_v α') = .ref q9 :: st.map (pm_v α) := by
    rw [List.map_cons, pm_vs_ag hag w2]
    simp [pm_v, haj]
  refine pm_Wmono y2 ?_
  rw [← e2]
  exact z
/-- Object's constructor -/
theorem pm_obj {idx a : Nat} (hK : ∀ X, K X → pm_Kd l d mc ms X) (hd1 : 1 ≤ d) (hlk : Cond.methodLink M.1.cls idx objectInit ∈ pm_ws) (him : Cond.instanceMethod objectInit ∈ pm_ws) (hco : Cond.code objectInit ⟨#[0xb1]⟩ 1 none ∈ pm_ws) (hd : decode M.2.1 pc = .ok (.invokespecial idx, 3)) (hrest : (st.map fun v => v.category).sum ≤ 8) {q : Nat} (hq : pc + 3 = q) (kk : pm_Go M K G q ls st h k n) : pm_Go M K G pc ls (.ref a :: st) h k n := by
  subst hq
  rintro ⟨p, l1, e, R, s, m, args, below, meth, c, A, D, κ, α⟩ hKX hO H locs rs hs
  obtain ⟨hx, hb, hr, hml, hown, hts, hKn, hA, hlk9, hN, hnm, hstt, htab⟩ := id hO
  obtain ⟨hl1, hf1, hf2, hf3, hf4⟩ := hK _ hKX
  dsimp only at hl1 hf1 hf2 hf3 hf4
  have hc0 := pm_cats α st
  exact W.objInit (a := α a) (rest := st.map (pm_v α)) hx hb hown (hts _ hlk) (hts _ him) (hts _ hco) rfl (hs.2.2.2.1.trans hml.symm) rfl hd (by omega) (by
    rw [hc0]
    show 2 * 0 + _ + 12 ≤ _
    omega) (kk _ hKX hO H locs rs hs)
end Alloc
