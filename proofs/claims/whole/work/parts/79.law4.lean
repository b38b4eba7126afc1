/-! the law's own rows -/
/-- where the script is: a place of its own, far beyond the cells -/
def lwX (L : Nat) (xs : Nat → Int32) (X : pm_X) : Prop := match X with
  | (_, _, _, _, s, _, _, _, _, _, A, _, _, α) => va_X (α 1000000) L xs s s.heap ∧ α 1000000 < s.heap.size ∧ ¬ A (α 1000000)
section LawRows
variable {M : pm_M} {K : pm_X → Prop} {G : pm_X → State → Prop} {pc : Nat} {ls : List (Option Value)} {st : List Value} {h : pm_H} {k n : Nat}
theorem pm_sld {L : Nat} {xs : Nat → Int32} (hX : ∀ X, K X → lwX L xs X) {i : Nat} (hi : i < L) (hL : L < 2 ^ 31) (hd : decode M.2.1 pc = .ok (.iaload, 1)) {q : Nat} (hq : pc + 1 = q) (kk : pm_Go M K G q ls (.int (xs i) :: st) h k n) : pm_Go M K G pc ls (.int (nI i) :: .ref 1000000 :: st) h k n := by
  subst hq
  rintro ⟨p, l, e, R, s, m, args, below, meth, c, A, D, κ, α⟩ hK hO H locs rs hs
  obtain ⟨x1, x2, x3⟩ := hX _ hK
  refine va_sld hO.1 hO.2.1 x1 x2 x3 hs.2.2.1 (vp_in_nI hi hL) hd ?_
  rw [nI_clamp (by omega)]
  exact kk _ hK hO H locs rs hs
theorem pm_slen {L : Nat} {xs : Nat → Int32} (hX : ∀ X, K X → lwX L xs X) (hd : decode M.2.1 pc = .ok (.arraylength, 1)) {q : Nat} (hq : pc + 1 = q) (kk : pm_Go M K G q ls (.int (nI L) :: st) h k n) : pm_Go M K G pc ls (.ref 1000000 :: st) h k n := by
  subst hq
  rintro ⟨p, l, e, R, s, m, args, below, meth, c, A, D, κ, α⟩ hK hO H locs rs hs
  obtain ⟨x1, x2, x3⟩ := hX _ hK
  exact va_slen hO.1 hO.2.1 x1 x2 x3 hs.2.2.1 hd (kk _ hK hO H locs rs hs)
theorem pm_lcmp {x y : Int64} (hd : decode M.2.1 pc = .ok (.lcmp, 1)) {q : Nat} (hq : pc + 1 = q) (kk : pm_Go M K G q ls (.int (lg_cmp x y) :: st) h k n) : pm_Go M K G pc ls (.long y :: .long x :: st) h k n := by
  subst hq
  rintro ⟨p, l, e, R, s, m, args, below, meth, c, A, D, κ, α⟩ hK hO H locs rs hs
  exact W.lcmp hO.1 hO.2.1 hd (kk _ hK hO H locs rs hs)
end LawRows
section LawNew
variable {M : pm_M} {K : pm_X → Prop} {G : pm_X → State → Prop} {pc : Nat} {ls : List (Option Value)} {st : List Value} {h : pm_H} {k n lo hi : Nat} {l : Launch} {d mc ms : Nat}
theorem pm_newl {x : Int32} {N : Nat} (hK : ∀ X, K X → pm_Kd l d mc ms X) (hw : Cond.arrayClass .long ∈ pm_ws) (hd : decode M.2.1 pc = .ok (.newarray .long, 2)) (hx0 : ¬ x < 0) (hxN : x.toNatClampNeg = N) (hb0 : N ≤ 100000) (hSt : pm_Stab K G lo hi) (h1 : lo ≤ h.length) (h2 : h.length + 1 ≤ hi) (w1 : h.all (pm_okc h.length (h.length + 1)) = true) (w2 : st.all (pm_okr h.length (h.length + 1)) = true) (w3 : ls.all (pm_okl h.length (h.length + 1)) = true) (hk1 : k + 1 ≤ mc) (hk2 : n + N ≤ ms)
    {q : Nat} (hq : pc + 2 = q) {j : Nat} (hj : h.length = j) (kk : pm_Go M K G q ls (.ref j :: st) (h ++ [pm_l N (fun _ => 0)]) (k + 1) (n + N)) : pm_Go M K G pc ls (.int x :: st) h k n := by
  subst hq
  subst hj
  rintro ⟨p, l1, e, R, s, m, args, below, meth, c, A, D, κ, α⟩ hKX hO H locs rs hs
  obtain ⟨hx, hb, hr, hml, hown, hts, hKn, hA, hlk9, hN, hnm, hstt, htab⟩ := id hO
  obtain ⟨hl1, hf1, hf2, hf3, hf4⟩ := hK _ hKX
  dsimp only at hl1 hf1 hf2 hf3 hf4
  obtain ⟨hP, hD, hS, hL⟩ := id hs
  have t2 : ∀ cA : ClassId, vp_cell cA (N, .inr (.inl (fun _ => (0 : Int64)))) = arrV cA N (fun _ => defaultValue .long) := fun cA => rfl
  have t3 : N * componentBytes .long ≤ 536870912 := by simp [componentBytes]; omega
  refine va_newa (atype := .long) (ty := .long) (a0 := (N, .inr (.inl (fun _ => (0 : Int64))))) hx hb (hts _ hw) rfl hKn hP hD hS hA t2 hx0 hxN t3 (by omega) (by omega) hd (fun q9 cA H1 hK1 hP1 hD1 hS1 => ?_)
  have hcA : cA = κ .long := by
    have a1 := (hK1.2 3 (cA, .long) rfl).2
    have a2 := (hKn.2 2 (κ .long, .long) rfl).2
    exact Option.some.inj (Eq.trans (Eq.symm (show s.vm.findClass _ = some cA from a1)) (show s.vm.findClass _ = some (κ .long) from a2))
  subst hcA
  obtain ⟨α', ha'⟩ : ∃ z : Nat → Nat, z = fun i => if i = h.length then q9 else α i := ⟨_, rfl⟩
  have hag : pm_agree α α' h.length (h.length + 1) := by rw [ha']; exact pm_ag_up α h.length q9
  have haj : α' h.length = q9 := by rw [ha']; simp
  clear ha'
  have e1 : pm_w α' κ (h ++ [pm_l N (fun _ => 0)]) = pm_w α κ h ++ [(q9, .inl (κ .long, N, .inr (.inl (fun _ => 0))))] := by
    rw [pm_w_app, pm_w_ag hag (Nat.le_refl _) w1]
    simp [pm_e, pm_l, haj]
  obtain ⟨y1, y2⟩ := hSt (p, l1, e, R, s, m, args, below, meth, c, A, D, κ, α) α' (fun k hk => hag k (by omega)) hKX
  have hO' : pm_Ok M (p, l1, e, R, s, m, args, below, meth, c, A, D, κ, α') := ⟨hx, hb, hr, hml, hown, hts, hKn, hA, hlk9, hN, hnm, hstt, htab⟩
  have z := kk (p, l1, e, R, s, m, args, below, meth, c, A, D, κ, α') y1 hO' H1 locs rs ⟨by rw [e1]; exact hP1, by rw [e1]; exact hD1, hS1, pm_L_ag hag w3 hL⟩
  have e2 : (Value.ref h.length :: st).map (pm_v α') = .ref q9 :: st.map (pm_v α) := by
    rw [List.map_cons, pm_vs_ag hag w2]
    simp [pm_v, haj]
  refine pm_Wmono y2 ?_
  rw [← e2]
  exact z
end LawNew
theorem lg_same (x : Int64) : lg_cmp x x = 0 := by
  simp [lg_cmp, Int64.lt_irrefl]
theorem and15 (y : Int32) : ∃ c, c < 16 ∧ y &&& 15 = nI c := by
  refine ⟨y.toBitVec.toNat % 16, Nat.mod_lt _ (by decide), ?_⟩
  apply Int32.toBitVec_inj.mp
  apply BitVec.eq_of_toNat_eq
  have e7 : (15 : Int32).toBitVec = BitVec.ofNat 32 15 := rfl
  have er : (nI (y.toBitVec.toNat % 16)).toBitVec = BitVec.ofNat 32 (y.toBitVec.toNat % 16) := rfl
  have hm : y.toBitVec.toNat % 16 < 16 := Nat.mod_lt _ (by decide)
  rw [Int32.toBitVec_and, e7, er, BitVec.toNat_and, BitVec.toNat_ofNat, BitVec.toNat_ofNat, Nat.mod_eq_of_lt (show y.toBitVec.toNat % 16 < 2 ^ 32 by omega)]
  exact Nat.and_two_pow_sub_one_eq_mod _ 4
/-- the loop's end -/
theorem loop_end {L i : Nat} (hL : L ≤ 4000) (hi : i ≤ 8000) : nI L - 7 < nI i ↔ L < i + 7 := by
  by_cases h : 7 ≤ L
  · obtain ⟨a, rfl⟩ : ∃ a, L = a + 7 := ⟨L - 7, by omega⟩
    have e : nI (a + 7) - 7 = nI a := by
      rw [← nI_addm]
      exact Int32.add_sub_cancel _ _
    rw [e, nI_ltI (by omega) (by omega)]
    omega
  · have hneg : nI L - 7 < 0 := by
      have : ∀ x : Fin 7, nI x.val - 7 < 0 := by decide
      exact this ⟨L, by omega⟩
    exact ⟨fun _ => by omega, fun _ => Int32.lt_of_lt_of_le hneg (nI_z i (by omega))⟩
/-- at the beginning -/
theorem lwInv_0 (o : Nat → Int64) : lwInv (cH 0 si0 sa0 (fun _ => 0) (fun _ => empA) 0 (fun _ => zf) 0 (fun _ => zf) (mH mi0 ma0 [pm_l 1 o])) := by
  refine ⟨_, _, _, _, _, _, _, _, _, _, _, o, 2, 2, 2, 0, 0, fun _ => (0, 0, none, 0), pE, rfl, ⟨⟨⟨rfl, rfl, rfl, rfl, rfl, rfl, rfl⟩, fun j hj => ?_⟩, ⟨⟨rfl, by decide, by decide⟩, ⟨rfl, by decide, by decide⟩, ⟨rfl, by decide, by decide⟩, by decide, ⟨rfl, by decide⟩⟩, ⟨rfl, rfl, by decide, fun i hi => absurd hi (Nat.not_lt_zero _)⟩, ⟨pE_ok 2, pIn_E 2, empA_cA _, (pV_E _).symm, sM_E.symm⟩, rfl⟩⟩
  have u : j = 0 ∨ j = 1 ∨ j = 2 ∨ j = 3 ∨ j = 4 ∨ j = 5 := by omega
  rcases u with rfl | rfl | rfl | rfl | rfl | rfl
  · funext x
    show (0 : Int32) = upd (upd (upd zf 0 0) 1 0) 2 0 x
    unfold upd
    split
    · rfl
    · split
      · rfl
      · split <;> rfl
  · rfl
  · rfl
  · rfl
  · rfl
  · rfl
