/-! the class: the lists of all departures -/
def pm_Out (l : Launch) (d : Nat) (M : pm_M) (r : Option Value) (h2 : pm_H) (pc : Nat) (ls : List (Option Value)) (st : List Value) (h : pm_H) : Prop := ∀ (K : pm_X → Prop) (G : pm_X → State → Prop), (∀ X, K X → pm_Kd l d 0 0 X) → pm_Ret M K G r h2 → pm_Go M K G pc ls st h 0 0
def lsA (si : Nat → Int32) (sa : Nat → Nat → Int32) (S T B p : Nat) : List pL := eGo S T (duP sa B p) (okC si sa S (duP sa B p)) 9 pE
theorem lsA_sh {si : Nat → Int32} {sa : Nat → Nat → Int32} {S T B : Nat} (hB : B ≤ 5) : ∀ j, shd sa B j = true → 0 < j ∧ lsA si sa S T B j = lsA si sa S T B (j - 1) := by
  intro j h
  obtain ⟨h1, h2⟩ := (shd_du hB).mp h
  refine ⟨h1, ?_⟩
  unfold lsA
  rw [h2]
theorem lsA_len {si : Nat → Int32} {sa : Nat → Nat → Int32} {S T B : Nat} (p : Nat) : (lsA si sa S T B p).length ≤ eNum 9 true (wt5 (duP sa B p) pE) := by
  have := eGo_len (S := S) (T := T) (du := duP sa B p) (ok := okC si sa S (duP sa B p)) (fun L h => (of_decide_eq_true h).1) 9 (Nat.le_refl _) pE eOk_zero
  exact this
theorem lsA_arr {si : Nat → Int32} {sa : Nat → Nat → Int32} {S T B p : Nat} {N : pL} (h : N ∈ lsA si sa S T B p) : arr (duP sa B p) T N ∧ pIn N S := by
  obtain ⟨⟨h1, h2, h3, h4, _, _⟩, h7⟩ := eGo_mem 9 (Nat.le_refl _) pE eOk_zero N h
  refine ⟨⟨h1, h3, fun b => ⟨fun z => ?_, fun z => ?_⟩⟩, h2⟩
  · refine ⟨?_, h4 b z⟩
    rcases z with z | z | z
    · exact h1.box _ _ z
    · exact h1.box _ _ z
    · exact h1.box _ _ z
  · have w := (of_decide_eq_true h7).1
    unfold wt5 at w
    rw [List.countP_eq_zero] at w
    have w := w b (List.mem_range.mpr z.1)
    by_cases y : pHas N b
    · exact y
    · rw [z.2, decide_eq_false y] at w
      exact absurd rfl w
theorem lsA_cap {si : Nat → Int32} {sa : Nat → Nat → Int32} {S T B : Nat} (hB : B ≤ 5) (j : Nat) (hj : j ≤ 3) : nnL (lsA si sa S T B) (shd sa B) j ≤ 2016 := by
  have : ∀ j, j ≤ 3 → nnL (lsA si sa S T B) (shd sa B) j = nnL (lsA si sa S T B) (fun p => shd sa B p || decide (4 ≤ p)) j := by
    intro j
    induction j with
    | zero => intro _; rfl
    | succ j ih =>
      intro h
      rw [nnL, nnL, ih (by omega), decide_eq_false (show ¬ 4 ≤ j by omega), Bool.or_false]
  rw [this j hj]
  refine nnL_2016 (w := fun p => wt5 (duP sa B p) pE) (fun p => lsA_len p) (fun p => wt5_le _ _) (fun p j h e1 e2 => ?_) j hj
  by_cases z : 4 ≤ j
  · rw [decide_eq_true z, Bool.or_true]
  · rw [fives hB p j h e1 e2 (by omega), Bool.true_or]
theorem nnL_mono (A : Nat → List pL) (sh : Nat → Bool) : ∀ n j, nnL A sh j ≤ nnL A sh (j + n) := by
  intro n
  induction n with
  | zero => intro j; exact Nat.le_refl _
  | succ n ih =>
    intro j
    refine Nat.le_trans (ih j) ?_
    rw [← Nat.add_assoc, nnL]
    split <;> omega
/-- what stands in the planner's arrays when the lists of the first departures are written -/
def laI (si : Nat → Int32) (sa : Nat → Nat → Int32) (S T B j n : Nat) (pa : Nat → Nat → Int32) : Prop :=
  n = nnL (lsA si sa S T B) (shd sa B) j ∧ ∀ p, p < j → pa 2 p = nI (stL (lsA si sa S T B) (shd sa B) p) ∧ pa 3 p = nI (stL (lsA si sa S T B) (shd sa B) p + (lsA si sa S T B p).length) ∧ (∀ i, (h : i < (lsA si sa S T B p).length) → pa 0 (stL (lsA si sa S T B) (shd sa B) p + i) = cC ((lsA si sa S T B p)[i])) ∧ ¬ lsA si sa S T B p = []
theorem upd_at (f : Nat → Int32) (k : Nat) (x : Int32) : upd f k x k = x := if_pos rfl
theorem upd_ne (f : Nat → Int32) {k j : Nat} (x : Int32) (h : ¬ j = k) : upd f k x j = f j := if_neg h
theorem laI_sh {si : Nat → Int32} {sa : Nat → Nat → Int32} {S T B i n : Nat} {pa : Nat → Nat → Int32} (hB : B ≤ 5) (h : laI si sa S T B (i + 1) n pa) (hs : shd sa B (i + 1) = true) : laI si sa S T B (i + 1 + 1) n (up1 (up1 pa 2 (upd (pa 2) (i + 1) (pa 2 i))) 3 (upd (pa 3) (i + 1) (nI n))) := by
  obtain ⟨h1, h2⟩ := h
  refine ⟨?_, fun p hp => ?_⟩
  · rw [nnL, if_pos hs]; exact h1
  · by_cases z : p = i + 1
    · subst z
      have e := (lsA_sh (si := si) (S := S) (T := T) hB _ hs).2
      rw [Nat.add_sub_cancel] at e
      obtain ⟨a1, a2, a3, a4⟩ := h2 i (by omega)
      refine ⟨?_, ?_, fun k hk => ?_, by rw [e]; exact a4⟩
      · show upd (pa 2) (i + 1) (pa 2 i) (i + 1) = _
        rw [upd_at, a1, stL_sh (lsA_sh hB) hs]
      · show upd (pa 3) (i + 1) (nI n) (i + 1) = _
        rw [upd_at, stL_end (lsA_sh hB), nnL, if_pos hs, h1]
      · show pa 0 _ = _
        have hk2 : k < (lsA si sa S T B i).length := by rw [← e]; exact hk
        have := a3 k hk2
        rw [stL_sh (lsA_sh hB) hs, this]
        simp only [e]
    · obtain ⟨a1, a2, a3, a4⟩ := h2 p (by omega)
      refine ⟨?_, ?_, a3, a4⟩
      · show upd (pa 2) (i + 1) (pa 2 i) p = _
        rw [upd_ne _ _ z, a1]
      · show upd (pa 3) (i + 1) (nI n) p = _
        rw [upd_ne _ _ z, a2]
theorem pa3_0 (pa : Nat → Nat → Int32) (X Y : Nat → Int32) (n : Nat) (xs : List pL) : up1 (paW (up1 pa 2 X) n xs) 3 Y 0 = lsW (pa 0) n (xs.map cC) := rfl
theorem pa3_2 (pa : Nat → Nat → Int32) (X Y : Nat → Int32) (n : Nat) (xs : List pL) : up1 (paW (up1 pa 2 X) n xs) 3 Y 2 = X := rfl
theorem pa3_3 (pa : Nat → Nat → Int32) (X Y : Nat → Int32) (n : Nat) (xs : List pL) : up1 (paW (up1 pa 2 X) n xs) 3 Y 3 = Y := rfl
theorem laI_new {si : Nat → Int32} {sa : Nat → Nat → Int32} {S T B j n : Nat} {pa : Nat → Nat → Int32} (hB : B ≤ 5) (h : laI si sa S T B j n pa) (hs : ¬ shd sa B j = true) (hA : ¬ lsA si sa S T B j = []) : laI si sa S T B (j + 1) (n + (lsA si sa S T B j).length) (up1 (paW (up1 pa 2 (upd (pa 2) j (nI n))) n (lsA si sa S T B j)) 3 (upd (pa 3) j (nI (n + (lsA si sa S T B j).length)))) := by
  obtain ⟨h1, h2⟩ := h
  refine ⟨?_, fun p hp => ?_⟩
  · rw [nnL, if_neg hs, h1]
  · by_cases z : p = j
    · subst z
      refine ⟨?_, ?_, fun k hk => ?_, hA⟩
      · rw [pa3_2, upd_at, stL_new hs, h1]
      · rw [pa3_3, upd_at, stL_new hs, h1]
      · rw [pa3_0, stL_new hs, ← h1, lsW_at _ _ _ _ (by rw [List.length_map]; exact hk), List.getElem_map]
    · obtain ⟨a1, a2, a3, a4⟩ := h2 p (by omega)
      refine ⟨?_, ?_, fun k hk => ?_, a4⟩
      · rw [pa3_2, upd_ne _ _ z, a1]
      · rw [pa3_3, upd_ne _ _ z, a2]
      · rw [pa3_0]
        have e := stL_end (A := lsA si sa S T B) (sh := shd sa B) (lsA_sh hB) p
        have m := nnL_mono (lsA si sa S T B) (shd sa B) (j - (p + 1)) (p + 1)
        rw [show p + 1 + (j - (p + 1)) = j by omega] at m
        rw [lsW_out _ _ _ _ (Or.inl (by omega))]
        exact a3 k hk
theorem fsame_val {sa : Nat → Nat → Int32} {B i : Nat} (hB : B ≤ 5) : fsame sa (nI i) (nI (i + 1)) B = if shd sa B (i + 1) = true then 1 else 0 := by
  obtain ⟨i1, i2, _⟩ := fdueN_ok sa (nI i) B hB
  obtain ⟨j1, j2, _⟩ := fdueN_ok sa (nI (i + 1)) B hB
  have e : fdue sa (nI i) B = fdue sa (nI (i + 1)) B ↔ shd sa B (i + 1) = true := by
    unfold shd
    rw [decide_eq_true_eq, Nat.add_sub_cancel, i1, j1]
    exact ⟨fun z => ⟨Nat.zero_lt_succ _, nI_inj (by omega) (by omega) z⟩, fun z => by rw [z.2]⟩
  unfold fsame
  by_cases z : shd sa B (i + 1) = true
  · rw [if_pos z, if_pos (e.mpr z)]
  · rw [if_neg z, if_neg (fun y => z (e.mp y))]
theorem wOk_due {sa : Nat → Nat → Int32} {B j : Nat} (hB : B ≤ 5) : wOk (fdueN sa (nI j) B) (duP sa B j) pE := by
  obtain ⟨_, i2, i3⟩ := fdueN_ok sa (nI j) B hB
  refine ⟨i2, fun b _ => ?_⟩
  rw [i3, duP_iff]
  exact ⟨fun h => ⟨h, pE_has b⟩, fun h => h.1⟩
set_option maxHeartbeats 8000000 in
theorem kP_listAll {l : Launch} (hl : l.stackTraces = false) (d : Nat) (hd : 31 ≤ d) {pd : Int32} {si : Nat → Int32} {sa : Nat → Nat → Int32} {hv : Nat → Int32} {ha : Nat → Nat → Nat → Int32} {sl : Int32} {sc : Nat → Nat → Int32} {pl : Int32} {pa : Nat → Nat → Int32} {tl : pm_H} {S T D B : Nat} (hS : si 0 = nI S) (hS1 : 1 ≤ S) (hS3 : S ≤ 3) (hT : si 1 = nI T) (hT3 : T ≤ 3) (hP : si 2 = nI (D + 1)) (hD3 : D ≤ 3) (hB : si 7 = nI B) (hB5 : B ≤ 5) : ∃ (r x : Int32) (y : Nat → Nat → Int32) (n : Nat) (pa2 : Nat → Nat → Int32), (r = 1 ∧ laI si sa S T B D n pa2 ∨ r = 0 ∧ ∃ p, p < D ∧ lsA si sa S T B p = []) ∧ pm_Sem l d mP_listAll [.ref 21] (cH pd si sa hv ha sl sc pl pa tl) (some (.int r)) (cH pd si sa (up1 hv 2 x) (up1 ha 2 y) sl sc (nI n) pa2 tl) := by
  have eD : si 2 - 1 = nI D := by rw [hP]; exact nI_pred D
  have hO : ∀ (k j : Nat) (x : Int32) (y : Nat → Nat → Int32) (n : Nat) (pa : Nat → Nat → Int32), k + j = D → laI si sa S T B j n pa → ∃ (r x2 : Int32) (y2 : Nat → Nat → Int32) (n2 : Nat) (pa2 : Nat → Nat → Int32), (r = 1 ∧ laI si sa S T B D n2 pa2 ∨ r = 0 ∧ ∃ p, p < D ∧ lsA si sa S T B p = []) ∧ pm_Out l d mP_listAll (some (.int r)) (cH pd si sa (up1 hv 2 x2) (up1 ha 2 y2) sl sc (nI n2) pa2 tl) 7 [some (.ref 21), some (.int (nI j))] [] (cH pd si sa (up1 hv 2 x) (up1 ha 2 y) sl sc (nI n) pa tl) := by
    intro k
    induction k with
    | zero =>
      intro j x y n pa hj hI
      have hj : j = D := by omega
      refine ⟨1, x, y, n, pa, Or.inl ⟨rfl, by rw [← hj]; exact hI⟩, fun K G hK hret => ?_⟩
      refine pm_iload_n dP_listAll_7 rfl (q := 8) rfl ?_
      refine pm_aload_n dP_listAll_8 rfl (q := 9) rfl ?_
      refine pm_get fl_P_27 dP_listAll_9 rfl rfl (q := 12) rfl ?_
      refine pm_cV0i hK (kS_departures hl 0) mo_S_departures im_S_departures se_S_departures lk_P_48 dP_listAll_12 (by omega) (Nat.le_of_ble_eq_true rfl) (Nat.zero_le _) (Nat.zero_le _) rfl rfl rfl (q := 15) rfl ?_
      refine pm_icmp_ge (tgt := 113) dP_listAll_15 rfl (q := 18) rfl (fun _ => ?_) (fun z => absurd (by rw [eD]; exact nI_le (by omega) (by omega)) z)
      refine pm_iconst (x := 1) dP_listAll_113 (by decide) (q := 114) rfl ?_
      exact pm_retI hret dP_listAll_114 rfl
    | succ k ih =>
      intro j x y n pa hj hI
      have hj3 : j < 3 := by omega
      have hcap : nnL (lsA si sa S T B) (shd sa B) (j + 1) ≤ 2016 := lsA_cap hB5 (j + 1) (by omega)
      have hn0 := hI.1
      have hn6 : n ≤ 2016 := by rw [hn0]; exact lsA_cap hB5 j (by omega)
      by_cases hsh : shd sa B j = true
      · cases j with
        | zero => exact absurd (lsA_sh (si := si) (S := S) (T := T) hB5 0 hsh).1 (Nat.lt_irrefl _)
        | succ i =>
          have hI2 := laI_sh hB5 hI hsh
          obtain ⟨r, x2, y2, n2, pa2, hr, ho⟩ := ih (i + 1 + 1) x y n _ (by omega) hI2
          refine ⟨r, x2, y2, n2, pa2, hr, fun K G hK hret => ?_⟩
          have nx := ho K G hK hret
          have fs : fsame sa (nI i) (nI (i + 1)) B = 1 := by rw [fsame_val hB5, if_pos hsh]
          obtain ⟨b1, b2, b3, b4⟩ := hI2.2 (i + 1) (by omega)
          have b5 : ¬ (lsA si sa S T B (i + 1)).length = 0 := fun z => b4 (List.length_eq_zero_iff.mp z)
          have b6 := stL_end (A := lsA si sa S T B) (sh := shd sa B) (lsA_sh hB5) (i + 1)
          refine pm_iload_n dP_listAll_7 rfl (q := 8) rfl ?_
          refine pm_aload_n dP_listAll_8 rfl (q := 9) rfl ?_
          refine pm_get fl_P_27 dP_listAll_9 rfl rfl (q := 12) rfl ?_
          refine pm_cV0i hK (kS_departures hl 0) mo_S_departures im_S_departures se_S_departures lk_P_48 dP_listAll_12 (by omega) (Nat.le_of_ble_eq_true rfl) (Nat.zero_le _) (Nat.zero_le _) rfl rfl rfl (q := 15) rfl ?_
          refine pm_icmp_ge (tgt := 113) dP_listAll_15 rfl (q := 18) rfl (fun z => absurd z (by rw [eD]; exact nI_ge (by omega) (by omega))) (fun _ => ?_)
          refine pm_iload_n dP_listAll_18 rfl (q := 19) rfl ?_
          refine pm_if_le (tgt := 50) dP_listAll_19 rfl (q := 22) rfl (fun z => absurd z (nI_nle (Nat.zero_lt_succ _) (by omega))) (fun _ => ?_)
          refine pm_aload_n dP_listAll_22 rfl (q := 23) rfl ?_
          refine pm_iload_n dP_listAll_23 rfl (q := 24) rfl ?_
          refine pm_iconst (x := 1) dP_listAll_24 (by decide) (q := 25) rfl ?_
          refine pm_isub dP_listAll_25 (q := 26) rfl ?_
          refine pm_topL (y := nI i) (nI_pred i) ?_
          refine pm_iload_n dP_listAll_26 rfl (q := 27) rfl ?_
          refine pm_cV2i hK (kP_sameBoxes hl 1 (Nat.le_refl _) hB hB5 _ _) mo_P_sameBoxes im_P_sameBoxes se_P_sameBoxes lk_P_82 dP_listAll_27 (by omega) (Nat.le_of_ble_eq_true rfl) (Nat.zero_le _) (Nat.zero_le _) rfl rfl rfl (q := 30) rfl ?_
          refine pm_topL (y := 1) fs ?_
          refine pm_if_eq (tgt := 50) dP_listAll_30 rfl (q := 33) rfl (fun z => absurd z (by decide)) (fun _ => ?_)
          refine pm_aload_n dP_listAll_33 rfl (q := 34) rfl ?_
          refine pm_get fl_P_18 dP_listAll_34 rfl rfl (q := 37) rfl ?_
          refine pm_iload_n dP_listAll_37 rfl (q := 38) rfl ?_
          refine pm_aload_n dP_listAll_38 rfl (q := 39) rfl ?_
          refine pm_get fl_P_18 dP_listAll_39 rfl rfl (q := 42) rfl ?_
          refine pm_iload_n dP_listAll_42 rfl (q := 43) rfl ?_
          refine pm_iconst (x := 1) dP_listAll_43 (by decide) (q := 44) rfl ?_
          refine pm_isub dP_listAll_44 (q := 45) rfl ?_
          refine pm_topL (y := nI i) (nI_pred i) ?_
          refine pm_ialdN dP_listAll_45 rfl (show i < 3 by omega) (Nat.le_of_ble_eq_true rfl) (q := 46) rfl ?_
          refine pm_iastN dP_listAll_46 rfl hj3 (Nat.le_of_ble_eq_true rfl) (q := 47) rfl ?_
          refine pm_heap (g := (cH pd si sa (up1 hv 2 x) (up1 ha 2 y) sl sc (nI n) (up1 pa 2 (upd (pa 2) (i + 1) (pa 2 i))) tl)) rfl ?_
          refine pm_goto (tgt := 80) dP_listAll_47 rfl ?_
          refine pm_aload_n dP_listAll_80 rfl (q := 81) rfl ?_
          refine pm_get fl_P_21 dP_listAll_81 rfl rfl (q := 84) rfl ?_
          refine pm_iload_n dP_listAll_84 rfl (q := 85) rfl ?_
          refine pm_aload_n dP_listAll_85 rfl (q := 86) rfl ?_
          refine pm_get fl_P_79 dP_listAll_86 rfl rfl (q := 89) rfl ?_
          refine pm_iastN dP_listAll_89 rfl hj3 (Nat.le_of_ble_eq_true rfl) (q := 90) rfl ?_
          refine pm_heap (g := (cH pd si sa (up1 hv 2 x) (up1 ha 2 y) sl sc (nI n) (up1 (up1 pa 2 (upd (pa 2) (i + 1) (pa 2 i))) 3 (upd (pa 3) (i + 1) (nI n))) tl)) rfl ?_
          refine pm_aload_n dP_listAll_90 rfl (q := 91) rfl ?_
          refine pm_get fl_P_18 dP_listAll_91 rfl rfl (q := 94) rfl ?_
          refine pm_iload_n dP_listAll_94 rfl (q := 95) rfl ?_
          refine pm_ialdN dP_listAll_95 rfl hj3 (Nat.le_of_ble_eq_true rfl) (q := 96) rfl ?_
          refine pm_topL b1 ?_
          refine pm_aload_n dP_listAll_96 rfl (q := 97) rfl ?_
          refine pm_get fl_P_21 dP_listAll_97 rfl rfl (q := 100) rfl ?_
          refine pm_iload_n dP_listAll_100 rfl (q := 101) rfl ?_
          refine pm_ialdN dP_listAll_101 rfl hj3 (Nat.le_of_ble_eq_true rfl) (q := 102) rfl ?_
          refine pm_topL b2 ?_
          refine pm_icmp_ne (tgt := 107) dP_listAll_102 rfl (q := 105) rfl (fun _ => ?_) (fun z => absurd (nI_inj (by omega) (by omega) z) (by omega))
          refine pm_iincL dP_listAll_107 rfl (by decide) (y := nI (i + 1 + 1)) (by rw [nI_succ (i + 1)]; rfl) (q := 110) rfl ?_
          refine pm_goto (tgt := 7) dP_listAll_110 rfl ?_
          exact nx
      · have en : nnL (lsA si sa S T B) (shd sa B) (j + 1) = n + (lsA si sa S T B j).length := by rw [nnL, if_neg hsh, hn0]
        rw [en] at hcap
        have h7 : ∀ (K : pm_X → Prop) (G : pm_X → State → Prop), (∀ X, K X → pm_Kd l d 0 0 X) → pm_Go mP_listAll K G 50 [some (.ref 21), some (.int (nI j))] [] (cH pd si sa (up1 hv 2 x) (up1 ha 2 y) sl sc (nI n) pa tl) 0 0 → pm_Go mP_listAll K G 7 [some (.ref 21), some (.int (nI j))] [] (cH pd si sa (up1 hv 2 x) (up1 ha 2 y) sl sc (nI n) pa tl) 0 0 := by
          intro K G hK h50
          cases j with
          | zero =>
            refine pm_iload_n dP_listAll_7 rfl (q := 8) rfl ?_
            refine pm_aload_n dP_listAll_8 rfl (q := 9) rfl ?_
            refine pm_get fl_P_27 dP_listAll_9 rfl rfl (q := 12) rfl ?_
            refine pm_cV0i hK (kS_departures hl 0) mo_S_departures im_S_departures se_S_departures lk_P_48 dP_listAll_12 (by omega) (Nat.le_of_ble_eq_true rfl) (Nat.zero_le _) (Nat.zero_le _) rfl rfl rfl (q := 15) rfl ?_
            refine pm_icmp_ge (tgt := 113) dP_listAll_15 rfl (q := 18) rfl (fun z => absurd z (by rw [eD]; exact nI_ge (by omega) (by omega))) (fun _ => ?_)
            refine pm_iload_n dP_listAll_18 rfl (q := 19) rfl ?_
            refine pm_if_le (tgt := 50) dP_listAll_19 rfl (q := 22) rfl (fun _ => ?_) (fun z => absurd (by decide) z)
            exact h50
          | succ i =>
            have fs : fsame sa (nI i) (nI (i + 1)) B = 0 := by rw [fsame_val hB5, if_neg hsh]
            refine pm_iload_n dP_listAll_7 rfl (q := 8) rfl ?_
            refine pm_aload_n dP_listAll_8 rfl (q := 9) rfl ?_
            refine pm_get fl_P_27 dP_listAll_9 rfl rfl (q := 12) rfl ?_
            refine pm_cV0i hK (kS_departures hl 0) mo_S_departures im_S_departures se_S_departures lk_P_48 dP_listAll_12 (by omega) (Nat.le_of_ble_eq_true rfl) (Nat.zero_le _) (Nat.zero_le _) rfl rfl rfl (q := 15) rfl ?_
            refine pm_icmp_ge (tgt := 113) dP_listAll_15 rfl (q := 18) rfl (fun z => absurd z (by rw [eD]; exact nI_ge (by omega) (by omega))) (fun _ => ?_)
            refine pm_iload_n dP_listAll_18 rfl (q := 19) rfl ?_
            refine pm_if_le (tgt := 50) dP_listAll_19 rfl (q := 22) rfl (fun z => absurd z (nI_nle (Nat.zero_lt_succ _) (by omega))) (fun _ => ?_)
            refine pm_aload_n dP_listAll_22 rfl (q := 23) rfl ?_
            refine pm_iload_n dP_listAll_23 rfl (q := 24) rfl ?_
            refine pm_iconst (x := 1) dP_listAll_24 (by decide) (q := 25) rfl ?_
            refine pm_isub dP_listAll_25 (q := 26) rfl ?_
            refine pm_topL (y := nI i) (nI_pred i) ?_
            refine pm_iload_n dP_listAll_26 rfl (q := 27) rfl ?_
            refine pm_cV2i hK (kP_sameBoxes hl 1 (Nat.le_refl _) hB hB5 _ _) mo_P_sameBoxes im_P_sameBoxes se_P_sameBoxes lk_P_82 dP_listAll_27 (by omega) (Nat.le_of_ble_eq_true rfl) (Nat.zero_le _) (Nat.zero_le _) rfl rfl rfl (q := 30) rfl ?_
            refine pm_topL (y := 0) fs ?_
            refine pm_if_eq (tgt := 50) dP_listAll_30 rfl (q := 33) rfl (fun _ => ?_) (fun z => absurd rfl z)
            exact h50
        have due := (fdueN_ok sa (nI j) B hB5).1
        have wF := kP_listFrom (pd := pd) (sl := sl) (sc := sc) (tl := tl) hl hS hS1 hS3 hT hT3 (duP sa B j) 13 30 (Nat.le_refl _) 0 (fdueN sa (nI j) B) n pE (up1 hv 2 0) (up1 ha 2 empA) (up1 pa 2 (upd (pa 2) j (nI n))) (by decide) (by omega) (pE_ok T) (fun _ _ => rfl) (wOk_due hB5) (empA_cA (sa 3)) (pV_E (sa 3)).symm hcap
        have h50 : ∀ (K : pm_X → Prop) (G : pm_X → State → Prop), (∀ X, K X → pm_Kd l d 0 0 X) → pm_Go mP_listAll K G 90 [some (.ref 21), some (.int (nI j))] [] (cH pd si sa (up1 hv 2 0) (up1 ha 2 empA) sl sc (nI (n + (lsA si sa S T B j).length)) (up1 (paW (up1 pa 2 (upd (pa 2) j (nI n))) n (lsA si sa S T B j)) 3 (upd (pa 3) j (nI (n + (lsA si sa S T B j).length)))) tl) 0 0 → pm_Go mP_listAll K G 50 [some (.ref 21), some (.int (nI j))] [] (cH pd si sa (up1 hv 2 x) (up1 ha 2 y) sl sc (nI n) pa tl) 0 0 := by
          intro K G hK h90
          refine pm_aload_n dP_listAll_50 rfl (q := 51) rfl ?_
          refine pm_get fl_P_18 dP_listAll_51 rfl rfl (q := 54) rfl ?_
          refine pm_iload_n dP_listAll_54 rfl (q := 55) rfl ?_
          refine pm_aload_n dP_listAll_55 rfl (q := 56) rfl ?_
          refine pm_get fl_P_79 dP_listAll_56 rfl rfl (q := 59) rfl ?_
          refine pm_iastN dP_listAll_59 rfl hj3 (Nat.le_of_ble_eq_true rfl) (q := 60) rfl ?_
          refine pm_heap (g := (cH pd si sa (up1 hv 2 x) (up1 ha 2 y) sl sc (nI n) (up1 pa 2 (upd (pa 2) j (nI n))) tl)) rfl ?_
          refine pm_aload_n dP_listAll_60 rfl (q := 61) rfl ?_
          refine pm_get fl_P_36 dP_listAll_61 rfl rfl (q := 64) rfl ?_
          refine pm_cV0v hK (kH_clear2 hl 1 (Nat.le_refl _)) mo_H_clear im_H_clear se_H_clear lk_P_86 dP_listAll_64 (by omega) (Nat.le_of_ble_eq_true rfl) (Nat.zero_le _) (Nat.zero_le _) rfl rfl rfl (q := 67) rfl ?_
          refine pm_heap (g := (cH pd si sa (up1 hv 2 0) (up1 ha 2 empA) sl sc (nI n) (up1 pa 2 (upd (pa 2) j (nI n))) tl)) (by rw [up1_up1, up1_up1]) ?_
          refine pm_aload_n dP_listAll_67 rfl (q := 68) rfl ?_
          refine pm_iconst (x := 0) dP_listAll_68 (by decide) (q := 69) rfl ?_
          refine pm_aload_n dP_listAll_69 rfl (q := 70) rfl ?_
          refine pm_get fl_P_27 dP_listAll_70 rfl rfl (q := 73) rfl ?_
          refine pm_iload_n dP_listAll_73 rfl (q := 74) rfl ?_
          refine pm_cV1i hK (kS_dueAt hl 0 _ hB hB5) mo_S_dueAt im_S_dueAt se_S_dueAt lk_P_89 dP_listAll_74 (by omega) (Nat.le_of_ble_eq_true rfl) (Nat.zero_le _) (Nat.zero_le _) rfl rfl rfl (q := 77) rfl ?_
          refine pm_topL due ?_
          refine pm_cV2v hK wF mo_P_listFrom im_P_listFrom se_P_listFrom lk_P_93 dP_listAll_77 (by omega) (Nat.le_of_ble_eq_true rfl) (Nat.zero_le _) (Nat.zero_le _) rfl rfl rfl (q := 80) rfl ?_
          refine pm_heap (g := (cH pd si sa (up1 hv 2 0) (up1 ha 2 empA) sl sc (nI (n + (lsA si sa S T B j).length)) (paW (up1 pa 2 (upd (pa 2) j (nI n))) n (lsA si sa S T B j)) tl)) rfl ?_
          refine pm_aload_n dP_listAll_80 rfl (q := 81) rfl ?_
          refine pm_get fl_P_21 dP_listAll_81 rfl rfl (q := 84) rfl ?_
          refine pm_iload_n dP_listAll_84 rfl (q := 85) rfl ?_
          refine pm_aload_n dP_listAll_85 rfl (q := 86) rfl ?_
          refine pm_get fl_P_79 dP_listAll_86 rfl rfl (q := 89) rfl ?_
          refine pm_iastN dP_listAll_89 rfl hj3 (Nat.le_of_ble_eq_true rfl) (q := 90) rfl ?_
          refine pm_heap (g := (cH pd si sa (up1 hv 2 0) (up1 ha 2 empA) sl sc (nI (n + (lsA si sa S T B j).length)) (up1 (paW (up1 pa 2 (upd (pa 2) j (nI n))) n (lsA si sa S T B j)) 3 (upd (pa 3) j (nI (n + (lsA si sa S T B j).length)))) tl)) rfl ?_
          exact h90
        by_cases hA : (lsA si sa S T B j) = []
        · refine ⟨0, 0, empA, n + (lsA si sa S T B j).length, (up1 (paW (up1 pa 2 (upd (pa 2) j (nI n))) n (lsA si sa S T B j)) 3 (upd (pa 3) j (nI (n + (lsA si sa S T B j).length)))), Or.inr ⟨rfl, j, by omega, hA⟩, fun K G hK hret => ?_⟩
          refine h7 K G hK (h50 K G hK ?_)
          have q1 : upd (pa 2) j (nI n) j = nI n := upd_at _ _ _
          have q2 : upd (pa 3) j (nI (n + (lsA si sa S T B j).length)) j = nI n := by rw [upd_at, hA]; rfl
          refine pm_aload_n dP_listAll_90 rfl (q := 91) rfl ?_
          refine pm_get fl_P_18 dP_listAll_91 rfl rfl (q := 94) rfl ?_
          refine pm_iload_n dP_listAll_94 rfl (q := 95) rfl ?_
          refine pm_ialdN dP_listAll_95 rfl hj3 (Nat.le_of_ble_eq_true rfl) (q := 96) rfl ?_
          refine pm_topL q1 ?_
          refine pm_aload_n dP_listAll_96 rfl (q := 97) rfl ?_
          refine pm_get fl_P_21 dP_listAll_97 rfl rfl (q := 100) rfl ?_
          refine pm_iload_n dP_listAll_100 rfl (q := 101) rfl ?_
          refine pm_ialdN dP_listAll_101 rfl hj3 (Nat.le_of_ble_eq_true rfl) (q := 102) rfl ?_
          refine pm_topL q2 ?_
          refine pm_icmp_ne (tgt := 107) dP_listAll_102 rfl (q := 105) rfl (fun z => absurd rfl z) (fun _ => ?_)
          refine pm_iconst (x := 0) dP_listAll_105 (by decide) (q := 106) rfl ?_
          exact pm_retI hret dP_listAll_106 rfl
        · have hI2 := laI_new hB5 hI hsh hA
          obtain ⟨r, x2, y2, n2, pa2, hr, ho⟩ := ih (j + 1) 0 empA _ _ (by omega) hI2
          refine ⟨r, x2, y2, n2, pa2, hr, fun K G hK hret => ?_⟩
          have nx := ho K G hK hret
          refine h7 K G hK (h50 K G hK ?_)
          have b5 : ¬ (lsA si sa S T B j).length = 0 := fun z => hA (List.length_eq_zero_iff.mp z)
          have q1 : upd (pa 2) j (nI n) j = nI n := upd_at _ _ _
          have q2 : upd (pa 3) j (nI (n + (lsA si sa S T B j).length)) j = nI (n + (lsA si sa S T B j).length) := upd_at _ _ _
          refine pm_aload_n dP_listAll_90 rfl (q := 91) rfl ?_
          refine pm_get fl_P_18 dP_listAll_91 rfl rfl (q := 94) rfl ?_
          refine pm_iload_n dP_listAll_94 rfl (q := 95) rfl ?_
          refine pm_ialdN dP_listAll_95 rfl hj3 (Nat.le_of_ble_eq_true rfl) (q := 96) rfl ?_
          refine pm_topL q1 ?_
          refine pm_aload_n dP_listAll_96 rfl (q := 97) rfl ?_
          refine pm_get fl_P_21 dP_listAll_97 rfl rfl (q := 100) rfl ?_
          refine pm_iload_n dP_listAll_100 rfl (q := 101) rfl ?_
          refine pm_ialdN dP_listAll_101 rfl hj3 (Nat.le_of_ble_eq_true rfl) (q := 102) rfl ?_
          refine pm_topL q2 ?_
          refine pm_icmp_ne (tgt := 107) dP_listAll_102 rfl (q := 105) rfl (fun _ => ?_) (fun z => absurd (nI_inj (by omega) (by omega) z) (by omega))
          refine pm_iincL dP_listAll_107 rfl (by decide) (y := nI (j + 1)) (by rw [nI_succ]; rfl) (q := 110) rfl ?_
          refine pm_goto (tgt := 7) dP_listAll_110 rfl ?_
          exact nx
  obtain ⟨r, x2, y2, n2, pa2, hr, ho⟩ := hO D 0 (hv 2) (ha 2) 0 pa (by omega) ⟨rfl, fun p hp => absurd hp (Nat.not_lt_zero _)⟩
  refine ⟨r, x2, y2, n2, pa2, hr, ?_⟩
  have hb : narrow .boolean (.int r) = .int r := by
    rcases hr with ⟨e, _⟩ | ⟨e, _⟩ <;> rw [e] <;> rfl
  refine pm_sem hl mo_P_listAll ⟨_, rfl, hb⟩ rfl rfl (Nat.le_of_ble_eq_true rfl) (fun K G hK hret => ?_)
  have nx := ho K G hK hret
  rw [up1_same, up1_same] at nx
  refine pm_aload_n dP_listAll_0 rfl (q := 1) rfl ?_
  refine pm_iconst (x := 0) dP_listAll_1 (by decide) (q := 2) rfl ?_
  refine pm_put fp_P_79 dP_listAll_2 rfl (Nat.le_of_ble_eq_true rfl) (fun _ => rfl) (fun _ => rfl) (q := 5) rfl ?_
  refine pm_iconst (x := 0) dP_listAll_5 (by decide) (q := 6) rfl ?_
  refine pm_istore_n dP_listAll_6 (by decide) (q := 7) rfl ?_
  exact nx
