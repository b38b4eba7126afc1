/-! the class: a plan's moves are written -/
theorem scW_one (sc : Nat → Nat → Int32) (n : Nat) (r : pQ) : scW sc n [r] = fun j => upd (sc j) n (cl j r) := rfl
theorem kT_addR {l : Launch} (hl : l.stackTraces = false) (d : Nat) {pd : Int32} {si : Nat → Int32} {sa : Nat → Nat → Int32} {hv : Nat → Int32} {ha : Nat → Nat → Nat → Int32} {sc : Nat → Nat → Int32} {pl : Int32} {pa : Nat → Nat → Int32} {tl : pm_H} {n : Nat} (r : pQ) (R : List pQ) (hn : n + R.length < 30) : pm_Sem l d mT_add [.ref 16, .int (cl 0 r), .int (cl 1 r), .int (cl 2 r), .int (cl 3 r)] (cH pd si sa hv ha (nI (n + R.length)) (scW sc n R) pl pa tl) none (cH pd si sa hv ha (nI (n + (R ++ [r]).length)) (scW sc n (R ++ [r])) pl pa tl) := by
  have w := kT_add (pd := pd) (si := si) (sa := sa) (hv := hv) (ha := ha) (sl := nI (n + R.length)) (sc := scW sc n R) (pl := pl) (pa := pa) (tl := tl) hl d (cl 0 r) (cl 1 r) (cl 2 r) (cl 3 r) (show nI (n + R.length) < nI 30 from nI_lt hn (by decide)) (vp_in_nI hn (by decide))
  rw [nI_clamp (by omega)] at w
  have e : scW sc n (R ++ [r]) = fun j => upd (scW sc n R j) (n + R.length) (if j = 0 then cl 0 r else if j = 1 then cl 1 r else if j = 2 then cl 2 r else cl 3 r) := by
    rw [scW_app, scW_one]
    funext j
    congr 1
  rw [e, List.length_append, List.length_singleton, ← Nat.add_assoc, nI_succ]
  exact w
theorem scW_app0 (sc : Nat → Nat → Int32) (R R' : List pQ) : scW (scW sc 0 R) R.length R' = scW sc 0 (R ++ R') := by
  rw [scW_app, Nat.zero_add]
theorem tI_lt : ∀ j k : Fin 4, (nI j.val - 1 < nI k.val) = (j.val ≤ k.val) := by decide
theorem tI_dec : ∀ j : Fin 4, nI (j.val + 1) - 1 + Int32.ofInt (-1) = nI j.val - 1 := by decide
theorem cC_E : cC pE = 0 := by decide
theorem height_val {L : pL} {T : Nat} (hL : pOk L T) (hT : T ≤ 3) {s : Nat} (hs : s < 3) : fC_keptIn (nI s) (cC L) (cC L) = nI (L s).length := by
  rw [kept_val hL hL hT hs, kp1_self]
set_option maxHeartbeats 8000000 in
theorem kP_writeTakenOff {l : Launch} (hl : l.stackTraces = false) (d : Nat) (hd : 3 ≤ d) {pd : Int32} {si : Nat → Int32} {sa : Nat → Nat → Int32} {hv : Nat → Int32} {ha : Nat → Nat → Nat → Int32} {sc : Nat → Nat → Int32} {pl : Int32} {pa : Nat → Nat → Int32} {tl : pm_H} (n q : Nat) {S T : Nat} (hS : si 0 = nI S) (hS3 : S ≤ 3) (hT3 : T ≤ 3) {L N : pL} (hL : pOk L T) (hN : pOk N T) (hn : n + (offs L N q S).length ≤ 30) : pm_Sem l d mP_writeTakenOff [.ref 21, .ref 16, .int (nI q), .int (cC L), .int (cC N)] (cH pd si sa hv ha (nI n) sc pl pa tl) none (cH pd si sa hv ha (nI (n + (offs L N q S).length)) (scW sc n (offs L N q S)) pl pa tl) := by
  refine pm_sem hl mo_P_writeTakenOff rfl rfl rfl (Nat.le_of_ble_eq_true rfl) (fun K G hK hret => ?_)
  have mono : ∀ m s, m + s = S → (offs L N q s).length ≤ (offs L N q S).length := by
    intro m
    induction m with
    | zero => intro s h; rw [show s = S by omega]; exact Nat.le_refl _
    | succ m ih =>
      intro s h
      refine Nat.le_trans ?_ (ih (s + 1) (by omega))
      rw [offs, List.length_append]
      omega
  have hO : ∀ (m s : Nat) (o o2 : Option Value), m + s = S → pm_Go mP_writeTakenOff K G 3 [some (.ref 21), some (.ref 16), some (.int (nI q)), some (.int (cC L)), some (.int (cC N)), some (.int (nI s)), o, o2] [] (cH pd si sa hv ha (nI (n + (offs L N q s).length)) (scW sc n (offs L N q s)) pl pa tl) 0 0 := by
    intro m
    induction m with
    | zero =>
      intro s o o2 hs
      have hs : s = S := by omega
      subst hs
      refine pm_iload dP_writeTakenOff_3 rfl (q := 5) rfl ?_
      refine pm_aload_n dP_writeTakenOff_5 rfl (q := 6) rfl ?_
      refine pm_get fl_P_27 dP_writeTakenOff_6 rfl rfl (q := 9) rfl ?_
      refine pm_get fl_P_59 dP_writeTakenOff_9 rfl rfl (q := 12) rfl ?_
      refine pm_icmp_ge (tgt := 70) dP_writeTakenOff_12 rfl (q := 15) rfl (fun _ => ?_) (fun z => absurd (by rw [hS]; exact nI_le (Nat.le_refl _) (by omega)) z)
      exact pm_retV hret dP_writeTakenOff_70 rfl
    | succ m ih =>
      intro s o o2 hs
      have hs3 : s < 3 := by omega
      have hlen := hL.len s
      have hkl := kp1_le (L s) (N s)
      have hle : n + (offs L N q (s + 1)).length ≤ 30 := by
        have := mono m (s + 1) (by omega)
        omega
      have hI : ∀ (m2 j : Nat), m2 + kp1 (L s) (N s) = j → j ≤ (L s).length → pm_Go mP_writeTakenOff K G 35 [some (.ref 21), some (.ref 16), some (.int (nI q)), some (.int (cC L)), some (.int (cC N)), some (.int (nI s)), some (.int (nI (kp1 (L s) (N s)))), some (.int (nI j - 1))] [] (cH pd si sa hv ha (nI (n + (offs L N q s ++ ((L s).drop j).reverse.map (fun b => (b, q, some s, 0))).length)) (scW sc n (offs L N q s ++ ((L s).drop j).reverse.map (fun b => (b, q, some s, 0)))) pl pa tl) 0 0 := by
        intro m2
        induction m2 with
        | zero =>
          intro j hj hjl
          have hj : j = kp1 (L s) (N s) := by omega
          subst hj
          have c1 : nI (kp1 (L s) (N s)) - 1 < nI (kp1 (L s) (N s)) := by
            have := tI_lt ⟨kp1 (L s) (N s), by omega⟩ ⟨kp1 (L s) (N s), by omega⟩
            dsimp only at this
            rw [this]
            exact Nat.le_refl _
          refine pm_iload dP_writeTakenOff_35 rfl (q := 37) rfl ?_
          refine pm_iload dP_writeTakenOff_37 rfl (q := 39) rfl ?_
          refine pm_icmp_lt (tgt := 64) dP_writeTakenOff_39 rfl (q := 42) rfl (fun _ => ?_) (fun z => absurd c1 z)
          refine pm_iincL dP_writeTakenOff_64 rfl (by decide) (y := nI (s + 1)) (by rw [nI_succ]; rfl) (q := 67) rfl ?_
          refine pm_goto (tgt := 3) dP_writeTakenOff_67 rfl ?_
          exact ih (s + 1) _ _ (by omega)
        | succ m2 ih2 =>
          intro j hj hjl
          obtain ⟨i, rfl⟩ : ∃ i, j = i + 1 := ⟨j - 1, by omega⟩
          have c1 : ¬ nI (i + 1) - 1 < nI (kp1 (L s) (N s)) := by
            have := tI_lt ⟨i + 1, by omega⟩ ⟨kp1 (L s) (N s), by omega⟩
            dsimp only at this
            rw [this]
            omega
          have hil : i < (L s).length := by omega
          have eb : fC_boxIn (cC L) (nI s) (nI i) = nI (L s)[i] := by
            rw [boxIn_val hL hs3 (by omega), sM_in (by omega) (List.getElem?_eq_getElem hil)]
          have ed : (offs L N q s ++ ((L s).drop i).reverse.map (fun b => (b, q, some s, 0))) = (offs L N q s ++ ((L s).drop (i + 1)).reverse.map (fun b => (b, q, some s, 0))) ++ [((L s)[i], q, some s, 0)] := by
            rw [List.drop_eq_getElem_cons hil, List.reverse_cons, List.map_append, List.append_assoc]
            rfl
          have hcap : n + (offs L N q s ++ ((L s).drop (i + 1)).reverse.map (fun b => (b, q, some s, 0))).length < 30 := by
            have e1 : (mvOff L N q s).length = (L s).length - kp1 (L s) (N s) := by
              unfold mvOff
              rw [List.length_map, List.length_reverse, List.length_drop]
            rw [offs, List.length_append, e1] at hle
            rw [List.length_append, List.length_map, List.length_reverse, List.length_drop]
            omega
          have w := kT_addR (pd := pd) (si := si) (sa := sa) (hv := hv) (ha := ha) (sc := sc) (pl := pl) (pa := pa) (tl := tl) hl 0 ((L s)[i], q, some s, 0) (offs L N q s ++ ((L s).drop (i + 1)).reverse.map (fun b => (b, q, some s, 0))) hcap
          rw [← ed] at w
          have nx := ih2 i (by omega) (by omega)
          refine pm_iload dP_writeTakenOff_35 rfl (q := 37) rfl ?_
          refine pm_iload dP_writeTakenOff_37 rfl (q := 39) rfl ?_
          refine pm_icmp_lt (tgt := 64) dP_writeTakenOff_39 rfl (q := 42) rfl (fun z => absurd z c1) (fun _ => ?_)
          refine pm_aload_n dP_writeTakenOff_42 rfl (q := 43) rfl ?_
          refine pm_iload_n dP_writeTakenOff_43 rfl (q := 44) rfl ?_
          refine pm_iload dP_writeTakenOff_44 rfl (q := 46) rfl ?_
          refine pm_iload dP_writeTakenOff_46 rfl (q := 48) rfl ?_
          refine pm_topL (y := nI i) (nI_pred i) ?_
          refine pm_cS3i hK (kC_boxIn hl 0 _ _ _ _) mo_C_boxIn st_C_boxIn lk_P_70 dP_writeTakenOff_48 (by omega) (Nat.le_of_ble_eq_true rfl) (Nat.zero_le _) (Nat.zero_le _) (q := 51) rfl ?_
          refine pm_topL (y := nI (L s)[i]) eb ?_
          refine pm_iload_n dP_writeTakenOff_51 rfl (q := 52) rfl ?_
          refine pm_iload dP_writeTakenOff_52 rfl (q := 54) rfl ?_
          refine pm_iconst (x := -1) dP_writeTakenOff_54 (by decide) (q := 55) rfl ?_
          refine pm_cV4v hK (w) mo_T_add im_T_add se_T_add lk_P_73 dP_writeTakenOff_55 (by omega) (Nat.le_of_ble_eq_true rfl) (Nat.zero_le _) (Nat.zero_le _) rfl rfl rfl (q := 58) rfl ?_
          refine pm_iincL dP_writeTakenOff_58 rfl (by decide) (y := nI i - 1) (tI_dec ⟨i, by omega⟩) (q := 61) rfl ?_
          refine pm_goto (tgt := 35) dP_writeTakenOff_61 rfl ?_
          exact nx
      have hI0 := hI ((L s).length - kp1 (L s) (N s)) (L s).length (by omega) (Nat.le_refl _)
      rw [List.drop_of_length_le (Nat.le_refl _), List.reverse_nil, List.map_nil, List.append_nil] at hI0
      refine pm_iload dP_writeTakenOff_3 rfl (q := 5) rfl ?_
      refine pm_aload_n dP_writeTakenOff_5 rfl (q := 6) rfl ?_
      refine pm_get fl_P_27 dP_writeTakenOff_6 rfl rfl (q := 9) rfl ?_
      refine pm_get fl_P_59 dP_writeTakenOff_9 rfl rfl (q := 12) rfl ?_
      refine pm_icmp_ge (tgt := 70) dP_writeTakenOff_12 rfl (q := 15) rfl (fun z => absurd z (by rw [hS]; exact nI_ge (by omega) (by omega))) (fun _ => ?_)
      refine pm_iload dP_writeTakenOff_15 rfl (q := 17) rfl ?_
      refine pm_iload_n dP_writeTakenOff_17 rfl (q := 18) rfl ?_
      refine pm_iload dP_writeTakenOff_18 rfl (q := 20) rfl ?_
      refine pm_cS3i hK (kC_keptIn hl 1 (Nat.le_refl _) _ _ _ _) mo_C_keptIn st_C_keptIn lk_P_62 dP_writeTakenOff_20 (by omega) (Nat.le_of_ble_eq_true rfl) (Nat.zero_le _) (Nat.zero_le _) (q := 23) rfl ?_
      refine pm_topL (y := nI (kp1 (L s) (N s))) (kept_val hL hN hT3 hs3) ?_
      refine pm_istore dP_writeTakenOff_23 (by decide) (q := 25) rfl ?_
      refine pm_iload_n dP_writeTakenOff_25 rfl (q := 26) rfl ?_
      refine pm_iload dP_writeTakenOff_26 rfl (q := 28) rfl ?_
      refine pm_cS2i hK (kC_heightOf hl 2 (Nat.le_refl _) _ _ _) mo_C_heightOf st_C_heightOf lk_P_66 dP_writeTakenOff_28 (by omega) (Nat.le_of_ble_eq_true rfl) (Nat.zero_le _) (Nat.zero_le _) (q := 31) rfl ?_
      refine pm_topL (y := nI (L s).length) (height_val hL hT3 hs3) ?_
      refine pm_iconst (x := 1) dP_writeTakenOff_31 (by decide) (q := 32) rfl ?_
      refine pm_isub dP_writeTakenOff_32 (q := 33) rfl ?_
      refine pm_istore dP_writeTakenOff_33 (by decide) (q := 35) rfl ?_
      exact hI0
  refine pm_iconst (x := 0) dP_writeTakenOff_0 (by decide) (q := 1) rfl ?_
  refine pm_istore dP_writeTakenOff_1 (by decide) (q := 3) rfl ?_
  exact hO S 0 _ _ (by omega)
set_option maxHeartbeats 8000000 in
theorem kP_writePutOn {l : Launch} (hl : l.stackTraces = false) (d : Nat) (hd : 3 ≤ d) {pd : Int32} {si : Nat → Int32} {sa : Nat → Nat → Int32} {hv : Nat → Int32} {ha : Nat → Nat → Nat → Int32} {sc : Nat → Nat → Int32} {pl : Int32} {pa : Nat → Nat → Int32} {tl : pm_H} (n q : Nat) {S T : Nat} (hS : si 0 = nI S) (hS3 : S ≤ 3) (hT3 : T ≤ 3) {L N : pL} (hL : pOk L T) (hN : pOk N T) (hn : n + (ons L N q S).length ≤ 30) : pm_Sem l d mP_writePutOn [.ref 21, .ref 16, .int (nI q), .int (cC L), .int (cC N)] (cH pd si sa hv ha (nI n) sc pl pa tl) none (cH pd si sa hv ha (nI (n + (ons L N q S).length)) (scW sc n (ons L N q S)) pl pa tl) := by
  refine pm_sem hl mo_P_writePutOn rfl rfl rfl (Nat.le_of_ble_eq_true rfl) (fun K G hK hret => ?_)
  have mono : ∀ m s, m + s = S → (ons L N q s).length ≤ (ons L N q S).length := by
    intro m
    induction m with
    | zero => intro s h; rw [show s = S by omega]; exact Nat.le_refl _
    | succ m ih =>
      intro s h
      refine Nat.le_trans ?_ (ih (s + 1) (by omega))
      rw [ons, List.length_append]
      omega
  have hO : ∀ (m s : Nat) (o o2 : Option Value), m + s = S → pm_Go mP_writePutOn K G 3 [some (.ref 21), some (.ref 16), some (.int (nI q)), some (.int (cC L)), some (.int (cC N)), some (.int (nI s)), o, o2] [] (cH pd si sa hv ha (nI (n + (ons L N q s).length)) (scW sc n (ons L N q s)) pl pa tl) 0 0 := by
    intro m
    induction m with
    | zero =>
      intro s o o2 hs
      have hs : s = S := by omega
      subst hs
      refine pm_iload dP_writePutOn_3 rfl (q := 5) rfl ?_
      refine pm_aload_n dP_writePutOn_5 rfl (q := 6) rfl ?_
      refine pm_get fl_P_27 dP_writePutOn_6 rfl rfl (q := 9) rfl ?_
      refine pm_get fl_P_59 dP_writePutOn_9 rfl rfl (q := 12) rfl ?_
      refine pm_icmp_ge (tgt := 70) dP_writePutOn_12 rfl (q := 15) rfl (fun _ => ?_) (fun z => absurd (by rw [hS]; exact nI_le (Nat.le_refl _) (by omega)) z)
      exact pm_retV hret dP_writePutOn_70 rfl
    | succ m ih =>
      intro s o o2 hs
      have hs3 : s < 3 := by omega
      have hlen := hN.len s
      have hkl := kp1_le (L s) (N s)
      have hle : n + (ons L N q (s + 1)).length ≤ 30 := by
        have := mono m (s + 1) (by omega)
        omega
      have hI : ∀ (m2 j : Nat), m2 + j = (N s).length → kp1 (L s) (N s) ≤ j → pm_Go mP_writePutOn K G 34 [some (.ref 21), some (.ref 16), some (.int (nI q)), some (.int (cC L)), some (.int (cC N)), some (.int (nI s)), some (.int (nI (N s).length)), some (.int (nI j))] [] (cH pd si sa hv ha (nI (n + (ons L N q s ++ (((N s).take j).drop (kp1 (L s) (N s))).map (fun b => (b, q, none, s))).length)) (scW sc n (ons L N q s ++ (((N s).take j).drop (kp1 (L s) (N s))).map (fun b => (b, q, none, s)))) pl pa tl) 0 0 := by
        intro m2
        induction m2 with
        | zero =>
          intro j hj hjl
          have hj : j = (N s).length := by omega
          subst hj
          rw [List.take_length]
          refine pm_iload dP_writePutOn_34 rfl (q := 36) rfl ?_
          refine pm_iload dP_writePutOn_36 rfl (q := 38) rfl ?_
          refine pm_icmp_ge (tgt := 64) dP_writePutOn_38 rfl (q := 41) rfl (fun _ => ?_) (fun z => absurd (nI_le (Nat.le_refl _) (by omega)) z)
          refine pm_iincL dP_writePutOn_64 rfl (by decide) (y := nI (s + 1)) (by rw [nI_succ]; rfl) (q := 67) rfl ?_
          refine pm_goto (tgt := 3) dP_writePutOn_67 rfl ?_
          exact ih (s + 1) _ _ (by omega)
        | succ m2 ih2 =>
          intro j hj hjl
          have hil : j < (N s).length := by omega
          have eb : fC_boxIn (cC N) (nI s) (nI j) = nI (N s)[j] := by
            rw [boxIn_val hN hs3 (by omega), sM_in (by omega) (List.getElem?_eq_getElem hil)]
          have ed : (ons L N q s ++ (((N s).take (j + 1)).drop (kp1 (L s) (N s))).map (fun b => (b, q, none, s))) = (ons L N q s ++ (((N s).take j).drop (kp1 (L s) (N s))).map (fun b => (b, q, none, s))) ++ [((N s)[j], q, none, s)] := by
            have t1 : ((N s).take j).length = j := by rw [List.length_take]; omega
            rw [List.take_add_one, List.getElem?_eq_getElem hil, Option.toList_some, List.drop_append_of_le_length (by omega), List.map_append, List.append_assoc]
            rfl
          have hcap : n + (ons L N q s ++ (((N s).take j).drop (kp1 (L s) (N s))).map (fun b => (b, q, none, s))).length < 30 := by
            have e1 : (mvOn L N q s).length = (N s).length - kp1 (L s) (N s) := by
              unfold mvOn
              rw [List.length_map, List.length_drop]
            rw [ons, List.length_append, e1] at hle
            rw [List.length_append, List.length_map, List.length_drop, List.length_take]
            omega
          have w := kT_addR (pd := pd) (si := si) (sa := sa) (hv := hv) (ha := ha) (sc := sc) (pl := pl) (pa := pa) (tl := tl) hl 0 ((N s)[j], q, none, s) (ons L N q s ++ (((N s).take j).drop (kp1 (L s) (N s))).map (fun b => (b, q, none, s))) hcap
          rw [← ed] at w
          have nx := ih2 (j + 1) (by omega) (by omega)
          refine pm_iload dP_writePutOn_34 rfl (q := 36) rfl ?_
          refine pm_iload dP_writePutOn_36 rfl (q := 38) rfl ?_
          refine pm_icmp_ge (tgt := 64) dP_writePutOn_38 rfl (q := 41) rfl (fun z => absurd z (nI_ge hil (by omega))) (fun _ => ?_)
          refine pm_aload_n dP_writePutOn_41 rfl (q := 42) rfl ?_
          refine pm_iload dP_writePutOn_42 rfl (q := 44) rfl ?_
          refine pm_iload dP_writePutOn_44 rfl (q := 46) rfl ?_
          refine pm_iload dP_writePutOn_46 rfl (q := 48) rfl ?_
          refine pm_cS3i hK (kC_boxIn hl 0 _ _ _ _) mo_C_boxIn st_C_boxIn lk_P_70 dP_writePutOn_48 (by omega) (Nat.le_of_ble_eq_true rfl) (Nat.zero_le _) (Nat.zero_le _) (q := 51) rfl ?_
          refine pm_topL (y := nI (N s)[j]) eb ?_
          refine pm_iload_n dP_writePutOn_51 rfl (q := 52) rfl ?_
          refine pm_iconst (x := -1) dP_writePutOn_52 (by decide) (q := 53) rfl ?_
          refine pm_iload dP_writePutOn_53 rfl (q := 55) rfl ?_
          refine pm_cV4v hK (w) mo_T_add im_T_add se_T_add lk_P_73 dP_writePutOn_55 (by omega) (Nat.le_of_ble_eq_true rfl) (Nat.zero_le _) (Nat.zero_le _) rfl rfl rfl (q := 58) rfl ?_
          refine pm_iincL dP_writePutOn_58 rfl (by decide) (y := nI (j + 1)) (by rw [nI_succ]; rfl) (q := 61) rfl ?_
          refine pm_goto (tgt := 34) dP_writePutOn_61 rfl ?_
          exact nx
      have hI0 := hI ((N s).length - kp1 (L s) (N s)) (kp1 (L s) (N s)) (by omega) (Nat.le_refl _)
      rw [List.drop_of_length_le (by rw [List.length_take]; omega), List.map_nil, List.append_nil] at hI0
      refine pm_iload dP_writePutOn_3 rfl (q := 5) rfl ?_
      refine pm_aload_n dP_writePutOn_5 rfl (q := 6) rfl ?_
      refine pm_get fl_P_27 dP_writePutOn_6 rfl rfl (q := 9) rfl ?_
      refine pm_get fl_P_59 dP_writePutOn_9 rfl rfl (q := 12) rfl ?_
      refine pm_icmp_ge (tgt := 70) dP_writePutOn_12 rfl (q := 15) rfl (fun z => absurd z (by rw [hS]; exact nI_ge (by omega) (by omega))) (fun _ => ?_)
      refine pm_iload dP_writePutOn_15 rfl (q := 17) rfl ?_
      refine pm_iload dP_writePutOn_17 rfl (q := 19) rfl ?_
      refine pm_cS2i hK (kC_heightOf hl 2 (Nat.le_refl _) _ _ _) mo_C_heightOf st_C_heightOf lk_P_66 dP_writePutOn_19 (by omega) (Nat.le_of_ble_eq_true rfl) (Nat.zero_le _) (Nat.zero_le _) (q := 22) rfl ?_
      refine pm_topL (y := nI (N s).length) (height_val hN hT3 hs3) ?_
      refine pm_istore dP_writePutOn_22 (by decide) (q := 24) rfl ?_
      refine pm_iload dP_writePutOn_24 rfl (q := 26) rfl ?_
      refine pm_iload_n dP_writePutOn_26 rfl (q := 27) rfl ?_
      refine pm_iload dP_writePutOn_27 rfl (q := 29) rfl ?_
      refine pm_cS3i hK (kC_keptIn hl 1 (Nat.le_refl _) _ _ _ _) mo_C_keptIn st_C_keptIn lk_P_62 dP_writePutOn_29 (by omega) (Nat.le_of_ble_eq_true rfl) (Nat.zero_le _) (Nat.zero_le _) (q := 32) rfl ?_
      refine pm_topL (y := nI (kp1 (L s) (N s))) (kept_val hL hN hT3 hs3) ?_
      refine pm_istore dP_writePutOn_32 (by decide) (q := 34) rfl ?_
      exact hI0
  refine pm_iconst (x := 0) dP_writePutOn_0 (by decide) (q := 1) rfl ?_
  refine pm_istore dP_writePutOn_1 (by decide) (q := 3) rfl ?_
  exact hO S 0 _ _ (by omega)
theorem offs3 {L M : pL} {q S : Nat} (hL : pIn L S) (hS3 : S ≤ 3) : offs L M q S = offs L M q 3 := by
  have := offs_S (M := M) (p := q) hL (3 - S)
  rw [show S + (3 - S) = 3 by omega] at this
  exact this.symm
theorem ons3 {L M : pL} {q S : Nat} (hM : pIn M S) (hS3 : S ≤ 3) : ons L M q S = ons L M q 3 := by
  have := ons_S (L := L) (p := q) hM (3 - S)
  rw [show S + (3 - S) = 3 by omega] at this
  exact this.symm
set_option maxHeartbeats 8000000 in
theorem kP_writeInto {l : Launch} (hl : l.stackTraces = false) (d : Nat) (hd : 4 ≤ d) {pd : Int32} {si : Nat → Int32} {sa : Nat → Nat → Int32} {hv : Nat → Int32} {ha : Nat → Nat → Nat → Int32} {sc : Nat → Nat → Int32} {pl : Int32} {pa : Nat → Nat → Int32} {tl : pm_H} {S T : Nat} (hS : si 0 = nI S) (hS3 : S ≤ 3) (hT3 : T ≤ 3) {D : Nat} (hP : si 2 = nI (D + 1)) (hD3 : D ≤ 3) (Q : List pL) (hQ : Q.length = D) (hQo : ∀ N ∈ Q, pOk N T ∧ pIn N S) (hch : ∀ i, (h : i < Q.length) → pa 4 i = cC Q[i]) (hn : (mvAll 0 pE Q).length ≤ 30) : pm_Sem l d mP_writeInto [.ref 21, .ref 16] (cH pd si sa hv ha (nI 0) sc pl pa tl) none (cH pd si sa hv ha (nI (mvAll 0 pE Q).length) (scW sc 0 (mvAll 0 pE Q)) pl pa tl) := by
  refine pm_sem hl mo_P_writeInto rfl rfl rfl (Nat.le_of_ble_eq_true rfl) (fun K G hK hret => ?_)
  have eD : si 2 - 1 = nI D := by rw [hP]; exact nI_pred D
  have hO : ∀ (Ms : List pL) (q : Nat) (L : pL) (R : List pQ) (o : Option Value), q + Ms.length = D → pOk L T → pIn L S → (∀ N ∈ Ms, pOk N T ∧ pIn N S) → (∀ i, (h : i < Ms.length) → pa 4 (q + i) = cC Ms[i]) → R ++ mvAll q L Ms = mvAll 0 pE Q → pm_Go mP_writeInto K G 4 [some (.ref 21), some (.ref 16), some (.int (cC L)), some (.int (nI q)), o] [] (cH pd si sa hv ha (nI R.length) (scW sc 0 R) pl pa tl) 0 0 := by
    intro Ms
    induction Ms with
    | nil =>
      intro q L R o hq hL iL _ _ hR
      have hq : q = D := by rw [List.length_nil] at hq; omega
      subst hq
      have e1 : mvAll q L [] = offs L pE q S ++ ons L pE q S := by rw [offs3 iL hS3, ons3 (pE_in S) hS3]; rfl
      rw [e1] at hR
      have hlen : R.length + (offs L pE q S).length + (ons L pE q S).length ≤ 30 := by rw [← hR, List.length_append, List.length_append] at hn; omega
      have w1 := kP_writeTakenOff (pd := pd) (si := si) (sa := sa) (hv := hv) (ha := ha) (sc := scW sc 0 R) (pl := pl) (pa := pa) (tl := tl) hl 3 (Nat.le_refl _) R.length q hS hS3 hT3 hL (pE_ok T) (by omega)
      rw [scW_app0, ← List.length_append] at w1
      have w2 := kP_writePutOn (pd := pd) (si := si) (sa := sa) (hv := hv) (ha := ha) (sc := scW sc 0 (R ++ offs L pE q S)) (pl := pl) (pa := pa) (tl := tl) hl 3 (Nat.le_refl _) (R ++ offs L pE q S).length q hS hS3 hT3 hL (pE_ok T) (by rw [List.length_append]; omega)
      rw [scW_app0, ← List.length_append, List.append_assoc, hR] at w2
      refine pm_iload_n dP_writeInto_4 rfl (q := 5) rfl ?_
      refine pm_aload_n dP_writeInto_5 rfl (q := 6) rfl ?_
      refine pm_get fl_P_27 dP_writeInto_6 rfl rfl (q := 9) rfl ?_
      refine pm_get fl_P_42 dP_writeInto_9 rfl rfl (q := 12) rfl ?_
      refine pm_icmp_ge (tgt := 65) dP_writeInto_12 rfl (q := 15) rfl (fun z => absurd z (by rw [hP]; exact nI_ge (by omega) (by omega))) (fun _ => ?_)
      refine pm_iload_n dP_writeInto_15 rfl (q := 16) rfl ?_
      refine pm_aload_n dP_writeInto_16 rfl (q := 17) rfl ?_
      refine pm_get fl_P_27 dP_writeInto_17 rfl rfl (q := 20) rfl ?_
      refine pm_cV0i hK (kS_departures hl 0) mo_S_departures im_S_departures se_S_departures lk_P_48 dP_writeInto_20 (by omega) (Nat.le_of_ble_eq_true rfl) (Nat.zero_le _) (Nat.zero_le _) rfl rfl rfl (q := 23) rfl ?_
      refine pm_icmp_ge (tgt := 35) dP_writeInto_23 rfl (q := 26) rfl (fun _ => ?_) (fun z => absurd (by rw [eD]; exact nI_le (Nat.le_refl _) (by omega)) z)
      refine pm_iconst (x := 0) dP_writeInto_35 (by decide) (q := 36) rfl ?_
      refine pm_topL (y := cC pE) cC_E.symm ?_
      refine pm_istore dP_writeInto_36 (by decide) (q := 38) rfl ?_
      refine pm_aload_n dP_writeInto_38 rfl (q := 39) rfl ?_
      refine pm_aload_n dP_writeInto_39 rfl (q := 40) rfl ?_
      refine pm_iload_n dP_writeInto_40 rfl (q := 41) rfl ?_
      refine pm_iload_n dP_writeInto_41 rfl (q := 42) rfl ?_
      refine pm_iload dP_writeInto_42 rfl (q := 44) rfl ?_
      refine pm_cV4v hK (w1) mo_P_writeTakenOff im_P_writeTakenOff se_P_writeTakenOff lk_P_52 dP_writeInto_44 (by omega) (Nat.le_of_ble_eq_true rfl) (Nat.zero_le _) (Nat.zero_le _) rfl rfl rfl (q := 47) rfl ?_
      refine pm_aload_n dP_writeInto_47 rfl (q := 48) rfl ?_
      refine pm_aload_n dP_writeInto_48 rfl (q := 49) rfl ?_
      refine pm_iload_n dP_writeInto_49 rfl (q := 50) rfl ?_
      refine pm_iload_n dP_writeInto_50 rfl (q := 51) rfl ?_
      refine pm_iload dP_writeInto_51 rfl (q := 53) rfl ?_
      refine pm_cV4v hK (w2) mo_P_writePutOn im_P_writePutOn se_P_writePutOn lk_P_56 dP_writeInto_53 (by omega) (Nat.le_of_ble_eq_true rfl) (Nat.zero_le _) (Nat.zero_le _) rfl rfl rfl (q := 56) rfl ?_
      refine pm_iload dP_writeInto_56 rfl (q := 58) rfl ?_
      refine pm_istore_n dP_writeInto_58 (by decide) (q := 59) rfl ?_
      refine pm_iincL dP_writeInto_59 rfl (by decide) (y := nI (q + 1)) (by rw [nI_succ]; rfl) (q := 62) rfl ?_
      refine pm_goto (tgt := 4) dP_writeInto_62 rfl ?_
      skip
      refine pm_iload_n dP_writeInto_4 rfl (q := 5) rfl ?_
      refine pm_aload_n dP_writeInto_5 rfl (q := 6) rfl ?_
      refine pm_get fl_P_27 dP_writeInto_6 rfl rfl (q := 9) rfl ?_
      refine pm_get fl_P_42 dP_writeInto_9 rfl rfl (q := 12) rfl ?_
      refine pm_icmp_ge (tgt := 65) dP_writeInto_12 rfl (q := 15) rfl (fun _ => ?_) (fun z => absurd (by rw [hP]; exact nI_le (Nat.le_refl _) (by omega)) z)
      exact pm_retV hret dP_writeInto_65 rfl
    | cons N Ms ih =>
      intro q L R o hq hL iL hMs hc hR
      rw [List.length_cons] at hq
      obtain ⟨hN, iN⟩ := hMs N (List.mem_cons_self ..)
      have hq3 : q < 3 := by omega
      have eN : pa 4 q = cC N := hc 0 (Nat.zero_lt_succ _)
      have e1 : mvAll q L (N :: Ms) = (offs L N q S ++ ons L N q S) ++ mvAll (q + 1) N Ms := by rw [offs3 iL hS3, ons3 iN hS3]; rfl
      rw [e1] at hR
      have hlen : R.length + (offs L N q S).length + (ons L N q S).length ≤ 30 := by rw [← hR, List.length_append, List.length_append, List.length_append] at hn; omega
      have w1 := kP_writeTakenOff (pd := pd) (si := si) (sa := sa) (hv := hv) (ha := ha) (sc := scW sc 0 R) (pl := pl) (pa := pa) (tl := tl) hl 3 (Nat.le_refl _) R.length q hS hS3 hT3 hL hN (by omega)
      rw [scW_app0, ← List.length_append] at w1
      have w2 := kP_writePutOn (pd := pd) (si := si) (sa := sa) (hv := hv) (ha := ha) (sc := scW sc 0 (R ++ offs L N q S)) (pl := pl) (pa := pa) (tl := tl) hl 3 (Nat.le_refl _) (R ++ offs L N q S).length q hS hS3 hT3 hL hN (by rw [List.length_append]; omega)
      rw [scW_app0, ← List.length_append, List.append_assoc] at w2
      have nx := ih (q + 1) N (R ++ (offs L N q S ++ ons L N q S)) (some (.int (cC N))) (by omega) hN iN (fun K hK => hMs K (List.mem_cons_of_mem _ hK)) (fun i h => by have := hc (i + 1) (Nat.succ_lt_succ h); rw [show q + 1 + i = q + (i + 1) by omega, this]; rfl) (by rw [List.append_assoc]; exact hR)
      refine pm_iload_n dP_writeInto_4 rfl (q := 5) rfl ?_
      refine pm_aload_n dP_writeInto_5 rfl (q := 6) rfl ?_
      refine pm_get fl_P_27 dP_writeInto_6 rfl rfl (q := 9) rfl ?_
      refine pm_get fl_P_42 dP_writeInto_9 rfl rfl (q := 12) rfl ?_
      refine pm_icmp_ge (tgt := 65) dP_writeInto_12 rfl (q := 15) rfl (fun z => absurd z (by rw [hP]; exact nI_ge (by omega) (by omega))) (fun _ => ?_)
      refine pm_iload_n dP_writeInto_15 rfl (q := 16) rfl ?_
      refine pm_aload_n dP_writeInto_16 rfl (q := 17) rfl ?_
      refine pm_get fl_P_27 dP_writeInto_17 rfl rfl (q := 20) rfl ?_
      refine pm_cV0i hK (kS_departures hl 0) mo_S_departures im_S_departures se_S_departures lk_P_48 dP_writeInto_20 (by omega) (Nat.le_of_ble_eq_true rfl) (Nat.zero_le _) (Nat.zero_le _) rfl rfl rfl (q := 23) rfl ?_
      refine pm_icmp_ge (tgt := 35) dP_writeInto_23 rfl (q := 26) rfl (fun z => absurd z (by rw [eD]; exact nI_ge (by omega) (by omega))) (fun _ => ?_)
      refine pm_aload_n dP_writeInto_26 rfl (q := 27) rfl ?_
      refine pm_get fl_P_24 dP_writeInto_27 rfl rfl (q := 30) rfl ?_
      refine pm_iload_n dP_writeInto_30 rfl (q := 31) rfl ?_
      refine pm_ialdN dP_writeInto_31 rfl hq3 (Nat.le_of_ble_eq_true rfl) (q := 32) rfl ?_
      refine pm_topL (y := cC N) eN ?_
      refine pm_goto (tgt := 36) dP_writeInto_32 rfl ?_
      refine pm_istore dP_writeInto_36 (by decide) (q := 38) rfl ?_
      refine pm_aload_n dP_writeInto_38 rfl (q := 39) rfl ?_
      refine pm_aload_n dP_writeInto_39 rfl (q := 40) rfl ?_
      refine pm_iload_n dP_writeInto_40 rfl (q := 41) rfl ?_
      refine pm_iload_n dP_writeInto_41 rfl (q := 42) rfl ?_
      refine pm_iload dP_writeInto_42 rfl (q := 44) rfl ?_
      refine pm_cV4v hK (w1) mo_P_writeTakenOff im_P_writeTakenOff se_P_writeTakenOff lk_P_52 dP_writeInto_44 (by omega) (Nat.le_of_ble_eq_true rfl) (Nat.zero_le _) (Nat.zero_le _) rfl rfl rfl (q := 47) rfl ?_
      refine pm_aload_n dP_writeInto_47 rfl (q := 48) rfl ?_
      refine pm_aload_n dP_writeInto_48 rfl (q := 49) rfl ?_
      refine pm_iload_n dP_writeInto_49 rfl (q := 50) rfl ?_
      refine pm_iload_n dP_writeInto_50 rfl (q := 51) rfl ?_
      refine pm_iload dP_writeInto_51 rfl (q := 53) rfl ?_
      refine pm_cV4v hK (w2) mo_P_writePutOn im_P_writePutOn se_P_writePutOn lk_P_56 dP_writeInto_53 (by omega) (Nat.le_of_ble_eq_true rfl) (Nat.zero_le _) (Nat.zero_le _) rfl rfl rfl (q := 56) rfl ?_
      refine pm_iload dP_writeInto_56 rfl (q := 58) rfl ?_
      refine pm_istore_n dP_writeInto_58 (by decide) (q := 59) rfl ?_
      refine pm_iincL dP_writeInto_59 rfl (by decide) (y := nI (q + 1)) (by rw [nI_succ]; rfl) (q := 62) rfl ?_
      refine pm_goto (tgt := 4) dP_writeInto_62 rfl ?_
      exact nx
  have h0 := hO Q 0 pE [] none (by omega) (pE_ok T) (pE_in S) hQo (fun i h => by rw [Nat.zero_add]; exact hch i h) rfl
  rw [cC_E] at h0
  refine pm_iconst (x := 0) dP_writeInto_0 (by decide) (q := 1) rfl ?_
  refine pm_istore_n dP_writeInto_1 (by decide) (q := 2) rfl ?_
  refine pm_iconst (x := 0) dP_writeInto_2 (by decide) (q := 3) rfl ?_
  refine pm_istore_n dP_writeInto_3 (by decide) (q := 4) rfl ?_
  exact h0
