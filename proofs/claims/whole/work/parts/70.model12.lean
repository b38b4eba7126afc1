/-! the model: change -/
def maW (ma : Nat → Nat → Int32) (n : Nat) (R : List pQ) : Nat → Nat → Int32 := fun j => if j = 10 then lsW (ma 10) n (R.map (cl 0)) else if j = 11 then lsW (ma 11) n (R.map (cl 1)) else if j = 12 then lsW (ma 12) n (R.map (cl 2)) else if j = 13 then lsW (ma 13) n (R.map (cl 3)) else ma j
theorem maW_nil (ma : Nat → Nat → Int32) (n : Nat) : maW ma n [] = ma := by
  funext j
  unfold maW
  by_cases h0 : j = 10
  · rw [if_pos h0, h0]; rfl
  · rw [if_neg h0]
    by_cases h1 : j = 11
    · rw [if_pos h1, h1]; rfl
    · rw [if_neg h1]
      by_cases h2 : j = 12
      · rw [if_pos h2, h2]; rfl
      · rw [if_neg h2]
        by_cases h3 : j = 13
        · rw [if_pos h3, h3]; rfl
        · rw [if_neg h3]
theorem maW_app (ma : Nat → Nat → Int32) (n : Nat) (R R' : List pQ) : maW (maW ma n R) (n + R.length) R' = maW ma n (R ++ R') := by
  have e : ∀ (f : Nat → Int32) (c : pQ → Int32), lsW (lsW f n (R.map c)) (n + R.length) (R'.map c) = lsW f n ((R ++ R').map c) := by
    intro f c
    rw [List.map_append, lsW_app, List.length_map]
  funext j
  show (if j = 10 then lsW (lsW (ma 10) n (R.map (cl 0))) (n + R.length) (R'.map (cl 0)) else if j = 11 then lsW (lsW (ma 11) n (R.map (cl 1))) (n + R.length) (R'.map (cl 1)) else if j = 12 then lsW (lsW (ma 12) n (R.map (cl 2))) (n + R.length) (R'.map (cl 2)) else if j = 13 then lsW (lsW (ma 13) n (R.map (cl 3))) (n + R.length) (R'.map (cl 3)) else maW ma n R j) = maW ma n (R ++ R') j
  rw [e, e, e, e]
  unfold maW
  by_cases h0 : j = 10
  · rw [if_pos h0, if_pos h0]
  · rw [if_neg h0, if_neg h0, if_neg h0]
    by_cases h1 : j = 11
    · rw [if_pos h1, if_pos h1]
    · rw [if_neg h1, if_neg h1, if_neg h1]
      by_cases h2 : j = 12
      · rw [if_pos h2, if_pos h2]
      · rw [if_neg h2, if_neg h2, if_neg h2]
        by_cases h3 : j = 13
        · rw [if_pos h3, if_pos h3]
        · rw [if_neg h3, if_neg h3, if_neg h3]
theorem kM_addR {l : Launch} (hl : l.stackTraces = false) (d : Nat) {pd : Int32} {si : Nat → Int32} {sa : Nat → Nat → Int32} {hv : Nat → Int32} {ha : Nat → Nat → Nat → Int32} {sl : Int32} {sc : Nat → Nat → Int32} {pl : Int32} {pa : Nat → Nat → Int32} {mi : Nat → Int32} {ma : Nat → Nat → Int32} {tl : pm_H} {n : Nat} (r : pQ) (R : List pQ) (hn : n + R.length < 60) : pm_Sem l d mM_add [.ref 31, .int (cl 0 r), .int (cl 1 r), .int (cl 2 r), .int (cl 3 r)] (cH pd si sa hv ha sl sc pl pa (mH (up1 mi 19 (nI (n + R.length))) (maW ma n R) tl)) none (cH pd si sa hv ha sl sc pl pa (mH (up1 mi 19 (nI (n + (R ++ [r]).length))) (maW ma n (R ++ [r])) tl)) := by
  have w := kM_add (pd := pd) (si := si) (sa := sa) (hv := hv) (ha := ha) (sl := sl) (sc := sc) (pl := pl) (pa := pa) (mi := up1 mi 19 (nI (n + R.length))) (ma := maW ma n R) (tl := tl) hl d (cl 0 r) (cl 1 r) (cl 2 r) (cl 3 r) (vp_in_nI hn (by decide))
  have e1 : up1 mi 19 (nI (n + R.length)) 19 = nI (n + R.length) := rfl
  rw [e1, nI_clamp (by omega), up1_up1, ← nI_succ, Nat.add_assoc] at w
  have e : maW ma n (R ++ [r]) = fun j => if j = 10 then upd (maW ma n R 10) (n + R.length) (cl 0 r) else if j = 11 then upd (maW ma n R 11) (n + R.length) (cl 1 r) else if j = 12 then upd (maW ma n R 12) (n + R.length) (cl 2 r) else if j = 13 then upd (maW ma n R 13) (n + R.length) (cl 3 r) else maW ma n R j := by
    rw [← maW_app]
    funext j
    rfl
  rw [e, List.length_append, List.length_singleton]
  exact w
theorem pv_tab : ∀ s t : Fin 3, 3 * nI s.val + nI t.val = nI (3 * s.val + t.val) := by decide
set_option maxHeartbeats 16000000 in
theorem kM_change {l : Launch} (hl : l.stackTraces = false) (d : Nat) (hd : 2 ≤ d) {pd : Int32} {si : Nat → Int32} {sa : Nat → Nat → Int32} {hv : Nat → Int32} {ha : Nat → Nat → Nat → Int32} {sl : Int32} {sc : Nat → Nat → Int32} {pl : Int32} {pa : Nat → Nat → Int32} {mi : Nat → Int32} {ma : Nat → Nat → Int32} {tl : pm_H} (n q : Nat) {T : Nat} (hT3 : T ≤ 3) {L N : pL} (hL : pOk L T) (hN : pOk N T) (hn : n + (mvs L N q).length ≤ 60) (hmi : mi 19 = nI n) : pm_Sem l d mM_change [.ref 31, .int (cM L), .int (cM N), .int (nI q)] (cH pd si sa hv ha sl sc pl pa (mH mi ma tl)) none (cH pd si sa hv ha sl sc pl pa (mH (up1 mi 19 (nI (n + (mvs L N q).length))) (maW ma n (mvs L N q)) tl)) := by
  refine pm_sem hl mo_M_change rfl rfl rfl (Nat.le_of_ble_eq_true rfl) (fun K G hK hret => ?_)
  have hlen : n + (offs L N q 3).length + (ons L N q 3).length ≤ 60 := by unfold mvs at hn; rw [List.length_append] at hn; omega
  have sts : ∀ s, s < 3 → fM_st (cM L) (cM N) s 3 0 = kp1 (L s) (N s) := fun s hs => st_val hL hN hT3 hs
  have mono_offs : ∀ m s, m + s = 3 → (offs L N q s).length ≤ (offs L N q 3).length := by
    intro m
    induction m with
    | zero => intro s h; rw [show s = 3 by omega]; exact Nat.le_refl _
    | succ m ih =>
      intro s h
      refine Nat.le_trans ?_ (ih (s + 1) (by omega))
      rw [offs, List.length_append]
      omega
  have mono_ons : ∀ m s, m + s = 3 → (ons L N q s).length ≤ (ons L N q 3).length := by
    intro m
    induction m with
    | zero => intro s h; rw [show s = 3 by omega]; exact Nat.le_refl _
    | succ m ih =>
      intro s h
      refine Nat.le_trans ?_ (ih (s + 1) (by omega))
      rw [ons, List.length_append]
      omega
  have hP : ∀ (m s : Nat) (o : Option Value), m + s = 3 → pm_Go mM_change K G 72 [some (.ref 31), some (.int (cM L)), some (.int (cM N)), some (.int (nI q)), some (.int (nI s)), o] [] (cH pd si sa hv ha sl sc pl pa (mH (up1 mi 19 (nI (n + (offs L N q 3 ++ ons L N q s).length))) (maW ma n (offs L N q 3 ++ ons L N q s)) tl)) 0 0 := by
    intro m
    induction m with
    | zero =>
      intro s o hs
      have hs : s = 3 := by omega
      subst hs
      refine pm_iload dM_change_72 rfl (q := 74) rfl ?_
      refine pm_iconst (x := 3) dM_change_74 (by decide) (q := 75) rfl ?_
      refine pm_icmp_ge (tgt := 138) dM_change_75 rfl (q := 78) rfl (fun _ => ?_) (fun z => absurd (by decide) z)
      exact pm_retV hret dM_change_138 rfl
    | succ m ih =>
      intro s o hs
      have hs3 : s < 3 := by omega
      have hkl := kp1_le (L s) (N s)
      have hNl := hN.len s
      have hle : n + (offs L N q 3 ++ ons L N q (s + 1)).length ≤ 60 := by
        have := mono_ons m (s + 1) (by omega)
        rw [List.length_append]
        omega
      have e1 : (mvOn L N q s).length = (N s).length - kp1 (L s) (N s) := by
        unfold mvOn
        rw [List.length_map, List.length_drop]
      have hI : ∀ (m2 j : Nat), m2 + j = 3 → kp1 (L s) (N s) ≤ j → pm_Go mM_change K G 87 [some (.ref 31), some (.int (cM L)), some (.int (cM N)), some (.int (nI q)), some (.int (nI s)), some (.int (nI j))] [] (cH pd si sa hv ha sl sc pl pa (mH (up1 mi 19 (nI (n + (offs L N q 3 ++ (ons L N q s ++ (((N s).take j).drop (kp1 (L s) (N s))).map (fun b => (b, q, none, s)))).length))) (maW ma n (offs L N q 3 ++ (ons L N q s ++ (((N s).take j).drop (kp1 (L s) (N s))).map (fun b => (b, q, none, s))))) tl)) 0 0 := by
        intro m2
        induction m2 with
        | zero =>
          intro j hj hjl
          have hj : j = 3 := by omega
          subst hj
          rw [List.take_of_length_le (by omega)]
          have nx := ih (s + 1) (some (.int (nI 3))) (by omega)
          refine pm_iload dM_change_87 rfl (q := 89) rfl ?_
          refine pm_iconst (x := 3) dM_change_89 (by decide) (q := 90) rfl ?_
          refine pm_icmp_ge (tgt := 132) dM_change_90 rfl (q := 93) rfl (fun _ => ?_) (fun z => absurd (by decide) z)
          refine pm_iincL dM_change_132 rfl (by decide) (y := nI (s + 1)) (by rw [nI_succ]; rfl) (q := 135) rfl ?_
          refine pm_goto (tgt := 72) dM_change_135 rfl ?_
          exact nx
        | succ m2 ih2 =>
          intro j hj hjl
          have hj3 : j < 3 := by omega
          have eb := boxAt_val hN (show 3 * s + j < 9 by omega)
          have ei : 3 * nI s + nI j = nI (3 * s + j) := pv_tab ⟨s, hs3⟩ ⟨j, hj3⟩
          have nx := ih2 (j + 1) (by omega) (by omega)
          by_cases hil : j < (N s).length
          · have es := sM_in (L := N) (s := s) hj3 (List.getElem?_eq_getElem hil)
            rw [es] at eb
            have hb5 := hN.box s _ (List.getElem_mem hil)
            have ed : (offs L N q 3 ++ (ons L N q s ++ (((N s).take (j + 1)).drop (kp1 (L s) (N s))).map (fun b => (b, q, none, s)))) = (offs L N q 3 ++ (ons L N q s ++ (((N s).take j).drop (kp1 (L s) (N s))).map (fun b => (b, q, none, s)))) ++ [((N s)[j], q, none, s)] := by
              have t1 : ((N s).take j).length = j := by rw [List.length_take]; omega
              rw [List.take_add_one, List.getElem?_eq_getElem hil, Option.toList_some, List.drop_append_of_le_length (by omega), List.map_append, List.append_assoc, List.append_assoc]
              rfl
            have hcap : n + (offs L N q 3 ++ (ons L N q s ++ (((N s).take j).drop (kp1 (L s) (N s))).map (fun b => (b, q, none, s)))).length < 60 := by
              rw [ons, List.length_append, List.length_append, e1] at hle
              rw [List.length_append, List.length_append, List.length_map, List.length_drop, List.length_take]
              omega
            have w := kM_addR (pd := pd) (si := si) (sa := sa) (hv := hv) (ha := ha) (sl := sl) (sc := sc) (pl := pl) (pa := pa) (mi := mi) (ma := ma) (tl := tl) hl 0 ((N s)[j], q, none, s) (offs L N q 3 ++ (ons L N q s ++ (((N s).take j).drop (kp1 (L s) (N s))).map (fun b => (b, q, none, s)))) hcap
            rw [← ed] at w
            refine pm_iload dM_change_87 rfl (q := 89) rfl ?_
            refine pm_iconst (x := 3) dM_change_89 (by decide) (q := 90) rfl ?_
            refine pm_icmp_ge (tgt := 132) dM_change_90 rfl (q := 93) rfl (fun z => absurd z (show ¬ nI 3 ≤ nI j from nI_ge hj3 (by decide))) (fun _ => ?_)
            refine pm_iload_n dM_change_93 rfl (q := 94) rfl ?_
            refine pm_iconst (x := 3) dM_change_94 (by decide) (q := 95) rfl ?_
            refine pm_iload dM_change_95 rfl (q := 97) rfl ?_
            refine pm_imul dM_change_97 (q := 98) rfl ?_
            refine pm_iload dM_change_98 rfl (q := 100) rfl ?_
            refine pm_iadd dM_change_100 (q := 101) rfl ?_
            refine pm_topL ei ?_
            refine pm_cS2i hK (kM_boxAt hl 0 _ _ _) mo_M_boxAt st_M_boxAt lk_M_147 dM_change_101 (by omega) (Nat.le_of_ble_eq_true rfl) (Nat.zero_le _) (Nat.zero_le _) (q := 104) rfl ?_
            refine pm_topL eb ?_
            refine pm_if_lt (tgt := 126) dM_change_104 rfl (q := 107) rfl (fun z => absurd z (nI_pos (by omega))) (fun _ => ?_)
            refine pm_aload_n dM_change_107 rfl (q := 108) rfl ?_
            refine pm_iload_n dM_change_108 rfl (q := 109) rfl ?_
            refine pm_iconst (x := 3) dM_change_109 (by decide) (q := 110) rfl ?_
            refine pm_iload dM_change_110 rfl (q := 112) rfl ?_
            refine pm_imul dM_change_112 (q := 113) rfl ?_
            refine pm_iload dM_change_113 rfl (q := 115) rfl ?_
            refine pm_iadd dM_change_115 (q := 116) rfl ?_
            refine pm_topL ei ?_
            refine pm_cS2i hK (kM_boxAt hl 0 _ _ _) mo_M_boxAt st_M_boxAt lk_M_147 dM_change_116 (by omega) (Nat.le_of_ble_eq_true rfl) (Nat.zero_le _) (Nat.zero_le _) (q := 119) rfl ?_
            refine pm_topL eb ?_
            refine pm_iload_n dM_change_119 rfl (q := 120) rfl ?_
            refine pm_iconst (x := -1) dM_change_120 (by decide) (q := 121) rfl ?_
            refine pm_iload dM_change_121 rfl (q := 123) rfl ?_
            refine pm_cV4v hK (w) mo_M_add im_M_add se_M_add lk_M_161 dM_change_123 (by omega) (Nat.le_of_ble_eq_true rfl) (Nat.zero_le _) (Nat.zero_le _) rfl rfl rfl (q := 126) rfl ?_
            refine pm_iincL dM_change_126 rfl (by decide) (y := nI (j + 1)) (by rw [nI_succ]; rfl) (q := 129) rfl ?_
            refine pm_goto (tgt := 87) dM_change_129 rfl ?_
            exact nx
          · have es := sM_no (L := N) (s := s) hj3 (by omega)
            rw [es] at eb
            rw [List.take_of_length_le (by omega)] at nx ⊢
            refine pm_iload dM_change_87 rfl (q := 89) rfl ?_
            refine pm_iconst (x := 3) dM_change_89 (by decide) (q := 90) rfl ?_
            refine pm_icmp_ge (tgt := 132) dM_change_90 rfl (q := 93) rfl (fun z => absurd z (show ¬ nI 3 ≤ nI j from nI_ge hj3 (by decide))) (fun _ => ?_)
            refine pm_iload_n dM_change_93 rfl (q := 94) rfl ?_
            refine pm_iconst (x := 3) dM_change_94 (by decide) (q := 95) rfl ?_
            refine pm_iload dM_change_95 rfl (q := 97) rfl ?_
            refine pm_imul dM_change_97 (q := 98) rfl ?_
            refine pm_iload dM_change_98 rfl (q := 100) rfl ?_
            refine pm_iadd dM_change_100 (q := 101) rfl ?_
            refine pm_topL ei ?_
            refine pm_cS2i hK (kM_boxAt hl 0 _ _ _) mo_M_boxAt st_M_boxAt lk_M_147 dM_change_101 (by omega) (Nat.le_of_ble_eq_true rfl) (Nat.zero_le _) (Nat.zero_le _) (q := 104) rfl ?_
            refine pm_topL eb ?_
            refine pm_if_lt (tgt := 126) dM_change_104 rfl (q := 107) rfl (fun _ => ?_) (fun z => absurd (by decide) z)
            refine pm_iincL dM_change_126 rfl (by decide) (y := nI (j + 1)) (by rw [nI_succ]; rfl) (q := 129) rfl ?_
            refine pm_goto (tgt := 87) dM_change_129 rfl ?_
            exact nx
      have hI0 := hI (3 - kp1 (L s) (N s)) (kp1 (L s) (N s)) (by omega) (Nat.le_refl _)
      rw [List.drop_of_length_le (by rw [List.length_take]; omega), List.map_nil, List.append_nil] at hI0
      have es := sts s hs3
      refine pm_iload dM_change_72 rfl (q := 74) rfl ?_
      refine pm_iconst (x := 3) dM_change_74 (by decide) (q := 75) rfl ?_
      refine pm_icmp_ge (tgt := 138) dM_change_75 rfl (q := 78) rfl (fun z => absurd z (show ¬ nI 3 ≤ nI s from nI_ge hs3 (by decide))) (fun _ => ?_)
      refine pm_iload_n dM_change_78 rfl (q := 79) rfl ?_
      refine pm_iload_n dM_change_79 rfl (q := 80) rfl ?_
      refine pm_iload dM_change_80 rfl (q := 82) rfl ?_
      refine pm_cS3i hK (kM_stays hl 1 (Nat.le_refl _) _ _ s _) mo_M_stays st_M_stays lk_M_151 dM_change_82 (by omega) (Nat.le_of_ble_eq_true rfl) (Nat.zero_le _) (Nat.zero_le _) (q := 85) rfl ?_
      refine pm_topL (y := nI (kp1 (L s) (N s))) (by rw [es]) ?_
      refine pm_istore dM_change_85 (by decide) (q := 87) rfl ?_
      exact hI0
  have hO : ∀ (m s : Nat) (o : Option Value), m + s = 3 → pm_Go mM_change K G 3 [some (.ref 31), some (.int (cM L)), some (.int (cM N)), some (.int (nI q)), some (.int (nI s)), o] [] (cH pd si sa hv ha sl sc pl pa (mH (up1 mi 19 (nI (n + (offs L N q s).length))) (maW ma n (offs L N q s)) tl)) 0 0 := by
    intro m
    induction m with
    | zero =>
      intro s o hs
      have hs : s = 3 := by omega
      subst hs
      have nx := hP 3 0 o (by omega)
      rw [show ons L N q 0 = [] from rfl, List.append_nil] at nx
      refine pm_iload dM_change_3 rfl (q := 5) rfl ?_
      refine pm_iconst (x := 3) dM_change_5 (by decide) (q := 6) rfl ?_
      refine pm_icmp_ge (tgt := 69) dM_change_6 rfl (q := 9) rfl (fun _ => ?_) (fun z => absurd (by decide) z)
      refine pm_iconst (x := 0) dM_change_69 (by decide) (q := 70) rfl ?_
      refine pm_istore dM_change_70 (by decide) (q := 72) rfl ?_
      exact nx
    | succ m ih =>
      intro s o hs
      have hs3 : s < 3 := by omega
      have hlen2 := hL.len s
      have hkl := kp1_le (L s) (N s)
      have hle : n + (offs L N q (s + 1)).length ≤ 60 := by
        have := mono_offs m (s + 1) (by omega)
        omega
      have es := sts s hs3
      have e1 : (mvOff L N q s).length = (L s).length - kp1 (L s) (N s) := by
        unfold mvOff
        rw [List.length_map, List.length_reverse, List.length_drop]
      have hI : ∀ (m2 j : Nat), m2 + kp1 (L s) (N s) = j → j ≤ 3 → pm_Go mM_change K G 12 [some (.ref 31), some (.int (cM L)), some (.int (cM N)), some (.int (nI q)), some (.int (nI s)), some (.int (nI j - 1))] [] (cH pd si sa hv ha sl sc pl pa (mH (up1 mi 19 (nI (n + (offs L N q s ++ ((L s).drop j).reverse.map (fun b => (b, q, some s, 0))).length))) (maW ma n (offs L N q s ++ ((L s).drop j).reverse.map (fun b => (b, q, some s, 0)))) tl)) 0 0 := by
        intro m2
        induction m2 with
        | zero =>
          intro j hj hjl
          have hj : j = kp1 (L s) (N s) := by omega
          subst hj
          have c1 : nI (kp1 (L s) (N s)) - 1 < nI (kp1 (L s) (N s)) := by
            have := tI_lt ⟨kp1 (L s) (N s), by omega⟩ ⟨kp1 (L s) (N s), by omega⟩
            dsimp only at this
            rw [this]
            exact Nat.le_refl _
          have nx := ih (s + 1) (some (.int (nI (kp1 (L s) (N s)) - 1))) (by omega)
          refine pm_iload dM_change_12 rfl (q := 14) rfl ?_
          refine pm_iload_n dM_change_14 rfl (q := 15) rfl ?_
          refine pm_iload_n dM_change_15 rfl (q := 16) rfl ?_
          refine pm_iload dM_change_16 rfl (q := 18) rfl ?_
          refine pm_cS3i hK (kM_stays hl 1 (Nat.le_refl _) _ _ s _) mo_M_stays st_M_stays lk_M_151 dM_change_18 (by omega) (Nat.le_of_ble_eq_true rfl) (Nat.zero_le _) (Nat.zero_le _) (q := 21) rfl ?_
          refine pm_topL (y := nI (kp1 (L s) (N s))) (by rw [es]) ?_
          refine pm_icmp_lt (tgt := 63) dM_change_21 rfl (q := 24) rfl (fun _ => ?_) (fun z => absurd c1 z)
          refine pm_iincL dM_change_63 rfl (by decide) (y := nI (s + 1)) (by rw [nI_succ]; rfl) (q := 66) rfl ?_
          refine pm_goto (tgt := 3) dM_change_66 rfl ?_
          exact nx
        | succ m2 ih2 =>
          intro j hj hjl
          obtain ⟨i, rfl⟩ : ∃ i, j = i + 1 := ⟨j - 1, by omega⟩
          have hi3 : i < 3 := by omega
          have c1 : ¬ nI (i + 1) - 1 < nI (kp1 (L s) (N s)) := by
            have := tI_lt ⟨i + 1, by omega⟩ ⟨kp1 (L s) (N s), by omega⟩
            dsimp only at this
            rw [this]
            omega
          have eb := boxAt_val hL (show 3 * s + i < 9 by omega)
          have ei : 3 * nI s + nI i = nI (3 * s + i) := pv_tab ⟨s, hs3⟩ ⟨i, hi3⟩
          have ep := nI_pred i
          have nx := ih2 i (by omega) (by omega)
          rw [ep]
          by_cases hil : i < (L s).length
          · have es2 := sM_in (L := L) (s := s) hi3 (List.getElem?_eq_getElem hil)
            rw [es2] at eb
            have hb5 := hL.box s _ (List.getElem_mem hil)
            have ed : (offs L N q s ++ ((L s).drop i).reverse.map (fun b => (b, q, some s, 0))) = (offs L N q s ++ ((L s).drop (i + 1)).reverse.map (fun b => (b, q, some s, 0))) ++ [((L s)[i], q, some s, 0)] := by
              rw [List.drop_eq_getElem_cons hil, List.reverse_cons, List.map_append, List.append_assoc]
              rfl
            have hcap : n + (offs L N q s ++ ((L s).drop (i + 1)).reverse.map (fun b => (b, q, some s, 0))).length < 60 := by
              rw [offs, List.length_append, e1] at hle
              rw [List.length_append, List.length_map, List.length_reverse, List.length_drop]
              omega
            have w := kM_addR (pd := pd) (si := si) (sa := sa) (hv := hv) (ha := ha) (sl := sl) (sc := sc) (pl := pl) (pa := pa) (mi := mi) (ma := ma) (tl := tl) hl 0 ((L s)[i], q, some s, 0) (offs L N q s ++ ((L s).drop (i + 1)).reverse.map (fun b => (b, q, some s, 0))) hcap
            rw [← ed] at w
            refine pm_iload dM_change_12 rfl (q := 14) rfl ?_
            refine pm_iload_n dM_change_14 rfl (q := 15) rfl ?_
            refine pm_iload_n dM_change_15 rfl (q := 16) rfl ?_
            refine pm_iload dM_change_16 rfl (q := 18) rfl ?_
            refine pm_cS3i hK (kM_stays hl 1 (Nat.le_refl _) _ _ s _) mo_M_stays st_M_stays lk_M_151 dM_change_18 (by omega) (Nat.le_of_ble_eq_true rfl) (Nat.zero_le _) (Nat.zero_le _) (q := 21) rfl ?_
            refine pm_topL (y := nI (kp1 (L s) (N s))) (by rw [es]) ?_
            refine pm_icmp_lt (tgt := 63) dM_change_21 rfl (q := 24) rfl (fun z => absurd z (by rw [← ep]; exact c1)) (fun _ => ?_)
            refine pm_iload_n dM_change_24 rfl (q := 25) rfl ?_
            refine pm_iconst (x := 3) dM_change_25 (by decide) (q := 26) rfl ?_
            refine pm_iload dM_change_26 rfl (q := 28) rfl ?_
            refine pm_imul dM_change_28 (q := 29) rfl ?_
            refine pm_iload dM_change_29 rfl (q := 31) rfl ?_
            refine pm_iadd dM_change_31 (q := 32) rfl ?_
            refine pm_topL ei ?_
            refine pm_cS2i hK (kM_boxAt hl 0 _ _ _) mo_M_boxAt st_M_boxAt lk_M_147 dM_change_32 (by omega) (Nat.le_of_ble_eq_true rfl) (Nat.zero_le _) (Nat.zero_le _) (q := 35) rfl ?_
            refine pm_topL eb ?_
            refine pm_if_lt (tgt := 57) dM_change_35 rfl (q := 38) rfl (fun z => absurd z (nI_pos (by omega))) (fun _ => ?_)
            refine pm_aload_n dM_change_38 rfl (q := 39) rfl ?_
            refine pm_iload_n dM_change_39 rfl (q := 40) rfl ?_
            refine pm_iconst (x := 3) dM_change_40 (by decide) (q := 41) rfl ?_
            refine pm_iload dM_change_41 rfl (q := 43) rfl ?_
            refine pm_imul dM_change_43 (q := 44) rfl ?_
            refine pm_iload dM_change_44 rfl (q := 46) rfl ?_
            refine pm_iadd dM_change_46 (q := 47) rfl ?_
            refine pm_topL ei ?_
            refine pm_cS2i hK (kM_boxAt hl 0 _ _ _) mo_M_boxAt st_M_boxAt lk_M_147 dM_change_47 (by omega) (Nat.le_of_ble_eq_true rfl) (Nat.zero_le _) (Nat.zero_le _) (q := 50) rfl ?_
            refine pm_topL eb ?_
            refine pm_iload_n dM_change_50 rfl (q := 51) rfl ?_
            refine pm_iload dM_change_51 rfl (q := 53) rfl ?_
            refine pm_iconst (x := -1) dM_change_53 (by decide) (q := 54) rfl ?_
            refine pm_cV4v hK (w) mo_M_add im_M_add se_M_add lk_M_161 dM_change_54 (by omega) (Nat.le_of_ble_eq_true rfl) (Nat.zero_le _) (Nat.zero_le _) rfl rfl rfl (q := 57) rfl ?_
            refine pm_iincL dM_change_57 rfl (by decide) (y := nI i - 1) (iI_dec _) (q := 60) rfl ?_
            refine pm_goto (tgt := 12) dM_change_60 rfl ?_
            exact nx
          · have es2 := sM_no (L := L) (s := s) hi3 (by omega)
            rw [es2] at eb
            rw [List.drop_of_length_le (by omega)] at nx
            rw [List.drop_of_length_le (by omega)]
            refine pm_iload dM_change_12 rfl (q := 14) rfl ?_
            refine pm_iload_n dM_change_14 rfl (q := 15) rfl ?_
            refine pm_iload_n dM_change_15 rfl (q := 16) rfl ?_
            refine pm_iload dM_change_16 rfl (q := 18) rfl ?_
            refine pm_cS3i hK (kM_stays hl 1 (Nat.le_refl _) _ _ s _) mo_M_stays st_M_stays lk_M_151 dM_change_18 (by omega) (Nat.le_of_ble_eq_true rfl) (Nat.zero_le _) (Nat.zero_le _) (q := 21) rfl ?_
            refine pm_topL (y := nI (kp1 (L s) (N s))) (by rw [es]) ?_
            refine pm_icmp_lt (tgt := 63) dM_change_21 rfl (q := 24) rfl (fun z => absurd z (by rw [← ep]; exact c1)) (fun _ => ?_)
            refine pm_iload_n dM_change_24 rfl (q := 25) rfl ?_
            refine pm_iconst (x := 3) dM_change_25 (by decide) (q := 26) rfl ?_
            refine pm_iload dM_change_26 rfl (q := 28) rfl ?_
            refine pm_imul dM_change_28 (q := 29) rfl ?_
            refine pm_iload dM_change_29 rfl (q := 31) rfl ?_
            refine pm_iadd dM_change_31 (q := 32) rfl ?_
            refine pm_topL ei ?_
            refine pm_cS2i hK (kM_boxAt hl 0 _ _ _) mo_M_boxAt st_M_boxAt lk_M_147 dM_change_32 (by omega) (Nat.le_of_ble_eq_true rfl) (Nat.zero_le _) (Nat.zero_le _) (q := 35) rfl ?_
            refine pm_topL eb ?_
            refine pm_if_lt (tgt := 57) dM_change_35 rfl (q := 38) rfl (fun _ => ?_) (fun z => absurd (by decide) z)
            refine pm_iincL dM_change_57 rfl (by decide) (y := nI i - 1) (iI_dec _) (q := 60) rfl ?_
            refine pm_goto (tgt := 12) dM_change_60 rfl ?_
            exact nx
      have hI0 := hI (3 - kp1 (L s) (N s)) 3 (by omega) (Nat.le_refl _)
      rw [List.drop_of_length_le (by omega), List.reverse_nil, List.map_nil, List.append_nil] at hI0
      have e2 : nI 3 - 1 = 2 := by decide
      rw [e2] at hI0
      refine pm_iload dM_change_3 rfl (q := 5) rfl ?_
      refine pm_iconst (x := 3) dM_change_5 (by decide) (q := 6) rfl ?_
      refine pm_icmp_ge (tgt := 69) dM_change_6 rfl (q := 9) rfl (fun z => absurd z (show ¬ nI 3 ≤ nI s from nI_ge hs3 (by decide))) (fun _ => ?_)
      refine pm_iconst (x := 2) dM_change_9 (by decide) (q := 10) rfl ?_
      refine pm_istore dM_change_10 (by decide) (q := 12) rfl ?_
      exact hI0
  have h0 := hO 3 0 none (by omega)
  rw [show offs L N q 0 = [] from rfl, maW_nil, List.length_nil, Nat.add_zero, ← hmi, up1_same] at h0
  refine pm_iconst (x := 0) dM_change_0 (by decide) (q := 1) rfl ?_
  refine pm_istore dM_change_1 (by decide) (q := 3) rfl ?_
  exact h0
