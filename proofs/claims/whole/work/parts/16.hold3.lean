/-! the due boxes in any heap; a hold may depart; clear, stow, unstow -/
set_option maxHeartbeats 4000000 in
theorem kS_dueAtG {l : Launch} (hl : l.stackTraces = false) (d : Nat) {h : pm_H} {t : Nat} {si : Nat → Int32} {sa : Nat → Nat → Int32} {v : Int32} {f g u : Nat → Int32} (HA : HoldAt h t si sa v f g u) (x : Int32) {B : Nat} (hb : si 7 = nI B) (hB : B ≤ 5) : pm_Sem l d mS_dueAt [.ref 1, .int x] h (some (.int (fdue sa x B))) h := by
  refine pm_sem hl mo_S_dueAt ⟨_, rfl, rfl⟩ rfl rfl (Nat.le_of_ble_eq_true rfl) (fun K G hK hret => ?_)
  obtain ⟨hT, hF, hG, hU, hS, hPl, hFr, hTo, hWt, hKd, hRo⟩ := id HA
  have hL : ∀ (m j : Nat), m + j = B → pm_Go mS_dueAt K G 4 [some (.ref 1), some (.int x), some (.int (fdue sa x j)), some (.int (nI j))] [] h 0 0 := by
    intro m
    induction m with
    | zero =>
      intro j hj
      have hj : j = B := by omega
      subst hj
      refine pm_iload_n dS_dueAt_4 rfl (q := 5) rfl ?_
      refine pm_aload_n dS_dueAt_5 rfl (q := 6) rfl ?_
      refine pm_get fl_S_50 dS_dueAt_6 hS rfl (q := 9) rfl ?_
      refine pm_icmp_ge (tgt := 53) dS_dueAt_9 rfl (q := 12) rfl (fun _ => ?_) (fun z => absurd (by rw [hb]; exact nI_le (Nat.le_refl _) (by omega)) z)
      refine pm_iload_n dS_dueAt_53 rfl (q := 54) rfl ?_
      exact pm_retI hret dS_dueAt_54 rfl
    | succ m ih =>
      intro j hj
      have hjB : j < B := by omega
      refine pm_iload_n dS_dueAt_4 rfl (q := 5) rfl ?_
      refine pm_aload_n dS_dueAt_5 rfl (q := 6) rfl ?_
      refine pm_get fl_S_50 dS_dueAt_6 hS rfl (q := 9) rfl ?_
      refine pm_icmp_ge (tgt := 53) dS_dueAt_9 rfl (q := 12) rfl (fun z => absurd z (by rw [hb]; exact nI_ge hjB (by omega))) (fun _ => ?_)
      refine pm_aload_n dS_dueAt_12 rfl (q := 13) rfl ?_
      refine pm_get fl_S_28 dS_dueAt_13 hS rfl (q := 16) rfl ?_
      refine pm_iload_n dS_dueAt_16 rfl (q := 17) rfl ?_
      refine pm_zaldN dS_dueAt_17 hRo (by omega) (Nat.le_of_ble_eq_true rfl) (q := 18) rfl ?_
      refine pm_if_ne (tgt := 47) dS_dueAt_18 rfl (q := 21) rfl (fun h18 => ?_) (fun h18 => ?_)
      · refine pm_iincL dS_dueAt_47 rfl (by decide) (y := nI (j + 1)) (by rw [nI_succ]; rfl) (q := 50) rfl ?_
        refine pm_goto (tgt := 4) dS_dueAt_50 rfl ?_
        refine pm_loc (ls' := [some (.ref 1), some (.int x), some (.int (fdue sa x (j + 1))), some (.int (nI (j + 1)))]) ?_ (ih (j + 1) (by omega))
        first
        | (rw [show fdue sa x (j + 1) = fdue sa x j from if_neg (fun z => h18 z.1)]; rfl)
        | (rw [show fdue sa x (j + 1) = fdue sa x j from if_neg (fun z => Int32.not_lt.mpr z.2.1 h28)]; rfl)
        | (rw [show fdue sa x (j + 1) = fdue sa x j from if_neg (fun z => Int32.not_lt.mpr h38 z.2.2)]; rfl)
        | (rw [show fdue sa x (j + 1) = fdue sa x j ||| ((1 : Int32) <<< (nI j &&& 31)) from if_pos ⟨h18, Int32.not_lt.mp h28, Int32.not_le.mp h38⟩]; rfl)
      · refine pm_aload_n dS_dueAt_21 rfl (q := 22) rfl ?_
        refine pm_get fl_S_15 dS_dueAt_22 hS rfl (q := 25) rfl ?_
        refine pm_iload_n dS_dueAt_25 rfl (q := 26) rfl ?_
        refine pm_ialdN dS_dueAt_26 hFr (by omega) (Nat.le_of_ble_eq_true rfl) (q := 27) rfl ?_
        refine pm_iload_n dS_dueAt_27 rfl (q := 28) rfl ?_
        refine pm_icmp_gt (tgt := 47) dS_dueAt_28 rfl (q := 31) rfl (fun h28 => ?_) (fun h28 => ?_)
        · refine pm_iincL dS_dueAt_47 rfl (by decide) (y := nI (j + 1)) (by rw [nI_succ]; rfl) (q := 50) rfl ?_
          refine pm_goto (tgt := 4) dS_dueAt_50 rfl ?_
          refine pm_loc (ls' := [some (.ref 1), some (.int x), some (.int (fdue sa x (j + 1))), some (.int (nI (j + 1)))]) ?_ (ih (j + 1) (by omega))
          first
          | (rw [show fdue sa x (j + 1) = fdue sa x j from if_neg (fun z => h18 z.1)]; rfl)
          | (rw [show fdue sa x (j + 1) = fdue sa x j from if_neg (fun z => Int32.not_lt.mpr z.2.1 h28)]; rfl)
          | (rw [show fdue sa x (j + 1) = fdue sa x j from if_neg (fun z => Int32.not_lt.mpr h38 z.2.2)]; rfl)
          | (rw [show fdue sa x (j + 1) = fdue sa x j ||| ((1 : Int32) <<< (nI j &&& 31)) from if_pos ⟨h18, Int32.not_lt.mp h28, Int32.not_le.mp h38⟩]; rfl)
        · refine pm_iload_n dS_dueAt_31 rfl (q := 32) rfl ?_
          refine pm_aload_n dS_dueAt_32 rfl (q := 33) rfl ?_
          refine pm_get fl_S_19 dS_dueAt_33 hS rfl (q := 36) rfl ?_
          refine pm_iload_n dS_dueAt_36 rfl (q := 37) rfl ?_
          refine pm_ialdN dS_dueAt_37 hTo (by omega) (Nat.le_of_ble_eq_true rfl) (q := 38) rfl ?_
          refine pm_icmp_ge (tgt := 47) dS_dueAt_38 rfl (q := 41) rfl (fun h38 => ?_) (fun h38 => ?_)
          · refine pm_iincL dS_dueAt_47 rfl (by decide) (y := nI (j + 1)) (by rw [nI_succ]; rfl) (q := 50) rfl ?_
            refine pm_goto (tgt := 4) dS_dueAt_50 rfl ?_
            refine pm_loc (ls' := [some (.ref 1), some (.int x), some (.int (fdue sa x (j + 1))), some (.int (nI (j + 1)))]) ?_ (ih (j + 1) (by omega))
            first
            | (rw [show fdue sa x (j + 1) = fdue sa x j from if_neg (fun z => h18 z.1)]; rfl)
            | (rw [show fdue sa x (j + 1) = fdue sa x j from if_neg (fun z => Int32.not_lt.mpr z.2.1 h28)]; rfl)
            | (rw [show fdue sa x (j + 1) = fdue sa x j from if_neg (fun z => Int32.not_lt.mpr h38 z.2.2)]; rfl)
            | (rw [show fdue sa x (j + 1) = fdue sa x j ||| ((1 : Int32) <<< (nI j &&& 31)) from if_pos ⟨h18, Int32.not_lt.mp h28, Int32.not_le.mp h38⟩]; rfl)
          · refine pm_iload_n dS_dueAt_41 rfl (q := 42) rfl ?_
            refine pm_iconst (x := 1) dS_dueAt_42 (by decide) (q := 43) rfl ?_
            refine pm_iload_n dS_dueAt_43 rfl (q := 44) rfl ?_
            refine pm_ishl dS_dueAt_44 (q := 45) rfl ?_
            refine pm_ior dS_dueAt_45 (q := 46) rfl ?_
            refine pm_istore_n dS_dueAt_46 (by decide) (q := 47) rfl ?_
            refine pm_iincL dS_dueAt_47 rfl (by decide) (y := nI (j + 1)) (by rw [nI_succ]; rfl) (q := 50) rfl ?_
            refine pm_goto (tgt := 4) dS_dueAt_50 rfl ?_
            refine pm_loc (ls' := [some (.ref 1), some (.int x), some (.int (fdue sa x (j + 1))), some (.int (nI (j + 1)))]) ?_ (ih (j + 1) (by omega))
            first
            | (rw [show fdue sa x (j + 1) = fdue sa x j from if_neg (fun z => h18 z.1)]; rfl)
            | (rw [show fdue sa x (j + 1) = fdue sa x j from if_neg (fun z => Int32.not_lt.mpr z.2.1 h28)]; rfl)
            | (rw [show fdue sa x (j + 1) = fdue sa x j from if_neg (fun z => Int32.not_lt.mpr h38 z.2.2)]; rfl)
            | (rw [show fdue sa x (j + 1) = fdue sa x j ||| ((1 : Int32) <<< (nI j &&& 31)) from if_pos ⟨h18, Int32.not_lt.mp h28, Int32.not_le.mp h38⟩]; rfl)
  refine pm_iconst (x := 0) dS_dueAt_0 (by decide) (q := 1) rfl ?_
  refine pm_istore_n dS_dueAt_1 (by decide) (q := 2) rfl ?_
  refine pm_iconst (x := 0) dS_dueAt_2 (by decide) (q := 3) rfl ?_
  refine pm_istore_n dS_dueAt_3 (by decide) (q := 4) rfl ?_
  exact hL B 0 (by omega)
def fmay (si f g u : Nat → Int32) (sa : Nat → Nat → Int32) (v q : Int32) (S B : Nat) : Int32 := if fab f 9 = fdue sa q B then fsound si f g u sa v S else 0
theorem fmay_b (si f g u : Nat → Int32) (sa : Nat → Nat → Int32) (v q : Int32) (S B : Nat) : narrow .boolean (.int (fmay si f g u sa v q S B)) = .int (fmay si f g u sa v q S B) := by
  unfold fmay; split
  · exact fsound_b _ _ _ _ _ _ _
  · rfl
theorem fsound_01 (si f g u : Nat → Int32) (sa : Nat → Nat → Int32) (v : Int32) (S : Nat) : ¬ fsound si f g u sa v S = 0 → fsound si f g u sa v S = 1 := by
  have h : ∀ m j, ¬ fall si f g u sa m j = 0 → fall si f g u sa m j = 1 := by
    intro m
    induction m with
    | zero => intro j _; rfl
    | succ m ih =>
      intro j
      unfold fall
      split
      · intro z; exact absurd rfl z
      · exact ih _
  unfold fsound
  split
  · intro z; exact absurd rfl z
  · split
    · exact h _ _
    · intro z; exact absurd rfl z
set_option maxHeartbeats 4000000 in
theorem kH_mayDepart {l : Launch} (hl : l.stackTraces = false) (d : Nat) (hd : 3 ≤ d) {h : pm_H} {t : Nat} {si : Nat → Int32} {sa : Nat → Nat → Int32} {v : Int32} {f g u : Nat → Int32} (HA : HoldAt h t si sa v f g u) {S B : Nat} (HO : HoldOk si f g S) (hb : si 7 = nI B) (hB : B ≤ 5) (x : Int32) : pm_Sem l d mH_mayDepart [.ref t, .int x] h (some (.int (fmay si f g u sa v x S B))) h := by
  refine pm_sem hl mo_H_mayDepart ⟨_, rfl, fmay_b _ _ _ _ _ _ _ _ _⟩ rfl rfl (Nat.le_of_ble_eq_true rfl) (fun K G hK hret => ?_)
  obtain ⟨hT, hF, hG, hU, hS, hPl, hFr, hTo, hWt, hKd, hRo⟩ := id HA
  refine pm_aload_n dH_mayDepart_0 rfl (q := 1) rfl ?_
  refine pm_cV0i hK (kH_aboard hl 0 HA) mo_H_aboard im_H_aboard se_H_aboard lk_H_88 dH_mayDepart_1 (by omega) (Nat.le_of_ble_eq_true rfl) (Nat.zero_le _) (Nat.zero_le _) hT rfl rfl (q := 4) rfl ?_
  refine pm_aload_n dH_mayDepart_4 rfl (q := 5) rfl ?_
  refine pm_get fl_H_21 dH_mayDepart_5 hT rfl (q := 8) rfl ?_
  refine pm_iload_n dH_mayDepart_8 rfl (q := 9) rfl ?_
  refine pm_cV1i hK (kS_dueAtG hl 0 HA _ hb hB) mo_S_dueAt im_S_dueAt se_S_dueAt lk_H_95 dH_mayDepart_9 (by omega) (Nat.le_of_ble_eq_true rfl) (Nat.zero_le _) (Nat.zero_le _) hS rfl rfl (q := 12) rfl ?_
  refine pm_icmp_ne (tgt := 26) dH_mayDepart_12 rfl (q := 15) rfl (fun h12 => ?_) (fun h12 => ?_)
  · refine pm_iconst (x := 0) dH_mayDepart_26 (by decide) (q := 27) rfl ?_
    exact pm_retI hret dH_mayDepart_27 (by first | (rw [fmay, if_neg h12]; done) | (rw [fmay, if_pos h12, h19]; done) | (rw [fmay, if_pos h12]; exact (fsound_01 _ _ _ _ _ _ _ h19).symm))
  · refine pm_aload_n dH_mayDepart_15 rfl (q := 16) rfl ?_
    refine pm_cV0i hK (kH_isSound hl 2 (Nat.le_refl _) HA HO) mo_H_isSound im_H_isSound se_H_isSound lk_H_99 dH_mayDepart_16 (by omega) (Nat.le_of_ble_eq_true rfl) (Nat.zero_le _) (Nat.zero_le _) hT rfl rfl (q := 19) rfl ?_
    refine pm_if_eq (tgt := 26) dH_mayDepart_19 rfl (q := 22) rfl (fun h19 => ?_) (fun h19 => ?_)
    · refine pm_iconst (x := 0) dH_mayDepart_26 (by decide) (q := 27) rfl ?_
      exact pm_retI hret dH_mayDepart_27 (by first | (rw [fmay, if_neg h12]; done) | (rw [fmay, if_pos h12, h19]; done) | (rw [fmay, if_pos h12]; exact (fsound_01 _ _ _ _ _ _ _ h19).symm))
    · refine pm_iconst (x := 1) dH_mayDepart_22 (by decide) (q := 23) rfl ?_
      refine pm_goto (tgt := 27) dH_mayDepart_23 rfl ?_
      exact pm_retI hret dH_mayDepart_27 (by first | (rw [fmay, if_neg h12]; done) | (rw [fmay, if_pos h12, h19]; done) | (rw [fmay, if_pos h12]; exact (fsound_01 _ _ _ _ _ _ _ h19).symm))
def empA : Nat → Nat → Int32 := fun k => if k = 0 then (fun _ => -1) else fun _ => 0
def stA (A : Nat → Nat → Int32) (wt : Nat → Int32) (s hh b : Nat) : Nat → Nat → Int32 := fun k => if k = 0 then upd (A 0) (s * 3 + hh) (nI b) else if k = 1 then upd (A 1) s (nI (hh + 1)) else upd (A 2) s (A 2 s + wt b)
def unA (A : Nat → Nat → Int32) (wt : Nat → Int32) (s hh b : Nat) : Nat → Nat → Int32 := fun k => if k = 0 then upd (A 0) (s * 3 + hh) (-1) else if k = 1 then upd (A 1) s (nI hh) else upd (A 2) s (A 2 s - wt b)
set_option maxHeartbeats 4000000 in
theorem kH_clear0 {l : Launch} (hl : l.stackTraces = false) (d : Nat) (hd : 1 ≤ d) {pd : Int32} {si : Nat → Int32} {sa : Nat → Nat → Int32} {hv : Nat → Int32} {ha : Nat → Nat → Nat → Int32} {sl : Int32} {sc : Nat → Nat → Int32} {pl : Int32} {pa : Nat → Nat → Int32} {tl : pm_H} : pm_Sem l d mH_clear [.ref 8] (cH pd si sa hv ha sl sc pl pa tl) none (cH pd si sa (up1 hv 0 0) (up1 ha 0 empA) sl sc pl pa tl) := by
  refine pm_sem hl mo_H_clear rfl rfl rfl (Nat.le_of_ble_eq_true rfl) (fun K G hK hret => ?_)
  refine pm_aload_n dH_clear_0 rfl (q := 1) rfl ?_
  refine pm_get fl_H_9 dH_clear_1 rfl rfl (q := 4) rfl ?_
  refine pm_iconst (x := -1) dH_clear_4 (by decide) (q := 5) rfl ?_
  refine pm_cS2v hK (kA_fill hl 0 _ rfl (by decide)) mo_A_fill st_A_fill lk_H_25 dH_clear_5 (by omega) (Nat.le_of_ble_eq_true rfl) (Nat.zero_le _) (Nat.zero_le _) (q := 8) rfl ?_
  refine pm_aload_n dH_clear_8 rfl (q := 9) rfl ?_
  refine pm_get fl_H_15 dH_clear_9 rfl rfl (q := 12) rfl ?_
  refine pm_iconst (x := 0) dH_clear_12 (by decide) (q := 13) rfl ?_
  refine pm_cS2v hK (kA_fill hl 0 _ rfl (by decide)) mo_A_fill st_A_fill lk_H_25 dH_clear_13 (by omega) (Nat.le_of_ble_eq_true rfl) (Nat.zero_le _) (Nat.zero_le _) (q := 16) rfl ?_
  refine pm_aload_n dH_clear_16 rfl (q := 17) rfl ?_
  refine pm_get fl_H_18 dH_clear_17 rfl rfl (q := 20) rfl ?_
  refine pm_iconst (x := 0) dH_clear_20 (by decide) (q := 21) rfl ?_
  refine pm_cS2v hK (kA_fill hl 0 _ rfl (by decide)) mo_A_fill st_A_fill lk_H_25 dH_clear_21 (by omega) (Nat.le_of_ble_eq_true rfl) (Nat.zero_le _) (Nat.zero_le _) (q := 24) rfl ?_
  refine pm_aload_n dH_clear_24 rfl (q := 25) rfl ?_
  refine pm_iconst (x := 0) dH_clear_25 (by decide) (q := 26) rfl ?_
  refine pm_put fp_H_31 dH_clear_26 rfl (Nat.le_of_ble_eq_true rfl) (fun _ => rfl) (fun _ => rfl) (q := 29) rfl ?_
  exact pm_retV hret dH_clear_29 rfl
set_option maxHeartbeats 4000000 in
theorem kH_stow0 {l : Launch} (hl : l.stackTraces = false) (d : Nat) {pd : Int32} {si : Nat → Int32} {sa : Nat → Nat → Int32} {hv : Nat → Int32} {ha : Nat → Nat → Nat → Int32} {sl : Int32} {sc : Nat → Nat → Int32} {pl : Int32} {pa : Nat → Nat → Int32} {tl : pm_H} (b s hh : Nat) (hb : b < 5) (hs : s < 3) (h3 : hh < 3) (hg : ha 0 1 s = nI hh) : pm_Sem l d mH_stow [.ref 8, .int (nI b), .int (nI s)] (cH pd si sa hv ha sl sc pl pa tl) none (cH pd si sa (up1 hv 0 (hv 0 + sa 3 b * nI (hh + 1))) (up1 ha 0 (stA (ha 0) (sa 3) s hh b)) sl sc pl pa tl) := by
  refine pm_sem hl mo_H_stow rfl rfl rfl (Nat.le_of_ble_eq_true rfl) (fun K G hK hret => ?_)
  refine pm_aload_n dH_stow_0 rfl (q := 1) rfl ?_
  refine pm_get fl_H_9 dH_stow_1 rfl rfl (q := 4) rfl ?_
  refine pm_iload_n dH_stow_4 rfl (q := 5) rfl ?_
  refine pm_iconst (x := 3) dH_stow_5 (by decide) (q := 6) rfl ?_
  refine pm_imul dH_stow_6 (q := 7) rfl ?_
  refine pm_aload_n dH_stow_7 rfl (q := 8) rfl ?_
  refine pm_get fl_H_15 dH_stow_8 rfl rfl (q := 11) rfl ?_
  refine pm_iload_n dH_stow_11 rfl (q := 12) rfl ?_
  refine pm_ialdN dH_stow_12 rfl (by omega) (Nat.le_of_ble_eq_true rfl) (q := 13) rfl ?_
  refine pm_iadd dH_stow_13 (q := 14) rfl ?_
  refine pm_topL (y := nI (s * 3 + hh)) (by rw [hg]; exact nI_st s hh) ?_
  refine pm_iload_n dH_stow_14 rfl (q := 15) rfl ?_
  refine pm_iastN (j := s * 3 + hh) dH_stow_15 rfl (by omega) (Nat.le_of_ble_eq_true rfl) (q := 16) rfl ?_
  refine pm_aload_n dH_stow_16 rfl (q := 17) rfl ?_
  refine pm_get fl_H_15 dH_stow_17 rfl rfl (q := 20) rfl ?_
  refine pm_iload_n dH_stow_20 rfl (q := 21) rfl ?_
  refine pm_dup2 dH_stow_21 rfl rfl (q := 22) rfl ?_
  refine pm_ialdN dH_stow_22 rfl (by omega) (Nat.le_of_ble_eq_true rfl) (q := 23) rfl ?_
  refine pm_iconst (x := 1) dH_stow_23 (by decide) (q := 24) rfl ?_
  refine pm_iadd dH_stow_24 (q := 25) rfl ?_
  refine pm_topL (y := nI (hh + 1)) (by rw [hg, nI_succ]) ?_
  refine pm_iastN dH_stow_25 rfl (by omega) (Nat.le_of_ble_eq_true rfl) (q := 26) rfl ?_
  refine pm_aload_n dH_stow_26 rfl (q := 27) rfl ?_
  refine pm_get fl_H_18 dH_stow_27 rfl rfl (q := 30) rfl ?_
  refine pm_iload_n dH_stow_30 rfl (q := 31) rfl ?_
  refine pm_dup2 dH_stow_31 rfl rfl (q := 32) rfl ?_
  refine pm_ialdN dH_stow_32 rfl (by omega) (Nat.le_of_ble_eq_true rfl) (q := 33) rfl ?_
  refine pm_aload_n dH_stow_33 rfl (q := 34) rfl ?_
  refine pm_get fl_H_21 dH_stow_34 rfl rfl (q := 37) rfl ?_
  refine pm_get fl_H_44 dH_stow_37 rfl rfl (q := 40) rfl ?_
  refine pm_iload_n dH_stow_40 rfl (q := 41) rfl ?_
  refine pm_ialdN dH_stow_41 rfl (by omega) (Nat.le_of_ble_eq_true rfl) (q := 42) rfl ?_
  refine pm_iadd dH_stow_42 (q := 43) rfl ?_
  refine pm_iastN dH_stow_43 rfl (by omega) (Nat.le_of_ble_eq_true rfl) (q := 44) rfl ?_
  refine pm_aload_n dH_stow_44 rfl (q := 45) rfl ?_
  refine pm_dup dH_stow_45 rfl (q := 46) rfl ?_
  refine pm_get fl_H_31 dH_stow_46 rfl rfl (q := 49) rfl ?_
  refine pm_aload_n dH_stow_49 rfl (q := 50) rfl ?_
  refine pm_get fl_H_21 dH_stow_50 rfl rfl (q := 53) rfl ?_
  refine pm_get fl_H_44 dH_stow_53 rfl rfl (q := 56) rfl ?_
  refine pm_iload_n dH_stow_56 rfl (q := 57) rfl ?_
  refine pm_ialdN dH_stow_57 rfl (by omega) (Nat.le_of_ble_eq_true rfl) (q := 58) rfl ?_
  refine pm_aload_n dH_stow_58 rfl (q := 59) rfl ?_
  refine pm_get fl_H_15 dH_stow_59 rfl rfl (q := 62) rfl ?_
  refine pm_iload_n dH_stow_62 rfl (q := 63) rfl ?_
  refine pm_ialdN dH_stow_63 rfl (by omega) (Nat.le_of_ble_eq_true rfl) (q := 64) rfl ?_
  refine pm_topL (y := nI (hh + 1)) (by simp [upd]) ?_
  refine pm_imul dH_stow_64 (q := 65) rfl ?_
  refine pm_iadd dH_stow_65 (q := 66) rfl ?_
  refine pm_put fp_H_31 dH_stow_66 rfl (Nat.le_of_ble_eq_true rfl) (fun _ => rfl) (fun _ => rfl) (q := 69) rfl ?_
  exact pm_retV hret dH_stow_69 rfl
set_option maxHeartbeats 4000000 in
theorem kH_unstow0 {l : Launch} (hl : l.stackTraces = false) (d : Nat) {pd : Int32} {si : Nat → Int32} {sa : Nat → Nat → Int32} {hv : Nat → Int32} {ha : Nat → Nat → Nat → Int32} {sl : Int32} {sc : Nat → Nat → Int32} {pl : Int32} {pa : Nat → Nat → Int32} {tl : pm_H} (b s hh : Nat) (hb : b < 5) (hs : s < 3) (h3 : hh < 3) (hg : ha 0 1 s = nI (hh + 1)) : pm_Sem l d mH_unstow [.ref 8, .int (nI b), .int (nI s)] (cH pd si sa hv ha sl sc pl pa tl) none (cH pd si sa (up1 hv 0 (hv 0 - sa 3 b * nI (hh + 1))) (up1 ha 0 (unA (ha 0) (sa 3) s hh b)) sl sc pl pa tl) := by
  refine pm_sem hl mo_H_unstow rfl rfl rfl (Nat.le_of_ble_eq_true rfl) (fun K G hK hret => ?_)
  refine pm_aload_n dH_unstow_0 rfl (q := 1) rfl ?_
  refine pm_dup dH_unstow_1 rfl (q := 2) rfl ?_
  refine pm_get fl_H_31 dH_unstow_2 rfl rfl (q := 5) rfl ?_
  refine pm_aload_n dH_unstow_5 rfl (q := 6) rfl ?_
  refine pm_get fl_H_21 dH_unstow_6 rfl rfl (q := 9) rfl ?_
  refine pm_get fl_H_44 dH_unstow_9 rfl rfl (q := 12) rfl ?_
  refine pm_iload_n dH_unstow_12 rfl (q := 13) rfl ?_
  refine pm_ialdN dH_unstow_13 rfl (by omega) (Nat.le_of_ble_eq_true rfl) (q := 14) rfl ?_
  refine pm_aload_n dH_unstow_14 rfl (q := 15) rfl ?_
  refine pm_get fl_H_15 dH_unstow_15 rfl rfl (q := 18) rfl ?_
  refine pm_iload_n dH_unstow_18 rfl (q := 19) rfl ?_
  refine pm_ialdN dH_unstow_19 rfl (by omega) (Nat.le_of_ble_eq_true rfl) (q := 20) rfl ?_
  refine pm_topL (y := nI (hh + 1)) hg ?_
  refine pm_imul dH_unstow_20 (q := 21) rfl ?_
  refine pm_isub dH_unstow_21 (q := 22) rfl ?_
  refine pm_put fp_H_31 dH_unstow_22 rfl (Nat.le_of_ble_eq_true rfl) (fun _ => rfl) (fun _ => rfl) (q := 25) rfl ?_
  refine pm_aload_n dH_unstow_25 rfl (q := 26) rfl ?_
  refine pm_get fl_H_18 dH_unstow_26 rfl rfl (q := 29) rfl ?_
  refine pm_iload_n dH_unstow_29 rfl (q := 30) rfl ?_
  refine pm_dup2 dH_unstow_30 rfl rfl (q := 31) rfl ?_
  refine pm_ialdN dH_unstow_31 rfl (by omega) (Nat.le_of_ble_eq_true rfl) (q := 32) rfl ?_
  refine pm_aload_n dH_unstow_32 rfl (q := 33) rfl ?_
  refine pm_get fl_H_21 dH_unstow_33 rfl rfl (q := 36) rfl ?_
  refine pm_get fl_H_44 dH_unstow_36 rfl rfl (q := 39) rfl ?_
  refine pm_iload_n dH_unstow_39 rfl (q := 40) rfl ?_
  refine pm_ialdN dH_unstow_40 rfl (by omega) (Nat.le_of_ble_eq_true rfl) (q := 41) rfl ?_
  refine pm_isub dH_unstow_41 (q := 42) rfl ?_
  refine pm_iastN dH_unstow_42 rfl (by omega) (Nat.le_of_ble_eq_true rfl) (q := 43) rfl ?_
  refine pm_aload_n dH_unstow_43 rfl (q := 44) rfl ?_
  refine pm_get fl_H_15 dH_unstow_44 rfl rfl (q := 47) rfl ?_
  refine pm_iload_n dH_unstow_47 rfl (q := 48) rfl ?_
  refine pm_dup2 dH_unstow_48 rfl rfl (q := 49) rfl ?_
  refine pm_ialdN dH_unstow_49 rfl (by omega) (Nat.le_of_ble_eq_true rfl) (q := 50) rfl ?_
  refine pm_iconst (x := 1) dH_unstow_50 (by decide) (q := 51) rfl ?_
  refine pm_isub dH_unstow_51 (q := 52) rfl ?_
  refine pm_topL (y := nI hh) (by rw [hg, nI_pred]) ?_
  refine pm_iastN dH_unstow_52 rfl (by omega) (Nat.le_of_ble_eq_true rfl) (q := 53) rfl ?_
  refine pm_aload_n dH_unstow_53 rfl (q := 54) rfl ?_
  refine pm_get fl_H_9 dH_unstow_54 rfl rfl (q := 57) rfl ?_
  refine pm_iload_n dH_unstow_57 rfl (q := 58) rfl ?_
  refine pm_iconst (x := 3) dH_unstow_58 (by decide) (q := 59) rfl ?_
  refine pm_imul dH_unstow_59 (q := 60) rfl ?_
  refine pm_aload_n dH_unstow_60 rfl (q := 61) rfl ?_
  refine pm_get fl_H_15 dH_unstow_61 rfl rfl (q := 64) rfl ?_
  refine pm_iload_n dH_unstow_64 rfl (q := 65) rfl ?_
  refine pm_ialdN dH_unstow_65 rfl (by omega) (Nat.le_of_ble_eq_true rfl) (q := 66) rfl ?_
  refine pm_iadd dH_unstow_66 (q := 67) rfl ?_
  refine pm_topL (y := nI (s * 3 + hh)) (by rw [show upd (ha 0 1) s (nI hh) s = nI hh from by simp [upd]]; exact nI_st s hh) ?_
  refine pm_iconst (x := -1) dH_unstow_67 (by decide) (q := 68) rfl ?_
  refine pm_iastN (j := s * 3 + hh) dH_unstow_68 rfl (by omega) (Nat.le_of_ble_eq_true rfl) (q := 69) rfl ?_
  exact pm_retV hret dH_unstow_69 rfl
set_option maxHeartbeats 4000000 in
theorem kH_clear1 {l : Launch} (hl : l.stackTraces = false) (d : Nat) (hd : 1 ≤ d) {pd : Int32} {si : Nat → Int32} {sa : Nat → Nat → Int32} {hv : Nat → Int32} {ha : Nat → Nat → Nat → Int32} {sl : Int32} {sc : Nat → Nat → Int32} {pl : Int32} {pa : Nat → Nat → Int32} {tl : pm_H} : pm_Sem l d mH_clear [.ref 12] (cH pd si sa hv ha sl sc pl pa tl) none (cH pd si sa (up1 hv 1 0) (up1 ha 1 empA) sl sc pl pa tl) := by
  refine pm_sem hl mo_H_clear rfl rfl rfl (Nat.le_of_ble_eq_true rfl) (fun K G hK hret => ?_)
  refine pm_aload_n dH_clear_0 rfl (q := 1) rfl ?_
  refine pm_get fl_H_9 dH_clear_1 rfl rfl (q := 4) rfl ?_
  refine pm_iconst (x := -1) dH_clear_4 (by decide) (q := 5) rfl ?_
  refine pm_cS2v hK (kA_fill hl 0 _ rfl (by decide)) mo_A_fill st_A_fill lk_H_25 dH_clear_5 (by omega) (Nat.le_of_ble_eq_true rfl) (Nat.zero_le _) (Nat.zero_le _) (q := 8) rfl ?_
  refine pm_aload_n dH_clear_8 rfl (q := 9) rfl ?_
  refine pm_get fl_H_15 dH_clear_9 rfl rfl (q := 12) rfl ?_
  refine pm_iconst (x := 0) dH_clear_12 (by decide) (q := 13) rfl ?_
  refine pm_cS2v hK (kA_fill hl 0 _ rfl (by decide)) mo_A_fill st_A_fill lk_H_25 dH_clear_13 (by omega) (Nat.le_of_ble_eq_true rfl) (Nat.zero_le _) (Nat.zero_le _) (q := 16) rfl ?_
  refine pm_aload_n dH_clear_16 rfl (q := 17) rfl ?_
  refine pm_get fl_H_18 dH_clear_17 rfl rfl (q := 20) rfl ?_
  refine pm_iconst (x := 0) dH_clear_20 (by decide) (q := 21) rfl ?_
  refine pm_cS2v hK (kA_fill hl 0 _ rfl (by decide)) mo_A_fill st_A_fill lk_H_25 dH_clear_21 (by omega) (Nat.le_of_ble_eq_true rfl) (Nat.zero_le _) (Nat.zero_le _) (q := 24) rfl ?_
  refine pm_aload_n dH_clear_24 rfl (q := 25) rfl ?_
  refine pm_iconst (x := 0) dH_clear_25 (by decide) (q := 26) rfl ?_
  refine pm_put fp_H_31 dH_clear_26 rfl (Nat.le_of_ble_eq_true rfl) (fun _ => rfl) (fun _ => rfl) (q := 29) rfl ?_
  exact pm_retV hret dH_clear_29 rfl
set_option maxHeartbeats 4000000 in
theorem kH_stow1 {l : Launch} (hl : l.stackTraces = false) (d : Nat) {pd : Int32} {si : Nat → Int32} {sa : Nat → Nat → Int32} {hv : Nat → Int32} {ha : Nat → Nat → Nat → Int32} {sl : Int32} {sc : Nat → Nat → Int32} {pl : Int32} {pa : Nat → Nat → Int32} {tl : pm_H} (b s hh : Nat) (hb : b < 5) (hs : s < 3) (h3 : hh < 3) (hg : ha 1 1 s = nI hh) : pm_Sem l d mH_stow [.ref 12, .int (nI b), .int (nI s)] (cH pd si sa hv ha sl sc pl pa tl) none (cH pd si sa (up1 hv 1 (hv 1 + sa 3 b * nI (hh + 1))) (up1 ha 1 (stA (ha 1) (sa 3) s hh b)) sl sc pl pa tl) := by
  refine pm_sem hl mo_H_stow rfl rfl rfl (Nat.le_of_ble_eq_true rfl) (fun K G hK hret => ?_)
  refine pm_aload_n dH_stow_0 rfl (q := 1) rfl ?_
  refine pm_get fl_H_9 dH_stow_1 rfl rfl (q := 4) rfl ?_
  refine pm_iload_n dH_stow_4 rfl (q := 5) rfl ?_
  refine pm_iconst (x := 3) dH_stow_5 (by decide) (q := 6) rfl ?_
  refine pm_imul dH_stow_6 (q := 7) rfl ?_
  refine pm_aload_n dH_stow_7 rfl (q := 8) rfl ?_
  refine pm_get fl_H_15 dH_stow_8 rfl rfl (q := 11) rfl ?_
  refine pm_iload_n dH_stow_11 rfl (q := 12) rfl ?_
  refine pm_ialdN dH_stow_12 rfl (by omega) (Nat.le_of_ble_eq_true rfl) (q := 13) rfl ?_
  refine pm_iadd dH_stow_13 (q := 14) rfl ?_
  refine pm_topL (y := nI (s * 3 + hh)) (by rw [hg]; exact nI_st s hh) ?_
  refine pm_iload_n dH_stow_14 rfl (q := 15) rfl ?_
  refine pm_iastN (j := s * 3 + hh) dH_stow_15 rfl (by omega) (Nat.le_of_ble_eq_true rfl) (q := 16) rfl ?_
  refine pm_aload_n dH_stow_16 rfl (q := 17) rfl ?_
  refine pm_get fl_H_15 dH_stow_17 rfl rfl (q := 20) rfl ?_
  refine pm_iload_n dH_stow_20 rfl (q := 21) rfl ?_
  refine pm_dup2 dH_stow_21 rfl rfl (q := 22) rfl ?_
  refine pm_ialdN dH_stow_22 rfl (by omega) (Nat.le_of_ble_eq_true rfl) (q := 23) rfl ?_
  refine pm_iconst (x := 1) dH_stow_23 (by decide) (q := 24) rfl ?_
  refine pm_iadd dH_stow_24 (q := 25) rfl ?_
  refine pm_topL (y := nI (hh + 1)) (by rw [hg, nI_succ]) ?_
  refine pm_iastN dH_stow_25 rfl (by omega) (Nat.le_of_ble_eq_true rfl) (q := 26) rfl ?_
  refine pm_aload_n dH_stow_26 rfl (q := 27) rfl ?_
  refine pm_get fl_H_18 dH_stow_27 rfl rfl (q := 30) rfl ?_
  refine pm_iload_n dH_stow_30 rfl (q := 31) rfl ?_
  refine pm_dup2 dH_stow_31 rfl rfl (q := 32) rfl ?_
  refine pm_ialdN dH_stow_32 rfl (by omega) (Nat.le_of_ble_eq_true rfl) (q := 33) rfl ?_
  refine pm_aload_n dH_stow_33 rfl (q := 34) rfl ?_
  refine pm_get fl_H_21 dH_stow_34 rfl rfl (q := 37) rfl ?_
  refine pm_get fl_H_44 dH_stow_37 rfl rfl (q := 40) rfl ?_
  refine pm_iload_n dH_stow_40 rfl (q := 41) rfl ?_
  refine pm_ialdN dH_stow_41 rfl (by omega) (Nat.le_of_ble_eq_true rfl) (q := 42) rfl ?_
  refine pm_iadd dH_stow_42 (q := 43) rfl ?_
  refine pm_iastN dH_stow_43 rfl (by omega) (Nat.le_of_ble_eq_true rfl) (q := 44) rfl ?_
  refine pm_aload_n dH_stow_44 rfl (q := 45) rfl ?_
  refine pm_dup dH_stow_45 rfl (q := 46) rfl ?_
  refine pm_get fl_H_31 dH_stow_46 rfl rfl (q := 49) rfl ?_
  refine pm_aload_n dH_stow_49 rfl (q := 50) rfl ?_
  refine pm_get fl_H_21 dH_stow_50 rfl rfl (q := 53) rfl ?_
  refine pm_get fl_H_44 dH_stow_53 rfl rfl (q := 56) rfl ?_
  refine pm_iload_n dH_stow_56 rfl (q := 57) rfl ?_
  refine pm_ialdN dH_stow_57 rfl (by omega) (Nat.le_of_ble_eq_true rfl) (q := 58) rfl ?_
  refine pm_aload_n dH_stow_58 rfl (q := 59) rfl ?_
  refine pm_get fl_H_15 dH_stow_59 rfl rfl (q := 62) rfl ?_
  refine pm_iload_n dH_stow_62 rfl (q := 63) rfl ?_
  refine pm_ialdN dH_stow_63 rfl (by omega) (Nat.le_of_ble_eq_true rfl) (q := 64) rfl ?_
  refine pm_topL (y := nI (hh + 1)) (by simp [upd]) ?_
  refine pm_imul dH_stow_64 (q := 65) rfl ?_
  refine pm_iadd dH_stow_65 (q := 66) rfl ?_
  refine pm_put fp_H_31 dH_stow_66 rfl (Nat.le_of_ble_eq_true rfl) (fun _ => rfl) (fun _ => rfl) (q := 69) rfl ?_
  exact pm_retV hret dH_stow_69 rfl
set_option maxHeartbeats 4000000 in
theorem kH_unstow1 {l : Launch} (hl : l.stackTraces = false) (d : Nat) {pd : Int32} {si : Nat → Int32} {sa : Nat → Nat → Int32} {hv : Nat → Int32} {ha : Nat → Nat → Nat → Int32} {sl : Int32} {sc : Nat → Nat → Int32} {pl : Int32} {pa : Nat → Nat → Int32} {tl : pm_H} (b s hh : Nat) (hb : b < 5) (hs : s < 3) (h3 : hh < 3) (hg : ha 1 1 s = nI (hh + 1)) : pm_Sem l d mH_unstow [.ref 12, .int (nI b), .int (nI s)] (cH pd si sa hv ha sl sc pl pa tl) none (cH pd si sa (up1 hv 1 (hv 1 - sa 3 b * nI (hh + 1))) (up1 ha 1 (unA (ha 1) (sa 3) s hh b)) sl sc pl pa tl) := by
  refine pm_sem hl mo_H_unstow rfl rfl rfl (Nat.le_of_ble_eq_true rfl) (fun K G hK hret => ?_)
  refine pm_aload_n dH_unstow_0 rfl (q := 1) rfl ?_
  refine pm_dup dH_unstow_1 rfl (q := 2) rfl ?_
  refine pm_get fl_H_31 dH_unstow_2 rfl rfl (q := 5) rfl ?_
  refine pm_aload_n dH_unstow_5 rfl (q := 6) rfl ?_
  refine pm_get fl_H_21 dH_unstow_6 rfl rfl (q := 9) rfl ?_
  refine pm_get fl_H_44 dH_unstow_9 rfl rfl (q := 12) rfl ?_
  refine pm_iload_n dH_unstow_12 rfl (q := 13) rfl ?_
  refine pm_ialdN dH_unstow_13 rfl (by omega) (Nat.le_of_ble_eq_true rfl) (q := 14) rfl ?_
  refine pm_aload_n dH_unstow_14 rfl (q := 15) rfl ?_
  refine pm_get fl_H_15 dH_unstow_15 rfl rfl (q := 18) rfl ?_
  refine pm_iload_n dH_unstow_18 rfl (q := 19) rfl ?_
  refine pm_ialdN dH_unstow_19 rfl (by omega) (Nat.le_of_ble_eq_true rfl) (q := 20) rfl ?_
  refine pm_topL (y := nI (hh + 1)) hg ?_
  refine pm_imul dH_unstow_20 (q := 21) rfl ?_
  refine pm_isub dH_unstow_21 (q := 22) rfl ?_
  refine pm_put fp_H_31 dH_unstow_22 rfl (Nat.le_of_ble_eq_true rfl) (fun _ => rfl) (fun _ => rfl) (q := 25) rfl ?_
  refine pm_aload_n dH_unstow_25 rfl (q := 26) rfl ?_
  refine pm_get fl_H_18 dH_unstow_26 rfl rfl (q := 29) rfl ?_
  refine pm_iload_n dH_unstow_29 rfl (q := 30) rfl ?_
  refine pm_dup2 dH_unstow_30 rfl rfl (q := 31) rfl ?_
  refine pm_ialdN dH_unstow_31 rfl (by omega) (Nat.le_of_ble_eq_true rfl) (q := 32) rfl ?_
  refine pm_aload_n dH_unstow_32 rfl (q := 33) rfl ?_
  refine pm_get fl_H_21 dH_unstow_33 rfl rfl (q := 36) rfl ?_
  refine pm_get fl_H_44 dH_unstow_36 rfl rfl (q := 39) rfl ?_
  refine pm_iload_n dH_unstow_39 rfl (q := 40) rfl ?_
  refine pm_ialdN dH_unstow_40 rfl (by omega) (Nat.le_of_ble_eq_true rfl) (q := 41) rfl ?_
  refine pm_isub dH_unstow_41 (q := 42) rfl ?_
  refine pm_iastN dH_unstow_42 rfl (by omega) (Nat.le_of_ble_eq_true rfl) (q := 43) rfl ?_
  refine pm_aload_n dH_unstow_43 rfl (q := 44) rfl ?_
  refine pm_get fl_H_15 dH_unstow_44 rfl rfl (q := 47) rfl ?_
  refine pm_iload_n dH_unstow_47 rfl (q := 48) rfl ?_
  refine pm_dup2 dH_unstow_48 rfl rfl (q := 49) rfl ?_
  refine pm_ialdN dH_unstow_49 rfl (by omega) (Nat.le_of_ble_eq_true rfl) (q := 50) rfl ?_
  refine pm_iconst (x := 1) dH_unstow_50 (by decide) (q := 51) rfl ?_
  refine pm_isub dH_unstow_51 (q := 52) rfl ?_
  refine pm_topL (y := nI hh) (by rw [hg, nI_pred]) ?_
  refine pm_iastN dH_unstow_52 rfl (by omega) (Nat.le_of_ble_eq_true rfl) (q := 53) rfl ?_
  refine pm_aload_n dH_unstow_53 rfl (q := 54) rfl ?_
  refine pm_get fl_H_9 dH_unstow_54 rfl rfl (q := 57) rfl ?_
  refine pm_iload_n dH_unstow_57 rfl (q := 58) rfl ?_
  refine pm_iconst (x := 3) dH_unstow_58 (by decide) (q := 59) rfl ?_
  refine pm_imul dH_unstow_59 (q := 60) rfl ?_
  refine pm_aload_n dH_unstow_60 rfl (q := 61) rfl ?_
  refine pm_get fl_H_15 dH_unstow_61 rfl rfl (q := 64) rfl ?_
  refine pm_iload_n dH_unstow_64 rfl (q := 65) rfl ?_
  refine pm_ialdN dH_unstow_65 rfl (by omega) (Nat.le_of_ble_eq_true rfl) (q := 66) rfl ?_
  refine pm_iadd dH_unstow_66 (q := 67) rfl ?_
  refine pm_topL (y := nI (s * 3 + hh)) (by rw [show upd (ha 1 1) s (nI hh) s = nI hh from by simp [upd]]; exact nI_st s hh) ?_
  refine pm_iconst (x := -1) dH_unstow_67 (by decide) (q := 68) rfl ?_
  refine pm_iastN (j := s * 3 + hh) dH_unstow_68 rfl (by omega) (Nat.le_of_ble_eq_true rfl) (q := 69) rfl ?_
  exact pm_retV hret dH_unstow_69 rfl
set_option maxHeartbeats 4000000 in
theorem kH_clear2 {l : Launch} (hl : l.stackTraces = false) (d : Nat) (hd : 1 ≤ d) {pd : Int32} {si : Nat → Int32} {sa : Nat → Nat → Int32} {hv : Nat → Int32} {ha : Nat → Nat → Nat → Int32} {sl : Int32} {sc : Nat → Nat → Int32} {pl : Int32} {pa : Nat → Nat → Int32} {tl : pm_H} : pm_Sem l d mH_clear [.ref 27] (cH pd si sa hv ha sl sc pl pa tl) none (cH pd si sa (up1 hv 2 0) (up1 ha 2 empA) sl sc pl pa tl) := by
  refine pm_sem hl mo_H_clear rfl rfl rfl (Nat.le_of_ble_eq_true rfl) (fun K G hK hret => ?_)
  refine pm_aload_n dH_clear_0 rfl (q := 1) rfl ?_
  refine pm_get fl_H_9 dH_clear_1 rfl rfl (q := 4) rfl ?_
  refine pm_iconst (x := -1) dH_clear_4 (by decide) (q := 5) rfl ?_
  refine pm_cS2v hK (kA_fill hl 0 _ rfl (by decide)) mo_A_fill st_A_fill lk_H_25 dH_clear_5 (by omega) (Nat.le_of_ble_eq_true rfl) (Nat.zero_le _) (Nat.zero_le _) (q := 8) rfl ?_
  refine pm_aload_n dH_clear_8 rfl (q := 9) rfl ?_
  refine pm_get fl_H_15 dH_clear_9 rfl rfl (q := 12) rfl ?_
  refine pm_iconst (x := 0) dH_clear_12 (by decide) (q := 13) rfl ?_
  refine pm_cS2v hK (kA_fill hl 0 _ rfl (by decide)) mo_A_fill st_A_fill lk_H_25 dH_clear_13 (by omega) (Nat.le_of_ble_eq_true rfl) (Nat.zero_le _) (Nat.zero_le _) (q := 16) rfl ?_
  refine pm_aload_n dH_clear_16 rfl (q := 17) rfl ?_
  refine pm_get fl_H_18 dH_clear_17 rfl rfl (q := 20) rfl ?_
  refine pm_iconst (x := 0) dH_clear_20 (by decide) (q := 21) rfl ?_
  refine pm_cS2v hK (kA_fill hl 0 _ rfl (by decide)) mo_A_fill st_A_fill lk_H_25 dH_clear_21 (by omega) (Nat.le_of_ble_eq_true rfl) (Nat.zero_le _) (Nat.zero_le _) (q := 24) rfl ?_
  refine pm_aload_n dH_clear_24 rfl (q := 25) rfl ?_
  refine pm_iconst (x := 0) dH_clear_25 (by decide) (q := 26) rfl ?_
  refine pm_put fp_H_31 dH_clear_26 rfl (Nat.le_of_ble_eq_true rfl) (fun _ => rfl) (fun _ => rfl) (q := 29) rfl ?_
  exact pm_retV hret dH_clear_29 rfl
set_option maxHeartbeats 4000000 in
theorem kH_stow2 {l : Launch} (hl : l.stackTraces = false) (d : Nat) {pd : Int32} {si : Nat → Int32} {sa : Nat → Nat → Int32} {hv : Nat → Int32} {ha : Nat → Nat → Nat → Int32} {sl : Int32} {sc : Nat → Nat → Int32} {pl : Int32} {pa : Nat → Nat → Int32} {tl : pm_H} (b s hh : Nat) (hb : b < 5) (hs : s < 3) (h3 : hh < 3) (hg : ha 2 1 s = nI hh) : pm_Sem l d mH_stow [.ref 27, .int (nI b), .int (nI s)] (cH pd si sa hv ha sl sc pl pa tl) none (cH pd si sa (up1 hv 2 (hv 2 + sa 3 b * nI (hh + 1))) (up1 ha 2 (stA (ha 2) (sa 3) s hh b)) sl sc pl pa tl) := by
  refine pm_sem hl mo_H_stow rfl rfl rfl (Nat.le_of_ble_eq_true rfl) (fun K G hK hret => ?_)
  refine pm_aload_n dH_stow_0 rfl (q := 1) rfl ?_
  refine pm_get fl_H_9 dH_stow_1 rfl rfl (q := 4) rfl ?_
  refine pm_iload_n dH_stow_4 rfl (q := 5) rfl ?_
  refine pm_iconst (x := 3) dH_stow_5 (by decide) (q := 6) rfl ?_
  refine pm_imul dH_stow_6 (q := 7) rfl ?_
  refine pm_aload_n dH_stow_7 rfl (q := 8) rfl ?_
  refine pm_get fl_H_15 dH_stow_8 rfl rfl (q := 11) rfl ?_
  refine pm_iload_n dH_stow_11 rfl (q := 12) rfl ?_
  refine pm_ialdN dH_stow_12 rfl (by omega) (Nat.le_of_ble_eq_true rfl) (q := 13) rfl ?_
  refine pm_iadd dH_stow_13 (q := 14) rfl ?_
  refine pm_topL (y := nI (s * 3 + hh)) (by rw [hg]; exact nI_st s hh) ?_
  refine pm_iload_n dH_stow_14 rfl (q := 15) rfl ?_
  refine pm_iastN (j := s * 3 + hh) dH_stow_15 rfl (by omega) (Nat.le_of_ble_eq_true rfl) (q := 16) rfl ?_
  refine pm_aload_n dH_stow_16 rfl (q := 17) rfl ?_
  refine pm_get fl_H_15 dH_stow_17 rfl rfl (q := 20) rfl ?_
  refine pm_iload_n dH_stow_20 rfl (q := 21) rfl ?_
  refine pm_dup2 dH_stow_21 rfl rfl (q := 22) rfl ?_
  refine pm_ialdN dH_stow_22 rfl (by omega) (Nat.le_of_ble_eq_true rfl) (q := 23) rfl ?_
  refine pm_iconst (x := 1) dH_stow_23 (by decide) (q := 24) rfl ?_
  refine pm_iadd dH_stow_24 (q := 25) rfl ?_
  refine pm_topL (y := nI (hh + 1)) (by rw [hg, nI_succ]) ?_
  refine pm_iastN dH_stow_25 rfl (by omega) (Nat.le_of_ble_eq_true rfl) (q := 26) rfl ?_
  refine pm_aload_n dH_stow_26 rfl (q := 27) rfl ?_
  refine pm_get fl_H_18 dH_stow_27 rfl rfl (q := 30) rfl ?_
  refine pm_iload_n dH_stow_30 rfl (q := 31) rfl ?_
  refine pm_dup2 dH_stow_31 rfl rfl (q := 32) rfl ?_
  refine pm_ialdN dH_stow_32 rfl (by omega) (Nat.le_of_ble_eq_true rfl) (q := 33) rfl ?_
  refine pm_aload_n dH_stow_33 rfl (q := 34) rfl ?_
  refine pm_get fl_H_21 dH_stow_34 rfl rfl (q := 37) rfl ?_
  refine pm_get fl_H_44 dH_stow_37 rfl rfl (q := 40) rfl ?_
  refine pm_iload_n dH_stow_40 rfl (q := 41) rfl ?_
  refine pm_ialdN dH_stow_41 rfl (by omega) (Nat.le_of_ble_eq_true rfl) (q := 42) rfl ?_
  refine pm_iadd dH_stow_42 (q := 43) rfl ?_
  refine pm_iastN dH_stow_43 rfl (by omega) (Nat.le_of_ble_eq_true rfl) (q := 44) rfl ?_
  refine pm_aload_n dH_stow_44 rfl (q := 45) rfl ?_
  refine pm_dup dH_stow_45 rfl (q := 46) rfl ?_
  refine pm_get fl_H_31 dH_stow_46 rfl rfl (q := 49) rfl ?_
  refine pm_aload_n dH_stow_49 rfl (q := 50) rfl ?_
  refine pm_get fl_H_21 dH_stow_50 rfl rfl (q := 53) rfl ?_
  refine pm_get fl_H_44 dH_stow_53 rfl rfl (q := 56) rfl ?_
  refine pm_iload_n dH_stow_56 rfl (q := 57) rfl ?_
  refine pm_ialdN dH_stow_57 rfl (by omega) (Nat.le_of_ble_eq_true rfl) (q := 58) rfl ?_
  refine pm_aload_n dH_stow_58 rfl (q := 59) rfl ?_
  refine pm_get fl_H_15 dH_stow_59 rfl rfl (q := 62) rfl ?_
  refine pm_iload_n dH_stow_62 rfl (q := 63) rfl ?_
  refine pm_ialdN dH_stow_63 rfl (by omega) (Nat.le_of_ble_eq_true rfl) (q := 64) rfl ?_
  refine pm_topL (y := nI (hh + 1)) (by simp [upd]) ?_
  refine pm_imul dH_stow_64 (q := 65) rfl ?_
  refine pm_iadd dH_stow_65 (q := 66) rfl ?_
  refine pm_put fp_H_31 dH_stow_66 rfl (Nat.le_of_ble_eq_true rfl) (fun _ => rfl) (fun _ => rfl) (q := 69) rfl ?_
  exact pm_retV hret dH_stow_69 rfl
set_option maxHeartbeats 4000000 in
theorem kH_unstow2 {l : Launch} (hl : l.stackTraces = false) (d : Nat) {pd : Int32} {si : Nat → Int32} {sa : Nat → Nat → Int32} {hv : Nat → Int32} {ha : Nat → Nat → Nat → Int32} {sl : Int32} {sc : Nat → Nat → Int32} {pl : Int32} {pa : Nat → Nat → Int32} {tl : pm_H} (b s hh : Nat) (hb : b < 5) (hs : s < 3) (h3 : hh < 3) (hg : ha 2 1 s = nI (hh + 1)) : pm_Sem l d mH_unstow [.ref 27, .int (nI b), .int (nI s)] (cH pd si sa hv ha sl sc pl pa tl) none (cH pd si sa (up1 hv 2 (hv 2 - sa 3 b * nI (hh + 1))) (up1 ha 2 (unA (ha 2) (sa 3) s hh b)) sl sc pl pa tl) := by
  refine pm_sem hl mo_H_unstow rfl rfl rfl (Nat.le_of_ble_eq_true rfl) (fun K G hK hret => ?_)
  refine pm_aload_n dH_unstow_0 rfl (q := 1) rfl ?_
  refine pm_dup dH_unstow_1 rfl (q := 2) rfl ?_
  refine pm_get fl_H_31 dH_unstow_2 rfl rfl (q := 5) rfl ?_
  refine pm_aload_n dH_unstow_5 rfl (q := 6) rfl ?_
  refine pm_get fl_H_21 dH_unstow_6 rfl rfl (q := 9) rfl ?_
  refine pm_get fl_H_44 dH_unstow_9 rfl rfl (q := 12) rfl ?_
  refine pm_iload_n dH_unstow_12 rfl (q := 13) rfl ?_
  refine pm_ialdN dH_unstow_13 rfl (by omega) (Nat.le_of_ble_eq_true rfl) (q := 14) rfl ?_
  refine pm_aload_n dH_unstow_14 rfl (q := 15) rfl ?_
  refine pm_get fl_H_15 dH_unstow_15 rfl rfl (q := 18) rfl ?_
  refine pm_iload_n dH_unstow_18 rfl (q := 19) rfl ?_
  refine pm_ialdN dH_unstow_19 rfl (by omega) (Nat.le_of_ble_eq_true rfl) (q := 20) rfl ?_
  refine pm_topL (y := nI (hh + 1)) hg ?_
  refine pm_imul dH_unstow_20 (q := 21) rfl ?_
  refine pm_isub dH_unstow_21 (q := 22) rfl ?_
  refine pm_put fp_H_31 dH_unstow_22 rfl (Nat.le_of_ble_eq_true rfl) (fun _ => rfl) (fun _ => rfl) (q := 25) rfl ?_
  refine pm_aload_n dH_unstow_25 rfl (q := 26) rfl ?_
  refine pm_get fl_H_18 dH_unstow_26 rfl rfl (q := 29) rfl ?_
  refine pm_iload_n dH_unstow_29 rfl (q := 30) rfl ?_
  refine pm_dup2 dH_unstow_30 rfl rfl (q := 31) rfl ?_
  refine pm_ialdN dH_unstow_31 rfl (by omega) (Nat.le_of_ble_eq_true rfl) (q := 32) rfl ?_
  refine pm_aload_n dH_unstow_32 rfl (q := 33) rfl ?_
  refine pm_get fl_H_21 dH_unstow_33 rfl rfl (q := 36) rfl ?_
  refine pm_get fl_H_44 dH_unstow_36 rfl rfl (q := 39) rfl ?_
  refine pm_iload_n dH_unstow_39 rfl (q := 40) rfl ?_
  refine pm_ialdN dH_unstow_40 rfl (by omega) (Nat.le_of_ble_eq_true rfl) (q := 41) rfl ?_
  refine pm_isub dH_unstow_41 (q := 42) rfl ?_
  refine pm_iastN dH_unstow_42 rfl (by omega) (Nat.le_of_ble_eq_true rfl) (q := 43) rfl ?_
  refine pm_aload_n dH_unstow_43 rfl (q := 44) rfl ?_
  refine pm_get fl_H_15 dH_unstow_44 rfl rfl (q := 47) rfl ?_
  refine pm_iload_n dH_unstow_47 rfl (q := 48) rfl ?_
  refine pm_dup2 dH_unstow_48 rfl rfl (q := 49) rfl ?_
  refine pm_ialdN dH_unstow_49 rfl (by omega) (Nat.le_of_ble_eq_true rfl) (q := 50) rfl ?_
  refine pm_iconst (x := 1) dH_unstow_50 (by decide) (q := 51) rfl ?_
  refine pm_isub dH_unstow_51 (q := 52) rfl ?_
  refine pm_topL (y := nI hh) (by rw [hg, nI_pred]) ?_
  refine pm_iastN dH_unstow_52 rfl (by omega) (Nat.le_of_ble_eq_true rfl) (q := 53) rfl ?_
  refine pm_aload_n dH_unstow_53 rfl (q := 54) rfl ?_
  refine pm_get fl_H_9 dH_unstow_54 rfl rfl (q := 57) rfl ?_
  refine pm_iload_n dH_unstow_57 rfl (q := 58) rfl ?_
  refine pm_iconst (x := 3) dH_unstow_58 (by decide) (q := 59) rfl ?_
  refine pm_imul dH_unstow_59 (q := 60) rfl ?_
  refine pm_aload_n dH_unstow_60 rfl (q := 61) rfl ?_
  refine pm_get fl_H_15 dH_unstow_61 rfl rfl (q := 64) rfl ?_
  refine pm_iload_n dH_unstow_64 rfl (q := 65) rfl ?_
  refine pm_ialdN dH_unstow_65 rfl (by omega) (Nat.le_of_ble_eq_true rfl) (q := 66) rfl ?_
  refine pm_iadd dH_unstow_66 (q := 67) rfl ?_
  refine pm_topL (y := nI (s * 3 + hh)) (by rw [show upd (ha 2 1) s (nI hh) s = nI hh from by simp [upd]]; exact nI_st s hh) ?_
  refine pm_iconst (x := -1) dH_unstow_67 (by decide) (q := 68) rfl ?_
  refine pm_iastN (j := s * 3 + hh) dH_unstow_68 rfl (by omega) (Nat.le_of_ble_eq_true rfl) (q := 69) rfl ?_
  exact pm_retV hret dH_unstow_69 rfl
