/-! the model: may, listAll -/
theorem div3_tab : ∀ k : Fin 9, nI k.val / 3 = nI (k.val / 3) ∧ nI k.val - nI k.val / 3 * 3 = nI (k.val % 3) := by decide +kernel
theorem may_pred {k : Nat} (h : ¬ nI (k % 3) = 0) : nI k - 1 = nI (k - 1) := by
  cases k with
  | zero => exact absurd rfl h
  | succ k => exact nI_pred k
section May
variable {mi f : Nat → Int32} {ma : Nat → Nat → Int32} {k c : Nat} {q : Int32}
theorem may0a (h : mi 1 ≤ nI (k / 3)) : (0 : Int32) = fMay mi f ma k c q := (if_neg (fun z => Int32.not_le.mpr z.1.1 h)).symm
theorem may0b (h : mi 2 ≤ nI (k % 3)) : (0 : Int32) = fMay mi f ma k c q := (if_neg (fun z => Int32.not_le.mpr z.1.2 h)).symm
theorem may0c (h1 : ¬ nI (k % 3) = 0) (h : f (k - 1) < 0) : (0 : Int32) = fMay mi f ma k c q := (if_neg (fun z => by
  rcases z.2.1 with y | y
  · rw [y] at h1; exact h1 rfl
  · exact y h)).symm
theorem may0d (h : fM_ab mi ma c q = 0) : (0 : Int32) = fMay mi f ma k c q := (if_neg (fun z => z.2.2.1 h)).symm
theorem may0e (h : ¬ fM_in f (nI c) k = 0) : (0 : Int32) = fMay mi f ma k c q := (if_neg (fun z => h z.2.2.2)).symm
theorem may1a (h1 : ¬ mi 1 ≤ nI (k / 3)) (h2 : ¬ mi 2 ≤ nI (k % 3)) (h3 : nI (k % 3) = 0) (h4 : ¬ fM_ab mi ma c q = 0) (h5 : fM_in f (nI c) k = 0) : (1 : Int32) = fMay mi f ma k c q := by
  have e : k % 3 = 0 := nI_inj (by omega) (by decide) (h3.trans nI_0.symm)
  exact (if_pos ⟨⟨Int32.not_le.mp h1, Int32.not_le.mp h2⟩, Or.inl e, h4, h5⟩).symm
theorem may1b (h1 : ¬ mi 1 ≤ nI (k / 3)) (h2 : ¬ mi 2 ≤ nI (k % 3)) (h3 : ¬ f (k - 1) < 0) (h4 : ¬ fM_ab mi ma c q = 0) (h5 : fM_in f (nI c) k = 0) : (1 : Int32) = fMay mi f ma k c q := (if_pos ⟨⟨Int32.not_le.mp h1, Int32.not_le.mp h2⟩, Or.inr h3, h4, h5⟩).symm
theorem fMay_b : narrow .boolean (.int (fMay mi f ma k c q)) = .int (fMay mi f ma k c q) := by
  unfold fMay; split <;> rfl
end May
set_option maxHeartbeats 4000000 in
theorem kM_may_no {l : Launch} (hl : l.stackTraces = false) (d : Nat) (h : pm_H) (x y : Int32) : pm_Sem l d mM_may [.ref 31, .int x, .int (-1), .int y] h (some (.int 1)) h := by
  refine pm_sem hl mo_M_may ⟨_, rfl, rfl⟩ rfl rfl (Nat.le_of_ble_eq_true rfl) (fun K G hK hret => ?_)
  refine pm_iload_n dM_may_0 rfl (q := 1) rfl ?_
  refine pm_if_ge (tgt := 6) dM_may_1 rfl (q := 4) rfl (fun h => absurd h (by decide)) (fun _ => ?_)
  refine pm_iconst (x := 1) dM_may_4 (by decide) (q := 5) rfl ?_
  exact pm_retI hret dM_may_5 rfl
set_option maxHeartbeats 8000000 in
theorem kM_may {l : Launch} (hl : l.stackTraces = false) (d : Nat) (hd : 1 ≤ d) {h : pm_H} {mi : Nat → Int32} {ma : Nat → Nat → Int32} (HA : ModAt h mi ma) (k c : Nat) (hk : k < 9) (hc : c < 5) (q : Int32) : pm_Sem l d mM_may [.ref 31, .int (nI k), .int (nI c), .int q] h (some (.int (fMay mi (ma 9) ma k c q))) h := by
  refine pm_sem hl mo_M_may ⟨_, rfl, fMay_b⟩ rfl rfl (Nat.le_of_ble_eq_true rfl) (fun K G hK hret => ?_)
  obtain ⟨hM, hPg, hFr, hTo, hWt, hKi, hGo, hFo, hLe, hMa, hSl, hBo, hPo, hFo2, hTo2, hCr, hTr⟩ := id HA
  obtain ⟨t1, t2⟩ := div3_tab ⟨k, hk⟩
  dsimp only at t1 t2
  refine pm_iload_n dM_may_0 rfl (q := 1) rfl ?_
  refine pm_if_ge (tgt := 6) dM_may_1 rfl (q := 4) rfl (fun _ => ?_) (fun z => absurd (nI_z c (by omega)) z)
  refine pm_iload_n dM_may_6 rfl (q := 7) rfl ?_
  refine pm_iconst (x := 3) dM_may_7 (by decide) (q := 8) rfl ?_
  refine pm_idiv dM_may_8 (by decide) (q := 9) rfl ?_
  refine pm_topL t1 ?_
  refine pm_aload_n dM_may_9 rfl (q := 10) rfl ?_
  refine pm_get fl_M_7 dM_may_10 hM rfl (q := 13) rfl ?_
  refine pm_icmp_ge (tgt := 30) dM_may_13 rfl (q := 16) rfl (fun h13 => ?_) (fun h13 => ?_)
  · refine pm_iconst (x := 0) dM_may_30 (by decide) (q := 31) rfl ?_
    refine pm_istore dM_may_31 (by decide) (q := 33) rfl ?_
    refine pm_iload_n dM_may_33 rfl (q := 34) rfl ?_
    refine pm_iconst (x := 3) dM_may_34 (by decide) (q := 35) rfl ?_
    refine pm_irem dM_may_35 (by decide) (q := 36) rfl ?_
    refine pm_topL t2 ?_
    refine pm_if_eq (tgt := 50) dM_may_36 rfl (q := 39) rfl (fun h36 => ?_) (fun h36 => ?_)
    · refine pm_iconst (x := 1) dM_may_50 (by decide) (q := 51) rfl ?_
      refine pm_goto (tgt := 55) dM_may_51 rfl ?_
      refine pm_istore dM_may_55 (by decide) (q := 57) rfl ?_
      refine pm_iload dM_may_57 rfl (q := 59) rfl ?_
      refine pm_if_eq (tgt := 93) dM_may_59 rfl (q := 62) rfl (fun _ => ?_) (fun h => absurd h (by decide))
      refine pm_iconst (x := 0) dM_may_93 (by decide) (q := 94) rfl ?_
      exact pm_retI hret dM_may_94 (by first | exact may0a h13 | exact may0b h23 | exact may0c h36 h47 | exact may0d h73 | exact may0e h86 | exact may1a h13 h23 h36 h73 h86 | exact may1b h13 h23 h47 h73 h86)
    · refine pm_aload_n dM_may_39 rfl (q := 40) rfl ?_
      refine pm_get fl_M_57 dM_may_40 hM rfl (q := 43) rfl ?_
      refine pm_iload_n dM_may_43 rfl (q := 44) rfl ?_
      refine pm_iconst (x := 1) dM_may_44 (by decide) (q := 45) rfl ?_
      refine pm_isub dM_may_45 (q := 46) rfl ?_
      refine pm_topL (may_pred h36) ?_
      refine pm_ialdN dM_may_46 hSl (show k - 1 < 9 by omega) (Nat.le_of_ble_eq_true rfl) (q := 47) rfl ?_
      refine pm_if_lt (tgt := 54) dM_may_47 rfl (q := 50) rfl (fun h47 => ?_) (fun h47 => ?_)
      · refine pm_iconst (x := 0) dM_may_54 (by decide) (q := 55) rfl ?_
        refine pm_istore dM_may_55 (by decide) (q := 57) rfl ?_
        refine pm_iload dM_may_57 rfl (q := 59) rfl ?_
        refine pm_if_eq (tgt := 93) dM_may_59 rfl (q := 62) rfl (fun _ => ?_) (fun h => absurd h (by decide))
        refine pm_iconst (x := 0) dM_may_93 (by decide) (q := 94) rfl ?_
        exact pm_retI hret dM_may_94 (by first | exact may0a h13 | exact may0b h23 | exact may0c h36 h47 | exact may0d h73 | exact may0e h86 | exact may1a h13 h23 h36 h73 h86 | exact may1b h13 h23 h47 h73 h86)
      · refine pm_iconst (x := 1) dM_may_50 (by decide) (q := 51) rfl ?_
        refine pm_goto (tgt := 55) dM_may_51 rfl ?_
        refine pm_istore dM_may_55 (by decide) (q := 57) rfl ?_
        refine pm_iload dM_may_57 rfl (q := 59) rfl ?_
        refine pm_if_eq (tgt := 93) dM_may_59 rfl (q := 62) rfl (fun _ => ?_) (fun h => absurd h (by decide))
        refine pm_iconst (x := 0) dM_may_93 (by decide) (q := 94) rfl ?_
        exact pm_retI hret dM_may_94 (by first | exact may0a h13 | exact may0b h23 | exact may0c h36 h47 | exact may0d h73 | exact may0e h86 | exact may1a h13 h23 h36 h73 h86 | exact may1b h13 h23 h47 h73 h86)
  · refine pm_iload_n dM_may_16 rfl (q := 17) rfl ?_
    refine pm_iconst (x := 3) dM_may_17 (by decide) (q := 18) rfl ?_
    refine pm_irem dM_may_18 (by decide) (q := 19) rfl ?_
    refine pm_topL t2 ?_
    refine pm_aload_n dM_may_19 rfl (q := 20) rfl ?_
    refine pm_get fl_M_13 dM_may_20 hM rfl (q := 23) rfl ?_
    refine pm_icmp_ge (tgt := 30) dM_may_23 rfl (q := 26) rfl (fun h23 => ?_) (fun h23 => ?_)
    · refine pm_iconst (x := 0) dM_may_30 (by decide) (q := 31) rfl ?_
      refine pm_istore dM_may_31 (by decide) (q := 33) rfl ?_
      refine pm_iload_n dM_may_33 rfl (q := 34) rfl ?_
      refine pm_iconst (x := 3) dM_may_34 (by decide) (q := 35) rfl ?_
      refine pm_irem dM_may_35 (by decide) (q := 36) rfl ?_
      refine pm_topL t2 ?_
      refine pm_if_eq (tgt := 50) dM_may_36 rfl (q := 39) rfl (fun h36 => ?_) (fun h36 => ?_)
      · refine pm_iconst (x := 1) dM_may_50 (by decide) (q := 51) rfl ?_
        refine pm_goto (tgt := 55) dM_may_51 rfl ?_
        refine pm_istore dM_may_55 (by decide) (q := 57) rfl ?_
        refine pm_iload dM_may_57 rfl (q := 59) rfl ?_
        refine pm_if_eq (tgt := 93) dM_may_59 rfl (q := 62) rfl (fun _ => ?_) (fun h => absurd h (by decide))
        refine pm_iconst (x := 0) dM_may_93 (by decide) (q := 94) rfl ?_
        exact pm_retI hret dM_may_94 (by first | exact may0a h13 | exact may0b h23 | exact may0c h36 h47 | exact may0d h73 | exact may0e h86 | exact may1a h13 h23 h36 h73 h86 | exact may1b h13 h23 h47 h73 h86)
      · refine pm_aload_n dM_may_39 rfl (q := 40) rfl ?_
        refine pm_get fl_M_57 dM_may_40 hM rfl (q := 43) rfl ?_
        refine pm_iload_n dM_may_43 rfl (q := 44) rfl ?_
        refine pm_iconst (x := 1) dM_may_44 (by decide) (q := 45) rfl ?_
        refine pm_isub dM_may_45 (q := 46) rfl ?_
        refine pm_topL (may_pred h36) ?_
        refine pm_ialdN dM_may_46 hSl (show k - 1 < 9 by omega) (Nat.le_of_ble_eq_true rfl) (q := 47) rfl ?_
        refine pm_if_lt (tgt := 54) dM_may_47 rfl (q := 50) rfl (fun h47 => ?_) (fun h47 => ?_)
        · refine pm_iconst (x := 0) dM_may_54 (by decide) (q := 55) rfl ?_
          refine pm_istore dM_may_55 (by decide) (q := 57) rfl ?_
          refine pm_iload dM_may_57 rfl (q := 59) rfl ?_
          refine pm_if_eq (tgt := 93) dM_may_59 rfl (q := 62) rfl (fun _ => ?_) (fun h => absurd h (by decide))
          refine pm_iconst (x := 0) dM_may_93 (by decide) (q := 94) rfl ?_
          exact pm_retI hret dM_may_94 (by first | exact may0a h13 | exact may0b h23 | exact may0c h36 h47 | exact may0d h73 | exact may0e h86 | exact may1a h13 h23 h36 h73 h86 | exact may1b h13 h23 h47 h73 h86)
        · refine pm_iconst (x := 1) dM_may_50 (by decide) (q := 51) rfl ?_
          refine pm_goto (tgt := 55) dM_may_51 rfl ?_
          refine pm_istore dM_may_55 (by decide) (q := 57) rfl ?_
          refine pm_iload dM_may_57 rfl (q := 59) rfl ?_
          refine pm_if_eq (tgt := 93) dM_may_59 rfl (q := 62) rfl (fun _ => ?_) (fun h => absurd h (by decide))
          refine pm_iconst (x := 0) dM_may_93 (by decide) (q := 94) rfl ?_
          exact pm_retI hret dM_may_94 (by first | exact may0a h13 | exact may0b h23 | exact may0c h36 h47 | exact may0d h73 | exact may0e h86 | exact may1a h13 h23 h36 h73 h86 | exact may1b h13 h23 h47 h73 h86)
    · refine pm_iconst (x := 1) dM_may_26 (by decide) (q := 27) rfl ?_
      refine pm_goto (tgt := 31) dM_may_27 rfl ?_
      refine pm_istore dM_may_31 (by decide) (q := 33) rfl ?_
      refine pm_iload_n dM_may_33 rfl (q := 34) rfl ?_
      refine pm_iconst (x := 3) dM_may_34 (by decide) (q := 35) rfl ?_
      refine pm_irem dM_may_35 (by decide) (q := 36) rfl ?_
      refine pm_topL t2 ?_
      refine pm_if_eq (tgt := 50) dM_may_36 rfl (q := 39) rfl (fun h36 => ?_) (fun h36 => ?_)
      · refine pm_iconst (x := 1) dM_may_50 (by decide) (q := 51) rfl ?_
        refine pm_goto (tgt := 55) dM_may_51 rfl ?_
        refine pm_istore dM_may_55 (by decide) (q := 57) rfl ?_
        refine pm_iload dM_may_57 rfl (q := 59) rfl ?_
        refine pm_if_eq (tgt := 93) dM_may_59 rfl (q := 62) rfl (fun h => absurd h (by decide)) (fun _ => ?_)
        refine pm_iload dM_may_62 rfl (q := 64) rfl ?_
        refine pm_if_eq (tgt := 93) dM_may_64 rfl (q := 67) rfl (fun h => absurd h (by decide)) (fun _ => ?_)
        refine pm_aload_n dM_may_67 rfl (q := 68) rfl ?_
        refine pm_iload_n dM_may_68 rfl (q := 69) rfl ?_
        refine pm_iload_n dM_may_69 rfl (q := 70) rfl ?_
        refine pm_cV2i hK (kM_isAboard hl 0 HA c hc q) mo_M_isAboard im_M_isAboard se_M_isAboard lk_M_125 dM_may_70 (by omega) (Nat.le_of_ble_eq_true rfl) (Nat.zero_le _) (Nat.zero_le _) hM rfl rfl (q := 73) rfl ?_
        refine pm_if_eq (tgt := 93) dM_may_73 rfl (q := 76) rfl (fun h73 => ?_) (fun h73 => ?_)
        · refine pm_iconst (x := 0) dM_may_93 (by decide) (q := 94) rfl ?_
          exact pm_retI hret dM_may_94 (by first | exact may0a h13 | exact may0b h23 | exact may0c h36 h47 | exact may0d h73 | exact may0e h86 | exact may1a h13 h23 h36 h73 h86 | exact may1b h13 h23 h47 h73 h86)
        · refine pm_aload_n dM_may_76 rfl (q := 77) rfl ?_
          refine pm_aload_n dM_may_77 rfl (q := 78) rfl ?_
          refine pm_get fl_M_57 dM_may_78 hM rfl (q := 81) rfl ?_
          refine pm_iload_n dM_may_81 rfl (q := 82) rfl ?_
          refine pm_iload_n dM_may_82 rfl (q := 83) rfl ?_
          refine pm_cV3i hK (kM_isIn hl 0 HA hSl (nI c) k (by omega)) mo_M_isIn im_M_isIn se_M_isIn lk_M_129 dM_may_83 (by omega) (Nat.le_of_ble_eq_true rfl) (Nat.zero_le _) (Nat.zero_le _) hM rfl rfl (q := 86) rfl ?_
          refine pm_if_ne (tgt := 93) dM_may_86 rfl (q := 89) rfl (fun h86 => ?_) (fun h86 => ?_)
          · refine pm_iconst (x := 0) dM_may_93 (by decide) (q := 94) rfl ?_
            exact pm_retI hret dM_may_94 (by first | exact may0a h13 | exact may0b h23 | exact may0c h36 h47 | exact may0d h73 | exact may0e h86 | exact may1a h13 h23 h36 h73 h86 | exact may1b h13 h23 h47 h73 h86)
          · refine pm_iconst (x := 1) dM_may_89 (by decide) (q := 90) rfl ?_
            refine pm_goto (tgt := 94) dM_may_90 rfl ?_
            exact pm_retI hret dM_may_94 (by first | exact may0a h13 | exact may0b h23 | exact may0c h36 h47 | exact may0d h73 | exact may0e h86 | exact may1a h13 h23 h36 h73 h86 | exact may1b h13 h23 h47 h73 h86)
      · refine pm_aload_n dM_may_39 rfl (q := 40) rfl ?_
        refine pm_get fl_M_57 dM_may_40 hM rfl (q := 43) rfl ?_
        refine pm_iload_n dM_may_43 rfl (q := 44) rfl ?_
        refine pm_iconst (x := 1) dM_may_44 (by decide) (q := 45) rfl ?_
        refine pm_isub dM_may_45 (q := 46) rfl ?_
        refine pm_topL (may_pred h36) ?_
        refine pm_ialdN dM_may_46 hSl (show k - 1 < 9 by omega) (Nat.le_of_ble_eq_true rfl) (q := 47) rfl ?_
        refine pm_if_lt (tgt := 54) dM_may_47 rfl (q := 50) rfl (fun h47 => ?_) (fun h47 => ?_)
        · refine pm_iconst (x := 0) dM_may_54 (by decide) (q := 55) rfl ?_
          refine pm_istore dM_may_55 (by decide) (q := 57) rfl ?_
          refine pm_iload dM_may_57 rfl (q := 59) rfl ?_
          refine pm_if_eq (tgt := 93) dM_may_59 rfl (q := 62) rfl (fun h => absurd h (by decide)) (fun _ => ?_)
          refine pm_iload dM_may_62 rfl (q := 64) rfl ?_
          refine pm_if_eq (tgt := 93) dM_may_64 rfl (q := 67) rfl (fun _ => ?_) (fun h => absurd h (by decide))
          refine pm_iconst (x := 0) dM_may_93 (by decide) (q := 94) rfl ?_
          exact pm_retI hret dM_may_94 (by first | exact may0a h13 | exact may0b h23 | exact may0c h36 h47 | exact may0d h73 | exact may0e h86 | exact may1a h13 h23 h36 h73 h86 | exact may1b h13 h23 h47 h73 h86)
        · refine pm_iconst (x := 1) dM_may_50 (by decide) (q := 51) rfl ?_
          refine pm_goto (tgt := 55) dM_may_51 rfl ?_
          refine pm_istore dM_may_55 (by decide) (q := 57) rfl ?_
          refine pm_iload dM_may_57 rfl (q := 59) rfl ?_
          refine pm_if_eq (tgt := 93) dM_may_59 rfl (q := 62) rfl (fun h => absurd h (by decide)) (fun _ => ?_)
          refine pm_iload dM_may_62 rfl (q := 64) rfl ?_
          refine pm_if_eq (tgt := 93) dM_may_64 rfl (q := 67) rfl (fun h => absurd h (by decide)) (fun _ => ?_)
          refine pm_aload_n dM_may_67 rfl (q := 68) rfl ?_
          refine pm_iload_n dM_may_68 rfl (q := 69) rfl ?_
          refine pm_iload_n dM_may_69 rfl (q := 70) rfl ?_
          refine pm_cV2i hK (kM_isAboard hl 0 HA c hc q) mo_M_isAboard im_M_isAboard se_M_isAboard lk_M_125 dM_may_70 (by omega) (Nat.le_of_ble_eq_true rfl) (Nat.zero_le _) (Nat.zero_le _) hM rfl rfl (q := 73) rfl ?_
          refine pm_if_eq (tgt := 93) dM_may_73 rfl (q := 76) rfl (fun h73 => ?_) (fun h73 => ?_)
          · refine pm_iconst (x := 0) dM_may_93 (by decide) (q := 94) rfl ?_
            exact pm_retI hret dM_may_94 (by first | exact may0a h13 | exact may0b h23 | exact may0c h36 h47 | exact may0d h73 | exact may0e h86 | exact may1a h13 h23 h36 h73 h86 | exact may1b h13 h23 h47 h73 h86)
          · refine pm_aload_n dM_may_76 rfl (q := 77) rfl ?_
            refine pm_aload_n dM_may_77 rfl (q := 78) rfl ?_
            refine pm_get fl_M_57 dM_may_78 hM rfl (q := 81) rfl ?_
            refine pm_iload_n dM_may_81 rfl (q := 82) rfl ?_
            refine pm_iload_n dM_may_82 rfl (q := 83) rfl ?_
            refine pm_cV3i hK (kM_isIn hl 0 HA hSl (nI c) k (by omega)) mo_M_isIn im_M_isIn se_M_isIn lk_M_129 dM_may_83 (by omega) (Nat.le_of_ble_eq_true rfl) (Nat.zero_le _) (Nat.zero_le _) hM rfl rfl (q := 86) rfl ?_
            refine pm_if_ne (tgt := 93) dM_may_86 rfl (q := 89) rfl (fun h86 => ?_) (fun h86 => ?_)
            · refine pm_iconst (x := 0) dM_may_93 (by decide) (q := 94) rfl ?_
              exact pm_retI hret dM_may_94 (by first | exact may0a h13 | exact may0b h23 | exact may0c h36 h47 | exact may0d h73 | exact may0e h86 | exact may1a h13 h23 h36 h73 h86 | exact may1b h13 h23 h47 h73 h86)
            · refine pm_iconst (x := 1) dM_may_89 (by decide) (q := 90) rfl ?_
              refine pm_goto (tgt := 94) dM_may_90 rfl ?_
              exact pm_retI hret dM_may_94 (by first | exact may0a h13 | exact may0b h23 | exact may0c h36 h47 | exact may0d h73 | exact may0e h86 | exact may1a h13 h23 h36 h73 h86 | exact may1b h13 h23 h47 h73 h86)
def okM (mi : Nat → Int32) (ma : Nat → Nat → Int32) (S q : Nat) (L : pL) : Bool := decide (¬ fM_all mi (sM L) ma (nI q) 5 = 0 ∧ ¬ fM_so mi (sM L) ma S S = 0)
/-- the model's arrays while it lists: the slots, how many, which -/
def maL (ma : Nat → Nat → Int32) (q : Nat) (f : Nat → Int32) (xs : List pL) : Nat → Nat → Int32 := up1 (up1 (up1 ma 9 f) 8 (upd (ma 8) q (nI xs.length))) 6 (lsW (ma 6) (2600 * q) (xs.map cM))
theorem iI_dec (x : Int32) : x + Int32.ofInt (-1) = x - 1 := by
  have e : Int32.ofInt (-1) = -1 := rfl
  rw [e, Int32.sub_eq_add_neg]
theorem tV_lt : ∀ c : Fin 7, (5 : Int32) ≤ nI c.val - 1 ↔ c.val = 6 := by decide
theorem tV_eq : ∀ c : Fin 7, nI c.val - 1 = 5 ↔ c.val = 6 := by decide
theorem tV_inc : ∀ c : Fin 7, nI c.val - 1 + 1 = nI (c.val + 1) - 1 := by decide
theorem k26 (q j : Nat) : 2600 * nI q + nI j = nI (2600 * q + j) := by
  rw [show (2600 : Int32) = nI 2600 from rfl, nI_mulm, nI_addm]
theorem upd_upd (f : Nat → Int32) (k : Nat) (x y : Int32) : upd (upd f k x) k y = upd f k y := by
  funext j
  unfold upd
  by_cases h : j = k
  · rw [if_pos h, if_pos h]
  · rw [if_neg h, if_neg h, if_neg h]
theorem maL_nil (ma : Nat → Nat → Int32) (q : Nat) (f : Nat → Int32) : maL ma q f [] = up1 (up1 ma 9 f) 8 (upd (ma 8) q 0) := by
  show up1 (up1 (up1 ma 9 f) 8 (upd (ma 8) q 0)) 6 (ma 6) = _
  exact up1_same (up1 (up1 ma 9 f) 8 (upd (ma 8) q 0)) 6
theorem maL_snoc (ma : Nat → Nat → Int32) (q : Nat) (f : Nat → Int32) (xs : List pL) (L : pL) : maL ma q f (xs ++ [L]) = up1 (up1 (maL ma q f xs) 6 (upd (lsW (ma 6) (2600 * q) (xs.map cM)) (2600 * q + xs.length) (cM L))) 8 (upd (upd (ma 8) q (nI xs.length)) q (nI (xs.length + 1))) := by
  unfold maL
  rw [List.map_append, List.map_singleton, lsW_snoc, List.length_map, List.length_append, List.length_singleton, upd_upd]
  funext j
  unfold up1
  by_cases h6 : j = 6
  · subst h6; rfl
  · by_cases h8 : j = 8
    · subst h8; rfl
    · simp only [h6, h8, if_false]
theorem fM_so_L {mi f : Nat → Int32} {ma : Nat → Nat → Int32} {S q : Nat} {g : Nat → Int32} {xs : List pL} : fM_so mi f (maL ma q g xs) S S = fM_so mi f ma S S := fM_so_cg (mi := mi) (mi' := mi) (ma := (maL ma q g xs)) (ma' := ma) rfl rfl rfl rfl rfl rfl rfl S
theorem fM_all_L {mi f : Nat → Int32} {ma : Nat → Nat → Int32} {q : Nat} {g : Nat → Int32} {xs : List pL} : fM_all mi f (maL ma q g xs) (nI q) 5 = fM_all mi f ma (nI q) 5 := fM_all_cg (mi := mi) (mi' := mi) (ma := (maL ma q g xs)) (ma' := ma) rfl rfl rfl rfl (nI q) 5
theorem fMay_L {mi f : Nat → Int32} {ma : Nat → Nat → Int32} {q k c : Nat} {g : Nat → Int32} {xs : List pL} : fMay mi f (maL ma q g xs) k c (nI q) = fMay mi f ma k c (nI q) := by
  unfold fMay
  rw [fM_ab_cg (mi := mi) (mi' := mi) (ma := (maL ma q g xs)) (ma' := ma) rfl rfl rfl rfl c (nI q)]
set_option maxHeartbeats 4000000 in
theorem la_head {K : pm_X → Prop} {G : pm_X → State → Prop} {pd : Int32} {si : Nat → Int32} {sa : Nat → Nat → Int32} {hv : Nat → Int32} {ha : Nat → Nat → Nat → Int32} {sl : Int32} {sc : Nat → Nat → Int32} {pl : Int32} {pa : Nat → Nat → Int32} {mi : Nat → Int32} {ma : Nat → Nat → Int32} {tl : pm_H} {q : Nat} {f : Nat → Int32} {xs : List pL} {k : Nat} {v w : Int32} (hk : k < 9) (hf : f k = v) (hvw : v + 1 = w) (h31 : pm_Go mM_listAll K G 31 [some (.ref 31), some (.int (nI q)), some (.int (nI k))] [] (cH pd si sa hv ha sl sc pl pa (mH mi (maL ma q (upd f k w) xs) tl)) 0 0) : pm_Go mM_listAll K G 17 [some (.ref 31), some (.int (nI q)), some (.int (nI k))] [] (cH pd si sa hv ha sl sc pl pa (mH mi (maL ma q f xs) tl)) 0 0 := by
  refine pm_iload_n dM_listAll_17 rfl (q := 18) rfl ?_
  refine pm_if_lt (tgt := 162) dM_listAll_18 rfl (q := 21) rfl (fun z => absurd z (nI_pos (by omega))) (fun _ => ?_)
  refine pm_aload_n dM_listAll_21 rfl (q := 22) rfl ?_
  refine pm_get fl_M_57 dM_listAll_22 rfl rfl (q := 25) rfl ?_
  refine pm_iload_n dM_listAll_25 rfl (q := 26) rfl ?_
  refine pm_dup2 dM_listAll_26 rfl rfl (q := 27) rfl ?_
  refine pm_ialdN dM_listAll_27 rfl hk (Nat.le_of_ble_eq_true rfl) (q := 28) rfl ?_
  refine pm_topL (y := v) hf ?_
  refine pm_iconst (x := 1) dM_listAll_28 (by decide) (q := 29) rfl ?_
  refine pm_iadd dM_listAll_29 (q := 30) rfl ?_
  refine pm_topL hvw ?_
  refine pm_iastN dM_listAll_30 rfl hk (Nat.le_of_ble_eq_true rfl) (q := 31) rfl ?_
  refine pm_heap (g := (cH pd si sa hv ha sl sc pl pa (mH mi (maL ma q (upd f k w) xs) tl))) rfl ?_
  exact h31
set_option maxHeartbeats 4000000 in
theorem la_end {K : pm_X → Prop} {G : pm_X → State → Prop} {pd : Int32} {si : Nat → Int32} {sa : Nat → Nat → Int32} {hv : Nat → Int32} {ha : Nat → Nat → Nat → Int32} {sl : Int32} {sc : Nat → Nat → Int32} {pl : Int32} {pa : Nat → Nat → Int32} {mi : Nat → Int32} {ma : Nat → Nat → Int32} {tl : pm_H} {q : Nat} {f : Nat → Int32} {xs : List pL} {k : Nat} (hk : k < 9) (hf : f k = 5) (h17 : pm_Go mM_listAll K G 17 [some (.ref 31), some (.int (nI q)), some (.int (nI k - 1))] [] (cH pd si sa hv ha sl sc pl pa (mH mi (maL ma q f xs) tl)) 0 0) : pm_Go mM_listAll K G 31 [some (.ref 31), some (.int (nI q)), some (.int (nI k))] [] (cH pd si sa hv ha sl sc pl pa (mH mi (maL ma q f xs) tl)) 0 0 := by
  refine pm_aload_n dM_listAll_31 rfl (q := 32) rfl ?_
  refine pm_get fl_M_57 dM_listAll_32 rfl rfl (q := 35) rfl ?_
  refine pm_iload_n dM_listAll_35 rfl (q := 36) rfl ?_
  refine pm_ialdN dM_listAll_36 rfl hk (Nat.le_of_ble_eq_true rfl) (q := 37) rfl ?_
  refine pm_topL (y := 5) hf ?_
  refine pm_iconst (x := 5) dM_listAll_37 (by decide) (q := 38) rfl ?_
  refine pm_icmp_ge (tgt := 69) dM_listAll_38 rfl (q := 41) rfl (fun _ => ?_) (fun z => absurd (by decide) z)
  refine pm_aload_n dM_listAll_69 rfl (q := 70) rfl ?_
  refine pm_get fl_M_57 dM_listAll_70 rfl rfl (q := 73) rfl ?_
  refine pm_iload_n dM_listAll_73 rfl (q := 74) rfl ?_
  refine pm_ialdN dM_listAll_74 rfl hk (Nat.le_of_ble_eq_true rfl) (q := 75) rfl ?_
  refine pm_topL (y := 5) hf ?_
  refine pm_iconst (x := 5) dM_listAll_75 (by decide) (q := 76) rfl ?_
  refine pm_icmp_ne (tgt := 85) dM_listAll_76 rfl (q := 79) rfl (fun z => absurd rfl z) (fun _ => ?_)
  refine pm_iincL dM_listAll_79 rfl (by decide) (y := nI k - 1) (iI_dec _) (q := 82) rfl ?_
  refine pm_goto (tgt := 17) dM_listAll_82 rfl ?_
  exact h17
set_option maxHeartbeats 4000000 in
theorem la_yes {l : Launch} {d : Nat} {K : pm_X → Prop} {G : pm_X → State → Prop} (hK : ∀ X, K X → pm_Kd l d 0 0 X) {pd : Int32} {si : Nat → Int32} {sa : Nat → Nat → Int32} {hv : Nat → Int32} {ha : Nat → Nat → Nat → Int32} {sl : Int32} {sc : Nat → Nat → Int32} {pl : Int32} {pa : Nat → Nat → Int32} {mi : Nat → Int32} {ma : Nat → Nat → Int32} {tl : pm_H} {q : Nat} {f : Nat → Int32} {xs : List pL} (hd : 3 ≤ d) {k : Nat} {v : Int32} (hk : k < 9) (hf : f k = v) (lt5 : ¬ 5 ≤ v) (ne5 : ¬ v = 5) (w : pm_Sem l 1 mM_may [.ref 31, .int (nI k), .int v, .int (nI q)] (cH pd si sa hv ha sl sc pl pa (mH mi (maL ma q f xs) tl)) (some (.int 1)) (cH pd si sa hv ha sl sc pl pa (mH mi (maL ma q f xs) tl))) (nx : pm_Go mM_listAll K G 85 [some (.ref 31), some (.int (nI q)), some (.int (nI k))] [] (cH pd si sa hv ha sl sc pl pa (mH mi (maL ma q f xs) tl)) 0 0) : pm_Go mM_listAll K G 31 [some (.ref 31), some (.int (nI q)), some (.int (nI k))] [] (cH pd si sa hv ha sl sc pl pa (mH mi (maL ma q f xs) tl)) 0 0 := by
  refine pm_aload_n dM_listAll_31 rfl (q := 32) rfl ?_
  refine pm_get fl_M_57 dM_listAll_32 rfl rfl (q := 35) rfl ?_
  refine pm_iload_n dM_listAll_35 rfl (q := 36) rfl ?_
  refine pm_ialdN dM_listAll_36 rfl hk (Nat.le_of_ble_eq_true rfl) (q := 37) rfl ?_
  refine pm_topL (y := v) hf ?_
  refine pm_iconst (x := 5) dM_listAll_37 (by decide) (q := 38) rfl ?_
  refine pm_icmp_ge (tgt := 69) dM_listAll_38 rfl (q := 41) rfl (fun z => absurd z lt5) (fun _ => ?_)
  refine pm_aload_n dM_listAll_41 rfl (q := 42) rfl ?_
  refine pm_iload_n dM_listAll_42 rfl (q := 43) rfl ?_
  refine pm_aload_n dM_listAll_43 rfl (q := 44) rfl ?_
  refine pm_get fl_M_57 dM_listAll_44 rfl rfl (q := 47) rfl ?_
  refine pm_iload_n dM_listAll_47 rfl (q := 48) rfl ?_
  refine pm_ialdN dM_listAll_48 rfl hk (Nat.le_of_ble_eq_true rfl) (q := 49) rfl ?_
  refine pm_topL (y := v) hf ?_
  refine pm_iload_n dM_listAll_49 rfl (q := 50) rfl ?_
  refine pm_cV3i hK w mo_M_may im_M_may se_M_may lk_M_132 dM_listAll_50 (by omega) (Nat.le_of_ble_eq_true rfl) (Nat.zero_le _) (Nat.zero_le _) rfl rfl rfl (q := 53) rfl ?_
  refine pm_if_ne (tgt := 69) dM_listAll_53 rfl (q := 56) rfl (fun _ => ?_) (fun z => absurd z (by decide))
  refine pm_aload_n dM_listAll_69 rfl (q := 70) rfl ?_
  refine pm_get fl_M_57 dM_listAll_70 rfl rfl (q := 73) rfl ?_
  refine pm_iload_n dM_listAll_73 rfl (q := 74) rfl ?_
  refine pm_ialdN dM_listAll_74 rfl hk (Nat.le_of_ble_eq_true rfl) (q := 75) rfl ?_
  refine pm_topL (y := v) hf ?_
  refine pm_iconst (x := 5) dM_listAll_75 (by decide) (q := 76) rfl ?_
  refine pm_icmp_ne (tgt := 85) dM_listAll_76 rfl (q := 79) rfl (fun _ => ?_) (fun z => absurd z ne5)
  exact nx
set_option maxHeartbeats 4000000 in
theorem la_no {l : Launch} {d : Nat} {K : pm_X → Prop} {G : pm_X → State → Prop} (hK : ∀ X, K X → pm_Kd l d 0 0 X) {pd : Int32} {si : Nat → Int32} {sa : Nat → Nat → Int32} {hv : Nat → Int32} {ha : Nat → Nat → Nat → Int32} {sl : Int32} {sc : Nat → Nat → Int32} {pl : Int32} {pa : Nat → Nat → Int32} {mi : Nat → Int32} {ma : Nat → Nat → Int32} {tl : pm_H} {q : Nat} {f : Nat → Int32} {xs : List pL} (hd : 3 ≤ d) {k : Nat} {v y : Int32} (hk : k < 9) (hf : f k = v) (lt5 : ¬ 5 ≤ v) (hy : v + 1 = y) (w : pm_Sem l 1 mM_may [.ref 31, .int (nI k), .int v, .int (nI q)] (cH pd si sa hv ha sl sc pl pa (mH mi (maL ma q f xs) tl)) (some (.int 0)) (cH pd si sa hv ha sl sc pl pa (mH mi (maL ma q f xs) tl))) (nx : pm_Go mM_listAll K G 31 [some (.ref 31), some (.int (nI q)), some (.int (nI k))] [] (cH pd si sa hv ha sl sc pl pa (mH mi (maL ma q (upd f k y) xs) tl)) 0 0) : pm_Go mM_listAll K G 31 [some (.ref 31), some (.int (nI q)), some (.int (nI k))] [] (cH pd si sa hv ha sl sc pl pa (mH mi (maL ma q f xs) tl)) 0 0 := by
  refine pm_aload_n dM_listAll_31 rfl (q := 32) rfl ?_
  refine pm_get fl_M_57 dM_listAll_32 rfl rfl (q := 35) rfl ?_
  refine pm_iload_n dM_listAll_35 rfl (q := 36) rfl ?_
  refine pm_ialdN dM_listAll_36 rfl hk (Nat.le_of_ble_eq_true rfl) (q := 37) rfl ?_
  refine pm_topL (y := v) hf ?_
  refine pm_iconst (x := 5) dM_listAll_37 (by decide) (q := 38) rfl ?_
  refine pm_icmp_ge (tgt := 69) dM_listAll_38 rfl (q := 41) rfl (fun z => absurd z lt5) (fun _ => ?_)
  refine pm_aload_n dM_listAll_41 rfl (q := 42) rfl ?_
  refine pm_iload_n dM_listAll_42 rfl (q := 43) rfl ?_
  refine pm_aload_n dM_listAll_43 rfl (q := 44) rfl ?_
  refine pm_get fl_M_57 dM_listAll_44 rfl rfl (q := 47) rfl ?_
  refine pm_iload_n dM_listAll_47 rfl (q := 48) rfl ?_
  refine pm_ialdN dM_listAll_48 rfl hk (Nat.le_of_ble_eq_true rfl) (q := 49) rfl ?_
  refine pm_topL (y := v) hf ?_
  refine pm_iload_n dM_listAll_49 rfl (q := 50) rfl ?_
  refine pm_cV3i hK w mo_M_may im_M_may se_M_may lk_M_132 dM_listAll_50 (by omega) (Nat.le_of_ble_eq_true rfl) (Nat.zero_le _) (Nat.zero_le _) rfl rfl rfl (q := 53) rfl ?_
  refine pm_if_ne (tgt := 69) dM_listAll_53 rfl (q := 56) rfl (fun z => absurd rfl z) (fun _ => ?_)
  refine pm_aload_n dM_listAll_56 rfl (q := 57) rfl ?_
  refine pm_get fl_M_57 dM_listAll_57 rfl rfl (q := 60) rfl ?_
  refine pm_iload_n dM_listAll_60 rfl (q := 61) rfl ?_
  refine pm_dup2 dM_listAll_61 rfl rfl (q := 62) rfl ?_
  refine pm_ialdN dM_listAll_62 rfl hk (Nat.le_of_ble_eq_true rfl) (q := 63) rfl ?_
  refine pm_topL (y := v) hf ?_
  refine pm_iconst (x := 1) dM_listAll_63 (by decide) (q := 64) rfl ?_
  refine pm_iadd dM_listAll_64 (q := 65) rfl ?_
  refine pm_topL hy ?_
  refine pm_iastN dM_listAll_65 rfl hk (Nat.le_of_ble_eq_true rfl) (q := 66) rfl ?_
  refine pm_heap (g := (cH pd si sa hv ha sl sc pl pa (mH mi (maL ma q (upd f k y) xs) tl))) rfl ?_
  refine pm_goto (tgt := 31) dM_listAll_66 rfl ?_
  exact nx
set_option maxHeartbeats 4000000 in
theorem la_down {K : pm_X → Prop} {G : pm_X → State → Prop} {pd : Int32} {si : Nat → Int32} {sa : Nat → Nat → Int32} {hv : Nat → Int32} {ha : Nat → Nat → Nat → Int32} {sl : Int32} {sc : Nat → Nat → Int32} {pl : Int32} {pa : Nat → Nat → Int32} {mi : Nat → Int32} {ma : Nat → Nat → Int32} {tl : pm_H} {q : Nat} {f : Nat → Int32} {xs : List pL} {k : Nat} (hk8 : k < 8) (nx : pm_Go mM_listAll K G 17 [some (.ref 31), some (.int (nI q)), some (.int (nI (k + 1)))] [] (cH pd si sa hv ha sl sc pl pa (mH mi (maL ma q (upd f (k + 1) (-2)) xs) tl)) 0 0) : pm_Go mM_listAll K G 85 [some (.ref 31), some (.int (nI q)), some (.int (nI k))] [] (cH pd si sa hv ha sl sc pl pa (mH mi (maL ma q f xs) tl)) 0 0 := by
  have hk : k + 1 < 9 := by omega
  refine pm_iload_n dM_listAll_85 rfl (q := 86) rfl ?_
  refine pm_bipush (x := 8) dM_listAll_86 (by decide) (q := 88) rfl ?_
  refine pm_icmp_ge (tgt := 105) dM_listAll_88 rfl (q := 91) rfl (fun z => absurd z (show ¬ nI 8 ≤ nI k from nI_ge hk8 (by decide))) (fun _ => ?_)
  refine pm_iincL dM_listAll_91 rfl (by decide) (y := nI (k + 1)) (by rw [nI_succ k]; rfl) (q := 94) rfl ?_
  refine pm_aload_n dM_listAll_94 rfl (q := 95) rfl ?_
  refine pm_get fl_M_57 dM_listAll_95 rfl rfl (q := 98) rfl ?_
  refine pm_iload_n dM_listAll_98 rfl (q := 99) rfl ?_
  refine pm_bipush (x := -2) dM_listAll_99 (by decide) (q := 101) rfl ?_
  refine pm_iastN dM_listAll_101 rfl hk (Nat.le_of_ble_eq_true rfl) (q := 102) rfl ?_
  refine pm_heap (g := (cH pd si sa hv ha sl sc pl pa (mH mi (maL ma q (upd f (k + 1) (-2)) xs) tl))) rfl ?_
  refine pm_goto (tgt := 17) dM_listAll_102 rfl ?_
  exact nx
set_option maxHeartbeats 4000000 in
theorem la_leaf1 {l : Launch} {d : Nat} {K : pm_X → Prop} {G : pm_X → State → Prop} (hK : ∀ X, K X → pm_Kd l d 0 0 X) {pd : Int32} {si : Nat → Int32} {sa : Nat → Nat → Int32} {hv : Nat → Int32} {ha : Nat → Nat → Nat → Int32} {sl : Int32} {sc : Nat → Nat → Int32} {pl : Int32} {pa : Nat → Nat → Int32} {mi : Nat → Int32} {ma : Nat → Nat → Int32} {tl : pm_H} {q : Nat} {f : Nat → Int32} {xs : List pL} (hd : 3 ≤ d) {a : Int32} (w1 : pm_Sem l 1 mM_hasAll [.ref 31, .ref 41, .int (nI q)] (cH pd si sa hv ha sl sc pl pa (mH mi (maL ma q f xs) tl)) (some (.int a)) (cH pd si sa hv ha sl sc pl pa (mH mi (maL ma q f xs) tl))) (k1 : a = 0) (nx : pm_Go mM_listAll K G 17 [some (.ref 31), some (.int (nI q)), some (.int (nI 8))] [] (cH pd si sa hv ha sl sc pl pa (mH mi (maL ma q f xs) tl)) 0 0) : pm_Go mM_listAll K G 85 [some (.ref 31), some (.int (nI q)), some (.int (nI 8))] [] (cH pd si sa hv ha sl sc pl pa (mH mi (maL ma q f xs) tl)) 0 0 := by
  refine pm_iload_n dM_listAll_85 rfl (q := 86) rfl ?_
  refine pm_bipush (x := 8) dM_listAll_86 (by decide) (q := 88) rfl ?_
  refine pm_icmp_ge (tgt := 105) dM_listAll_88 rfl (q := 91) rfl (fun _ => ?_) (fun z => absurd (by decide) z)
  refine pm_aload_n dM_listAll_105 rfl (q := 106) rfl ?_
  refine pm_aload_n dM_listAll_106 rfl (q := 107) rfl ?_
  refine pm_get fl_M_57 dM_listAll_107 rfl rfl (q := 110) rfl ?_
  refine pm_iload_n dM_listAll_110 rfl (q := 111) rfl ?_
  refine pm_cV2i hK (w1) mo_M_hasAll im_M_hasAll se_M_hasAll lk_M_135 dM_listAll_111 (by omega) (Nat.le_of_ble_eq_true rfl) (Nat.zero_le _) (Nat.zero_le _) rfl rfl rfl (q := 114) rfl ?_
  refine pm_if_eq (tgt := 17) dM_listAll_114 rfl (q := 117) rfl (fun _ => ?_) (fun z => absurd k1 z)
  exact nx
set_option maxHeartbeats 4000000 in
theorem la_leaf2 {l : Launch} {d : Nat} {K : pm_X → Prop} {G : pm_X → State → Prop} (hK : ∀ X, K X → pm_Kd l d 0 0 X) {pd : Int32} {si : Nat → Int32} {sa : Nat → Nat → Int32} {hv : Nat → Int32} {ha : Nat → Nat → Nat → Int32} {sl : Int32} {sc : Nat → Nat → Int32} {pl : Int32} {pa : Nat → Nat → Int32} {mi : Nat → Int32} {ma : Nat → Nat → Int32} {tl : pm_H} {q : Nat} {f : Nat → Int32} {xs : List pL} (hd : 3 ≤ d) {a : Int32} (w1 : pm_Sem l 1 mM_hasAll [.ref 31, .ref 41, .int (nI q)] (cH pd si sa hv ha sl sc pl pa (mH mi (maL ma q f xs) tl)) (some (.int a)) (cH pd si sa hv ha sl sc pl pa (mH mi (maL ma q f xs) tl))) {b : Int32} (w2 : pm_Sem l 2 mM_isSound [.ref 31, .ref 41] (cH pd si sa hv ha sl sc pl pa (mH mi (maL ma q f xs) tl)) (some (.int b)) (cH pd si sa hv ha sl sc pl pa (mH mi (maL ma q f xs) tl))) (k1 : ¬ a = 0) (k2 : b = 0) (nx : pm_Go mM_listAll K G 17 [some (.ref 31), some (.int (nI q)), some (.int (nI 8))] [] (cH pd si sa hv ha sl sc pl pa (mH mi (maL ma q f xs) tl)) 0 0) : pm_Go mM_listAll K G 85 [some (.ref 31), some (.int (nI q)), some (.int (nI 8))] [] (cH pd si sa hv ha sl sc pl pa (mH mi (maL ma q f xs) tl)) 0 0 := by
  refine pm_iload_n dM_listAll_85 rfl (q := 86) rfl ?_
  refine pm_bipush (x := 8) dM_listAll_86 (by decide) (q := 88) rfl ?_
  refine pm_icmp_ge (tgt := 105) dM_listAll_88 rfl (q := 91) rfl (fun _ => ?_) (fun z => absurd (by decide) z)
  refine pm_aload_n dM_listAll_105 rfl (q := 106) rfl ?_
  refine pm_aload_n dM_listAll_106 rfl (q := 107) rfl ?_
  refine pm_get fl_M_57 dM_listAll_107 rfl rfl (q := 110) rfl ?_
  refine pm_iload_n dM_listAll_110 rfl (q := 111) rfl ?_
  refine pm_cV2i hK (w1) mo_M_hasAll im_M_hasAll se_M_hasAll lk_M_135 dM_listAll_111 (by omega) (Nat.le_of_ble_eq_true rfl) (Nat.zero_le _) (Nat.zero_le _) rfl rfl rfl (q := 114) rfl ?_
  refine pm_if_eq (tgt := 17) dM_listAll_114 rfl (q := 117) rfl (fun z => absurd z k1) (fun _ => ?_)
  refine pm_aload_n dM_listAll_117 rfl (q := 118) rfl ?_
  refine pm_aload_n dM_listAll_118 rfl (q := 119) rfl ?_
  refine pm_get fl_M_57 dM_listAll_119 rfl rfl (q := 122) rfl ?_
  refine pm_cV1i hK (w2) mo_M_isSound im_M_isSound se_M_isSound lk_M_139 dM_listAll_122 (by omega) (Nat.le_of_ble_eq_true rfl) (Nat.zero_le _) (Nat.zero_le _) rfl rfl rfl (q := 125) rfl ?_
  refine pm_if_eq (tgt := 17) dM_listAll_125 rfl (q := 128) rfl (fun _ => ?_) (fun z => absurd k2 z)
  exact nx
set_option maxHeartbeats 8000000 in
theorem la_leaf3 {l : Launch} {d : Nat} {K : pm_X → Prop} {G : pm_X → State → Prop} (hK : ∀ X, K X → pm_Kd l d 0 0 X) {pd : Int32} {si : Nat → Int32} {sa : Nat → Nat → Int32} {hv : Nat → Int32} {ha : Nat → Nat → Nat → Int32} {sl : Int32} {sc : Nat → Nat → Int32} {pl : Int32} {pa : Nat → Nat → Int32} {mi : Nat → Int32} {ma : Nat → Nat → Int32} {tl : pm_H} {q : Nat} {f : Nat → Int32} {xs : List pL} (hd : 3 ≤ d) (hq : q < 3) (hx6 : xs.length < 2600) {a : Int32} (w1 : pm_Sem l 1 mM_hasAll [.ref 31, .ref 41, .int (nI q)] (cH pd si sa hv ha sl sc pl pa (mH mi (maL ma q f xs) tl)) (some (.int a)) (cH pd si sa hv ha sl sc pl pa (mH mi (maL ma q f xs) tl))) {b : Int32} (w2 : pm_Sem l 2 mM_isSound [.ref 31, .ref 41] (cH pd si sa hv ha sl sc pl pa (mH mi (maL ma q f xs) tl)) (some (.int b)) (cH pd si sa hv ha sl sc pl pa (mH mi (maL ma q f xs) tl))) {cc : Int32} (w3 : pm_Sem l 0 mM_packed [.ref 31] (cH pd si sa hv ha sl sc pl pa (mH mi (maL ma q f xs) tl)) (some (.int cc)) (cH pd si sa hv ha sl sc pl pa (mH mi (maL ma q f xs) tl))) (k1 : ¬ a = 0) (k2 : ¬ b = 0) (nx : pm_Go mM_listAll K G 17 [some (.ref 31), some (.int (nI q)), some (.int (nI 8))] [] (cH pd si sa hv ha sl sc pl pa (mH mi (up1 (up1 (maL ma q f xs) 6 (upd (lsW (ma 6) (2600 * q) (xs.map cM)) (2600 * q + xs.length) cc)) 8 (upd (upd (ma 8) q (nI xs.length)) q (nI (xs.length + 1)))) tl)) 0 0) : pm_Go mM_listAll K G 85 [some (.ref 31), some (.int (nI q)), some (.int (nI 8))] [] (cH pd si sa hv ha sl sc pl pa (mH mi (maL ma q f xs) tl)) 0 0 := by
  refine pm_iload_n dM_listAll_85 rfl (q := 86) rfl ?_
  refine pm_bipush (x := 8) dM_listAll_86 (by decide) (q := 88) rfl ?_
  refine pm_icmp_ge (tgt := 105) dM_listAll_88 rfl (q := 91) rfl (fun _ => ?_) (fun z => absurd (by decide) z)
  refine pm_aload_n dM_listAll_105 rfl (q := 106) rfl ?_
  refine pm_aload_n dM_listAll_106 rfl (q := 107) rfl ?_
  refine pm_get fl_M_57 dM_listAll_107 rfl rfl (q := 110) rfl ?_
  refine pm_iload_n dM_listAll_110 rfl (q := 111) rfl ?_
  refine pm_cV2i hK (w1) mo_M_hasAll im_M_hasAll se_M_hasAll lk_M_135 dM_listAll_111 (by omega) (Nat.le_of_ble_eq_true rfl) (Nat.zero_le _) (Nat.zero_le _) rfl rfl rfl (q := 114) rfl ?_
  refine pm_if_eq (tgt := 17) dM_listAll_114 rfl (q := 117) rfl (fun z => absurd z k1) (fun _ => ?_)
  refine pm_aload_n dM_listAll_117 rfl (q := 118) rfl ?_
  refine pm_aload_n dM_listAll_118 rfl (q := 119) rfl ?_
  refine pm_get fl_M_57 dM_listAll_119 rfl rfl (q := 122) rfl ?_
  refine pm_cV1i hK (w2) mo_M_isSound im_M_isSound se_M_isSound lk_M_139 dM_listAll_122 (by omega) (Nat.le_of_ble_eq_true rfl) (Nat.zero_le _) (Nat.zero_le _) rfl rfl rfl (q := 125) rfl ?_
  refine pm_if_eq (tgt := 17) dM_listAll_125 rfl (q := 128) rfl (fun z => absurd z k2) (fun _ => ?_)
  refine pm_aload_n dM_listAll_128 rfl (q := 129) rfl ?_
  refine pm_get fl_M_48 dM_listAll_129 rfl rfl (q := 132) rfl ?_
  refine pm_sipush (x := 2600) dM_listAll_132 (by decide) (q := 135) rfl ?_
  refine pm_iload_n dM_listAll_135 rfl (q := 136) rfl ?_
  refine pm_imul dM_listAll_136 (q := 137) rfl ?_
  refine pm_aload_n dM_listAll_137 rfl (q := 138) rfl ?_
  refine pm_get fl_M_54 dM_listAll_138 rfl rfl (q := 141) rfl ?_
  refine pm_iload_n dM_listAll_141 rfl (q := 142) rfl ?_
  refine pm_ialdN dM_listAll_142 rfl hq (Nat.le_of_ble_eq_true rfl) (q := 143) rfl ?_
  refine pm_topL (y := nI xs.length) (upd_at _ _ _) ?_
  refine pm_iadd dM_listAll_143 (q := 144) rfl ?_
  refine pm_topL (k26 q xs.length) ?_
  refine pm_aload_n dM_listAll_144 rfl (q := 145) rfl ?_
  refine pm_cV0i hK (w3) mo_M_packed im_M_packed se_M_packed lk_M_143 dM_listAll_145 (by omega) (Nat.le_of_ble_eq_true rfl) (Nat.zero_le _) (Nat.zero_le _) rfl rfl rfl (q := 148) rfl ?_
  refine pm_iastN dM_listAll_148 rfl (show 2600 * q + xs.length < 7800 by omega) (Nat.le_of_ble_eq_true rfl) (q := 149) rfl ?_
  refine pm_heap (g := (cH pd si sa hv ha sl sc pl pa (mH mi (up1 (maL ma q f xs) 6 (upd (lsW (ma 6) (2600 * q) (xs.map cM)) (2600 * q + xs.length) cc)) tl))) rfl ?_
  refine pm_aload_n dM_listAll_149 rfl (q := 150) rfl ?_
  refine pm_get fl_M_54 dM_listAll_150 rfl rfl (q := 153) rfl ?_
  refine pm_iload_n dM_listAll_153 rfl (q := 154) rfl ?_
  refine pm_dup2 dM_listAll_154 rfl rfl (q := 155) rfl ?_
  refine pm_ialdN dM_listAll_155 rfl hq (Nat.le_of_ble_eq_true rfl) (q := 156) rfl ?_
  refine pm_topL (y := nI xs.length) (upd_at _ _ _) ?_
  refine pm_iconst (x := 1) dM_listAll_156 (by decide) (q := 157) rfl ?_
  refine pm_iadd dM_listAll_157 (q := 158) rfl ?_
  refine pm_topL (y := nI (xs.length + 1)) (nI_succ xs.length).symm ?_
  refine pm_iastN dM_listAll_158 rfl hq (Nat.le_of_ble_eq_true rfl) (q := 159) rfl ?_
  refine pm_heap (g := (cH pd si sa hv ha sl sc pl pa (mH mi (up1 (up1 (maL ma q f xs) 6 (upd (lsW (ma 6) (2600 * q) (xs.map cM)) (2600 * q + xs.length) cc)) 8 (upd (upd (ma 8) q (nI xs.length)) q (nI (xs.length + 1)))) tl))) rfl ?_
  refine pm_goto (tgt := 17) dM_listAll_159 rfl ?_
  exact nx
set_option maxHeartbeats 4000000 in
theorem la_ext {K : pm_X → Prop} {G : pm_X → State → Prop} {pd : Int32} {si : Nat → Int32} {sa : Nat → Nat → Int32} {hv : Nat → Int32} {ha : Nat → Nat → Nat → Int32} {sl : Int32} {sc : Nat → Nat → Int32} {pl : Int32} {pa : Nat → Nat → Int32} {mi : Nat → Int32} {ma : Nat → Nat → Int32} {tl : pm_H} {q : Nat} {f : Nat → Int32} {xs : List pL} {f2 : Nat → Int32} {pc : Nat} {k : Int32} (he : ∀ j, j < 9 → f j = f2 j) (nx : pm_Go mM_listAll K G pc [some (.ref 31), some (.int (nI q)), some (.int k)] [] (cH pd si sa hv ha sl sc pl pa (mH mi (maL ma q f2 xs) tl)) 0 0) : pm_Go mM_listAll K G pc [some (.ref 31), some (.int (nI q)), some (.int k)] [] (cH pd si sa hv ha sl sc pl pa (mH mi (maL ma q f xs) tl)) 0 0 := by
  refine pm_exti (a := 41) (n0 := 9) (f' := f2) rfl he ?_
  refine pm_heap (g := (cH pd si sa hv ha sl sc pl pa (mH mi (maL ma q f2 xs) tl))) rfl ?_
  exact nx
set_option maxHeartbeats 4000000 in
theorem la_leaf {l : Launch} (hl : l.stackTraces = false) {d : Nat} (hd : 3 ≤ d) {pd : Int32} {si : Nat → Int32} {sa : Nat → Nat → Int32} {hv : Nat → Int32} {ha : Nat → Nat → Nat → Int32} {sl : Int32} {sc : Nat → Nat → Int32} {pl : Int32} {pa : Nat → Nat → Int32} {mi : Nat → Int32} {ma : Nat → Nat → Int32} {tl : pm_H} {S T : Nat} (hS : mi 1 = nI S) (hS3 : S ≤ 3) (hT : mi 2 = nI T) (hT3 : T ≤ 3) (q : Nat) (hq : q < 3) (L2 : pL) (hok2 : eOk S T (duM mi ma (nI q)) 9 L2) (f : Nat → Int32) (xs : List pL) (hf2 : ∀ j, j < 9 → f j = sM L2 j) (hcp : xs.length + (eGo S T (duM mi ma (nI q)) (okM mi ma S q) 0 L2).length ≤ 2600) {K : pm_X → Prop} {G : pm_X → State → Prop} (hK : ∀ X, K X → pm_Kd l d 0 0 X) (nx : pm_Go mM_listAll K G 17 [some (.ref 31), some (.int (nI q)), some (.int (nI 8))] [] (cH pd si sa hv ha sl sc pl pa (mH mi (maL ma q (sM L2) (xs ++ (eGo S T (duM mi ma (nI q)) (okM mi ma S q) 0 L2))) tl)) 0 0) : pm_Go mM_listAll K G 85 [some (.ref 31), some (.int (nI q)), some (.int (nI 8))] [] (cH pd si sa hv ha sl sc pl pa (mH mi (maL ma q f xs) tl)) 0 0 := by
  refine la_ext (f2 := sM L2) hf2 ?_
  have HA := mH_at (pd := pd) (si := si) (sa := sa) (hv := hv) (ha := ha) (sl := sl) (sc := sc) (pl := pl) (pa := pa) (mi := mi) (ma := (maL ma q (sM L2) xs)) (tl := tl)
  have vok : okM mi ma S q L2 = true ↔ (¬ fM_all mi (sM L2) ma (nI q) 5 = 0 ∧ ¬ fM_so mi (sM L2) ma S S = 0) := decide_eq_true_iff
  have w1 := kM_hasAll hl 1 (Nat.le_refl _) HA (t := 41) (f := sM L2) rfl (nI q)
  rw [fM_all_L] at w1
  have w2 := kM_isSound hl 2 (Nat.le_refl _) HA (t := 41) (f := sM L2) rfl (sM_f5 hok2.1) hS hS3
  rw [fM_so_L] at w2
  rw [eGo] at nx hcp
  by_cases k1 : fM_all mi (sM L2) ma (nI q) 5 = 0
  · rw [if_neg (fun z => (vok.mp z).1 k1), List.append_nil] at nx
    exact la_leaf1 hK hd w1 k1 nx
  · by_cases k2 : fM_so mi (sM L2) ma S S = 0
    · rw [if_neg (fun z => (vok.mp z).2 k2), List.append_nil] at nx
      exact la_leaf2 hK hd w1 w2 k1 k2 nx
    · rw [if_pos (vok.mpr ⟨k1, k2⟩)] at nx hcp
      have hx6 : xs.length < 2600 := by rw [List.length_singleton] at hcp; omega
      have w3 := kM_packed hl 0 HA
      rw [show (maL ma q (sM L2) xs) 9 = sM L2 from rfl, fMp_val hok2.1] at w3
      rw [maL_snoc] at nx
      exact la_leaf3 hK hd hq hx6 w1 w2 w3 k1 k2 nx
set_option maxHeartbeats 8000000 in
theorem la_tree {l : Launch} (hl : l.stackTraces = false) {d : Nat} (hd : 3 ≤ d) {pd : Int32} {si : Nat → Int32} {sa : Nat → Nat → Int32} {hv : Nat → Int32} {ha : Nat → Nat → Nat → Int32} {sl : Int32} {sc : Nat → Nat → Int32} {pl : Int32} {pa : Nat → Nat → Int32} {mi : Nat → Int32} {ma : Nat → Nat → Int32} {tl : pm_H} {S T : Nat} (hS : mi 1 = nI S) (hS3 : S ≤ 3) (hT : mi 2 = nI T) (hT3 : T ≤ 3) (q : Nat) (hq : q < 3) : ∀ (n : Nat), n ≤ 8 → ∀ (m c : Nat), m + c = 6 → ∀ (L : pL), eOk S T (duM mi ma (nI q)) (8 - n) L → ∀ (f : Nat → Int32) (xs : List pL), (∀ j, j < 8 - n → f j = sM L j) → f (8 - n) = nI c - 1 → xs.length + (eFrom S T (duM mi ma (nI q)) (okM mi ma S q) n c L).length ≤ 2600 → ∃ f2, (∀ j, j < 8 - n → f2 j = f j) ∧ ∀ (K : pm_X → Prop) (G : pm_X → State → Prop), (∀ X, K X → pm_Kd l d 0 0 X) → pm_Go mM_listAll K G 17 [some (.ref 31), some (.int (nI q)), some (.int (nI (8 - n) - 1))] [] (cH pd si sa hv ha sl sc pl pa (mH mi (maL ma q f2 (xs ++ (eFrom S T (duM mi ma (nI q)) (okM mi ma S q) n c L))) tl)) 0 0 → pm_Go mM_listAll K G 31 [some (.ref 31), some (.int (nI q)), some (.int (nI (8 - n)))] [] (cH pd si sa hv ha sl sc pl pa (mH mi (maL ma q f xs) tl)) 0 0 := by
  intro n
  induction n with
  | zero =>
    intro hn m
    induction m with
    | zero =>
      intro c hc L hok f xs hf hfk hcp
      have hc : c = 6 := by omega
      subst hc
      rw [eFrom_6, List.append_nil]
      refine ⟨f, fun _ _ => rfl, fun K G hK h17 => la_end (by omega) (hfk.trans (by decide)) h17⟩
    | succ m ihm =>
      intro c hc L hok f xs hf hfk hcp
      have hk : (8 - 0) < 9 := by omega
      have lt5 : ¬ (5 : Int32) ≤ nI c - 1 := fun z => by have := (tV_lt ⟨c, by omega⟩).mp z; dsimp only at this; omega
      have ne5 : ¬ nI c - 1 = 5 := fun z => by have := (tV_eq ⟨c, by omega⟩).mp z; dsimp only at this; omega
      have inc : nI c - 1 + 1 = nI (c + 1) - 1 := tV_inc ⟨c, by omega⟩
      have hgo : ∀ (L2 : pL), eOk S T (duM mi ma (nI q)) ((8 - 0) + 1) L2 → (∀ j, j < (8 - 0) + 1 → f j = sM L2 j) → (eFrom S T (duM mi ma (nI q)) (okM mi ma S q) 0 c L) = (eGo S T (duM mi ma (nI q)) (okM mi ma S q) 0 L2) ++ (eFrom S T (duM mi ma (nI q)) (okM mi ma S q) 0 (c + 1) L) → ∃ f2, (∀ j, j < (8 - 0) → f2 j = f j) ∧ ∀ (K : pm_X → Prop) (G : pm_X → State → Prop), (∀ X, K X → pm_Kd l d 0 0 X) → pm_Go mM_listAll K G 17 [some (.ref 31), some (.int (nI q)), some (.int (nI (8 - 0) - 1))] [] (cH pd si sa hv ha sl sc pl pa (mH mi (maL ma q f2 (xs ++ (eFrom S T (duM mi ma (nI q)) (okM mi ma S q) 0 c L))) tl)) 0 0 → pm_Go mM_listAll K G 85 [some (.ref 31), some (.int (nI q)), some (.int (nI (8 - 0)))] [] (cH pd si sa hv ha sl sc pl pa (mH mi (maL ma q f xs) tl)) 0 0 := by
        intro L2 hok2 hf2 he
        rw [he] at hcp ⊢
        rw [List.length_append] at hcp
        obtain ⟨f3, hf3, ho⟩ := ihm (c + 1) (by omega) L hok (upd (sM L2) (8 - 0) (nI (c + 1) - 1)) (xs ++ (eGo S T (duM mi ma (nI q)) (okM mi ma S q) 0 L2)) (fun j hj => by rw [upd_ne _ _ (by omega), ← hf2 j (by omega)]; exact hf j hj) (upd_at _ _ _) (by rw [List.length_append]; omega)
        rw [List.append_assoc] at ho
        refine ⟨f3, fun j hj => by rw [hf3 j hj, upd_ne _ _ (by omega), ← hf2 j (by omega)], fun K G hK h17 => ?_⟩
        exact la_leaf hl hd hS hS3 hT hT3 q hq L2 hok2 f xs (fun j hj => hf2 j (by omega)) (by omega) hK (la_head (by decide) (by rw [← hf2 (8 - 0) (by decide)]; exact hfk) inc (ho K G hK h17))
      cases c with
      | zero =>
        obtain ⟨f2, hf2, ho⟩ := hgo L (eOk_pass hok) (fun j hj => by
          have := sM_pass hok hf j hj
          rw [← this]
          by_cases z : j = (8 - 0)
          · rw [z, upd_at, hfk]; rfl
          · rw [upd_ne _ _ z]) eFrom_first
        refine ⟨f2, hf2, fun K G hK h17 => ?_⟩
        have m1 : nI 0 - 1 = -1 := by decide
        rw [m1] at lt5 ne5 hfk
        exact la_yes hK hd hk hfk lt5 ne5 (kM_may_no hl 1 _ _ _) (ho K G hK h17)
      | succ b =>
        have hb5 : b < 5 := by omega
        rw [nI_pred] at hfk lt5 ne5
        have HA := mH_at (pd := pd) (si := si) (sa := sa) (hv := hv) (ha := ha) (sl := sl) (sc := sc) (pl := pl) (pa := pa) (mi := mi) (ma := (maL ma q f xs)) (tl := tl)
        have w := kM_may hl 1 (Nat.le_refl _) HA (8 - 0) b hk hb5 (nI q)
        rw [fMay_L, show (maL ma q f xs) 9 = f from rfl, may_val hk hS hS3 hT hT3 hok hb5 hf] at w
        have e := eFrom_next (S := S) (T := T) (du := (duM mi ma (nI q))) (ok := (okM mi ma S q)) (n := 0) (L := L) hb5
        by_cases hm : eMay S T (duM mi ma (nI q)) (8 - 0) b L = true
        · rw [if_pos hm] at w e
          obtain ⟨f2, hf2, ho⟩ := hgo (pPut L ((8 - 0) / 3) b) (eOk_put hk hb5 hok hm) (fun j hj => by
            have := sM_put hk hT3 hm hf j hj
            rw [← this]
            by_cases z : j = (8 - 0)
            · rw [z, upd_at, hfk]
            · rw [upd_ne _ _ z]) e
          exact ⟨f2, hf2, fun K G hK h17 => la_yes hK hd hk hfk lt5 ne5 w (ho K G hK h17)⟩
        · rw [if_neg hm] at w e
          have he : (eFrom S T (duM mi ma (nI q)) (okM mi ma S q) 0 (b + 1) L) = (eFrom S T (duM mi ma (nI q)) (okM mi ma S q) 0 (b + 1 + 1) L) := e
          rw [he] at hcp ⊢
          obtain ⟨f4, hf4, ho4⟩ := ihm (b + 1 + 1) (by omega) L hok (upd f (8 - 0) (nI (b + 1 + 1) - 1)) xs (fun j hj => by rw [upd_ne _ _ (by omega)]; exact hf j hj) (upd_at _ _ _) hcp
          refine ⟨f4, fun j hj => by rw [hf4 j hj, upd_ne _ _ (by omega)], fun K G hK h17 => ?_⟩
          exact la_no hK hd hk hfk lt5 (by rw [nI_pred, nI_succ]) w (ho4 K G hK h17)
  | succ n ih =>
    intro hn m
    induction m with
    | zero =>
      intro c hc L hok f xs hf hfk hcp
      have hc : c = 6 := by omega
      subst hc
      rw [eFrom_6, List.append_nil]
      refine ⟨f, fun _ _ => rfl, fun K G hK h17 => la_end (by omega) (hfk.trans (by decide)) h17⟩
    | succ m ihm =>
      intro c hc L hok f xs hf hfk hcp
      have hk : (8 - (n + 1)) < 9 := by omega
      have lt5 : ¬ (5 : Int32) ≤ nI c - 1 := fun z => by have := (tV_lt ⟨c, by omega⟩).mp z; dsimp only at this; omega
      have ne5 : ¬ nI c - 1 = 5 := fun z => by have := (tV_eq ⟨c, by omega⟩).mp z; dsimp only at this; omega
      have inc : nI c - 1 + 1 = nI (c + 1) - 1 := tV_inc ⟨c, by omega⟩
      have hgo : ∀ (L2 : pL), eOk S T (duM mi ma (nI q)) ((8 - (n + 1)) + 1) L2 → (∀ j, j < (8 - (n + 1)) + 1 → f j = sM L2 j) → (eFrom S T (duM mi ma (nI q)) (okM mi ma S q) (n + 1) c L) = (eGo S T (duM mi ma (nI q)) (okM mi ma S q) (n + 1) L2) ++ (eFrom S T (duM mi ma (nI q)) (okM mi ma S q) (n + 1) (c + 1) L) → ∃ f2, (∀ j, j < (8 - (n + 1)) → f2 j = f j) ∧ ∀ (K : pm_X → Prop) (G : pm_X → State → Prop), (∀ X, K X → pm_Kd l d 0 0 X) → pm_Go mM_listAll K G 17 [some (.ref 31), some (.int (nI q)), some (.int (nI (8 - (n + 1)) - 1))] [] (cH pd si sa hv ha sl sc pl pa (mH mi (maL ma q f2 (xs ++ (eFrom S T (duM mi ma (nI q)) (okM mi ma S q) (n + 1) c L))) tl)) 0 0 → pm_Go mM_listAll K G 85 [some (.ref 31), some (.int (nI q)), some (.int (nI (8 - (n + 1))))] [] (cH pd si sa hv ha sl sc pl pa (mH mi (maL ma q f xs) tl)) 0 0 := by
        intro L2 hok2 hf2 he
        rw [he] at hcp ⊢
        rw [List.length_append] at hcp
        have hsub := ih (by omega) 6 0 (by omega) L2 (by rw [show 8 - n = (8 - (n + 1)) + 1 by omega]; exact hok2) (upd (upd f ((8 - (n + 1)) + 1) (-2)) ((8 - (n + 1)) + 1) (-1)) xs (fun j hj => by rw [upd_ne _ _ (by omega), upd_ne _ _ (by omega)]; exact hf2 j (by omega)) (by rw [show 8 - n = (8 - (n + 1)) + 1 by omega]; exact upd_at _ _ _) (by rw [eFrom_0]; omega)
        rw [eFrom_0] at hsub
        obtain ⟨f3, hf3, ho3⟩ := hsub
        have f3k : f3 (8 - (n + 1)) = nI c - 1 := by rw [hf3 _ (by omega), upd_ne _ _ (by omega), upd_ne _ _ (by omega)]; exact hfk
        obtain ⟨f4, hf4, ho4⟩ := ihm (c + 1) (by omega) L hok (upd f3 (8 - (n + 1)) (nI (c + 1) - 1)) (xs ++ (eGo S T (duM mi ma (nI q)) (okM mi ma S q) (n + 1) L2)) (fun j hj => by rw [upd_ne _ _ (by omega), hf3 j (by omega), upd_ne _ _ (by omega), upd_ne _ _ (by omega)]; exact hf j hj) (upd_at _ _ _) (by rw [List.length_append]; omega)
        rw [List.append_assoc] at ho4
        refine ⟨f4, fun j hj => by rw [hf4 j hj, upd_ne _ _ (by omega), hf3 j (by omega), upd_ne _ _ (by omega), upd_ne _ _ (by omega)], fun K G hK h17 => ?_⟩
        have n4 := la_head hk f3k inc (ho4 K G hK h17)
        have ek : nI (8 - n) - 1 = nI (8 - (n + 1)) := by rw [show 8 - n = (8 - (n + 1)) + 1 by omega]; exact nI_pred _
        rw [← ek] at n4
        have n3 := ho3 K G hK n4
        have e8 : nI (8 - n) = nI ((8 - (n + 1)) + 1) := by rw [show 8 - n = (8 - (n + 1)) + 1 by omega]
        rw [e8] at n3
        exact la_down (by omega) (la_head (v := -2) (w := -1) (by omega) (upd_at _ _ _) (by decide) n3)
      cases c with
      | zero =>
        obtain ⟨f2, hf2, ho⟩ := hgo L (eOk_pass hok) (fun j hj => by
          have := sM_pass hok hf j hj
          rw [← this]
          by_cases z : j = (8 - (n + 1))
          · rw [z, upd_at, hfk]; rfl
          · rw [upd_ne _ _ z]) eFrom_first
        refine ⟨f2, hf2, fun K G hK h17 => ?_⟩
        have m1 : nI 0 - 1 = -1 := by decide
        rw [m1] at lt5 ne5 hfk
        exact la_yes hK hd hk hfk lt5 ne5 (kM_may_no hl 1 _ _ _) (ho K G hK h17)
      | succ b =>
        have hb5 : b < 5 := by omega
        rw [nI_pred] at hfk lt5 ne5
        have HA := mH_at (pd := pd) (si := si) (sa := sa) (hv := hv) (ha := ha) (sl := sl) (sc := sc) (pl := pl) (pa := pa) (mi := mi) (ma := (maL ma q f xs)) (tl := tl)
        have w := kM_may hl 1 (Nat.le_refl _) HA (8 - (n + 1)) b hk hb5 (nI q)
        rw [fMay_L, show (maL ma q f xs) 9 = f from rfl, may_val hk hS hS3 hT hT3 hok hb5 hf] at w
        have e := eFrom_next (S := S) (T := T) (du := (duM mi ma (nI q))) (ok := (okM mi ma S q)) (n := (n + 1)) (L := L) hb5
        by_cases hm : eMay S T (duM mi ma (nI q)) (8 - (n + 1)) b L = true
        · rw [if_pos hm] at w e
          obtain ⟨f2, hf2, ho⟩ := hgo (pPut L ((8 - (n + 1)) / 3) b) (eOk_put hk hb5 hok hm) (fun j hj => by
            have := sM_put hk hT3 hm hf j hj
            rw [← this]
            by_cases z : j = (8 - (n + 1))
            · rw [z, upd_at, hfk]
            · rw [upd_ne _ _ z]) e
          exact ⟨f2, hf2, fun K G hK h17 => la_yes hK hd hk hfk lt5 ne5 w (ho K G hK h17)⟩
        · rw [if_neg hm] at w e
          have he : (eFrom S T (duM mi ma (nI q)) (okM mi ma S q) (n + 1) (b + 1) L) = (eFrom S T (duM mi ma (nI q)) (okM mi ma S q) (n + 1) (b + 1 + 1) L) := e
          rw [he] at hcp ⊢
          obtain ⟨f4, hf4, ho4⟩ := ihm (b + 1 + 1) (by omega) L hok (upd f (8 - (n + 1)) (nI (b + 1 + 1) - 1)) xs (fun j hj => by rw [upd_ne _ _ (by omega)]; exact hf j hj) (upd_at _ _ _) hcp
          refine ⟨f4, fun j hj => by rw [hf4 j hj, upd_ne _ _ (by omega)], fun K G hK h17 => ?_⟩
          exact la_no hK hd hk hfk lt5 (by rw [nI_pred, nI_succ]) w (ho4 K G hK h17)
set_option maxHeartbeats 4000000 in
theorem kM_listAll {l : Launch} (hl : l.stackTraces = false) (d : Nat) (hd : 3 ≤ d) {pd : Int32} {si : Nat → Int32} {sa : Nat → Nat → Int32} {hv : Nat → Int32} {ha : Nat → Nat → Nat → Int32} {sl : Int32} {sc : Nat → Nat → Int32} {pl : Int32} {pa : Nat → Nat → Int32} {mi : Nat → Int32} {ma : Nat → Nat → Int32} {tl : pm_H} {S T : Nat} (hS : mi 1 = nI S) (hS3 : S ≤ 3) (hT : mi 2 = nI T) (hT3 : T ≤ 3) (q : Nat) (hq : q < 3) (hcap : (eGo S T (duM mi ma (nI q)) (okM mi ma S q) 9 pE).length ≤ 2600) : ∃ f, pm_Sem l d mM_listAll [.ref 31, .int (nI q)] (cH pd si sa hv ha sl sc pl pa (mH mi ma tl)) none (cH pd si sa hv ha sl sc pl pa (mH mi (maL ma q f (eGo S T (duM mi ma (nI q)) (okM mi ma S q) 9 pE)) tl)) := by
  have h0 := la_tree (pd := pd) (si := si) (sa := sa) (hv := hv) (ha := ha) (sl := sl) (sc := sc) (pl := pl) (pa := pa) (mi := mi) (ma := ma) (tl := tl) hl hd hS hS3 hT hT3 q hq 8 (Nat.le_refl _) 6 0 (by omega) pE eOk_zero (upd (upd (ma 9) 0 (-2)) 0 (-1)) [] (fun j hj => absurd hj (Nat.not_lt_zero _)) rfl (by rw [eFrom_0, List.length_nil, Nat.zero_add]; exact hcap)
  rw [eFrom_0, List.nil_append] at h0
  obtain ⟨f2, _, ho⟩ := h0
  generalize (eGo S T (duM mi ma (nI q)) (okM mi ma S q) 9 pE) = Z at *
  refine ⟨f2, ?_⟩
  refine pm_sem hl mo_M_listAll rfl rfl rfl (Nat.le_of_ble_eq_true rfl) (fun K G hK hret => ?_)
  have m1 : nI (8 - 8) - 1 = -1 := by decide
  have nx := ho K G hK (by
    rw [m1]
    refine pm_iload_n dM_listAll_17 rfl (q := 18) rfl ?_
    refine pm_if_lt (tgt := 162) dM_listAll_18 rfl (q := 21) rfl (fun _ => ?_) (fun z => absurd (by decide) z)
    exact pm_retV hret dM_listAll_162 rfl)
  have hh : pm_Go mM_listAll K G 17 [some (.ref 31), some (.int (nI q)), some (.int (nI 0))] [] (cH pd si sa hv ha sl sc pl pa (mH mi (maL ma q (upd (ma 9) 0 (-2)) []) tl)) 0 0 := la_head (k := 0) (v := -2) (w := -1) (by decide) (upd_at _ _ _) (by decide) nx
  refine pm_aload_n dM_listAll_0 rfl (q := 1) rfl ?_
  refine pm_get fl_M_54 dM_listAll_1 rfl rfl (q := 4) rfl ?_
  refine pm_iload_n dM_listAll_4 rfl (q := 5) rfl ?_
  refine pm_iconst (x := 0) dM_listAll_5 (by decide) (q := 6) rfl ?_
  refine pm_iastN (j := q) dM_listAll_6 rfl hq (Nat.le_of_ble_eq_true rfl) (q := 7) rfl ?_
  refine pm_iconst (x := 0) dM_listAll_7 (by decide) (q := 8) rfl ?_
  refine pm_istore_n dM_listAll_8 (by decide) (q := 9) rfl ?_
  refine pm_aload_n dM_listAll_9 rfl (q := 10) rfl ?_
  refine pm_get fl_M_57 dM_listAll_10 rfl rfl (q := 13) rfl ?_
  refine pm_iconst (x := 0) dM_listAll_13 (by decide) (q := 14) rfl ?_
  refine pm_bipush (x := -2) dM_listAll_14 (by decide) (q := 16) rfl ?_
  refine pm_iastN (j := 0) dM_listAll_16 rfl (by decide) (Nat.le_of_ble_eq_true rfl) (q := 17) rfl ?_
  refine pm_heap (g := (cH pd si sa hv ha sl sc pl pa (mH mi (maL ma q (upd (ma 9) 0 (-2)) []) tl))) (by rw [maL_nil]; rfl) ?_
  exact hh
