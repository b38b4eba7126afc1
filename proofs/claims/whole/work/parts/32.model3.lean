/-! the model: box, roll, slot, move, hand -/
set_option maxHeartbeats 4000000 in
theorem kM_box_ok {l : Launch} (hl : l.stackTraces = false) (d : Nat) (hd : 2 ≤ d) {pd : Int32} {si : Nat → Int32} {sa : Nat → Nat → Int32} {hv : Nat → Int32} {ha : Nat → Nat → Nat → Int32} {sl : Int32} {sc : Nat → Nat → Int32} {pl : Int32} {pa : Nat → Nat → Int32} {mi : Nat → Int32} {ma : Nat → Nat → Int32} {tl : pm_H} (x y w k : Int32) (hg : ¬ fw x 0 (mi 3 - 1) = 0 ∧ ¬ fw y 0 (mi 3 - 1) = 0 ∧ x < y ∧ ¬ fw w 1 40 = 0 ∧ ¬ fw k 0 3 = 0) (k5 : ¬ mi 8 = 5) (hx : vp_in (mi 8) 5) : pm_Sem l d mM_box [.ref 31, .int x, .int y, .int w, .int k] (cH pd si sa hv ha sl sc pl pa (mH (mi) (ma) tl)) (some (.int (mi 8 + 1 - 1))) (cH pd si sa hv ha sl sc pl pa (mH (up1 (up1 (up1 (up1 mi 0 0) 8 (mi 8 + 1)) 18 0) 19 0) (up1 (fun j => if j = 1 then upd (ma 1) (mi 8).toNatClampNeg x else if j = 2 then upd (ma 2) (mi 8).toNatClampNeg y else if j = 3 then upd (ma 3) (mi 8).toNatClampNeg w else if j = 4 then upd (ma 4) (mi 8).toNatClampNeg k else if j = 5 then upd (ma 5) (mi 8).toNatClampNeg 0 else ma j) 14 (fun _ => -1)) tl)) := by
  refine pm_sem hl mo_M_box ⟨_, rfl, rfl⟩ rfl rfl (Nat.le_of_ble_eq_true rfl) (fun K G hK hret => ?_)
  refine pm_iload_n dM_box_0 rfl (q := 1) rfl ?_
  refine pm_iconst (x := 0) dM_box_1 (by decide) (q := 2) rfl ?_
  refine pm_aload_n dM_box_2 rfl (q := 3) rfl ?_
  refine pm_get fl_M_16 dM_box_3 rfl rfl (q := 6) rfl ?_
  refine pm_iconst (x := 1) dM_box_6 (by decide) (q := 7) rfl ?_
  refine pm_isub dM_box_7 (q := 8) rfl ?_
  refine pm_cS3i hK (kM_in hl 0 _ _ _ _) mo_M_in st_M_in lk_M_92 dM_box_8 (by omega) (Nat.le_of_ble_eq_true rfl) (Nat.zero_le _) (Nat.zero_le _) (q := 11) rfl ?_
  refine pm_if_eq (tgt := 57) dM_box_11 rfl (q := 14) rfl (fun z => absurd z hg.1) (fun _ => ?_)
  refine pm_iload_n dM_box_14 rfl (q := 15) rfl ?_
  refine pm_iconst (x := 0) dM_box_15 (by decide) (q := 16) rfl ?_
  refine pm_aload_n dM_box_16 rfl (q := 17) rfl ?_
  refine pm_get fl_M_16 dM_box_17 rfl rfl (q := 20) rfl ?_
  refine pm_iconst (x := 1) dM_box_20 (by decide) (q := 21) rfl ?_
  refine pm_isub dM_box_21 (q := 22) rfl ?_
  refine pm_cS3i hK (kM_in hl 0 _ _ _ _) mo_M_in st_M_in lk_M_92 dM_box_22 (by omega) (Nat.le_of_ble_eq_true rfl) (Nat.zero_le _) (Nat.zero_le _) (q := 25) rfl ?_
  refine pm_if_eq (tgt := 57) dM_box_25 rfl (q := 28) rfl (fun z => absurd z hg.2.1) (fun _ => ?_)
  refine pm_iload_n dM_box_28 rfl (q := 29) rfl ?_
  refine pm_iload_n dM_box_29 rfl (q := 30) rfl ?_
  refine pm_icmp_ge (tgt := 57) dM_box_30 rfl (q := 33) rfl (fun z => absurd hg.2.2.1 (Int32.not_lt.mpr z)) (fun _ => ?_)
  refine pm_iload_n dM_box_33 rfl (q := 34) rfl ?_
  refine pm_iconst (x := 1) dM_box_34 (by decide) (q := 35) rfl ?_
  refine pm_bipush (x := 40) dM_box_35 (by decide) (q := 37) rfl ?_
  refine pm_cS3i hK (kM_in hl 0 _ _ _ _) mo_M_in st_M_in lk_M_92 dM_box_37 (by omega) (Nat.le_of_ble_eq_true rfl) (Nat.zero_le _) (Nat.zero_le _) (q := 40) rfl ?_
  refine pm_if_eq (tgt := 57) dM_box_40 rfl (q := 43) rfl (fun z => absurd z hg.2.2.2.1) (fun _ => ?_)
  refine pm_iload dM_box_43 rfl (q := 45) rfl ?_
  refine pm_iconst (x := 0) dM_box_45 (by decide) (q := 46) rfl ?_
  refine pm_iconst (x := 3) dM_box_46 (by decide) (q := 47) rfl ?_
  refine pm_cS3i hK (kM_in hl 0 _ _ _ _) mo_M_in st_M_in lk_M_92 dM_box_47 (by omega) (Nat.le_of_ble_eq_true rfl) (Nat.zero_le _) (Nat.zero_le _) (q := 50) rfl ?_
  refine pm_if_eq (tgt := 57) dM_box_50 rfl (q := 53) rfl (fun z => absurd z hg.2.2.2.2) (fun _ => ?_)
  refine pm_iconst (x := 1) dM_box_53 (by decide) (q := 54) rfl ?_
  refine pm_goto (tgt := 58) dM_box_54 rfl ?_
  refine pm_istore dM_box_58 (by decide) (q := 60) rfl ?_
  refine pm_aload_n dM_box_60 rfl (q := 61) rfl ?_
  refine pm_iload dM_box_61 rfl (q := 63) rfl ?_
  refine pm_if_ne (tgt := 70) dM_box_63 rfl (q := 66) rfl (fun _ => ?_) (fun z => absurd z (by decide))
  refine pm_iconst (x := 0) dM_box_70 (by decide) (q := 71) rfl ?_
  refine pm_aload_n dM_box_71 rfl (q := 72) rfl ?_
  refine pm_get fl_M_100 dM_box_72 rfl rfl (q := 75) rfl ?_
  refine pm_iconst (x := 5) dM_box_75 (by decide) (q := 76) rfl ?_
  refine pm_icmp_ne (tgt := 83) dM_box_76 rfl (q := 79) rfl (fun _ => ?_) (fun z => absurd z k5)
  refine pm_iconst (x := 0) dM_box_83 (by decide) (q := 84) rfl ?_
  refine pm_cV2i hK (kM_refuse_0 hl 0 _ _ rfl rfl) mo_M_refuse im_M_refuse se_M_refuse lk_M_96 dM_box_84 (by omega) (Nat.le_of_ble_eq_true rfl) (Nat.zero_le _) (Nat.zero_le _) rfl rfl rfl (q := 87) rfl ?_
  refine pm_if_eq (tgt := 92) dM_box_87 rfl (q := 90) rfl (fun _ => ?_) (fun z => absurd rfl z)
  refine pm_aload_n dM_box_92 rfl (q := 93) rfl ?_
  refine pm_get fl_M_32 dM_box_93 rfl rfl (q := 96) rfl ?_
  refine pm_aload_n dM_box_96 rfl (q := 97) rfl ?_
  refine pm_get fl_M_100 dM_box_97 rfl rfl (q := 100) rfl ?_
  refine pm_iload_n dM_box_100 rfl (q := 101) rfl ?_
  refine pm_iast dM_box_101 rfl (hx) (q := 102) rfl ?_
  refine pm_aload_n dM_box_102 rfl (q := 103) rfl ?_
  refine pm_get fl_M_36 dM_box_103 rfl rfl (q := 106) rfl ?_
  refine pm_aload_n dM_box_106 rfl (q := 107) rfl ?_
  refine pm_get fl_M_100 dM_box_107 rfl rfl (q := 110) rfl ?_
  refine pm_iload_n dM_box_110 rfl (q := 111) rfl ?_
  refine pm_iast dM_box_111 rfl (hx) (q := 112) rfl ?_
  refine pm_aload_n dM_box_112 rfl (q := 113) rfl ?_
  refine pm_get fl_M_39 dM_box_113 rfl rfl (q := 116) rfl ?_
  refine pm_aload_n dM_box_116 rfl (q := 117) rfl ?_
  refine pm_get fl_M_100 dM_box_117 rfl rfl (q := 120) rfl ?_
  refine pm_iload_n dM_box_120 rfl (q := 121) rfl ?_
  refine pm_iast dM_box_121 rfl (hx) (q := 122) rfl ?_
  refine pm_aload_n dM_box_122 rfl (q := 123) rfl ?_
  refine pm_get fl_M_42 dM_box_123 rfl rfl (q := 126) rfl ?_
  refine pm_aload_n dM_box_126 rfl (q := 127) rfl ?_
  refine pm_get fl_M_100 dM_box_127 rfl rfl (q := 130) rfl ?_
  refine pm_iload dM_box_130 rfl (q := 132) rfl ?_
  refine pm_iast dM_box_132 rfl (hx) (q := 133) rfl ?_
  refine pm_aload_n dM_box_133 rfl (q := 134) rfl ?_
  refine pm_get fl_M_45 dM_box_134 rfl rfl (q := 137) rfl ?_
  refine pm_aload_n dM_box_137 rfl (q := 138) rfl ?_
  refine pm_get fl_M_100 dM_box_138 rfl rfl (q := 141) rfl ?_
  refine pm_iconst (x := 0) dM_box_141 (by decide) (q := 142) rfl ?_
  refine pm_zast dM_box_142 rfl (hx) (q := 143) rfl ?_
  refine pm_aload_n dM_box_143 rfl (q := 144) rfl ?_
  refine pm_dup dM_box_144 rfl (q := 145) rfl ?_
  refine pm_get fl_M_100 dM_box_145 rfl rfl (q := 148) rfl ?_
  refine pm_iconst (x := 1) dM_box_148 (by decide) (q := 149) rfl ?_
  refine pm_iadd dM_box_149 (q := 150) rfl ?_
  refine pm_put fp_M_100 dM_box_150 rfl (Nat.le_of_ble_eq_true rfl) (fun _ => rfl) (fun _ => rfl) (q := 153) rfl ?_
  refine pm_heap (g := (cH pd si sa hv ha sl sc pl pa (mH (up1 (up1 mi 0 0) 8 (mi 8 + 1)) (fun j => if j = 1 then upd (ma 1) (mi 8).toNatClampNeg x else if j = 2 then upd (ma 2) (mi 8).toNatClampNeg y else if j = 3 then upd (ma 3) (mi 8).toNatClampNeg w else if j = 4 then upd (ma 4) (mi 8).toNatClampNeg k else if j = 5 then upd (ma 5) (mi 8).toNatClampNeg 0 else ma j) tl))) rfl ?_
  refine pm_aload_n dM_box_153 rfl (q := 154) rfl ?_
  refine pm_cV0v hK (kM_noPlan hl 1 (Nat.le_refl _)) mo_M_noPlan im_M_noPlan se_M_noPlan lk_M_103 dM_box_154 (by omega) (Nat.le_of_ble_eq_true rfl) (Nat.zero_le _) (Nat.zero_le _) rfl rfl rfl (q := 157) rfl ?_
  refine pm_aload_n dM_box_157 rfl (q := 158) rfl ?_
  refine pm_get fl_M_100 dM_box_158 rfl rfl (q := 161) rfl ?_
  refine pm_iconst (x := 1) dM_box_161 (by decide) (q := 162) rfl ?_
  refine pm_isub dM_box_162 (q := 163) rfl ?_
  exact pm_retI hret dM_box_163 rfl
set_option maxHeartbeats 4000000 in
theorem kM_box_full {l : Launch} (hl : l.stackTraces = false) (d : Nat) (hd : 2 ≤ d) {pd : Int32} {si : Nat → Int32} {sa : Nat → Nat → Int32} {hv : Nat → Int32} {ha : Nat → Nat → Nat → Int32} {sl : Int32} {sc : Nat → Nat → Int32} {pl : Int32} {pa : Nat → Nat → Int32} {mi : Nat → Int32} {ma : Nat → Nat → Int32} {tl : pm_H} (x y w k : Int32) (hg : ¬ fw x 0 (mi 3 - 1) = 0 ∧ ¬ fw y 0 (mi 3 - 1) = 0 ∧ x < y ∧ ¬ fw w 1 40 = 0 ∧ ¬ fw k 0 3 = 0) (k5 : mi 8 = 5) : pm_Sem l d mM_box [.ref 31, .int x, .int y, .int w, .int k] (cH pd si sa hv ha sl sc pl pa (mH (mi) (ma) tl)) (some (.int 0)) (cH pd si sa hv ha sl sc pl pa (mH (up1 mi 0 2) (ma) tl)) := by
  refine pm_sem hl mo_M_box ⟨_, rfl, rfl⟩ rfl rfl (Nat.le_of_ble_eq_true rfl) (fun K G hK hret => ?_)
  refine pm_iload_n dM_box_0 rfl (q := 1) rfl ?_
  refine pm_iconst (x := 0) dM_box_1 (by decide) (q := 2) rfl ?_
  refine pm_aload_n dM_box_2 rfl (q := 3) rfl ?_
  refine pm_get fl_M_16 dM_box_3 rfl rfl (q := 6) rfl ?_
  refine pm_iconst (x := 1) dM_box_6 (by decide) (q := 7) rfl ?_
  refine pm_isub dM_box_7 (q := 8) rfl ?_
  refine pm_cS3i hK (kM_in hl 0 _ _ _ _) mo_M_in st_M_in lk_M_92 dM_box_8 (by omega) (Nat.le_of_ble_eq_true rfl) (Nat.zero_le _) (Nat.zero_le _) (q := 11) rfl ?_
  refine pm_if_eq (tgt := 57) dM_box_11 rfl (q := 14) rfl (fun z => absurd z hg.1) (fun _ => ?_)
  refine pm_iload_n dM_box_14 rfl (q := 15) rfl ?_
  refine pm_iconst (x := 0) dM_box_15 (by decide) (q := 16) rfl ?_
  refine pm_aload_n dM_box_16 rfl (q := 17) rfl ?_
  refine pm_get fl_M_16 dM_box_17 rfl rfl (q := 20) rfl ?_
  refine pm_iconst (x := 1) dM_box_20 (by decide) (q := 21) rfl ?_
  refine pm_isub dM_box_21 (q := 22) rfl ?_
  refine pm_cS3i hK (kM_in hl 0 _ _ _ _) mo_M_in st_M_in lk_M_92 dM_box_22 (by omega) (Nat.le_of_ble_eq_true rfl) (Nat.zero_le _) (Nat.zero_le _) (q := 25) rfl ?_
  refine pm_if_eq (tgt := 57) dM_box_25 rfl (q := 28) rfl (fun z => absurd z hg.2.1) (fun _ => ?_)
  refine pm_iload_n dM_box_28 rfl (q := 29) rfl ?_
  refine pm_iload_n dM_box_29 rfl (q := 30) rfl ?_
  refine pm_icmp_ge (tgt := 57) dM_box_30 rfl (q := 33) rfl (fun z => absurd hg.2.2.1 (Int32.not_lt.mpr z)) (fun _ => ?_)
  refine pm_iload_n dM_box_33 rfl (q := 34) rfl ?_
  refine pm_iconst (x := 1) dM_box_34 (by decide) (q := 35) rfl ?_
  refine pm_bipush (x := 40) dM_box_35 (by decide) (q := 37) rfl ?_
  refine pm_cS3i hK (kM_in hl 0 _ _ _ _) mo_M_in st_M_in lk_M_92 dM_box_37 (by omega) (Nat.le_of_ble_eq_true rfl) (Nat.zero_le _) (Nat.zero_le _) (q := 40) rfl ?_
  refine pm_if_eq (tgt := 57) dM_box_40 rfl (q := 43) rfl (fun z => absurd z hg.2.2.2.1) (fun _ => ?_)
  refine pm_iload dM_box_43 rfl (q := 45) rfl ?_
  refine pm_iconst (x := 0) dM_box_45 (by decide) (q := 46) rfl ?_
  refine pm_iconst (x := 3) dM_box_46 (by decide) (q := 47) rfl ?_
  refine pm_cS3i hK (kM_in hl 0 _ _ _ _) mo_M_in st_M_in lk_M_92 dM_box_47 (by omega) (Nat.le_of_ble_eq_true rfl) (Nat.zero_le _) (Nat.zero_le _) (q := 50) rfl ?_
  refine pm_if_eq (tgt := 57) dM_box_50 rfl (q := 53) rfl (fun z => absurd z hg.2.2.2.2) (fun _ => ?_)
  refine pm_iconst (x := 1) dM_box_53 (by decide) (q := 54) rfl ?_
  refine pm_goto (tgt := 58) dM_box_54 rfl ?_
  refine pm_istore dM_box_58 (by decide) (q := 60) rfl ?_
  refine pm_aload_n dM_box_60 rfl (q := 61) rfl ?_
  refine pm_iload dM_box_61 rfl (q := 63) rfl ?_
  refine pm_if_ne (tgt := 70) dM_box_63 rfl (q := 66) rfl (fun _ => ?_) (fun z => absurd z (by decide))
  refine pm_iconst (x := 0) dM_box_70 (by decide) (q := 71) rfl ?_
  refine pm_aload_n dM_box_71 rfl (q := 72) rfl ?_
  refine pm_get fl_M_100 dM_box_72 rfl rfl (q := 75) rfl ?_
  refine pm_iconst (x := 5) dM_box_75 (by decide) (q := 76) rfl ?_
  refine pm_icmp_ne (tgt := 83) dM_box_76 rfl (q := 79) rfl (fun z => absurd k5 z) (fun _ => ?_)
  refine pm_iconst (x := 1) dM_box_79 (by decide) (q := 80) rfl ?_
  refine pm_goto (tgt := 84) dM_box_80 rfl ?_
  refine pm_cV2i hK (kM_refuse_2 hl 0 _ _ rfl (by decide)) mo_M_refuse im_M_refuse se_M_refuse lk_M_96 dM_box_84 (by omega) (Nat.le_of_ble_eq_true rfl) (Nat.zero_le _) (Nat.zero_le _) rfl rfl rfl (q := 87) rfl ?_
  refine pm_if_eq (tgt := 92) dM_box_87 rfl (q := 90) rfl (fun z => absurd z (by decide)) (fun _ => ?_)
  refine pm_iconst (x := 0) dM_box_90 (by decide) (q := 91) rfl ?_
  exact pm_retI hret dM_box_91 rfl
set_option maxHeartbeats 4000000 in
theorem kM_box_no {l : Launch} (hl : l.stackTraces = false) (d : Nat) (hd : 2 ≤ d) {pd : Int32} {si : Nat → Int32} {sa : Nat → Nat → Int32} {hv : Nat → Int32} {ha : Nat → Nat → Nat → Int32} {sl : Int32} {sc : Nat → Nat → Int32} {pl : Int32} {pa : Nat → Nat → Int32} {mi : Nat → Int32} {ma : Nat → Nat → Int32} {tl : pm_H} (x y w k : Int32) (hg : ¬ (¬ fw x 0 (mi 3 - 1) = 0 ∧ ¬ fw y 0 (mi 3 - 1) = 0 ∧ x < y ∧ ¬ fw w 1 40 = 0 ∧ ¬ fw k 0 3 = 0)) : pm_Sem l d mM_box [.ref 31, .int x, .int y, .int w, .int k] (cH pd si sa hv ha sl sc pl pa (mH (mi) (ma) tl)) (some (.int 0)) (cH pd si sa hv ha sl sc pl pa (mH (up1 mi 0 1) (ma) tl)) := by
  refine pm_sem hl mo_M_box ⟨_, rfl, rfl⟩ rfl rfl (Nat.le_of_ble_eq_true rfl) (fun K G hK hret => ?_)
  have hJ : pm_Go mM_box K G 58 [some (.ref 31), some (.int x), some (.int y), some (.int w), some (.int k), none] [.int 0] (cH pd si sa hv ha sl sc pl pa (mH (mi) (ma) tl)) 0 0 := by
    refine pm_istore dM_box_58 (by decide) (q := 60) rfl ?_
    refine pm_aload_n dM_box_60 rfl (q := 61) rfl ?_
    refine pm_iload dM_box_61 rfl (q := 63) rfl ?_
    refine pm_if_ne (tgt := 70) dM_box_63 rfl (q := 66) rfl (fun z => absurd rfl z) (fun _ => ?_)
    refine pm_iconst (x := 1) dM_box_66 (by decide) (q := 67) rfl ?_
    refine pm_goto (tgt := 71) dM_box_67 rfl ?_
    refine pm_aload_n dM_box_71 rfl (q := 72) rfl ?_
    refine pm_get fl_M_100 dM_box_72 rfl rfl (q := 75) rfl ?_
    refine pm_iconst (x := 5) dM_box_75 (by decide) (q := 76) rfl ?_
    refine pm_icmp_ne (tgt := 83) dM_box_76 rfl (q := 79) rfl (fun h76 => ?_) (fun h76 => ?_)
    · refine pm_iconst (x := 0) dM_box_83 (by decide) (q := 84) rfl ?_
      refine pm_cV2i hK (kM_refuse_1 hl 0 _ _ (by decide)) mo_M_refuse im_M_refuse se_M_refuse lk_M_96 dM_box_84 (by omega) (Nat.le_of_ble_eq_true rfl) (Nat.zero_le _) (Nat.zero_le _) rfl rfl rfl (q := 87) rfl ?_
      refine pm_if_eq (tgt := 92) dM_box_87 rfl (q := 90) rfl (fun z => absurd z (by decide)) (fun _ => ?_)
      refine pm_iconst (x := 0) dM_box_90 (by decide) (q := 91) rfl ?_
      exact pm_retI hret dM_box_91 rfl
    · refine pm_iconst (x := 1) dM_box_79 (by decide) (q := 80) rfl ?_
      refine pm_goto (tgt := 84) dM_box_80 rfl ?_
      refine pm_cV2i hK (kM_refuse_1 hl 0 _ _ (by decide)) mo_M_refuse im_M_refuse se_M_refuse lk_M_96 dM_box_84 (by omega) (Nat.le_of_ble_eq_true rfl) (Nat.zero_le _) (Nat.zero_le _) rfl rfl rfl (q := 87) rfl ?_
      refine pm_if_eq (tgt := 92) dM_box_87 rfl (q := 90) rfl (fun z => absurd z (by decide)) (fun _ => ?_)
      refine pm_iconst (x := 0) dM_box_90 (by decide) (q := 91) rfl ?_
      exact pm_retI hret dM_box_91 rfl
  refine pm_iload_n dM_box_0 rfl (q := 1) rfl ?_
  refine pm_iconst (x := 0) dM_box_1 (by decide) (q := 2) rfl ?_
  refine pm_aload_n dM_box_2 rfl (q := 3) rfl ?_
  refine pm_get fl_M_16 dM_box_3 rfl rfl (q := 6) rfl ?_
  refine pm_iconst (x := 1) dM_box_6 (by decide) (q := 7) rfl ?_
  refine pm_isub dM_box_7 (q := 8) rfl ?_
  refine pm_cS3i hK (kM_in hl 0 _ _ _ _) mo_M_in st_M_in lk_M_92 dM_box_8 (by omega) (Nat.le_of_ble_eq_true rfl) (Nat.zero_le _) (Nat.zero_le _) (q := 11) rfl ?_
  refine pm_if_eq (tgt := 57) dM_box_11 rfl (q := 14) rfl (fun h11 => ?_) (fun h11 => ?_)
  · refine pm_iconst (x := 0) dM_box_57 (by decide) (q := 58) rfl ?_
    exact hJ
  · refine pm_iload_n dM_box_14 rfl (q := 15) rfl ?_
    refine pm_iconst (x := 0) dM_box_15 (by decide) (q := 16) rfl ?_
    refine pm_aload_n dM_box_16 rfl (q := 17) rfl ?_
    refine pm_get fl_M_16 dM_box_17 rfl rfl (q := 20) rfl ?_
    refine pm_iconst (x := 1) dM_box_20 (by decide) (q := 21) rfl ?_
    refine pm_isub dM_box_21 (q := 22) rfl ?_
    refine pm_cS3i hK (kM_in hl 0 _ _ _ _) mo_M_in st_M_in lk_M_92 dM_box_22 (by omega) (Nat.le_of_ble_eq_true rfl) (Nat.zero_le _) (Nat.zero_le _) (q := 25) rfl ?_
    refine pm_if_eq (tgt := 57) dM_box_25 rfl (q := 28) rfl (fun h25 => ?_) (fun h25 => ?_)
    · refine pm_iconst (x := 0) dM_box_57 (by decide) (q := 58) rfl ?_
      exact hJ
    · refine pm_iload_n dM_box_28 rfl (q := 29) rfl ?_
      refine pm_iload_n dM_box_29 rfl (q := 30) rfl ?_
      refine pm_icmp_ge (tgt := 57) dM_box_30 rfl (q := 33) rfl (fun h30 => ?_) (fun h30 => ?_)
      · refine pm_iconst (x := 0) dM_box_57 (by decide) (q := 58) rfl ?_
        exact hJ
      · refine pm_iload_n dM_box_33 rfl (q := 34) rfl ?_
        refine pm_iconst (x := 1) dM_box_34 (by decide) (q := 35) rfl ?_
        refine pm_bipush (x := 40) dM_box_35 (by decide) (q := 37) rfl ?_
        refine pm_cS3i hK (kM_in hl 0 _ _ _ _) mo_M_in st_M_in lk_M_92 dM_box_37 (by omega) (Nat.le_of_ble_eq_true rfl) (Nat.zero_le _) (Nat.zero_le _) (q := 40) rfl ?_
        refine pm_if_eq (tgt := 57) dM_box_40 rfl (q := 43) rfl (fun h40 => ?_) (fun h40 => ?_)
        · refine pm_iconst (x := 0) dM_box_57 (by decide) (q := 58) rfl ?_
          exact hJ
        · refine pm_iload dM_box_43 rfl (q := 45) rfl ?_
          refine pm_iconst (x := 0) dM_box_45 (by decide) (q := 46) rfl ?_
          refine pm_iconst (x := 3) dM_box_46 (by decide) (q := 47) rfl ?_
          refine pm_cS3i hK (kM_in hl 0 _ _ _ _) mo_M_in st_M_in lk_M_92 dM_box_47 (by omega) (Nat.le_of_ble_eq_true rfl) (Nat.zero_le _) (Nat.zero_le _) (q := 50) rfl ?_
          refine pm_if_eq (tgt := 57) dM_box_50 rfl (q := 53) rfl (fun h50 => ?_) (fun h50 => ?_)
          · refine pm_iconst (x := 0) dM_box_57 (by decide) (q := 58) rfl ?_
            exact hJ
          · exact absurd ⟨h11, h25, Int32.not_le.mp h30, h40, h50⟩ hg
set_option maxHeartbeats 4000000 in
theorem kM_roll_ok {l : Launch} (hl : l.stackTraces = false) (d : Nat) (hd : 2 ≤ d) {pd : Int32} {si : Nat → Int32} {sa : Nat → Nat → Int32} {hv : Nat → Int32} {ha : Nat → Nat → Nat → Int32} {sl : Int32} {sc : Nat → Nat → Int32} {pl : Int32} {pa : Nat → Nat → Int32} {mi : Nat → Int32} {ma : Nat → Nat → Int32} {tl : pm_H} (x : Int32) (k0 : ¬ fw x 0 (mi 8 - 1) = 0) (hx : vp_in x 5) (k1 : ma 5 x.toNatClampNeg = 0) : pm_Sem l d mM_roll [.ref 31, .int x] (cH pd si sa hv ha sl sc pl pa (mH (mi) (ma) tl)) none (cH pd si sa hv ha sl sc pl pa (mH (up1 (up1 (up1 mi 0 0) 18 0) 19 0) (up1 (up1 ma 5 (upd (ma 5) x.toNatClampNeg 1)) 14 (fun _ => -1)) tl)) := by
  refine pm_sem hl mo_M_roll rfl rfl rfl (Nat.le_of_ble_eq_true rfl) (fun K G hK hret => ?_)
  refine pm_iload_n dM_roll_0 rfl (q := 1) rfl ?_
  refine pm_iconst (x := 0) dM_roll_1 (by decide) (q := 2) rfl ?_
  refine pm_aload_n dM_roll_2 rfl (q := 3) rfl ?_
  refine pm_get fl_M_100 dM_roll_3 rfl rfl (q := 6) rfl ?_
  refine pm_iconst (x := 1) dM_roll_6 (by decide) (q := 7) rfl ?_
  refine pm_isub dM_roll_7 (q := 8) rfl ?_
  refine pm_cS3i hK (kM_in hl 0 _ _ _ _) mo_M_in st_M_in lk_M_92 dM_roll_8 (by omega) (Nat.le_of_ble_eq_true rfl) (Nat.zero_le _) (Nat.zero_le _) (q := 11) rfl ?_
  refine pm_istore_n dM_roll_11 (by decide) (q := 12) rfl ?_
  refine pm_aload_n dM_roll_12 rfl (q := 13) rfl ?_
  refine pm_iload_n dM_roll_13 rfl (q := 14) rfl ?_
  refine pm_if_eq (tgt := 34) dM_roll_14 rfl (q := 17) rfl (fun z => absurd z k0) (fun _ => ?_)
  refine pm_aload_n dM_roll_17 rfl (q := 18) rfl ?_
  refine pm_get fl_M_45 dM_roll_18 rfl rfl (q := 21) rfl ?_
  refine pm_iload_n dM_roll_21 rfl (q := 22) rfl ?_
  refine pm_if_eq (tgt := 29) dM_roll_22 rfl (q := 25) rfl (fun z => absurd z k0) (fun _ => ?_)
  refine pm_iload_n dM_roll_25 rfl (q := 26) rfl ?_
  refine pm_goto (tgt := 30) dM_roll_26 rfl ?_
  refine pm_zald dM_roll_30 rfl (hx) (q := 31) rfl ?_
  refine pm_if_eq (tgt := 38) dM_roll_31 rfl (q := 34) rfl (fun _ => ?_) (fun z => absurd k1 z)
  refine pm_iconst (x := 0) dM_roll_38 (by decide) (q := 39) rfl ?_
  refine pm_iconst (x := 0) dM_roll_39 (by decide) (q := 40) rfl ?_
  refine pm_cV2i hK (kM_refuse_0 hl 0 _ _ rfl rfl) mo_M_refuse im_M_refuse se_M_refuse lk_M_96 dM_roll_40 (by omega) (Nat.le_of_ble_eq_true rfl) (Nat.zero_le _) (Nat.zero_le _) rfl rfl rfl (q := 43) rfl ?_
  refine pm_if_eq (tgt := 47) dM_roll_43 rfl (q := 46) rfl (fun _ => ?_) (fun z => absurd rfl z)
  refine pm_aload_n dM_roll_47 rfl (q := 48) rfl ?_
  refine pm_get fl_M_45 dM_roll_48 rfl rfl (q := 51) rfl ?_
  refine pm_iload_n dM_roll_51 rfl (q := 52) rfl ?_
  refine pm_iconst (x := 1) dM_roll_52 (by decide) (q := 53) rfl ?_
  refine pm_zast dM_roll_53 rfl (hx) (q := 54) rfl ?_
  refine pm_heap (g := (cH pd si sa hv ha sl sc pl pa (mH (up1 mi 0 0) (up1 ma 5 (upd (ma 5) x.toNatClampNeg 1)) tl))) rfl ?_
  refine pm_aload_n dM_roll_54 rfl (q := 55) rfl ?_
  refine pm_cV0v hK (kM_noPlan hl 1 (Nat.le_refl _)) mo_M_noPlan im_M_noPlan se_M_noPlan lk_M_103 dM_roll_55 (by omega) (Nat.le_of_ble_eq_true rfl) (Nat.zero_le _) (Nat.zero_le _) rfl rfl rfl (q := 58) rfl ?_
  exact pm_retV hret dM_roll_58 rfl
set_option maxHeartbeats 4000000 in
theorem kM_roll_no {l : Launch} (hl : l.stackTraces = false) (d : Nat) (hd : 2 ≤ d) {pd : Int32} {si : Nat → Int32} {sa : Nat → Nat → Int32} {hv : Nat → Int32} {ha : Nat → Nat → Nat → Int32} {sl : Int32} {sc : Nat → Nat → Int32} {pl : Int32} {pa : Nat → Nat → Int32} {mi : Nat → Int32} {ma : Nat → Nat → Int32} {tl : pm_H} (x : Int32) (k0 : fw x 0 (mi 8 - 1) = 0) : pm_Sem l d mM_roll [.ref 31, .int x] (cH pd si sa hv ha sl sc pl pa (mH (mi) (ma) tl)) none (cH pd si sa hv ha sl sc pl pa (mH (up1 mi 0 1) (ma) tl)) := by
  refine pm_sem hl mo_M_roll rfl rfl rfl (Nat.le_of_ble_eq_true rfl) (fun K G hK hret => ?_)
  refine pm_iload_n dM_roll_0 rfl (q := 1) rfl ?_
  refine pm_iconst (x := 0) dM_roll_1 (by decide) (q := 2) rfl ?_
  refine pm_aload_n dM_roll_2 rfl (q := 3) rfl ?_
  refine pm_get fl_M_100 dM_roll_3 rfl rfl (q := 6) rfl ?_
  refine pm_iconst (x := 1) dM_roll_6 (by decide) (q := 7) rfl ?_
  refine pm_isub dM_roll_7 (q := 8) rfl ?_
  refine pm_cS3i hK (kM_in hl 0 _ _ _ _) mo_M_in st_M_in lk_M_92 dM_roll_8 (by omega) (Nat.le_of_ble_eq_true rfl) (Nat.zero_le _) (Nat.zero_le _) (q := 11) rfl ?_
  refine pm_istore_n dM_roll_11 (by decide) (q := 12) rfl ?_
  refine pm_aload_n dM_roll_12 rfl (q := 13) rfl ?_
  refine pm_iload_n dM_roll_13 rfl (q := 14) rfl ?_
  refine pm_if_eq (tgt := 34) dM_roll_14 rfl (q := 17) rfl (fun _ => ?_) (fun z => absurd k0 z)
  refine pm_iconst (x := 1) dM_roll_34 (by decide) (q := 35) rfl ?_
  refine pm_goto (tgt := 39) dM_roll_35 rfl ?_
  refine pm_iconst (x := 0) dM_roll_39 (by decide) (q := 40) rfl ?_
  refine pm_cV2i hK (kM_refuse_1 hl 0 _ _ (by decide)) mo_M_refuse im_M_refuse se_M_refuse lk_M_96 dM_roll_40 (by omega) (Nat.le_of_ble_eq_true rfl) (Nat.zero_le _) (Nat.zero_le _) rfl rfl rfl (q := 43) rfl ?_
  refine pm_if_eq (tgt := 47) dM_roll_43 rfl (q := 46) rfl (fun z => absurd z (by decide)) (fun _ => ?_)
  exact pm_retV hret dM_roll_46 rfl
set_option maxHeartbeats 4000000 in
theorem kM_roll_gone {l : Launch} (hl : l.stackTraces = false) (d : Nat) (hd : 2 ≤ d) {pd : Int32} {si : Nat → Int32} {sa : Nat → Nat → Int32} {hv : Nat → Int32} {ha : Nat → Nat → Nat → Int32} {sl : Int32} {sc : Nat → Nat → Int32} {pl : Int32} {pa : Nat → Nat → Int32} {mi : Nat → Int32} {ma : Nat → Nat → Int32} {tl : pm_H} (x : Int32) (k0 : ¬ fw x 0 (mi 8 - 1) = 0) (hx : vp_in x 5) (k1 : ¬ ma 5 x.toNatClampNeg = 0) : pm_Sem l d mM_roll [.ref 31, .int x] (cH pd si sa hv ha sl sc pl pa (mH (mi) (ma) tl)) none (cH pd si sa hv ha sl sc pl pa (mH (up1 mi 0 1) (ma) tl)) := by
  refine pm_sem hl mo_M_roll rfl rfl rfl (Nat.le_of_ble_eq_true rfl) (fun K G hK hret => ?_)
  refine pm_iload_n dM_roll_0 rfl (q := 1) rfl ?_
  refine pm_iconst (x := 0) dM_roll_1 (by decide) (q := 2) rfl ?_
  refine pm_aload_n dM_roll_2 rfl (q := 3) rfl ?_
  refine pm_get fl_M_100 dM_roll_3 rfl rfl (q := 6) rfl ?_
  refine pm_iconst (x := 1) dM_roll_6 (by decide) (q := 7) rfl ?_
  refine pm_isub dM_roll_7 (q := 8) rfl ?_
  refine pm_cS3i hK (kM_in hl 0 _ _ _ _) mo_M_in st_M_in lk_M_92 dM_roll_8 (by omega) (Nat.le_of_ble_eq_true rfl) (Nat.zero_le _) (Nat.zero_le _) (q := 11) rfl ?_
  refine pm_istore_n dM_roll_11 (by decide) (q := 12) rfl ?_
  refine pm_aload_n dM_roll_12 rfl (q := 13) rfl ?_
  refine pm_iload_n dM_roll_13 rfl (q := 14) rfl ?_
  refine pm_if_eq (tgt := 34) dM_roll_14 rfl (q := 17) rfl (fun z => absurd z k0) (fun _ => ?_)
  refine pm_aload_n dM_roll_17 rfl (q := 18) rfl ?_
  refine pm_get fl_M_45 dM_roll_18 rfl rfl (q := 21) rfl ?_
  refine pm_iload_n dM_roll_21 rfl (q := 22) rfl ?_
  refine pm_if_eq (tgt := 29) dM_roll_22 rfl (q := 25) rfl (fun z => absurd z k0) (fun _ => ?_)
  refine pm_iload_n dM_roll_25 rfl (q := 26) rfl ?_
  refine pm_goto (tgt := 30) dM_roll_26 rfl ?_
  refine pm_zald dM_roll_30 rfl (hx) (q := 31) rfl ?_
  refine pm_if_eq (tgt := 38) dM_roll_31 rfl (q := 34) rfl (fun z => absurd z k1) (fun _ => ?_)
  refine pm_iconst (x := 1) dM_roll_34 (by decide) (q := 35) rfl ?_
  refine pm_goto (tgt := 39) dM_roll_35 rfl ?_
  refine pm_iconst (x := 0) dM_roll_39 (by decide) (q := 40) rfl ?_
  refine pm_cV2i hK (kM_refuse_1 hl 0 _ _ (by decide)) mo_M_refuse im_M_refuse se_M_refuse lk_M_96 dM_roll_40 (by omega) (Nat.le_of_ble_eq_true rfl) (Nat.zero_le _) (Nat.zero_le _) rfl rfl rfl (q := 43) rfl ?_
  refine pm_if_eq (tgt := 47) dM_roll_43 rfl (q := 46) rfl (fun z => absurd z (by decide)) (fun _ => ?_)
  exact pm_retV hret dM_roll_46 rfl
set_option maxHeartbeats 4000000 in
theorem kM_slot_ok {l : Launch} (hl : l.stackTraces = false) (d : Nat) (hd : 2 ≤ d) {pd : Int32} {si : Nat → Int32} {sa : Nat → Nat → Int32} {hv : Nat → Int32} {ha : Nat → Nat → Nat → Int32} {sl : Int32} {sc : Nat → Nat → Int32} {pl : Int32} {pa : Nat → Nat → Int32} {mi : Nat → Int32} {ma : Nat → Nat → Int32} {tl : pm_H} (x y : Int32) (k0 : ¬ fw x 0 (mi 1 - 1) = 0) (k1 : ¬ fw y 0 (mi 2 - 1) = 0) (hx : vp_in (3 * x + y) 9) : pm_Sem l d mM_slot [.ref 31, .int x, .int y] (cH pd si sa hv ha sl sc pl pa (mH (mi) (ma) tl)) (some (.int (ma 14 (3 * x + y).toNatClampNeg))) (cH pd si sa hv ha sl sc pl pa (mH (up1 mi 0 0) (ma) tl)) := by
  refine pm_sem hl mo_M_slot ⟨_, rfl, rfl⟩ rfl rfl (Nat.le_of_ble_eq_true rfl) (fun K G hK hret => ?_)
  refine pm_aload_n dM_slot_0 rfl (q := 1) rfl ?_
  refine pm_aload_n dM_slot_1 rfl (q := 2) rfl ?_
  refine pm_iload_n dM_slot_2 rfl (q := 3) rfl ?_
  refine pm_cV1i hK (kM_isStack hl 1 (Nat.le_refl _) mH_at _) mo_M_isStack im_M_isStack se_M_isStack lk_M_106 dM_slot_3 (by omega) (Nat.le_of_ble_eq_true rfl) (Nat.zero_le _) (Nat.zero_le _) rfl rfl rfl (q := 6) rfl ?_
  refine pm_if_eq (tgt := 23) dM_slot_6 rfl (q := 9) rfl (fun z => absurd z k0) (fun _ => ?_)
  refine pm_iload_n dM_slot_9 rfl (q := 10) rfl ?_
  refine pm_iconst (x := 0) dM_slot_10 (by decide) (q := 11) rfl ?_
  refine pm_aload_n dM_slot_11 rfl (q := 12) rfl ?_
  refine pm_get fl_M_13 dM_slot_12 rfl rfl (q := 15) rfl ?_
  refine pm_iconst (x := 1) dM_slot_15 (by decide) (q := 16) rfl ?_
  refine pm_isub dM_slot_16 (q := 17) rfl ?_
  refine pm_cS3i hK (kM_in hl 0 _ _ _ _) mo_M_in st_M_in lk_M_92 dM_slot_17 (by omega) (Nat.le_of_ble_eq_true rfl) (Nat.zero_le _) (Nat.zero_le _) (q := 20) rfl ?_
  refine pm_if_ne (tgt := 27) dM_slot_20 rfl (q := 23) rfl (fun _ => ?_) (fun z => absurd z k1)
  refine pm_iconst (x := 0) dM_slot_27 (by decide) (q := 28) rfl ?_
  refine pm_iconst (x := 0) dM_slot_28 (by decide) (q := 29) rfl ?_
  refine pm_cV2i hK (kM_refuse_0 hl 0 _ _ rfl rfl) mo_M_refuse im_M_refuse se_M_refuse lk_M_96 dM_slot_29 (by omega) (Nat.le_of_ble_eq_true rfl) (Nat.zero_le _) (Nat.zero_le _) rfl rfl rfl (q := 32) rfl ?_
  refine pm_if_eq (tgt := 37) dM_slot_32 rfl (q := 35) rfl (fun _ => ?_) (fun z => absurd rfl z)
  refine pm_aload_n dM_slot_37 rfl (q := 38) rfl ?_
  refine pm_get fl_M_72 dM_slot_38 rfl rfl (q := 41) rfl ?_
  refine pm_iconst (x := 3) dM_slot_41 (by decide) (q := 42) rfl ?_
  refine pm_iload_n dM_slot_42 rfl (q := 43) rfl ?_
  refine pm_imul dM_slot_43 (q := 44) rfl ?_
  refine pm_iload_n dM_slot_44 rfl (q := 45) rfl ?_
  refine pm_iadd dM_slot_45 (q := 46) rfl ?_
  refine pm_iald dM_slot_46 rfl (hx) (q := 47) rfl ?_
  exact pm_retI hret dM_slot_47 rfl
set_option maxHeartbeats 4000000 in
theorem kM_slot_no {l : Launch} (hl : l.stackTraces = false) (d : Nat) (hd : 2 ≤ d) {pd : Int32} {si : Nat → Int32} {sa : Nat → Nat → Int32} {hv : Nat → Int32} {ha : Nat → Nat → Nat → Int32} {sl : Int32} {sc : Nat → Nat → Int32} {pl : Int32} {pa : Nat → Nat → Int32} {mi : Nat → Int32} {ma : Nat → Nat → Int32} {tl : pm_H} (x y : Int32) (hno : ¬ (¬ fw x 0 (mi 1 - 1) = 0 ∧ ¬ fw y 0 (mi 2 - 1) = 0)) : pm_Sem l d mM_slot [.ref 31, .int x, .int y] (cH pd si sa hv ha sl sc pl pa (mH (mi) (ma) tl)) (some (.int 0)) (cH pd si sa hv ha sl sc pl pa (mH (up1 mi 0 1) (ma) tl)) := by
  refine pm_sem hl mo_M_slot ⟨_, rfl, rfl⟩ rfl rfl (Nat.le_of_ble_eq_true rfl) (fun K G hK hret => ?_)
  have hJ : pm_Go mM_slot K G 23 [some (.ref 31), some (.int x), some (.int y)] [.ref 31] (cH pd si sa hv ha sl sc pl pa (mH (mi) (ma) tl)) 0 0 := by
    refine pm_iconst (x := 1) dM_slot_23 (by decide) (q := 24) rfl ?_
    refine pm_goto (tgt := 28) dM_slot_24 rfl ?_
    refine pm_iconst (x := 0) dM_slot_28 (by decide) (q := 29) rfl ?_
    refine pm_cV2i hK (kM_refuse_1 hl 0 _ _ (by decide)) mo_M_refuse im_M_refuse se_M_refuse lk_M_96 dM_slot_29 (by omega) (Nat.le_of_ble_eq_true rfl) (Nat.zero_le _) (Nat.zero_le _) rfl rfl rfl (q := 32) rfl ?_
    refine pm_if_eq (tgt := 37) dM_slot_32 rfl (q := 35) rfl (fun z => absurd z (by decide)) (fun _ => ?_)
    refine pm_iconst (x := 0) dM_slot_35 (by decide) (q := 36) rfl ?_
    exact pm_retI hret dM_slot_36 rfl
  refine pm_aload_n dM_slot_0 rfl (q := 1) rfl ?_
  refine pm_aload_n dM_slot_1 rfl (q := 2) rfl ?_
  refine pm_iload_n dM_slot_2 rfl (q := 3) rfl ?_
  refine pm_cV1i hK (kM_isStack hl 1 (Nat.le_refl _) mH_at _) mo_M_isStack im_M_isStack se_M_isStack lk_M_106 dM_slot_3 (by omega) (Nat.le_of_ble_eq_true rfl) (Nat.zero_le _) (Nat.zero_le _) rfl rfl rfl (q := 6) rfl ?_
  refine pm_if_eq (tgt := 23) dM_slot_6 rfl (q := 9) rfl (fun h6 => ?_) (fun h6 => ?_)
  · exact hJ
  · refine pm_iload_n dM_slot_9 rfl (q := 10) rfl ?_
    refine pm_iconst (x := 0) dM_slot_10 (by decide) (q := 11) rfl ?_
    refine pm_aload_n dM_slot_11 rfl (q := 12) rfl ?_
    refine pm_get fl_M_13 dM_slot_12 rfl rfl (q := 15) rfl ?_
    refine pm_iconst (x := 1) dM_slot_15 (by decide) (q := 16) rfl ?_
    refine pm_isub dM_slot_16 (q := 17) rfl ?_
    refine pm_cS3i hK (kM_in hl 0 _ _ _ _) mo_M_in st_M_in lk_M_92 dM_slot_17 (by omega) (Nat.le_of_ble_eq_true rfl) (Nat.zero_le _) (Nat.zero_le _) (q := 20) rfl ?_
    refine pm_if_ne (tgt := 27) dM_slot_20 rfl (q := 23) rfl (fun h20 => ?_) (fun h20 => ?_)
    · exact absurd ⟨h6, h20⟩ hno
    · exact hJ
set_option maxHeartbeats 4000000 in
theorem kM_move_0 {l : Launch} (hl : l.stackTraces = false) (d : Nat) (hd : 2 ≤ d) {pd : Int32} {si : Nat → Int32} {sa : Nat → Nat → Int32} {hv : Nat → Int32} {ha : Nat → Nat → Nat → Int32} {sl : Int32} {sc : Nat → Nat → Int32} {pl : Int32} {pa : Nat → Nat → Int32} {mi : Nat → Int32} {ma : Nat → Nat → Int32} {tl : pm_H} (x : Int32) (k0 : ¬ fw x 0 (mi 19 - 1) = 0) (hx : vp_in x 60) : pm_Sem l d mM_move [.ref 31, .int x, .int 0] (cH pd si sa hv ha sl sc pl pa (mH (mi) (ma) tl)) (some (.int (ma 10 x.toNatClampNeg))) (cH pd si sa hv ha sl sc pl pa (mH (up1 mi 0 0) (ma) tl)) := by
  refine pm_sem hl mo_M_move ⟨_, rfl, rfl⟩ rfl rfl (Nat.le_of_ble_eq_true rfl) (fun K G hK hret => ?_)
  refine pm_iload_n dM_move_0 rfl (q := 1) rfl ?_
  refine pm_iconst (x := 0) dM_move_1 (by decide) (q := 2) rfl ?_
  refine pm_aload_n dM_move_2 rfl (q := 3) rfl ?_
  refine pm_get fl_M_89 dM_move_3 rfl rfl (q := 6) rfl ?_
  refine pm_iconst (x := 1) dM_move_6 (by decide) (q := 7) rfl ?_
  refine pm_isub dM_move_7 (q := 8) rfl ?_
  refine pm_cS3i hK (kM_in hl 0 _ _ _ _) mo_M_in st_M_in lk_M_92 dM_move_8 (by omega) (Nat.le_of_ble_eq_true rfl) (Nat.zero_le _) (Nat.zero_le _) (q := 11) rfl ?_
  refine pm_istore_n dM_move_11 (by decide) (q := 12) rfl ?_
  refine pm_aload_n dM_move_12 rfl (q := 13) rfl ?_
  refine pm_iload_n dM_move_13 rfl (q := 14) rfl ?_
  refine pm_if_ne (tgt := 21) dM_move_14 rfl (q := 17) rfl (fun _ => ?_) (fun z => absurd z k0)
  refine pm_iconst (x := 0) dM_move_21 (by decide) (q := 22) rfl ?_
  refine pm_iload_n dM_move_22 rfl (q := 23) rfl ?_
  refine pm_if_eq (tgt := 39) dM_move_23 rfl (q := 26) rfl (fun z => absurd z k0) (fun _ => ?_)
  refine pm_iload_n dM_move_26 rfl (q := 27) rfl ?_
  refine pm_iconst (x := 0) dM_move_27 (by decide) (q := 28) rfl ?_
  refine pm_iconst (x := 3) dM_move_28 (by decide) (q := 29) rfl ?_
  refine pm_cS3i hK (kM_in hl 0 _ _ _ _) mo_M_in st_M_in lk_M_92 dM_move_29 (by omega) (Nat.le_of_ble_eq_true rfl) (Nat.zero_le _) (Nat.zero_le _) (q := 32) rfl ?_
  refine pm_if_ne (tgt := 39) dM_move_32 rfl (q := 35) rfl (fun _ => ?_) (fun z => absurd z (by decide))
  refine pm_iconst (x := 0) dM_move_39 (by decide) (q := 40) rfl ?_
  refine pm_cV2i hK (kM_refuse_0 hl 0 _ _ rfl rfl) mo_M_refuse im_M_refuse se_M_refuse lk_M_96 dM_move_40 (by omega) (Nat.le_of_ble_eq_true rfl) (Nat.zero_le _) (Nat.zero_le _) rfl rfl rfl (q := 43) rfl ?_
  refine pm_if_eq (tgt := 48) dM_move_43 rfl (q := 46) rfl (fun _ => ?_) (fun z => absurd rfl z)
  refine pm_iload_n dM_move_48 rfl (q := 49) rfl ?_
  refine pm_if_ne (tgt := 61) dM_move_49 rfl (q := 52) rfl (fun h => absurd h (by decide)) (fun _ => ?_)
  refine pm_aload_n dM_move_52 rfl (q := 53) rfl ?_
  refine pm_get fl_M_60 dM_move_53 rfl rfl (q := 56) rfl ?_
  refine pm_iload_n dM_move_56 rfl (q := 57) rfl ?_
  refine pm_iald dM_move_57 rfl (hx) (q := 58) rfl ?_
  refine pm_goto (tgt := 95) dM_move_58 rfl ?_
  exact pm_retI hret dM_move_95 rfl
set_option maxHeartbeats 4000000 in
theorem kM_move_1 {l : Launch} (hl : l.stackTraces = false) (d : Nat) (hd : 2 ≤ d) {pd : Int32} {si : Nat → Int32} {sa : Nat → Nat → Int32} {hv : Nat → Int32} {ha : Nat → Nat → Nat → Int32} {sl : Int32} {sc : Nat → Nat → Int32} {pl : Int32} {pa : Nat → Nat → Int32} {mi : Nat → Int32} {ma : Nat → Nat → Int32} {tl : pm_H} (x : Int32) (k0 : ¬ fw x 0 (mi 19 - 1) = 0) (hx : vp_in x 60) : pm_Sem l d mM_move [.ref 31, .int x, .int 1] (cH pd si sa hv ha sl sc pl pa (mH (mi) (ma) tl)) (some (.int (ma 11 x.toNatClampNeg))) (cH pd si sa hv ha sl sc pl pa (mH (up1 mi 0 0) (ma) tl)) := by
  refine pm_sem hl mo_M_move ⟨_, rfl, rfl⟩ rfl rfl (Nat.le_of_ble_eq_true rfl) (fun K G hK hret => ?_)
  refine pm_iload_n dM_move_0 rfl (q := 1) rfl ?_
  refine pm_iconst (x := 0) dM_move_1 (by decide) (q := 2) rfl ?_
  refine pm_aload_n dM_move_2 rfl (q := 3) rfl ?_
  refine pm_get fl_M_89 dM_move_3 rfl rfl (q := 6) rfl ?_
  refine pm_iconst (x := 1) dM_move_6 (by decide) (q := 7) rfl ?_
  refine pm_isub dM_move_7 (q := 8) rfl ?_
  refine pm_cS3i hK (kM_in hl 0 _ _ _ _) mo_M_in st_M_in lk_M_92 dM_move_8 (by omega) (Nat.le_of_ble_eq_true rfl) (Nat.zero_le _) (Nat.zero_le _) (q := 11) rfl ?_
  refine pm_istore_n dM_move_11 (by decide) (q := 12) rfl ?_
  refine pm_aload_n dM_move_12 rfl (q := 13) rfl ?_
  refine pm_iload_n dM_move_13 rfl (q := 14) rfl ?_
  refine pm_if_ne (tgt := 21) dM_move_14 rfl (q := 17) rfl (fun _ => ?_) (fun z => absurd z k0)
  refine pm_iconst (x := 0) dM_move_21 (by decide) (q := 22) rfl ?_
  refine pm_iload_n dM_move_22 rfl (q := 23) rfl ?_
  refine pm_if_eq (tgt := 39) dM_move_23 rfl (q := 26) rfl (fun z => absurd z k0) (fun _ => ?_)
  refine pm_iload_n dM_move_26 rfl (q := 27) rfl ?_
  refine pm_iconst (x := 0) dM_move_27 (by decide) (q := 28) rfl ?_
  refine pm_iconst (x := 3) dM_move_28 (by decide) (q := 29) rfl ?_
  refine pm_cS3i hK (kM_in hl 0 _ _ _ _) mo_M_in st_M_in lk_M_92 dM_move_29 (by omega) (Nat.le_of_ble_eq_true rfl) (Nat.zero_le _) (Nat.zero_le _) (q := 32) rfl ?_
  refine pm_if_ne (tgt := 39) dM_move_32 rfl (q := 35) rfl (fun _ => ?_) (fun z => absurd z (by decide))
  refine pm_iconst (x := 0) dM_move_39 (by decide) (q := 40) rfl ?_
  refine pm_cV2i hK (kM_refuse_0 hl 0 _ _ rfl rfl) mo_M_refuse im_M_refuse se_M_refuse lk_M_96 dM_move_40 (by omega) (Nat.le_of_ble_eq_true rfl) (Nat.zero_le _) (Nat.zero_le _) rfl rfl rfl (q := 43) rfl ?_
  refine pm_if_eq (tgt := 48) dM_move_43 rfl (q := 46) rfl (fun _ => ?_) (fun z => absurd rfl z)
  refine pm_iload_n dM_move_48 rfl (q := 49) rfl ?_
  refine pm_if_ne (tgt := 61) dM_move_49 rfl (q := 52) rfl (fun _ => ?_) (fun h => absurd h (by decide))
  refine pm_iload_n dM_move_61 rfl (q := 62) rfl ?_
  refine pm_iconst (x := 1) dM_move_62 (by decide) (q := 63) rfl ?_
  refine pm_icmp_ne (tgt := 75) dM_move_63 rfl (q := 66) rfl (fun h => absurd h (by decide)) (fun _ => ?_)
  refine pm_aload_n dM_move_66 rfl (q := 67) rfl ?_
  refine pm_get fl_M_63 dM_move_67 rfl rfl (q := 70) rfl ?_
  refine pm_iload_n dM_move_70 rfl (q := 71) rfl ?_
  refine pm_iald dM_move_71 rfl (hx) (q := 72) rfl ?_
  refine pm_goto (tgt := 95) dM_move_72 rfl ?_
  exact pm_retI hret dM_move_95 rfl
set_option maxHeartbeats 4000000 in
theorem kM_move_2 {l : Launch} (hl : l.stackTraces = false) (d : Nat) (hd : 2 ≤ d) {pd : Int32} {si : Nat → Int32} {sa : Nat → Nat → Int32} {hv : Nat → Int32} {ha : Nat → Nat → Nat → Int32} {sl : Int32} {sc : Nat → Nat → Int32} {pl : Int32} {pa : Nat → Nat → Int32} {mi : Nat → Int32} {ma : Nat → Nat → Int32} {tl : pm_H} (x : Int32) (k0 : ¬ fw x 0 (mi 19 - 1) = 0) (hx : vp_in x 60) : pm_Sem l d mM_move [.ref 31, .int x, .int 2] (cH pd si sa hv ha sl sc pl pa (mH (mi) (ma) tl)) (some (.int (ma 12 x.toNatClampNeg))) (cH pd si sa hv ha sl sc pl pa (mH (up1 mi 0 0) (ma) tl)) := by
  refine pm_sem hl mo_M_move ⟨_, rfl, rfl⟩ rfl rfl (Nat.le_of_ble_eq_true rfl) (fun K G hK hret => ?_)
  refine pm_iload_n dM_move_0 rfl (q := 1) rfl ?_
  refine pm_iconst (x := 0) dM_move_1 (by decide) (q := 2) rfl ?_
  refine pm_aload_n dM_move_2 rfl (q := 3) rfl ?_
  refine pm_get fl_M_89 dM_move_3 rfl rfl (q := 6) rfl ?_
  refine pm_iconst (x := 1) dM_move_6 (by decide) (q := 7) rfl ?_
  refine pm_isub dM_move_7 (q := 8) rfl ?_
  refine pm_cS3i hK (kM_in hl 0 _ _ _ _) mo_M_in st_M_in lk_M_92 dM_move_8 (by omega) (Nat.le_of_ble_eq_true rfl) (Nat.zero_le _) (Nat.zero_le _) (q := 11) rfl ?_
  refine pm_istore_n dM_move_11 (by decide) (q := 12) rfl ?_
  refine pm_aload_n dM_move_12 rfl (q := 13) rfl ?_
  refine pm_iload_n dM_move_13 rfl (q := 14) rfl ?_
  refine pm_if_ne (tgt := 21) dM_move_14 rfl (q := 17) rfl (fun _ => ?_) (fun z => absurd z k0)
  refine pm_iconst (x := 0) dM_move_21 (by decide) (q := 22) rfl ?_
  refine pm_iload_n dM_move_22 rfl (q := 23) rfl ?_
  refine pm_if_eq (tgt := 39) dM_move_23 rfl (q := 26) rfl (fun z => absurd z k0) (fun _ => ?_)
  refine pm_iload_n dM_move_26 rfl (q := 27) rfl ?_
  refine pm_iconst (x := 0) dM_move_27 (by decide) (q := 28) rfl ?_
  refine pm_iconst (x := 3) dM_move_28 (by decide) (q := 29) rfl ?_
  refine pm_cS3i hK (kM_in hl 0 _ _ _ _) mo_M_in st_M_in lk_M_92 dM_move_29 (by omega) (Nat.le_of_ble_eq_true rfl) (Nat.zero_le _) (Nat.zero_le _) (q := 32) rfl ?_
  refine pm_if_ne (tgt := 39) dM_move_32 rfl (q := 35) rfl (fun _ => ?_) (fun z => absurd z (by decide))
  refine pm_iconst (x := 0) dM_move_39 (by decide) (q := 40) rfl ?_
  refine pm_cV2i hK (kM_refuse_0 hl 0 _ _ rfl rfl) mo_M_refuse im_M_refuse se_M_refuse lk_M_96 dM_move_40 (by omega) (Nat.le_of_ble_eq_true rfl) (Nat.zero_le _) (Nat.zero_le _) rfl rfl rfl (q := 43) rfl ?_
  refine pm_if_eq (tgt := 48) dM_move_43 rfl (q := 46) rfl (fun _ => ?_) (fun z => absurd rfl z)
  refine pm_iload_n dM_move_48 rfl (q := 49) rfl ?_
  refine pm_if_ne (tgt := 61) dM_move_49 rfl (q := 52) rfl (fun _ => ?_) (fun h => absurd h (by decide))
  refine pm_iload_n dM_move_61 rfl (q := 62) rfl ?_
  refine pm_iconst (x := 1) dM_move_62 (by decide) (q := 63) rfl ?_
  refine pm_icmp_ne (tgt := 75) dM_move_63 rfl (q := 66) rfl (fun _ => ?_) (fun h => absurd h (by decide))
  refine pm_iload_n dM_move_75 rfl (q := 76) rfl ?_
  refine pm_iconst (x := 2) dM_move_76 (by decide) (q := 77) rfl ?_
  refine pm_icmp_ne (tgt := 89) dM_move_77 rfl (q := 80) rfl (fun h => absurd h (by decide)) (fun _ => ?_)
  refine pm_aload_n dM_move_80 rfl (q := 81) rfl ?_
  refine pm_get fl_M_66 dM_move_81 rfl rfl (q := 84) rfl ?_
  refine pm_iload_n dM_move_84 rfl (q := 85) rfl ?_
  refine pm_iald dM_move_85 rfl (hx) (q := 86) rfl ?_
  refine pm_goto (tgt := 95) dM_move_86 rfl ?_
  exact pm_retI hret dM_move_95 rfl
set_option maxHeartbeats 4000000 in
theorem kM_move_3 {l : Launch} (hl : l.stackTraces = false) (d : Nat) (hd : 2 ≤ d) {pd : Int32} {si : Nat → Int32} {sa : Nat → Nat → Int32} {hv : Nat → Int32} {ha : Nat → Nat → Nat → Int32} {sl : Int32} {sc : Nat → Nat → Int32} {pl : Int32} {pa : Nat → Nat → Int32} {mi : Nat → Int32} {ma : Nat → Nat → Int32} {tl : pm_H} (x : Int32) (k0 : ¬ fw x 0 (mi 19 - 1) = 0) (hx : vp_in x 60) : pm_Sem l d mM_move [.ref 31, .int x, .int 3] (cH pd si sa hv ha sl sc pl pa (mH (mi) (ma) tl)) (some (.int (ma 13 x.toNatClampNeg))) (cH pd si sa hv ha sl sc pl pa (mH (up1 mi 0 0) (ma) tl)) := by
  refine pm_sem hl mo_M_move ⟨_, rfl, rfl⟩ rfl rfl (Nat.le_of_ble_eq_true rfl) (fun K G hK hret => ?_)
  refine pm_iload_n dM_move_0 rfl (q := 1) rfl ?_
  refine pm_iconst (x := 0) dM_move_1 (by decide) (q := 2) rfl ?_
  refine pm_aload_n dM_move_2 rfl (q := 3) rfl ?_
  refine pm_get fl_M_89 dM_move_3 rfl rfl (q := 6) rfl ?_
  refine pm_iconst (x := 1) dM_move_6 (by decide) (q := 7) rfl ?_
  refine pm_isub dM_move_7 (q := 8) rfl ?_
  refine pm_cS3i hK (kM_in hl 0 _ _ _ _) mo_M_in st_M_in lk_M_92 dM_move_8 (by omega) (Nat.le_of_ble_eq_true rfl) (Nat.zero_le _) (Nat.zero_le _) (q := 11) rfl ?_
  refine pm_istore_n dM_move_11 (by decide) (q := 12) rfl ?_
  refine pm_aload_n dM_move_12 rfl (q := 13) rfl ?_
  refine pm_iload_n dM_move_13 rfl (q := 14) rfl ?_
  refine pm_if_ne (tgt := 21) dM_move_14 rfl (q := 17) rfl (fun _ => ?_) (fun z => absurd z k0)
  refine pm_iconst (x := 0) dM_move_21 (by decide) (q := 22) rfl ?_
  refine pm_iload_n dM_move_22 rfl (q := 23) rfl ?_
  refine pm_if_eq (tgt := 39) dM_move_23 rfl (q := 26) rfl (fun z => absurd z k0) (fun _ => ?_)
  refine pm_iload_n dM_move_26 rfl (q := 27) rfl ?_
  refine pm_iconst (x := 0) dM_move_27 (by decide) (q := 28) rfl ?_
  refine pm_iconst (x := 3) dM_move_28 (by decide) (q := 29) rfl ?_
  refine pm_cS3i hK (kM_in hl 0 _ _ _ _) mo_M_in st_M_in lk_M_92 dM_move_29 (by omega) (Nat.le_of_ble_eq_true rfl) (Nat.zero_le _) (Nat.zero_le _) (q := 32) rfl ?_
  refine pm_if_ne (tgt := 39) dM_move_32 rfl (q := 35) rfl (fun _ => ?_) (fun z => absurd z (by decide))
  refine pm_iconst (x := 0) dM_move_39 (by decide) (q := 40) rfl ?_
  refine pm_cV2i hK (kM_refuse_0 hl 0 _ _ rfl rfl) mo_M_refuse im_M_refuse se_M_refuse lk_M_96 dM_move_40 (by omega) (Nat.le_of_ble_eq_true rfl) (Nat.zero_le _) (Nat.zero_le _) rfl rfl rfl (q := 43) rfl ?_
  refine pm_if_eq (tgt := 48) dM_move_43 rfl (q := 46) rfl (fun _ => ?_) (fun z => absurd rfl z)
  refine pm_iload_n dM_move_48 rfl (q := 49) rfl ?_
  refine pm_if_ne (tgt := 61) dM_move_49 rfl (q := 52) rfl (fun _ => ?_) (fun h => absurd h (by decide))
  refine pm_iload_n dM_move_61 rfl (q := 62) rfl ?_
  refine pm_iconst (x := 1) dM_move_62 (by decide) (q := 63) rfl ?_
  refine pm_icmp_ne (tgt := 75) dM_move_63 rfl (q := 66) rfl (fun _ => ?_) (fun h => absurd h (by decide))
  refine pm_iload_n dM_move_75 rfl (q := 76) rfl ?_
  refine pm_iconst (x := 2) dM_move_76 (by decide) (q := 77) rfl ?_
  refine pm_icmp_ne (tgt := 89) dM_move_77 rfl (q := 80) rfl (fun _ => ?_) (fun h => absurd h (by decide))
  refine pm_aload_n dM_move_89 rfl (q := 90) rfl ?_
  refine pm_get fl_M_69 dM_move_90 rfl rfl (q := 93) rfl ?_
  refine pm_iload_n dM_move_93 rfl (q := 94) rfl ?_
  refine pm_iald dM_move_94 rfl (hx) (q := 95) rfl ?_
  exact pm_retI hret dM_move_95 rfl
set_option maxHeartbeats 4000000 in
theorem kM_move_no {l : Launch} (hl : l.stackTraces = false) (d : Nat) (hd : 2 ≤ d) {pd : Int32} {si : Nat → Int32} {sa : Nat → Nat → Int32} {hv : Nat → Int32} {ha : Nat → Nat → Nat → Int32} {sl : Int32} {sc : Nat → Nat → Int32} {pl : Int32} {pa : Nat → Nat → Int32} {mi : Nat → Int32} {ma : Nat → Nat → Int32} {tl : pm_H} (x y : Int32) (k0 : fw x 0 (mi 19 - 1) = 0) : pm_Sem l d mM_move [.ref 31, .int x, .int y] (cH pd si sa hv ha sl sc pl pa (mH (mi) (ma) tl)) (some (.int 0)) (cH pd si sa hv ha sl sc pl pa (mH (up1 mi 0 1) (ma) tl)) := by
  refine pm_sem hl mo_M_move ⟨_, rfl, rfl⟩ rfl rfl (Nat.le_of_ble_eq_true rfl) (fun K G hK hret => ?_)
  refine pm_iload_n dM_move_0 rfl (q := 1) rfl ?_
  refine pm_iconst (x := 0) dM_move_1 (by decide) (q := 2) rfl ?_
  refine pm_aload_n dM_move_2 rfl (q := 3) rfl ?_
  refine pm_get fl_M_89 dM_move_3 rfl rfl (q := 6) rfl ?_
  refine pm_iconst (x := 1) dM_move_6 (by decide) (q := 7) rfl ?_
  refine pm_isub dM_move_7 (q := 8) rfl ?_
  refine pm_cS3i hK (kM_in hl 0 _ _ _ _) mo_M_in st_M_in lk_M_92 dM_move_8 (by omega) (Nat.le_of_ble_eq_true rfl) (Nat.zero_le _) (Nat.zero_le _) (q := 11) rfl ?_
  refine pm_istore_n dM_move_11 (by decide) (q := 12) rfl ?_
  refine pm_aload_n dM_move_12 rfl (q := 13) rfl ?_
  refine pm_iload_n dM_move_13 rfl (q := 14) rfl ?_
  refine pm_if_ne (tgt := 21) dM_move_14 rfl (q := 17) rfl (fun z => absurd k0 z) (fun _ => ?_)
  refine pm_iconst (x := 1) dM_move_17 (by decide) (q := 18) rfl ?_
  refine pm_goto (tgt := 22) dM_move_18 rfl ?_
  refine pm_iload_n dM_move_22 rfl (q := 23) rfl ?_
  refine pm_if_eq (tgt := 39) dM_move_23 rfl (q := 26) rfl (fun _ => ?_) (fun z => absurd k0 z)
  refine pm_iconst (x := 0) dM_move_39 (by decide) (q := 40) rfl ?_
  refine pm_cV2i hK (kM_refuse_1 hl 0 _ _ (by decide)) mo_M_refuse im_M_refuse se_M_refuse lk_M_96 dM_move_40 (by omega) (Nat.le_of_ble_eq_true rfl) (Nat.zero_le _) (Nat.zero_le _) rfl rfl rfl (q := 43) rfl ?_
  refine pm_if_eq (tgt := 48) dM_move_43 rfl (q := 46) rfl (fun z => absurd z (by decide)) (fun _ => ?_)
  refine pm_iconst (x := 0) dM_move_46 (by decide) (q := 47) rfl ?_
  exact pm_retI hret dM_move_47 rfl
set_option maxHeartbeats 4000000 in
theorem kM_move_bad {l : Launch} (hl : l.stackTraces = false) (d : Nat) (hd : 2 ≤ d) {pd : Int32} {si : Nat → Int32} {sa : Nat → Nat → Int32} {hv : Nat → Int32} {ha : Nat → Nat → Nat → Int32} {sl : Int32} {sc : Nat → Nat → Int32} {pl : Int32} {pa : Nat → Nat → Int32} {mi : Nat → Int32} {ma : Nat → Nat → Int32} {tl : pm_H} (x y : Int32) (k0 : ¬ fw x 0 (mi 19 - 1) = 0) (k1 : fw y 0 3 = 0) : pm_Sem l d mM_move [.ref 31, .int x, .int y] (cH pd si sa hv ha sl sc pl pa (mH (mi) (ma) tl)) (some (.int 0)) (cH pd si sa hv ha sl sc pl pa (mH (up1 mi 0 2) (ma) tl)) := by
  refine pm_sem hl mo_M_move ⟨_, rfl, rfl⟩ rfl rfl (Nat.le_of_ble_eq_true rfl) (fun K G hK hret => ?_)
  refine pm_iload_n dM_move_0 rfl (q := 1) rfl ?_
  refine pm_iconst (x := 0) dM_move_1 (by decide) (q := 2) rfl ?_
  refine pm_aload_n dM_move_2 rfl (q := 3) rfl ?_
  refine pm_get fl_M_89 dM_move_3 rfl rfl (q := 6) rfl ?_
  refine pm_iconst (x := 1) dM_move_6 (by decide) (q := 7) rfl ?_
  refine pm_isub dM_move_7 (q := 8) rfl ?_
  refine pm_cS3i hK (kM_in hl 0 _ _ _ _) mo_M_in st_M_in lk_M_92 dM_move_8 (by omega) (Nat.le_of_ble_eq_true rfl) (Nat.zero_le _) (Nat.zero_le _) (q := 11) rfl ?_
  refine pm_istore_n dM_move_11 (by decide) (q := 12) rfl ?_
  refine pm_aload_n dM_move_12 rfl (q := 13) rfl ?_
  refine pm_iload_n dM_move_13 rfl (q := 14) rfl ?_
  refine pm_if_ne (tgt := 21) dM_move_14 rfl (q := 17) rfl (fun _ => ?_) (fun z => absurd z k0)
  refine pm_iconst (x := 0) dM_move_21 (by decide) (q := 22) rfl ?_
  refine pm_iload_n dM_move_22 rfl (q := 23) rfl ?_
  refine pm_if_eq (tgt := 39) dM_move_23 rfl (q := 26) rfl (fun z => absurd z k0) (fun _ => ?_)
  refine pm_iload_n dM_move_26 rfl (q := 27) rfl ?_
  refine pm_iconst (x := 0) dM_move_27 (by decide) (q := 28) rfl ?_
  refine pm_iconst (x := 3) dM_move_28 (by decide) (q := 29) rfl ?_
  refine pm_cS3i hK (kM_in hl 0 _ _ _ _) mo_M_in st_M_in lk_M_92 dM_move_29 (by omega) (Nat.le_of_ble_eq_true rfl) (Nat.zero_le _) (Nat.zero_le _) (q := 32) rfl ?_
  refine pm_if_ne (tgt := 39) dM_move_32 rfl (q := 35) rfl (fun z => absurd k1 z) (fun _ => ?_)
  refine pm_iconst (x := 1) dM_move_35 (by decide) (q := 36) rfl ?_
  refine pm_goto (tgt := 40) dM_move_36 rfl ?_
  refine pm_cV2i hK (kM_refuse_2 hl 0 _ _ rfl (by decide)) mo_M_refuse im_M_refuse se_M_refuse lk_M_96 dM_move_40 (by omega) (Nat.le_of_ble_eq_true rfl) (Nat.zero_le _) (Nat.zero_le _) rfl rfl rfl (q := 43) rfl ?_
  refine pm_if_eq (tgt := 48) dM_move_43 rfl (q := 46) rfl (fun z => absurd z (by decide)) (fun _ => ?_)
  refine pm_iconst (x := 0) dM_move_46 (by decide) (q := 47) rfl ?_
  exact pm_retI hret dM_move_47 rfl
set_option maxHeartbeats 4000000 in
theorem kM_hand_ok {l : Launch} (hl : l.stackTraces = false) (d : Nat) (hd : 2 ≤ d) {pd : Int32} {si : Nat → Int32} {sa : Nat → Nat → Int32} {hv : Nat → Int32} {ha : Nat → Nat → Nat → Int32} {sl : Int32} {sc : Nat → Nat → Int32} {pl : Int32} {pa : Nat → Nat → Int32} {mi : Nat → Int32} {ma : Nat → Nat → Int32} {tl : pm_H} (x y : Int32) (k0 : ¬ fw x 0 (mi 19 - 1) = 0) (hx : vp_in x 60) (k1 : ¬ fw y 0 2 = 0) (k2 : 0 ≤ ma 13 x.toNatClampNeg) : pm_Sem l d mM_hand [.ref 31, .int x, .int y] (cH pd si sa hv ha sl sc pl pa (mH (mi) (ma) tl)) none (cH pd si sa hv ha sl sc pl pa (mH (up1 mi 0 0) (up1 ma 13 (upd (ma 13) x.toNatClampNeg y)) tl)) := by
  refine pm_sem hl mo_M_hand rfl rfl rfl (Nat.le_of_ble_eq_true rfl) (fun K G hK hret => ?_)
  refine pm_iload_n dM_hand_0 rfl (q := 1) rfl ?_
  refine pm_iconst (x := 0) dM_hand_1 (by decide) (q := 2) rfl ?_
  refine pm_aload_n dM_hand_2 rfl (q := 3) rfl ?_
  refine pm_get fl_M_89 dM_hand_3 rfl rfl (q := 6) rfl ?_
  refine pm_iconst (x := 1) dM_hand_6 (by decide) (q := 7) rfl ?_
  refine pm_isub dM_hand_7 (q := 8) rfl ?_
  refine pm_cS3i hK (kM_in hl 0 _ _ _ _) mo_M_in st_M_in lk_M_92 dM_hand_8 (by omega) (Nat.le_of_ble_eq_true rfl) (Nat.zero_le _) (Nat.zero_le _) (q := 11) rfl ?_
  refine pm_istore_n dM_hand_11 (by decide) (q := 12) rfl ?_
  refine pm_aload_n dM_hand_12 rfl (q := 13) rfl ?_
  refine pm_iload_n dM_hand_13 rfl (q := 14) rfl ?_
  refine pm_if_ne (tgt := 21) dM_hand_14 rfl (q := 17) rfl (fun _ => ?_) (fun z => absurd z k0)
  refine pm_iconst (x := 0) dM_hand_21 (by decide) (q := 22) rfl ?_
  refine pm_iload_n dM_hand_22 rfl (q := 23) rfl ?_
  refine pm_if_eq (tgt := 56) dM_hand_23 rfl (q := 26) rfl (fun z => absurd z k0) (fun _ => ?_)
  refine pm_iload_n dM_hand_26 rfl (q := 27) rfl ?_
  refine pm_iconst (x := 0) dM_hand_27 (by decide) (q := 28) rfl ?_
  refine pm_iconst (x := 2) dM_hand_28 (by decide) (q := 29) rfl ?_
  refine pm_cS3i hK (kM_in hl 0 _ _ _ _) mo_M_in st_M_in lk_M_92 dM_hand_29 (by omega) (Nat.le_of_ble_eq_true rfl) (Nat.zero_le _) (Nat.zero_le _) (q := 32) rfl ?_
  refine pm_if_eq (tgt := 52) dM_hand_32 rfl (q := 35) rfl (fun z => absurd z k1) (fun _ => ?_)
  refine pm_aload_n dM_hand_35 rfl (q := 36) rfl ?_
  refine pm_get fl_M_69 dM_hand_36 rfl rfl (q := 39) rfl ?_
  refine pm_iload_n dM_hand_39 rfl (q := 40) rfl ?_
  refine pm_if_eq (tgt := 47) dM_hand_40 rfl (q := 43) rfl (fun z => absurd z k0) (fun _ => ?_)
  refine pm_iload_n dM_hand_43 rfl (q := 44) rfl ?_
  refine pm_goto (tgt := 48) dM_hand_44 rfl ?_
  refine pm_iald dM_hand_48 rfl (hx) (q := 49) rfl ?_
  refine pm_if_ge (tgt := 56) dM_hand_49 rfl (q := 52) rfl (fun _ => ?_) (fun z => absurd k2 z)
  refine pm_iconst (x := 0) dM_hand_56 (by decide) (q := 57) rfl ?_
  refine pm_cV2i hK (kM_refuse_0 hl 0 _ _ rfl rfl) mo_M_refuse im_M_refuse se_M_refuse lk_M_96 dM_hand_57 (by omega) (Nat.le_of_ble_eq_true rfl) (Nat.zero_le _) (Nat.zero_le _) rfl rfl rfl (q := 60) rfl ?_
  refine pm_if_eq (tgt := 64) dM_hand_60 rfl (q := 63) rfl (fun _ => ?_) (fun z => absurd rfl z)
  refine pm_aload_n dM_hand_64 rfl (q := 65) rfl ?_
  refine pm_get fl_M_69 dM_hand_65 rfl rfl (q := 68) rfl ?_
  refine pm_iload_n dM_hand_68 rfl (q := 69) rfl ?_
  refine pm_iload_n dM_hand_69 rfl (q := 70) rfl ?_
  refine pm_iast dM_hand_70 rfl (hx) (q := 71) rfl ?_
  exact pm_retV hret dM_hand_71 rfl
set_option maxHeartbeats 4000000 in
theorem kM_hand_no {l : Launch} (hl : l.stackTraces = false) (d : Nat) (hd : 2 ≤ d) {pd : Int32} {si : Nat → Int32} {sa : Nat → Nat → Int32} {hv : Nat → Int32} {ha : Nat → Nat → Nat → Int32} {sl : Int32} {sc : Nat → Nat → Int32} {pl : Int32} {pa : Nat → Nat → Int32} {mi : Nat → Int32} {ma : Nat → Nat → Int32} {tl : pm_H} (x y : Int32) (k0 : fw x 0 (mi 19 - 1) = 0) : pm_Sem l d mM_hand [.ref 31, .int x, .int y] (cH pd si sa hv ha sl sc pl pa (mH (mi) (ma) tl)) none (cH pd si sa hv ha sl sc pl pa (mH (up1 mi 0 1) (ma) tl)) := by
  refine pm_sem hl mo_M_hand rfl rfl rfl (Nat.le_of_ble_eq_true rfl) (fun K G hK hret => ?_)
  refine pm_iload_n dM_hand_0 rfl (q := 1) rfl ?_
  refine pm_iconst (x := 0) dM_hand_1 (by decide) (q := 2) rfl ?_
  refine pm_aload_n dM_hand_2 rfl (q := 3) rfl ?_
  refine pm_get fl_M_89 dM_hand_3 rfl rfl (q := 6) rfl ?_
  refine pm_iconst (x := 1) dM_hand_6 (by decide) (q := 7) rfl ?_
  refine pm_isub dM_hand_7 (q := 8) rfl ?_
  refine pm_cS3i hK (kM_in hl 0 _ _ _ _) mo_M_in st_M_in lk_M_92 dM_hand_8 (by omega) (Nat.le_of_ble_eq_true rfl) (Nat.zero_le _) (Nat.zero_le _) (q := 11) rfl ?_
  refine pm_istore_n dM_hand_11 (by decide) (q := 12) rfl ?_
  refine pm_aload_n dM_hand_12 rfl (q := 13) rfl ?_
  refine pm_iload_n dM_hand_13 rfl (q := 14) rfl ?_
  refine pm_if_ne (tgt := 21) dM_hand_14 rfl (q := 17) rfl (fun z => absurd k0 z) (fun _ => ?_)
  refine pm_iconst (x := 1) dM_hand_17 (by decide) (q := 18) rfl ?_
  refine pm_goto (tgt := 22) dM_hand_18 rfl ?_
  refine pm_iload_n dM_hand_22 rfl (q := 23) rfl ?_
  refine pm_if_eq (tgt := 56) dM_hand_23 rfl (q := 26) rfl (fun _ => ?_) (fun z => absurd k0 z)
  refine pm_iconst (x := 0) dM_hand_56 (by decide) (q := 57) rfl ?_
  refine pm_cV2i hK (kM_refuse_1 hl 0 _ _ (by decide)) mo_M_refuse im_M_refuse se_M_refuse lk_M_96 dM_hand_57 (by omega) (Nat.le_of_ble_eq_true rfl) (Nat.zero_le _) (Nat.zero_le _) rfl rfl rfl (q := 60) rfl ?_
  refine pm_if_eq (tgt := 64) dM_hand_60 rfl (q := 63) rfl (fun z => absurd z (by decide)) (fun _ => ?_)
  exact pm_retV hret dM_hand_63 rfl
set_option maxHeartbeats 4000000 in
theorem kM_hand_bad {l : Launch} (hl : l.stackTraces = false) (d : Nat) (hd : 2 ≤ d) {pd : Int32} {si : Nat → Int32} {sa : Nat → Nat → Int32} {hv : Nat → Int32} {ha : Nat → Nat → Nat → Int32} {sl : Int32} {sc : Nat → Nat → Int32} {pl : Int32} {pa : Nat → Nat → Int32} {mi : Nat → Int32} {ma : Nat → Nat → Int32} {tl : pm_H} (x y : Int32) (k0 : ¬ fw x 0 (mi 19 - 1) = 0) (hx : vp_in x 60) (hno : ¬ (¬ fw y 0 2 = 0 ∧ 0 ≤ ma 13 x.toNatClampNeg)) : pm_Sem l d mM_hand [.ref 31, .int x, .int y] (cH pd si sa hv ha sl sc pl pa (mH (mi) (ma) tl)) none (cH pd si sa hv ha sl sc pl pa (mH (up1 mi 0 2) (ma) tl)) := by
  refine pm_sem hl mo_M_hand rfl rfl rfl (Nat.le_of_ble_eq_true rfl) (fun K G hK hret => ?_)
  have hJ : pm_Go mM_hand K G 52 [some (.ref 31), some (.int x), some (.int y), some (.int (fw x 0 (mi 19 - 1)))] [.int 0, .ref 31] (cH pd si sa hv ha sl sc pl pa (mH (mi) (ma) tl)) 0 0 := by
    refine pm_iconst (x := 1) dM_hand_52 (by decide) (q := 53) rfl ?_
    refine pm_goto (tgt := 57) dM_hand_53 rfl ?_
    refine pm_cV2i hK (kM_refuse_2 hl 0 _ _ rfl (by decide)) mo_M_refuse im_M_refuse se_M_refuse lk_M_96 dM_hand_57 (by omega) (Nat.le_of_ble_eq_true rfl) (Nat.zero_le _) (Nat.zero_le _) rfl rfl rfl (q := 60) rfl ?_
    refine pm_if_eq (tgt := 64) dM_hand_60 rfl (q := 63) rfl (fun z => absurd z (by decide)) (fun _ => ?_)
    exact pm_retV hret dM_hand_63 rfl
  refine pm_iload_n dM_hand_0 rfl (q := 1) rfl ?_
  refine pm_iconst (x := 0) dM_hand_1 (by decide) (q := 2) rfl ?_
  refine pm_aload_n dM_hand_2 rfl (q := 3) rfl ?_
  refine pm_get fl_M_89 dM_hand_3 rfl rfl (q := 6) rfl ?_
  refine pm_iconst (x := 1) dM_hand_6 (by decide) (q := 7) rfl ?_
  refine pm_isub dM_hand_7 (q := 8) rfl ?_
  refine pm_cS3i hK (kM_in hl 0 _ _ _ _) mo_M_in st_M_in lk_M_92 dM_hand_8 (by omega) (Nat.le_of_ble_eq_true rfl) (Nat.zero_le _) (Nat.zero_le _) (q := 11) rfl ?_
  refine pm_istore_n dM_hand_11 (by decide) (q := 12) rfl ?_
  refine pm_aload_n dM_hand_12 rfl (q := 13) rfl ?_
  refine pm_iload_n dM_hand_13 rfl (q := 14) rfl ?_
  refine pm_if_ne (tgt := 21) dM_hand_14 rfl (q := 17) rfl (fun _ => ?_) (fun z => absurd z k0)
  refine pm_iconst (x := 0) dM_hand_21 (by decide) (q := 22) rfl ?_
  refine pm_iload_n dM_hand_22 rfl (q := 23) rfl ?_
  refine pm_if_eq (tgt := 56) dM_hand_23 rfl (q := 26) rfl (fun z => absurd z k0) (fun _ => ?_)
  refine pm_iload_n dM_hand_26 rfl (q := 27) rfl ?_
  refine pm_iconst (x := 0) dM_hand_27 (by decide) (q := 28) rfl ?_
  refine pm_iconst (x := 2) dM_hand_28 (by decide) (q := 29) rfl ?_
  refine pm_cS3i hK (kM_in hl 0 _ _ _ _) mo_M_in st_M_in lk_M_92 dM_hand_29 (by omega) (Nat.le_of_ble_eq_true rfl) (Nat.zero_le _) (Nat.zero_le _) (q := 32) rfl ?_
  refine pm_if_eq (tgt := 52) dM_hand_32 rfl (q := 35) rfl (fun h32 => ?_) (fun h32 => ?_)
  · exact hJ
  · refine pm_aload_n dM_hand_35 rfl (q := 36) rfl ?_
    refine pm_get fl_M_69 dM_hand_36 rfl rfl (q := 39) rfl ?_
    refine pm_iload_n dM_hand_39 rfl (q := 40) rfl ?_
    refine pm_if_eq (tgt := 47) dM_hand_40 rfl (q := 43) rfl (fun z => absurd z k0) (fun _ => ?_)
    refine pm_iload_n dM_hand_43 rfl (q := 44) rfl ?_
    refine pm_goto (tgt := 48) dM_hand_44 rfl ?_
    refine pm_iald dM_hand_48 rfl (hx) (q := 49) rfl ?_
    refine pm_if_ge (tgt := 56) dM_hand_49 rfl (q := 52) rfl (fun h49 => ?_) (fun h49 => ?_)
    · exact absurd ⟨h32, h49⟩ hno
    · exact hJ
