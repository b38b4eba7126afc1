/-! the face: box, move, hand, slot -/
set_option maxHeartbeats 4000000 in
theorem kB_box_ok {l : Launch} (hl : l.stackTraces = false) (d : Nat) (hd : 3 ≤ d) {pd : Int32} {si : Nat → Int32} {sa : Nat → Nat → Int32} {hv : Nat → Int32} {ha : Nat → Nat → Nat → Int32} {sl : Int32} {sc : Nat → Nat → Int32} {pl : Int32} {pa : Nat → Nat → Int32} {tl : pm_H} (x y w k : Int32) (k0 : ¬ (if ¬ fw x 0 (si 2 - 1) = 0 ∧ ¬ fw y 0 (si 2 - 1) = 0 ∧ x < y then (1 : Int32) else 0) = 0) (k1 : ¬ fw w 1 40 = 0) (k2 : ¬ fw k 0 3 = 0) (k3 : si 7 < 5) (hx : vp_in (si 7) 5) : pm_Sem l d mB_box [.ref 0, .int x, .int y, .int w, .int k] (cH pd si sa hv ha sl sc pl pa tl) (some (.int (si 7))) (cH 0 (up1 si 7 (si 7 + 1)) (fun j => if j = 1 then upd (sa 1) (si 7).toNatClampNeg x else if j = 2 then upd (sa 2) (si 7).toNatClampNeg y else if j = 3 then upd (sa 3) (si 7).toNatClampNeg w else if j = 4 then upd (sa 4) (si 7).toNatClampNeg k else if j = 5 then upd (sa 5) (si 7).toNatClampNeg 0 else sa j) (up1 hv 0 0) (up1 ha 0 empA) 0 sc pl pa tl) := by
  refine pm_sem hl mo_B_box ⟨_, rfl, rfl⟩ rfl rfl (Nat.le_of_ble_eq_true rfl) (fun K G hK hret => ?_)
  have hJ : pm_Go mB_box K G 32 [some (.ref 0), some (.int x), some (.int y), some (.int w), some (.int k), none] [.int (if ¬ fw x 0 (si 2 - 1) = 0 ∧ ¬ fw y 0 (si 2 - 1) = 0 ∧ x < y then (1 : Int32) else 0)] (cH pd si sa hv ha sl sc pl pa tl) 0 0 := by
    refine pm_cS1v hK (kB_require_ok hl 0 _ k0 _) mo_B_require st_B_require lk_B_50 dB_box_32 (by omega) (Nat.le_of_ble_eq_true rfl) (Nat.zero_le _) (Nat.zero_le _) (q := 35) rfl ?_
    refine pm_iload_n dB_box_35 rfl (q := 36) rfl ?_
    refine pm_iconst (x := 1) dB_box_36 (by decide) (q := 37) rfl ?_
    refine pm_bipush (x := 40) dB_box_37 (by decide) (q := 39) rfl ?_
    refine pm_cS3i hK (kB_within hl 0 _ _ _ _) mo_B_within st_B_within lk_B_46 dB_box_39 (by omega) (Nat.le_of_ble_eq_true rfl) (Nat.zero_le _) (Nat.zero_le _) (q := 42) rfl ?_
    refine pm_cS1v hK (kB_require_ok hl 0 _ k1 _) mo_B_require st_B_require lk_B_50 dB_box_42 (by omega) (Nat.le_of_ble_eq_true rfl) (Nat.zero_le _) (Nat.zero_le _) (q := 45) rfl ?_
    refine pm_iload dB_box_45 rfl (q := 47) rfl ?_
    refine pm_iconst (x := 0) dB_box_47 (by decide) (q := 48) rfl ?_
    refine pm_iconst (x := 3) dB_box_48 (by decide) (q := 49) rfl ?_
    refine pm_cS3i hK (kB_within hl 0 _ _ _ _) mo_B_within st_B_within lk_B_46 dB_box_49 (by omega) (Nat.le_of_ble_eq_true rfl) (Nat.zero_le _) (Nat.zero_le _) (q := 52) rfl ?_
    refine pm_cS1v hK (kB_require_ok hl 0 _ k2 _) mo_B_require st_B_require lk_B_50 dB_box_52 (by omega) (Nat.le_of_ble_eq_true rfl) (Nat.zero_le _) (Nat.zero_le _) (q := 55) rfl ?_
    refine pm_aload_n dB_box_55 rfl (q := 56) rfl ?_
    refine pm_get fl_B_16 dB_box_56 rfl rfl (q := 59) rfl ?_
    refine pm_get fl_B_68 dB_box_59 rfl rfl (q := 62) rfl ?_
    refine pm_iconst (x := 5) dB_box_62 (by decide) (q := 63) rfl ?_
    refine pm_icmp_lt (tgt := 74) dB_box_63 rfl (q := 66) rfl (fun _ => ?_) (fun z => absurd k3 z)
    refine pm_aload_n dB_box_74 rfl (q := 75) rfl ?_
    refine pm_get fl_B_16 dB_box_75 rfl rfl (q := 78) rfl ?_
    refine pm_iload_n dB_box_78 rfl (q := 79) rfl ?_
    refine pm_iload_n dB_box_79 rfl (q := 80) rfl ?_
    refine pm_iload_n dB_box_80 rfl (q := 81) rfl ?_
    refine pm_iload dB_box_81 rfl (q := 83) rfl ?_
    refine pm_cV4i hK (kS_book hl 0 _ _ _ _ hx) mo_S_book im_S_book se_S_book lk_B_75 dB_box_83 (by omega) (Nat.le_of_ble_eq_true rfl) (Nat.zero_le _) (Nat.zero_le _) rfl rfl rfl (q := 86) rfl ?_
    refine pm_istore dB_box_86 (by decide) (q := 88) rfl ?_
    refine pm_aload_n dB_box_88 rfl (q := 89) rfl ?_
    refine pm_cV0v hK (kB_dropPlan hl 2 (Nat.le_refl _)) mo_B_dropPlan im_B_dropPlan se_B_dropPlan lk_B_54 dB_box_89 (by omega) (Nat.le_of_ble_eq_true rfl) (Nat.zero_le _) (Nat.zero_le _) rfl rfl rfl (q := 92) rfl ?_
    refine pm_iload dB_box_92 rfl (q := 94) rfl ?_
    exact pm_retI hret dB_box_94 rfl
  refine pm_aload_n dB_box_0 rfl (q := 1) rfl ?_
  refine pm_get fl_B_16 dB_box_1 rfl rfl (q := 4) rfl ?_
  refine pm_iload_n dB_box_4 rfl (q := 5) rfl ?_
  refine pm_cV1i hK (kS_hasPort hl 1 (Nat.le_refl _) _) mo_S_hasPort im_S_hasPort se_S_hasPort lk_B_65 dB_box_5 (by omega) (Nat.le_of_ble_eq_true rfl) (Nat.zero_le _) (Nat.zero_le _) rfl rfl rfl (q := 8) rfl ?_
  refine pm_if_eq (tgt := 31) dB_box_8 rfl (q := 11) rfl (fun h8 => ?_) (fun h8 => ?_)
  · refine pm_iconst (x := 0) dB_box_31 (by decide) (q := 32) rfl ?_
    refine pm_topL (y := (if ¬ fw x 0 (si 2 - 1) = 0 ∧ ¬ fw y 0 (si 2 - 1) = 0 ∧ x < y then (1 : Int32) else 0)) (by first | (simp [h8]; done) | (simp [h19]; done) | (simp [Int32.not_lt.mpr h24]; done) | (simp [h8, h19, Int32.not_le.mp h24]; done)) ?_
    exact hJ
  · refine pm_aload_n dB_box_11 rfl (q := 12) rfl ?_
    refine pm_get fl_B_16 dB_box_12 rfl rfl (q := 15) rfl ?_
    refine pm_iload_n dB_box_15 rfl (q := 16) rfl ?_
    refine pm_cV1i hK (kS_hasPort hl 1 (Nat.le_refl _) _) mo_S_hasPort im_S_hasPort se_S_hasPort lk_B_65 dB_box_16 (by omega) (Nat.le_of_ble_eq_true rfl) (Nat.zero_le _) (Nat.zero_le _) rfl rfl rfl (q := 19) rfl ?_
    refine pm_if_eq (tgt := 31) dB_box_19 rfl (q := 22) rfl (fun h19 => ?_) (fun h19 => ?_)
    · refine pm_iconst (x := 0) dB_box_31 (by decide) (q := 32) rfl ?_
      refine pm_topL (y := (if ¬ fw x 0 (si 2 - 1) = 0 ∧ ¬ fw y 0 (si 2 - 1) = 0 ∧ x < y then (1 : Int32) else 0)) (by first | (simp [h8]; done) | (simp [h19]; done) | (simp [Int32.not_lt.mpr h24]; done) | (simp [h8, h19, Int32.not_le.mp h24]; done)) ?_
      exact hJ
    · refine pm_iload_n dB_box_22 rfl (q := 23) rfl ?_
      refine pm_iload_n dB_box_23 rfl (q := 24) rfl ?_
      refine pm_icmp_ge (tgt := 31) dB_box_24 rfl (q := 27) rfl (fun h24 => ?_) (fun h24 => ?_)
      · refine pm_iconst (x := 0) dB_box_31 (by decide) (q := 32) rfl ?_
        refine pm_topL (y := (if ¬ fw x 0 (si 2 - 1) = 0 ∧ ¬ fw y 0 (si 2 - 1) = 0 ∧ x < y then (1 : Int32) else 0)) (by first | (simp [h8]; done) | (simp [h19]; done) | (simp [Int32.not_lt.mpr h24]; done) | (simp [h8, h19, Int32.not_le.mp h24]; done)) ?_
        exact hJ
      · refine pm_iconst (x := 1) dB_box_27 (by decide) (q := 28) rfl ?_
        refine pm_goto (tgt := 32) dB_box_28 rfl ?_
        refine pm_topL (y := (if ¬ fw x 0 (si 2 - 1) = 0 ∧ ¬ fw y 0 (si 2 - 1) = 0 ∧ x < y then (1 : Int32) else 0)) (by first | (simp [h8]; done) | (simp [h19]; done) | (simp [Int32.not_lt.mpr h24]; done) | (simp [h8, h19, Int32.not_le.mp h24]; done)) ?_
        exact hJ
set_option maxHeartbeats 4000000 in
theorem kB_box_no {l : Launch} (hl : l.stackTraces = false) (d : Nat) (hd : 7 ≤ d) {pd : Int32} {si : Nat → Int32} {sa : Nat → Nat → Int32} {hv : Nat → Int32} {ha : Nat → Nat → Nat → Int32} {sl : Int32} {sc : Nat → Nat → Int32} {pl : Int32} {pa : Nat → Nat → Int32} {tl : pm_H} (x y w k : Int32) (hno : ¬ (¬ (if ¬ fw x 0 (si 2 - 1) = 0 ∧ ¬ fw y 0 (si 2 - 1) = 0 ∧ x < y then (1 : Int32) else 0) = 0 ∧ ¬ fw w 1 40 = 0 ∧ ¬ fw k 0 3 = 0)) : pm_SemX l d mB_box [.ref 0, .int x, .int y, .int w, .int k] (cH pd si sa hv ha sl sc pl pa tl) "java/lang/IllegalArgumentException" (cH pd si sa hv ha sl sc pl pa tl) := by
  refine pm_semX hl mo_B_box rfl rfl (Nat.le_of_ble_eq_true rfl) ?_
  have hK := pm_KX_Kd (l := l) (d := d) (h0 := (cH pd si sa hv ha sl sc pl pa tl))
  have hJ : pm_Go mB_box (pm_KX l d (cH pd si sa hv ha sl sc pl pa tl)) (pm_GX (cH pd si sa hv ha sl sc pl pa tl) "java/lang/IllegalArgumentException" (cH pd si sa hv ha sl sc pl pa tl)) 32 [some (.ref 0), some (.int x), some (.int y), some (.int w), some (.int k), none] [.int (if ¬ fw x 0 (si 2 - 1) = 0 ∧ ¬ fw y 0 (si 2 - 1) = 0 ∧ x < y then (1 : Int32) else 0)] (cH pd si sa hv ha sl sc pl pa tl) 0 0 := by
    by_cases c32 : (if ¬ fw x 0 (si 2 - 1) = 0 ∧ ¬ fw y 0 (si 2 - 1) = 0 ∧ x < y then (1 : Int32) else 0) = 0
    · exact pm_xS (kB_require_no hl 6 (Nat.le_refl _) _ c32 _) mo_B_require st_B_require (pm_in2 (j := 116) rfl rfl) rfl dB_box_32 (by omega) rfl rfl (Nat.le_of_ble_eq_true rfl)
    refine pm_cS1v hK (kB_require_ok hl 0 _ c32 _) mo_B_require st_B_require lk_B_50 dB_box_32 (by omega) (Nat.le_of_ble_eq_true rfl) (Nat.zero_le _) (Nat.zero_le _) (q := 35) rfl ?_
    refine pm_iload_n dB_box_35 rfl (q := 36) rfl ?_
    refine pm_iconst (x := 1) dB_box_36 (by decide) (q := 37) rfl ?_
    refine pm_bipush (x := 40) dB_box_37 (by decide) (q := 39) rfl ?_
    refine pm_cS3i hK (kB_within hl 0 _ _ _ _) mo_B_within st_B_within lk_B_46 dB_box_39 (by omega) (Nat.le_of_ble_eq_true rfl) (Nat.zero_le _) (Nat.zero_le _) (q := 42) rfl ?_
    by_cases c42 : fw w 1 40 = 0
    · exact pm_xS (kB_require_no hl 6 (Nat.le_refl _) _ c42 _) mo_B_require st_B_require (pm_in2 (j := 116) rfl rfl) rfl dB_box_42 (by omega) rfl rfl (Nat.le_of_ble_eq_true rfl)
    refine pm_cS1v hK (kB_require_ok hl 0 _ c42 _) mo_B_require st_B_require lk_B_50 dB_box_42 (by omega) (Nat.le_of_ble_eq_true rfl) (Nat.zero_le _) (Nat.zero_le _) (q := 45) rfl ?_
    refine pm_iload dB_box_45 rfl (q := 47) rfl ?_
    refine pm_iconst (x := 0) dB_box_47 (by decide) (q := 48) rfl ?_
    refine pm_iconst (x := 3) dB_box_48 (by decide) (q := 49) rfl ?_
    refine pm_cS3i hK (kB_within hl 0 _ _ _ _) mo_B_within st_B_within lk_B_46 dB_box_49 (by omega) (Nat.le_of_ble_eq_true rfl) (Nat.zero_le _) (Nat.zero_le _) (q := 52) rfl ?_
    by_cases c52 : fw k 0 3 = 0
    · exact pm_xS (kB_require_no hl 6 (Nat.le_refl _) _ c52 _) mo_B_require st_B_require (pm_in2 (j := 116) rfl rfl) rfl dB_box_52 (by omega) rfl rfl (Nat.le_of_ble_eq_true rfl)
    exact absurd ⟨c32, c42, c52⟩ hno
  refine pm_aload_n dB_box_0 rfl (q := 1) rfl ?_
  refine pm_get fl_B_16 dB_box_1 rfl rfl (q := 4) rfl ?_
  refine pm_iload_n dB_box_4 rfl (q := 5) rfl ?_
  refine pm_cV1i hK (kS_hasPort hl 1 (Nat.le_refl _) _) mo_S_hasPort im_S_hasPort se_S_hasPort lk_B_65 dB_box_5 (by omega) (Nat.le_of_ble_eq_true rfl) (Nat.zero_le _) (Nat.zero_le _) rfl rfl rfl (q := 8) rfl ?_
  refine pm_if_eq (tgt := 31) dB_box_8 rfl (q := 11) rfl (fun h8 => ?_) (fun h8 => ?_)
  · refine pm_iconst (x := 0) dB_box_31 (by decide) (q := 32) rfl ?_
    refine pm_topL (y := (if ¬ fw x 0 (si 2 - 1) = 0 ∧ ¬ fw y 0 (si 2 - 1) = 0 ∧ x < y then (1 : Int32) else 0)) (by first | (simp [h8]; done) | (simp [h19]; done) | (simp [Int32.not_lt.mpr h24]; done) | (simp [h8, h19, Int32.not_le.mp h24]; done)) ?_
    exact hJ
  · refine pm_aload_n dB_box_11 rfl (q := 12) rfl ?_
    refine pm_get fl_B_16 dB_box_12 rfl rfl (q := 15) rfl ?_
    refine pm_iload_n dB_box_15 rfl (q := 16) rfl ?_
    refine pm_cV1i hK (kS_hasPort hl 1 (Nat.le_refl _) _) mo_S_hasPort im_S_hasPort se_S_hasPort lk_B_65 dB_box_16 (by omega) (Nat.le_of_ble_eq_true rfl) (Nat.zero_le _) (Nat.zero_le _) rfl rfl rfl (q := 19) rfl ?_
    refine pm_if_eq (tgt := 31) dB_box_19 rfl (q := 22) rfl (fun h19 => ?_) (fun h19 => ?_)
    · refine pm_iconst (x := 0) dB_box_31 (by decide) (q := 32) rfl ?_
      refine pm_topL (y := (if ¬ fw x 0 (si 2 - 1) = 0 ∧ ¬ fw y 0 (si 2 - 1) = 0 ∧ x < y then (1 : Int32) else 0)) (by first | (simp [h8]; done) | (simp [h19]; done) | (simp [Int32.not_lt.mpr h24]; done) | (simp [h8, h19, Int32.not_le.mp h24]; done)) ?_
      exact hJ
    · refine pm_iload_n dB_box_22 rfl (q := 23) rfl ?_
      refine pm_iload_n dB_box_23 rfl (q := 24) rfl ?_
      refine pm_icmp_ge (tgt := 31) dB_box_24 rfl (q := 27) rfl (fun h24 => ?_) (fun h24 => ?_)
      · refine pm_iconst (x := 0) dB_box_31 (by decide) (q := 32) rfl ?_
        refine pm_topL (y := (if ¬ fw x 0 (si 2 - 1) = 0 ∧ ¬ fw y 0 (si 2 - 1) = 0 ∧ x < y then (1 : Int32) else 0)) (by first | (simp [h8]; done) | (simp [h19]; done) | (simp [Int32.not_lt.mpr h24]; done) | (simp [h8, h19, Int32.not_le.mp h24]; done)) ?_
        exact hJ
      · refine pm_iconst (x := 1) dB_box_27 (by decide) (q := 28) rfl ?_
        refine pm_goto (tgt := 32) dB_box_28 rfl ?_
        refine pm_topL (y := (if ¬ fw x 0 (si 2 - 1) = 0 ∧ ¬ fw y 0 (si 2 - 1) = 0 ∧ x < y then (1 : Int32) else 0)) (by first | (simp [h8]; done) | (simp [h19]; done) | (simp [Int32.not_lt.mpr h24]; done) | (simp [h8, h19, Int32.not_le.mp h24]; done)) ?_
        exact hJ
set_option maxHeartbeats 4000000 in
theorem kB_box_full {l : Launch} (hl : l.stackTraces = false) (d : Nat) (hd : 7 ≤ d) {pd : Int32} {si : Nat → Int32} {sa : Nat → Nat → Int32} {hv : Nat → Int32} {ha : Nat → Nat → Nat → Int32} {sl : Int32} {sc : Nat → Nat → Int32} {pl : Int32} {pa : Nat → Nat → Int32} {tl : pm_H} (x y w k : Int32) (k0 : ¬ (if ¬ fw x 0 (si 2 - 1) = 0 ∧ ¬ fw y 0 (si 2 - 1) = 0 ∧ x < y then (1 : Int32) else 0) = 0) (k1 : ¬ fw w 1 40 = 0) (k2 : ¬ fw k 0 3 = 0) (k3 : ¬ si 7 < 5) : pm_SemX l d mB_box [.ref 0, .int x, .int y, .int w, .int k] (cH pd si sa hv ha sl sc pl pa tl) "java/lang/IllegalStateException" (cH pd si sa hv ha sl sc pl pa tl) := by
  refine pm_semX hl mo_B_box rfl rfl (Nat.le_of_ble_eq_true rfl) ?_
  have hK := pm_KX_Kd (l := l) (d := d) (h0 := (cH pd si sa hv ha sl sc pl pa tl))
  have hJ : pm_Go mB_box (pm_KX l d (cH pd si sa hv ha sl sc pl pa tl)) (pm_GX (cH pd si sa hv ha sl sc pl pa tl) "java/lang/IllegalStateException" (cH pd si sa hv ha sl sc pl pa tl)) 32 [some (.ref 0), some (.int x), some (.int y), some (.int w), some (.int k), none] [.int (if ¬ fw x 0 (si 2 - 1) = 0 ∧ ¬ fw y 0 (si 2 - 1) = 0 ∧ x < y then (1 : Int32) else 0)] (cH pd si sa hv ha sl sc pl pa tl) 0 0 := by
    refine pm_cS1v hK (kB_require_ok hl 0 _ k0 _) mo_B_require st_B_require lk_B_50 dB_box_32 (by omega) (Nat.le_of_ble_eq_true rfl) (Nat.zero_le _) (Nat.zero_le _) (q := 35) rfl ?_
    refine pm_iload_n dB_box_35 rfl (q := 36) rfl ?_
    refine pm_iconst (x := 1) dB_box_36 (by decide) (q := 37) rfl ?_
    refine pm_bipush (x := 40) dB_box_37 (by decide) (q := 39) rfl ?_
    refine pm_cS3i hK (kB_within hl 0 _ _ _ _) mo_B_within st_B_within lk_B_46 dB_box_39 (by omega) (Nat.le_of_ble_eq_true rfl) (Nat.zero_le _) (Nat.zero_le _) (q := 42) rfl ?_
    refine pm_cS1v hK (kB_require_ok hl 0 _ k1 _) mo_B_require st_B_require lk_B_50 dB_box_42 (by omega) (Nat.le_of_ble_eq_true rfl) (Nat.zero_le _) (Nat.zero_le _) (q := 45) rfl ?_
    refine pm_iload dB_box_45 rfl (q := 47) rfl ?_
    refine pm_iconst (x := 0) dB_box_47 (by decide) (q := 48) rfl ?_
    refine pm_iconst (x := 3) dB_box_48 (by decide) (q := 49) rfl ?_
    refine pm_cS3i hK (kB_within hl 0 _ _ _ _) mo_B_within st_B_within lk_B_46 dB_box_49 (by omega) (Nat.le_of_ble_eq_true rfl) (Nat.zero_le _) (Nat.zero_le _) (q := 52) rfl ?_
    refine pm_cS1v hK (kB_require_ok hl 0 _ k2 _) mo_B_require st_B_require lk_B_50 dB_box_52 (by omega) (Nat.le_of_ble_eq_true rfl) (Nat.zero_le _) (Nat.zero_le _) (q := 55) rfl ?_
    refine pm_aload_n dB_box_55 rfl (q := 56) rfl ?_
    refine pm_get fl_B_16 dB_box_56 rfl rfl (q := 59) rfl ?_
    refine pm_get fl_B_68 dB_box_59 rfl rfl (q := 62) rfl ?_
    refine pm_iconst (x := 5) dB_box_62 (by decide) (q := 63) rfl ?_
    refine pm_icmp_lt (tgt := 74) dB_box_63 rfl (q := 66) rfl (fun z => absurd z k3) (fun _ => ?_)
    exact pm_new0 ex_ISE rfl dB_box_66 dB_box_69 dB_box_70 dB_box_73 (by simp; omega) (Nat.le_of_ble_eq_true rfl)
  refine pm_aload_n dB_box_0 rfl (q := 1) rfl ?_
  refine pm_get fl_B_16 dB_box_1 rfl rfl (q := 4) rfl ?_
  refine pm_iload_n dB_box_4 rfl (q := 5) rfl ?_
  refine pm_cV1i hK (kS_hasPort hl 1 (Nat.le_refl _) _) mo_S_hasPort im_S_hasPort se_S_hasPort lk_B_65 dB_box_5 (by omega) (Nat.le_of_ble_eq_true rfl) (Nat.zero_le _) (Nat.zero_le _) rfl rfl rfl (q := 8) rfl ?_
  refine pm_if_eq (tgt := 31) dB_box_8 rfl (q := 11) rfl (fun h8 => ?_) (fun h8 => ?_)
  · refine pm_iconst (x := 0) dB_box_31 (by decide) (q := 32) rfl ?_
    refine pm_topL (y := (if ¬ fw x 0 (si 2 - 1) = 0 ∧ ¬ fw y 0 (si 2 - 1) = 0 ∧ x < y then (1 : Int32) else 0)) (by first | (simp [h8]; done) | (simp [h19]; done) | (simp [Int32.not_lt.mpr h24]; done) | (simp [h8, h19, Int32.not_le.mp h24]; done)) ?_
    exact hJ
  · refine pm_aload_n dB_box_11 rfl (q := 12) rfl ?_
    refine pm_get fl_B_16 dB_box_12 rfl rfl (q := 15) rfl ?_
    refine pm_iload_n dB_box_15 rfl (q := 16) rfl ?_
    refine pm_cV1i hK (kS_hasPort hl 1 (Nat.le_refl _) _) mo_S_hasPort im_S_hasPort se_S_hasPort lk_B_65 dB_box_16 (by omega) (Nat.le_of_ble_eq_true rfl) (Nat.zero_le _) (Nat.zero_le _) rfl rfl rfl (q := 19) rfl ?_
    refine pm_if_eq (tgt := 31) dB_box_19 rfl (q := 22) rfl (fun h19 => ?_) (fun h19 => ?_)
    · refine pm_iconst (x := 0) dB_box_31 (by decide) (q := 32) rfl ?_
      refine pm_topL (y := (if ¬ fw x 0 (si 2 - 1) = 0 ∧ ¬ fw y 0 (si 2 - 1) = 0 ∧ x < y then (1 : Int32) else 0)) (by first | (simp [h8]; done) | (simp [h19]; done) | (simp [Int32.not_lt.mpr h24]; done) | (simp [h8, h19, Int32.not_le.mp h24]; done)) ?_
      exact hJ
    · refine pm_iload_n dB_box_22 rfl (q := 23) rfl ?_
      refine pm_iload_n dB_box_23 rfl (q := 24) rfl ?_
      refine pm_icmp_ge (tgt := 31) dB_box_24 rfl (q := 27) rfl (fun h24 => ?_) (fun h24 => ?_)
      · refine pm_iconst (x := 0) dB_box_31 (by decide) (q := 32) rfl ?_
        refine pm_topL (y := (if ¬ fw x 0 (si 2 - 1) = 0 ∧ ¬ fw y 0 (si 2 - 1) = 0 ∧ x < y then (1 : Int32) else 0)) (by first | (simp [h8]; done) | (simp [h19]; done) | (simp [Int32.not_lt.mpr h24]; done) | (simp [h8, h19, Int32.not_le.mp h24]; done)) ?_
        exact hJ
      · refine pm_iconst (x := 1) dB_box_27 (by decide) (q := 28) rfl ?_
        refine pm_goto (tgt := 32) dB_box_28 rfl ?_
        refine pm_topL (y := (if ¬ fw x 0 (si 2 - 1) = 0 ∧ ¬ fw y 0 (si 2 - 1) = 0 ∧ x < y then (1 : Int32) else 0)) (by first | (simp [h8]; done) | (simp [h19]; done) | (simp [Int32.not_lt.mpr h24]; done) | (simp [h8, h19, Int32.not_le.mp h24]; done)) ?_
        exact hJ
section Sw
variable {M : pm_M} {K : pm_X → Prop} {G : pm_X → State → Prop} {pc : Nat} {ls : List (Option Value)} {st : List Value} {h : pm_H} {k n : Nat}
theorem pm_tabOut {dflt lo hi : Int} {offs : Array Int} {len : Nat} {x : Int32} {tgt : Nat} (hd : decode M.2.1 pc = .ok (.tableswitch dflt lo hi offs, len)) (hx : x.toInt < lo ∨ hi < x.toInt) (ht : (pc : Int) + dflt = (tgt : Int)) (kk : pm_Go M K G tgt ls st h k n) : pm_Go M K G pc ls (.int x :: st) h k n := by
  rintro ⟨p, l, e, R, s, m, args, below, meth, c, A, D, κ, α⟩ hK hO H locs rs hs
  exact lv_tableOut hO.1 hO.2.1 hd hx ht (kk _ hK hO H locs rs hs)
theorem pm_tabIn {dflt lo hi : Int} {offs : Array Int} {len : Nat} {x : Int32} {off : Int} {tgt : Nat} (hd : decode M.2.1 pc = .ok (.tableswitch dflt lo hi offs, len)) (h1 : ¬ x.toInt < lo) (h2 : ¬ hi < x.toInt) (ho : offs[(x.toInt - lo).toNat]? = some off) (ht : (pc : Int) + off = (tgt : Int)) (kk : pm_Go M K G tgt ls st h k n) : pm_Go M K G pc ls (.int x :: st) h k n := by
  rintro ⟨p, l, e, R, s, m, args, below, meth, c, A, D, κ, α⟩ hK hO H locs rs hs
  exact lv_tableIn hO.1 hO.2.1 hd h1 h2 ho ht (kk _ hK hO H locs rs hs)
end Sw
set_option maxHeartbeats 4000000 in
theorem kB_move_0 {l : Launch} (hl : l.stackTraces = false) (d : Nat) (hd : 3 ≤ d) {pd : Int32} {si : Nat → Int32} {sa : Nat → Nat → Int32} {hv : Nat → Int32} {ha : Nat → Nat → Nat → Int32} {sl : Int32} {sc : Nat → Nat → Int32} {pl : Int32} {pa : Nat → Nat → Int32} {tl : pm_H} (x : Int32) (km : ¬ fw x 0 (sl - 1) = 0) (hx : vp_in x 30) : pm_Sem l d mB_move [.ref 0, .int x, .int 0] (cH pd si sa hv ha sl sc pl pa tl) (some (.int (sc 0 x.toNatClampNeg))) (cH pd si sa hv ha sl sc pl pa tl) := by
  refine pm_sem hl mo_B_move ⟨_, rfl, rfl⟩ rfl rfl (Nat.le_of_ble_eq_true rfl) (fun K G hK hret => ?_)
  refine pm_aload_n dB_move_0 rfl (q := 1) rfl ?_
  refine pm_iload_n dB_move_1 rfl (q := 2) rfl ?_
  refine pm_cV1v hK (kB_requireMove_ok hl 2 (Nat.le_refl _) _ km) mo_B_requireMove im_B_requireMove se_B_requireMove lk_B_104 dB_move_2 (by omega) (Nat.le_of_ble_eq_true rfl) (Nat.zero_le _) (Nat.zero_le _) rfl rfl rfl (q := 5) rfl ?_
  refine pm_iload_n dB_move_5 rfl (q := 6) rfl ?_
  refine pm_tabIn (tgt := 36) dB_move_6 (by decide) (by decide) (off := 30) (by decide) rfl ?_
  refine pm_aload_n dB_move_36 rfl (q := 37) rfl ?_
  refine pm_get fl_B_35 dB_move_37 rfl rfl (q := 40) rfl ?_
  refine pm_get fl_B_108 dB_move_40 rfl rfl (q := 43) rfl ?_
  refine pm_iload_n dB_move_43 rfl (q := 44) rfl ?_
  refine pm_iald dB_move_44 rfl (hx) (q := 45) rfl ?_
  exact pm_retI hret dB_move_45 rfl
set_option maxHeartbeats 4000000 in
theorem kB_move_1 {l : Launch} (hl : l.stackTraces = false) (d : Nat) (hd : 3 ≤ d) {pd : Int32} {si : Nat → Int32} {sa : Nat → Nat → Int32} {hv : Nat → Int32} {ha : Nat → Nat → Nat → Int32} {sl : Int32} {sc : Nat → Nat → Int32} {pl : Int32} {pa : Nat → Nat → Int32} {tl : pm_H} (x : Int32) (km : ¬ fw x 0 (sl - 1) = 0) (hx : vp_in x 30) : pm_Sem l d mB_move [.ref 0, .int x, .int 1] (cH pd si sa hv ha sl sc pl pa tl) (some (.int (sc 1 x.toNatClampNeg))) (cH pd si sa hv ha sl sc pl pa tl) := by
  refine pm_sem hl mo_B_move ⟨_, rfl, rfl⟩ rfl rfl (Nat.le_of_ble_eq_true rfl) (fun K G hK hret => ?_)
  refine pm_aload_n dB_move_0 rfl (q := 1) rfl ?_
  refine pm_iload_n dB_move_1 rfl (q := 2) rfl ?_
  refine pm_cV1v hK (kB_requireMove_ok hl 2 (Nat.le_refl _) _ km) mo_B_requireMove im_B_requireMove se_B_requireMove lk_B_104 dB_move_2 (by omega) (Nat.le_of_ble_eq_true rfl) (Nat.zero_le _) (Nat.zero_le _) rfl rfl rfl (q := 5) rfl ?_
  refine pm_iload_n dB_move_5 rfl (q := 6) rfl ?_
  refine pm_tabIn (tgt := 46) dB_move_6 (by decide) (by decide) (off := 40) (by decide) rfl ?_
  refine pm_aload_n dB_move_46 rfl (q := 47) rfl ?_
  refine pm_get fl_B_35 dB_move_47 rfl rfl (q := 50) rfl ?_
  refine pm_get fl_B_112 dB_move_50 rfl rfl (q := 53) rfl ?_
  refine pm_iload_n dB_move_53 rfl (q := 54) rfl ?_
  refine pm_iald dB_move_54 rfl (hx) (q := 55) rfl ?_
  exact pm_retI hret dB_move_55 rfl
set_option maxHeartbeats 4000000 in
theorem kB_move_2 {l : Launch} (hl : l.stackTraces = false) (d : Nat) (hd : 3 ≤ d) {pd : Int32} {si : Nat → Int32} {sa : Nat → Nat → Int32} {hv : Nat → Int32} {ha : Nat → Nat → Nat → Int32} {sl : Int32} {sc : Nat → Nat → Int32} {pl : Int32} {pa : Nat → Nat → Int32} {tl : pm_H} (x : Int32) (km : ¬ fw x 0 (sl - 1) = 0) (hx : vp_in x 30) : pm_Sem l d mB_move [.ref 0, .int x, .int 2] (cH pd si sa hv ha sl sc pl pa tl) (some (.int (sc 2 x.toNatClampNeg))) (cH pd si sa hv ha sl sc pl pa tl) := by
  refine pm_sem hl mo_B_move ⟨_, rfl, rfl⟩ rfl rfl (Nat.le_of_ble_eq_true rfl) (fun K G hK hret => ?_)
  refine pm_aload_n dB_move_0 rfl (q := 1) rfl ?_
  refine pm_iload_n dB_move_1 rfl (q := 2) rfl ?_
  refine pm_cV1v hK (kB_requireMove_ok hl 2 (Nat.le_refl _) _ km) mo_B_requireMove im_B_requireMove se_B_requireMove lk_B_104 dB_move_2 (by omega) (Nat.le_of_ble_eq_true rfl) (Nat.zero_le _) (Nat.zero_le _) rfl rfl rfl (q := 5) rfl ?_
  refine pm_iload_n dB_move_5 rfl (q := 6) rfl ?_
  refine pm_tabIn (tgt := 56) dB_move_6 (by decide) (by decide) (off := 50) (by decide) rfl ?_
  refine pm_aload_n dB_move_56 rfl (q := 57) rfl ?_
  refine pm_get fl_B_35 dB_move_57 rfl rfl (q := 60) rfl ?_
  refine pm_get fl_B_115 dB_move_60 rfl rfl (q := 63) rfl ?_
  refine pm_iload_n dB_move_63 rfl (q := 64) rfl ?_
  refine pm_iald dB_move_64 rfl (hx) (q := 65) rfl ?_
  exact pm_retI hret dB_move_65 rfl
set_option maxHeartbeats 4000000 in
theorem kB_move_3 {l : Launch} (hl : l.stackTraces = false) (d : Nat) (hd : 3 ≤ d) {pd : Int32} {si : Nat → Int32} {sa : Nat → Nat → Int32} {hv : Nat → Int32} {ha : Nat → Nat → Nat → Int32} {sl : Int32} {sc : Nat → Nat → Int32} {pl : Int32} {pa : Nat → Nat → Int32} {tl : pm_H} (x : Int32) (km : ¬ fw x 0 (sl - 1) = 0) (hx : vp_in x 30) : pm_Sem l d mB_move [.ref 0, .int x, .int 3] (cH pd si sa hv ha sl sc pl pa tl) (some (.int (sc 3 x.toNatClampNeg))) (cH pd si sa hv ha sl sc pl pa tl) := by
  refine pm_sem hl mo_B_move ⟨_, rfl, rfl⟩ rfl rfl (Nat.le_of_ble_eq_true rfl) (fun K G hK hret => ?_)
  refine pm_aload_n dB_move_0 rfl (q := 1) rfl ?_
  refine pm_iload_n dB_move_1 rfl (q := 2) rfl ?_
  refine pm_cV1v hK (kB_requireMove_ok hl 2 (Nat.le_refl _) _ km) mo_B_requireMove im_B_requireMove se_B_requireMove lk_B_104 dB_move_2 (by omega) (Nat.le_of_ble_eq_true rfl) (Nat.zero_le _) (Nat.zero_le _) rfl rfl rfl (q := 5) rfl ?_
  refine pm_iload_n dB_move_5 rfl (q := 6) rfl ?_
  refine pm_tabIn (tgt := 66) dB_move_6 (by decide) (by decide) (off := 60) (by decide) rfl ?_
  refine pm_aload_n dB_move_66 rfl (q := 67) rfl ?_
  refine pm_get fl_B_35 dB_move_67 rfl rfl (q := 70) rfl ?_
  refine pm_get fl_B_118 dB_move_70 rfl rfl (q := 73) rfl ?_
  refine pm_iload_n dB_move_73 rfl (q := 74) rfl ?_
  refine pm_iald dB_move_74 rfl (hx) (q := 75) rfl ?_
  exact pm_retI hret dB_move_75 rfl
set_option maxHeartbeats 4000000 in
theorem kB_move_no {l : Launch} (hl : l.stackTraces = false) (d : Nat) (hd : 7 ≤ d) {pd : Int32} {si : Nat → Int32} {sa : Nat → Nat → Int32} {hv : Nat → Int32} {ha : Nat → Nat → Nat → Int32} {sl : Int32} {sc : Nat → Nat → Int32} {pl : Int32} {pa : Nat → Nat → Int32} {tl : pm_H} (x y : Int32) (km : fw x 0 (sl - 1) = 0) : pm_SemX l d mB_move [.ref 0, .int x, .int y] (cH pd si sa hv ha sl sc pl pa tl) "java/lang/IndexOutOfBoundsException" (cH pd si sa hv ha sl sc pl pa tl) := by
  refine pm_semX hl mo_B_move rfl rfl (Nat.le_of_ble_eq_true rfl) ?_
  have hK := pm_KX_Kd (l := l) (d := d) (h0 := (cH pd si sa hv ha sl sc pl pa tl))
  refine pm_aload_n dB_move_0 rfl (q := 1) rfl ?_
  refine pm_iload_n dB_move_1 rfl (q := 2) rfl ?_
  exact pm_xV (as := [.int x]) (kB_requireMove_no hl 6 (Nat.le_refl _) _ km) mo_B_requireMove im_B_requireMove se_B_requireMove (pm_in3 (j := 0) rfl rfl) rfl dB_move_2 (by omega) rfl rfl (Nat.le_of_ble_eq_true rfl) rfl rfl rfl
set_option maxHeartbeats 4000000 in
theorem kB_move_bad {l : Launch} (hl : l.stackTraces = false) (d : Nat) (hd : 7 ≤ d) {pd : Int32} {si : Nat → Int32} {sa : Nat → Nat → Int32} {hv : Nat → Int32} {ha : Nat → Nat → Nat → Int32} {sl : Int32} {sc : Nat → Nat → Int32} {pl : Int32} {pa : Nat → Nat → Int32} {tl : pm_H} (x y : Int32) (km : ¬ fw x 0 (sl - 1) = 0) (hy : y.toInt < 0 ∨ 3 < y.toInt) : pm_SemX l d mB_move [.ref 0, .int x, .int y] (cH pd si sa hv ha sl sc pl pa tl) "java/lang/IllegalArgumentException" (cH pd si sa hv ha sl sc pl pa tl) := by
  refine pm_semX hl mo_B_move rfl rfl (Nat.le_of_ble_eq_true rfl) ?_
  have hK := pm_KX_Kd (l := l) (d := d) (h0 := (cH pd si sa hv ha sl sc pl pa tl))
  refine pm_aload_n dB_move_0 rfl (q := 1) rfl ?_
  refine pm_iload_n dB_move_1 rfl (q := 2) rfl ?_
  refine pm_cV1v hK (kB_requireMove_ok hl 2 (Nat.le_refl _) _ km) mo_B_requireMove im_B_requireMove se_B_requireMove lk_B_104 dB_move_2 (by omega) (Nat.le_of_ble_eq_true rfl) (Nat.zero_le _) (Nat.zero_le _) rfl rfl rfl (q := 5) rfl ?_
  refine pm_iload_n dB_move_5 rfl (q := 6) rfl ?_
  refine pm_tabOut (tgt := 76) dB_move_6 hy rfl ?_
  exact pm_new0 ex_IAE rfl dB_move_76 dB_move_79 dB_move_80 dB_move_83 (by simp; omega) (Nat.le_of_ble_eq_true rfl)
set_option maxHeartbeats 4000000 in
theorem kB_hand_ok {l : Launch} (hl : l.stackTraces = false) (d : Nat) (hd : 3 ≤ d) {pd : Int32} {si : Nat → Int32} {sa : Nat → Nat → Int32} {hv : Nat → Int32} {ha : Nat → Nat → Nat → Int32} {sl : Int32} {sc : Nat → Nat → Int32} {pl : Int32} {pa : Nat → Nat → Int32} {tl : pm_H} (x y : Int32) (km : ¬ fw x 0 (sl - 1) = 0) (hx : vp_in x 30) (k0 : ¬ (if ¬ fw y 0 2 = 0 ∧ ¬ ne1 (sc 3 x.toNatClampNeg) = 0 then (1 : Int32) else 0) = 0) : pm_Sem l d mB_hand [.ref 0, .int x, .int y] (cH pd si sa hv ha sl sc pl pa tl) none (cH pd si sa hv ha sl (up1 sc 3 (upd (sc 3) x.toNatClampNeg y)) pl pa tl) := by
  refine pm_sem hl mo_B_hand rfl rfl rfl (Nat.le_of_ble_eq_true rfl) (fun K G hK hret => ?_)
  have hJ : pm_Go mB_hand K G 30 [some (.ref 0), some (.int x), some (.int y)] [.int (if ¬ fw y 0 2 = 0 ∧ ¬ ne1 (sc 3 x.toNatClampNeg) = 0 then (1 : Int32) else 0)] (cH pd si sa hv ha sl sc pl pa tl) 0 0 := by
    refine pm_cS1v hK (kB_require_ok hl 0 _ k0 _) mo_B_require st_B_require lk_B_50 dB_hand_30 (by omega) (Nat.le_of_ble_eq_true rfl) (Nat.zero_le _) (Nat.zero_le _) (q := 33) rfl ?_
    refine pm_aload_n dB_hand_33 rfl (q := 34) rfl ?_
    refine pm_get fl_B_35 dB_hand_34 rfl rfl (q := 37) rfl ?_
    refine pm_get fl_B_118 dB_hand_37 rfl rfl (q := 40) rfl ?_
    refine pm_iload_n dB_hand_40 rfl (q := 41) rfl ?_
    refine pm_iload_n dB_hand_41 rfl (q := 42) rfl ?_
    refine pm_iast dB_hand_42 rfl (hx) (q := 43) rfl ?_
    exact pm_retV hret dB_hand_43 rfl
  refine pm_aload_n dB_hand_0 rfl (q := 1) rfl ?_
  refine pm_iload_n dB_hand_1 rfl (q := 2) rfl ?_
  refine pm_cV1v hK (kB_requireMove_ok hl 2 (Nat.le_refl _) _ km) mo_B_requireMove im_B_requireMove se_B_requireMove lk_B_104 dB_hand_2 (by omega) (Nat.le_of_ble_eq_true rfl) (Nat.zero_le _) (Nat.zero_le _) rfl rfl rfl (q := 5) rfl ?_
  refine pm_iload_n dB_hand_5 rfl (q := 6) rfl ?_
  refine pm_iconst (x := 0) dB_hand_6 (by decide) (q := 7) rfl ?_
  refine pm_iconst (x := 2) dB_hand_7 (by decide) (q := 8) rfl ?_
  refine pm_cS3i hK (kB_within hl 0 _ _ _ _) mo_B_within st_B_within lk_B_46 dB_hand_8 (by omega) (Nat.le_of_ble_eq_true rfl) (Nat.zero_le _) (Nat.zero_le _) (q := 11) rfl ?_
  refine pm_if_eq (tgt := 29) dB_hand_11 rfl (q := 14) rfl (fun h11 => ?_) (fun h11 => ?_)
  · refine pm_iconst (x := 0) dB_hand_29 (by decide) (q := 30) rfl ?_
    refine pm_topL (y := (if ¬ fw y 0 2 = 0 ∧ ¬ ne1 (sc 3 x.toNatClampNeg) = 0 then (1 : Int32) else 0)) (by first | (simp [h11]; done) | (simp [h22]; done) | (simp [h11, h22]; done)) ?_
    exact hJ
  · refine pm_aload_n dB_hand_14 rfl (q := 15) rfl ?_
    refine pm_get fl_B_35 dB_hand_15 rfl rfl (q := 18) rfl ?_
    refine pm_iload_n dB_hand_18 rfl (q := 19) rfl ?_
    refine pm_cV1i hK (kT_putsOn hl 0 _ hx) mo_T_putsOn im_T_putsOn se_T_putsOn lk_B_124 dB_hand_19 (by omega) (Nat.le_of_ble_eq_true rfl) (Nat.zero_le _) (Nat.zero_le _) rfl rfl rfl (q := 22) rfl ?_
    refine pm_if_eq (tgt := 29) dB_hand_22 rfl (q := 25) rfl (fun h22 => ?_) (fun h22 => ?_)
    · refine pm_iconst (x := 0) dB_hand_29 (by decide) (q := 30) rfl ?_
      refine pm_topL (y := (if ¬ fw y 0 2 = 0 ∧ ¬ ne1 (sc 3 x.toNatClampNeg) = 0 then (1 : Int32) else 0)) (by first | (simp [h11]; done) | (simp [h22]; done) | (simp [h11, h22]; done)) ?_
      exact hJ
    · refine pm_iconst (x := 1) dB_hand_25 (by decide) (q := 26) rfl ?_
      refine pm_goto (tgt := 30) dB_hand_26 rfl ?_
      refine pm_topL (y := (if ¬ fw y 0 2 = 0 ∧ ¬ ne1 (sc 3 x.toNatClampNeg) = 0 then (1 : Int32) else 0)) (by first | (simp [h11]; done) | (simp [h22]; done) | (simp [h11, h22]; done)) ?_
      exact hJ
set_option maxHeartbeats 4000000 in
theorem kB_hand_no {l : Launch} (hl : l.stackTraces = false) (d : Nat) (hd : 7 ≤ d) {pd : Int32} {si : Nat → Int32} {sa : Nat → Nat → Int32} {hv : Nat → Int32} {ha : Nat → Nat → Nat → Int32} {sl : Int32} {sc : Nat → Nat → Int32} {pl : Int32} {pa : Nat → Nat → Int32} {tl : pm_H} (x y : Int32) (km : fw x 0 (sl - 1) = 0) : pm_SemX l d mB_hand [.ref 0, .int x, .int y] (cH pd si sa hv ha sl sc pl pa tl) "java/lang/IndexOutOfBoundsException" (cH pd si sa hv ha sl sc pl pa tl) := by
  refine pm_semX hl mo_B_hand rfl rfl (Nat.le_of_ble_eq_true rfl) ?_
  have hK := pm_KX_Kd (l := l) (d := d) (h0 := (cH pd si sa hv ha sl sc pl pa tl))
  refine pm_aload_n dB_hand_0 rfl (q := 1) rfl ?_
  refine pm_iload_n dB_hand_1 rfl (q := 2) rfl ?_
  exact pm_xV (as := [.int x]) (kB_requireMove_no hl 6 (Nat.le_refl _) _ km) mo_B_requireMove im_B_requireMove se_B_requireMove (pm_in3 (j := 0) rfl rfl) rfl dB_hand_2 (by omega) rfl rfl (Nat.le_of_ble_eq_true rfl) rfl rfl rfl
set_option maxHeartbeats 4000000 in
theorem kB_hand_bad {l : Launch} (hl : l.stackTraces = false) (d : Nat) (hd : 7 ≤ d) {pd : Int32} {si : Nat → Int32} {sa : Nat → Nat → Int32} {hv : Nat → Int32} {ha : Nat → Nat → Nat → Int32} {sl : Int32} {sc : Nat → Nat → Int32} {pl : Int32} {pa : Nat → Nat → Int32} {tl : pm_H} (x y : Int32) (km : ¬ fw x 0 (sl - 1) = 0) (hx : vp_in x 30) (k0 : (if ¬ fw y 0 2 = 0 ∧ ¬ ne1 (sc 3 x.toNatClampNeg) = 0 then (1 : Int32) else 0) = 0) : pm_SemX l d mB_hand [.ref 0, .int x, .int y] (cH pd si sa hv ha sl sc pl pa tl) "java/lang/IllegalArgumentException" (cH pd si sa hv ha sl sc pl pa tl) := by
  refine pm_semX hl mo_B_hand rfl rfl (Nat.le_of_ble_eq_true rfl) ?_
  have hK := pm_KX_Kd (l := l) (d := d) (h0 := (cH pd si sa hv ha sl sc pl pa tl))
  have hJ : pm_Go mB_hand (pm_KX l d (cH pd si sa hv ha sl sc pl pa tl)) (pm_GX (cH pd si sa hv ha sl sc pl pa tl) "java/lang/IllegalArgumentException" (cH pd si sa hv ha sl sc pl pa tl)) 30 [some (.ref 0), some (.int x), some (.int y)] [.int (if ¬ fw y 0 2 = 0 ∧ ¬ ne1 (sc 3 x.toNatClampNeg) = 0 then (1 : Int32) else 0)] (cH pd si sa hv ha sl sc pl pa tl) 0 0 := by
    exact pm_xS (kB_require_no hl 6 (Nat.le_refl _) _ k0 _) mo_B_require st_B_require (pm_in2 (j := 116) rfl rfl) rfl dB_hand_30 (by omega) rfl rfl (Nat.le_of_ble_eq_true rfl)
  refine pm_aload_n dB_hand_0 rfl (q := 1) rfl ?_
  refine pm_iload_n dB_hand_1 rfl (q := 2) rfl ?_
  refine pm_cV1v hK (kB_requireMove_ok hl 2 (Nat.le_refl _) _ km) mo_B_requireMove im_B_requireMove se_B_requireMove lk_B_104 dB_hand_2 (by omega) (Nat.le_of_ble_eq_true rfl) (Nat.zero_le _) (Nat.zero_le _) rfl rfl rfl (q := 5) rfl ?_
  refine pm_iload_n dB_hand_5 rfl (q := 6) rfl ?_
  refine pm_iconst (x := 0) dB_hand_6 (by decide) (q := 7) rfl ?_
  refine pm_iconst (x := 2) dB_hand_7 (by decide) (q := 8) rfl ?_
  refine pm_cS3i hK (kB_within hl 0 _ _ _ _) mo_B_within st_B_within lk_B_46 dB_hand_8 (by omega) (Nat.le_of_ble_eq_true rfl) (Nat.zero_le _) (Nat.zero_le _) (q := 11) rfl ?_
  refine pm_if_eq (tgt := 29) dB_hand_11 rfl (q := 14) rfl (fun h11 => ?_) (fun h11 => ?_)
  · refine pm_iconst (x := 0) dB_hand_29 (by decide) (q := 30) rfl ?_
    refine pm_topL (y := (if ¬ fw y 0 2 = 0 ∧ ¬ ne1 (sc 3 x.toNatClampNeg) = 0 then (1 : Int32) else 0)) (by first | (simp [h11]; done) | (simp [h22]; done) | (simp [h11, h22]; done)) ?_
    exact hJ
  · refine pm_aload_n dB_hand_14 rfl (q := 15) rfl ?_
    refine pm_get fl_B_35 dB_hand_15 rfl rfl (q := 18) rfl ?_
    refine pm_iload_n dB_hand_18 rfl (q := 19) rfl ?_
    refine pm_cV1i hK (kT_putsOn hl 0 _ hx) mo_T_putsOn im_T_putsOn se_T_putsOn lk_B_124 dB_hand_19 (by omega) (Nat.le_of_ble_eq_true rfl) (Nat.zero_le _) (Nat.zero_le _) rfl rfl rfl (q := 22) rfl ?_
    refine pm_if_eq (tgt := 29) dB_hand_22 rfl (q := 25) rfl (fun h22 => ?_) (fun h22 => ?_)
    · refine pm_iconst (x := 0) dB_hand_29 (by decide) (q := 30) rfl ?_
      refine pm_topL (y := (if ¬ fw y 0 2 = 0 ∧ ¬ ne1 (sc 3 x.toNatClampNeg) = 0 then (1 : Int32) else 0)) (by first | (simp [h11]; done) | (simp [h22]; done) | (simp [h11, h22]; done)) ?_
      exact hJ
    · refine pm_iconst (x := 1) dB_hand_25 (by decide) (q := 26) rfl ?_
      refine pm_goto (tgt := 30) dB_hand_26 rfl ?_
      refine pm_topL (y := (if ¬ fw y 0 2 = 0 ∧ ¬ ne1 (sc 3 x.toNatClampNeg) = 0 then (1 : Int32) else 0)) (by first | (simp [h11]; done) | (simp [h22]; done) | (simp [h11, h22]; done)) ?_
      exact hJ
set_option maxHeartbeats 4000000 in
theorem kB_slot_ok {l : Launch} (hl : l.stackTraces = false) (d : Nat) (hd : 3 ≤ d) {pd : Int32} {si : Nat → Int32} {sa : Nat → Nat → Int32} {hv : Nat → Int32} {ha : Nat → Nat → Nat → Int32} {sl : Int32} {sc : Nat → Nat → Int32} {pl : Int32} {pa : Nat → Nat → Int32} {tl : pm_H} (x y : Int32) (hx : vp_in (x * 3 + y) 9) (k0 : ¬ (if ¬ fw x 0 (si 0 - 1) = 0 ∧ ¬ fw y 0 (si 1 - 1) = 0 then (1 : Int32) else 0) = 0) : pm_Sem l d mB_slot [.ref 0, .int x, .int y] (cH pd si sa hv ha sl sc pl pa tl) (some (.int (ha 0 0 (x * 3 + y).toNatClampNeg))) (cH pd si sa hv ha sl sc pl pa tl) := by
  refine pm_sem hl mo_B_slot ⟨_, rfl, rfl⟩ rfl rfl (Nat.le_of_ble_eq_true rfl) (fun K G hK hret => ?_)
  have hJ : pm_Go mB_slot K G 33 [some (.ref 0), some (.int x), some (.int y)] [.int (if ¬ fw x 0 (si 0 - 1) = 0 ∧ ¬ fw y 0 (si 1 - 1) = 0 then (1 : Int32) else 0)] (cH pd si sa hv ha sl sc pl pa tl) 0 0 := by
    refine pm_cS1v hK (kB_require_ok hl 0 _ k0 _) mo_B_require st_B_require lk_B_50 dB_slot_33 (by omega) (Nat.le_of_ble_eq_true rfl) (Nat.zero_le _) (Nat.zero_le _) (q := 36) rfl ?_
    refine pm_aload_n dB_slot_36 rfl (q := 37) rfl ?_
    refine pm_get fl_B_25 dB_slot_37 rfl rfl (q := 40) rfl ?_
    refine pm_iload_n dB_slot_40 rfl (q := 41) rfl ?_
    refine pm_iload_n dB_slot_41 rfl (q := 42) rfl ?_
    refine pm_cV2i hK (kH_boxAt hl 0 cH_hold0 _ _ hx) mo_H_boxAt im_H_boxAt se_H_boxAt lk_B_137 dB_slot_42 (by omega) (Nat.le_of_ble_eq_true rfl) (Nat.zero_le _) (Nat.zero_le _) rfl rfl rfl (q := 45) rfl ?_
    exact pm_retI hret dB_slot_45 rfl
  refine pm_aload_n dB_slot_0 rfl (q := 1) rfl ?_
  refine pm_get fl_B_16 dB_slot_1 rfl rfl (q := 4) rfl ?_
  refine pm_iload_n dB_slot_4 rfl (q := 5) rfl ?_
  refine pm_cV1i hK (kS_hasStack hl 1 (Nat.le_refl _) _) mo_S_hasStack im_S_hasStack se_S_hasStack lk_B_57 dB_slot_5 (by omega) (Nat.le_of_ble_eq_true rfl) (Nat.zero_le _) (Nat.zero_le _) rfl rfl rfl (q := 8) rfl ?_
  refine pm_if_eq (tgt := 32) dB_slot_8 rfl (q := 11) rfl (fun h8 => ?_) (fun h8 => ?_)
  · refine pm_iconst (x := 0) dB_slot_32 (by decide) (q := 33) rfl ?_
    refine pm_topL (y := (if ¬ fw x 0 (si 0 - 1) = 0 ∧ ¬ fw y 0 (si 1 - 1) = 0 then (1 : Int32) else 0)) (by first | (simp [h8]; done) | (simp [h25]; done) | (simp [h8, h25]; done)) ?_
    exact hJ
  · refine pm_iload_n dB_slot_11 rfl (q := 12) rfl ?_
    refine pm_iconst (x := 0) dB_slot_12 (by decide) (q := 13) rfl ?_
    refine pm_aload_n dB_slot_13 rfl (q := 14) rfl ?_
    refine pm_get fl_B_16 dB_slot_14 rfl rfl (q := 17) rfl ?_
    refine pm_get fl_B_134 dB_slot_17 rfl rfl (q := 20) rfl ?_
    refine pm_iconst (x := 1) dB_slot_20 (by decide) (q := 21) rfl ?_
    refine pm_isub dB_slot_21 (q := 22) rfl ?_
    refine pm_cS3i hK (kB_within hl 0 _ _ _ _) mo_B_within st_B_within lk_B_46 dB_slot_22 (by omega) (Nat.le_of_ble_eq_true rfl) (Nat.zero_le _) (Nat.zero_le _) (q := 25) rfl ?_
    refine pm_if_eq (tgt := 32) dB_slot_25 rfl (q := 28) rfl (fun h25 => ?_) (fun h25 => ?_)
    · refine pm_iconst (x := 0) dB_slot_32 (by decide) (q := 33) rfl ?_
      refine pm_topL (y := (if ¬ fw x 0 (si 0 - 1) = 0 ∧ ¬ fw y 0 (si 1 - 1) = 0 then (1 : Int32) else 0)) (by first | (simp [h8]; done) | (simp [h25]; done) | (simp [h8, h25]; done)) ?_
      exact hJ
    · refine pm_iconst (x := 1) dB_slot_28 (by decide) (q := 29) rfl ?_
      refine pm_goto (tgt := 33) dB_slot_29 rfl ?_
      refine pm_topL (y := (if ¬ fw x 0 (si 0 - 1) = 0 ∧ ¬ fw y 0 (si 1 - 1) = 0 then (1 : Int32) else 0)) (by first | (simp [h8]; done) | (simp [h25]; done) | (simp [h8, h25]; done)) ?_
      exact hJ
set_option maxHeartbeats 4000000 in
theorem kB_slot_no {l : Launch} (hl : l.stackTraces = false) (d : Nat) (hd : 7 ≤ d) {pd : Int32} {si : Nat → Int32} {sa : Nat → Nat → Int32} {hv : Nat → Int32} {ha : Nat → Nat → Nat → Int32} {sl : Int32} {sc : Nat → Nat → Int32} {pl : Int32} {pa : Nat → Nat → Int32} {tl : pm_H} (x y : Int32) (k0 : (if ¬ fw x 0 (si 0 - 1) = 0 ∧ ¬ fw y 0 (si 1 - 1) = 0 then (1 : Int32) else 0) = 0) : pm_SemX l d mB_slot [.ref 0, .int x, .int y] (cH pd si sa hv ha sl sc pl pa tl) "java/lang/IllegalArgumentException" (cH pd si sa hv ha sl sc pl pa tl) := by
  refine pm_semX hl mo_B_slot rfl rfl (Nat.le_of_ble_eq_true rfl) ?_
  have hK := pm_KX_Kd (l := l) (d := d) (h0 := (cH pd si sa hv ha sl sc pl pa tl))
  have hJ : pm_Go mB_slot (pm_KX l d (cH pd si sa hv ha sl sc pl pa tl)) (pm_GX (cH pd si sa hv ha sl sc pl pa tl) "java/lang/IllegalArgumentException" (cH pd si sa hv ha sl sc pl pa tl)) 33 [some (.ref 0), some (.int x), some (.int y)] [.int (if ¬ fw x 0 (si 0 - 1) = 0 ∧ ¬ fw y 0 (si 1 - 1) = 0 then (1 : Int32) else 0)] (cH pd si sa hv ha sl sc pl pa tl) 0 0 := by
    exact pm_xS (kB_require_no hl 6 (Nat.le_refl _) _ k0 _) mo_B_require st_B_require (pm_in2 (j := 116) rfl rfl) rfl dB_slot_33 (by omega) rfl rfl (Nat.le_of_ble_eq_true rfl)
  refine pm_aload_n dB_slot_0 rfl (q := 1) rfl ?_
  refine pm_get fl_B_16 dB_slot_1 rfl rfl (q := 4) rfl ?_
  refine pm_iload_n dB_slot_4 rfl (q := 5) rfl ?_
  refine pm_cV1i hK (kS_hasStack hl 1 (Nat.le_refl _) _) mo_S_hasStack im_S_hasStack se_S_hasStack lk_B_57 dB_slot_5 (by omega) (Nat.le_of_ble_eq_true rfl) (Nat.zero_le _) (Nat.zero_le _) rfl rfl rfl (q := 8) rfl ?_
  refine pm_if_eq (tgt := 32) dB_slot_8 rfl (q := 11) rfl (fun h8 => ?_) (fun h8 => ?_)
  · refine pm_iconst (x := 0) dB_slot_32 (by decide) (q := 33) rfl ?_
    refine pm_topL (y := (if ¬ fw x 0 (si 0 - 1) = 0 ∧ ¬ fw y 0 (si 1 - 1) = 0 then (1 : Int32) else 0)) (by first | (simp [h8]; done) | (simp [h25]; done) | (simp [h8, h25]; done)) ?_
    exact hJ
  · refine pm_iload_n dB_slot_11 rfl (q := 12) rfl ?_
    refine pm_iconst (x := 0) dB_slot_12 (by decide) (q := 13) rfl ?_
    refine pm_aload_n dB_slot_13 rfl (q := 14) rfl ?_
    refine pm_get fl_B_16 dB_slot_14 rfl rfl (q := 17) rfl ?_
    refine pm_get fl_B_134 dB_slot_17 rfl rfl (q := 20) rfl ?_
    refine pm_iconst (x := 1) dB_slot_20 (by decide) (q := 21) rfl ?_
    refine pm_isub dB_slot_21 (q := 22) rfl ?_
    refine pm_cS3i hK (kB_within hl 0 _ _ _ _) mo_B_within st_B_within lk_B_46 dB_slot_22 (by omega) (Nat.le_of_ble_eq_true rfl) (Nat.zero_le _) (Nat.zero_le _) (q := 25) rfl ?_
    refine pm_if_eq (tgt := 32) dB_slot_25 rfl (q := 28) rfl (fun h25 => ?_) (fun h25 => ?_)
    · refine pm_iconst (x := 0) dB_slot_32 (by decide) (q := 33) rfl ?_
      refine pm_topL (y := (if ¬ fw x 0 (si 0 - 1) = 0 ∧ ¬ fw y 0 (si 1 - 1) = 0 then (1 : Int32) else 0)) (by first | (simp [h8]; done) | (simp [h25]; done) | (simp [h8, h25]; done)) ?_
      exact hJ
    · refine pm_iconst (x := 1) dB_slot_28 (by decide) (q := 29) rfl ?_
      refine pm_goto (tgt := 33) dB_slot_29 rfl ?_
      refine pm_topL (y := (if ¬ fw x 0 (si 0 - 1) = 0 ∧ ¬ fw y 0 (si 1 - 1) = 0 then (1 : Int32) else 0)) (by first | (simp [h8]; done) | (simp [h25]; done) | (simp [h8, h25]; done)) ?_
      exact hJ
