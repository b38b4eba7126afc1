/-! the face: requirements, and the calls that change the ship -/
theorem pm_KX_Kd {l : Launch} {d : Nat} {h0 : pm_H} : ∀ X, pm_KX l d h0 X → pm_Kd l d 1 6 X := by
  rintro ⟨p, l1, e, R, s, m, args, below, meth, c, A, D, κ, α⟩ hX
  obtain ⟨rfl, rfl, -⟩ := hX
  exact ⟨rfl, Nat.le_refl _, Nat.le_refl _, Nat.le_refl _, Nat.le_refl _⟩
abbrev exN : List String := ["java/lang/RuntimeException", "java/lang/Exception"]
set_option maxRecDepth 20000 in
theorem ex0_IAE : (Bundle.ownAtoms0 "BayStowage" 123 "java/lang/IllegalArgumentException" exN).all (fun w => decide (w ∈ pm_ws) || (decide (w ∈ pm_nw) || decide (w ∈ pm_zw))) = true := by decide +kernel
theorem ex_IAE : pm_Ex "BayStowage" 121 123 "java/lang/IllegalArgumentException" exN := ⟨by decide +kernel, by decide +kernel, pm_in2 (j := 119) rfl rfl, pm_in1 (j := 11) rfl rfl, fun w hw => by
  have h := List.all_eq_true.mp ex0_IAE w hw
  simpa using h⟩
set_option maxRecDepth 20000 in
theorem ex0_ISE : (Bundle.ownAtoms0 "BayStowage" 74 "java/lang/IllegalStateException" exN).all (fun w => decide (w ∈ pm_ws) || (decide (w ∈ pm_nw) || decide (w ∈ pm_zw))) = true := by decide +kernel
theorem ex_ISE : pm_Ex "BayStowage" 72 74 "java/lang/IllegalStateException" exN := ⟨by decide +kernel, by decide +kernel, pm_in2 (j := 202) rfl rfl, pm_in1 (j := 12) rfl rfl, fun w hw => by
  have h := List.all_eq_true.mp ex0_ISE w hw
  simpa using h⟩
set_option maxRecDepth 20000 in
theorem ex0_IOB : (Bundle.ownAtoms0 "BayStowage" 185 "java/lang/IndexOutOfBoundsException" exN).all (fun w => decide (w ∈ pm_ws) || (decide (w ∈ pm_nw) || decide (w ∈ pm_zw))) = true := by decide +kernel
theorem ex_IOB : pm_Ex "BayStowage" 183 185 "java/lang/IndexOutOfBoundsException" exN := ⟨by decide +kernel, by decide +kernel, pm_in3 (j := 9) rfl rfl, pm_in1 (j := 16) rfl rfl, fun w hw => by
  have h := List.all_eq_true.mp ex0_IOB w hw
  simpa using h⟩
set_option maxHeartbeats 4000000 in
theorem kB_require_ok {l : Launch} (hl : l.stackTraces = false) (d : Nat) (x : Int32) (hx : ¬ x = 0) (h : pm_H) : pm_Sem l d mB_require [.int x] h none h := by
  refine pm_sem hl mo_B_require rfl rfl rfl (Nat.le_of_ble_eq_true rfl) (fun K G hK hret => ?_)
  refine pm_iload_n dB_require_0 rfl (q := 1) rfl ?_
  refine pm_if_ne (tgt := 12) dB_require_1 rfl (q := 4) rfl (fun _ => ?_) (fun z => absurd z hx)
  exact pm_retV hret dB_require_12 rfl
set_option maxHeartbeats 4000000 in
theorem kB_require_no {l : Launch} (hl : l.stackTraces = false) (d : Nat) (hd : 6 ≤ d) (x : Int32) (hx : x = 0) (h : pm_H) : pm_SemX l d mB_require [.int x] h "java/lang/IllegalArgumentException" h := by
  refine pm_semX hl mo_B_require rfl rfl (Nat.le_of_ble_eq_true rfl) ?_
  have hK := pm_KX_Kd (l := l) (d := d) (h0 := h)
  refine pm_iload_n dB_require_0 rfl (q := 1) rfl ?_
  refine pm_if_ne (tgt := 12) dB_require_1 rfl (q := 4) rfl (fun z => absurd hx z) (fun _ => ?_)
  exact pm_new0 ex_IAE rfl dB_require_4 dB_require_7 dB_require_8 dB_require_11 (by simp; omega) (Nat.le_of_ble_eq_true rfl)
set_option maxHeartbeats 4000000 in
theorem kB_requireMove_ok {l : Launch} (hl : l.stackTraces = false) (d : Nat) (hd : 2 ≤ d) {pd : Int32} {si : Nat → Int32} {sa : Nat → Nat → Int32} {hv : Nat → Int32} {ha : Nat → Nat → Nat → Int32} {sl : Int32} {sc : Nat → Nat → Int32} {pl : Int32} {pa : Nat → Nat → Int32} {tl : pm_H} (x : Int32) (hx : ¬ fw x 0 (sl - 1) = 0) : pm_Sem l d mB_requireMove [.ref 0, .int x] (cH pd si sa hv ha sl sc pl pa tl) none (cH pd si sa hv ha sl sc pl pa tl) := by
  refine pm_sem hl mo_B_requireMove rfl rfl rfl (Nat.le_of_ble_eq_true rfl) (fun K G hK hret => ?_)
  refine pm_aload_n dB_requireMove_0 rfl (q := 1) rfl ?_
  refine pm_get fl_B_35 dB_requireMove_1 rfl rfl (q := 4) rfl ?_
  refine pm_iload_n dB_requireMove_4 rfl (q := 5) rfl ?_
  refine pm_cV1i hK (kT_has hl 1 (Nat.le_refl _) _) mo_T_has im_T_has se_T_has lk_B_180 dB_requireMove_5 (by omega) (Nat.le_of_ble_eq_true rfl) (Nat.zero_le _) (Nat.zero_le _) rfl rfl rfl (q := 8) rfl ?_
  refine pm_if_ne (tgt := 19) dB_requireMove_8 rfl (q := 11) rfl (fun _ => ?_) (fun z => absurd z hx)
  exact pm_retV hret dB_requireMove_19 rfl
set_option maxHeartbeats 4000000 in
theorem kB_requireMove_no {l : Launch} (hl : l.stackTraces = false) (d : Nat) (hd : 6 ≤ d) {pd : Int32} {si : Nat → Int32} {sa : Nat → Nat → Int32} {hv : Nat → Int32} {ha : Nat → Nat → Nat → Int32} {sl : Int32} {sc : Nat → Nat → Int32} {pl : Int32} {pa : Nat → Nat → Int32} {tl : pm_H} (x : Int32) (hx : fw x 0 (sl - 1) = 0) : pm_SemX l d mB_requireMove [.ref 0, .int x] (cH pd si sa hv ha sl sc pl pa tl) "java/lang/IndexOutOfBoundsException" (cH pd si sa hv ha sl sc pl pa tl) := by
  refine pm_semX hl mo_B_requireMove rfl rfl (Nat.le_of_ble_eq_true rfl) ?_
  have hK := pm_KX_Kd (l := l) (d := d) (h0 := (cH pd si sa hv ha sl sc pl pa tl))
  refine pm_aload_n dB_requireMove_0 rfl (q := 1) rfl ?_
  refine pm_get fl_B_35 dB_requireMove_1 rfl rfl (q := 4) rfl ?_
  refine pm_iload_n dB_requireMove_4 rfl (q := 5) rfl ?_
  refine pm_cV1i hK (kT_has hl 1 (Nat.le_refl _) _) mo_T_has im_T_has se_T_has lk_B_180 dB_requireMove_5 (by omega) (Nat.le_of_ble_eq_true rfl) (Nat.zero_le _) (Nat.zero_le _) rfl rfl rfl (q := 8) rfl ?_
  refine pm_if_ne (tgt := 19) dB_requireMove_8 rfl (q := 11) rfl (fun z => absurd hx z) (fun _ => ?_)
  exact pm_new0 ex_IOB rfl dB_requireMove_11 dB_requireMove_14 dB_requireMove_15 dB_requireMove_18 (by simp; omega) (Nat.le_of_ble_eq_true rfl)
set_option maxHeartbeats 4000000 in
theorem kB_dropPlan {l : Launch} (hl : l.stackTraces = false) (d : Nat) (hd : 2 ≤ d) {pd : Int32} {si : Nat → Int32} {sa : Nat → Nat → Int32} {hv : Nat → Int32} {ha : Nat → Nat → Nat → Int32} {sl : Int32} {sc : Nat → Nat → Int32} {pl : Int32} {pa : Nat → Nat → Int32} {tl : pm_H} : pm_Sem l d mB_dropPlan [.ref 0] (cH pd si sa hv ha sl sc pl pa tl) none (cH 0 si sa (up1 hv 0 0) (up1 ha 0 empA) 0 sc pl pa tl) := by
  refine pm_sem hl mo_B_dropPlan rfl rfl rfl (Nat.le_of_ble_eq_true rfl) (fun K G hK hret => ?_)
  refine pm_aload_n dB_dropPlan_0 rfl (q := 1) rfl ?_
  refine pm_iconst (x := 0) dB_dropPlan_1 (by decide) (q := 2) rfl ?_
  refine pm_put fp_B_97 dB_dropPlan_2 rfl (Nat.le_of_ble_eq_true rfl) (fun _ => rfl) (fun _ => rfl) (q := 5) rfl ?_
  refine pm_heap (g := cH 0 si sa hv ha sl sc pl pa tl) rfl ?_
  refine pm_aload_n dB_dropPlan_5 rfl (q := 6) rfl ?_
  refine pm_get fl_B_35 dB_dropPlan_6 rfl rfl (q := 9) rfl ?_
  refine pm_cV0v hK (kT_clear hl 0) mo_T_clear im_T_clear se_T_clear lk_B_179 dB_dropPlan_9 (by omega) (Nat.le_of_ble_eq_true rfl) (Nat.zero_le _) (Nat.zero_le _) rfl rfl rfl (q := 12) rfl ?_
  refine pm_aload_n dB_dropPlan_12 rfl (q := 13) rfl ?_
  refine pm_get fl_B_25 dB_dropPlan_13 rfl rfl (q := 16) rfl ?_
  refine pm_cV0v hK (kH_clear0 hl 1 (Nat.le_refl _)) mo_H_clear im_H_clear se_H_clear lk_B_127 dB_dropPlan_16 (by omega) (Nat.le_of_ble_eq_true rfl) (Nat.zero_le _) (Nat.zero_le _) rfl rfl rfl (q := 19) rfl ?_
  exact pm_retV hret dB_dropPlan_19 rfl
set_option maxHeartbeats 4000000 in
theorem kB_moves {l : Launch} (hl : l.stackTraces = false) (d : Nat) {pd : Int32} {si : Nat → Int32} {sa : Nat → Nat → Int32} {hv : Nat → Int32} {ha : Nat → Nat → Nat → Int32} {sl : Int32} {sc : Nat → Nat → Int32} {pl : Int32} {pa : Nat → Nat → Int32} {tl : pm_H} : pm_Sem l d mB_moves [.ref 0] (cH pd si sa hv ha sl sc pl pa tl) (some (.int sl)) (cH pd si sa hv ha sl sc pl pa tl) := by
  refine pm_sem hl mo_B_moves ⟨_, rfl, rfl⟩ rfl rfl (Nat.le_of_ble_eq_true rfl) (fun K G hK hret => ?_)
  refine pm_aload_n dB_moves_0 rfl (q := 1) rfl ?_
  refine pm_get fl_B_35 dB_moves_1 rfl rfl (q := 4) rfl ?_
  refine pm_get fl_B_101 dB_moves_4 rfl rfl (q := 7) rfl ?_
  exact pm_retI hret dB_moves_7 rfl
set_option maxHeartbeats 4000000 in
theorem kB_bay_ok {l : Launch} (hl : l.stackTraces = false) (d : Nat) (hd : 3 ≤ d) {pd : Int32} {si : Nat → Int32} {sa : Nat → Nat → Int32} {hv : Nat → Int32} {ha : Nat → Nat → Nat → Int32} {sl : Int32} {sc : Nat → Nat → Int32} {pl : Int32} {pa : Nat → Nat → Int32} {tl : pm_H} (a b c e f g : Int32) (k0 : ¬ fw a 1 3 = 0) (k1 : ¬ fw b 1 3 = 0) (k2 : ¬ fw c 2 4 = 0) (k3 : ¬ fw e 1 200 = 0) (k4 : ¬ fw f 0 2000 = 0) (k5 : ¬ fw g 0 2000 = 0) : pm_Sem l d mB_bay [.ref 0, .int a, .int b, .int c, .int e, .int f, .int g] (cH pd si sa hv ha sl sc pl pa tl) none (cH 0 (fun j => if j = 0 then a else if j = 1 then b else if j = 2 then c else if j = 3 then e else if j = 4 then f else if j = 5 then g else if j = 7 then 0 else si j) (up1 sa 0 (upd (upd (upd (sa 0) 0 0) 1 0) 2 0)) (up1 hv 0 0) (up1 ha 0 empA) 0 sc pl pa tl) := by
  refine pm_sem hl mo_B_bay rfl rfl rfl (Nat.le_of_ble_eq_true rfl) (fun K G hK hret => ?_)
  refine pm_iload_n dB_bay_0 rfl (q := 1) rfl ?_
  refine pm_iconst (x := 1) dB_bay_1 (by decide) (q := 2) rfl ?_
  refine pm_iconst (x := 3) dB_bay_2 (by decide) (q := 3) rfl ?_
  refine pm_cS3i hK (kB_within hl 0 _ _ _ _) mo_B_within st_B_within lk_B_46 dB_bay_3 (by omega) (Nat.le_of_ble_eq_true rfl) (Nat.zero_le _) (Nat.zero_le _) (q := 6) rfl ?_
  refine pm_cS1v hK (kB_require_ok hl 0 _ k0 _) mo_B_require st_B_require lk_B_50 dB_bay_6 (by omega) (Nat.le_of_ble_eq_true rfl) (Nat.zero_le _) (Nat.zero_le _) (q := 9) rfl ?_
  refine pm_iload_n dB_bay_9 rfl (q := 10) rfl ?_
  refine pm_iconst (x := 1) dB_bay_10 (by decide) (q := 11) rfl ?_
  refine pm_iconst (x := 3) dB_bay_11 (by decide) (q := 12) rfl ?_
  refine pm_cS3i hK (kB_within hl 0 _ _ _ _) mo_B_within st_B_within lk_B_46 dB_bay_12 (by omega) (Nat.le_of_ble_eq_true rfl) (Nat.zero_le _) (Nat.zero_le _) (q := 15) rfl ?_
  refine pm_cS1v hK (kB_require_ok hl 0 _ k1 _) mo_B_require st_B_require lk_B_50 dB_bay_15 (by omega) (Nat.le_of_ble_eq_true rfl) (Nat.zero_le _) (Nat.zero_le _) (q := 18) rfl ?_
  refine pm_iload_n dB_bay_18 rfl (q := 19) rfl ?_
  refine pm_iconst (x := 2) dB_bay_19 (by decide) (q := 20) rfl ?_
  refine pm_iconst (x := 4) dB_bay_20 (by decide) (q := 21) rfl ?_
  refine pm_cS3i hK (kB_within hl 0 _ _ _ _) mo_B_within st_B_within lk_B_46 dB_bay_21 (by omega) (Nat.le_of_ble_eq_true rfl) (Nat.zero_le _) (Nat.zero_le _) (q := 24) rfl ?_
  refine pm_cS1v hK (kB_require_ok hl 0 _ k2 _) mo_B_require st_B_require lk_B_50 dB_bay_24 (by omega) (Nat.le_of_ble_eq_true rfl) (Nat.zero_le _) (Nat.zero_le _) (q := 27) rfl ?_
  refine pm_iload dB_bay_27 rfl (q := 29) rfl ?_
  refine pm_iconst (x := 1) dB_bay_29 (by decide) (q := 30) rfl ?_
  refine pm_sipush (x := 200) dB_bay_30 (by decide) (q := 33) rfl ?_
  refine pm_cS3i hK (kB_within hl 0 _ _ _ _) mo_B_within st_B_within lk_B_46 dB_bay_33 (by omega) (Nat.le_of_ble_eq_true rfl) (Nat.zero_le _) (Nat.zero_le _) (q := 36) rfl ?_
  refine pm_cS1v hK (kB_require_ok hl 0 _ k3 _) mo_B_require st_B_require lk_B_50 dB_bay_36 (by omega) (Nat.le_of_ble_eq_true rfl) (Nat.zero_le _) (Nat.zero_le _) (q := 39) rfl ?_
  refine pm_iload dB_bay_39 rfl (q := 41) rfl ?_
  refine pm_iconst (x := 0) dB_bay_41 (by decide) (q := 42) rfl ?_
  refine pm_sipush (x := 2000) dB_bay_42 (by decide) (q := 45) rfl ?_
  refine pm_cS3i hK (kB_within hl 0 _ _ _ _) mo_B_within st_B_within lk_B_46 dB_bay_45 (by omega) (Nat.le_of_ble_eq_true rfl) (Nat.zero_le _) (Nat.zero_le _) (q := 48) rfl ?_
  refine pm_cS1v hK (kB_require_ok hl 0 _ k4 _) mo_B_require st_B_require lk_B_50 dB_bay_48 (by omega) (Nat.le_of_ble_eq_true rfl) (Nat.zero_le _) (Nat.zero_le _) (q := 51) rfl ?_
  refine pm_iload dB_bay_51 rfl (q := 53) rfl ?_
  refine pm_iconst (x := 0) dB_bay_53 (by decide) (q := 54) rfl ?_
  refine pm_sipush (x := 2000) dB_bay_54 (by decide) (q := 57) rfl ?_
  refine pm_cS3i hK (kB_within hl 0 _ _ _ _) mo_B_within st_B_within lk_B_46 dB_bay_57 (by omega) (Nat.le_of_ble_eq_true rfl) (Nat.zero_le _) (Nat.zero_le _) (q := 60) rfl ?_
  refine pm_cS1v hK (kB_require_ok hl 0 _ k5 _) mo_B_require st_B_require lk_B_50 dB_bay_60 (by omega) (Nat.le_of_ble_eq_true rfl) (Nat.zero_le _) (Nat.zero_le _) (q := 63) rfl ?_
  refine pm_aload_n dB_bay_63 rfl (q := 64) rfl ?_
  refine pm_get fl_B_16 dB_bay_64 rfl rfl (q := 67) rfl ?_
  refine pm_iload_n dB_bay_67 rfl (q := 68) rfl ?_
  refine pm_iload_n dB_bay_68 rfl (q := 69) rfl ?_
  refine pm_iload_n dB_bay_69 rfl (q := 70) rfl ?_
  refine pm_iload dB_bay_70 rfl (q := 72) rfl ?_
  refine pm_iload dB_bay_72 rfl (q := 74) rfl ?_
  refine pm_iload dB_bay_74 rfl (q := 76) rfl ?_
  refine pm_cV6v hK (kS_refit hl 0 _ _ _ _ _ _) mo_S_refit im_S_refit se_S_refit lk_B_12 dB_bay_76 (by omega) (Nat.le_of_ble_eq_true rfl) (Nat.zero_le _) (Nat.zero_le _) rfl rfl rfl (q := 79) rfl ?_
  refine pm_aload_n dB_bay_79 rfl (q := 80) rfl ?_
  refine pm_cV0v hK (kB_dropPlan hl 2 (Nat.le_refl _)) mo_B_dropPlan im_B_dropPlan se_B_dropPlan lk_B_54 dB_bay_80 (by omega) (Nat.le_of_ble_eq_true rfl) (Nat.zero_le _) (Nat.zero_le _) rfl rfl rfl (q := 83) rfl ?_
  exact pm_retV hret dB_bay_83 rfl
set_option maxHeartbeats 4000000 in
theorem kB_bay_no {l : Launch} (hl : l.stackTraces = false) (d : Nat) (hd : 7 ≤ d) {pd : Int32} {si : Nat → Int32} {sa : Nat → Nat → Int32} {hv : Nat → Int32} {ha : Nat → Nat → Nat → Int32} {sl : Int32} {sc : Nat → Nat → Int32} {pl : Int32} {pa : Nat → Nat → Int32} {tl : pm_H} (a b c e f g : Int32) (hno : ¬ (¬ fw a 1 3 = 0 ∧ ¬ fw b 1 3 = 0 ∧ ¬ fw c 2 4 = 0 ∧ ¬ fw e 1 200 = 0 ∧ ¬ fw f 0 2000 = 0 ∧ ¬ fw g 0 2000 = 0)) : pm_SemX l d mB_bay [.ref 0, .int a, .int b, .int c, .int e, .int f, .int g] (cH pd si sa hv ha sl sc pl pa tl) "java/lang/IllegalArgumentException" (cH pd si sa hv ha sl sc pl pa tl) := by
  refine pm_semX hl mo_B_bay rfl rfl (Nat.le_of_ble_eq_true rfl) ?_
  have hK := pm_KX_Kd (l := l) (d := d) (h0 := (cH pd si sa hv ha sl sc pl pa tl))
  refine pm_iload_n dB_bay_0 rfl (q := 1) rfl ?_
  refine pm_iconst (x := 1) dB_bay_1 (by decide) (q := 2) rfl ?_
  refine pm_iconst (x := 3) dB_bay_2 (by decide) (q := 3) rfl ?_
  refine pm_cS3i hK (kB_within hl 0 _ _ _ _) mo_B_within st_B_within lk_B_46 dB_bay_3 (by omega) (Nat.le_of_ble_eq_true rfl) (Nat.zero_le _) (Nat.zero_le _) (q := 6) rfl ?_
  by_cases c6 : fw a 1 3 = 0
  · exact pm_xS (kB_require_no hl 6 (Nat.le_refl _) _ c6 _) mo_B_require st_B_require (pm_in2 (j := 116) rfl rfl) rfl dB_bay_6 (by omega) rfl rfl (Nat.le_of_ble_eq_true rfl)
  refine pm_cS1v hK (kB_require_ok hl 0 _ c6 _) mo_B_require st_B_require lk_B_50 dB_bay_6 (by omega) (Nat.le_of_ble_eq_true rfl) (Nat.zero_le _) (Nat.zero_le _) (q := 9) rfl ?_
  refine pm_iload_n dB_bay_9 rfl (q := 10) rfl ?_
  refine pm_iconst (x := 1) dB_bay_10 (by decide) (q := 11) rfl ?_
  refine pm_iconst (x := 3) dB_bay_11 (by decide) (q := 12) rfl ?_
  refine pm_cS3i hK (kB_within hl 0 _ _ _ _) mo_B_within st_B_within lk_B_46 dB_bay_12 (by omega) (Nat.le_of_ble_eq_true rfl) (Nat.zero_le _) (Nat.zero_le _) (q := 15) rfl ?_
  by_cases c15 : fw b 1 3 = 0
  · exact pm_xS (kB_require_no hl 6 (Nat.le_refl _) _ c15 _) mo_B_require st_B_require (pm_in2 (j := 116) rfl rfl) rfl dB_bay_15 (by omega) rfl rfl (Nat.le_of_ble_eq_true rfl)
  refine pm_cS1v hK (kB_require_ok hl 0 _ c15 _) mo_B_require st_B_require lk_B_50 dB_bay_15 (by omega) (Nat.le_of_ble_eq_true rfl) (Nat.zero_le _) (Nat.zero_le _) (q := 18) rfl ?_
  refine pm_iload_n dB_bay_18 rfl (q := 19) rfl ?_
  refine pm_iconst (x := 2) dB_bay_19 (by decide) (q := 20) rfl ?_
  refine pm_iconst (x := 4) dB_bay_20 (by decide) (q := 21) rfl ?_
  refine pm_cS3i hK (kB_within hl 0 _ _ _ _) mo_B_within st_B_within lk_B_46 dB_bay_21 (by omega) (Nat.le_of_ble_eq_true rfl) (Nat.zero_le _) (Nat.zero_le _) (q := 24) rfl ?_
  by_cases c24 : fw c 2 4 = 0
  · exact pm_xS (kB_require_no hl 6 (Nat.le_refl _) _ c24 _) mo_B_require st_B_require (pm_in2 (j := 116) rfl rfl) rfl dB_bay_24 (by omega) rfl rfl (Nat.le_of_ble_eq_true rfl)
  refine pm_cS1v hK (kB_require_ok hl 0 _ c24 _) mo_B_require st_B_require lk_B_50 dB_bay_24 (by omega) (Nat.le_of_ble_eq_true rfl) (Nat.zero_le _) (Nat.zero_le _) (q := 27) rfl ?_
  refine pm_iload dB_bay_27 rfl (q := 29) rfl ?_
  refine pm_iconst (x := 1) dB_bay_29 (by decide) (q := 30) rfl ?_
  refine pm_sipush (x := 200) dB_bay_30 (by decide) (q := 33) rfl ?_
  refine pm_cS3i hK (kB_within hl 0 _ _ _ _) mo_B_within st_B_within lk_B_46 dB_bay_33 (by omega) (Nat.le_of_ble_eq_true rfl) (Nat.zero_le _) (Nat.zero_le _) (q := 36) rfl ?_
  by_cases c36 : fw e 1 200 = 0
  · exact pm_xS (kB_require_no hl 6 (Nat.le_refl _) _ c36 _) mo_B_require st_B_require (pm_in2 (j := 116) rfl rfl) rfl dB_bay_36 (by omega) rfl rfl (Nat.le_of_ble_eq_true rfl)
  refine pm_cS1v hK (kB_require_ok hl 0 _ c36 _) mo_B_require st_B_require lk_B_50 dB_bay_36 (by omega) (Nat.le_of_ble_eq_true rfl) (Nat.zero_le _) (Nat.zero_le _) (q := 39) rfl ?_
  refine pm_iload dB_bay_39 rfl (q := 41) rfl ?_
  refine pm_iconst (x := 0) dB_bay_41 (by decide) (q := 42) rfl ?_
  refine pm_sipush (x := 2000) dB_bay_42 (by decide) (q := 45) rfl ?_
  refine pm_cS3i hK (kB_within hl 0 _ _ _ _) mo_B_within st_B_within lk_B_46 dB_bay_45 (by omega) (Nat.le_of_ble_eq_true rfl) (Nat.zero_le _) (Nat.zero_le _) (q := 48) rfl ?_
  by_cases c48 : fw f 0 2000 = 0
  · exact pm_xS (kB_require_no hl 6 (Nat.le_refl _) _ c48 _) mo_B_require st_B_require (pm_in2 (j := 116) rfl rfl) rfl dB_bay_48 (by omega) rfl rfl (Nat.le_of_ble_eq_true rfl)
  refine pm_cS1v hK (kB_require_ok hl 0 _ c48 _) mo_B_require st_B_require lk_B_50 dB_bay_48 (by omega) (Nat.le_of_ble_eq_true rfl) (Nat.zero_le _) (Nat.zero_le _) (q := 51) rfl ?_
  refine pm_iload dB_bay_51 rfl (q := 53) rfl ?_
  refine pm_iconst (x := 0) dB_bay_53 (by decide) (q := 54) rfl ?_
  refine pm_sipush (x := 2000) dB_bay_54 (by decide) (q := 57) rfl ?_
  refine pm_cS3i hK (kB_within hl 0 _ _ _ _) mo_B_within st_B_within lk_B_46 dB_bay_57 (by omega) (Nat.le_of_ble_eq_true rfl) (Nat.zero_le _) (Nat.zero_le _) (q := 60) rfl ?_
  by_cases c60 : fw g 0 2000 = 0
  · exact pm_xS (kB_require_no hl 6 (Nat.le_refl _) _ c60 _) mo_B_require st_B_require (pm_in2 (j := 116) rfl rfl) rfl dB_bay_60 (by omega) rfl rfl (Nat.le_of_ble_eq_true rfl)
  exact absurd ⟨c6, c15, c24, c36, c48, c60⟩ hno
set_option maxHeartbeats 4000000 in
theorem kB_plug_ok {l : Launch} (hl : l.stackTraces = false) (d : Nat) (hd : 3 ≤ d) {pd : Int32} {si : Nat → Int32} {sa : Nat → Nat → Int32} {hv : Nat → Int32} {ha : Nat → Nat → Nat → Int32} {sl : Int32} {sc : Nat → Nat → Int32} {pl : Int32} {pa : Nat → Nat → Int32} {tl : pm_H} (x o : Int32) (k0 : ¬ fw x 0 (si 0 - 1) = 0) (hx : vp_in x 3) : pm_Sem l d mB_plug [.ref 0, .int x, .int o] (cH pd si sa hv ha sl sc pl pa tl) none (cH 0 si (up1 sa 0 (upd (sa 0) x.toNatClampNeg (vp_nar .boolean o))) (up1 hv 0 0) (up1 ha 0 empA) 0 sc pl pa tl) := by
  refine pm_sem hl mo_B_plug rfl rfl rfl (Nat.le_of_ble_eq_true rfl) (fun K G hK hret => ?_)
  refine pm_aload_n dB_plug_0 rfl (q := 1) rfl ?_
  refine pm_get fl_B_16 dB_plug_1 rfl rfl (q := 4) rfl ?_
  refine pm_iload_n dB_plug_4 rfl (q := 5) rfl ?_
  refine pm_cV1i hK (kS_hasStack hl 1 (Nat.le_refl _) _) mo_S_hasStack im_S_hasStack se_S_hasStack lk_B_57 dB_plug_5 (by omega) (Nat.le_of_ble_eq_true rfl) (Nat.zero_le _) (Nat.zero_le _) rfl rfl rfl (q := 8) rfl ?_
  refine pm_cS1v hK (kB_require_ok hl 0 _ k0 _) mo_B_require st_B_require lk_B_50 dB_plug_8 (by omega) (Nat.le_of_ble_eq_true rfl) (Nat.zero_le _) (Nat.zero_le _) (q := 11) rfl ?_
  refine pm_aload_n dB_plug_11 rfl (q := 12) rfl ?_
  refine pm_get fl_B_16 dB_plug_12 rfl rfl (q := 15) rfl ?_
  refine pm_get fl_B_61 dB_plug_15 rfl rfl (q := 18) rfl ?_
  refine pm_iload_n dB_plug_18 rfl (q := 19) rfl ?_
  refine pm_iload_n dB_plug_19 rfl (q := 20) rfl ?_
  refine pm_zast dB_plug_20 rfl (hx) (q := 21) rfl ?_
  refine pm_heap (g := cH pd si (up1 sa 0 (upd (sa 0) x.toNatClampNeg (vp_nar .boolean o))) hv ha sl sc pl pa tl) rfl ?_
  refine pm_aload_n dB_plug_21 rfl (q := 22) rfl ?_
  refine pm_cV0v hK (kB_dropPlan hl 2 (Nat.le_refl _)) mo_B_dropPlan im_B_dropPlan se_B_dropPlan lk_B_54 dB_plug_22 (by omega) (Nat.le_of_ble_eq_true rfl) (Nat.zero_le _) (Nat.zero_le _) rfl rfl rfl (q := 25) rfl ?_
  exact pm_retV hret dB_plug_25 rfl
set_option maxHeartbeats 4000000 in
theorem kB_plug_no {l : Launch} (hl : l.stackTraces = false) (d : Nat) (hd : 7 ≤ d) {pd : Int32} {si : Nat → Int32} {sa : Nat → Nat → Int32} {hv : Nat → Int32} {ha : Nat → Nat → Nat → Int32} {sl : Int32} {sc : Nat → Nat → Int32} {pl : Int32} {pa : Nat → Nat → Int32} {tl : pm_H} (x o : Int32) (k0 : fw x 0 (si 0 - 1) = 0) : pm_SemX l d mB_plug [.ref 0, .int x, .int o] (cH pd si sa hv ha sl sc pl pa tl) "java/lang/IllegalArgumentException" (cH pd si sa hv ha sl sc pl pa tl) := by
  refine pm_semX hl mo_B_plug rfl rfl (Nat.le_of_ble_eq_true rfl) ?_
  have hK := pm_KX_Kd (l := l) (d := d) (h0 := (cH pd si sa hv ha sl sc pl pa tl))
  refine pm_aload_n dB_plug_0 rfl (q := 1) rfl ?_
  refine pm_get fl_B_16 dB_plug_1 rfl rfl (q := 4) rfl ?_
  refine pm_iload_n dB_plug_4 rfl (q := 5) rfl ?_
  refine pm_cV1i hK (kS_hasStack hl 1 (Nat.le_refl _) _) mo_S_hasStack im_S_hasStack se_S_hasStack lk_B_57 dB_plug_5 (by omega) (Nat.le_of_ble_eq_true rfl) (Nat.zero_le _) (Nat.zero_le _) rfl rfl rfl (q := 8) rfl ?_
  exact pm_xS (kB_require_no hl 6 (Nat.le_refl _) _ k0 _) mo_B_require st_B_require (pm_in2 (j := 116) rfl rfl) rfl dB_plug_8 (by omega) rfl rfl (Nat.le_of_ble_eq_true rfl)
set_option maxHeartbeats 4000000 in
theorem kB_roll_ok {l : Launch} (hl : l.stackTraces = false) (d : Nat) (hd : 3 ≤ d) {pd : Int32} {si : Nat → Int32} {sa : Nat → Nat → Int32} {hv : Nat → Int32} {ha : Nat → Nat → Nat → Int32} {sl : Int32} {sc : Nat → Nat → Int32} {pl : Int32} {pa : Nat → Nat → Int32} {tl : pm_H} (x : Int32) (k0 : ¬ fhasBox si sa x = 0) (hx : ¬ fw x 0 (si 7 - 1) = 0 → vp_in x 5) : pm_Sem l d mB_roll [.ref 0, .int x] (cH pd si sa hv ha sl sc pl pa tl) none (cH 0 si (up1 sa 5 (upd (sa 5) x.toNatClampNeg 1)) (up1 hv 0 0) (up1 ha 0 empA) 0 sc pl pa tl) := by
  refine pm_sem hl mo_B_roll rfl rfl rfl (Nat.le_of_ble_eq_true rfl) (fun K G hK hret => ?_)
  have hx5 : vp_in x 5 := hx (fun z => k0 (by rw [fhasBox, if_pos z]))
  refine pm_aload_n dB_roll_0 rfl (q := 1) rfl ?_
  refine pm_get fl_B_16 dB_roll_1 rfl rfl (q := 4) rfl ?_
  refine pm_iload_n dB_roll_4 rfl (q := 5) rfl ?_
  refine pm_cV1i hK (kS_hasBox hl 1 (Nat.le_refl _) _ hx) mo_S_hasBox im_S_hasBox se_S_hasBox lk_B_79 dB_roll_5 (by omega) (Nat.le_of_ble_eq_true rfl) (Nat.zero_le _) (Nat.zero_le _) rfl rfl rfl (q := 8) rfl ?_
  refine pm_cS1v hK (kB_require_ok hl 0 _ k0 _) mo_B_require st_B_require lk_B_50 dB_roll_8 (by omega) (Nat.le_of_ble_eq_true rfl) (Nat.zero_le _) (Nat.zero_le _) (q := 11) rfl ?_
  refine pm_aload_n dB_roll_11 rfl (q := 12) rfl ?_
  refine pm_get fl_B_16 dB_roll_12 rfl rfl (q := 15) rfl ?_
  refine pm_get fl_B_82 dB_roll_15 rfl rfl (q := 18) rfl ?_
  refine pm_iload_n dB_roll_18 rfl (q := 19) rfl ?_
  refine pm_iconst (x := 1) dB_roll_19 (by decide) (q := 20) rfl ?_
  refine pm_zast dB_roll_20 rfl (hx5) (q := 21) rfl ?_
  refine pm_heap (g := cH pd si (up1 sa 5 (upd (sa 5) x.toNatClampNeg 1)) hv ha sl sc pl pa tl) rfl ?_
  refine pm_aload_n dB_roll_21 rfl (q := 22) rfl ?_
  refine pm_cV0v hK (kB_dropPlan hl 2 (Nat.le_refl _)) mo_B_dropPlan im_B_dropPlan se_B_dropPlan lk_B_54 dB_roll_22 (by omega) (Nat.le_of_ble_eq_true rfl) (Nat.zero_le _) (Nat.zero_le _) rfl rfl rfl (q := 25) rfl ?_
  exact pm_retV hret dB_roll_25 rfl
set_option maxHeartbeats 4000000 in
theorem kB_roll_no {l : Launch} (hl : l.stackTraces = false) (d : Nat) (hd : 7 ≤ d) {pd : Int32} {si : Nat → Int32} {sa : Nat → Nat → Int32} {hv : Nat → Int32} {ha : Nat → Nat → Nat → Int32} {sl : Int32} {sc : Nat → Nat → Int32} {pl : Int32} {pa : Nat → Nat → Int32} {tl : pm_H} (x : Int32) (k0 : fhasBox si sa x = 0) (hx : ¬ fw x 0 (si 7 - 1) = 0 → vp_in x 5) : pm_SemX l d mB_roll [.ref 0, .int x] (cH pd si sa hv ha sl sc pl pa tl) "java/lang/IllegalArgumentException" (cH pd si sa hv ha sl sc pl pa tl) := by
  refine pm_semX hl mo_B_roll rfl rfl (Nat.le_of_ble_eq_true rfl) ?_
  have hK := pm_KX_Kd (l := l) (d := d) (h0 := (cH pd si sa hv ha sl sc pl pa tl))
  refine pm_aload_n dB_roll_0 rfl (q := 1) rfl ?_
  refine pm_get fl_B_16 dB_roll_1 rfl rfl (q := 4) rfl ?_
  refine pm_iload_n dB_roll_4 rfl (q := 5) rfl ?_
  refine pm_cV1i hK (kS_hasBox hl 1 (Nat.le_refl _) _ hx) mo_S_hasBox im_S_hasBox se_S_hasBox lk_B_79 dB_roll_5 (by omega) (Nat.le_of_ble_eq_true rfl) (Nat.zero_le _) (Nat.zero_le _) rfl rfl rfl (q := 8) rfl ?_
  exact pm_xS (kB_require_no hl 6 (Nat.le_refl _) _ k0 _) mo_B_require st_B_require (pm_in2 (j := 116) rfl rfl) rfl dB_roll_8 (by omega) rfl rfl (Nat.le_of_ble_eq_true rfl)
