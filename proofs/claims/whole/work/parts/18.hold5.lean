/-! a move of the script, done or not -/
theorem nI_ne_m1 {n : Nat} (h : n < 2 ^ 31) : ¬ nI n = -1 := by
  intro z
  have z2 := nI_pos h
  rw [z] at z2
  exact z2 (by decide)
set_option maxHeartbeats 4000000 in
theorem kH_does0_on_ok {l : Launch} (hl : l.stackTraces = false) (d : Nat) (hd : 4 ≤ d) {pd : Int32} {si : Nat → Int32} {sa : Nat → Nat → Int32} {hv : Nat → Int32} {ha : Nat → Nat → Nat → Int32} {sl : Int32} {sc : Nat → Nat → Int32} {pl : Int32} {pa : Nat → Nat → Int32} {tl : pm_H} (I : Nat) (hI : I < 30) (b s hh : Nat) (hb : b < 5) (hs : s < 3) (h3 : hh < 3) (hg : ha 0 1 s = nI hh) (hok : ldOk si sa (ha 0) b s) (m1 : sc 0 I = nI b) (m2 : sc 3 I = nI s) : pm_Sem l d mH_does [.ref 8, .ref 16, .int (nI I)] (cH pd si sa hv ha sl sc pl pa tl) (some (.int 1)) (cH pd si sa (up1 hv 0 (hv 0 + sa 3 b * nI (hh + 1))) (up1 ha 0 (stA (ha 0) (sa 3) s hh b)) sl sc pl pa tl) := by
  refine pm_sem hl mo_H_does ⟨_, rfl, rfl⟩ rfl rfl (Nat.le_of_ble_eq_true rfl) (fun K G hK hret => ?_)
  have hx : vp_in (nI I) 30 := vp_in_nI hI (by omega)
  have hc : (nI I).toNatClampNeg = I := nI_clamp (by omega)
  refine pm_aload_n dH_does_0 rfl (q := 1) rfl ?_
  refine pm_get fl_H_47 dH_does_1 rfl rfl (q := 4) rfl ?_
  refine pm_iload_n dH_does_4 rfl (q := 5) rfl ?_
  refine pm_ialdN dH_does_5 rfl (hI) (Nat.le_of_ble_eq_true rfl) (q := 6) rfl ?_
  refine pm_topL (y := nI b) m1 ?_
  refine pm_istore_n dH_does_6 (by decide) (q := 7) rfl ?_
  refine pm_aload_n dH_does_7 rfl (q := 8) rfl ?_
  refine pm_iload_n dH_does_8 rfl (q := 9) rfl ?_
  refine pm_cV1i hK (kT_putsOn hl 0 _ hx) mo_T_putsOn im_T_putsOn se_T_putsOn lk_H_52 dH_does_9 (by omega) (Nat.le_of_ble_eq_true rfl) (Nat.zero_le _) (Nat.zero_le _) rfl rfl rfl (q := 12) rfl ?_
  refine pm_if_eq (tgt := 29) dH_does_12 rfl (q := 15) rfl (fun z => absurd z (by rw [hc, m2]; unfold ne1; rw [if_neg (nI_ne_m1 (by omega))]; decide)) (fun _ => ?_)
  refine pm_aload_n dH_does_15 rfl (q := 16) rfl ?_
  refine pm_iload_n dH_does_16 rfl (q := 17) rfl ?_
  refine pm_aload_n dH_does_17 rfl (q := 18) rfl ?_
  refine pm_get fl_H_55 dH_does_18 rfl rfl (q := 21) rfl ?_
  refine pm_iload_n dH_does_21 rfl (q := 22) rfl ?_
  refine pm_ialdN dH_does_22 rfl (hI) (Nat.le_of_ble_eq_true rfl) (q := 23) rfl ?_
  refine pm_topL (y := nI s) m2 ?_
  refine pm_cV2i hK (kH_loads0_ok hl 3 (Nat.le_refl _) b s hh hb hs h3 hg hok) mo_H_loads im_H_loads se_H_loads lk_H_58 dH_does_23 (by omega) (Nat.le_of_ble_eq_true rfl) (Nat.zero_le _) (Nat.zero_le _) rfl rfl rfl (q := 26) rfl ?_
  refine pm_goto (tgt := 40) dH_does_26 rfl ?_
  exact pm_retI hret dH_does_40 rfl
set_option maxHeartbeats 4000000 in
theorem kH_does0_on_no {l : Launch} (hl : l.stackTraces = false) (d : Nat) (hd : 4 ≤ d) {pd : Int32} {si : Nat → Int32} {sa : Nat → Nat → Int32} {hv : Nat → Int32} {ha : Nat → Nat → Nat → Int32} {sl : Int32} {sc : Nat → Nat → Int32} {pl : Int32} {pa : Nat → Nat → Int32} {tl : pm_H} (I : Nat) (hI : I < 30) (b s : Nat) (hb : b < 5) (hs : s < 3) (hno : ¬ ldOk si sa (ha 0) b s) (m1 : sc 0 I = nI b) (m2 : sc 3 I = nI s) : pm_Sem l d mH_does [.ref 8, .ref 16, .int (nI I)] (cH pd si sa hv ha sl sc pl pa tl) (some (.int 0)) (cH pd si sa hv ha sl sc pl pa tl) := by
  refine pm_sem hl mo_H_does ⟨_, rfl, rfl⟩ rfl rfl (Nat.le_of_ble_eq_true rfl) (fun K G hK hret => ?_)
  have hx : vp_in (nI I) 30 := vp_in_nI hI (by omega)
  have hc : (nI I).toNatClampNeg = I := nI_clamp (by omega)
  refine pm_aload_n dH_does_0 rfl (q := 1) rfl ?_
  refine pm_get fl_H_47 dH_does_1 rfl rfl (q := 4) rfl ?_
  refine pm_iload_n dH_does_4 rfl (q := 5) rfl ?_
  refine pm_ialdN dH_does_5 rfl (hI) (Nat.le_of_ble_eq_true rfl) (q := 6) rfl ?_
  refine pm_topL (y := nI b) m1 ?_
  refine pm_istore_n dH_does_6 (by decide) (q := 7) rfl ?_
  refine pm_aload_n dH_does_7 rfl (q := 8) rfl ?_
  refine pm_iload_n dH_does_8 rfl (q := 9) rfl ?_
  refine pm_cV1i hK (kT_putsOn hl 0 _ hx) mo_T_putsOn im_T_putsOn se_T_putsOn lk_H_52 dH_does_9 (by omega) (Nat.le_of_ble_eq_true rfl) (Nat.zero_le _) (Nat.zero_le _) rfl rfl rfl (q := 12) rfl ?_
  refine pm_if_eq (tgt := 29) dH_does_12 rfl (q := 15) rfl (fun z => absurd z (by rw [hc, m2]; unfold ne1; rw [if_neg (nI_ne_m1 (by omega))]; decide)) (fun _ => ?_)
  refine pm_aload_n dH_does_15 rfl (q := 16) rfl ?_
  refine pm_iload_n dH_does_16 rfl (q := 17) rfl ?_
  refine pm_aload_n dH_does_17 rfl (q := 18) rfl ?_
  refine pm_get fl_H_55 dH_does_18 rfl rfl (q := 21) rfl ?_
  refine pm_iload_n dH_does_21 rfl (q := 22) rfl ?_
  refine pm_ialdN dH_does_22 rfl (hI) (Nat.le_of_ble_eq_true rfl) (q := 23) rfl ?_
  refine pm_topL (y := nI s) m2 ?_
  refine pm_cV2i hK (kH_loads0_no hl 3 (Nat.le_refl _) b s hb hs hno) mo_H_loads im_H_loads se_H_loads lk_H_58 dH_does_23 (by omega) (Nat.le_of_ble_eq_true rfl) (Nat.zero_le _) (Nat.zero_le _) rfl rfl rfl (q := 26) rfl ?_
  refine pm_goto (tgt := 40) dH_does_26 rfl ?_
  exact pm_retI hret dH_does_40 rfl
set_option maxHeartbeats 4000000 in
theorem kH_does0_off_ok {l : Launch} (hl : l.stackTraces = false) (d : Nat) (hd : 4 ≤ d) {pd : Int32} {si : Nat → Int32} {sa : Nat → Nat → Int32} {hv : Nat → Int32} {ha : Nat → Nat → Nat → Int32} {sl : Int32} {sc : Nat → Nat → Int32} {pl : Int32} {pa : Nat → Nat → Int32} {tl : pm_H} (I : Nat) (hI : I < 30) (b s hh : Nat) (hb : b < 5) (hs : s < 3) (h3 : hh < 3) (hok : ulOk si (ha 0) b s hh) (m1 : sc 0 I = nI b) (m2 : sc 3 I = -1) (m3 : sc 2 I = nI s) : pm_Sem l d mH_does [.ref 8, .ref 16, .int (nI I)] (cH pd si sa hv ha sl sc pl pa tl) (some (.int 1)) (cH pd si sa (up1 hv 0 (hv 0 - sa 3 b * nI (hh + 1))) (up1 ha 0 (unA (ha 0) (sa 3) s hh b)) sl sc pl pa tl) := by
  refine pm_sem hl mo_H_does ⟨_, rfl, rfl⟩ rfl rfl (Nat.le_of_ble_eq_true rfl) (fun K G hK hret => ?_)
  have hx : vp_in (nI I) 30 := vp_in_nI hI (by omega)
  have hc : (nI I).toNatClampNeg = I := nI_clamp (by omega)
  refine pm_aload_n dH_does_0 rfl (q := 1) rfl ?_
  refine pm_get fl_H_47 dH_does_1 rfl rfl (q := 4) rfl ?_
  refine pm_iload_n dH_does_4 rfl (q := 5) rfl ?_
  refine pm_ialdN dH_does_5 rfl (hI) (Nat.le_of_ble_eq_true rfl) (q := 6) rfl ?_
  refine pm_topL (y := nI b) m1 ?_
  refine pm_istore_n dH_does_6 (by decide) (q := 7) rfl ?_
  refine pm_aload_n dH_does_7 rfl (q := 8) rfl ?_
  refine pm_iload_n dH_does_8 rfl (q := 9) rfl ?_
  refine pm_cV1i hK (kT_putsOn hl 0 _ hx) mo_T_putsOn im_T_putsOn se_T_putsOn lk_H_52 dH_does_9 (by omega) (Nat.le_of_ble_eq_true rfl) (Nat.zero_le _) (Nat.zero_le _) rfl rfl rfl (q := 12) rfl ?_
  refine pm_if_eq (tgt := 29) dH_does_12 rfl (q := 15) rfl (fun _ => ?_) (fun z => absurd (by rw [hc, m2]; rfl) z)
  refine pm_aload_n dH_does_29 rfl (q := 30) rfl ?_
  refine pm_iload_n dH_does_30 rfl (q := 31) rfl ?_
  refine pm_aload_n dH_does_31 rfl (q := 32) rfl ?_
  refine pm_get fl_H_62 dH_does_32 rfl rfl (q := 35) rfl ?_
  refine pm_iload_n dH_does_35 rfl (q := 36) rfl ?_
  refine pm_ialdN dH_does_36 rfl (hI) (Nat.le_of_ble_eq_true rfl) (q := 37) rfl ?_
  refine pm_topL (y := nI s) m3 ?_
  refine pm_cV2i hK (kH_unloads0_ok hl 2 (Nat.le_refl _) b s hh hb hs h3 hok) mo_H_unloads im_H_unloads se_H_unloads lk_H_65 dH_does_37 (by omega) (Nat.le_of_ble_eq_true rfl) (Nat.zero_le _) (Nat.zero_le _) rfl rfl rfl (q := 40) rfl ?_
  exact pm_retI hret dH_does_40 rfl
set_option maxHeartbeats 4000000 in
theorem kH_does0_off_no {l : Launch} (hl : l.stackTraces = false) (d : Nat) (hd : 4 ≤ d) {pd : Int32} {si : Nat → Int32} {sa : Nat → Nat → Int32} {hv : Nat → Int32} {ha : Nat → Nat → Nat → Int32} {sl : Int32} {sc : Nat → Nat → Int32} {pl : Int32} {pa : Nat → Nat → Int32} {tl : pm_H} (I : Nat) (hI : I < 30) (b s k9 : Nat) (hb : b < 5) (hs : s < 3) (h3 : k9 ≤ 3) (hg : ha 0 1 s = nI k9) (hno : ∀ hh, hh < 3 → ¬ ulOk si (ha 0) b s hh) (m1 : sc 0 I = nI b) (m2 : sc 3 I = -1) (m3 : sc 2 I = nI s) : pm_Sem l d mH_does [.ref 8, .ref 16, .int (nI I)] (cH pd si sa hv ha sl sc pl pa tl) (some (.int 0)) (cH pd si sa hv ha sl sc pl pa tl) := by
  refine pm_sem hl mo_H_does ⟨_, rfl, rfl⟩ rfl rfl (Nat.le_of_ble_eq_true rfl) (fun K G hK hret => ?_)
  have hx : vp_in (nI I) 30 := vp_in_nI hI (by omega)
  have hc : (nI I).toNatClampNeg = I := nI_clamp (by omega)
  refine pm_aload_n dH_does_0 rfl (q := 1) rfl ?_
  refine pm_get fl_H_47 dH_does_1 rfl rfl (q := 4) rfl ?_
  refine pm_iload_n dH_does_4 rfl (q := 5) rfl ?_
  refine pm_ialdN dH_does_5 rfl (hI) (Nat.le_of_ble_eq_true rfl) (q := 6) rfl ?_
  refine pm_topL (y := nI b) m1 ?_
  refine pm_istore_n dH_does_6 (by decide) (q := 7) rfl ?_
  refine pm_aload_n dH_does_7 rfl (q := 8) rfl ?_
  refine pm_iload_n dH_does_8 rfl (q := 9) rfl ?_
  refine pm_cV1i hK (kT_putsOn hl 0 _ hx) mo_T_putsOn im_T_putsOn se_T_putsOn lk_H_52 dH_does_9 (by omega) (Nat.le_of_ble_eq_true rfl) (Nat.zero_le _) (Nat.zero_le _) rfl rfl rfl (q := 12) rfl ?_
  refine pm_if_eq (tgt := 29) dH_does_12 rfl (q := 15) rfl (fun _ => ?_) (fun z => absurd (by rw [hc, m2]; rfl) z)
  refine pm_aload_n dH_does_29 rfl (q := 30) rfl ?_
  refine pm_iload_n dH_does_30 rfl (q := 31) rfl ?_
  refine pm_aload_n dH_does_31 rfl (q := 32) rfl ?_
  refine pm_get fl_H_62 dH_does_32 rfl rfl (q := 35) rfl ?_
  refine pm_iload_n dH_does_35 rfl (q := 36) rfl ?_
  refine pm_ialdN dH_does_36 rfl (hI) (Nat.le_of_ble_eq_true rfl) (q := 37) rfl ?_
  refine pm_topL (y := nI s) m3 ?_
  refine pm_cV2i hK (kH_unloads0_no hl 2 (Nat.le_refl _) b s k9 hb hs h3 hg hno) mo_H_unloads im_H_unloads se_H_unloads lk_H_65 dH_does_37 (by omega) (Nat.le_of_ble_eq_true rfl) (Nat.zero_le _) (Nat.zero_le _) rfl rfl rfl (q := 40) rfl ?_
  exact pm_retI hret dH_does_40 rfl
set_option maxHeartbeats 4000000 in
theorem kH_does1_on_ok {l : Launch} (hl : l.stackTraces = false) (d : Nat) (hd : 4 ≤ d) {pd : Int32} {si : Nat → Int32} {sa : Nat → Nat → Int32} {hv : Nat → Int32} {ha : Nat → Nat → Nat → Int32} {sl : Int32} {sc : Nat → Nat → Int32} {pl : Int32} {pa : Nat → Nat → Int32} {tl : pm_H} (I : Nat) (hI : I < 30) (b s hh : Nat) (hb : b < 5) (hs : s < 3) (h3 : hh < 3) (hg : ha 1 1 s = nI hh) (hok : ldOk si sa (ha 1) b s) (m1 : sc 0 I = nI b) (m2 : sc 3 I = nI s) : pm_Sem l d mH_does [.ref 12, .ref 16, .int (nI I)] (cH pd si sa hv ha sl sc pl pa tl) (some (.int 1)) (cH pd si sa (up1 hv 1 (hv 1 + sa 3 b * nI (hh + 1))) (up1 ha 1 (stA (ha 1) (sa 3) s hh b)) sl sc pl pa tl) := by
  refine pm_sem hl mo_H_does ⟨_, rfl, rfl⟩ rfl rfl (Nat.le_of_ble_eq_true rfl) (fun K G hK hret => ?_)
  have hx : vp_in (nI I) 30 := vp_in_nI hI (by omega)
  have hc : (nI I).toNatClampNeg = I := nI_clamp (by omega)
  refine pm_aload_n dH_does_0 rfl (q := 1) rfl ?_
  refine pm_get fl_H_47 dH_does_1 rfl rfl (q := 4) rfl ?_
  refine pm_iload_n dH_does_4 rfl (q := 5) rfl ?_
  refine pm_ialdN dH_does_5 rfl (hI) (Nat.le_of_ble_eq_true rfl) (q := 6) rfl ?_
  refine pm_topL (y := nI b) m1 ?_
  refine pm_istore_n dH_does_6 (by decide) (q := 7) rfl ?_
  refine pm_aload_n dH_does_7 rfl (q := 8) rfl ?_
  refine pm_iload_n dH_does_8 rfl (q := 9) rfl ?_
  refine pm_cV1i hK (kT_putsOn hl 0 _ hx) mo_T_putsOn im_T_putsOn se_T_putsOn lk_H_52 dH_does_9 (by omega) (Nat.le_of_ble_eq_true rfl) (Nat.zero_le _) (Nat.zero_le _) rfl rfl rfl (q := 12) rfl ?_
  refine pm_if_eq (tgt := 29) dH_does_12 rfl (q := 15) rfl (fun z => absurd z (by rw [hc, m2]; unfold ne1; rw [if_neg (nI_ne_m1 (by omega))]; decide)) (fun _ => ?_)
  refine pm_aload_n dH_does_15 rfl (q := 16) rfl ?_
  refine pm_iload_n dH_does_16 rfl (q := 17) rfl ?_
  refine pm_aload_n dH_does_17 rfl (q := 18) rfl ?_
  refine pm_get fl_H_55 dH_does_18 rfl rfl (q := 21) rfl ?_
  refine pm_iload_n dH_does_21 rfl (q := 22) rfl ?_
  refine pm_ialdN dH_does_22 rfl (hI) (Nat.le_of_ble_eq_true rfl) (q := 23) rfl ?_
  refine pm_topL (y := nI s) m2 ?_
  refine pm_cV2i hK (kH_loads1_ok hl 3 (Nat.le_refl _) b s hh hb hs h3 hg hok) mo_H_loads im_H_loads se_H_loads lk_H_58 dH_does_23 (by omega) (Nat.le_of_ble_eq_true rfl) (Nat.zero_le _) (Nat.zero_le _) rfl rfl rfl (q := 26) rfl ?_
  refine pm_goto (tgt := 40) dH_does_26 rfl ?_
  exact pm_retI hret dH_does_40 rfl
set_option maxHeartbeats 4000000 in
theorem kH_does1_on_no {l : Launch} (hl : l.stackTraces = false) (d : Nat) (hd : 4 ≤ d) {pd : Int32} {si : Nat → Int32} {sa : Nat → Nat → Int32} {hv : Nat → Int32} {ha : Nat → Nat → Nat → Int32} {sl : Int32} {sc : Nat → Nat → Int32} {pl : Int32} {pa : Nat → Nat → Int32} {tl : pm_H} (I : Nat) (hI : I < 30) (b s : Nat) (hb : b < 5) (hs : s < 3) (hno : ¬ ldOk si sa (ha 1) b s) (m1 : sc 0 I = nI b) (m2 : sc 3 I = nI s) : pm_Sem l d mH_does [.ref 12, .ref 16, .int (nI I)] (cH pd si sa hv ha sl sc pl pa tl) (some (.int 0)) (cH pd si sa hv ha sl sc pl pa tl) := by
  refine pm_sem hl mo_H_does ⟨_, rfl, rfl⟩ rfl rfl (Nat.le_of_ble_eq_true rfl) (fun K G hK hret => ?_)
  have hx : vp_in (nI I) 30 := vp_in_nI hI (by omega)
  have hc : (nI I).toNatClampNeg = I := nI_clamp (by omega)
  refine pm_aload_n dH_does_0 rfl (q := 1) rfl ?_
  refine pm_get fl_H_47 dH_does_1 rfl rfl (q := 4) rfl ?_
  refine pm_iload_n dH_does_4 rfl (q := 5) rfl ?_
  refine pm_ialdN dH_does_5 rfl (hI) (Nat.le_of_ble_eq_true rfl) (q := 6) rfl ?_
  refine pm_topL (y := nI b) m1 ?_
  refine pm_istore_n dH_does_6 (by decide) (q := 7) rfl ?_
  refine pm_aload_n dH_does_7 rfl (q := 8) rfl ?_
  refine pm_iload_n dH_does_8 rfl (q := 9) rfl ?_
  refine pm_cV1i hK (kT_putsOn hl 0 _ hx) mo_T_putsOn im_T_putsOn se_T_putsOn lk_H_52 dH_does_9 (by omega) (Nat.le_of_ble_eq_true rfl) (Nat.zero_le _) (Nat.zero_le _) rfl rfl rfl (q := 12) rfl ?_
  refine pm_if_eq (tgt := 29) dH_does_12 rfl (q := 15) rfl (fun z => absurd z (by rw [hc, m2]; unfold ne1; rw [if_neg (nI_ne_m1 (by omega))]; decide)) (fun _ => ?_)
  refine pm_aload_n dH_does_15 rfl (q := 16) rfl ?_
  refine pm_iload_n dH_does_16 rfl (q := 17) rfl ?_
  refine pm_aload_n dH_does_17 rfl (q := 18) rfl ?_
  refine pm_get fl_H_55 dH_does_18 rfl rfl (q := 21) rfl ?_
  refine pm_iload_n dH_does_21 rfl (q := 22) rfl ?_
  refine pm_ialdN dH_does_22 rfl (hI) (Nat.le_of_ble_eq_true rfl) (q := 23) rfl ?_
  refine pm_topL (y := nI s) m2 ?_
  refine pm_cV2i hK (kH_loads1_no hl 3 (Nat.le_refl _) b s hb hs hno) mo_H_loads im_H_loads se_H_loads lk_H_58 dH_does_23 (by omega) (Nat.le_of_ble_eq_true rfl) (Nat.zero_le _) (Nat.zero_le _) rfl rfl rfl (q := 26) rfl ?_
  refine pm_goto (tgt := 40) dH_does_26 rfl ?_
  exact pm_retI hret dH_does_40 rfl
set_option maxHeartbeats 4000000 in
theorem kH_does1_off_ok {l : Launch} (hl : l.stackTraces = false) (d : Nat) (hd : 4 ≤ d) {pd : Int32} {si : Nat → Int32} {sa : Nat → Nat → Int32} {hv : Nat → Int32} {ha : Nat → Nat → Nat → Int32} {sl : Int32} {sc : Nat → Nat → Int32} {pl : Int32} {pa : Nat → Nat → Int32} {tl : pm_H} (I : Nat) (hI : I < 30) (b s hh : Nat) (hb : b < 5) (hs : s < 3) (h3 : hh < 3) (hok : ulOk si (ha 1) b s hh) (m1 : sc 0 I = nI b) (m2 : sc 3 I = -1) (m3 : sc 2 I = nI s) : pm_Sem l d mH_does [.ref 12, .ref 16, .int (nI I)] (cH pd si sa hv ha sl sc pl pa tl) (some (.int 1)) (cH pd si sa (up1 hv 1 (hv 1 - sa 3 b * nI (hh + 1))) (up1 ha 1 (unA (ha 1) (sa 3) s hh b)) sl sc pl pa tl) := by
  refine pm_sem hl mo_H_does ⟨_, rfl, rfl⟩ rfl rfl (Nat.le_of_ble_eq_true rfl) (fun K G hK hret => ?_)
  have hx : vp_in (nI I) 30 := vp_in_nI hI (by omega)
  have hc : (nI I).toNatClampNeg = I := nI_clamp (by omega)
  refine pm_aload_n dH_does_0 rfl (q := 1) rfl ?_
  refine pm_get fl_H_47 dH_does_1 rfl rfl (q := 4) rfl ?_
  refine pm_iload_n dH_does_4 rfl (q := 5) rfl ?_
  refine pm_ialdN dH_does_5 rfl (hI) (Nat.le_of_ble_eq_true rfl) (q := 6) rfl ?_
  refine pm_topL (y := nI b) m1 ?_
  refine pm_istore_n dH_does_6 (by decide) (q := 7) rfl ?_
  refine pm_aload_n dH_does_7 rfl (q := 8) rfl ?_
  refine pm_iload_n dH_does_8 rfl (q := 9) rfl ?_
  refine pm_cV1i hK (kT_putsOn hl 0 _ hx) mo_T_putsOn im_T_putsOn se_T_putsOn lk_H_52 dH_does_9 (by omega) (Nat.le_of_ble_eq_true rfl) (Nat.zero_le _) (Nat.zero_le _) rfl rfl rfl (q := 12) rfl ?_
  refine pm_if_eq (tgt := 29) dH_does_12 rfl (q := 15) rfl (fun _ => ?_) (fun z => absurd (by rw [hc, m2]; rfl) z)
  refine pm_aload_n dH_does_29 rfl (q := 30) rfl ?_
  refine pm_iload_n dH_does_30 rfl (q := 31) rfl ?_
  refine pm_aload_n dH_does_31 rfl (q := 32) rfl ?_
  refine pm_get fl_H_62 dH_does_32 rfl rfl (q := 35) rfl ?_
  refine pm_iload_n dH_does_35 rfl (q := 36) rfl ?_
  refine pm_ialdN dH_does_36 rfl (hI) (Nat.le_of_ble_eq_true rfl) (q := 37) rfl ?_
  refine pm_topL (y := nI s) m3 ?_
  refine pm_cV2i hK (kH_unloads1_ok hl 2 (Nat.le_refl _) b s hh hb hs h3 hok) mo_H_unloads im_H_unloads se_H_unloads lk_H_65 dH_does_37 (by omega) (Nat.le_of_ble_eq_true rfl) (Nat.zero_le _) (Nat.zero_le _) rfl rfl rfl (q := 40) rfl ?_
  exact pm_retI hret dH_does_40 rfl
set_option maxHeartbeats 4000000 in
theorem kH_does1_off_no {l : Launch} (hl : l.stackTraces = false) (d : Nat) (hd : 4 ≤ d) {pd : Int32} {si : Nat → Int32} {sa : Nat → Nat → Int32} {hv : Nat → Int32} {ha : Nat → Nat → Nat → Int32} {sl : Int32} {sc : Nat → Nat → Int32} {pl : Int32} {pa : Nat → Nat → Int32} {tl : pm_H} (I : Nat) (hI : I < 30) (b s k9 : Nat) (hb : b < 5) (hs : s < 3) (h3 : k9 ≤ 3) (hg : ha 1 1 s = nI k9) (hno : ∀ hh, hh < 3 → ¬ ulOk si (ha 1) b s hh) (m1 : sc 0 I = nI b) (m2 : sc 3 I = -1) (m3 : sc 2 I = nI s) : pm_Sem l d mH_does [.ref 12, .ref 16, .int (nI I)] (cH pd si sa hv ha sl sc pl pa tl) (some (.int 0)) (cH pd si sa hv ha sl sc pl pa tl) := by
  refine pm_sem hl mo_H_does ⟨_, rfl, rfl⟩ rfl rfl (Nat.le_of_ble_eq_true rfl) (fun K G hK hret => ?_)
  have hx : vp_in (nI I) 30 := vp_in_nI hI (by omega)
  have hc : (nI I).toNatClampNeg = I := nI_clamp (by omega)
  refine pm_aload_n dH_does_0 rfl (q := 1) rfl ?_
  refine pm_get fl_H_47 dH_does_1 rfl rfl (q := 4) rfl ?_
  refine pm_iload_n dH_does_4 rfl (q := 5) rfl ?_
  refine pm_ialdN dH_does_5 rfl (hI) (Nat.le_of_ble_eq_true rfl) (q := 6) rfl ?_
  refine pm_topL (y := nI b) m1 ?_
  refine pm_istore_n dH_does_6 (by decide) (q := 7) rfl ?_
  refine pm_aload_n dH_does_7 rfl (q := 8) rfl ?_
  refine pm_iload_n dH_does_8 rfl (q := 9) rfl ?_
  refine pm_cV1i hK (kT_putsOn hl 0 _ hx) mo_T_putsOn im_T_putsOn se_T_putsOn lk_H_52 dH_does_9 (by omega) (Nat.le_of_ble_eq_true rfl) (Nat.zero_le _) (Nat.zero_le _) rfl rfl rfl (q := 12) rfl ?_
  refine pm_if_eq (tgt := 29) dH_does_12 rfl (q := 15) rfl (fun _ => ?_) (fun z => absurd (by rw [hc, m2]; rfl) z)
  refine pm_aload_n dH_does_29 rfl (q := 30) rfl ?_
  refine pm_iload_n dH_does_30 rfl (q := 31) rfl ?_
  refine pm_aload_n dH_does_31 rfl (q := 32) rfl ?_
  refine pm_get fl_H_62 dH_does_32 rfl rfl (q := 35) rfl ?_
  refine pm_iload_n dH_does_35 rfl (q := 36) rfl ?_
  refine pm_ialdN dH_does_36 rfl (hI) (Nat.le_of_ble_eq_true rfl) (q := 37) rfl ?_
  refine pm_topL (y := nI s) m3 ?_
  refine pm_cV2i hK (kH_unloads1_no hl 2 (Nat.le_refl _) b s k9 hb hs h3 hg hno) mo_H_unloads im_H_unloads se_H_unloads lk_H_65 dH_does_37 (by omega) (Nat.le_of_ble_eq_true rfl) (Nat.zero_le _) (Nat.zero_le _) rfl rfl rfl (q := 40) rfl ?_
  exact pm_retI hret dH_does_40 rfl
