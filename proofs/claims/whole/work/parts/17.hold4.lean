/-! one move of the script on a hold -/
theorem cH_hold0 {pd : Int32} {si : Nat → Int32} {sa : Nat → Nat → Int32} {hv : Nat → Int32} {ha : Nat → Nat → Nat → Int32} {sl : Int32} {sc : Nat → Nat → Int32} {pl : Int32} {pa : Nat → Nat → Int32} {tl : pm_H} : HoldAt (cH pd si sa hv ha sl sc pl pa tl) 8 si sa (hv 0) (ha 0 0) (ha 0 1) (ha 0 2) := ⟨rfl, rfl, rfl, rfl, rfl, rfl, rfl, rfl, rfl, rfl, rfl⟩
theorem cH_hold1 {pd : Int32} {si : Nat → Int32} {sa : Nat → Nat → Int32} {hv : Nat → Int32} {ha : Nat → Nat → Nat → Int32} {sl : Int32} {sc : Nat → Nat → Int32} {pl : Int32} {pa : Nat → Nat → Int32} {tl : pm_H} : HoldAt (cH pd si sa hv ha sl sc pl pa tl) 12 si sa (hv 1) (ha 1 0) (ha 1 1) (ha 1 2) := ⟨rfl, rfl, rfl, rfl, rfl, rfl, rfl, rfl, rfl, rfl, rfl⟩
theorem cH_hold2 {pd : Int32} {si : Nat → Int32} {sa : Nat → Nat → Int32} {hv : Nat → Int32} {ha : Nat → Nat → Nat → Int32} {sl : Int32} {sc : Nat → Nat → Int32} {pl : Int32} {pa : Nat → Nat → Int32} {tl : pm_H} : HoldAt (cH pd si sa hv ha sl sc pl pa tl) 27 si sa (hv 2) (ha 2 0) (ha 2 1) (ha 2 2) := ⟨rfl, rfl, rfl, rfl, rfl, rfl, rfl, rfl, rfl, rfl, rfl⟩
theorem in3 {s : Nat} (h : s < 3) : vp_in (nI s) 3 := vp_in_nI h (by omega)
def ldOk (si : Nat → Int32) (sa A : Nat → Nat → Int32) (b s : Nat) : Prop := ¬ fhasRoom si (A 1) (nI s) = 0 ∧ fisab (A 0) (nI b) = 0 ∧ A 2 s + sa 3 b ≤ si 3
def ulOk (si : Nat → Int32) (A : Nat → Nat → Int32) (b s hh : Nat) : Prop := ¬ fw (nI s) 0 (si 0 - 1) = 0 ∧ A 1 s = nI (hh + 1) ∧ A 0 (s * 3 + hh) = nI b
set_option maxHeartbeats 4000000 in
theorem kH_loads0_ok {l : Launch} (hl : l.stackTraces = false) (d : Nat) (hd : 3 ≤ d) {pd : Int32} {si : Nat → Int32} {sa : Nat → Nat → Int32} {hv : Nat → Int32} {ha : Nat → Nat → Nat → Int32} {sl : Int32} {sc : Nat → Nat → Int32} {pl : Int32} {pa : Nat → Nat → Int32} {tl : pm_H} (b s hh : Nat) (hb : b < 5) (hs : s < 3) (h3 : hh < 3) (hg : ha 0 1 s = nI hh) (hok : ldOk si sa (ha 0) b s) : pm_Sem l d mH_loads [.ref 8, .int (nI b), .int (nI s)] (cH pd si sa hv ha sl sc pl pa tl) (some (.int 1)) (cH pd si sa (up1 hv 0 (hv 0 + sa 3 b * nI (hh + 1))) (up1 ha 0 (stA (ha 0) (sa 3) s hh b)) sl sc pl pa tl) := by
  refine pm_sem hl mo_H_loads ⟨_, rfl, rfl⟩ rfl rfl (Nat.le_of_ble_eq_true rfl) (fun K G hK hret => ?_)
  obtain ⟨k1, k2, k3⟩ := hok
  refine pm_aload_n dH_loads_0 rfl (q := 1) rfl ?_
  refine pm_iload_n dH_loads_1 rfl (q := 2) rfl ?_
  refine pm_cV1i hK (kH_hasRoom hl 2 (Nat.le_refl _) cH_hold0 _ (fun _ => in3 hs)) mo_H_hasRoom im_H_hasRoom se_H_hasRoom lk_H_68 dH_loads_2 (by omega) (Nat.le_of_ble_eq_true rfl) (Nat.zero_le _) (Nat.zero_le _) rfl rfl rfl (q := 5) rfl ?_
  refine pm_if_eq (tgt := 42) dH_loads_5 rfl (q := 8) rfl (fun z => absurd z k1) (fun _ => ?_)
  refine pm_aload_n dH_loads_8 rfl (q := 9) rfl ?_
  refine pm_iload_n dH_loads_9 rfl (q := 10) rfl ?_
  refine pm_cV1i hK (kH_isAboard hl 1 (Nat.le_refl _) cH_hold0 _) mo_H_isAboard im_H_isAboard se_H_isAboard lk_H_71 dH_loads_10 (by omega) (Nat.le_of_ble_eq_true rfl) (Nat.zero_le _) (Nat.zero_le _) rfl rfl rfl (q := 13) rfl ?_
  refine pm_if_ne (tgt := 42) dH_loads_13 rfl (q := 16) rfl (fun z => absurd k2 z) (fun _ => ?_)
  refine pm_aload_n dH_loads_16 rfl (q := 17) rfl ?_
  refine pm_get fl_H_18 dH_loads_17 rfl rfl (q := 20) rfl ?_
  refine pm_iload_n dH_loads_20 rfl (q := 21) rfl ?_
  refine pm_ialdN dH_loads_21 rfl (by omega) (Nat.le_of_ble_eq_true rfl) (q := 22) rfl ?_
  refine pm_aload_n dH_loads_22 rfl (q := 23) rfl ?_
  refine pm_get fl_H_21 dH_loads_23 rfl rfl (q := 26) rfl ?_
  refine pm_get fl_H_44 dH_loads_26 rfl rfl (q := 29) rfl ?_
  refine pm_iload_n dH_loads_29 rfl (q := 30) rfl ?_
  refine pm_ialdN dH_loads_30 rfl (by omega) (Nat.le_of_ble_eq_true rfl) (q := 31) rfl ?_
  refine pm_iadd dH_loads_31 (q := 32) rfl ?_
  refine pm_aload_n dH_loads_32 rfl (q := 33) rfl ?_
  refine pm_get fl_H_21 dH_loads_33 rfl rfl (q := 36) rfl ?_
  refine pm_get fl_H_74 dH_loads_36 rfl rfl (q := 39) rfl ?_
  refine pm_icmp_le (tgt := 44) dH_loads_39 rfl (q := 42) rfl (fun _ => ?_) (fun z => absurd k3 z)
  refine pm_aload_n dH_loads_44 rfl (q := 45) rfl ?_
  refine pm_iload_n dH_loads_45 rfl (q := 46) rfl ?_
  refine pm_iload_n dH_loads_46 rfl (q := 47) rfl ?_
  refine pm_cV2v hK (kH_stow0 hl 0 b s hh hb hs h3 hg) mo_H_stow im_H_stow se_H_stow lk_H_77 dH_loads_47 (by omega) (Nat.le_of_ble_eq_true rfl) (Nat.zero_le _) (Nat.zero_le _) rfl rfl rfl (q := 50) rfl ?_
  refine pm_iconst (x := 1) dH_loads_50 (by decide) (q := 51) rfl ?_
  exact pm_retI hret dH_loads_51 rfl
set_option maxHeartbeats 4000000 in
theorem kH_loads0_no {l : Launch} (hl : l.stackTraces = false) (d : Nat) (hd : 3 ≤ d) {pd : Int32} {si : Nat → Int32} {sa : Nat → Nat → Int32} {hv : Nat → Int32} {ha : Nat → Nat → Nat → Int32} {sl : Int32} {sc : Nat → Nat → Int32} {pl : Int32} {pa : Nat → Nat → Int32} {tl : pm_H} (b s : Nat) (hb : b < 5) (hs : s < 3) (hno : ¬ ldOk si sa (ha 0) b s) : pm_Sem l d mH_loads [.ref 8, .int (nI b), .int (nI s)] (cH pd si sa hv ha sl sc pl pa tl) (some (.int 0)) (cH pd si sa hv ha sl sc pl pa tl) := by
  refine pm_sem hl mo_H_loads ⟨_, rfl, rfl⟩ rfl rfl (Nat.le_of_ble_eq_true rfl) (fun K G hK hret => ?_)
  refine pm_aload_n dH_loads_0 rfl (q := 1) rfl ?_
  refine pm_iload_n dH_loads_1 rfl (q := 2) rfl ?_
  refine pm_cV1i hK (kH_hasRoom hl 2 (Nat.le_refl _) cH_hold0 _ (fun _ => in3 hs)) mo_H_hasRoom im_H_hasRoom se_H_hasRoom lk_H_68 dH_loads_2 (by omega) (Nat.le_of_ble_eq_true rfl) (Nat.zero_le _) (Nat.zero_le _) rfl rfl rfl (q := 5) rfl ?_
  refine pm_if_eq (tgt := 42) dH_loads_5 rfl (q := 8) rfl (fun h5 => ?_) (fun h5 => ?_)
  · refine pm_iconst (x := 0) dH_loads_42 (by decide) (q := 43) rfl ?_
    exact pm_retI hret dH_loads_43 rfl
  · refine pm_aload_n dH_loads_8 rfl (q := 9) rfl ?_
    refine pm_iload_n dH_loads_9 rfl (q := 10) rfl ?_
    refine pm_cV1i hK (kH_isAboard hl 1 (Nat.le_refl _) cH_hold0 _) mo_H_isAboard im_H_isAboard se_H_isAboard lk_H_71 dH_loads_10 (by omega) (Nat.le_of_ble_eq_true rfl) (Nat.zero_le _) (Nat.zero_le _) rfl rfl rfl (q := 13) rfl ?_
    refine pm_if_ne (tgt := 42) dH_loads_13 rfl (q := 16) rfl (fun h13 => ?_) (fun h13 => ?_)
    · refine pm_iconst (x := 0) dH_loads_42 (by decide) (q := 43) rfl ?_
      exact pm_retI hret dH_loads_43 rfl
    · refine pm_aload_n dH_loads_16 rfl (q := 17) rfl ?_
      refine pm_get fl_H_18 dH_loads_17 rfl rfl (q := 20) rfl ?_
      refine pm_iload_n dH_loads_20 rfl (q := 21) rfl ?_
      refine pm_ialdN dH_loads_21 rfl (by omega) (Nat.le_of_ble_eq_true rfl) (q := 22) rfl ?_
      refine pm_aload_n dH_loads_22 rfl (q := 23) rfl ?_
      refine pm_get fl_H_21 dH_loads_23 rfl rfl (q := 26) rfl ?_
      refine pm_get fl_H_44 dH_loads_26 rfl rfl (q := 29) rfl ?_
      refine pm_iload_n dH_loads_29 rfl (q := 30) rfl ?_
      refine pm_ialdN dH_loads_30 rfl (by omega) (Nat.le_of_ble_eq_true rfl) (q := 31) rfl ?_
      refine pm_iadd dH_loads_31 (q := 32) rfl ?_
      refine pm_aload_n dH_loads_32 rfl (q := 33) rfl ?_
      refine pm_get fl_H_21 dH_loads_33 rfl rfl (q := 36) rfl ?_
      refine pm_get fl_H_74 dH_loads_36 rfl rfl (q := 39) rfl ?_
      refine pm_icmp_le (tgt := 44) dH_loads_39 rfl (q := 42) rfl (fun z => absurd ⟨h5, h13, z⟩ hno) (fun _ => ?_)
      refine pm_iconst (x := 0) dH_loads_42 (by decide) (q := 43) rfl ?_
      exact pm_retI hret dH_loads_43 rfl
set_option maxHeartbeats 4000000 in
theorem kH_unloads0_ok {l : Launch} (hl : l.stackTraces = false) (d : Nat) (hd : 2 ≤ d) {pd : Int32} {si : Nat → Int32} {sa : Nat → Nat → Int32} {hv : Nat → Int32} {ha : Nat → Nat → Nat → Int32} {sl : Int32} {sc : Nat → Nat → Int32} {pl : Int32} {pa : Nat → Nat → Int32} {tl : pm_H} (b s hh : Nat) (hb : b < 5) (hs : s < 3) (h3 : hh < 3) (hok : ulOk si (ha 0) b s hh) : pm_Sem l d mH_unloads [.ref 8, .int (nI b), .int (nI s)] (cH pd si sa hv ha sl sc pl pa tl) (some (.int 1)) (cH pd si sa (up1 hv 0 (hv 0 - sa 3 b * nI (hh + 1))) (up1 ha 0 (unA (ha 0) (sa 3) s hh b)) sl sc pl pa tl) := by
  refine pm_sem hl mo_H_unloads ⟨_, rfl, rfl⟩ rfl rfl (Nat.le_of_ble_eq_true rfl) (fun K G hK hret => ?_)
  obtain ⟨k1, hg, k3⟩ := hok
  have hx : vp_in (nI s * 3 + nI hh) 9 := by rw [nI_st]; exact vp_in_nI (by omega) (by omega)
  have hne : ¬ ha 0 1 s = 0 := by rw [hg]; exact nI_ne0 (by omega) (by omega)
  have hbx : ha 0 0 (nI s * 3 + nI hh).toNatClampNeg = nI b := by rw [nI_st, nI_clamp (by omega)]; exact k3
  refine pm_aload_n dH_unloads_0 rfl (q := 1) rfl ?_
  refine pm_get fl_H_21 dH_unloads_1 rfl rfl (q := 4) rfl ?_
  refine pm_iload_n dH_unloads_4 rfl (q := 5) rfl ?_
  refine pm_cV1i hK (kS_hasStack hl 1 (Nat.le_refl _) _) mo_S_hasStack im_S_hasStack se_S_hasStack lk_H_35 dH_unloads_5 (by omega) (Nat.le_of_ble_eq_true rfl) (Nat.zero_le _) (Nat.zero_le _) rfl rfl rfl (q := 8) rfl ?_
  refine pm_if_eq (tgt := 37) dH_unloads_8 rfl (q := 11) rfl (fun z => absurd z k1) (fun _ => ?_)
  refine pm_aload_n dH_unloads_11 rfl (q := 12) rfl ?_
  refine pm_get fl_H_15 dH_unloads_12 rfl rfl (q := 15) rfl ?_
  refine pm_iload_n dH_unloads_15 rfl (q := 16) rfl ?_
  refine pm_ialdN dH_unloads_16 rfl (by omega) (Nat.le_of_ble_eq_true rfl) (q := 17) rfl ?_
  refine pm_if_eq (tgt := 37) dH_unloads_17 rfl (q := 20) rfl (fun z => absurd z hne) (fun _ => ?_)
  refine pm_aload_n dH_unloads_20 rfl (q := 21) rfl ?_
  refine pm_iload_n dH_unloads_21 rfl (q := 22) rfl ?_
  refine pm_aload_n dH_unloads_22 rfl (q := 23) rfl ?_
  refine pm_get fl_H_15 dH_unloads_23 rfl rfl (q := 26) rfl ?_
  refine pm_iload_n dH_unloads_26 rfl (q := 27) rfl ?_
  refine pm_ialdN dH_unloads_27 rfl (by omega) (Nat.le_of_ble_eq_true rfl) (q := 28) rfl ?_
  refine pm_iconst (x := 1) dH_unloads_28 (by decide) (q := 29) rfl ?_
  refine pm_isub dH_unloads_29 (q := 30) rfl ?_
  refine pm_topL (y := nI hh) (by rw [hg, nI_pred]) ?_
  refine pm_cV2i hK (kH_boxAt hl 0 cH_hold0 _ _ hx) mo_H_boxAt im_H_boxAt se_H_boxAt lk_H_81 dH_unloads_30 (by omega) (Nat.le_of_ble_eq_true rfl) (Nat.zero_le _) (Nat.zero_le _) rfl rfl rfl (q := 33) rfl ?_
  refine pm_iload_n dH_unloads_33 rfl (q := 34) rfl ?_
  refine pm_icmp_eq (tgt := 39) dH_unloads_34 rfl (q := 37) rfl (fun _ => ?_) (fun z => absurd hbx z)
  refine pm_aload_n dH_unloads_39 rfl (q := 40) rfl ?_
  refine pm_iload_n dH_unloads_40 rfl (q := 41) rfl ?_
  refine pm_iload_n dH_unloads_41 rfl (q := 42) rfl ?_
  refine pm_cV2v hK (kH_unstow0 hl 0 b s hh hb hs h3 hg) mo_H_unstow im_H_unstow se_H_unstow lk_H_85 dH_unloads_42 (by omega) (Nat.le_of_ble_eq_true rfl) (Nat.zero_le _) (Nat.zero_le _) rfl rfl rfl (q := 45) rfl ?_
  refine pm_iconst (x := 1) dH_unloads_45 (by decide) (q := 46) rfl ?_
  exact pm_retI hret dH_unloads_46 rfl
set_option maxHeartbeats 4000000 in
theorem kH_unloads0_no {l : Launch} (hl : l.stackTraces = false) (d : Nat) (hd : 2 ≤ d) {pd : Int32} {si : Nat → Int32} {sa : Nat → Nat → Int32} {hv : Nat → Int32} {ha : Nat → Nat → Nat → Int32} {sl : Int32} {sc : Nat → Nat → Int32} {pl : Int32} {pa : Nat → Nat → Int32} {tl : pm_H} (b s k9 : Nat) (hb : b < 5) (hs : s < 3) (h3 : k9 ≤ 3) (hg : ha 0 1 s = nI k9) (hno : ∀ hh, hh < 3 → ¬ ulOk si (ha 0) b s hh) : pm_Sem l d mH_unloads [.ref 8, .int (nI b), .int (nI s)] (cH pd si sa hv ha sl sc pl pa tl) (some (.int 0)) (cH pd si sa hv ha sl sc pl pa tl) := by
  refine pm_sem hl mo_H_unloads ⟨_, rfl, rfl⟩ rfl rfl (Nat.le_of_ble_eq_true rfl) (fun K G hK hret => ?_)
  refine pm_aload_n dH_unloads_0 rfl (q := 1) rfl ?_
  refine pm_get fl_H_21 dH_unloads_1 rfl rfl (q := 4) rfl ?_
  refine pm_iload_n dH_unloads_4 rfl (q := 5) rfl ?_
  refine pm_cV1i hK (kS_hasStack hl 1 (Nat.le_refl _) _) mo_S_hasStack im_S_hasStack se_S_hasStack lk_H_35 dH_unloads_5 (by omega) (Nat.le_of_ble_eq_true rfl) (Nat.zero_le _) (Nat.zero_le _) rfl rfl rfl (q := 8) rfl ?_
  refine pm_if_eq (tgt := 37) dH_unloads_8 rfl (q := 11) rfl (fun h8 => ?_) (fun h8 => ?_)
  · refine pm_iconst (x := 0) dH_unloads_37 (by decide) (q := 38) rfl ?_
    exact pm_retI hret dH_unloads_38 rfl
  · refine pm_aload_n dH_unloads_11 rfl (q := 12) rfl ?_
    refine pm_get fl_H_15 dH_unloads_12 rfl rfl (q := 15) rfl ?_
    refine pm_iload_n dH_unloads_15 rfl (q := 16) rfl ?_
    refine pm_ialdN dH_unloads_16 rfl (by omega) (Nat.le_of_ble_eq_true rfl) (q := 17) rfl ?_
    refine pm_if_eq (tgt := 37) dH_unloads_17 rfl (q := 20) rfl (fun h17 => ?_) (fun h17 => ?_)
    · refine pm_iconst (x := 0) dH_unloads_37 (by decide) (q := 38) rfl ?_
      exact pm_retI hret dH_unloads_38 rfl
    · cases k9 with
      | zero => exact absurd (by rw [hg]; rfl) h17
      | succ hh =>
        have hx : vp_in (nI s * 3 + nI hh) 9 := by rw [nI_st]; exact vp_in_nI (by omega) (by omega)
        have hbx : ha 0 0 (nI s * 3 + nI hh).toNatClampNeg = ha 0 0 (s * 3 + hh) := by rw [nI_st, nI_clamp (by omega)]
        refine pm_aload_n dH_unloads_20 rfl (q := 21) rfl ?_
        refine pm_iload_n dH_unloads_21 rfl (q := 22) rfl ?_
        refine pm_aload_n dH_unloads_22 rfl (q := 23) rfl ?_
        refine pm_get fl_H_15 dH_unloads_23 rfl rfl (q := 26) rfl ?_
        refine pm_iload_n dH_unloads_26 rfl (q := 27) rfl ?_
        refine pm_ialdN dH_unloads_27 rfl (by omega) (Nat.le_of_ble_eq_true rfl) (q := 28) rfl ?_
        refine pm_iconst (x := 1) dH_unloads_28 (by decide) (q := 29) rfl ?_
        refine pm_isub dH_unloads_29 (q := 30) rfl ?_
        refine pm_topL (y := nI hh) (by rw [hg, nI_pred]) ?_
        refine pm_cV2i hK (kH_boxAt hl 0 cH_hold0 _ _ hx) mo_H_boxAt im_H_boxAt se_H_boxAt lk_H_81 dH_unloads_30 (by omega) (Nat.le_of_ble_eq_true rfl) (Nat.zero_le _) (Nat.zero_le _) rfl rfl rfl (q := 33) rfl ?_
        refine pm_iload_n dH_unloads_33 rfl (q := 34) rfl ?_
        refine pm_icmp_eq (tgt := 39) dH_unloads_34 rfl (q := 37) rfl (fun z => absurd ⟨h8, hg, hbx.symm.trans z⟩ (hno hh (by omega))) (fun _ => ?_)
        refine pm_iconst (x := 0) dH_unloads_37 (by decide) (q := 38) rfl ?_
        exact pm_retI hret dH_unloads_38 rfl
set_option maxHeartbeats 4000000 in
theorem kH_loads1_ok {l : Launch} (hl : l.stackTraces = false) (d : Nat) (hd : 3 ≤ d) {pd : Int32} {si : Nat → Int32} {sa : Nat → Nat → Int32} {hv : Nat → Int32} {ha : Nat → Nat → Nat → Int32} {sl : Int32} {sc : Nat → Nat → Int32} {pl : Int32} {pa : Nat → Nat → Int32} {tl : pm_H} (b s hh : Nat) (hb : b < 5) (hs : s < 3) (h3 : hh < 3) (hg : ha 1 1 s = nI hh) (hok : ldOk si sa (ha 1) b s) : pm_Sem l d mH_loads [.ref 12, .int (nI b), .int (nI s)] (cH pd si sa hv ha sl sc pl pa tl) (some (.int 1)) (cH pd si sa (up1 hv 1 (hv 1 + sa 3 b * nI (hh + 1))) (up1 ha 1 (stA (ha 1) (sa 3) s hh b)) sl sc pl pa tl) := by
  refine pm_sem hl mo_H_loads ⟨_, rfl, rfl⟩ rfl rfl (Nat.le_of_ble_eq_true rfl) (fun K G hK hret => ?_)
  obtain ⟨k1, k2, k3⟩ := hok
  refine pm_aload_n dH_loads_0 rfl (q := 1) rfl ?_
  refine pm_iload_n dH_loads_1 rfl (q := 2) rfl ?_
  refine pm_cV1i hK (kH_hasRoom hl 2 (Nat.le_refl _) cH_hold1 _ (fun _ => in3 hs)) mo_H_hasRoom im_H_hasRoom se_H_hasRoom lk_H_68 dH_loads_2 (by omega) (Nat.le_of_ble_eq_true rfl) (Nat.zero_le _) (Nat.zero_le _) rfl rfl rfl (q := 5) rfl ?_
  refine pm_if_eq (tgt := 42) dH_loads_5 rfl (q := 8) rfl (fun z => absurd z k1) (fun _ => ?_)
  refine pm_aload_n dH_loads_8 rfl (q := 9) rfl ?_
  refine pm_iload_n dH_loads_9 rfl (q := 10) rfl ?_
  refine pm_cV1i hK (kH_isAboard hl 1 (Nat.le_refl _) cH_hold1 _) mo_H_isAboard im_H_isAboard se_H_isAboard lk_H_71 dH_loads_10 (by omega) (Nat.le_of_ble_eq_true rfl) (Nat.zero_le _) (Nat.zero_le _) rfl rfl rfl (q := 13) rfl ?_
  refine pm_if_ne (tgt := 42) dH_loads_13 rfl (q := 16) rfl (fun z => absurd k2 z) (fun _ => ?_)
  refine pm_aload_n dH_loads_16 rfl (q := 17) rfl ?_
  refine pm_get fl_H_18 dH_loads_17 rfl rfl (q := 20) rfl ?_
  refine pm_iload_n dH_loads_20 rfl (q := 21) rfl ?_
  refine pm_ialdN dH_loads_21 rfl (by omega) (Nat.le_of_ble_eq_true rfl) (q := 22) rfl ?_
  refine pm_aload_n dH_loads_22 rfl (q := 23) rfl ?_
  refine pm_get fl_H_21 dH_loads_23 rfl rfl (q := 26) rfl ?_
  refine pm_get fl_H_44 dH_loads_26 rfl rfl (q := 29) rfl ?_
  refine pm_iload_n dH_loads_29 rfl (q := 30) rfl ?_
  refine pm_ialdN dH_loads_30 rfl (by omega) (Nat.le_of_ble_eq_true rfl) (q := 31) rfl ?_
  refine pm_iadd dH_loads_31 (q := 32) rfl ?_
  refine pm_aload_n dH_loads_32 rfl (q := 33) rfl ?_
  refine pm_get fl_H_21 dH_loads_33 rfl rfl (q := 36) rfl ?_
  refine pm_get fl_H_74 dH_loads_36 rfl rfl (q := 39) rfl ?_
  refine pm_icmp_le (tgt := 44) dH_loads_39 rfl (q := 42) rfl (fun _ => ?_) (fun z => absurd k3 z)
  refine pm_aload_n dH_loads_44 rfl (q := 45) rfl ?_
  refine pm_iload_n dH_loads_45 rfl (q := 46) rfl ?_
  refine pm_iload_n dH_loads_46 rfl (q := 47) rfl ?_
  refine pm_cV2v hK (kH_stow1 hl 0 b s hh hb hs h3 hg) mo_H_stow im_H_stow se_H_stow lk_H_77 dH_loads_47 (by omega) (Nat.le_of_ble_eq_true rfl) (Nat.zero_le _) (Nat.zero_le _) rfl rfl rfl (q := 50) rfl ?_
  refine pm_iconst (x := 1) dH_loads_50 (by decide) (q := 51) rfl ?_
  exact pm_retI hret dH_loads_51 rfl
set_option maxHeartbeats 4000000 in
theorem kH_loads1_no {l : Launch} (hl : l.stackTraces = false) (d : Nat) (hd : 3 ≤ d) {pd : Int32} {si : Nat → Int32} {sa : Nat → Nat → Int32} {hv : Nat → Int32} {ha : Nat → Nat → Nat → Int32} {sl : Int32} {sc : Nat → Nat → Int32} {pl : Int32} {pa : Nat → Nat → Int32} {tl : pm_H} (b s : Nat) (hb : b < 5) (hs : s < 3) (hno : ¬ ldOk si sa (ha 1) b s) : pm_Sem l d mH_loads [.ref 12, .int (nI b), .int (nI s)] (cH pd si sa hv ha sl sc pl pa tl) (some (.int 0)) (cH pd si sa hv ha sl sc pl pa tl) := by
  refine pm_sem hl mo_H_loads ⟨_, rfl, rfl⟩ rfl rfl (Nat.le_of_ble_eq_true rfl) (fun K G hK hret => ?_)
  refine pm_aload_n dH_loads_0 rfl (q := 1) rfl ?_
  refine pm_iload_n dH_loads_1 rfl (q := 2) rfl ?_
  refine pm_cV1i hK (kH_hasRoom hl 2 (Nat.le_refl _) cH_hold1 _ (fun _ => in3 hs)) mo_H_hasRoom im_H_hasRoom se_H_hasRoom lk_H_68 dH_loads_2 (by omega) (Nat.le_of_ble_eq_true rfl) (Nat.zero_le _) (Nat.zero_le _) rfl rfl rfl (q := 5) rfl ?_
  refine pm_if_eq (tgt := 42) dH_loads_5 rfl (q := 8) rfl (fun h5 => ?_) (fun h5 => ?_)
  · refine pm_iconst (x := 0) dH_loads_42 (by decide) (q := 43) rfl ?_
    exact pm_retI hret dH_loads_43 rfl
  · refine pm_aload_n dH_loads_8 rfl (q := 9) rfl ?_
    refine pm_iload_n dH_loads_9 rfl (q := 10) rfl ?_
    refine pm_cV1i hK (kH_isAboard hl 1 (Nat.le_refl _) cH_hold1 _) mo_H_isAboard im_H_isAboard se_H_isAboard lk_H_71 dH_loads_10 (by omega) (Nat.le_of_ble_eq_true rfl) (Nat.zero_le _) (Nat.zero_le _) rfl rfl rfl (q := 13) rfl ?_
    refine pm_if_ne (tgt := 42) dH_loads_13 rfl (q := 16) rfl (fun h13 => ?_) (fun h13 => ?_)
    · refine pm_iconst (x := 0) dH_loads_42 (by decide) (q := 43) rfl ?_
      exact pm_retI hret dH_loads_43 rfl
    · refine pm_aload_n dH_loads_16 rfl (q := 17) rfl ?_
      refine pm_get fl_H_18 dH_loads_17 rfl rfl (q := 20) rfl ?_
      refine pm_iload_n dH_loads_20 rfl (q := 21) rfl ?_
      refine pm_ialdN dH_loads_21 rfl (by omega) (Nat.le_of_ble_eq_true rfl) (q := 22) rfl ?_
      refine pm_aload_n dH_loads_22 rfl (q := 23) rfl ?_
      refine pm_get fl_H_21 dH_loads_23 rfl rfl (q := 26) rfl ?_
      refine pm_get fl_H_44 dH_loads_26 rfl rfl (q := 29) rfl ?_
      refine pm_iload_n dH_loads_29 rfl (q := 30) rfl ?_
      refine pm_ialdN dH_loads_30 rfl (by omega) (Nat.le_of_ble_eq_true rfl) (q := 31) rfl ?_
      refine pm_iadd dH_loads_31 (q := 32) rfl ?_
      refine pm_aload_n dH_loads_32 rfl (q := 33) rfl ?_
      refine pm_get fl_H_21 dH_loads_33 rfl rfl (q := 36) rfl ?_
      refine pm_get fl_H_74 dH_loads_36 rfl rfl (q := 39) rfl ?_
      refine pm_icmp_le (tgt := 44) dH_loads_39 rfl (q := 42) rfl (fun z => absurd ⟨h5, h13, z⟩ hno) (fun _ => ?_)
      refine pm_iconst (x := 0) dH_loads_42 (by decide) (q := 43) rfl ?_
      exact pm_retI hret dH_loads_43 rfl
set_option maxHeartbeats 4000000 in
theorem kH_unloads1_ok {l : Launch} (hl : l.stackTraces = false) (d : Nat) (hd : 2 ≤ d) {pd : Int32} {si : Nat → Int32} {sa : Nat → Nat → Int32} {hv : Nat → Int32} {ha : Nat → Nat → Nat → Int32} {sl : Int32} {sc : Nat → Nat → Int32} {pl : Int32} {pa : Nat → Nat → Int32} {tl : pm_H} (b s hh : Nat) (hb : b < 5) (hs : s < 3) (h3 : hh < 3) (hok : ulOk si (ha 1) b s hh) : pm_Sem l d mH_unloads [.ref 12, .int (nI b), .int (nI s)] (cH pd si sa hv ha sl sc pl pa tl) (some (.int 1)) (cH pd si sa (up1 hv 1 (hv 1 - sa 3 b * nI (hh + 1))) (up1 ha 1 (unA (ha 1) (sa 3) s hh b)) sl sc pl pa tl) := by
  refine pm_sem hl mo_H_unloads ⟨_, rfl, rfl⟩ rfl rfl (Nat.le_of_ble_eq_true rfl) (fun K G hK hret => ?_)
  obtain ⟨k1, hg, k3⟩ := hok
  have hx : vp_in (nI s * 3 + nI hh) 9 := by rw [nI_st]; exact vp_in_nI (by omega) (by omega)
  have hne : ¬ ha 1 1 s = 0 := by rw [hg]; exact nI_ne0 (by omega) (by omega)
  have hbx : ha 1 0 (nI s * 3 + nI hh).toNatClampNeg = nI b := by rw [nI_st, nI_clamp (by omega)]; exact k3
  refine pm_aload_n dH_unloads_0 rfl (q := 1) rfl ?_
  refine pm_get fl_H_21 dH_unloads_1 rfl rfl (q := 4) rfl ?_
  refine pm_iload_n dH_unloads_4 rfl (q := 5) rfl ?_
  refine pm_cV1i hK (kS_hasStack hl 1 (Nat.le_refl _) _) mo_S_hasStack im_S_hasStack se_S_hasStack lk_H_35 dH_unloads_5 (by omega) (Nat.le_of_ble_eq_true rfl) (Nat.zero_le _) (Nat.zero_le _) rfl rfl rfl (q := 8) rfl ?_
  refine pm_if_eq (tgt := 37) dH_unloads_8 rfl (q := 11) rfl (fun z => absurd z k1) (fun _ => ?_)
  refine pm_aload_n dH_unloads_11 rfl (q := 12) rfl ?_
  refine pm_get fl_H_15 dH_unloads_12 rfl rfl (q := 15) rfl ?_
  refine pm_iload_n dH_unloads_15 rfl (q := 16) rfl ?_
  refine pm_ialdN dH_unloads_16 rfl (by omega) (Nat.le_of_ble_eq_true rfl) (q := 17) rfl ?_
  refine pm_if_eq (tgt := 37) dH_unloads_17 rfl (q := 20) rfl (fun z => absurd z hne) (fun _ => ?_)
  refine pm_aload_n dH_unloads_20 rfl (q := 21) rfl ?_
  refine pm_iload_n dH_unloads_21 rfl (q := 22) rfl ?_
  refine pm_aload_n dH_unloads_22 rfl (q := 23) rfl ?_
  refine pm_get fl_H_15 dH_unloads_23 rfl rfl (q := 26) rfl ?_
  refine pm_iload_n dH_unloads_26 rfl (q := 27) rfl ?_
  refine pm_ialdN dH_unloads_27 rfl (by omega) (Nat.le_of_ble_eq_true rfl) (q := 28) rfl ?_
  refine pm_iconst (x := 1) dH_unloads_28 (by decide) (q := 29) rfl ?_
  refine pm_isub dH_unloads_29 (q := 30) rfl ?_
  refine pm_topL (y := nI hh) (by rw [hg, nI_pred]) ?_
  refine pm_cV2i hK (kH_boxAt hl 0 cH_hold1 _ _ hx) mo_H_boxAt im_H_boxAt se_H_boxAt lk_H_81 dH_unloads_30 (by omega) (Nat.le_of_ble_eq_true rfl) (Nat.zero_le _) (Nat.zero_le _) rfl rfl rfl (q := 33) rfl ?_
  refine pm_iload_n dH_unloads_33 rfl (q := 34) rfl ?_
  refine pm_icmp_eq (tgt := 39) dH_unloads_34 rfl (q := 37) rfl (fun _ => ?_) (fun z => absurd hbx z)
  refine pm_aload_n dH_unloads_39 rfl (q := 40) rfl ?_
  refine pm_iload_n dH_unloads_40 rfl (q := 41) rfl ?_
  refine pm_iload_n dH_unloads_41 rfl (q := 42) rfl ?_
  refine pm_cV2v hK (kH_unstow1 hl 0 b s hh hb hs h3 hg) mo_H_unstow im_H_unstow se_H_unstow lk_H_85 dH_unloads_42 (by omega) (Nat.le_of_ble_eq_true rfl) (Nat.zero_le _) (Nat.zero_le _) rfl rfl rfl (q := 45) rfl ?_
  refine pm_iconst (x := 1) dH_unloads_45 (by decide) (q := 46) rfl ?_
  exact pm_retI hret dH_unloads_46 rfl
set_option maxHeartbeats 4000000 in
theorem kH_unloads1_no {l : Launch} (hl : l.stackTraces = false) (d : Nat) (hd : 2 ≤ d) {pd : Int32} {si : Nat → Int32} {sa : Nat → Nat → Int32} {hv : Nat → Int32} {ha : Nat → Nat → Nat → Int32} {sl : Int32} {sc : Nat → Nat → Int32} {pl : Int32} {pa : Nat → Nat → Int32} {tl : pm_H} (b s k9 : Nat) (hb : b < 5) (hs : s < 3) (h3 : k9 ≤ 3) (hg : ha 1 1 s = nI k9) (hno : ∀ hh, hh < 3 → ¬ ulOk si (ha 1) b s hh) : pm_Sem l d mH_unloads [.ref 12, .int (nI b), .int (nI s)] (cH pd si sa hv ha sl sc pl pa tl) (some (.int 0)) (cH pd si sa hv ha sl sc pl pa tl) := by
  refine pm_sem hl mo_H_unloads ⟨_, rfl, rfl⟩ rfl rfl (Nat.le_of_ble_eq_true rfl) (fun K G hK hret => ?_)
  refine pm_aload_n dH_unloads_0 rfl (q := 1) rfl ?_
  refine pm_get fl_H_21 dH_unloads_1 rfl rfl (q := 4) rfl ?_
  refine pm_iload_n dH_unloads_4 rfl (q := 5) rfl ?_
  refine pm_cV1i hK (kS_hasStack hl 1 (Nat.le_refl _) _) mo_S_hasStack im_S_hasStack se_S_hasStack lk_H_35 dH_unloads_5 (by omega) (Nat.le_of_ble_eq_true rfl) (Nat.zero_le _) (Nat.zero_le _) rfl rfl rfl (q := 8) rfl ?_
  refine pm_if_eq (tgt := 37) dH_unloads_8 rfl (q := 11) rfl (fun h8 => ?_) (fun h8 => ?_)
  · refine pm_iconst (x := 0) dH_unloads_37 (by decide) (q := 38) rfl ?_
    exact pm_retI hret dH_unloads_38 rfl
  · refine pm_aload_n dH_unloads_11 rfl (q := 12) rfl ?_
    refine pm_get fl_H_15 dH_unloads_12 rfl rfl (q := 15) rfl ?_
    refine pm_iload_n dH_unloads_15 rfl (q := 16) rfl ?_
    refine pm_ialdN dH_unloads_16 rfl (by omega) (Nat.le_of_ble_eq_true rfl) (q := 17) rfl ?_
    refine pm_if_eq (tgt := 37) dH_unloads_17 rfl (q := 20) rfl (fun h17 => ?_) (fun h17 => ?_)
    · refine pm_iconst (x := 0) dH_unloads_37 (by decide) (q := 38) rfl ?_
      exact pm_retI hret dH_unloads_38 rfl
    · cases k9 with
      | zero => exact absurd (by rw [hg]; rfl) h17
      | succ hh =>
        have hx : vp_in (nI s * 3 + nI hh) 9 := by rw [nI_st]; exact vp_in_nI (by omega) (by omega)
        have hbx : ha 1 0 (nI s * 3 + nI hh).toNatClampNeg = ha 1 0 (s * 3 + hh) := by rw [nI_st, nI_clamp (by omega)]
        refine pm_aload_n dH_unloads_20 rfl (q := 21) rfl ?_
        refine pm_iload_n dH_unloads_21 rfl (q := 22) rfl ?_
        refine pm_aload_n dH_unloads_22 rfl (q := 23) rfl ?_
        refine pm_get fl_H_15 dH_unloads_23 rfl rfl (q := 26) rfl ?_
        refine pm_iload_n dH_unloads_26 rfl (q := 27) rfl ?_
        refine pm_ialdN dH_unloads_27 rfl (by omega) (Nat.le_of_ble_eq_true rfl) (q := 28) rfl ?_
        refine pm_iconst (x := 1) dH_unloads_28 (by decide) (q := 29) rfl ?_
        refine pm_isub dH_unloads_29 (q := 30) rfl ?_
        refine pm_topL (y := nI hh) (by rw [hg, nI_pred]) ?_
        refine pm_cV2i hK (kH_boxAt hl 0 cH_hold1 _ _ hx) mo_H_boxAt im_H_boxAt se_H_boxAt lk_H_81 dH_unloads_30 (by omega) (Nat.le_of_ble_eq_true rfl) (Nat.zero_le _) (Nat.zero_le _) rfl rfl rfl (q := 33) rfl ?_
        refine pm_iload_n dH_unloads_33 rfl (q := 34) rfl ?_
        refine pm_icmp_eq (tgt := 39) dH_unloads_34 rfl (q := 37) rfl (fun z => absurd ⟨h8, hg, hbx.symm.trans z⟩ (hno hh (by omega))) (fun _ => ?_)
        refine pm_iconst (x := 0) dH_unloads_37 (by decide) (q := 38) rfl ?_
        exact pm_retI hret dH_unloads_38 rfl
