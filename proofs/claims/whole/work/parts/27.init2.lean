/-! the constructors of the planner and of the system -/
set_option maxRecDepth 4000 in
set_option maxHeartbeats 8000000 in
theorem kP_init {l : Launch} (hl : l.stackTraces = false) (d : Nat) (hd : 2 ≤ d) : pm_SemN l d 9 4061 mP_init [.ref 21, .ref 1] (hp21 ++ [dc4]) (hp21 ++ plC (.ref 27) ++ hdC 27) := by
  refine pm_semN hl mo_P_init rfl rfl rfl (Nat.le_of_ble_eq_true rfl) (fun K G hK hSt hret => ?_)
  refine pm_aload_n dP_init_0 rfl (q := 1) rfl ?_
  refine pm_obj hK (by omega) oj_P oj_i oj_c dP_init_1 (Nat.le_of_ble_eq_true rfl) (q := 4) rfl ?_
  refine pm_aload_n dP_init_4 rfl (q := 5) rfl ?_
  refine pm_sipush (x := 2016) dP_init_5 (by decide) (q := 8) rfl ?_
  refine pm_newa hK (Or.inl ⟨rfl, rfl⟩) ac_I dP_init_8 (by decide) rfl (by decide) hSt (Nat.le_of_ble_eq_true rfl) (Nat.le_of_ble_eq_true rfl) rfl rfl rfl (Nat.le_of_ble_eq_true rfl) (Nat.le_of_ble_eq_true rfl) (q := 10) rfl rfl ?_
  refine pm_putF fp_P_11 rfl dP_init_10 rfl (Nat.le_of_ble_eq_true rfl) (fun _ => rfl) (fun _ => rfl) (q := 13) rfl ?_
  refine pm_aload_n dP_init_13 rfl (q := 14) rfl ?_
  refine pm_sipush (x := 2016) dP_init_14 (by decide) (q := 17) rfl ?_
  refine pm_newa hK (Or.inl ⟨rfl, rfl⟩) ac_I dP_init_17 (by decide) rfl (by decide) hSt (Nat.le_of_ble_eq_true rfl) (Nat.le_of_ble_eq_true rfl) rfl rfl rfl (Nat.le_of_ble_eq_true rfl) (Nat.le_of_ble_eq_true rfl) (q := 19) rfl rfl ?_
  refine pm_putF fp_P_15 rfl dP_init_19 rfl (Nat.le_of_ble_eq_true rfl) (fun _ => rfl) (fun _ => rfl) (q := 22) rfl ?_
  refine pm_aload_n dP_init_22 rfl (q := 23) rfl ?_
  refine pm_iconst (x := 3) dP_init_23 (by decide) (q := 24) rfl ?_
  refine pm_newa hK (Or.inl ⟨rfl, rfl⟩) ac_I dP_init_24 (by decide) rfl (by decide) hSt (Nat.le_of_ble_eq_true rfl) (Nat.le_of_ble_eq_true rfl) rfl rfl rfl (Nat.le_of_ble_eq_true rfl) (Nat.le_of_ble_eq_true rfl) (q := 26) rfl rfl ?_
  refine pm_putF fp_P_18 rfl dP_init_26 rfl (Nat.le_of_ble_eq_true rfl) (fun _ => rfl) (fun _ => rfl) (q := 29) rfl ?_
  refine pm_aload_n dP_init_29 rfl (q := 30) rfl ?_
  refine pm_iconst (x := 3) dP_init_30 (by decide) (q := 31) rfl ?_
  refine pm_newa hK (Or.inl ⟨rfl, rfl⟩) ac_I dP_init_31 (by decide) rfl (by decide) hSt (Nat.le_of_ble_eq_true rfl) (Nat.le_of_ble_eq_true rfl) rfl rfl rfl (Nat.le_of_ble_eq_true rfl) (Nat.le_of_ble_eq_true rfl) (q := 33) rfl rfl ?_
  refine pm_putF fp_P_21 rfl dP_init_33 rfl (Nat.le_of_ble_eq_true rfl) (fun _ => rfl) (fun _ => rfl) (q := 36) rfl ?_
  refine pm_aload_n dP_init_36 rfl (q := 37) rfl ?_
  refine pm_iconst (x := 3) dP_init_37 (by decide) (q := 38) rfl ?_
  refine pm_newa hK (Or.inl ⟨rfl, rfl⟩) ac_I dP_init_38 (by decide) rfl (by decide) hSt (Nat.le_of_ble_eq_true rfl) (Nat.le_of_ble_eq_true rfl) rfl rfl rfl (Nat.le_of_ble_eq_true rfl) (Nat.le_of_ble_eq_true rfl) (q := 40) rfl rfl ?_
  refine pm_putF fp_P_24 rfl dP_init_40 rfl (Nat.le_of_ble_eq_true rfl) (fun _ => rfl) (fun _ => rfl) (q := 43) rfl ?_
  refine pm_aload_n dP_init_43 rfl (q := 44) rfl ?_
  refine pm_aload_n dP_init_44 rfl (q := 45) rfl ?_
  refine pm_putF fp_P_27 rfl dP_init_45 rfl (Nat.le_of_ble_eq_true rfl) (fun _ => rfl) (fun _ => rfl) (q := 48) rfl ?_
  refine pm_aload_n dP_init_48 rfl (q := 49) rfl ?_
  refine pm_new hK nw_P_31 dP_init_49 hSt (Nat.le_of_ble_eq_true rfl) (Nat.le_of_ble_eq_true rfl) rfl rfl rfl (Nat.le_of_ble_eq_true rfl) (Nat.le_of_ble_eq_true rfl) (q := 52) rfl rfl ?_
  refine pm_dup dP_init_52 rfl (q := 53) rfl ?_
  refine pm_aload_n dP_init_53 rfl (q := 54) rfl ?_
  refine pm_heap (g := hp21 ++ plC .null ++ [dc2]) rfl ?_
  refine pm_cI (as := [.ref 1]) hK hSt (kH_init27 hl 1 (Nat.le_refl _)) mo_H_init im_H_init rfl rfl lk_P_33 dP_init_54 (by omega) rfl rfl (Nat.le_of_ble_eq_true rfl) (Nat.le_of_ble_eq_true rfl) (Nat.le_of_ble_eq_true rfl) (Nat.le_of_ble_eq_true rfl) (Nat.le_of_ble_eq_true rfl) rfl rfl (q := 57) rfl ?_
  refine pm_putF fp_P_36 rfl dP_init_57 rfl (Nat.le_of_ble_eq_true rfl) (fun _ => rfl) (fun _ => rfl) (q := 60) rfl ?_
  exact hret _ _ dP_init_60
abbrev hpB : pm_H := b1 (.ref 1) (.ref 8) (.ref 12) (.ref 16) (.ref 21) :: sh1 ++ hdC 8 ++ hdC 12 ++ scC ++ plC (.ref 27) ++ hdC 27
set_option maxRecDepth 4000 in
set_option maxHeartbeats 8000000 in
theorem kB_init {l : Launch} (hl : l.stackTraces = false) (d : Nat) (hd : 3 ≤ d) : pm_SemN l d 30 4275 mB_init [.ref 0] [dc0] hpB := by
  refine pm_semN hl mo_B_init rfl rfl rfl (Nat.le_of_ble_eq_true rfl) (fun K G hK hSt hret => ?_)
  refine pm_aload_n dB_init_0 rfl (q := 1) rfl ?_
  refine pm_obj hK (by omega) oj_B oj_i oj_c dB_init_1 (Nat.le_of_ble_eq_true rfl) (q := 4) rfl ?_
  refine pm_new hK nw_B_9 dB_init_4 hSt (Nat.le_of_ble_eq_true rfl) (Nat.le_of_ble_eq_true rfl) rfl rfl rfl (Nat.le_of_ble_eq_true rfl) (Nat.le_of_ble_eq_true rfl) (q := 7) rfl rfl ?_
  refine pm_dup dB_init_7 rfl (q := 8) rfl ?_
  refine pm_heap (g := [dc0, dc1]) rfl ?_
  refine pm_cI (as := []) hK hSt (kS_init hl 1 (Nat.le_refl _)) mo_S_init im_S_init rfl rfl lk_B_11 dB_init_8 (by omega) rfl rfl (Nat.le_of_ble_eq_true rfl) (Nat.le_of_ble_eq_true rfl) (Nat.le_of_ble_eq_true rfl) (Nat.le_of_ble_eq_true rfl) (Nat.le_of_ble_eq_true rfl) rfl rfl (q := 11) rfl ?_
  refine pm_astore_n dB_init_11 (by decide) (q := 12) rfl ?_
  refine pm_aload_n dB_init_12 rfl (q := 13) rfl ?_
  refine pm_iconst (x := 2) dB_init_13 (by decide) (q := 14) rfl ?_
  refine pm_iconst (x := 2) dB_init_14 (by decide) (q := 15) rfl ?_
  refine pm_iconst (x := 3) dB_init_15 (by decide) (q := 16) rfl ?_
  refine pm_bipush (x := 100) dB_init_16 (by decide) (q := 18) rfl ?_
  refine pm_sipush (x := 1000) dB_init_18 (by decide) (q := 21) rfl ?_
  refine pm_sipush (x := 1000) dB_init_21 (by decide) (q := 24) rfl ?_
  refine pm_heap (g := dc0 :: shC zf 0 0 0 0 0 0) rfl ?_
  refine pm_cV6v hK (kS_refitG hl 0 _ _ _ _ _ _ _ _ _ _ _ _ _) mo_S_refit im_S_refit se_S_refit lk_B_12 dB_init_24 (by omega) (Nat.le_of_ble_eq_true rfl) (Nat.le_of_ble_eq_true rfl) (Nat.le_of_ble_eq_true rfl) rfl rfl rfl (q := 27) rfl ?_
  refine pm_aload_n dB_init_27 rfl (q := 28) rfl ?_
  refine pm_aload_n dB_init_28 rfl (q := 29) rfl ?_
  refine pm_putF fp_B_16 rfl dB_init_29 rfl (Nat.le_of_ble_eq_true rfl) (fun _ => rfl) (fun _ => rfl) (q := 32) rfl ?_
  refine pm_aload_n dB_init_32 rfl (q := 33) rfl ?_
  refine pm_new hK nw_B_20 dB_init_33 hSt (Nat.le_of_ble_eq_true rfl) (Nat.le_of_ble_eq_true rfl) rfl rfl rfl (Nat.le_of_ble_eq_true rfl) (Nat.le_of_ble_eq_true rfl) (q := 36) rfl rfl ?_
  refine pm_dup dB_init_36 rfl (q := 37) rfl ?_
  refine pm_aload_n dB_init_37 rfl (q := 38) rfl ?_
  refine pm_heap (g := hp8 ++ [dc2]) rfl ?_
  refine pm_cI (as := [.ref 1]) hK hSt (kH_init8 hl 1 (Nat.le_refl _)) mo_H_init im_H_init rfl rfl lk_B_22 dB_init_38 (by omega) rfl rfl (Nat.le_of_ble_eq_true rfl) (Nat.le_of_ble_eq_true rfl) (Nat.le_of_ble_eq_true rfl) (Nat.le_of_ble_eq_true rfl) (Nat.le_of_ble_eq_true rfl) rfl rfl (q := 41) rfl ?_
  refine pm_putF fp_B_25 rfl dB_init_41 rfl (Nat.le_of_ble_eq_true rfl) (fun _ => rfl) (fun _ => rfl) (q := 44) rfl ?_
  refine pm_aload_n dB_init_44 rfl (q := 45) rfl ?_
  refine pm_new hK nw_B_20 dB_init_45 hSt (Nat.le_of_ble_eq_true rfl) (Nat.le_of_ble_eq_true rfl) rfl rfl rfl (Nat.le_of_ble_eq_true rfl) (Nat.le_of_ble_eq_true rfl) (q := 48) rfl rfl ?_
  refine pm_dup dB_init_48 rfl (q := 49) rfl ?_
  refine pm_aload_n dB_init_49 rfl (q := 50) rfl ?_
  refine pm_heap (g := hp12 ++ [dc2]) rfl ?_
  refine pm_cI (as := [.ref 1]) hK hSt (kH_init12 hl 1 (Nat.le_refl _)) mo_H_init im_H_init rfl rfl lk_B_22 dB_init_50 (by omega) rfl rfl (Nat.le_of_ble_eq_true rfl) (Nat.le_of_ble_eq_true rfl) (Nat.le_of_ble_eq_true rfl) (Nat.le_of_ble_eq_true rfl) (Nat.le_of_ble_eq_true rfl) rfl rfl (q := 53) rfl ?_
  refine pm_putF fp_B_29 rfl dB_init_53 rfl (Nat.le_of_ble_eq_true rfl) (fun _ => rfl) (fun _ => rfl) (q := 56) rfl ?_
  refine pm_aload_n dB_init_56 rfl (q := 57) rfl ?_
  refine pm_new hK nw_B_32 dB_init_57 hSt (Nat.le_of_ble_eq_true rfl) (Nat.le_of_ble_eq_true rfl) rfl rfl rfl (Nat.le_of_ble_eq_true rfl) (Nat.le_of_ble_eq_true rfl) (q := 60) rfl rfl ?_
  refine pm_dup dB_init_60 rfl (q := 61) rfl ?_
  refine pm_heap (g := hp16 ++ [dc3]) rfl ?_
  refine pm_cI (as := []) hK hSt (kT_init hl 1 (Nat.le_refl _)) mo_T_init im_T_init rfl rfl lk_B_34 dB_init_61 (by omega) rfl rfl (Nat.le_of_ble_eq_true rfl) (Nat.le_of_ble_eq_true rfl) (Nat.le_of_ble_eq_true rfl) (Nat.le_of_ble_eq_true rfl) (Nat.le_of_ble_eq_true rfl) rfl rfl (q := 64) rfl ?_
  refine pm_putF fp_B_35 rfl dB_init_64 rfl (Nat.le_of_ble_eq_true rfl) (fun _ => rfl) (fun _ => rfl) (q := 67) rfl ?_
  refine pm_aload_n dB_init_67 rfl (q := 68) rfl ?_
  refine pm_new hK nw_B_39 dB_init_68 hSt (Nat.le_of_ble_eq_true rfl) (Nat.le_of_ble_eq_true rfl) rfl rfl rfl (Nat.le_of_ble_eq_true rfl) (Nat.le_of_ble_eq_true rfl) (q := 71) rfl rfl ?_
  refine pm_dup dB_init_71 rfl (q := 72) rfl ?_
  refine pm_aload_n dB_init_72 rfl (q := 73) rfl ?_
  refine pm_heap (g := hp21 ++ [dc4]) rfl ?_
  refine pm_cI (as := [.ref 1]) hK hSt (kP_init hl 2 (Nat.le_refl _)) mo_P_init im_P_init rfl rfl lk_B_41 dB_init_73 (by omega) rfl rfl (Nat.le_of_ble_eq_true rfl) (Nat.le_of_ble_eq_true rfl) (Nat.le_of_ble_eq_true rfl) (Nat.le_of_ble_eq_true rfl) (Nat.le_of_ble_eq_true rfl) rfl rfl (q := 76) rfl ?_
  refine pm_putF fp_B_42 rfl dB_init_76 rfl (Nat.le_of_ble_eq_true rfl) (fun _ => rfl) (fun _ => rfl) (q := 79) rfl ?_
  exact hret _ _ dB_init_79
def si0 : Nat → Int32 := fun j => if j = 0 then 2 else if j = 1 then 2 else if j = 2 then 3 else if j = 3 then 100 else if j = 4 then 1000 else if j = 5 then 1000 else 0
def sa0 : Nat → Nat → Int32 := fun j => if j = 0 then z3 else zf
theorem hpB_cH : hpB = cH 0 si0 sa0 (fun _ => 0) (fun _ => empA) 0 (fun _ => zf) 0 (fun _ => zf) [] := rfl
