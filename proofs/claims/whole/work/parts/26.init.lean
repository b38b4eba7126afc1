/-! the constructors of the system: closed heaps -/
theorem oj_i : Cond.instanceMethod objectInit ∈ pm_ws := (pm_in1 (j := 23) rfl rfl)
theorem oj_c : Cond.code objectInit ⟨#[0xb1]⟩ 1 none ∈ pm_ws := (pm_in1 (j := 24) rfl rfl)
theorem ac_I : Cond.arrayClass .int ∈ pm_ws := (pm_in1 (j := 89) rfl rfl)
theorem ac_Z : Cond.arrayClass .boolean ∈ pm_ws := (pm_in1 (j := 88) rfl rfl)
theorem oj_S : Cond.methodLink "BayStowage$Ship" 3 objectInit ∈ pm_ws := (pm_in1 (j := 30) rfl rfl)
theorem oj_H : Cond.methodLink "BayStowage$Hold" 3 objectInit ∈ pm_ws := (pm_in1 (j := 99) rfl rfl)
theorem oj_T : Cond.methodLink "BayStowage$Script" 3 objectInit ∈ pm_ws := (pm_in1 (j := 127) rfl rfl)
theorem oj_P : Cond.methodLink "BayStowage$Planner" 5 objectInit ∈ pm_ws := (pm_in1 (j := 157) rfl rfl)
theorem oj_B : Cond.methodLink "BayStowage" 3 objectInit ∈ pm_ws := (pm_in1 (j := 22) rfl rfl)
theorem oj_M : Cond.methodLink "BayStowageModel" 1 objectInit ∈ pm_ws := (pm_in3 (j := 121) rfl rfl)
theorem nw_L_8 : pm_Nw "BayStowageLaw" 8 0 [.null, .null, .null, .null, .null, .int 0] 6 := ⟨N0, T0, Y0, rfl, hin0, tyok0, pm_in1 (j := 17) rfl rfl, pm_in1 (j := 18) rfl rfl, pm_in1 (j := 1) rfl rfl, by decide +kernel, rfl⟩
theorem nw_B_9 : pm_Nw "BayStowage" 9 1 [.int 0, .int 0, .int 0, .int 0, .int 0, .int 0, .null, .int 0, .null, .null, .null, .null, .null] 13 := ⟨N1, T1, Y1, rfl, hin1, tyok1, pm_in1 (j := 25) rfl rfl, pm_in1 (j := 26) rfl rfl, pm_in1 (j := 2) rfl rfl, by decide +kernel, rfl⟩
theorem nw_B_20 : pm_Nw "BayStowage" 20 2 [.null, .null, .null, .null, .int 0] 5 := ⟨N2, T2, Y2, rfl, hin2, tyok2, pm_in1 (j := 94) rfl rfl, pm_in1 (j := 95) rfl rfl, pm_in1 (j := 3) rfl rfl, by decide +kernel, rfl⟩
theorem nw_B_32 : pm_Nw "BayStowage" 32 3 [.int 0, .null, .null, .null, .null] 5 := ⟨N3, T3, Y3, rfl, hin3, tyok3, pm_in1 (j := 122) rfl rfl, pm_in1 (j := 123) rfl rfl, pm_in1 (j := 5) rfl rfl, by decide +kernel, rfl⟩
theorem nw_B_39 : pm_Nw "BayStowage" 39 4 [.null, .null, .null, .null, .int 0, .null, .null, .null] 8 := ⟨N4, T4, Y4, rfl, hin4, tyok4, pm_in1 (j := 152) rfl rfl, pm_in1 (j := 153) rfl rfl, pm_in1 (j := 6) rfl rfl, by decide +kernel, rfl⟩
theorem nw_P_31 : pm_Nw "BayStowage$Planner" 31 2 [.null, .null, .null, .null, .int 0] 5 := ⟨N2, T2, Y2, rfl, hin2, tyok2, pm_in1 (j := 158) rfl rfl, pm_in1 (j := 95) rfl rfl, pm_in1 (j := 3) rfl rfl, by decide +kernel, rfl⟩
theorem nw_L_57 : pm_Nw "BayStowageLaw" 57 5 [.int 0, .int 0, .int 0, .int 0, .int 0, .int 0, .int 0, .null, .int 0, .null, .null, .null, .null, .null, .null, .null, .null, .null, .int 0, .int 0, .null, .null, .null, .null, .null, .null] 26 := ⟨N5, T5, Y5, rfl, hin5, tyok5, pm_in3 (j := 116) rfl rfl, pm_in3 (j := 117) rfl rfl, pm_in1 (j := 7) rfl rfl, by decide +kernel, rfl⟩
abbrev dc0 : pm_C := pm_o 0 [.null, .null, .null, .null, .null, .int 0]
abbrev dc1 : pm_C := pm_o 1 [.int 0, .int 0, .int 0, .int 0, .int 0, .int 0, .null, .int 0, .null, .null, .null, .null, .null]
abbrev dc2 : pm_C := pm_o 2 [.null, .null, .null, .null, .int 0]
abbrev dc3 : pm_C := pm_o 3 [.int 0, .null, .null, .null, .null]
abbrev dc4 : pm_C := pm_o 4 [.null, .null, .null, .null, .int 0, .null, .null, .null]
abbrev zf : Nat → Int32 := fun _ => 0
abbrev shC (z : Nat → Int32) (a b c e f g : Int32) : List pm_C := [pm_o 1 [.int a, .int b, .int c, .int e, .int f, .int g, .ref 2, .int 0, .ref 3, .ref 4, .ref 5, .ref 6, .ref 7], pm_z 3 z, pm_i 5 zf, pm_i 5 zf, pm_i 5 zf, pm_i 5 zf, pm_z 5 zf]
set_option maxRecDepth 4000 in
set_option maxHeartbeats 8000000 in
theorem kS_init {l : Launch} (hl : l.stackTraces = false) (d : Nat) (hd : 1 ≤ d) : pm_SemN l d 6 28 mS_init [.ref 1] [dc0, dc1] (dc0 :: shC zf 0 0 0 0 0 0) := by
  refine pm_semN hl mo_S_init rfl rfl rfl (Nat.le_of_ble_eq_true rfl) (fun K G hK hSt hret => ?_)
  refine pm_aload_n dS_init_0 rfl (q := 1) rfl ?_
  refine pm_obj hK (by omega) oj_S oj_i oj_c dS_init_1 (Nat.le_of_ble_eq_true rfl) (q := 4) rfl ?_
  refine pm_aload_n dS_init_4 rfl (q := 5) rfl ?_
  refine pm_iconst (x := 3) dS_init_5 (by decide) (q := 6) rfl ?_
  refine pm_newa hK (Or.inr ⟨rfl, rfl⟩) ac_Z dS_init_6 (by decide) rfl (by decide) hSt (Nat.le_of_ble_eq_true rfl) (Nat.le_of_ble_eq_true rfl) rfl rfl rfl (Nat.le_of_ble_eq_true rfl) (Nat.le_of_ble_eq_true rfl) (q := 8) rfl rfl ?_
  refine pm_putF fp_S_9 rfl dS_init_8 rfl (Nat.le_of_ble_eq_true rfl) (fun _ => rfl) (fun _ => rfl) (q := 11) rfl ?_
  refine pm_aload_n dS_init_11 rfl (q := 12) rfl ?_
  refine pm_iconst (x := 5) dS_init_12 (by decide) (q := 13) rfl ?_
  refine pm_newa hK (Or.inl ⟨rfl, rfl⟩) ac_I dS_init_13 (by decide) rfl (by decide) hSt (Nat.le_of_ble_eq_true rfl) (Nat.le_of_ble_eq_true rfl) rfl rfl rfl (Nat.le_of_ble_eq_true rfl) (Nat.le_of_ble_eq_true rfl) (q := 15) rfl rfl ?_
  refine pm_putF fp_S_15 rfl dS_init_15 rfl (Nat.le_of_ble_eq_true rfl) (fun _ => rfl) (fun _ => rfl) (q := 18) rfl ?_
  refine pm_aload_n dS_init_18 rfl (q := 19) rfl ?_
  refine pm_iconst (x := 5) dS_init_19 (by decide) (q := 20) rfl ?_
  refine pm_newa hK (Or.inl ⟨rfl, rfl⟩) ac_I dS_init_20 (by decide) rfl (by decide) hSt (Nat.le_of_ble_eq_true rfl) (Nat.le_of_ble_eq_true rfl) rfl rfl rfl (Nat.le_of_ble_eq_true rfl) (Nat.le_of_ble_eq_true rfl) (q := 22) rfl rfl ?_
  refine pm_putF fp_S_19 rfl dS_init_22 rfl (Nat.le_of_ble_eq_true rfl) (fun _ => rfl) (fun _ => rfl) (q := 25) rfl ?_
  refine pm_aload_n dS_init_25 rfl (q := 26) rfl ?_
  refine pm_iconst (x := 5) dS_init_26 (by decide) (q := 27) rfl ?_
  refine pm_newa hK (Or.inl ⟨rfl, rfl⟩) ac_I dS_init_27 (by decide) rfl (by decide) hSt (Nat.le_of_ble_eq_true rfl) (Nat.le_of_ble_eq_true rfl) rfl rfl rfl (Nat.le_of_ble_eq_true rfl) (Nat.le_of_ble_eq_true rfl) (q := 29) rfl rfl ?_
  refine pm_putF fp_S_22 rfl dS_init_29 rfl (Nat.le_of_ble_eq_true rfl) (fun _ => rfl) (fun _ => rfl) (q := 32) rfl ?_
  refine pm_aload_n dS_init_32 rfl (q := 33) rfl ?_
  refine pm_iconst (x := 5) dS_init_33 (by decide) (q := 34) rfl ?_
  refine pm_newa hK (Or.inl ⟨rfl, rfl⟩) ac_I dS_init_34 (by decide) rfl (by decide) hSt (Nat.le_of_ble_eq_true rfl) (Nat.le_of_ble_eq_true rfl) rfl rfl rfl (Nat.le_of_ble_eq_true rfl) (Nat.le_of_ble_eq_true rfl) (q := 36) rfl rfl ?_
  refine pm_putF fp_S_25 rfl dS_init_36 rfl (Nat.le_of_ble_eq_true rfl) (fun _ => rfl) (fun _ => rfl) (q := 39) rfl ?_
  refine pm_aload_n dS_init_39 rfl (q := 40) rfl ?_
  refine pm_iconst (x := 5) dS_init_40 (by decide) (q := 41) rfl ?_
  refine pm_newa hK (Or.inr ⟨rfl, rfl⟩) ac_Z dS_init_41 (by decide) rfl (by decide) hSt (Nat.le_of_ble_eq_true rfl) (Nat.le_of_ble_eq_true rfl) rfl rfl rfl (Nat.le_of_ble_eq_true rfl) (Nat.le_of_ble_eq_true rfl) (q := 43) rfl rfl ?_
  refine pm_putF fp_S_28 rfl dS_init_43 rfl (Nat.le_of_ble_eq_true rfl) (fun _ => rfl) (fun _ => rfl) (q := 46) rfl ?_
  exact hret _ _ dS_init_46
set_option maxHeartbeats 2000000 in
theorem kS_refitG {l : Launch} (hl : l.stackTraces = false) (d : Nat) {c0 : pm_C} {z : Nat → Int32} {tl : pm_H} (a b c e f g a0 b0 c1 e0 f0 g0 k0 : Int32) : pm_Sem l d mS_refit [.ref 1, .int a, .int b, .int c, .int e, .int f, .int g] (c0 :: pm_o 1 [.int a0, .int b0, .int c1, .int e0, .int f0, .int g0, .ref 2, .int k0, .ref 3, .ref 4, .ref 5, .ref 6, .ref 7] :: pm_z 3 z :: tl) none (c0 :: pm_o 1 [.int a, .int b, .int c, .int e, .int f, .int g, .ref 2, .int 0, .ref 3, .ref 4, .ref 5, .ref 6, .ref 7] :: pm_z 3 (upd (upd (upd z 0 0) 1 0) 2 0) :: tl) := by
  refine pm_sem hl mo_S_refit rfl rfl rfl (Nat.le_of_ble_eq_true rfl) (fun K G hK hret => ?_)
  refine pm_aload_n dS_refit_0 rfl (q := 1) rfl ?_
  refine pm_iload_n dS_refit_1 rfl (q := 2) rfl ?_
  refine pm_put fp_S_31 dS_refit_2 rfl (Nat.le_of_ble_eq_true rfl) (fun _ => rfl) (fun _ => rfl) (q := 5) rfl ?_
  refine pm_aload_n dS_refit_5 rfl (q := 6) rfl ?_
  refine pm_iload_n dS_refit_6 rfl (q := 7) rfl ?_
  refine pm_put fp_S_35 dS_refit_7 rfl (Nat.le_of_ble_eq_true rfl) (fun _ => rfl) (fun _ => rfl) (q := 10) rfl ?_
  refine pm_aload_n dS_refit_10 rfl (q := 11) rfl ?_
  refine pm_iload_n dS_refit_11 rfl (q := 12) rfl ?_
  refine pm_put fp_S_38 dS_refit_12 rfl (Nat.le_of_ble_eq_true rfl) (fun _ => rfl) (fun _ => rfl) (q := 15) rfl ?_
  refine pm_aload_n dS_refit_15 rfl (q := 16) rfl ?_
  refine pm_iload dS_refit_16 rfl (q := 18) rfl ?_
  refine pm_put fp_S_41 dS_refit_18 rfl (Nat.le_of_ble_eq_true rfl) (fun _ => rfl) (fun _ => rfl) (q := 21) rfl ?_
  refine pm_aload_n dS_refit_21 rfl (q := 22) rfl ?_
  refine pm_iload dS_refit_22 rfl (q := 24) rfl ?_
  refine pm_put fp_S_44 dS_refit_24 rfl (Nat.le_of_ble_eq_true rfl) (fun _ => rfl) (fun _ => rfl) (q := 27) rfl ?_
  refine pm_aload_n dS_refit_27 rfl (q := 28) rfl ?_
  refine pm_iload dS_refit_28 rfl (q := 30) rfl ?_
  refine pm_put fp_S_47 dS_refit_30 rfl (Nat.le_of_ble_eq_true rfl) (fun _ => rfl) (fun _ => rfl) (q := 33) rfl ?_
  refine pm_iconst (x := 0) dS_refit_33 (by decide) (q := 34) rfl ?_
  refine pm_istore dS_refit_34 (by decide) (q := 36) rfl ?_
  refine pm_iload dS_refit_36 rfl (q := 38) rfl ?_
  refine pm_iconst (x := 3) dS_refit_38 (by decide) (q := 39) rfl ?_
  refine pm_icmp_ge (tgt := 56) dS_refit_39 rfl (q := 42) rfl (fun h => absurd h (by decide)) (fun _ => ?_)
  refine pm_aload_n dS_refit_42 rfl (q := 43) rfl ?_
  refine pm_get fl_S_9 dS_refit_43 rfl rfl (q := 46) rfl ?_
  refine pm_iload dS_refit_46 rfl (q := 48) rfl ?_
  refine pm_iconst (x := 0) dS_refit_48 (by decide) (q := 49) rfl ?_
  refine pm_zast dS_refit_49 rfl (by unfold vp_in; decide) (q := 50) rfl ?_
  refine pm_iincL dS_refit_50 rfl (by decide) (y := 1) (by decide) (q := 53) rfl ?_
  refine pm_goto (tgt := 36) dS_refit_53 rfl ?_
  refine pm_iload dS_refit_36 rfl (q := 38) rfl ?_
  refine pm_iconst (x := 3) dS_refit_38 (by decide) (q := 39) rfl ?_
  refine pm_icmp_ge (tgt := 56) dS_refit_39 rfl (q := 42) rfl (fun h => absurd h (by decide)) (fun _ => ?_)
  refine pm_aload_n dS_refit_42 rfl (q := 43) rfl ?_
  refine pm_get fl_S_9 dS_refit_43 rfl rfl (q := 46) rfl ?_
  refine pm_iload dS_refit_46 rfl (q := 48) rfl ?_
  refine pm_iconst (x := 0) dS_refit_48 (by decide) (q := 49) rfl ?_
  refine pm_zast dS_refit_49 rfl (by unfold vp_in; decide) (q := 50) rfl ?_
  refine pm_iincL dS_refit_50 rfl (by decide) (y := 2) (by decide) (q := 53) rfl ?_
  refine pm_goto (tgt := 36) dS_refit_53 rfl ?_
  refine pm_iload dS_refit_36 rfl (q := 38) rfl ?_
  refine pm_iconst (x := 3) dS_refit_38 (by decide) (q := 39) rfl ?_
  refine pm_icmp_ge (tgt := 56) dS_refit_39 rfl (q := 42) rfl (fun h => absurd h (by decide)) (fun _ => ?_)
  refine pm_aload_n dS_refit_42 rfl (q := 43) rfl ?_
  refine pm_get fl_S_9 dS_refit_43 rfl rfl (q := 46) rfl ?_
  refine pm_iload dS_refit_46 rfl (q := 48) rfl ?_
  refine pm_iconst (x := 0) dS_refit_48 (by decide) (q := 49) rfl ?_
  refine pm_zast dS_refit_49 rfl (by unfold vp_in; decide) (q := 50) rfl ?_
  refine pm_iincL dS_refit_50 rfl (by decide) (y := 3) (by decide) (q := 53) rfl ?_
  refine pm_goto (tgt := 36) dS_refit_53 rfl ?_
  refine pm_iload dS_refit_36 rfl (q := 38) rfl ?_
  refine pm_iconst (x := 3) dS_refit_38 (by decide) (q := 39) rfl ?_
  refine pm_icmp_ge (tgt := 56) dS_refit_39 rfl (q := 42) rfl (fun _ => ?_) (fun h => absurd h (by decide))
  refine pm_aload_n dS_refit_56 rfl (q := 57) rfl ?_
  refine pm_iconst (x := 0) dS_refit_57 (by decide) (q := 58) rfl ?_
  refine pm_put fp_S_50 dS_refit_58 rfl (Nat.le_of_ble_eq_true rfl) (fun _ => rfl) (fun _ => rfl) (q := 61) rfl ?_
  exact pm_retV hret dS_refit_61 rfl
abbrev z3 : Nat → Int32 := upd (upd (upd zf 0 0) 1 0) 2 0
abbrev m1f : Nat → Int32 := fun _ => -1
abbrev hdC (t : Nat) : List pm_C := [pm_o 2 [.ref 1, .ref (t + 1), .ref (t + 2), .ref (t + 3), .int 0], pm_i 9 m1f, pm_i 3 zf, pm_i 3 zf]
abbrev scC : List pm_C := [pm_o 3 [.int 0, .ref 17, .ref 18, .ref 19, .ref 20], pm_i 30 zf, pm_i 30 zf, pm_i 30 zf, pm_i 30 zf]
abbrev b1 (a b c e f : Value) : pm_C := pm_o 0 [a, b, c, e, f, .int 0]
abbrev sh1 : List pm_C := shC z3 2 2 3 100 1000 1000
abbrev hp8 : pm_H := b1 (.ref 1) .null .null .null .null :: sh1
abbrev hp12 : pm_H := b1 (.ref 1) (.ref 8) .null .null .null :: sh1 ++ hdC 8
abbrev hp16 : pm_H := b1 (.ref 1) (.ref 8) (.ref 12) .null .null :: sh1 ++ hdC 8 ++ hdC 12
abbrev hp21 : pm_H := b1 (.ref 1) (.ref 8) (.ref 12) (.ref 16) .null :: sh1 ++ hdC 8 ++ hdC 12 ++ scC
abbrev plC (dr : Value) : List pm_C := [pm_o 4 [.ref 1, dr, .ref 22, .ref 23, .int 0, .ref 24, .ref 25, .ref 26], pm_i 2016 zf, pm_i 2016 zf, pm_i 3 zf, pm_i 3 zf, pm_i 3 zf]
set_option maxRecDepth 4000 in
set_option maxHeartbeats 8000000 in
theorem kH_init8 {l : Launch} (hl : l.stackTraces = false) (d : Nat) (hd : 1 ≤ d) : pm_SemN l d 3 15 mH_init [.ref 8, .ref 1] (hp8 ++ [dc2]) (hp8 ++ hdC 8) := by
  refine pm_semN hl mo_H_init rfl rfl rfl (Nat.le_of_ble_eq_true rfl) (fun K G hK hSt hret => ?_)
  refine pm_aload_n dH_init_0 rfl (q := 1) rfl ?_
  refine pm_obj hK (by omega) oj_H oj_i oj_c dH_init_1 (Nat.le_of_ble_eq_true rfl) (q := 4) rfl ?_
  refine pm_aload_n dH_init_4 rfl (q := 5) rfl ?_
  refine pm_bipush (x := 9) dH_init_5 (by decide) (q := 7) rfl ?_
  refine pm_newa hK (Or.inl ⟨rfl, rfl⟩) ac_I dH_init_7 (by decide) rfl (by decide) hSt (Nat.le_of_ble_eq_true rfl) (Nat.le_of_ble_eq_true rfl) rfl rfl rfl (Nat.le_of_ble_eq_true rfl) (Nat.le_of_ble_eq_true rfl) (q := 9) rfl rfl ?_
  refine pm_putF fp_H_9 rfl dH_init_9 rfl (Nat.le_of_ble_eq_true rfl) (fun _ => rfl) (fun _ => rfl) (q := 12) rfl ?_
  refine pm_aload_n dH_init_12 rfl (q := 13) rfl ?_
  refine pm_iconst (x := 3) dH_init_13 (by decide) (q := 14) rfl ?_
  refine pm_newa hK (Or.inl ⟨rfl, rfl⟩) ac_I dH_init_14 (by decide) rfl (by decide) hSt (Nat.le_of_ble_eq_true rfl) (Nat.le_of_ble_eq_true rfl) rfl rfl rfl (Nat.le_of_ble_eq_true rfl) (Nat.le_of_ble_eq_true rfl) (q := 16) rfl rfl ?_
  refine pm_putF fp_H_15 rfl dH_init_16 rfl (Nat.le_of_ble_eq_true rfl) (fun _ => rfl) (fun _ => rfl) (q := 19) rfl ?_
  refine pm_aload_n dH_init_19 rfl (q := 20) rfl ?_
  refine pm_iconst (x := 3) dH_init_20 (by decide) (q := 21) rfl ?_
  refine pm_newa hK (Or.inl ⟨rfl, rfl⟩) ac_I dH_init_21 (by decide) rfl (by decide) hSt (Nat.le_of_ble_eq_true rfl) (Nat.le_of_ble_eq_true rfl) rfl rfl rfl (Nat.le_of_ble_eq_true rfl) (Nat.le_of_ble_eq_true rfl) (q := 23) rfl rfl ?_
  refine pm_putF fp_H_18 rfl dH_init_23 rfl (Nat.le_of_ble_eq_true rfl) (fun _ => rfl) (fun _ => rfl) (q := 26) rfl ?_
  refine pm_aload_n dH_init_26 rfl (q := 27) rfl ?_
  refine pm_aload_n dH_init_27 rfl (q := 28) rfl ?_
  refine pm_putF fp_H_21 rfl dH_init_28 rfl (Nat.le_of_ble_eq_true rfl) (fun _ => rfl) (fun _ => rfl) (q := 31) rfl ?_
  refine pm_aload_n dH_init_31 rfl (q := 32) rfl ?_
  refine pm_get fl_H_9 dH_init_32 rfl rfl (q := 35) rfl ?_
  refine pm_iconst (x := -1) dH_init_35 (by decide) (q := 36) rfl ?_
  refine pm_cS2v hK (kA_fill hl 0 _ rfl (by decide)) mo_A_fill st_A_fill lk_H_25 dH_init_36 (by omega) (Nat.le_of_ble_eq_true rfl) (Nat.le_of_ble_eq_true rfl) (Nat.le_of_ble_eq_true rfl) (q := 39) rfl ?_
  exact hret _ _ dH_init_39
set_option maxRecDepth 4000 in
set_option maxHeartbeats 8000000 in
theorem kH_init12 {l : Launch} (hl : l.stackTraces = false) (d : Nat) (hd : 1 ≤ d) : pm_SemN l d 3 15 mH_init [.ref 12, .ref 1] (hp12 ++ [dc2]) (hp12 ++ hdC 12) := by
  refine pm_semN hl mo_H_init rfl rfl rfl (Nat.le_of_ble_eq_true rfl) (fun K G hK hSt hret => ?_)
  refine pm_aload_n dH_init_0 rfl (q := 1) rfl ?_
  refine pm_obj hK (by omega) oj_H oj_i oj_c dH_init_1 (Nat.le_of_ble_eq_true rfl) (q := 4) rfl ?_
  refine pm_aload_n dH_init_4 rfl (q := 5) rfl ?_
  refine pm_bipush (x := 9) dH_init_5 (by decide) (q := 7) rfl ?_
  refine pm_newa hK (Or.inl ⟨rfl, rfl⟩) ac_I dH_init_7 (by decide) rfl (by decide) hSt (Nat.le_of_ble_eq_true rfl) (Nat.le_of_ble_eq_true rfl) rfl rfl rfl (Nat.le_of_ble_eq_true rfl) (Nat.le_of_ble_eq_true rfl) (q := 9) rfl rfl ?_
  refine pm_putF fp_H_9 rfl dH_init_9 rfl (Nat.le_of_ble_eq_true rfl) (fun _ => rfl) (fun _ => rfl) (q := 12) rfl ?_
  refine pm_aload_n dH_init_12 rfl (q := 13) rfl ?_
  refine pm_iconst (x := 3) dH_init_13 (by decide) (q := 14) rfl ?_
  refine pm_newa hK (Or.inl ⟨rfl, rfl⟩) ac_I dH_init_14 (by decide) rfl (by decide) hSt (Nat.le_of_ble_eq_true rfl) (Nat.le_of_ble_eq_true rfl) rfl rfl rfl (Nat.le_of_ble_eq_true rfl) (Nat.le_of_ble_eq_true rfl) (q := 16) rfl rfl ?_
  refine pm_putF fp_H_15 rfl dH_init_16 rfl (Nat.le_of_ble_eq_true rfl) (fun _ => rfl) (fun _ => rfl) (q := 19) rfl ?_
  refine pm_aload_n dH_init_19 rfl (q := 20) rfl ?_
  refine pm_iconst (x := 3) dH_init_20 (by decide) (q := 21) rfl ?_
  refine pm_newa hK (Or.inl ⟨rfl, rfl⟩) ac_I dH_init_21 (by decide) rfl (by decide) hSt (Nat.le_of_ble_eq_true rfl) (Nat.le_of_ble_eq_true rfl) rfl rfl rfl (Nat.le_of_ble_eq_true rfl) (Nat.le_of_ble_eq_true rfl) (q := 23) rfl rfl ?_
  refine pm_putF fp_H_18 rfl dH_init_23 rfl (Nat.le_of_ble_eq_true rfl) (fun _ => rfl) (fun _ => rfl) (q := 26) rfl ?_
  refine pm_aload_n dH_init_26 rfl (q := 27) rfl ?_
  refine pm_aload_n dH_init_27 rfl (q := 28) rfl ?_
  refine pm_putF fp_H_21 rfl dH_init_28 rfl (Nat.le_of_ble_eq_true rfl) (fun _ => rfl) (fun _ => rfl) (q := 31) rfl ?_
  refine pm_aload_n dH_init_31 rfl (q := 32) rfl ?_
  refine pm_get fl_H_9 dH_init_32 rfl rfl (q := 35) rfl ?_
  refine pm_iconst (x := -1) dH_init_35 (by decide) (q := 36) rfl ?_
  refine pm_cS2v hK (kA_fill hl 0 _ rfl (by decide)) mo_A_fill st_A_fill lk_H_25 dH_init_36 (by omega) (Nat.le_of_ble_eq_true rfl) (Nat.le_of_ble_eq_true rfl) (Nat.le_of_ble_eq_true rfl) (q := 39) rfl ?_
  exact hret _ _ dH_init_39
set_option maxRecDepth 4000 in
set_option maxHeartbeats 8000000 in
theorem kH_init27 {l : Launch} (hl : l.stackTraces = false) (d : Nat) (hd : 1 ≤ d) : pm_SemN l d 3 15 mH_init [.ref 27, .ref 1] ((hp21 ++ plC .null) ++ [dc2]) ((hp21 ++ plC .null) ++ hdC 27) := by
  refine pm_semN hl mo_H_init rfl rfl rfl (Nat.le_of_ble_eq_true rfl) (fun K G hK hSt hret => ?_)
  refine pm_aload_n dH_init_0 rfl (q := 1) rfl ?_
  refine pm_obj hK (by omega) oj_H oj_i oj_c dH_init_1 (Nat.le_of_ble_eq_true rfl) (q := 4) rfl ?_
  refine pm_aload_n dH_init_4 rfl (q := 5) rfl ?_
  refine pm_bipush (x := 9) dH_init_5 (by decide) (q := 7) rfl ?_
  refine pm_newa hK (Or.inl ⟨rfl, rfl⟩) ac_I dH_init_7 (by decide) rfl (by decide) hSt (Nat.le_of_ble_eq_true rfl) (Nat.le_of_ble_eq_true rfl) rfl rfl rfl (Nat.le_of_ble_eq_true rfl) (Nat.le_of_ble_eq_true rfl) (q := 9) rfl rfl ?_
  refine pm_putF fp_H_9 rfl dH_init_9 rfl (Nat.le_of_ble_eq_true rfl) (fun _ => rfl) (fun _ => rfl) (q := 12) rfl ?_
  refine pm_aload_n dH_init_12 rfl (q := 13) rfl ?_
  refine pm_iconst (x := 3) dH_init_13 (by decide) (q := 14) rfl ?_
  refine pm_newa hK (Or.inl ⟨rfl, rfl⟩) ac_I dH_init_14 (by decide) rfl (by decide) hSt (Nat.le_of_ble_eq_true rfl) (Nat.le_of_ble_eq_true rfl) rfl rfl rfl (Nat.le_of_ble_eq_true rfl) (Nat.le_of_ble_eq_true rfl) (q := 16) rfl rfl ?_
  refine pm_putF fp_H_15 rfl dH_init_16 rfl (Nat.le_of_ble_eq_true rfl) (fun _ => rfl) (fun _ => rfl) (q := 19) rfl ?_
  refine pm_aload_n dH_init_19 rfl (q := 20) rfl ?_
  refine pm_iconst (x := 3) dH_init_20 (by decide) (q := 21) rfl ?_
  refine pm_newa hK (Or.inl ⟨rfl, rfl⟩) ac_I dH_init_21 (by decide) rfl (by decide) hSt (Nat.le_of_ble_eq_true rfl) (Nat.le_of_ble_eq_true rfl) rfl rfl rfl (Nat.le_of_ble_eq_true rfl) (Nat.le_of_ble_eq_true rfl) (q := 23) rfl rfl ?_
  refine pm_putF fp_H_18 rfl dH_init_23 rfl (Nat.le_of_ble_eq_true rfl) (fun _ => rfl) (fun _ => rfl) (q := 26) rfl ?_
  refine pm_aload_n dH_init_26 rfl (q := 27) rfl ?_
  refine pm_aload_n dH_init_27 rfl (q := 28) rfl ?_
  refine pm_putF fp_H_21 rfl dH_init_28 rfl (Nat.le_of_ble_eq_true rfl) (fun _ => rfl) (fun _ => rfl) (q := 31) rfl ?_
  refine pm_aload_n dH_init_31 rfl (q := 32) rfl ?_
  refine pm_get fl_H_9 dH_init_32 rfl rfl (q := 35) rfl ?_
  refine pm_iconst (x := -1) dH_init_35 (by decide) (q := 36) rfl ?_
  refine pm_cS2v hK (kA_fill hl 0 _ rfl (by decide)) mo_A_fill st_A_fill lk_H_25 dH_init_36 (by omega) (Nat.le_of_ble_eq_true rfl) (Nat.le_of_ble_eq_true rfl) (Nat.le_of_ble_eq_true rfl) (q := 39) rfl ?_
  exact hret _ _ dH_init_39
set_option maxRecDepth 4000 in
set_option maxHeartbeats 8000000 in
theorem kT_init {l : Launch} (hl : l.stackTraces = false) (d : Nat) (hd : 1 ≤ d) : pm_SemN l d 4 120 mT_init [.ref 16] (hp16 ++ [dc3]) (hp16 ++ scC) := by
  refine pm_semN hl mo_T_init rfl rfl rfl (Nat.le_of_ble_eq_true rfl) (fun K G hK hSt hret => ?_)
  refine pm_aload_n dT_init_0 rfl (q := 1) rfl ?_
  refine pm_obj hK (by omega) oj_T oj_i oj_c dT_init_1 (Nat.le_of_ble_eq_true rfl) (q := 4) rfl ?_
  refine pm_aload_n dT_init_4 rfl (q := 5) rfl ?_
  refine pm_bipush (x := 30) dT_init_5 (by decide) (q := 7) rfl ?_
  refine pm_newa hK (Or.inl ⟨rfl, rfl⟩) ac_I dT_init_7 (by decide) rfl (by decide) hSt (Nat.le_of_ble_eq_true rfl) (Nat.le_of_ble_eq_true rfl) rfl rfl rfl (Nat.le_of_ble_eq_true rfl) (Nat.le_of_ble_eq_true rfl) (q := 9) rfl rfl ?_
  refine pm_putF fp_T_11 rfl dT_init_9 rfl (Nat.le_of_ble_eq_true rfl) (fun _ => rfl) (fun _ => rfl) (q := 12) rfl ?_
  refine pm_aload_n dT_init_12 rfl (q := 13) rfl ?_
  refine pm_bipush (x := 30) dT_init_13 (by decide) (q := 15) rfl ?_
  refine pm_newa hK (Or.inl ⟨rfl, rfl⟩) ac_I dT_init_15 (by decide) rfl (by decide) hSt (Nat.le_of_ble_eq_true rfl) (Nat.le_of_ble_eq_true rfl) rfl rfl rfl (Nat.le_of_ble_eq_true rfl) (Nat.le_of_ble_eq_true rfl) (q := 17) rfl rfl ?_
  refine pm_putF fp_T_15 rfl dT_init_17 rfl (Nat.le_of_ble_eq_true rfl) (fun _ => rfl) (fun _ => rfl) (q := 20) rfl ?_
  refine pm_aload_n dT_init_20 rfl (q := 21) rfl ?_
  refine pm_bipush (x := 30) dT_init_21 (by decide) (q := 23) rfl ?_
  refine pm_newa hK (Or.inl ⟨rfl, rfl⟩) ac_I dT_init_23 (by decide) rfl (by decide) hSt (Nat.le_of_ble_eq_true rfl) (Nat.le_of_ble_eq_true rfl) rfl rfl rfl (Nat.le_of_ble_eq_true rfl) (Nat.le_of_ble_eq_true rfl) (q := 25) rfl rfl ?_
  refine pm_putF fp_T_18 rfl dT_init_25 rfl (Nat.le_of_ble_eq_true rfl) (fun _ => rfl) (fun _ => rfl) (q := 28) rfl ?_
  refine pm_aload_n dT_init_28 rfl (q := 29) rfl ?_
  refine pm_bipush (x := 30) dT_init_29 (by decide) (q := 31) rfl ?_
  refine pm_newa hK (Or.inl ⟨rfl, rfl⟩) ac_I dT_init_31 (by decide) rfl (by decide) hSt (Nat.le_of_ble_eq_true rfl) (Nat.le_of_ble_eq_true rfl) rfl rfl rfl (Nat.le_of_ble_eq_true rfl) (Nat.le_of_ble_eq_true rfl) (q := 33) rfl rfl ?_
  refine pm_putF fp_T_21 rfl dT_init_33 rfl (Nat.le_of_ble_eq_true rfl) (fun _ => rfl) (fun _ => rfl) (q := 36) rfl ?_
  exact hret _ _ dT_init_36
