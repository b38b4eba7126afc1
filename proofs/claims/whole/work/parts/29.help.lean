/-! the law's helpers: a call of the face, its answer or its exception -/
section Lg
variable {M : pm_M} {K : pm_X → Prop} {G : pm_X → State → Prop} {pc : Nat} {ls : List (Option Value)} {st : List Value} {h : pm_H} {k n : Nat}
theorem pm_i2l {x : Int32} (hd : decode M.2.1 pc = .ok (.i2l, 1)) {q : Nat} (hq : pc + 1 = q) (kk : pm_Go M K G q ls (.long x.toInt64 :: st) h k n) : pm_Go M K G pc ls (.int x :: st) h k n := by
  subst hq
  rintro ⟨p, l, e, R, s, m, args, below, meth, c, A, D, κ, α⟩ hK hO H locs rs hs
  exact lv_i2l hO.1 hO.2.1 hd rfl (kk _ hK hO H locs rs hs)
end Lg
theorem mc_L_bay : pm_Mc mL_bay 7 := ⟨pm_in2 (j := 109) rfl rfl, by decide +kernel, ⟨by decide, by decide⟩, by decide +kernel, pm_in1 (j := 0) rfl rfl, by decide⟩
theorem mc_L_plug : pm_Mc mL_plug 3 := ⟨pm_in2 (j := 184) rfl rfl, by decide +kernel, ⟨by decide, by decide⟩, by decide +kernel, pm_in1 (j := 0) rfl rfl, by decide⟩
theorem mc_L_box : pm_Mc mL_box 6 := ⟨pm_in2 (j := 192) rfl rfl, by decide +kernel, ⟨by decide, by decide⟩, by decide +kernel, pm_in1 (j := 0) rfl rfl, by decide⟩
theorem mc_L_roll : pm_Mc mL_roll 2 := ⟨pm_in2 (j := 223) rfl rfl, by decide +kernel, ⟨by decide, by decide⟩, by decide +kernel, pm_in1 (j := 0) rfl rfl, by decide⟩
theorem mc_L_move : pm_Mc mL_move 4 := ⟨pm_in2 (j := 234) rfl rfl, by decide +kernel, ⟨by decide, by decide⟩, by decide +kernel, pm_in1 (j := 0) rfl rfl, by decide⟩
theorem mc_L_hand : pm_Mc mL_hand 3 := ⟨pm_in3 (j := 26) rfl rfl, by decide +kernel, ⟨by decide, by decide⟩, by decide +kernel, pm_in1 (j := 0) rfl rfl, by decide⟩
theorem mc_L_replay : pm_Mc mL_replay 3 := ⟨pm_in3 (j := 37) rfl rfl, by decide +kernel, ⟨by decide, by decide⟩, by decide +kernel, pm_in1 (j := 0) rfl rfl, by decide⟩
theorem mc_L_slot : pm_Mc mL_slot 4 := ⟨pm_in3 (j := 72) rfl rfl, by decide +kernel, ⟨by decide, by decide⟩, by decide +kernel, pm_in1 (j := 0) rfl rfl, by decide⟩
theorem mc_L_moment : pm_Mc mL_moment 3 := ⟨pm_in3 (j := 80) rfl rfl, by decide +kernel, ⟨by decide, by decide⟩, by decide +kernel, pm_in1 (j := 0) rfl rfl, by decide⟩
theorem mc_L_verify : pm_Mc mL_verify 2 := ⟨pm_in3 (j := 89) rfl rfl, by decide +kernel, ⟨by decide, by decide⟩, by decide +kernel, pm_in1 (j := 0) rfl rfl, by decide⟩
theorem mc_L_report : pm_Mc mL_report 4 := ⟨pm_in3 (j := 107) rfl rfl, by decide +kernel, ⟨by decide, by decide⟩, by decide +kernel, pm_in1 (j := 0) rfl rfl, by decide⟩
set_option maxHeartbeats 4000000 in
theorem kL_bay_ok {l : Launch} (hl : l.stackTraces = false) (d : Nat) (hd : 4 ≤ d) {pd : Int32} {si : Nat → Int32} {sa : Nat → Nat → Int32} {hv : Nat → Int32} {ha : Nat → Nat → Nat → Int32} {sl : Int32} {sc : Nat → Nat → Int32} {pl : Int32} {pa : Nat → Nat → Int32} {tl : pm_H} (a b c e f g : Int32) (k0 : ¬ fw a 1 3 = 0) (k1 : ¬ fw b 1 3 = 0) (k2 : ¬ fw c 2 4 = 0) (k3 : ¬ fw e 1 200 = 0) (k4 : ¬ fw f 0 2000 = 0) (k5 : ¬ fw g 0 2000 = 0) : pm_SemC l d mL_bay [.ref 0, .int a, .int b, .int c, .int e, .int f, .int g] (cH pd si sa hv ha sl sc pl pa tl) (some (.int 0)) (cH 0 (fun j => if j = 0 then a else if j = 1 then b else if j = 2 then c else if j = 3 then e else if j = 4 then f else if j = 5 then g else if j = 7 then 0 else si j) (up1 sa 0 (upd (upd (upd (sa 0) 0 0) 1 0) 2 0)) (up1 hv 0 0) (up1 ha 0 empA) 0 sc pl pa tl) := by
  refine pm_semC hl mc_L_bay rfl rfl (Nat.le_of_ble_eq_true rfl) ?_
  have hK := pm_KX_Kd (l := l) (d := d) (h0 := (cH pd si sa hv ha sl sc pl pa tl))
  refine pm_aload_n dL_bay_0 rfl (q := 1) rfl ?_
  refine pm_iload_n dL_bay_1 rfl (q := 2) rfl ?_
  refine pm_iload_n dL_bay_2 rfl (q := 3) rfl ?_
  refine pm_iload_n dL_bay_3 rfl (q := 4) rfl ?_
  refine pm_iload dL_bay_4 rfl (q := 6) rfl ?_
  refine pm_iload dL_bay_6 rfl (q := 8) rfl ?_
  refine pm_iload dL_bay_8 rfl (q := 10) rfl ?_
  refine pm_cV6v hK (kB_bay_ok hl 3 (Nat.le_refl _) _ _ _ _ _ _ k0 k1 k2 k3 k4 k5) mo_B_bay im_B_bay se_B_bay lk_L_7 dL_bay_10 (by omega) (Nat.le_of_ble_eq_true rfl) (Nat.zero_le _) (Nat.zero_le _) rfl rfl rfl (q := 13) rfl ?_
  refine pm_goto (tgt := 20) dL_bay_13 rfl ?_
  refine pm_iconst (x := 0) dL_bay_20 (by decide) (q := 21) rfl ?_
  exact pm_retC rfl (Nat.le_of_ble_eq_true rfl) (Nat.le_of_ble_eq_true rfl) dL_bay_21
set_option maxHeartbeats 4000000 in
theorem kL_bay_no {l : Launch} (hl : l.stackTraces = false) (d : Nat) (hd : 8 ≤ d) {pd : Int32} {si : Nat → Int32} {sa : Nat → Nat → Int32} {hv : Nat → Int32} {ha : Nat → Nat → Nat → Int32} {sl : Int32} {sc : Nat → Nat → Int32} {pl : Int32} {pa : Nat → Nat → Int32} {tl : pm_H} (a b c e f g : Int32) (hno : ¬ (¬ fw a 1 3 = 0 ∧ ¬ fw b 1 3 = 0 ∧ ¬ fw c 2 4 = 0 ∧ ¬ fw e 1 200 = 0 ∧ ¬ fw f 0 2000 = 0 ∧ ¬ fw g 0 2000 = 0)) : pm_SemC l d mL_bay [.ref 0, .int a, .int b, .int c, .int e, .int f, .int g] (cH pd si sa hv ha sl sc pl pa tl) (some (.int 1)) (cH pd si sa hv ha sl sc pl pa tl) := by
  refine pm_semC hl mc_L_bay rfl rfl (Nat.le_of_ble_eq_true rfl) ?_
  have hK := pm_KX_Kd (l := l) (d := d) (h0 := (cH pd si sa hv ha sl sc pl pa tl))
  refine pm_aload_n dL_bay_0 rfl (q := 1) rfl ?_
  refine pm_iload_n dL_bay_1 rfl (q := 2) rfl ?_
  refine pm_iload_n dL_bay_2 rfl (q := 3) rfl ?_
  refine pm_iload_n dL_bay_3 rfl (q := 4) rfl ?_
  refine pm_iload dL_bay_4 rfl (q := 6) rfl ?_
  refine pm_iload dL_bay_6 rfl (q := 8) rfl ?_
  refine pm_iload dL_bay_8 rfl (q := 10) rfl ?_
  refine pm_catchV (as := [.int a, .int b, .int c, .int e, .int f, .int g]) (pre := []) (y := (0, 13, 16, 13)) (suf := []) (j := 7) (kB_bay_no hl 7 (Nat.le_refl _) _ _ _ _ _ _ hno) mo_B_bay im_B_bay se_B_bay (pm_in2 (j := 111) rfl rfl) dL_bay_10 (by omega) rfl rfl (Nat.le_of_ble_eq_true rfl) rfl rfl rfl rfl (fun z hz => nomatch hz) rfl ⟨by decide, "java/lang/IllegalArgumentException", (pm_in2 (j := 110) rfl rfl), (pm_nn2 (j := 121) rfl rfl)⟩ (Or.inl ⟨dL_bay_16, rfl⟩) (by decide) (q := 18) rfl ?_
  refine pm_iconst (x := 1) dL_bay_18 (by decide) (q := 19) rfl ?_
  exact pm_retC rfl (Nat.le_of_ble_eq_true rfl) (Nat.le_of_ble_eq_true rfl) dL_bay_19
set_option maxHeartbeats 4000000 in
theorem kL_plug_ok {l : Launch} (hl : l.stackTraces = false) (d : Nat) (hd : 4 ≤ d) {pd : Int32} {si : Nat → Int32} {sa : Nat → Nat → Int32} {hv : Nat → Int32} {ha : Nat → Nat → Nat → Int32} {sl : Int32} {sc : Nat → Nat → Int32} {pl : Int32} {pa : Nat → Nat → Int32} {tl : pm_H} (x o : Int32) (k0 : ¬ fw x 0 (si 0 - 1) = 0) (hx : vp_in x 3) : pm_SemC l d mL_plug [.ref 0, .int x, .int o] (cH pd si sa hv ha sl sc pl pa tl) (some (.int 0)) (cH 0 si (up1 sa 0 (upd (sa 0) x.toNatClampNeg (vp_nar .boolean o))) (up1 hv 0 0) (up1 ha 0 empA) 0 sc pl pa tl) := by
  refine pm_semC hl mc_L_plug rfl rfl (Nat.le_of_ble_eq_true rfl) ?_
  have hK := pm_KX_Kd (l := l) (d := d) (h0 := (cH pd si sa hv ha sl sc pl pa tl))
  refine pm_aload_n dL_plug_0 rfl (q := 1) rfl ?_
  refine pm_iload_n dL_plug_1 rfl (q := 2) rfl ?_
  refine pm_iload_n dL_plug_2 rfl (q := 3) rfl ?_
  refine pm_cV2v hK (kB_plug_ok hl 3 (Nat.le_refl _) _ _ k0 hx) mo_B_plug im_B_plug se_B_plug lk_L_15 dL_plug_3 (by omega) (Nat.le_of_ble_eq_true rfl) (Nat.zero_le _) (Nat.zero_le _) rfl rfl rfl (q := 6) rfl ?_
  refine pm_goto (tgt := 12) dL_plug_6 rfl ?_
  refine pm_iconst (x := 0) dL_plug_12 (by decide) (q := 13) rfl ?_
  exact pm_retC rfl (Nat.le_of_ble_eq_true rfl) (Nat.le_of_ble_eq_true rfl) dL_plug_13
set_option maxHeartbeats 4000000 in
theorem kL_plug_no {l : Launch} (hl : l.stackTraces = false) (d : Nat) (hd : 8 ≤ d) {pd : Int32} {si : Nat → Int32} {sa : Nat → Nat → Int32} {hv : Nat → Int32} {ha : Nat → Nat → Nat → Int32} {sl : Int32} {sc : Nat → Nat → Int32} {pl : Int32} {pa : Nat → Nat → Int32} {tl : pm_H} (x o : Int32) (k0 : fw x 0 (si 0 - 1) = 0) : pm_SemC l d mL_plug [.ref 0, .int x, .int o] (cH pd si sa hv ha sl sc pl pa tl) (some (.int 1)) (cH pd si sa hv ha sl sc pl pa tl) := by
  refine pm_semC hl mc_L_plug rfl rfl (Nat.le_of_ble_eq_true rfl) ?_
  have hK := pm_KX_Kd (l := l) (d := d) (h0 := (cH pd si sa hv ha sl sc pl pa tl))
  refine pm_aload_n dL_plug_0 rfl (q := 1) rfl ?_
  refine pm_iload_n dL_plug_1 rfl (q := 2) rfl ?_
  refine pm_iload_n dL_plug_2 rfl (q := 3) rfl ?_
  refine pm_catchV (as := [.int x, .int o]) (pre := []) (y := (0, 6, 9, 13)) (suf := []) (j := 3) (kB_plug_no hl 7 (Nat.le_refl _) _ _ k0) mo_B_plug im_B_plug se_B_plug (pm_in2 (j := 185) rfl rfl) dL_plug_3 (by omega) rfl rfl (Nat.le_of_ble_eq_true rfl) rfl rfl rfl rfl (fun z hz => nomatch hz) rfl ⟨by decide, "java/lang/IllegalArgumentException", (pm_in2 (j := 110) rfl rfl), (pm_nn2 (j := 121) rfl rfl)⟩ (Or.inr ⟨3, rfl, dL_plug_9, rfl⟩) (by decide) (q := 10) rfl ?_
  refine pm_iconst (x := 1) dL_plug_10 (by decide) (q := 11) rfl ?_
  exact pm_retC rfl (Nat.le_of_ble_eq_true rfl) (Nat.le_of_ble_eq_true rfl) dL_plug_11
set_option maxHeartbeats 4000000 in
theorem kL_roll_ok {l : Launch} (hl : l.stackTraces = false) (d : Nat) (hd : 4 ≤ d) {pd : Int32} {si : Nat → Int32} {sa : Nat → Nat → Int32} {hv : Nat → Int32} {ha : Nat → Nat → Nat → Int32} {sl : Int32} {sc : Nat → Nat → Int32} {pl : Int32} {pa : Nat → Nat → Int32} {tl : pm_H} (x : Int32) (k0 : ¬ fhasBox si sa x = 0) (hx : ¬ fw x 0 (si 7 - 1) = 0 → vp_in x 5) : pm_SemC l d mL_roll [.ref 0, .int x] (cH pd si sa hv ha sl sc pl pa tl) (some (.int 0)) (cH 0 si (up1 sa 5 (upd (sa 5) x.toNatClampNeg 1)) (up1 hv 0 0) (up1 ha 0 empA) 0 sc pl pa tl) := by
  refine pm_semC hl mc_L_roll rfl rfl (Nat.le_of_ble_eq_true rfl) ?_
  have hK := pm_KX_Kd (l := l) (d := d) (h0 := (cH pd si sa hv ha sl sc pl pa tl))
  refine pm_aload_n dL_roll_0 rfl (q := 1) rfl ?_
  refine pm_iload_n dL_roll_1 rfl (q := 2) rfl ?_
  refine pm_cV1v hK (kB_roll_ok hl 3 (Nat.le_refl _) _ k0 hx) mo_B_roll im_B_roll se_B_roll lk_L_25 dL_roll_2 (by omega) (Nat.le_of_ble_eq_true rfl) (Nat.zero_le _) (Nat.zero_le _) rfl rfl rfl (q := 5) rfl ?_
  refine pm_goto (tgt := 11) dL_roll_5 rfl ?_
  refine pm_iconst (x := 0) dL_roll_11 (by decide) (q := 12) rfl ?_
  exact pm_retC rfl (Nat.le_of_ble_eq_true rfl) (Nat.le_of_ble_eq_true rfl) dL_roll_12
set_option maxHeartbeats 4000000 in
theorem kL_roll_no {l : Launch} (hl : l.stackTraces = false) (d : Nat) (hd : 8 ≤ d) {pd : Int32} {si : Nat → Int32} {sa : Nat → Nat → Int32} {hv : Nat → Int32} {ha : Nat → Nat → Nat → Int32} {sl : Int32} {sc : Nat → Nat → Int32} {pl : Int32} {pa : Nat → Nat → Int32} {tl : pm_H} (x : Int32) (k0 : fhasBox si sa x = 0) (hx : ¬ fw x 0 (si 7 - 1) = 0 → vp_in x 5) : pm_SemC l d mL_roll [.ref 0, .int x] (cH pd si sa hv ha sl sc pl pa tl) (some (.int 1)) (cH pd si sa hv ha sl sc pl pa tl) := by
  refine pm_semC hl mc_L_roll rfl rfl (Nat.le_of_ble_eq_true rfl) ?_
  have hK := pm_KX_Kd (l := l) (d := d) (h0 := (cH pd si sa hv ha sl sc pl pa tl))
  refine pm_aload_n dL_roll_0 rfl (q := 1) rfl ?_
  refine pm_iload_n dL_roll_1 rfl (q := 2) rfl ?_
  refine pm_catchV (as := [.int x]) (pre := []) (y := (0, 5, 8, 13)) (suf := []) (j := 2) (kB_roll_no hl 7 (Nat.le_refl _) _ k0 hx) mo_B_roll im_B_roll se_B_roll (pm_in2 (j := 224) rfl rfl) dL_roll_2 (by omega) rfl rfl (Nat.le_of_ble_eq_true rfl) rfl rfl rfl rfl (fun z hz => nomatch hz) rfl ⟨by decide, "java/lang/IllegalArgumentException", (pm_in2 (j := 110) rfl rfl), (pm_nn2 (j := 121) rfl rfl)⟩ (Or.inr ⟨2, rfl, dL_roll_8, rfl⟩) (by decide) (q := 9) rfl ?_
  refine pm_iconst (x := 1) dL_roll_9 (by decide) (q := 10) rfl ?_
  exact pm_retC rfl (Nat.le_of_ble_eq_true rfl) (Nat.le_of_ble_eq_true rfl) dL_roll_10
set_option maxHeartbeats 4000000 in
theorem kL_box_ok {l : Launch} (hl : l.stackTraces = false) (d : Nat) (hd : 4 ≤ d) {pd : Int32} {si : Nat → Int32} {sa : Nat → Nat → Int32} {hv : Nat → Int32} {ha : Nat → Nat → Nat → Int32} {sl : Int32} {sc : Nat → Nat → Int32} {pl : Int32} {pa : Nat → Nat → Int32} {tl : pm_H} (x y w k : Int32) {o : Nat → Int64} (hout : tl[17]? = some (pm_l 1 o)) (k0 : ¬ (if ¬ fw x 0 (si 2 - 1) = 0 ∧ ¬ fw y 0 (si 2 - 1) = 0 ∧ x < y then (1 : Int32) else 0) = 0) (k1 : ¬ fw w 1 40 = 0) (k2 : ¬ fw k 0 3 = 0) (k3 : si 7 < 5) (hx : vp_in (si 7) 5) : pm_SemC l d mL_box [.ref 0, .int x, .int y, .int w, .int k, .ref 48] (cH pd si sa hv ha sl sc pl pa tl) (some (.int 0)) (cH 0 (up1 si 7 (si 7 + 1)) (fun j => if j = 1 then upd (sa 1) (si 7).toNatClampNeg x else if j = 2 then upd (sa 2) (si 7).toNatClampNeg y else if j = 3 then upd (sa 3) (si 7).toNatClampNeg w else if j = 4 then upd (sa 4) (si 7).toNatClampNeg k else if j = 5 then upd (sa 5) (si 7).toNatClampNeg 0 else sa j) (up1 hv 0 0) (up1 ha 0 empA) 0 sc pl pa (tl.set 17 (pm_l 1 (vp_updL o 0 (si 7).toInt64)))) := by
  refine pm_semC hl mc_L_box rfl rfl (Nat.le_of_ble_eq_true rfl) ?_
  have hK := pm_KX_Kd (l := l) (d := d) (h0 := (cH pd si sa hv ha sl sc pl pa tl))
  refine pm_aload dL_box_0 rfl (q := 2) rfl ?_
  refine pm_iconst (x := 0) dL_box_2 (by decide) (q := 3) rfl ?_
  refine pm_aload_n dL_box_3 rfl (q := 4) rfl ?_
  refine pm_iload_n dL_box_4 rfl (q := 5) rfl ?_
  refine pm_iload_n dL_box_5 rfl (q := 6) rfl ?_
  refine pm_iload_n dL_box_6 rfl (q := 7) rfl ?_
  refine pm_iload dL_box_7 rfl (q := 9) rfl ?_
  refine pm_cV4i hK (kB_box_ok hl 3 (Nat.le_refl _) _ _ _ _ k0 k1 k2 k3 hx) mo_B_box im_B_box se_B_box lk_L_19 dL_box_9 (by omega) (Nat.le_of_ble_eq_true rfl) (Nat.zero_le _) (Nat.zero_le _) rfl rfl rfl (q := 12) rfl ?_
  refine pm_i2l dL_box_12 (q := 13) rfl ?_
  refine pm_last dL_box_13 hout (by unfold vp_in; decide) (q := 14) rfl ?_
  refine pm_goto (tgt := 25) dL_box_14 rfl ?_
  refine pm_iconst (x := 0) dL_box_25 (by decide) (q := 26) rfl ?_
  exact pm_retC rfl (Nat.le_of_ble_eq_true rfl) (Nat.le_of_ble_eq_true rfl) dL_box_26
set_option maxHeartbeats 4000000 in
theorem kL_box_no {l : Launch} (hl : l.stackTraces = false) (d : Nat) (hd : 8 ≤ d) {pd : Int32} {si : Nat → Int32} {sa : Nat → Nat → Int32} {hv : Nat → Int32} {ha : Nat → Nat → Nat → Int32} {sl : Int32} {sc : Nat → Nat → Int32} {pl : Int32} {pa : Nat → Nat → Int32} {tl : pm_H} (x y w k : Int32) (hno : ¬ (¬ (if ¬ fw x 0 (si 2 - 1) = 0 ∧ ¬ fw y 0 (si 2 - 1) = 0 ∧ x < y then (1 : Int32) else 0) = 0 ∧ ¬ fw w 1 40 = 0 ∧ ¬ fw k 0 3 = 0)) : pm_SemC l d mL_box [.ref 0, .int x, .int y, .int w, .int k, .ref 48] (cH pd si sa hv ha sl sc pl pa tl) (some (.int 1)) (cH pd si sa hv ha sl sc pl pa tl) := by
  refine pm_semC hl mc_L_box rfl rfl (Nat.le_of_ble_eq_true rfl) ?_
  have hK := pm_KX_Kd (l := l) (d := d) (h0 := (cH pd si sa hv ha sl sc pl pa tl))
  refine pm_aload dL_box_0 rfl (q := 2) rfl ?_
  refine pm_iconst (x := 0) dL_box_2 (by decide) (q := 3) rfl ?_
  refine pm_aload_n dL_box_3 rfl (q := 4) rfl ?_
  refine pm_iload_n dL_box_4 rfl (q := 5) rfl ?_
  refine pm_iload_n dL_box_5 rfl (q := 6) rfl ?_
  refine pm_iload_n dL_box_6 rfl (q := 7) rfl ?_
  refine pm_iload dL_box_7 rfl (q := 9) rfl ?_
  refine pm_catchV (as := [.int x, .int y, .int w, .int k]) (pre := []) (y := (0, 14, 17, 13)) (suf := [(0, 14, 21, 23)]) (j := 6) (kB_box_no hl 7 (Nat.le_refl _) _ _ _ _ hno) mo_B_box im_B_box se_B_box (pm_in2 (j := 194) rfl rfl) dL_box_9 (by omega) rfl rfl (Nat.le_of_ble_eq_true rfl) rfl rfl rfl rfl (fun z hz => nomatch hz) rfl ⟨by decide, "java/lang/IllegalArgumentException", (pm_in2 (j := 110) rfl rfl), (pm_nn2 (j := 121) rfl rfl)⟩ (Or.inl ⟨dL_box_17, rfl⟩) (by decide) (q := 19) rfl ?_
  refine pm_iconst (x := 1) dL_box_19 (by decide) (q := 20) rfl ?_
  exact pm_retC rfl (Nat.le_of_ble_eq_true rfl) (Nat.le_of_ble_eq_true rfl) dL_box_20
set_option maxHeartbeats 4000000 in
theorem kL_box_full {l : Launch} (hl : l.stackTraces = false) (d : Nat) (hd : 8 ≤ d) {pd : Int32} {si : Nat → Int32} {sa : Nat → Nat → Int32} {hv : Nat → Int32} {ha : Nat → Nat → Nat → Int32} {sl : Int32} {sc : Nat → Nat → Int32} {pl : Int32} {pa : Nat → Nat → Int32} {tl : pm_H} (x y w k : Int32) (k0 : ¬ (if ¬ fw x 0 (si 2 - 1) = 0 ∧ ¬ fw y 0 (si 2 - 1) = 0 ∧ x < y then (1 : Int32) else 0) = 0) (k1 : ¬ fw w 1 40 = 0) (k2 : ¬ fw k 0 3 = 0) (k3 : ¬ si 7 < 5) : pm_SemC l d mL_box [.ref 0, .int x, .int y, .int w, .int k, .ref 48] (cH pd si sa hv ha sl sc pl pa tl) (some (.int 2)) (cH pd si sa hv ha sl sc pl pa tl) := by
  refine pm_semC hl mc_L_box rfl rfl (Nat.le_of_ble_eq_true rfl) ?_
  have hK := pm_KX_Kd (l := l) (d := d) (h0 := (cH pd si sa hv ha sl sc pl pa tl))
  refine pm_aload dL_box_0 rfl (q := 2) rfl ?_
  refine pm_iconst (x := 0) dL_box_2 (by decide) (q := 3) rfl ?_
  refine pm_aload_n dL_box_3 rfl (q := 4) rfl ?_
  refine pm_iload_n dL_box_4 rfl (q := 5) rfl ?_
  refine pm_iload_n dL_box_5 rfl (q := 6) rfl ?_
  refine pm_iload_n dL_box_6 rfl (q := 7) rfl ?_
  refine pm_iload dL_box_7 rfl (q := 9) rfl ?_
  refine pm_catchV (as := [.int x, .int y, .int w, .int k]) (pre := [(0, 14, 17, 13)]) (y := (0, 14, 21, 23)) (suf := []) (j := 6) (kB_box_full hl 7 (Nat.le_refl _) _ _ _ _ k0 k1 k2 k3) mo_B_box im_B_box se_B_box (pm_in2 (j := 194) rfl rfl) dL_box_9 (by omega) rfl rfl (Nat.le_of_ble_eq_true rfl) rfl rfl rfl rfl (fun z hz => by
      cases List.mem_singleton.mp hz
      exact ⟨rfl, ⟨by decide, "java/lang/IllegalArgumentException", (pm_in2 (j := 110) rfl rfl), List.mem_cons_self⟩⟩) rfl ⟨by decide, "java/lang/IllegalStateException", (pm_in2 (j := 193) rfl rfl), (pm_nn2 (j := 204) rfl rfl)⟩ (Or.inl ⟨dL_box_21, rfl⟩) (by decide) (q := 23) rfl ?_
  refine pm_iconst (x := 2) dL_box_23 (by decide) (q := 24) rfl ?_
  exact pm_retC rfl (Nat.le_of_ble_eq_true rfl) (Nat.le_of_ble_eq_true rfl) dL_box_24
set_option maxHeartbeats 4000000 in
theorem kL_move_0 {l : Launch} (hl : l.stackTraces = false) (d : Nat) (hd : 4 ≤ d) {pd : Int32} {si : Nat → Int32} {sa : Nat → Nat → Int32} {hv : Nat → Int32} {ha : Nat → Nat → Nat → Int32} {sl : Int32} {sc : Nat → Nat → Int32} {pl : Int32} {pa : Nat → Nat → Int32} {tl : pm_H} (x : Int32) {o : Nat → Int64} (hout : tl[17]? = some (pm_l 1 o)) (km : ¬ fw x 0 (sl - 1) = 0) (hx : vp_in x 30) : pm_SemC l d mL_move [.ref 0, .int x, .int 0, .ref 48] (cH pd si sa hv ha sl sc pl pa tl) (some (.int 0)) (cH pd si sa hv ha sl sc pl pa (tl.set 17 (pm_l 1 (vp_updL o 0 (sc 0 x.toNatClampNeg).toInt64)))) := by
  refine pm_semC hl mc_L_move rfl rfl (Nat.le_of_ble_eq_true rfl) ?_
  have hK := pm_KX_Kd (l := l) (d := d) (h0 := (cH pd si sa hv ha sl sc pl pa tl))
  refine pm_aload_n dL_move_0 rfl (q := 1) rfl ?_
  refine pm_iconst (x := 0) dL_move_1 (by decide) (q := 2) rfl ?_
  refine pm_aload_n dL_move_2 rfl (q := 3) rfl ?_
  refine pm_iload_n dL_move_3 rfl (q := 4) rfl ?_
  refine pm_iload_n dL_move_4 rfl (q := 5) rfl ?_
  refine pm_cV2i hK (kB_move_0 hl 3 (Nat.le_refl _) _ km hx) mo_B_move im_B_move se_B_move lk_L_29 dL_move_5 (by omega) (Nat.le_of_ble_eq_true rfl) (Nat.zero_le _) (Nat.zero_le _) rfl rfl rfl (q := 8) rfl ?_
  refine pm_i2l dL_move_8 (q := 9) rfl ?_
  refine pm_last dL_move_9 hout (by unfold vp_in; decide) (q := 10) rfl ?_
  refine pm_goto (tgt := 21) dL_move_10 rfl ?_
  refine pm_iconst (x := 0) dL_move_21 (by decide) (q := 22) rfl ?_
  exact pm_retC rfl (Nat.le_of_ble_eq_true rfl) (Nat.le_of_ble_eq_true rfl) dL_move_22
set_option maxHeartbeats 4000000 in
theorem kL_move_1 {l : Launch} (hl : l.stackTraces = false) (d : Nat) (hd : 4 ≤ d) {pd : Int32} {si : Nat → Int32} {sa : Nat → Nat → Int32} {hv : Nat → Int32} {ha : Nat → Nat → Nat → Int32} {sl : Int32} {sc : Nat → Nat → Int32} {pl : Int32} {pa : Nat → Nat → Int32} {tl : pm_H} (x : Int32) {o : Nat → Int64} (hout : tl[17]? = some (pm_l 1 o)) (km : ¬ fw x 0 (sl - 1) = 0) (hx : vp_in x 30) : pm_SemC l d mL_move [.ref 0, .int x, .int 1, .ref 48] (cH pd si sa hv ha sl sc pl pa tl) (some (.int 0)) (cH pd si sa hv ha sl sc pl pa (tl.set 17 (pm_l 1 (vp_updL o 0 (sc 1 x.toNatClampNeg).toInt64)))) := by
  refine pm_semC hl mc_L_move rfl rfl (Nat.le_of_ble_eq_true rfl) ?_
  have hK := pm_KX_Kd (l := l) (d := d) (h0 := (cH pd si sa hv ha sl sc pl pa tl))
  refine pm_aload_n dL_move_0 rfl (q := 1) rfl ?_
  refine pm_iconst (x := 0) dL_move_1 (by decide) (q := 2) rfl ?_
  refine pm_aload_n dL_move_2 rfl (q := 3) rfl ?_
  refine pm_iload_n dL_move_3 rfl (q := 4) rfl ?_
  refine pm_iload_n dL_move_4 rfl (q := 5) rfl ?_
  refine pm_cV2i hK (kB_move_1 hl 3 (Nat.le_refl _) _ km hx) mo_B_move im_B_move se_B_move lk_L_29 dL_move_5 (by omega) (Nat.le_of_ble_eq_true rfl) (Nat.zero_le _) (Nat.zero_le _) rfl rfl rfl (q := 8) rfl ?_
  refine pm_i2l dL_move_8 (q := 9) rfl ?_
  refine pm_last dL_move_9 hout (by unfold vp_in; decide) (q := 10) rfl ?_
  refine pm_goto (tgt := 21) dL_move_10 rfl ?_
  refine pm_iconst (x := 0) dL_move_21 (by decide) (q := 22) rfl ?_
  exact pm_retC rfl (Nat.le_of_ble_eq_true rfl) (Nat.le_of_ble_eq_true rfl) dL_move_22
set_option maxHeartbeats 4000000 in
theorem kL_move_2 {l : Launch} (hl : l.stackTraces = false) (d : Nat) (hd : 4 ≤ d) {pd : Int32} {si : Nat → Int32} {sa : Nat → Nat → Int32} {hv : Nat → Int32} {ha : Nat → Nat → Nat → Int32} {sl : Int32} {sc : Nat → Nat → Int32} {pl : Int32} {pa : Nat → Nat → Int32} {tl : pm_H} (x : Int32) {o : Nat → Int64} (hout : tl[17]? = some (pm_l 1 o)) (km : ¬ fw x 0 (sl - 1) = 0) (hx : vp_in x 30) : pm_SemC l d mL_move [.ref 0, .int x, .int 2, .ref 48] (cH pd si sa hv ha sl sc pl pa tl) (some (.int 0)) (cH pd si sa hv ha sl sc pl pa (tl.set 17 (pm_l 1 (vp_updL o 0 (sc 2 x.toNatClampNeg).toInt64)))) := by
  refine pm_semC hl mc_L_move rfl rfl (Nat.le_of_ble_eq_true rfl) ?_
  have hK := pm_KX_Kd (l := l) (d := d) (h0 := (cH pd si sa hv ha sl sc pl pa tl))
  refine pm_aload_n dL_move_0 rfl (q := 1) rfl ?_
  refine pm_iconst (x := 0) dL_move_1 (by decide) (q := 2) rfl ?_
  refine pm_aload_n dL_move_2 rfl (q := 3) rfl ?_
  refine pm_iload_n dL_move_3 rfl (q := 4) rfl ?_
  refine pm_iload_n dL_move_4 rfl (q := 5) rfl ?_
  refine pm_cV2i hK (kB_move_2 hl 3 (Nat.le_refl _) _ km hx) mo_B_move im_B_move se_B_move lk_L_29 dL_move_5 (by omega) (Nat.le_of_ble_eq_true rfl) (Nat.zero_le _) (Nat.zero_le _) rfl rfl rfl (q := 8) rfl ?_
  refine pm_i2l dL_move_8 (q := 9) rfl ?_
  refine pm_last dL_move_9 hout (by unfold vp_in; decide) (q := 10) rfl ?_
  refine pm_goto (tgt := 21) dL_move_10 rfl ?_
  refine pm_iconst (x := 0) dL_move_21 (by decide) (q := 22) rfl ?_
  exact pm_retC rfl (Nat.le_of_ble_eq_true rfl) (Nat.le_of_ble_eq_true rfl) dL_move_22
set_option maxHeartbeats 4000000 in
theorem kL_move_3 {l : Launch} (hl : l.stackTraces = false) (d : Nat) (hd : 4 ≤ d) {pd : Int32} {si : Nat → Int32} {sa : Nat → Nat → Int32} {hv : Nat → Int32} {ha : Nat → Nat → Nat → Int32} {sl : Int32} {sc : Nat → Nat → Int32} {pl : Int32} {pa : Nat → Nat → Int32} {tl : pm_H} (x : Int32) {o : Nat → Int64} (hout : tl[17]? = some (pm_l 1 o)) (km : ¬ fw x 0 (sl - 1) = 0) (hx : vp_in x 30) : pm_SemC l d mL_move [.ref 0, .int x, .int 3, .ref 48] (cH pd si sa hv ha sl sc pl pa tl) (some (.int 0)) (cH pd si sa hv ha sl sc pl pa (tl.set 17 (pm_l 1 (vp_updL o 0 (sc 3 x.toNatClampNeg).toInt64)))) := by
  refine pm_semC hl mc_L_move rfl rfl (Nat.le_of_ble_eq_true rfl) ?_
  have hK := pm_KX_Kd (l := l) (d := d) (h0 := (cH pd si sa hv ha sl sc pl pa tl))
  refine pm_aload_n dL_move_0 rfl (q := 1) rfl ?_
  refine pm_iconst (x := 0) dL_move_1 (by decide) (q := 2) rfl ?_
  refine pm_aload_n dL_move_2 rfl (q := 3) rfl ?_
  refine pm_iload_n dL_move_3 rfl (q := 4) rfl ?_
  refine pm_iload_n dL_move_4 rfl (q := 5) rfl ?_
  refine pm_cV2i hK (kB_move_3 hl 3 (Nat.le_refl _) _ km hx) mo_B_move im_B_move se_B_move lk_L_29 dL_move_5 (by omega) (Nat.le_of_ble_eq_true rfl) (Nat.zero_le _) (Nat.zero_le _) rfl rfl rfl (q := 8) rfl ?_
  refine pm_i2l dL_move_8 (q := 9) rfl ?_
  refine pm_last dL_move_9 hout (by unfold vp_in; decide) (q := 10) rfl ?_
  refine pm_goto (tgt := 21) dL_move_10 rfl ?_
  refine pm_iconst (x := 0) dL_move_21 (by decide) (q := 22) rfl ?_
  exact pm_retC rfl (Nat.le_of_ble_eq_true rfl) (Nat.le_of_ble_eq_true rfl) dL_move_22
set_option maxHeartbeats 4000000 in
theorem kL_move_no {l : Launch} (hl : l.stackTraces = false) (d : Nat) (hd : 8 ≤ d) {pd : Int32} {si : Nat → Int32} {sa : Nat → Nat → Int32} {hv : Nat → Int32} {ha : Nat → Nat → Nat → Int32} {sl : Int32} {sc : Nat → Nat → Int32} {pl : Int32} {pa : Nat → Nat → Int32} {tl : pm_H} (x y : Int32) (km : fw x 0 (sl - 1) = 0) : pm_SemC l d mL_move [.ref 0, .int x, .int y, .ref 48] (cH pd si sa hv ha sl sc pl pa tl) (some (.int 1)) (cH pd si sa hv ha sl sc pl pa tl) := by
  refine pm_semC hl mc_L_move rfl rfl (Nat.le_of_ble_eq_true rfl) ?_
  have hK := pm_KX_Kd (l := l) (d := d) (h0 := (cH pd si sa hv ha sl sc pl pa tl))
  refine pm_aload_n dL_move_0 rfl (q := 1) rfl ?_
  refine pm_iconst (x := 0) dL_move_1 (by decide) (q := 2) rfl ?_
  refine pm_aload_n dL_move_2 rfl (q := 3) rfl ?_
  refine pm_iload_n dL_move_3 rfl (q := 4) rfl ?_
  refine pm_iload_n dL_move_4 rfl (q := 5) rfl ?_
  refine pm_catchV (as := [.int x, .int y]) (pre := []) (y := (0, 10, 13, 33)) (suf := [(0, 10, 17, 13)]) (j := 4) (kB_move_no hl 7 (Nat.le_refl _) _ _ km) mo_B_move im_B_move se_B_move (pm_in2 (j := 236) rfl rfl) dL_move_5 (by omega) rfl rfl (Nat.le_of_ble_eq_true rfl) rfl rfl rfl rfl (fun z hz => nomatch hz) rfl ⟨by decide, "java/lang/IndexOutOfBoundsException", (pm_in2 (j := 235) rfl rfl), (pm_nn3 (j := 11) rfl rfl)⟩ (Or.inl ⟨dL_move_13, rfl⟩) (by decide) (q := 15) rfl ?_
  refine pm_iconst (x := 1) dL_move_15 (by decide) (q := 16) rfl ?_
  exact pm_retC rfl (Nat.le_of_ble_eq_true rfl) (Nat.le_of_ble_eq_true rfl) dL_move_16
set_option maxHeartbeats 4000000 in
theorem kL_move_bad {l : Launch} (hl : l.stackTraces = false) (d : Nat) (hd : 8 ≤ d) {pd : Int32} {si : Nat → Int32} {sa : Nat → Nat → Int32} {hv : Nat → Int32} {ha : Nat → Nat → Nat → Int32} {sl : Int32} {sc : Nat → Nat → Int32} {pl : Int32} {pa : Nat → Nat → Int32} {tl : pm_H} (x y : Int32) (km : ¬ fw x 0 (sl - 1) = 0) (hy : y.toInt < 0 ∨ 3 < y.toInt) : pm_SemC l d mL_move [.ref 0, .int x, .int y, .ref 48] (cH pd si sa hv ha sl sc pl pa tl) (some (.int 2)) (cH pd si sa hv ha sl sc pl pa tl) := by
  refine pm_semC hl mc_L_move rfl rfl (Nat.le_of_ble_eq_true rfl) ?_
  have hK := pm_KX_Kd (l := l) (d := d) (h0 := (cH pd si sa hv ha sl sc pl pa tl))
  refine pm_aload_n dL_move_0 rfl (q := 1) rfl ?_
  refine pm_iconst (x := 0) dL_move_1 (by decide) (q := 2) rfl ?_
  refine pm_aload_n dL_move_2 rfl (q := 3) rfl ?_
  refine pm_iload_n dL_move_3 rfl (q := 4) rfl ?_
  refine pm_iload_n dL_move_4 rfl (q := 5) rfl ?_
  refine pm_catchV (as := [.int x, .int y]) (pre := [(0, 10, 13, 33)]) (y := (0, 10, 17, 13)) (suf := []) (j := 4) (kB_move_bad hl 7 (Nat.le_refl _) _ _ km hy) mo_B_move im_B_move se_B_move (pm_in2 (j := 236) rfl rfl) dL_move_5 (by omega) rfl rfl (Nat.le_of_ble_eq_true rfl) rfl rfl rfl rfl (fun z hz => by
      cases List.mem_singleton.mp hz
      exact ⟨rfl, ⟨by decide, "java/lang/IndexOutOfBoundsException", (pm_in2 (j := 235) rfl rfl), (List.mem_cons_of_mem _ List.mem_cons_self)⟩⟩) rfl ⟨by decide, "java/lang/IllegalArgumentException", (pm_in2 (j := 110) rfl rfl), (pm_nn2 (j := 121) rfl rfl)⟩ (Or.inl ⟨dL_move_17, rfl⟩) (by decide) (q := 19) rfl ?_
  refine pm_iconst (x := 2) dL_move_19 (by decide) (q := 20) rfl ?_
  exact pm_retC rfl (Nat.le_of_ble_eq_true rfl) (Nat.le_of_ble_eq_true rfl) dL_move_20
set_option maxHeartbeats 4000000 in
theorem kL_hand_ok {l : Launch} (hl : l.stackTraces = false) (d : Nat) (hd : 4 ≤ d) {pd : Int32} {si : Nat → Int32} {sa : Nat → Nat → Int32} {hv : Nat → Int32} {ha : Nat → Nat → Nat → Int32} {sl : Int32} {sc : Nat → Nat → Int32} {pl : Int32} {pa : Nat → Nat → Int32} {tl : pm_H} (x y : Int32) (km : ¬ fw x 0 (sl - 1) = 0) (hx : vp_in x 30) (k0 : ¬ (if ¬ fw y 0 2 = 0 ∧ ¬ ne1 (sc 3 x.toNatClampNeg) = 0 then (1 : Int32) else 0) = 0) : pm_SemC l d mL_hand [.ref 0, .int x, .int y] (cH pd si sa hv ha sl sc pl pa tl) (some (.int 0)) (cH pd si sa hv ha sl (up1 sc 3 (upd (sc 3) x.toNatClampNeg y)) pl pa tl) := by
  refine pm_semC hl mc_L_hand rfl rfl (Nat.le_of_ble_eq_true rfl) ?_
  have hK := pm_KX_Kd (l := l) (d := d) (h0 := (cH pd si sa hv ha sl sc pl pa tl))
  refine pm_aload_n dL_hand_0 rfl (q := 1) rfl ?_
  refine pm_iload_n dL_hand_1 rfl (q := 2) rfl ?_
  refine pm_iload_n dL_hand_2 rfl (q := 3) rfl ?_
  refine pm_cV2v hK (kB_hand_ok hl 3 (Nat.le_refl _) _ _ km hx k0) mo_B_hand im_B_hand se_B_hand lk_L_35 dL_hand_3 (by omega) (Nat.le_of_ble_eq_true rfl) (Nat.zero_le _) (Nat.zero_le _) rfl rfl rfl (q := 6) rfl ?_
  refine pm_goto (tgt := 15) dL_hand_6 rfl ?_
  refine pm_iconst (x := 0) dL_hand_15 (by decide) (q := 16) rfl ?_
  exact pm_retC rfl (Nat.le_of_ble_eq_true rfl) (Nat.le_of_ble_eq_true rfl) dL_hand_16
set_option maxHeartbeats 4000000 in
theorem kL_hand_no {l : Launch} (hl : l.stackTraces = false) (d : Nat) (hd : 8 ≤ d) {pd : Int32} {si : Nat → Int32} {sa : Nat → Nat → Int32} {hv : Nat → Int32} {ha : Nat → Nat → Nat → Int32} {sl : Int32} {sc : Nat → Nat → Int32} {pl : Int32} {pa : Nat → Nat → Int32} {tl : pm_H} (x y : Int32) (km : fw x 0 (sl - 1) = 0) : pm_SemC l d mL_hand [.ref 0, .int x, .int y] (cH pd si sa hv ha sl sc pl pa tl) (some (.int 1)) (cH pd si sa hv ha sl sc pl pa tl) := by
  refine pm_semC hl mc_L_hand rfl rfl (Nat.le_of_ble_eq_true rfl) ?_
  have hK := pm_KX_Kd (l := l) (d := d) (h0 := (cH pd si sa hv ha sl sc pl pa tl))
  refine pm_aload_n dL_hand_0 rfl (q := 1) rfl ?_
  refine pm_iload_n dL_hand_1 rfl (q := 2) rfl ?_
  refine pm_iload_n dL_hand_2 rfl (q := 3) rfl ?_
  refine pm_catchV (as := [.int x, .int y]) (pre := []) (y := (0, 6, 9, 33)) (suf := [(0, 6, 12, 13)]) (j := 3) (kB_hand_no hl 7 (Nat.le_refl _) _ _ km) mo_B_hand im_B_hand se_B_hand (pm_in3 (j := 27) rfl rfl) dL_hand_3 (by omega) rfl rfl (Nat.le_of_ble_eq_true rfl) rfl rfl rfl rfl (fun z hz => nomatch hz) rfl ⟨by decide, "java/lang/IndexOutOfBoundsException", (pm_in2 (j := 235) rfl rfl), (pm_nn3 (j := 11) rfl rfl)⟩ (Or.inr ⟨3, rfl, dL_hand_9, rfl⟩) (by decide) (q := 10) rfl ?_
  refine pm_iconst (x := 1) dL_hand_10 (by decide) (q := 11) rfl ?_
  exact pm_retC rfl (Nat.le_of_ble_eq_true rfl) (Nat.le_of_ble_eq_true rfl) dL_hand_11
set_option maxHeartbeats 4000000 in
theorem kL_hand_bad {l : Launch} (hl : l.stackTraces = false) (d : Nat) (hd : 8 ≤ d) {pd : Int32} {si : Nat → Int32} {sa : Nat → Nat → Int32} {hv : Nat → Int32} {ha : Nat → Nat → Nat → Int32} {sl : Int32} {sc : Nat → Nat → Int32} {pl : Int32} {pa : Nat → Nat → Int32} {tl : pm_H} (x y : Int32) (km : ¬ fw x 0 (sl - 1) = 0) (hx : vp_in x 30) (k0 : (if ¬ fw y 0 2 = 0 ∧ ¬ ne1 (sc 3 x.toNatClampNeg) = 0 then (1 : Int32) else 0) = 0) : pm_SemC l d mL_hand [.ref 0, .int x, .int y] (cH pd si sa hv ha sl sc pl pa tl) (some (.int 2)) (cH pd si sa hv ha sl sc pl pa tl) := by
  refine pm_semC hl mc_L_hand rfl rfl (Nat.le_of_ble_eq_true rfl) ?_
  have hK := pm_KX_Kd (l := l) (d := d) (h0 := (cH pd si sa hv ha sl sc pl pa tl))
  refine pm_aload_n dL_hand_0 rfl (q := 1) rfl ?_
  refine pm_iload_n dL_hand_1 rfl (q := 2) rfl ?_
  refine pm_iload_n dL_hand_2 rfl (q := 3) rfl ?_
  refine pm_catchV (as := [.int x, .int y]) (pre := [(0, 6, 9, 33)]) (y := (0, 6, 12, 13)) (suf := []) (j := 3) (kB_hand_bad hl 7 (Nat.le_refl _) _ _ km hx k0) mo_B_hand im_B_hand se_B_hand (pm_in3 (j := 27) rfl rfl) dL_hand_3 (by omega) rfl rfl (Nat.le_of_ble_eq_true rfl) rfl rfl rfl rfl (fun z hz => by
      cases List.mem_singleton.mp hz
      exact ⟨rfl, ⟨by decide, "java/lang/IndexOutOfBoundsException", (pm_in2 (j := 235) rfl rfl), (List.mem_cons_of_mem _ List.mem_cons_self)⟩⟩) rfl ⟨by decide, "java/lang/IllegalArgumentException", (pm_in2 (j := 110) rfl rfl), (pm_nn2 (j := 121) rfl rfl)⟩ (Or.inr ⟨3, rfl, dL_hand_12, rfl⟩) (by decide) (q := 13) rfl ?_
  refine pm_iconst (x := 2) dL_hand_13 (by decide) (q := 14) rfl ?_
  exact pm_retC rfl (Nat.le_of_ble_eq_true rfl) (Nat.le_of_ble_eq_true rfl) dL_hand_14
set_option maxHeartbeats 4000000 in
theorem kL_slot_ok {l : Launch} (hl : l.stackTraces = false) (d : Nat) (hd : 4 ≤ d) {pd : Int32} {si : Nat → Int32} {sa : Nat → Nat → Int32} {hv : Nat → Int32} {ha : Nat → Nat → Nat → Int32} {sl : Int32} {sc : Nat → Nat → Int32} {pl : Int32} {pa : Nat → Nat → Int32} {tl : pm_H} (x y : Int32) {o : Nat → Int64} (hout : tl[17]? = some (pm_l 1 o)) (hx : vp_in (x * 3 + y) 9) (k0 : ¬ (if ¬ fw x 0 (si 0 - 1) = 0 ∧ ¬ fw y 0 (si 1 - 1) = 0 then (1 : Int32) else 0) = 0) : pm_SemC l d mL_slot [.ref 0, .int x, .int y, .ref 48] (cH pd si sa hv ha sl sc pl pa tl) (some (.int 0)) (cH pd si sa hv ha sl sc pl pa (tl.set 17 (pm_l 1 (vp_updL o 0 (ha 0 0 (x * 3 + y).toNatClampNeg).toInt64)))) := by
  refine pm_semC hl mc_L_slot rfl rfl (Nat.le_of_ble_eq_true rfl) ?_
  have hK := pm_KX_Kd (l := l) (d := d) (h0 := (cH pd si sa hv ha sl sc pl pa tl))
  refine pm_aload_n dL_slot_0 rfl (q := 1) rfl ?_
  refine pm_iconst (x := 0) dL_slot_1 (by decide) (q := 2) rfl ?_
  refine pm_aload_n dL_slot_2 rfl (q := 3) rfl ?_
  refine pm_iload_n dL_slot_3 rfl (q := 4) rfl ?_
  refine pm_iload_n dL_slot_4 rfl (q := 5) rfl ?_
  refine pm_cV2i hK (kB_slot_ok hl 3 (Nat.le_refl _) _ _ hx k0) mo_B_slot im_B_slot se_B_slot lk_L_43 dL_slot_5 (by omega) (Nat.le_of_ble_eq_true rfl) (Nat.zero_le _) (Nat.zero_le _) rfl rfl rfl (q := 8) rfl ?_
  refine pm_i2l dL_slot_8 (q := 9) rfl ?_
  refine pm_last dL_slot_9 hout (by unfold vp_in; decide) (q := 10) rfl ?_
  refine pm_goto (tgt := 17) dL_slot_10 rfl ?_
  refine pm_iconst (x := 0) dL_slot_17 (by decide) (q := 18) rfl ?_
  exact pm_retC rfl (Nat.le_of_ble_eq_true rfl) (Nat.le_of_ble_eq_true rfl) dL_slot_18
set_option maxHeartbeats 4000000 in
theorem kL_slot_no {l : Launch} (hl : l.stackTraces = false) (d : Nat) (hd : 8 ≤ d) {pd : Int32} {si : Nat → Int32} {sa : Nat → Nat → Int32} {hv : Nat → Int32} {ha : Nat → Nat → Nat → Int32} {sl : Int32} {sc : Nat → Nat → Int32} {pl : Int32} {pa : Nat → Nat → Int32} {tl : pm_H} (x y : Int32) (k0 : (if ¬ fw x 0 (si 0 - 1) = 0 ∧ ¬ fw y 0 (si 1 - 1) = 0 then (1 : Int32) else 0) = 0) : pm_SemC l d mL_slot [.ref 0, .int x, .int y, .ref 48] (cH pd si sa hv ha sl sc pl pa tl) (some (.int 1)) (cH pd si sa hv ha sl sc pl pa tl) := by
  refine pm_semC hl mc_L_slot rfl rfl (Nat.le_of_ble_eq_true rfl) ?_
  have hK := pm_KX_Kd (l := l) (d := d) (h0 := (cH pd si sa hv ha sl sc pl pa tl))
  refine pm_aload_n dL_slot_0 rfl (q := 1) rfl ?_
  refine pm_iconst (x := 0) dL_slot_1 (by decide) (q := 2) rfl ?_
  refine pm_aload_n dL_slot_2 rfl (q := 3) rfl ?_
  refine pm_iload_n dL_slot_3 rfl (q := 4) rfl ?_
  refine pm_iload_n dL_slot_4 rfl (q := 5) rfl ?_
  refine pm_catchV (as := [.int x, .int y]) (pre := []) (y := (0, 10, 13, 13)) (suf := []) (j := 4) (kB_slot_no hl 7 (Nat.le_refl _) _ _ k0) mo_B_slot im_B_slot se_B_slot (pm_in3 (j := 73) rfl rfl) dL_slot_5 (by omega) rfl rfl (Nat.le_of_ble_eq_true rfl) rfl rfl rfl rfl (fun z hz => nomatch hz) rfl ⟨by decide, "java/lang/IllegalArgumentException", (pm_in2 (j := 110) rfl rfl), (pm_nn2 (j := 121) rfl rfl)⟩ (Or.inl ⟨dL_slot_13, rfl⟩) (by decide) (q := 15) rfl ?_
  refine pm_iconst (x := 1) dL_slot_15 (by decide) (q := 16) rfl ?_
  exact pm_retC rfl (Nat.le_of_ble_eq_true rfl) (Nat.le_of_ble_eq_true rfl) dL_slot_16
set_option maxHeartbeats 4000000 in
theorem kL_moment_0 {l : Launch} (hl : l.stackTraces = false) (d : Nat) (hd : 4 ≤ d) {pd : Int32} {si : Nat → Int32} {sa : Nat → Nat → Int32} {hv : Nat → Int32} {ha : Nat → Nat → Nat → Int32} {sl : Int32} {sc : Nat → Nat → Int32} {pl : Int32} {pa : Nat → Nat → Int32} {tl : pm_H} {o : Nat → Int64} (hout : tl[17]? = some (pm_l 1 o)) : pm_SemC l d mL_moment [.ref 0, .int 0, .ref 48] (cH pd si sa hv ha sl sc pl pa tl) (some (.int 0)) (cH pd si sa hv ha sl sc pl pa (tl.set 17 (pm_l 1 (vp_updL o 0 (hv 0).toInt64)))) := by
  refine pm_semC hl mc_L_moment rfl rfl (Nat.le_of_ble_eq_true rfl) ?_
  have hK := pm_KX_Kd (l := l) (d := d) (h0 := (cH pd si sa hv ha sl sc pl pa tl))
  refine pm_aload_n dL_moment_0 rfl (q := 1) rfl ?_
  refine pm_iconst (x := 0) dL_moment_1 (by decide) (q := 2) rfl ?_
  refine pm_aload_n dL_moment_2 rfl (q := 3) rfl ?_
  refine pm_iload_n dL_moment_3 rfl (q := 4) rfl ?_
  refine pm_cV1i hK (kB_moment_0 hl 0) mo_B_moment im_B_moment se_B_moment lk_L_46 dL_moment_4 (by omega) (Nat.le_of_ble_eq_true rfl) (Nat.zero_le _) (Nat.zero_le _) rfl rfl rfl (q := 7) rfl ?_
  refine pm_i2l dL_moment_7 (q := 8) rfl ?_
  refine pm_last dL_moment_8 hout (by unfold vp_in; decide) (q := 9) rfl ?_
  refine pm_goto (tgt := 15) dL_moment_9 rfl ?_
  refine pm_iconst (x := 0) dL_moment_15 (by decide) (q := 16) rfl ?_
  exact pm_retC rfl (Nat.le_of_ble_eq_true rfl) (Nat.le_of_ble_eq_true rfl) dL_moment_16
set_option maxHeartbeats 4000000 in
theorem kL_moment_1 {l : Launch} (hl : l.stackTraces = false) (d : Nat) (hd : 4 ≤ d) {pd : Int32} {si : Nat → Int32} {sa : Nat → Nat → Int32} {hv : Nat → Int32} {ha : Nat → Nat → Nat → Int32} {sl : Int32} {sc : Nat → Nat → Int32} {pl : Int32} {pa : Nat → Nat → Int32} {tl : pm_H} {o : Nat → Int64} (hout : tl[17]? = some (pm_l 1 o)) {S : Nat} (hs : si 0 = nI S) (hS3 : S ≤ 3) : pm_SemC l d mL_moment [.ref 0, .int 1, .ref 48] (cH pd si sa hv ha sl sc pl pa tl) (some (.int 0)) (cH pd si sa hv ha sl sc pl pa (tl.set 17 (pm_l 1 (vp_updL o 0 (fsl si (ha 0 2) S).toInt64)))) := by
  refine pm_semC hl mc_L_moment rfl rfl (Nat.le_of_ble_eq_true rfl) ?_
  have hK := pm_KX_Kd (l := l) (d := d) (h0 := (cH pd si sa hv ha sl sc pl pa tl))
  refine pm_aload_n dL_moment_0 rfl (q := 1) rfl ?_
  refine pm_iconst (x := 0) dL_moment_1 (by decide) (q := 2) rfl ?_
  refine pm_aload_n dL_moment_2 rfl (q := 3) rfl ?_
  refine pm_iload_n dL_moment_3 rfl (q := 4) rfl ?_
  refine pm_cV1i hK (kB_moment_1 hl 1 (Nat.le_refl _) hs hS3) mo_B_moment im_B_moment se_B_moment lk_L_46 dL_moment_4 (by omega) (Nat.le_of_ble_eq_true rfl) (Nat.zero_le _) (Nat.zero_le _) rfl rfl rfl (q := 7) rfl ?_
  refine pm_i2l dL_moment_7 (q := 8) rfl ?_
  refine pm_last dL_moment_8 hout (by unfold vp_in; decide) (q := 9) rfl ?_
  refine pm_goto (tgt := 15) dL_moment_9 rfl ?_
  refine pm_iconst (x := 0) dL_moment_15 (by decide) (q := 16) rfl ?_
  exact pm_retC rfl (Nat.le_of_ble_eq_true rfl) (Nat.le_of_ble_eq_true rfl) dL_moment_16
set_option maxHeartbeats 4000000 in
theorem kL_moment_2 {l : Launch} (hl : l.stackTraces = false) (d : Nat) (hd : 4 ≤ d) {pd : Int32} {si : Nat → Int32} {sa : Nat → Nat → Int32} {hv : Nat → Int32} {ha : Nat → Nat → Nat → Int32} {sl : Int32} {sc : Nat → Nat → Int32} {pl : Int32} {pa : Nat → Nat → Int32} {tl : pm_H} {o : Nat → Int64} (hout : tl[17]? = some (pm_l 1 o)) : pm_SemC l d mL_moment [.ref 0, .int 2, .ref 48] (cH pd si sa hv ha sl sc pl pa tl) (some (.int 0)) (cH pd si sa hv ha sl sc pl pa (tl.set 17 (pm_l 1 (vp_updL o 0 (ha 0 2 0).toInt64)))) := by
  refine pm_semC hl mc_L_moment rfl rfl (Nat.le_of_ble_eq_true rfl) ?_
  have hK := pm_KX_Kd (l := l) (d := d) (h0 := (cH pd si sa hv ha sl sc pl pa tl))
  refine pm_aload_n dL_moment_0 rfl (q := 1) rfl ?_
  refine pm_iconst (x := 0) dL_moment_1 (by decide) (q := 2) rfl ?_
  refine pm_aload_n dL_moment_2 rfl (q := 3) rfl ?_
  refine pm_iload_n dL_moment_3 rfl (q := 4) rfl ?_
  refine pm_cV1i hK (kB_moment_2 hl 0) mo_B_moment im_B_moment se_B_moment lk_L_46 dL_moment_4 (by omega) (Nat.le_of_ble_eq_true rfl) (Nat.zero_le _) (Nat.zero_le _) rfl rfl rfl (q := 7) rfl ?_
  refine pm_i2l dL_moment_7 (q := 8) rfl ?_
  refine pm_last dL_moment_8 hout (by unfold vp_in; decide) (q := 9) rfl ?_
  refine pm_goto (tgt := 15) dL_moment_9 rfl ?_
  refine pm_iconst (x := 0) dL_moment_15 (by decide) (q := 16) rfl ?_
  exact pm_retC rfl (Nat.le_of_ble_eq_true rfl) (Nat.le_of_ble_eq_true rfl) dL_moment_16
set_option maxHeartbeats 4000000 in
theorem kL_moment_3 {l : Launch} (hl : l.stackTraces = false) (d : Nat) (hd : 4 ≤ d) {pd : Int32} {si : Nat → Int32} {sa : Nat → Nat → Int32} {hv : Nat → Int32} {ha : Nat → Nat → Nat → Int32} {sl : Int32} {sc : Nat → Nat → Int32} {pl : Int32} {pa : Nat → Nat → Int32} {tl : pm_H} {o : Nat → Int64} (hout : tl[17]? = some (pm_l 1 o)) : pm_SemC l d mL_moment [.ref 0, .int 3, .ref 48] (cH pd si sa hv ha sl sc pl pa tl) (some (.int 0)) (cH pd si sa hv ha sl sc pl pa (tl.set 17 (pm_l 1 (vp_updL o 0 (ha 0 2 1).toInt64)))) := by
  refine pm_semC hl mc_L_moment rfl rfl (Nat.le_of_ble_eq_true rfl) ?_
  have hK := pm_KX_Kd (l := l) (d := d) (h0 := (cH pd si sa hv ha sl sc pl pa tl))
  refine pm_aload_n dL_moment_0 rfl (q := 1) rfl ?_
  refine pm_iconst (x := 0) dL_moment_1 (by decide) (q := 2) rfl ?_
  refine pm_aload_n dL_moment_2 rfl (q := 3) rfl ?_
  refine pm_iload_n dL_moment_3 rfl (q := 4) rfl ?_
  refine pm_cV1i hK (kB_moment_3 hl 0) mo_B_moment im_B_moment se_B_moment lk_L_46 dL_moment_4 (by omega) (Nat.le_of_ble_eq_true rfl) (Nat.zero_le _) (Nat.zero_le _) rfl rfl rfl (q := 7) rfl ?_
  refine pm_i2l dL_moment_7 (q := 8) rfl ?_
  refine pm_last dL_moment_8 hout (by unfold vp_in; decide) (q := 9) rfl ?_
  refine pm_goto (tgt := 15) dL_moment_9 rfl ?_
  refine pm_iconst (x := 0) dL_moment_15 (by decide) (q := 16) rfl ?_
  exact pm_retC rfl (Nat.le_of_ble_eq_true rfl) (Nat.le_of_ble_eq_true rfl) dL_moment_16
set_option maxHeartbeats 4000000 in
theorem kL_moment_4 {l : Launch} (hl : l.stackTraces = false) (d : Nat) (hd : 4 ≤ d) {pd : Int32} {si : Nat → Int32} {sa : Nat → Nat → Int32} {hv : Nat → Int32} {ha : Nat → Nat → Nat → Int32} {sl : Int32} {sc : Nat → Nat → Int32} {pl : Int32} {pa : Nat → Nat → Int32} {tl : pm_H} {o : Nat → Int64} (hout : tl[17]? = some (pm_l 1 o)) : pm_SemC l d mL_moment [.ref 0, .int 4, .ref 48] (cH pd si sa hv ha sl sc pl pa tl) (some (.int 0)) (cH pd si sa hv ha sl sc pl pa (tl.set 17 (pm_l 1 (vp_updL o 0 (ha 0 2 2).toInt64)))) := by
  refine pm_semC hl mc_L_moment rfl rfl (Nat.le_of_ble_eq_true rfl) ?_
  have hK := pm_KX_Kd (l := l) (d := d) (h0 := (cH pd si sa hv ha sl sc pl pa tl))
  refine pm_aload_n dL_moment_0 rfl (q := 1) rfl ?_
  refine pm_iconst (x := 0) dL_moment_1 (by decide) (q := 2) rfl ?_
  refine pm_aload_n dL_moment_2 rfl (q := 3) rfl ?_
  refine pm_iload_n dL_moment_3 rfl (q := 4) rfl ?_
  refine pm_cV1i hK (kB_moment_4 hl 0) mo_B_moment im_B_moment se_B_moment lk_L_46 dL_moment_4 (by omega) (Nat.le_of_ble_eq_true rfl) (Nat.zero_le _) (Nat.zero_le _) rfl rfl rfl (q := 7) rfl ?_
  refine pm_i2l dL_moment_7 (q := 8) rfl ?_
  refine pm_last dL_moment_8 hout (by unfold vp_in; decide) (q := 9) rfl ?_
  refine pm_goto (tgt := 15) dL_moment_9 rfl ?_
  refine pm_iconst (x := 0) dL_moment_15 (by decide) (q := 16) rfl ?_
  exact pm_retC rfl (Nat.le_of_ble_eq_true rfl) (Nat.le_of_ble_eq_true rfl) dL_moment_16
set_option maxHeartbeats 4000000 in
theorem kL_moment_5 {l : Launch} (hl : l.stackTraces = false) (d : Nat) (hd : 4 ≤ d) {pd : Int32} {si : Nat → Int32} {sa : Nat → Nat → Int32} {hv : Nat → Int32} {ha : Nat → Nat → Nat → Int32} {sl : Int32} {sc : Nat → Nat → Int32} {pl : Int32} {pa : Nat → Nat → Int32} {tl : pm_H} {o : Nat → Int64} (hout : tl[17]? = some (pm_l 1 o)) {S : Nat} (HO : HoldOk si (ha 0 0) (ha 0 1) S) : pm_SemC l d mL_moment [.ref 0, .int 5, .ref 48] (cH pd si sa hv ha sl sc pl pa tl) (some (.int 0)) (cH pd si sa hv ha sl sc pl pa (tl.set 17 (pm_l 1 (vp_updL o 0 (fsound si (ha 0 0) (ha 0 1) (ha 0 2) sa (hv 0) S).toInt64)))) := by
  refine pm_semC hl mc_L_moment rfl rfl (Nat.le_of_ble_eq_true rfl) ?_
  have hK := pm_KX_Kd (l := l) (d := d) (h0 := (cH pd si sa hv ha sl sc pl pa tl))
  refine pm_aload_n dL_moment_0 rfl (q := 1) rfl ?_
  refine pm_iconst (x := 0) dL_moment_1 (by decide) (q := 2) rfl ?_
  refine pm_aload_n dL_moment_2 rfl (q := 3) rfl ?_
  refine pm_iload_n dL_moment_3 rfl (q := 4) rfl ?_
  refine pm_cV1i hK (kB_moment_5 hl 3 (Nat.le_refl _) HO) mo_B_moment im_B_moment se_B_moment lk_L_46 dL_moment_4 (by omega) (Nat.le_of_ble_eq_true rfl) (Nat.zero_le _) (Nat.zero_le _) rfl rfl rfl (q := 7) rfl ?_
  refine pm_i2l dL_moment_7 (q := 8) rfl ?_
  refine pm_last dL_moment_8 hout (by unfold vp_in; decide) (q := 9) rfl ?_
  refine pm_goto (tgt := 15) dL_moment_9 rfl ?_
  refine pm_iconst (x := 0) dL_moment_15 (by decide) (q := 16) rfl ?_
  exact pm_retC rfl (Nat.le_of_ble_eq_true rfl) (Nat.le_of_ble_eq_true rfl) dL_moment_16
set_option maxHeartbeats 4000000 in
theorem kL_moment_no {l : Launch} (hl : l.stackTraces = false) (d : Nat) (hd : 8 ≤ d) {pd : Int32} {si : Nat → Int32} {sa : Nat → Nat → Int32} {hv : Nat → Int32} {ha : Nat → Nat → Nat → Int32} {sl : Int32} {sc : Nat → Nat → Int32} {pl : Int32} {pa : Nat → Nat → Int32} {tl : pm_H} (x : Int32) (hw : x.toInt < 0 ∨ 5 < x.toInt) : pm_SemC l d mL_moment [.ref 0, .int x, .ref 48] (cH pd si sa hv ha sl sc pl pa tl) (some (.int 1)) (cH pd si sa hv ha sl sc pl pa tl) := by
  refine pm_semC hl mc_L_moment rfl rfl (Nat.le_of_ble_eq_true rfl) ?_
  have hK := pm_KX_Kd (l := l) (d := d) (h0 := (cH pd si sa hv ha sl sc pl pa tl))
  refine pm_aload_n dL_moment_0 rfl (q := 1) rfl ?_
  refine pm_iconst (x := 0) dL_moment_1 (by decide) (q := 2) rfl ?_
  refine pm_aload_n dL_moment_2 rfl (q := 3) rfl ?_
  refine pm_iload_n dL_moment_3 rfl (q := 4) rfl ?_
  refine pm_catchV (as := [.int x]) (pre := []) (y := (0, 9, 12, 13)) (suf := []) (j := 3) (kB_moment_no hl 7 (Nat.le_refl _) _ hw) mo_B_moment im_B_moment se_B_moment (pm_in3 (j := 81) rfl rfl) dL_moment_4 (by omega) rfl rfl (Nat.le_of_ble_eq_true rfl) rfl rfl rfl rfl (fun z hz => nomatch hz) rfl ⟨by decide, "java/lang/IllegalArgumentException", (pm_in2 (j := 110) rfl rfl), (pm_nn2 (j := 121) rfl rfl)⟩ (Or.inr ⟨3, rfl, dL_moment_12, rfl⟩) (by decide) (q := 13) rfl ?_
  refine pm_iconst (x := 1) dL_moment_13 (by decide) (q := 14) rfl ?_
  exact pm_retC rfl (Nat.le_of_ble_eq_true rfl) (Nat.le_of_ble_eq_true rfl) dL_moment_14
set_option maxHeartbeats 4000000 in
theorem kL_report_0 {l : Launch} (hl : l.stackTraces = false) (d : Nat) (hd : 4 ≤ d) {pd : Int32} {si : Nat → Int32} {sa : Nat → Nat → Int32} {hv : Nat → Int32} {ha : Nat → Nat → Nat → Int32} {sl : Int32} {sc : Nat → Nat → Int32} {pl : Int32} {pa : Nat → Nat → Int32} {tl : pm_H} (q : Int32) {o : Nat → Int64} (hout : tl[17]? = some (pm_l 1 o)) (L : Nat) (hL0 : sl = nI L) (hL3 : L ≤ 30) (bx : Nat → Nat) (hbx : ∀ j, j < L → bx j < 5) (hm : ∀ j, j < L → sc 0 j = nI (bx j)) (k0 : ¬ fw q 0 (si 2 - 1) = 0) : pm_SemC l d mL_report [.ref 0, .int q, .int 0, .ref 48] (cH pd si sa hv ha sl sc pl pa tl) (some (.int 0)) (cH pd si sa hv ha sl sc pl pa (tl.set 17 (pm_l 1 (vp_updL o 0 (frc sa sc bx q 0 L).toInt64)))) := by
  refine pm_semC hl mc_L_report rfl rfl (Nat.le_of_ble_eq_true rfl) ?_
  have hK := pm_KX_Kd (l := l) (d := d) (h0 := (cH pd si sa hv ha sl sc pl pa tl))
  refine pm_aload_n dL_report_0 rfl (q := 1) rfl ?_
  refine pm_iconst (x := 0) dL_report_1 (by decide) (q := 2) rfl ?_
  refine pm_aload_n dL_report_2 rfl (q := 3) rfl ?_
  refine pm_iload_n dL_report_3 rfl (q := 4) rfl ?_
  refine pm_iload_n dL_report_4 rfl (q := 5) rfl ?_
  refine pm_cV2i hK (kB_report_0 hl 3 (Nat.le_refl _) _ L hL0 hL3 bx hbx hm k0) mo_B_report im_B_report se_B_report lk_L_53 dL_report_5 (by omega) (Nat.le_of_ble_eq_true rfl) (Nat.zero_le _) (Nat.zero_le _) rfl rfl rfl (q := 8) rfl ?_
  refine pm_i2l dL_report_8 (q := 9) rfl ?_
  refine pm_last dL_report_9 hout (by unfold vp_in; decide) (q := 10) rfl ?_
  refine pm_goto (tgt := 17) dL_report_10 rfl ?_
  refine pm_iconst (x := 0) dL_report_17 (by decide) (q := 18) rfl ?_
  exact pm_retC rfl (Nat.le_of_ble_eq_true rfl) (Nat.le_of_ble_eq_true rfl) dL_report_18
set_option maxHeartbeats 4000000 in
theorem kL_report_1 {l : Launch} (hl : l.stackTraces = false) (d : Nat) (hd : 4 ≤ d) {pd : Int32} {si : Nat → Int32} {sa : Nat → Nat → Int32} {hv : Nat → Int32} {ha : Nat → Nat → Nat → Int32} {sl : Int32} {sc : Nat → Nat → Int32} {pl : Int32} {pa : Nat → Nat → Int32} {tl : pm_H} (q : Int32) {o : Nat → Int64} (hout : tl[17]? = some (pm_l 1 o)) (L : Nat) (hL0 : sl = nI L) (hL3 : L ≤ 30) (bx : Nat → Nat) (hbx : ∀ j, j < L → bx j < 5) (hm : ∀ j, j < L → sc 0 j = nI (bx j)) (k0 : ¬ fw q 0 (si 2 - 1) = 0) : pm_SemC l d mL_report [.ref 0, .int q, .int 1, .ref 48] (cH pd si sa hv ha sl sc pl pa tl) (some (.int 0)) (cH pd si sa hv ha sl sc pl pa (tl.set 17 (pm_l 1 (vp_updL o 0 (frc sa sc bx q 1 L).toInt64)))) := by
  refine pm_semC hl mc_L_report rfl rfl (Nat.le_of_ble_eq_true rfl) ?_
  have hK := pm_KX_Kd (l := l) (d := d) (h0 := (cH pd si sa hv ha sl sc pl pa tl))
  refine pm_aload_n dL_report_0 rfl (q := 1) rfl ?_
  refine pm_iconst (x := 0) dL_report_1 (by decide) (q := 2) rfl ?_
  refine pm_aload_n dL_report_2 rfl (q := 3) rfl ?_
  refine pm_iload_n dL_report_3 rfl (q := 4) rfl ?_
  refine pm_iload_n dL_report_4 rfl (q := 5) rfl ?_
  refine pm_cV2i hK (kB_report_1 hl 3 (Nat.le_refl _) _ L hL0 hL3 bx hbx hm k0) mo_B_report im_B_report se_B_report lk_L_53 dL_report_5 (by omega) (Nat.le_of_ble_eq_true rfl) (Nat.zero_le _) (Nat.zero_le _) rfl rfl rfl (q := 8) rfl ?_
  refine pm_i2l dL_report_8 (q := 9) rfl ?_
  refine pm_last dL_report_9 hout (by unfold vp_in; decide) (q := 10) rfl ?_
  refine pm_goto (tgt := 17) dL_report_10 rfl ?_
  refine pm_iconst (x := 0) dL_report_17 (by decide) (q := 18) rfl ?_
  exact pm_retC rfl (Nat.le_of_ble_eq_true rfl) (Nat.le_of_ble_eq_true rfl) dL_report_18
set_option maxHeartbeats 4000000 in
theorem kL_report_2 {l : Launch} (hl : l.stackTraces = false) (d : Nat) (hd : 4 ≤ d) {pd : Int32} {si : Nat → Int32} {sa : Nat → Nat → Int32} {hv : Nat → Int32} {ha : Nat → Nat → Nat → Int32} {sl : Int32} {sc : Nat → Nat → Int32} {pl : Int32} {pa : Nat → Nat → Int32} {tl : pm_H} (q : Int32) {o : Nat → Int64} (hout : tl[17]? = some (pm_l 1 o)) (L : Nat) (hL0 : sl = nI L) (hL3 : L ≤ 30) (bx : Nat → Nat) (hbx : ∀ j, j < L → bx j < 5) (hm : ∀ j, j < L → sc 0 j = nI (bx j)) (k0 : ¬ fw q 0 (si 2 - 1) = 0) : pm_SemC l d mL_report [.ref 0, .int q, .int 2, .ref 48] (cH pd si sa hv ha sl sc pl pa tl) (some (.int 0)) (cH pd si sa hv ha sl sc pl pa (tl.set 17 (pm_l 1 (vp_updL o 0 (frc sa sc bx q 2 L).toInt64)))) := by
  refine pm_semC hl mc_L_report rfl rfl (Nat.le_of_ble_eq_true rfl) ?_
  have hK := pm_KX_Kd (l := l) (d := d) (h0 := (cH pd si sa hv ha sl sc pl pa tl))
  refine pm_aload_n dL_report_0 rfl (q := 1) rfl ?_
  refine pm_iconst (x := 0) dL_report_1 (by decide) (q := 2) rfl ?_
  refine pm_aload_n dL_report_2 rfl (q := 3) rfl ?_
  refine pm_iload_n dL_report_3 rfl (q := 4) rfl ?_
  refine pm_iload_n dL_report_4 rfl (q := 5) rfl ?_
  refine pm_cV2i hK (kB_report_2 hl 3 (Nat.le_refl _) _ L hL0 hL3 bx hbx hm k0) mo_B_report im_B_report se_B_report lk_L_53 dL_report_5 (by omega) (Nat.le_of_ble_eq_true rfl) (Nat.zero_le _) (Nat.zero_le _) rfl rfl rfl (q := 8) rfl ?_
  refine pm_i2l dL_report_8 (q := 9) rfl ?_
  refine pm_last dL_report_9 hout (by unfold vp_in; decide) (q := 10) rfl ?_
  refine pm_goto (tgt := 17) dL_report_10 rfl ?_
  refine pm_iconst (x := 0) dL_report_17 (by decide) (q := 18) rfl ?_
  exact pm_retC rfl (Nat.le_of_ble_eq_true rfl) (Nat.le_of_ble_eq_true rfl) dL_report_18
set_option maxHeartbeats 4000000 in
theorem kL_report_no {l : Launch} (hl : l.stackTraces = false) (d : Nat) (hd : 8 ≤ d) {pd : Int32} {si : Nat → Int32} {sa : Nat → Nat → Int32} {hv : Nat → Int32} {ha : Nat → Nat → Nat → Int32} {sl : Int32} {sc : Nat → Nat → Int32} {pl : Int32} {pa : Nat → Nat → Int32} {tl : pm_H} (x y : Int32) (k0 : (if ¬ fw x 0 (si 2 - 1) = 0 ∧ ¬ fw y 0 2 = 0 then (1 : Int32) else 0) = 0) : pm_SemC l d mL_report [.ref 0, .int x, .int y, .ref 48] (cH pd si sa hv ha sl sc pl pa tl) (some (.int 1)) (cH pd si sa hv ha sl sc pl pa tl) := by
  refine pm_semC hl mc_L_report rfl rfl (Nat.le_of_ble_eq_true rfl) ?_
  have hK := pm_KX_Kd (l := l) (d := d) (h0 := (cH pd si sa hv ha sl sc pl pa tl))
  refine pm_aload_n dL_report_0 rfl (q := 1) rfl ?_
  refine pm_iconst (x := 0) dL_report_1 (by decide) (q := 2) rfl ?_
  refine pm_aload_n dL_report_2 rfl (q := 3) rfl ?_
  refine pm_iload_n dL_report_3 rfl (q := 4) rfl ?_
  refine pm_iload_n dL_report_4 rfl (q := 5) rfl ?_
  refine pm_catchV (as := [.int x, .int y]) (pre := []) (y := (0, 10, 13, 13)) (suf := []) (j := 4) (kB_report_no hl 7 (Nat.le_refl _) _ _ k0) mo_B_report im_B_report se_B_report (pm_in3 (j := 108) rfl rfl) dL_report_5 (by omega) rfl rfl (Nat.le_of_ble_eq_true rfl) rfl rfl rfl rfl (fun z hz => nomatch hz) rfl ⟨by decide, "java/lang/IllegalArgumentException", (pm_in2 (j := 110) rfl rfl), (pm_nn2 (j := 121) rfl rfl)⟩ (Or.inl ⟨dL_report_13, rfl⟩) (by decide) (q := 15) rfl ?_
  refine pm_iconst (x := 1) dL_report_15 (by decide) (q := 16) rfl ?_
  exact pm_retC rfl (Nat.le_of_ble_eq_true rfl) (Nat.le_of_ble_eq_true rfl) dL_report_16
