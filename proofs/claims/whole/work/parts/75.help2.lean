/-! the law's helpers: replay, verify -/
set_option maxHeartbeats 4000000 in
theorem kL_replay_ok {l : Launch} (hl : l.stackTraces = false) (d : Nat) (hd : 6 ≤ d) {pd : Int32} {si : Nat → Int32} {sa : Nat → Nat → Int32} {hv : Nat → Int32} {ha : Nat → Nat → Nat → Int32} {sl : Int32} {sc : Nat → Nat → Int32} {pl : Int32} {pa : Nat → Nat → Int32} {tl : pm_H} {S T : Nat} (hS : si 0 = nI S) (hS1 : 1 ≤ S) (hS3 : S ≤ 3) (hT : si 1 = nI T) (hT3 : T ≤ 3) {rs : pR} {N : Nat} (hsc : scK S sl sc rs N) (n : Nat) (hn : n ≤ N) {o : Nat → Int64} (hout : tl[17]? = some (pm_l 1 o)) : pm_SemC l d mL_replay [.ref 0, .int (nI n), .ref 48] (cH pd si sa hv ha sl sc pl pa tl) (some (.int 0)) (cH pd si sa (up1 hv 0 (pV (sa 3) (aRun (aStep S T (si 3) (sa 3) rs) n 0 pE).2)) (up1 ha 0 (cA (sa 3) (aRun (aStep S T (si 3) (sa 3) rs) n 0 pE).2)) sl sc pl pa (tl.set 17 (pm_l 1 (vp_updL o 0 (nI (aRun (aStep S T (si 3) (sa 3) rs) n 0 pE).1).toInt64)))) := by
  refine pm_semC hl mc_L_replay rfl rfl (Nat.le_of_ble_eq_true rfl) ?_
  have hK := pm_KX_Kd (l := l) (d := d) (h0 := (cH pd si sa hv ha sl sc pl pa tl))
  refine pm_aload_n dL_replay_0 rfl (q := 1) rfl ?_
  refine pm_iconst (x := 0) dL_replay_1 (by decide) (q := 2) rfl ?_
  refine pm_aload_n dL_replay_2 rfl (q := 3) rfl ?_
  refine pm_iload_n dL_replay_3 rfl (q := 4) rfl ?_
  refine pm_cV1i hK (kB_replay_ok hl 5 (Nat.le_refl _) hS hS1 hS3 hT hT3 hsc n hn) mo_B_replay im_B_replay se_B_replay lk_L_39 dL_replay_4 (by omega) (Nat.le_of_ble_eq_true rfl) (Nat.zero_le _) (Nat.zero_le _) rfl rfl rfl (q := 7) rfl ?_
  refine pm_i2l dL_replay_7 (q := 8) rfl ?_
  refine pm_last dL_replay_8 hout (by unfold vp_in; decide) (q := 9) rfl ?_
  refine pm_goto (tgt := 15) dL_replay_9 rfl ?_
  refine pm_iconst (x := 0) dL_replay_15 (by decide) (q := 16) rfl ?_
  exact pm_retC rfl (Nat.le_of_ble_eq_true rfl) (Nat.le_of_ble_eq_true rfl) dL_replay_16
set_option maxHeartbeats 4000000 in
theorem kL_replay_no {l : Launch} (hl : l.stackTraces = false) (d : Nat) (hd : 8 ≤ d) {pd : Int32} {si : Nat → Int32} {sa : Nat → Nat → Int32} {hv : Nat → Int32} {ha : Nat → Nat → Nat → Int32} {sl : Int32} {sc : Nat → Nat → Int32} {pl : Int32} {pa : Nat → Nat → Int32} {tl : pm_H} (x : Int32) (k0 : fw x 0 sl = 0) : pm_SemC l d mL_replay [.ref 0, .int x, .ref 48] (cH pd si sa hv ha sl sc pl pa tl) (some (.int 1)) (cH pd si sa hv ha sl sc pl pa tl) := by
  refine pm_semC hl mc_L_replay rfl rfl (Nat.le_of_ble_eq_true rfl) ?_
  have hK := pm_KX_Kd (l := l) (d := d) (h0 := (cH pd si sa hv ha sl sc pl pa tl))
  refine pm_aload_n dL_replay_0 rfl (q := 1) rfl ?_
  refine pm_iconst (x := 0) dL_replay_1 (by decide) (q := 2) rfl ?_
  refine pm_aload_n dL_replay_2 rfl (q := 3) rfl ?_
  refine pm_iload_n dL_replay_3 rfl (q := 4) rfl ?_
  refine pm_catchV (as := [.int x]) (pre := []) (y := (0, 9, 12, 13)) (suf := []) (j := 3) (kB_replay_no hl 7 (Nat.le_refl _) _ k0) mo_B_replay im_B_replay se_B_replay (pm_in3 (j := 38) rfl rfl) dL_replay_4 (by omega) rfl rfl (Nat.le_of_ble_eq_true rfl) rfl rfl rfl rfl (fun z hz => nomatch hz) rfl ⟨by decide, "java/lang/IllegalArgumentException", (pm_in2 (j := 110) rfl rfl), (pm_nn2 (j := 121) rfl rfl)⟩ (Or.inr ⟨3, rfl, dL_replay_12, rfl⟩) (by decide) (q := 13) rfl ?_
  refine pm_iconst (x := 1) dL_replay_13 (by decide) (q := 14) rfl ?_
  exact pm_retC rfl (Nat.le_of_ble_eq_true rfl) (Nat.le_of_ble_eq_true rfl) dL_replay_14
set_option maxHeartbeats 4000000 in
theorem kL_verify_ok {l : Launch} (hl : l.stackTraces = false) (d : Nat) (hd : 6 ≤ d) {pd : Int32} {si : Nat → Int32} {sa : Nat → Nat → Int32} {hv : Nat → Int32} {ha : Nat → Nat → Nat → Int32} {sl : Int32} {sc : Nat → Nat → Int32} {pl : Int32} {pa : Nat → Nat → Int32} {tl : pm_H} {S T P B : Nat} (hS : si 0 = nI S) (hS1 : 1 ≤ S) (hS3 : S ≤ 3) (hT : si 1 = nI T) (hT3 : T ≤ 3) (hP : si 2 = nI P) (hP1 : 1 ≤ P) (hP4 : P ≤ 4) (hB : si 7 = nI B) (hB5 : B ≤ 5) {rs : pR} {N : Nat} (hsc : scK S sl sc rs N) (k0 : ¬ pd = 0) {o : Nat → Int64} (hout : tl[17]? = some (pm_l 1 o)) : pm_SemC l d mL_verify [.ref 0, .ref 48] (cH pd si sa hv ha sl sc pl pa tl) (some (.int 0)) (cH pd si sa (up1 hv 1 (pV (sa 3) (vOut (aStep S T (si 3) (sa 3) rs) (fun i => (rs i).2.1) (badC si sa S B) N P 0 0 pE).2)) (up1 ha 1 (cA (sa 3) (vOut (aStep S T (si 3) (sa 3) rs) (fun i => (rs i).2.1) (badC si sa S B) N P 0 0 pE).2)) sl sc pl pa (tl.set 17 (pm_l 1 (vp_updL o 0 (nI (vOut (aStep S T (si 3) (sa 3) rs) (fun i => (rs i).2.1) (badC si sa S B) N P 0 0 pE).1).toInt64)))) := by
  refine pm_semC hl mc_L_verify rfl rfl (Nat.le_of_ble_eq_true rfl) ?_
  have hK := pm_KX_Kd (l := l) (d := d) (h0 := (cH pd si sa hv ha sl sc pl pa tl))
  refine pm_aload_n dL_verify_0 rfl (q := 1) rfl ?_
  refine pm_iconst (x := 0) dL_verify_1 (by decide) (q := 2) rfl ?_
  refine pm_aload_n dL_verify_2 rfl (q := 3) rfl ?_
  refine pm_cV0i hK (kB_verify_ok hl 5 (Nat.le_refl _) hS hS1 hS3 hT hT3 hP hP1 hP4 hB hB5 hsc k0) mo_B_verify im_B_verify se_B_verify lk_L_49 dL_verify_3 (by omega) (Nat.le_of_ble_eq_true rfl) (Nat.zero_le _) (Nat.zero_le _) rfl rfl rfl (q := 6) rfl ?_
  refine pm_i2l dL_verify_6 (q := 7) rfl ?_
  refine pm_last dL_verify_7 hout (by unfold vp_in; decide) (q := 8) rfl ?_
  refine pm_goto (tgt := 14) dL_verify_8 rfl ?_
  refine pm_iconst (x := 0) dL_verify_14 (by decide) (q := 15) rfl ?_
  exact pm_retC rfl (Nat.le_of_ble_eq_true rfl) (Nat.le_of_ble_eq_true rfl) dL_verify_15
set_option maxHeartbeats 4000000 in
theorem kL_verify_no {l : Launch} (hl : l.stackTraces = false) (d : Nat) (hd : 8 ≤ d) {pd : Int32} {si : Nat → Int32} {sa : Nat → Nat → Int32} {hv : Nat → Int32} {ha : Nat → Nat → Nat → Int32} {sl : Int32} {sc : Nat → Nat → Int32} {pl : Int32} {pa : Nat → Nat → Int32} {tl : pm_H} (k0 : pd = 0) : pm_SemC l d mL_verify [.ref 0, .ref 48] (cH pd si sa hv ha sl sc pl pa tl) (some (.int 1)) (cH pd si sa hv ha sl sc pl pa tl) := by
  refine pm_semC hl mc_L_verify rfl rfl (Nat.le_of_ble_eq_true rfl) ?_
  have hK := pm_KX_Kd (l := l) (d := d) (h0 := (cH pd si sa hv ha sl sc pl pa tl))
  refine pm_aload_n dL_verify_0 rfl (q := 1) rfl ?_
  refine pm_iconst (x := 0) dL_verify_1 (by decide) (q := 2) rfl ?_
  refine pm_aload_n dL_verify_2 rfl (q := 3) rfl ?_
  refine pm_catchV (as := []) (pre := []) (y := (0, 8, 11, 23)) (suf := []) (j := 2) (kB_verify_no hl 7 (Nat.le_refl _) k0) mo_B_verify im_B_verify se_B_verify (pm_in3 (j := 90) rfl rfl) dL_verify_3 (by omega) rfl rfl (Nat.le_of_ble_eq_true rfl) rfl rfl rfl rfl (fun z hz => nomatch hz) rfl ⟨by decide, "java/lang/IllegalStateException", (pm_in2 (j := 193) rfl rfl), (pm_nn2 (j := 204) rfl rfl)⟩ (Or.inr ⟨2, rfl, dL_verify_11, rfl⟩) (by decide) (q := 12) rfl ?_
  refine pm_iconst (x := 1) dL_verify_12 (by decide) (q := 13) rfl ?_
  exact pm_retC rfl (Nat.le_of_ble_eq_true rfl) (Nat.le_of_ble_eq_true rfl) dL_verify_13
