/-! the class: plan -/
theorem pick_ok {si : Nat → Int32} {sa : Nat → Nat → Int32} {S T B D : Nat} : ∀ N ∈ pick (lsA si sa S T B) D 0 pE, pOk N T ∧ pIn N S ∧ ∀ b, ct N b ≤ 1 := by
  intro N hN
  obtain ⟨q, _, _, h⟩ := pick_mem D 0 pE N hN
  have := lsA_arr h
  exact ⟨this.1.1, this.2, this.1.2.1⟩
theorem pick_mv {si : Nat → Int32} {sa : Nat → Nat → Int32} {S T B D : Nat} (hD3 : D ≤ 3) (hne : ∀ q, q < D → ¬ (lsA si sa S T B) q = []) : (mvAll 0 pE (pick (lsA si sa S T B) D 0 pE)).length ≤ 30 := by
  have := mvAll_len (pick (lsA si sa S T B) D 0 pE) 0 pE (fun N hN => pLen_le5 (pick_ok N hN).1 (pick_ok N hN).2.2)
  rw [pick_len D 0 pE (fun q _ b => hne q (by omega)), pLen_pE] at this
  omega
set_option maxHeartbeats 8000000 in
theorem kB_plan {l : Launch} (hl : l.stackTraces = false) (d : Nat) (hd : 32 ≤ d) {pd : Int32} {si : Nat → Int32} {sa : Nat → Nat → Int32} {hv : Nat → Int32} {ha : Nat → Nat → Nat → Int32} {sl : Int32} {sc : Nat → Nat → Int32} {pl : Int32} {pa : Nat → Nat → Int32} {tl : pm_H} {S T D B : Nat} (hS : si 0 = nI S) (hS1 : 1 ≤ S) (hS3 : S ≤ 3) (hT : si 1 = nI T) (hT3 : T ≤ 3) (hP : si 2 = nI (D + 1)) (hD1 : 1 ≤ D) (hD3 : D ≤ 3) (hB : si 7 = nI B) (hB5 : B ≤ 5) : ∃ (x : Int32) (y : Nat → Nat → Int32) (n : Nat) (pa2 : Nat → Nat → Int32), (∃ m, (∀ q, q < D → ¬ (lsA si sa S T B) q = []) ∧ bo (lsA si sa S T B) D 0 pE = some m ∧ pm_Sem l d mB_plan [.ref 0] (cH pd si sa hv ha sl sc pl pa tl) (some (.int (nI m))) (cH 1 si sa (up1 (up1 hv 0 0) 2 x) (up1 (up1 ha 0 empA) 2 y) (nI (mvAll 0 pE (pick (lsA si sa S T B) D 0 pE)).length) (scW sc 0 (mvAll 0 pE (pick (lsA si sa S T B) D 0 pE))) (nI n) pa2 tl)) ∨ ((∃ q, q < D ∧ (lsA si sa S T B) q = []) ∧ pm_Sem l d mB_plan [.ref 0] (cH pd si sa hv ha sl sc pl pa tl) (some (.int (-1))) (cH 0 si sa (up1 (up1 hv 0 0) 2 x) (up1 (up1 ha 0 empA) 2 y) 0 sc (nI n) pa2 tl)) := by
  obtain ⟨r, x, y, n, pa2, hr, hw⟩ := kP_listAll (pd := 0) (hv := up1 hv 0 0) (ha := up1 ha 0 empA) (sl := 0) (sc := sc) (pl := pl) (pa := pa) (tl := tl) hl 31 (Nat.le_refl _) hS hS1 hS3 hT hT3 hP hD3 hB hB5
  rcases hr with ⟨rfl, hI⟩ | ⟨rfl, hE⟩
  · have hne : ∀ q, q < D → ¬ (lsA si sa S T B) q = [] := fun q hq => (hI.2 q hq).2.2.2
    obtain ⟨m, hm, hm15⟩ := bo_ex D 0 pE (A := (lsA si sa S T B)) (fun q _ b => hne q (by omega))
    obtain ⟨pa3, hc, hw2⟩ := kP_chooseAll (pd := 0) (hv := (up1 (up1 hv 0 0) 2 x)) (ha := (up1 (up1 ha 0 empA) 2 y)) (sl := 0) (sc := sc) (pl := nI n) (tl := tl) hl 9 (Nat.le_refl _) hS hS3 hT3 hP hD3 hB hB5 hD1 n hne hI hm
    have hw3 := kP_writeInto (pd := 0) (si := si) (sa := sa) (hv := (up1 (up1 hv 0 0) 2 x)) (ha := (up1 (up1 ha 0 empA) 2 y)) (sc := sc) (pl := nI n) (pa := pa3) (tl := tl) hl 4 (Nat.le_refl _) hS hS3 hT3 hP hD3 (pick (lsA si sa S T B) D 0 pE) (pick_len D 0 pE (fun q _ b => hne q (by omega))) (fun N hN => ⟨(pick_ok N hN).1, (pick_ok N hN).2.1⟩) hc (pick_mv hD3 hne)
    refine ⟨x, y, n, pa3, Or.inl ⟨m, hne, hm, ?_⟩⟩
    refine pm_sem hl mo_B_plan ⟨_, rfl, rfl⟩ rfl rfl (Nat.le_of_ble_eq_true rfl) (fun K G hK hret => ?_)
    refine pm_aload_n dB_plan_0 rfl (q := 1) rfl ?_
    refine pm_cV0v hK (kB_dropPlan hl 2 (Nat.le_refl _)) mo_B_dropPlan im_B_dropPlan se_B_dropPlan lk_B_54 dB_plan_1 (by omega) (Nat.le_of_ble_eq_true rfl) (Nat.zero_le _) (Nat.zero_le _) rfl rfl rfl (q := 4) rfl ?_
    refine pm_aload_n dB_plan_4 rfl (q := 5) rfl ?_
    refine pm_get fl_B_42 dB_plan_5 rfl rfl (q := 8) rfl ?_
    refine pm_cV0i hK (hw) mo_P_listAll im_P_listAll se_P_listAll lk_B_85 dB_plan_8 (by omega) (Nat.le_of_ble_eq_true rfl) (Nat.zero_le _) (Nat.zero_le _) rfl rfl rfl (q := 11) rfl ?_
    refine pm_if_eq (tgt := 24) dB_plan_11 rfl (q := 14) rfl (fun z => absurd z (by decide)) (fun _ => ?_)
    refine pm_aload_n dB_plan_14 rfl (q := 15) rfl ?_
    refine pm_get fl_B_42 dB_plan_15 rfl rfl (q := 18) rfl ?_
    refine pm_cV0i hK (hw2) mo_P_chooseAll im_P_chooseAll se_P_chooseAll lk_B_89 dB_plan_18 (by omega) (Nat.le_of_ble_eq_true rfl) (Nat.zero_le _) (Nat.zero_le _) rfl rfl rfl (q := 21) rfl ?_
    refine pm_goto (tgt := 25) dB_plan_21 rfl ?_
    refine pm_istore_n dB_plan_25 (by decide) (q := 26) rfl ?_
    refine pm_iload_n dB_plan_26 rfl (q := 27) rfl ?_
    refine pm_iconst (x := -1) dB_plan_27 (by decide) (q := 28) rfl ?_
    refine pm_icmp_eq (tgt := 47) dB_plan_28 rfl (q := 31) rfl (fun z => absurd z (nI_ne_m1 (by omega))) (fun _ => ?_)
    refine pm_aload_n dB_plan_31 rfl (q := 32) rfl ?_
    refine pm_get fl_B_42 dB_plan_32 rfl rfl (q := 35) rfl ?_
    refine pm_aload_n dB_plan_35 rfl (q := 36) rfl ?_
    refine pm_get fl_B_35 dB_plan_36 rfl rfl (q := 39) rfl ?_
    refine pm_cV1v hK (hw3) mo_P_writeInto im_P_writeInto se_P_writeInto lk_B_93 dB_plan_39 (by omega) (Nat.le_of_ble_eq_true rfl) (Nat.zero_le _) (Nat.zero_le _) rfl rfl rfl (q := 42) rfl ?_
    refine pm_aload_n dB_plan_42 rfl (q := 43) rfl ?_
    refine pm_iconst (x := 1) dB_plan_43 (by decide) (q := 44) rfl ?_
    refine pm_put fp_B_97 dB_plan_44 rfl (Nat.le_of_ble_eq_true rfl) (fun _ => rfl) (fun _ => rfl) (q := 47) rfl ?_
    refine pm_iload_n dB_plan_47 rfl (q := 48) rfl ?_
    exact pm_retI hret dB_plan_48 rfl
  · refine ⟨x, y, n, pa2, Or.inr ⟨hE, ?_⟩⟩
    refine pm_sem hl mo_B_plan ⟨_, rfl, rfl⟩ rfl rfl (Nat.le_of_ble_eq_true rfl) (fun K G hK hret => ?_)
    refine pm_aload_n dB_plan_0 rfl (q := 1) rfl ?_
    refine pm_cV0v hK (kB_dropPlan hl 2 (Nat.le_refl _)) mo_B_dropPlan im_B_dropPlan se_B_dropPlan lk_B_54 dB_plan_1 (by omega) (Nat.le_of_ble_eq_true rfl) (Nat.zero_le _) (Nat.zero_le _) rfl rfl rfl (q := 4) rfl ?_
    refine pm_aload_n dB_plan_4 rfl (q := 5) rfl ?_
    refine pm_get fl_B_42 dB_plan_5 rfl rfl (q := 8) rfl ?_
    refine pm_cV0i hK (hw) mo_P_listAll im_P_listAll se_P_listAll lk_B_85 dB_plan_8 (by omega) (Nat.le_of_ble_eq_true rfl) (Nat.zero_le _) (Nat.zero_le _) rfl rfl rfl (q := 11) rfl ?_
    refine pm_if_eq (tgt := 24) dB_plan_11 rfl (q := 14) rfl (fun _ => ?_) (fun z => absurd rfl z)
    refine pm_iconst (x := -1) dB_plan_24 (by decide) (q := 25) rfl ?_
    refine pm_istore_n dB_plan_25 (by decide) (q := 26) rfl ?_
    refine pm_iload_n dB_plan_26 rfl (q := 27) rfl ?_
    refine pm_iconst (x := -1) dB_plan_27 (by decide) (q := 28) rfl ?_
    refine pm_icmp_eq (tgt := 47) dB_plan_28 rfl (q := 31) rfl (fun _ => ?_) (fun h => absurd h (by decide))
    refine pm_iload_n dB_plan_47 rfl (q := 48) rfl ?_
    exact pm_retI hret dB_plan_48 rfl
