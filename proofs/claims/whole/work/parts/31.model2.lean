/-! the model's cells behind the system's; its calls that change the ship -/
def mH (mi : Nat → Int32) (ma : Nat → Nat → Int32) (tl : pm_H) : pm_H :=
  pm_o 5 [.int (mi 0), .int (mi 1), .int (mi 2), .int (mi 3), .int (mi 4), .int (mi 5), .int (mi 6), .ref 32, .int (mi 8), .ref 33, .ref 34, .ref 35, .ref 36, .ref 37, .ref 38, .ref 39, .ref 40, .ref 41, .int (mi 18), .int (mi 19), .ref 42, .ref 43, .ref 44, .ref 45, .ref 46, .ref 47] ::
  pm_z 3 (ma 0) :: pm_i 5 (ma 1) :: pm_i 5 (ma 2) :: pm_i 5 (ma 3) :: pm_i 5 (ma 4) :: pm_z 5 (ma 5) :: pm_i 7800 (ma 6) :: pm_i 7800 (ma 7) :: pm_i 3 (ma 8) :: pm_i 9 (ma 9) :: pm_i 60 (ma 10) :: pm_i 60 (ma 11) :: pm_i 60 (ma 12) :: pm_i 60 (ma 13) :: pm_i 9 (ma 14) :: pm_i 9 (ma 15) :: tl
theorem mH_at {pd : Int32} {si : Nat → Int32} {sa : Nat → Nat → Int32} {hv : Nat → Int32} {ha : Nat → Nat → Nat → Int32} {sl : Int32} {sc : Nat → Nat → Int32} {pl : Int32} {pa : Nat → Nat → Int32} {mi : Nat → Int32} {ma : Nat → Nat → Int32} {tl : pm_H} : ModAt (cH pd si sa hv ha sl sc pl pa (mH mi ma tl)) mi ma := ⟨rfl, rfl, rfl, rfl, rfl, rfl, rfl, rfl, rfl, rfl, rfl, rfl, rfl, rfl, rfl, rfl, rfl⟩
set_option maxHeartbeats 4000000 in
theorem kM_refuse_1 {l : Launch} (hl : l.stackTraces = false) (d : Nat) {pd : Int32} {si : Nat → Int32} {sa : Nat → Nat → Int32} {hv : Nat → Int32} {ha : Nat → Nat → Nat → Int32} {sl : Int32} {sc : Nat → Nat → Int32} {pl : Int32} {pa : Nat → Nat → Int32} {mi : Nat → Int32} {ma : Nat → Nat → Int32} {tl : pm_H} (a b : Int32) (ka : ¬ a = 0) : pm_Sem l d mM_refuse [.ref 31, .int a, .int b] (cH pd si sa hv ha sl sc pl pa (mH (mi) (ma) tl)) (some (.int 1)) (cH pd si sa hv ha sl sc pl pa (mH (up1 mi 0 1) (ma) tl)) := by
  refine pm_sem hl mo_M_refuse ⟨_, rfl, rfl⟩ rfl rfl (Nat.le_of_ble_eq_true rfl) (fun K G hK hret => ?_)
  refine pm_aload_n dM_refuse_0 rfl (q := 1) rfl ?_
  refine pm_iload_n dM_refuse_1 rfl (q := 2) rfl ?_
  refine pm_if_eq (tgt := 9) dM_refuse_2 rfl (q := 5) rfl (fun z => absurd z ka) (fun _ => ?_)
  refine pm_iconst (x := 1) dM_refuse_5 (by decide) (q := 6) rfl ?_
  refine pm_goto (tgt := 18) dM_refuse_6 rfl ?_
  refine pm_put fp_M_82 dM_refuse_18 rfl (Nat.le_of_ble_eq_true rfl) (fun _ => rfl) (fun _ => rfl) (q := 21) rfl ?_
  refine pm_aload_n dM_refuse_21 rfl (q := 22) rfl ?_
  refine pm_get fl_M_82 dM_refuse_22 rfl rfl (q := 25) rfl ?_
  refine pm_if_le (tgt := 32) dM_refuse_25 rfl (q := 28) rfl (fun z => absurd z (by decide)) (fun _ => ?_)
  refine pm_iconst (x := 1) dM_refuse_28 (by decide) (q := 29) rfl ?_
  refine pm_goto (tgt := 33) dM_refuse_29 rfl ?_
  exact pm_retI hret dM_refuse_33 rfl
set_option maxHeartbeats 4000000 in
theorem kM_refuse_2 {l : Launch} (hl : l.stackTraces = false) (d : Nat) {pd : Int32} {si : Nat → Int32} {sa : Nat → Nat → Int32} {hv : Nat → Int32} {ha : Nat → Nat → Nat → Int32} {sl : Int32} {sc : Nat → Nat → Int32} {pl : Int32} {pa : Nat → Nat → Int32} {mi : Nat → Int32} {ma : Nat → Nat → Int32} {tl : pm_H} (a b : Int32) (ka : a = 0) (kb : ¬ b = 0) : pm_Sem l d mM_refuse [.ref 31, .int a, .int b] (cH pd si sa hv ha sl sc pl pa (mH (mi) (ma) tl)) (some (.int 1)) (cH pd si sa hv ha sl sc pl pa (mH (up1 mi 0 2) (ma) tl)) := by
  refine pm_sem hl mo_M_refuse ⟨_, rfl, rfl⟩ rfl rfl (Nat.le_of_ble_eq_true rfl) (fun K G hK hret => ?_)
  refine pm_aload_n dM_refuse_0 rfl (q := 1) rfl ?_
  refine pm_iload_n dM_refuse_1 rfl (q := 2) rfl ?_
  refine pm_if_eq (tgt := 9) dM_refuse_2 rfl (q := 5) rfl (fun _ => ?_) (fun z => absurd ka z)
  refine pm_iload_n dM_refuse_9 rfl (q := 10) rfl ?_
  refine pm_if_eq (tgt := 17) dM_refuse_10 rfl (q := 13) rfl (fun z => absurd z kb) (fun _ => ?_)
  refine pm_iconst (x := 2) dM_refuse_13 (by decide) (q := 14) rfl ?_
  refine pm_goto (tgt := 18) dM_refuse_14 rfl ?_
  refine pm_put fp_M_82 dM_refuse_18 rfl (Nat.le_of_ble_eq_true rfl) (fun _ => rfl) (fun _ => rfl) (q := 21) rfl ?_
  refine pm_aload_n dM_refuse_21 rfl (q := 22) rfl ?_
  refine pm_get fl_M_82 dM_refuse_22 rfl rfl (q := 25) rfl ?_
  refine pm_if_le (tgt := 32) dM_refuse_25 rfl (q := 28) rfl (fun z => absurd z (by decide)) (fun _ => ?_)
  refine pm_iconst (x := 1) dM_refuse_28 (by decide) (q := 29) rfl ?_
  refine pm_goto (tgt := 33) dM_refuse_29 rfl ?_
  exact pm_retI hret dM_refuse_33 rfl
set_option maxHeartbeats 4000000 in
theorem kM_refuse_0 {l : Launch} (hl : l.stackTraces = false) (d : Nat) {pd : Int32} {si : Nat → Int32} {sa : Nat → Nat → Int32} {hv : Nat → Int32} {ha : Nat → Nat → Nat → Int32} {sl : Int32} {sc : Nat → Nat → Int32} {pl : Int32} {pa : Nat → Nat → Int32} {mi : Nat → Int32} {ma : Nat → Nat → Int32} {tl : pm_H} (a b : Int32) (ka : a = 0) (kb : b = 0) : pm_Sem l d mM_refuse [.ref 31, .int a, .int b] (cH pd si sa hv ha sl sc pl pa (mH (mi) (ma) tl)) (some (.int 0)) (cH pd si sa hv ha sl sc pl pa (mH (up1 mi 0 0) (ma) tl)) := by
  refine pm_sem hl mo_M_refuse ⟨_, rfl, rfl⟩ rfl rfl (Nat.le_of_ble_eq_true rfl) (fun K G hK hret => ?_)
  refine pm_aload_n dM_refuse_0 rfl (q := 1) rfl ?_
  refine pm_iload_n dM_refuse_1 rfl (q := 2) rfl ?_
  refine pm_if_eq (tgt := 9) dM_refuse_2 rfl (q := 5) rfl (fun _ => ?_) (fun z => absurd ka z)
  refine pm_iload_n dM_refuse_9 rfl (q := 10) rfl ?_
  refine pm_if_eq (tgt := 17) dM_refuse_10 rfl (q := 13) rfl (fun _ => ?_) (fun z => absurd kb z)
  refine pm_iconst (x := 0) dM_refuse_17 (by decide) (q := 18) rfl ?_
  refine pm_put fp_M_82 dM_refuse_18 rfl (Nat.le_of_ble_eq_true rfl) (fun _ => rfl) (fun _ => rfl) (q := 21) rfl ?_
  refine pm_aload_n dM_refuse_21 rfl (q := 22) rfl ?_
  refine pm_get fl_M_82 dM_refuse_22 rfl rfl (q := 25) rfl ?_
  refine pm_if_le (tgt := 32) dM_refuse_25 rfl (q := 28) rfl (fun _ => ?_) (fun z => absurd (by decide) z)
  refine pm_iconst (x := 0) dM_refuse_32 (by decide) (q := 33) rfl ?_
  exact pm_retI hret dM_refuse_33 rfl
set_option maxHeartbeats 2000000 in
theorem kM_empty {l : Launch} (hl : l.stackTraces = false) (d : Nat) {a : Nat} {f : Nat → Int32} {h : pm_H} (hh : h[a]? = some (pm_i 9 f)) : pm_Sem l d mM_empty [.ref a] h none (h.set a (pm_i 9 (fun _ => -1))) := by
  refine pm_sem hl mo_M_empty rfl rfl rfl (Nat.le_of_ble_eq_true rfl) (fun K G hK hret => ?_)
  have hL : ∀ (m j : Nat), m + j = 9 → pm_Go mM_empty K G 2 [some (.ref a), some (.int (nI j))] [] (h.set a (pm_i 9 (fun q => if q < j then -1 else f q))) 0 0 := by
    intro m
    induction m with
    | zero =>
      intro j hj
      have hj : j = 9 := by omega
      subst hj
      refine pm_iload_n dM_empty_2 rfl (q := 3) rfl ?_
      refine pm_bipush (x := 9) dM_empty_3 (by decide) (q := 5) rfl ?_
      refine pm_icmp_ge (tgt := 18) dM_empty_5 rfl (q := 8) rfl (fun _ => ?_) (fun z => absurd (by decide) z)
      refine pm_exti (f' := fun _ => -1) (pm_get_set hh) (fun q hq => by simp [hq]) ?_
      exact pm_retV hret dM_empty_18 (by rw [List.set_set])
    | succ m ih =>
      intro j hj
      have hjn : j < 9 := by omega
      refine pm_iload_n dM_empty_2 rfl (q := 3) rfl ?_
      refine pm_bipush (x := 9) dM_empty_3 (by decide) (q := 5) rfl ?_
      refine pm_icmp_ge (tgt := 18) dM_empty_5 rfl (q := 8) rfl (fun z => absurd z (show ¬ (9 : Int32) ≤ nI j from nI_ge (b := 9) hjn (by decide))) (fun _ => ?_)
      refine pm_aload_n dM_empty_8 rfl (q := 9) rfl ?_
      refine pm_iload_n dM_empty_9 rfl (q := 10) rfl ?_
      refine pm_iconst (x := -1) dM_empty_10 (by decide) (q := 11) rfl ?_
      refine pm_iastN dM_empty_11 (pm_get_set hh) hjn (Nat.le_of_ble_eq_true rfl) (q := 12) rfl ?_
      refine pm_iincL dM_empty_12 rfl (by decide) (y := nI (j + 1)) (by rw [nI_succ]; rfl) (q := 15) rfl ?_
      refine pm_goto (tgt := 2) dM_empty_15 rfl ?_
      have e9 : upd (fun q => if q < j then (-1 : Int32) else f q) j (-1) = fun q => if q < j + 1 then -1 else f q := by
        funext q
        unfold upd
        by_cases h1 : q = j
        · simp [h1]
        · have h2 : (q < j) = (q < j + 1) := by apply propext; omega
          simp [h1, h2]
      rw [List.set_set, e9]
      exact ih (j + 1) (by omega)
  refine pm_iconst (x := 0) dM_empty_0 (by decide) (q := 1) rfl ?_
  refine pm_istore_n dM_empty_1 (by decide) (q := 2) rfl ?_
  refine pm_heap (g := h.set a (pm_i 9 (fun q => if q < 0 then -1 else f q))) ?_ (hL 9 0 (by omega))
  rw [show (fun q => if q < 0 then (-1 : Int32) else f q) = f from by funext q; simp]
  exact (pm_set_self hh).symm
set_option maxHeartbeats 4000000 in
theorem kM_noPlan {l : Launch} (hl : l.stackTraces = false) (d : Nat) (hd : 1 ≤ d) {pd : Int32} {si : Nat → Int32} {sa : Nat → Nat → Int32} {hv : Nat → Int32} {ha : Nat → Nat → Nat → Int32} {sl : Int32} {sc : Nat → Nat → Int32} {pl : Int32} {pa : Nat → Nat → Int32} {mi : Nat → Int32} {ma : Nat → Nat → Int32} {tl : pm_H} : pm_Sem l d mM_noPlan [.ref 31] (cH pd si sa hv ha sl sc pl pa (mH (mi) (ma) tl)) none (cH pd si sa hv ha sl sc pl pa (mH (up1 (up1 (mi) 18 0) 19 0) (up1 (ma) 14 (fun _ => -1)) tl)) := by
  refine pm_sem hl mo_M_noPlan rfl rfl rfl (Nat.le_of_ble_eq_true rfl) (fun K G hK hret => ?_)
  refine pm_aload_n dM_noPlan_0 rfl (q := 1) rfl ?_
  refine pm_iconst (x := 0) dM_noPlan_1 (by decide) (q := 2) rfl ?_
  refine pm_put fp_M_85 dM_noPlan_2 rfl (Nat.le_of_ble_eq_true rfl) (fun _ => rfl) (fun _ => rfl) (q := 5) rfl ?_
  refine pm_aload_n dM_noPlan_5 rfl (q := 6) rfl ?_
  refine pm_iconst (x := 0) dM_noPlan_6 (by decide) (q := 7) rfl ?_
  refine pm_put fp_M_89 dM_noPlan_7 rfl (Nat.le_of_ble_eq_true rfl) (fun _ => rfl) (fun _ => rfl) (q := 10) rfl ?_
  refine pm_aload_n dM_noPlan_10 rfl (q := 11) rfl ?_
  refine pm_get fl_M_72 dM_noPlan_11 rfl rfl (q := 14) rfl ?_
  refine pm_cS1v hK (kM_empty hl 0 rfl) mo_M_empty st_M_empty lk_M_78 dM_noPlan_14 (by omega) (Nat.le_of_ble_eq_true rfl) (Nat.zero_le _) (Nat.zero_le _) (q := 17) rfl ?_
  exact pm_retV hret dM_noPlan_17 rfl
set_option maxHeartbeats 4000000 in
theorem kM_moves {l : Launch} (hl : l.stackTraces = false) (d : Nat) {pd : Int32} {si : Nat → Int32} {sa : Nat → Nat → Int32} {hv : Nat → Int32} {ha : Nat → Nat → Nat → Int32} {sl : Int32} {sc : Nat → Nat → Int32} {pl : Int32} {pa : Nat → Nat → Int32} {mi : Nat → Int32} {ma : Nat → Nat → Int32} {tl : pm_H} : pm_Sem l d mM_moves [.ref 31] (cH pd si sa hv ha sl sc pl pa (mH (mi) (ma) tl)) (some (.int (mi 19))) (cH pd si sa hv ha sl sc pl pa (mH (up1 mi 0 0) (ma) tl)) := by
  refine pm_sem hl mo_M_moves ⟨_, rfl, rfl⟩ rfl rfl (Nat.le_of_ble_eq_true rfl) (fun K G hK hret => ?_)
  refine pm_aload_n dM_moves_0 rfl (q := 1) rfl ?_
  refine pm_iconst (x := 0) dM_moves_1 (by decide) (q := 2) rfl ?_
  refine pm_put fp_M_82 dM_moves_2 rfl (Nat.le_of_ble_eq_true rfl) (fun _ => rfl) (fun _ => rfl) (q := 5) rfl ?_
  refine pm_aload_n dM_moves_5 rfl (q := 6) rfl ?_
  refine pm_get fl_M_89 dM_moves_6 rfl rfl (q := 9) rfl ?_
  exact pm_retI hret dM_moves_9 rfl
set_option maxHeartbeats 4000000 in
theorem kM_plug_ok {l : Launch} (hl : l.stackTraces = false) (d : Nat) (hd : 2 ≤ d) {pd : Int32} {si : Nat → Int32} {sa : Nat → Nat → Int32} {hv : Nat → Int32} {ha : Nat → Nat → Nat → Int32} {sl : Int32} {sc : Nat → Nat → Int32} {pl : Int32} {pa : Nat → Nat → Int32} {mi : Nat → Int32} {ma : Nat → Nat → Int32} {tl : pm_H} (x o : Int32) (k0 : ¬ fw x 0 (mi 1 - 1) = 0) (hx : vp_in x 3) : pm_Sem l d mM_plug [.ref 31, .int x, .int o] (cH pd si sa hv ha sl sc pl pa (mH (mi) (ma) tl)) none (cH pd si sa hv ha sl sc pl pa (mH (up1 (up1 (up1 mi 0 0) 18 0) 19 0) (up1 (up1 ma 0 (upd (ma 0) x.toNatClampNeg (vp_nar .boolean o))) 14 (fun _ => -1)) tl)) := by
  refine pm_sem hl mo_M_plug rfl rfl rfl (Nat.le_of_ble_eq_true rfl) (fun K G hK hret => ?_)
  refine pm_aload_n dM_plug_0 rfl (q := 1) rfl ?_
  refine pm_aload_n dM_plug_1 rfl (q := 2) rfl ?_
  refine pm_iload_n dM_plug_2 rfl (q := 3) rfl ?_
  refine pm_cV1i hK (kM_isStack hl 1 (Nat.le_refl _) mH_at _) mo_M_isStack im_M_isStack se_M_isStack lk_M_106 dM_plug_3 (by omega) (Nat.le_of_ble_eq_true rfl) (Nat.zero_le _) (Nat.zero_le _) rfl rfl rfl (q := 6) rfl ?_
  refine pm_if_ne (tgt := 13) dM_plug_6 rfl (q := 9) rfl (fun _ => ?_) (fun z => absurd z k0)
  refine pm_iconst (x := 0) dM_plug_13 (by decide) (q := 14) rfl ?_
  refine pm_iconst (x := 0) dM_plug_14 (by decide) (q := 15) rfl ?_
  refine pm_cV2i hK (kM_refuse_0 hl 0 _ _ rfl rfl) mo_M_refuse im_M_refuse se_M_refuse lk_M_96 dM_plug_15 (by omega) (Nat.le_of_ble_eq_true rfl) (Nat.zero_le _) (Nat.zero_le _) rfl rfl rfl (q := 18) rfl ?_
  refine pm_if_eq (tgt := 22) dM_plug_18 rfl (q := 21) rfl (fun _ => ?_) (fun z => absurd rfl z)
  refine pm_aload_n dM_plug_22 rfl (q := 23) rfl ?_
  refine pm_get fl_M_28 dM_plug_23 rfl rfl (q := 26) rfl ?_
  refine pm_iload_n dM_plug_26 rfl (q := 27) rfl ?_
  refine pm_iload_n dM_plug_27 rfl (q := 28) rfl ?_
  refine pm_zast dM_plug_28 rfl (hx) (q := 29) rfl ?_
  refine pm_heap (g := (cH pd si sa hv ha sl sc pl pa (mH (up1 mi 0 0) (up1 ma 0 (upd (ma 0) x.toNatClampNeg (vp_nar .boolean o))) tl))) rfl ?_
  refine pm_aload_n dM_plug_29 rfl (q := 30) rfl ?_
  refine pm_cV0v hK (kM_noPlan hl 1 (Nat.le_refl _)) mo_M_noPlan im_M_noPlan se_M_noPlan lk_M_103 dM_plug_30 (by omega) (Nat.le_of_ble_eq_true rfl) (Nat.zero_le _) (Nat.zero_le _) rfl rfl rfl (q := 33) rfl ?_
  exact pm_retV hret dM_plug_33 rfl
set_option maxHeartbeats 4000000 in
theorem kM_plug_no {l : Launch} (hl : l.stackTraces = false) (d : Nat) (hd : 2 ≤ d) {pd : Int32} {si : Nat → Int32} {sa : Nat → Nat → Int32} {hv : Nat → Int32} {ha : Nat → Nat → Nat → Int32} {sl : Int32} {sc : Nat → Nat → Int32} {pl : Int32} {pa : Nat → Nat → Int32} {mi : Nat → Int32} {ma : Nat → Nat → Int32} {tl : pm_H} (x o : Int32) (k0 : fw x 0 (mi 1 - 1) = 0) : pm_Sem l d mM_plug [.ref 31, .int x, .int o] (cH pd si sa hv ha sl sc pl pa (mH (mi) (ma) tl)) none (cH pd si sa hv ha sl sc pl pa (mH (up1 mi 0 1) (ma) tl)) := by
  refine pm_sem hl mo_M_plug rfl rfl rfl (Nat.le_of_ble_eq_true rfl) (fun K G hK hret => ?_)
  refine pm_aload_n dM_plug_0 rfl (q := 1) rfl ?_
  refine pm_aload_n dM_plug_1 rfl (q := 2) rfl ?_
  refine pm_iload_n dM_plug_2 rfl (q := 3) rfl ?_
  refine pm_cV1i hK (kM_isStack hl 1 (Nat.le_refl _) mH_at _) mo_M_isStack im_M_isStack se_M_isStack lk_M_106 dM_plug_3 (by omega) (Nat.le_of_ble_eq_true rfl) (Nat.zero_le _) (Nat.zero_le _) rfl rfl rfl (q := 6) rfl ?_
  refine pm_if_ne (tgt := 13) dM_plug_6 rfl (q := 9) rfl (fun z => absurd k0 z) (fun _ => ?_)
  refine pm_iconst (x := 1) dM_plug_9 (by decide) (q := 10) rfl ?_
  refine pm_goto (tgt := 14) dM_plug_10 rfl ?_
  refine pm_iconst (x := 0) dM_plug_14 (by decide) (q := 15) rfl ?_
  refine pm_cV2i hK (kM_refuse_1 hl 0 _ _ (by decide)) mo_M_refuse im_M_refuse se_M_refuse lk_M_96 dM_plug_15 (by omega) (Nat.le_of_ble_eq_true rfl) (Nat.zero_le _) (Nat.zero_le _) rfl rfl rfl (q := 18) rfl ?_
  refine pm_if_eq (tgt := 22) dM_plug_18 rfl (q := 21) rfl (fun z => absurd z (by decide)) (fun _ => ?_)
  exact pm_retV hret dM_plug_21 rfl
set_option maxHeartbeats 4000000 in
theorem kM_bay_ok {l : Launch} (hl : l.stackTraces = false) (d : Nat) (hd : 2 ≤ d) {pd : Int32} {si : Nat → Int32} {sa : Nat → Nat → Int32} {hv : Nat → Int32} {ha : Nat → Nat → Nat → Int32} {sl : Int32} {sc : Nat → Nat → Int32} {pl : Int32} {pa : Nat → Nat → Int32} {mi : Nat → Int32} {ma : Nat → Nat → Int32} {tl : pm_H} (a b c e f g : Int32) (k0 : ¬ fw a 1 3 = 0) (k1 : ¬ fw b 1 3 = 0) (k2 : ¬ fw c 2 4 = 0) (k3 : ¬ fw e 1 200 = 0) (k4 : ¬ fw f 0 2000 = 0) (k5 : ¬ fw g 0 2000 = 0) : pm_Sem l d mM_bay [.ref 31, .int a, .int b, .int c, .int e, .int f, .int g] (cH pd si sa hv ha sl sc pl pa (mH (mi) (ma) tl)) none (cH pd si sa hv ha sl sc pl pa (mH (up1 (up1 (fun j => if j = 0 then 0 else if j = 1 then a else if j = 2 then b else if j = 3 then c else if j = 4 then e else if j = 5 then f else if j = 6 then g else if j = 8 then 0 else mi j) 18 0) 19 0) (up1 (up1 ma 0 (upd (upd (upd (ma 0) 0 0) 1 0) 2 0)) 14 (fun _ => -1)) tl)) := by
  refine pm_sem hl mo_M_bay rfl rfl rfl (Nat.le_of_ble_eq_true rfl) (fun K G hK hret => ?_)
  refine pm_iload_n dM_bay_0 rfl (q := 1) rfl ?_
  refine pm_iconst (x := 1) dM_bay_1 (by decide) (q := 2) rfl ?_
  refine pm_iconst (x := 3) dM_bay_2 (by decide) (q := 3) rfl ?_
  refine pm_cS3i hK (kM_in hl 0 _ _ _ _) mo_M_in st_M_in lk_M_92 dM_bay_3 (by omega) (Nat.le_of_ble_eq_true rfl) (Nat.zero_le _) (Nat.zero_le _) (q := 6) rfl ?_
  refine pm_if_eq (tgt := 67) dM_bay_6 rfl (q := 9) rfl (fun z => absurd z k0) (fun _ => ?_)
  refine pm_iload_n dM_bay_9 rfl (q := 10) rfl ?_
  refine pm_iconst (x := 1) dM_bay_10 (by decide) (q := 11) rfl ?_
  refine pm_iconst (x := 3) dM_bay_11 (by decide) (q := 12) rfl ?_
  refine pm_cS3i hK (kM_in hl 0 _ _ _ _) mo_M_in st_M_in lk_M_92 dM_bay_12 (by omega) (Nat.le_of_ble_eq_true rfl) (Nat.zero_le _) (Nat.zero_le _) (q := 15) rfl ?_
  refine pm_if_eq (tgt := 67) dM_bay_15 rfl (q := 18) rfl (fun z => absurd z k1) (fun _ => ?_)
  refine pm_iload_n dM_bay_18 rfl (q := 19) rfl ?_
  refine pm_iconst (x := 2) dM_bay_19 (by decide) (q := 20) rfl ?_
  refine pm_iconst (x := 4) dM_bay_20 (by decide) (q := 21) rfl ?_
  refine pm_cS3i hK (kM_in hl 0 _ _ _ _) mo_M_in st_M_in lk_M_92 dM_bay_21 (by omega) (Nat.le_of_ble_eq_true rfl) (Nat.zero_le _) (Nat.zero_le _) (q := 24) rfl ?_
  refine pm_if_eq (tgt := 67) dM_bay_24 rfl (q := 27) rfl (fun z => absurd z k2) (fun _ => ?_)
  refine pm_iload dM_bay_27 rfl (q := 29) rfl ?_
  refine pm_iconst (x := 1) dM_bay_29 (by decide) (q := 30) rfl ?_
  refine pm_sipush (x := 200) dM_bay_30 (by decide) (q := 33) rfl ?_
  refine pm_cS3i hK (kM_in hl 0 _ _ _ _) mo_M_in st_M_in lk_M_92 dM_bay_33 (by omega) (Nat.le_of_ble_eq_true rfl) (Nat.zero_le _) (Nat.zero_le _) (q := 36) rfl ?_
  refine pm_if_eq (tgt := 67) dM_bay_36 rfl (q := 39) rfl (fun z => absurd z k3) (fun _ => ?_)
  refine pm_iload dM_bay_39 rfl (q := 41) rfl ?_
  refine pm_iconst (x := 0) dM_bay_41 (by decide) (q := 42) rfl ?_
  refine pm_sipush (x := 2000) dM_bay_42 (by decide) (q := 45) rfl ?_
  refine pm_cS3i hK (kM_in hl 0 _ _ _ _) mo_M_in st_M_in lk_M_92 dM_bay_45 (by omega) (Nat.le_of_ble_eq_true rfl) (Nat.zero_le _) (Nat.zero_le _) (q := 48) rfl ?_
  refine pm_if_eq (tgt := 67) dM_bay_48 rfl (q := 51) rfl (fun z => absurd z k4) (fun _ => ?_)
  refine pm_iload dM_bay_51 rfl (q := 53) rfl ?_
  refine pm_iconst (x := 0) dM_bay_53 (by decide) (q := 54) rfl ?_
  refine pm_sipush (x := 2000) dM_bay_54 (by decide) (q := 57) rfl ?_
  refine pm_cS3i hK (kM_in hl 0 _ _ _ _) mo_M_in st_M_in lk_M_92 dM_bay_57 (by omega) (Nat.le_of_ble_eq_true rfl) (Nat.zero_le _) (Nat.zero_le _) (q := 60) rfl ?_
  refine pm_if_eq (tgt := 67) dM_bay_60 rfl (q := 63) rfl (fun z => absurd z k5) (fun _ => ?_)
  refine pm_iconst (x := 1) dM_bay_63 (by decide) (q := 64) rfl ?_
  refine pm_goto (tgt := 68) dM_bay_64 rfl ?_
  refine pm_istore dM_bay_68 (by decide) (q := 70) rfl ?_
  refine pm_aload_n dM_bay_70 rfl (q := 71) rfl ?_
  refine pm_iload dM_bay_71 rfl (q := 73) rfl ?_
  refine pm_if_ne (tgt := 80) dM_bay_73 rfl (q := 76) rfl (fun _ => ?_) (fun z => absurd z (by decide))
  refine pm_iconst (x := 0) dM_bay_80 (by decide) (q := 81) rfl ?_
  refine pm_iconst (x := 0) dM_bay_81 (by decide) (q := 82) rfl ?_
  refine pm_cV2i hK (kM_refuse_0 hl 0 _ _ rfl rfl) mo_M_refuse im_M_refuse se_M_refuse lk_M_96 dM_bay_82 (by omega) (Nat.le_of_ble_eq_true rfl) (Nat.zero_le _) (Nat.zero_le _) rfl rfl rfl (q := 85) rfl ?_
  refine pm_if_eq (tgt := 89) dM_bay_85 rfl (q := 88) rfl (fun _ => ?_) (fun z => absurd rfl z)
  refine pm_aload_n dM_bay_89 rfl (q := 90) rfl ?_
  refine pm_iload_n dM_bay_90 rfl (q := 91) rfl ?_
  refine pm_put fp_M_7 dM_bay_91 rfl (Nat.le_of_ble_eq_true rfl) (fun _ => rfl) (fun _ => rfl) (q := 94) rfl ?_
  refine pm_aload_n dM_bay_94 rfl (q := 95) rfl ?_
  refine pm_iload_n dM_bay_95 rfl (q := 96) rfl ?_
  refine pm_put fp_M_13 dM_bay_96 rfl (Nat.le_of_ble_eq_true rfl) (fun _ => rfl) (fun _ => rfl) (q := 99) rfl ?_
  refine pm_aload_n dM_bay_99 rfl (q := 100) rfl ?_
  refine pm_iload_n dM_bay_100 rfl (q := 101) rfl ?_
  refine pm_put fp_M_16 dM_bay_101 rfl (Nat.le_of_ble_eq_true rfl) (fun _ => rfl) (fun _ => rfl) (q := 104) rfl ?_
  refine pm_aload_n dM_bay_104 rfl (q := 105) rfl ?_
  refine pm_iload dM_bay_105 rfl (q := 107) rfl ?_
  refine pm_put fp_M_19 dM_bay_107 rfl (Nat.le_of_ble_eq_true rfl) (fun _ => rfl) (fun _ => rfl) (q := 110) rfl ?_
  refine pm_aload_n dM_bay_110 rfl (q := 111) rfl ?_
  refine pm_iload dM_bay_111 rfl (q := 113) rfl ?_
  refine pm_put fp_M_22 dM_bay_113 rfl (Nat.le_of_ble_eq_true rfl) (fun _ => rfl) (fun _ => rfl) (q := 116) rfl ?_
  refine pm_aload_n dM_bay_116 rfl (q := 117) rfl ?_
  refine pm_iload dM_bay_117 rfl (q := 119) rfl ?_
  refine pm_put fp_M_25 dM_bay_119 rfl (Nat.le_of_ble_eq_true rfl) (fun _ => rfl) (fun _ => rfl) (q := 122) rfl ?_
  refine pm_aload_n dM_bay_122 rfl (q := 123) rfl ?_
  refine pm_iconst (x := 0) dM_bay_123 (by decide) (q := 124) rfl ?_
  refine pm_put fp_M_100 dM_bay_124 rfl (Nat.le_of_ble_eq_true rfl) (fun _ => rfl) (fun _ => rfl) (q := 127) rfl ?_
  refine pm_iconst (x := 0) dM_bay_127 (by decide) (q := 128) rfl ?_
  refine pm_istore dM_bay_128 (by decide) (q := 130) rfl ?_
  refine pm_iload dM_bay_130 rfl (q := 132) rfl ?_
  refine pm_iconst (x := 3) dM_bay_132 (by decide) (q := 133) rfl ?_
  refine pm_icmp_ge (tgt := 150) dM_bay_133 rfl (q := 136) rfl (fun h => absurd h (by decide)) (fun _ => ?_)
  refine pm_aload_n dM_bay_136 rfl (q := 137) rfl ?_
  refine pm_get fl_M_28 dM_bay_137 rfl rfl (q := 140) rfl ?_
  refine pm_iload dM_bay_140 rfl (q := 142) rfl ?_
  refine pm_iconst (x := 0) dM_bay_142 (by decide) (q := 143) rfl ?_
  refine pm_zast dM_bay_143 rfl (by unfold vp_in; decide) (q := 144) rfl ?_
  refine pm_iincL dM_bay_144 rfl (by decide) (y := 1) (by decide) (q := 147) rfl ?_
  refine pm_goto (tgt := 130) dM_bay_147 rfl ?_
  refine pm_iload dM_bay_130 rfl (q := 132) rfl ?_
  refine pm_iconst (x := 3) dM_bay_132 (by decide) (q := 133) rfl ?_
  refine pm_icmp_ge (tgt := 150) dM_bay_133 rfl (q := 136) rfl (fun h => absurd h (by decide)) (fun _ => ?_)
  refine pm_aload_n dM_bay_136 rfl (q := 137) rfl ?_
  refine pm_get fl_M_28 dM_bay_137 rfl rfl (q := 140) rfl ?_
  refine pm_iload dM_bay_140 rfl (q := 142) rfl ?_
  refine pm_iconst (x := 0) dM_bay_142 (by decide) (q := 143) rfl ?_
  refine pm_zast dM_bay_143 rfl (by unfold vp_in; decide) (q := 144) rfl ?_
  refine pm_iincL dM_bay_144 rfl (by decide) (y := 2) (by decide) (q := 147) rfl ?_
  refine pm_goto (tgt := 130) dM_bay_147 rfl ?_
  refine pm_iload dM_bay_130 rfl (q := 132) rfl ?_
  refine pm_iconst (x := 3) dM_bay_132 (by decide) (q := 133) rfl ?_
  refine pm_icmp_ge (tgt := 150) dM_bay_133 rfl (q := 136) rfl (fun h => absurd h (by decide)) (fun _ => ?_)
  refine pm_aload_n dM_bay_136 rfl (q := 137) rfl ?_
  refine pm_get fl_M_28 dM_bay_137 rfl rfl (q := 140) rfl ?_
  refine pm_iload dM_bay_140 rfl (q := 142) rfl ?_
  refine pm_iconst (x := 0) dM_bay_142 (by decide) (q := 143) rfl ?_
  refine pm_zast dM_bay_143 rfl (by unfold vp_in; decide) (q := 144) rfl ?_
  refine pm_iincL dM_bay_144 rfl (by decide) (y := 3) (by decide) (q := 147) rfl ?_
  refine pm_goto (tgt := 130) dM_bay_147 rfl ?_
  refine pm_iload dM_bay_130 rfl (q := 132) rfl ?_
  refine pm_iconst (x := 3) dM_bay_132 (by decide) (q := 133) rfl ?_
  refine pm_icmp_ge (tgt := 150) dM_bay_133 rfl (q := 136) rfl (fun _ => ?_) (fun h => absurd h (by decide))
  refine pm_heap (g := (cH pd si sa hv ha sl sc pl pa (mH (fun j => if j = 0 then 0 else if j = 1 then a else if j = 2 then b else if j = 3 then c else if j = 4 then e else if j = 5 then f else if j = 6 then g else if j = 8 then 0 else mi j) (up1 ma 0 (upd (upd (upd (ma 0) 0 0) 1 0) 2 0)) tl))) rfl ?_
  refine pm_aload_n dM_bay_150 rfl (q := 151) rfl ?_
  refine pm_cV0v hK (kM_noPlan hl 1 (Nat.le_refl _)) mo_M_noPlan im_M_noPlan se_M_noPlan lk_M_103 dM_bay_151 (by omega) (Nat.le_of_ble_eq_true rfl) (Nat.zero_le _) (Nat.zero_le _) rfl rfl rfl (q := 154) rfl ?_
  exact pm_retV hret dM_bay_154 rfl
set_option maxHeartbeats 4000000 in
theorem kM_bay_no {l : Launch} (hl : l.stackTraces = false) (d : Nat) (hd : 2 ≤ d) {pd : Int32} {si : Nat → Int32} {sa : Nat → Nat → Int32} {hv : Nat → Int32} {ha : Nat → Nat → Nat → Int32} {sl : Int32} {sc : Nat → Nat → Int32} {pl : Int32} {pa : Nat → Nat → Int32} {mi : Nat → Int32} {ma : Nat → Nat → Int32} {tl : pm_H} (a b c e f g : Int32) (hno : ¬ (¬ fw a 1 3 = 0 ∧ ¬ fw b 1 3 = 0 ∧ ¬ fw c 2 4 = 0 ∧ ¬ fw e 1 200 = 0 ∧ ¬ fw f 0 2000 = 0 ∧ ¬ fw g 0 2000 = 0)) : pm_Sem l d mM_bay [.ref 31, .int a, .int b, .int c, .int e, .int f, .int g] (cH pd si sa hv ha sl sc pl pa (mH (mi) (ma) tl)) none (cH pd si sa hv ha sl sc pl pa (mH (up1 mi 0 1) (ma) tl)) := by
  refine pm_sem hl mo_M_bay rfl rfl rfl (Nat.le_of_ble_eq_true rfl) (fun K G hK hret => ?_)
  have hJ : pm_Go mM_bay K G 68 [some (.ref 31), some (.int a), some (.int b), some (.int c), some (.int e), some (.int f), some (.int g), none, none] [.int 0] (cH pd si sa hv ha sl sc pl pa (mH (mi) (ma) tl)) 0 0 := by
    refine pm_istore dM_bay_68 (by decide) (q := 70) rfl ?_
    refine pm_aload_n dM_bay_70 rfl (q := 71) rfl ?_
    refine pm_iload dM_bay_71 rfl (q := 73) rfl ?_
    refine pm_if_ne (tgt := 80) dM_bay_73 rfl (q := 76) rfl (fun z => absurd rfl z) (fun _ => ?_)
    refine pm_iconst (x := 1) dM_bay_76 (by decide) (q := 77) rfl ?_
    refine pm_goto (tgt := 81) dM_bay_77 rfl ?_
    refine pm_iconst (x := 0) dM_bay_81 (by decide) (q := 82) rfl ?_
    refine pm_cV2i hK (kM_refuse_1 hl 0 _ _ (by decide)) mo_M_refuse im_M_refuse se_M_refuse lk_M_96 dM_bay_82 (by omega) (Nat.le_of_ble_eq_true rfl) (Nat.zero_le _) (Nat.zero_le _) rfl rfl rfl (q := 85) rfl ?_
    refine pm_if_eq (tgt := 89) dM_bay_85 rfl (q := 88) rfl (fun z => absurd z (by decide)) (fun _ => ?_)
    exact pm_retV hret dM_bay_88 rfl
  refine pm_iload_n dM_bay_0 rfl (q := 1) rfl ?_
  refine pm_iconst (x := 1) dM_bay_1 (by decide) (q := 2) rfl ?_
  refine pm_iconst (x := 3) dM_bay_2 (by decide) (q := 3) rfl ?_
  refine pm_cS3i hK (kM_in hl 0 _ _ _ _) mo_M_in st_M_in lk_M_92 dM_bay_3 (by omega) (Nat.le_of_ble_eq_true rfl) (Nat.zero_le _) (Nat.zero_le _) (q := 6) rfl ?_
  refine pm_if_eq (tgt := 67) dM_bay_6 rfl (q := 9) rfl (fun h6 => ?_) (fun h6 => ?_)
  · refine pm_iconst (x := 0) dM_bay_67 (by decide) (q := 68) rfl ?_
    exact hJ
  · refine pm_iload_n dM_bay_9 rfl (q := 10) rfl ?_
    refine pm_iconst (x := 1) dM_bay_10 (by decide) (q := 11) rfl ?_
    refine pm_iconst (x := 3) dM_bay_11 (by decide) (q := 12) rfl ?_
    refine pm_cS3i hK (kM_in hl 0 _ _ _ _) mo_M_in st_M_in lk_M_92 dM_bay_12 (by omega) (Nat.le_of_ble_eq_true rfl) (Nat.zero_le _) (Nat.zero_le _) (q := 15) rfl ?_
    refine pm_if_eq (tgt := 67) dM_bay_15 rfl (q := 18) rfl (fun h15 => ?_) (fun h15 => ?_)
    · refine pm_iconst (x := 0) dM_bay_67 (by decide) (q := 68) rfl ?_
      exact hJ
    · refine pm_iload_n dM_bay_18 rfl (q := 19) rfl ?_
      refine pm_iconst (x := 2) dM_bay_19 (by decide) (q := 20) rfl ?_
      refine pm_iconst (x := 4) dM_bay_20 (by decide) (q := 21) rfl ?_
      refine pm_cS3i hK (kM_in hl 0 _ _ _ _) mo_M_in st_M_in lk_M_92 dM_bay_21 (by omega) (Nat.le_of_ble_eq_true rfl) (Nat.zero_le _) (Nat.zero_le _) (q := 24) rfl ?_
      refine pm_if_eq (tgt := 67) dM_bay_24 rfl (q := 27) rfl (fun h24 => ?_) (fun h24 => ?_)
      · refine pm_iconst (x := 0) dM_bay_67 (by decide) (q := 68) rfl ?_
        exact hJ
      · refine pm_iload dM_bay_27 rfl (q := 29) rfl ?_
        refine pm_iconst (x := 1) dM_bay_29 (by decide) (q := 30) rfl ?_
        refine pm_sipush (x := 200) dM_bay_30 (by decide) (q := 33) rfl ?_
        refine pm_cS3i hK (kM_in hl 0 _ _ _ _) mo_M_in st_M_in lk_M_92 dM_bay_33 (by omega) (Nat.le_of_ble_eq_true rfl) (Nat.zero_le _) (Nat.zero_le _) (q := 36) rfl ?_
        refine pm_if_eq (tgt := 67) dM_bay_36 rfl (q := 39) rfl (fun h36 => ?_) (fun h36 => ?_)
        · refine pm_iconst (x := 0) dM_bay_67 (by decide) (q := 68) rfl ?_
          exact hJ
        · refine pm_iload dM_bay_39 rfl (q := 41) rfl ?_
          refine pm_iconst (x := 0) dM_bay_41 (by decide) (q := 42) rfl ?_
          refine pm_sipush (x := 2000) dM_bay_42 (by decide) (q := 45) rfl ?_
          refine pm_cS3i hK (kM_in hl 0 _ _ _ _) mo_M_in st_M_in lk_M_92 dM_bay_45 (by omega) (Nat.le_of_ble_eq_true rfl) (Nat.zero_le _) (Nat.zero_le _) (q := 48) rfl ?_
          refine pm_if_eq (tgt := 67) dM_bay_48 rfl (q := 51) rfl (fun h48 => ?_) (fun h48 => ?_)
          · refine pm_iconst (x := 0) dM_bay_67 (by decide) (q := 68) rfl ?_
            exact hJ
          · refine pm_iload dM_bay_51 rfl (q := 53) rfl ?_
            refine pm_iconst (x := 0) dM_bay_53 (by decide) (q := 54) rfl ?_
            refine pm_sipush (x := 2000) dM_bay_54 (by decide) (q := 57) rfl ?_
            refine pm_cS3i hK (kM_in hl 0 _ _ _ _) mo_M_in st_M_in lk_M_92 dM_bay_57 (by omega) (Nat.le_of_ble_eq_true rfl) (Nat.zero_le _) (Nat.zero_le _) (q := 60) rfl ?_
            refine pm_if_eq (tgt := 67) dM_bay_60 rfl (q := 63) rfl (fun h60 => ?_) (fun h60 => ?_)
            · refine pm_iconst (x := 0) dM_bay_67 (by decide) (q := 68) rfl ?_
              exact hJ
            · exact absurd ⟨h6, h15, h24, h36, h48, h60⟩ hno
