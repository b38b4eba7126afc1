/-! the model: moment, act -/
set_option maxHeartbeats 4000000 in
theorem kM_moment_0 {l : Launch} (hl : l.stackTraces = false) (d : Nat) (hd : 3 ≤ d) {pd : Int32} {si : Nat → Int32} {sa : Nat → Nat → Int32} {hv : Nat → Int32} {ha : Nat → Nat → Nat → Int32} {sl : Int32} {sc : Nat → Nat → Int32} {pl : Int32} {pa : Nat → Nat → Int32} {mi : Nat → Int32} {ma : Nat → Nat → Int32} {tl : pm_H} (hf : ∀ k, k < 9 → ¬ ma 14 k < 0 → vp_in (ma 14 k) 5) {S : Nat} (hS : mi 1 = nI S) (hS3 : S ≤ 3) : pm_Sem l d mM_moment [.ref 31, .int 0] (cH pd si sa hv ha sl sc pl pa (mH (mi) (ma) tl)) (some (.int (fM_v (ma 14) (ma 3) 9))) (cH pd si sa hv ha sl sc pl pa (mH (up1 mi 0 0) (ma) tl)) := by
  refine pm_sem hl mo_M_moment ⟨_, rfl, rfl⟩ rfl rfl (Nat.le_of_ble_eq_true rfl) (fun K G hK hret => ?_)
  refine pm_aload_n dM_moment_0 rfl (q := 1) rfl ?_
  refine pm_iload_n dM_moment_1 rfl (q := 2) rfl ?_
  refine pm_iconst (x := 0) dM_moment_2 (by decide) (q := 3) rfl ?_
  refine pm_iconst (x := 5) dM_moment_3 (by decide) (q := 4) rfl ?_
  refine pm_cS3i hK (kM_in hl 0 _ _ _ _) mo_M_in st_M_in lk_M_92 dM_moment_4 (by omega) (Nat.le_of_ble_eq_true rfl) (Nat.zero_le _) (Nat.zero_le _) (q := 7) rfl ?_
  refine pm_if_ne (tgt := 14) dM_moment_7 rfl (q := 10) rfl (fun _ => ?_) (fun z => absurd z (by decide))
  refine pm_iconst (x := 0) dM_moment_14 (by decide) (q := 15) rfl ?_
  refine pm_iconst (x := 0) dM_moment_15 (by decide) (q := 16) rfl ?_
  refine pm_cV2i hK (kM_refuse_0 hl 0 _ _ rfl rfl) mo_M_refuse im_M_refuse se_M_refuse lk_M_96 dM_moment_16 (by omega) (Nat.le_of_ble_eq_true rfl) (Nat.zero_le _) (Nat.zero_le _) rfl rfl rfl (q := 19) rfl ?_
  refine pm_if_eq (tgt := 24) dM_moment_19 rfl (q := 22) rfl (fun _ => ?_) (fun z => absurd rfl z)
  refine pm_iload_n dM_moment_24 rfl (q := 25) rfl ?_
  refine pm_iconst (x := 5) dM_moment_25 (by decide) (q := 26) rfl ?_
  refine pm_icmp_ne (tgt := 46) dM_moment_26 rfl (q := 29) rfl (fun _ => ?_) (fun h => absurd h (by decide))
  refine pm_iload_n dM_moment_46 rfl (q := 47) rfl ?_
  refine pm_if_ne (tgt := 61) dM_moment_47 rfl (q := 50) rfl (fun h => absurd h (by decide)) (fun _ => ?_)
  refine pm_aload_n dM_moment_50 rfl (q := 51) rfl ?_
  refine pm_aload_n dM_moment_51 rfl (q := 52) rfl ?_
  refine pm_get fl_M_72 dM_moment_52 rfl rfl (q := 55) rfl ?_
  refine pm_cV1i hK (kM_verticalOf hl 0 mH_at rfl hf) mo_M_verticalOf im_M_verticalOf se_M_verticalOf lk_M_118 dM_moment_55 (by omega) (Nat.le_of_ble_eq_true rfl) (Nat.zero_le _) (Nat.zero_le _) rfl rfl rfl (q := 58) rfl ?_
  refine pm_goto (tgt := 88) dM_moment_58 rfl ?_
  exact pm_retI hret dM_moment_88 rfl
set_option maxHeartbeats 4000000 in
theorem kM_moment_1 {l : Launch} (hl : l.stackTraces = false) (d : Nat) (hd : 3 ≤ d) {pd : Int32} {si : Nat → Int32} {sa : Nat → Nat → Int32} {hv : Nat → Int32} {ha : Nat → Nat → Nat → Int32} {sl : Int32} {sc : Nat → Nat → Int32} {pl : Int32} {pa : Nat → Nat → Int32} {mi : Nat → Int32} {ma : Nat → Nat → Int32} {tl : pm_H} (hf : ∀ k, k < 9 → ¬ ma 14 k < 0 → vp_in (ma 14 k) 5) {S : Nat} (hS : mi 1 = nI S) (hS3 : S ≤ 3) : pm_Sem l d mM_moment [.ref 31, .int 1] (cH pd si sa hv ha sl sc pl pa (mH (mi) (ma) tl)) (some (.int (fM_l (up1 mi 0 0) (ma 14) (ma 3) S))) (cH pd si sa hv ha sl sc pl pa (mH (up1 mi 0 0) (ma) tl)) := by
  refine pm_sem hl mo_M_moment ⟨_, rfl, rfl⟩ rfl rfl (Nat.le_of_ble_eq_true rfl) (fun K G hK hret => ?_)
  refine pm_aload_n dM_moment_0 rfl (q := 1) rfl ?_
  refine pm_iload_n dM_moment_1 rfl (q := 2) rfl ?_
  refine pm_iconst (x := 0) dM_moment_2 (by decide) (q := 3) rfl ?_
  refine pm_iconst (x := 5) dM_moment_3 (by decide) (q := 4) rfl ?_
  refine pm_cS3i hK (kM_in hl 0 _ _ _ _) mo_M_in st_M_in lk_M_92 dM_moment_4 (by omega) (Nat.le_of_ble_eq_true rfl) (Nat.zero_le _) (Nat.zero_le _) (q := 7) rfl ?_
  refine pm_if_ne (tgt := 14) dM_moment_7 rfl (q := 10) rfl (fun _ => ?_) (fun z => absurd z (by decide))
  refine pm_iconst (x := 0) dM_moment_14 (by decide) (q := 15) rfl ?_
  refine pm_iconst (x := 0) dM_moment_15 (by decide) (q := 16) rfl ?_
  refine pm_cV2i hK (kM_refuse_0 hl 0 _ _ rfl rfl) mo_M_refuse im_M_refuse se_M_refuse lk_M_96 dM_moment_16 (by omega) (Nat.le_of_ble_eq_true rfl) (Nat.zero_le _) (Nat.zero_le _) rfl rfl rfl (q := 19) rfl ?_
  refine pm_if_eq (tgt := 24) dM_moment_19 rfl (q := 22) rfl (fun _ => ?_) (fun z => absurd rfl z)
  refine pm_iload_n dM_moment_24 rfl (q := 25) rfl ?_
  refine pm_iconst (x := 5) dM_moment_25 (by decide) (q := 26) rfl ?_
  refine pm_icmp_ne (tgt := 46) dM_moment_26 rfl (q := 29) rfl (fun _ => ?_) (fun h => absurd h (by decide))
  refine pm_iload_n dM_moment_46 rfl (q := 47) rfl ?_
  refine pm_if_ne (tgt := 61) dM_moment_47 rfl (q := 50) rfl (fun _ => ?_) (fun h => absurd h (by decide))
  refine pm_iload_n dM_moment_61 rfl (q := 62) rfl ?_
  refine pm_iconst (x := 1) dM_moment_62 (by decide) (q := 63) rfl ?_
  refine pm_icmp_ne (tgt := 77) dM_moment_63 rfl (q := 66) rfl (fun h => absurd h (by decide)) (fun _ => ?_)
  refine pm_aload_n dM_moment_66 rfl (q := 67) rfl ?_
  refine pm_aload_n dM_moment_67 rfl (q := 68) rfl ?_
  refine pm_get fl_M_72 dM_moment_68 rfl rfl (q := 71) rfl ?_
  refine pm_cV1i hK (kM_listOf hl 1 (Nat.le_refl _) mH_at rfl hf (show (up1 mi 0 0) 1 = nI S from hS) hS3) mo_M_listOf im_M_listOf se_M_listOf lk_M_114 dM_moment_71 (by omega) (Nat.le_of_ble_eq_true rfl) (Nat.zero_le _) (Nat.zero_le _) rfl rfl rfl (q := 74) rfl ?_
  refine pm_goto (tgt := 88) dM_moment_74 rfl ?_
  exact pm_retI hret dM_moment_88 rfl
set_option maxHeartbeats 4000000 in
theorem kM_moment_2 {l : Launch} (hl : l.stackTraces = false) (d : Nat) (hd : 3 ≤ d) {pd : Int32} {si : Nat → Int32} {sa : Nat → Nat → Int32} {hv : Nat → Int32} {ha : Nat → Nat → Nat → Int32} {sl : Int32} {sc : Nat → Nat → Int32} {pl : Int32} {pa : Nat → Nat → Int32} {mi : Nat → Int32} {ma : Nat → Nat → Int32} {tl : pm_H} (hf : ∀ k, k < 9 → ¬ ma 14 k < 0 → vp_in (ma 14 k) 5) {S : Nat} (hS : mi 1 = nI S) (hS3 : S ≤ 3) : pm_Sem l d mM_moment [.ref 31, .int 2] (cH pd si sa hv ha sl sc pl pa (mH (mi) (ma) tl)) (some (.int (fM_w (ma 14) (ma 3) 0 3))) (cH pd si sa hv ha sl sc pl pa (mH (up1 mi 0 0) (ma) tl)) := by
  refine pm_sem hl mo_M_moment ⟨_, rfl, rfl⟩ rfl rfl (Nat.le_of_ble_eq_true rfl) (fun K G hK hret => ?_)
  refine pm_aload_n dM_moment_0 rfl (q := 1) rfl ?_
  refine pm_iload_n dM_moment_1 rfl (q := 2) rfl ?_
  refine pm_iconst (x := 0) dM_moment_2 (by decide) (q := 3) rfl ?_
  refine pm_iconst (x := 5) dM_moment_3 (by decide) (q := 4) rfl ?_
  refine pm_cS3i hK (kM_in hl 0 _ _ _ _) mo_M_in st_M_in lk_M_92 dM_moment_4 (by omega) (Nat.le_of_ble_eq_true rfl) (Nat.zero_le _) (Nat.zero_le _) (q := 7) rfl ?_
  refine pm_if_ne (tgt := 14) dM_moment_7 rfl (q := 10) rfl (fun _ => ?_) (fun z => absurd z (by decide))
  refine pm_iconst (x := 0) dM_moment_14 (by decide) (q := 15) rfl ?_
  refine pm_iconst (x := 0) dM_moment_15 (by decide) (q := 16) rfl ?_
  refine pm_cV2i hK (kM_refuse_0 hl 0 _ _ rfl rfl) mo_M_refuse im_M_refuse se_M_refuse lk_M_96 dM_moment_16 (by omega) (Nat.le_of_ble_eq_true rfl) (Nat.zero_le _) (Nat.zero_le _) rfl rfl rfl (q := 19) rfl ?_
  refine pm_if_eq (tgt := 24) dM_moment_19 rfl (q := 22) rfl (fun _ => ?_) (fun z => absurd rfl z)
  refine pm_iload_n dM_moment_24 rfl (q := 25) rfl ?_
  refine pm_iconst (x := 5) dM_moment_25 (by decide) (q := 26) rfl ?_
  refine pm_icmp_ne (tgt := 46) dM_moment_26 rfl (q := 29) rfl (fun _ => ?_) (fun h => absurd h (by decide))
  refine pm_iload_n dM_moment_46 rfl (q := 47) rfl ?_
  refine pm_if_ne (tgt := 61) dM_moment_47 rfl (q := 50) rfl (fun _ => ?_) (fun h => absurd h (by decide))
  refine pm_iload_n dM_moment_61 rfl (q := 62) rfl ?_
  refine pm_iconst (x := 1) dM_moment_62 (by decide) (q := 63) rfl ?_
  refine pm_icmp_ne (tgt := 77) dM_moment_63 rfl (q := 66) rfl (fun _ => ?_) (fun h => absurd h (by decide))
  refine pm_aload_n dM_moment_77 rfl (q := 78) rfl ?_
  refine pm_aload_n dM_moment_78 rfl (q := 79) rfl ?_
  refine pm_get fl_M_72 dM_moment_79 rfl rfl (q := 82) rfl ?_
  refine pm_iload_n dM_moment_82 rfl (q := 83) rfl ?_
  refine pm_iconst (x := 2) dM_moment_83 (by decide) (q := 84) rfl ?_
  refine pm_isub dM_moment_84 (q := 85) rfl ?_
  refine pm_topL (y := nI 0) (by decide) ?_
  refine pm_cV2i hK (kM_weightOf hl 0 mH_at rfl hf 0 (by decide)) mo_M_weightOf im_M_weightOf se_M_weightOf lk_M_110 dM_moment_85 (by omega) (Nat.le_of_ble_eq_true rfl) (Nat.zero_le _) (Nat.zero_le _) rfl rfl rfl (q := 88) rfl ?_
  exact pm_retI hret dM_moment_88 rfl
set_option maxHeartbeats 4000000 in
theorem kM_moment_3 {l : Launch} (hl : l.stackTraces = false) (d : Nat) (hd : 3 ≤ d) {pd : Int32} {si : Nat → Int32} {sa : Nat → Nat → Int32} {hv : Nat → Int32} {ha : Nat → Nat → Nat → Int32} {sl : Int32} {sc : Nat → Nat → Int32} {pl : Int32} {pa : Nat → Nat → Int32} {mi : Nat → Int32} {ma : Nat → Nat → Int32} {tl : pm_H} (hf : ∀ k, k < 9 → ¬ ma 14 k < 0 → vp_in (ma 14 k) 5) {S : Nat} (hS : mi 1 = nI S) (hS3 : S ≤ 3) : pm_Sem l d mM_moment [.ref 31, .int 3] (cH pd si sa hv ha sl sc pl pa (mH (mi) (ma) tl)) (some (.int (fM_w (ma 14) (ma 3) 1 3))) (cH pd si sa hv ha sl sc pl pa (mH (up1 mi 0 0) (ma) tl)) := by
  refine pm_sem hl mo_M_moment ⟨_, rfl, rfl⟩ rfl rfl (Nat.le_of_ble_eq_true rfl) (fun K G hK hret => ?_)
  refine pm_aload_n dM_moment_0 rfl (q := 1) rfl ?_
  refine pm_iload_n dM_moment_1 rfl (q := 2) rfl ?_
  refine pm_iconst (x := 0) dM_moment_2 (by decide) (q := 3) rfl ?_
  refine pm_iconst (x := 5) dM_moment_3 (by decide) (q := 4) rfl ?_
  refine pm_cS3i hK (kM_in hl 0 _ _ _ _) mo_M_in st_M_in lk_M_92 dM_moment_4 (by omega) (Nat.le_of_ble_eq_true rfl) (Nat.zero_le _) (Nat.zero_le _) (q := 7) rfl ?_
  refine pm_if_ne (tgt := 14) dM_moment_7 rfl (q := 10) rfl (fun _ => ?_) (fun z => absurd z (by decide))
  refine pm_iconst (x := 0) dM_moment_14 (by decide) (q := 15) rfl ?_
  refine pm_iconst (x := 0) dM_moment_15 (by decide) (q := 16) rfl ?_
  refine pm_cV2i hK (kM_refuse_0 hl 0 _ _ rfl rfl) mo_M_refuse im_M_refuse se_M_refuse lk_M_96 dM_moment_16 (by omega) (Nat.le_of_ble_eq_true rfl) (Nat.zero_le _) (Nat.zero_le _) rfl rfl rfl (q := 19) rfl ?_
  refine pm_if_eq (tgt := 24) dM_moment_19 rfl (q := 22) rfl (fun _ => ?_) (fun z => absurd rfl z)
  refine pm_iload_n dM_moment_24 rfl (q := 25) rfl ?_
  refine pm_iconst (x := 5) dM_moment_25 (by decide) (q := 26) rfl ?_
  refine pm_icmp_ne (tgt := 46) dM_moment_26 rfl (q := 29) rfl (fun _ => ?_) (fun h => absurd h (by decide))
  refine pm_iload_n dM_moment_46 rfl (q := 47) rfl ?_
  refine pm_if_ne (tgt := 61) dM_moment_47 rfl (q := 50) rfl (fun _ => ?_) (fun h => absurd h (by decide))
  refine pm_iload_n dM_moment_61 rfl (q := 62) rfl ?_
  refine pm_iconst (x := 1) dM_moment_62 (by decide) (q := 63) rfl ?_
  refine pm_icmp_ne (tgt := 77) dM_moment_63 rfl (q := 66) rfl (fun _ => ?_) (fun h => absurd h (by decide))
  refine pm_aload_n dM_moment_77 rfl (q := 78) rfl ?_
  refine pm_aload_n dM_moment_78 rfl (q := 79) rfl ?_
  refine pm_get fl_M_72 dM_moment_79 rfl rfl (q := 82) rfl ?_
  refine pm_iload_n dM_moment_82 rfl (q := 83) rfl ?_
  refine pm_iconst (x := 2) dM_moment_83 (by decide) (q := 84) rfl ?_
  refine pm_isub dM_moment_84 (q := 85) rfl ?_
  refine pm_topL (y := nI 1) (by decide) ?_
  refine pm_cV2i hK (kM_weightOf hl 0 mH_at rfl hf 1 (by decide)) mo_M_weightOf im_M_weightOf se_M_weightOf lk_M_110 dM_moment_85 (by omega) (Nat.le_of_ble_eq_true rfl) (Nat.zero_le _) (Nat.zero_le _) rfl rfl rfl (q := 88) rfl ?_
  exact pm_retI hret dM_moment_88 rfl
set_option maxHeartbeats 4000000 in
theorem kM_moment_4 {l : Launch} (hl : l.stackTraces = false) (d : Nat) (hd : 3 ≤ d) {pd : Int32} {si : Nat → Int32} {sa : Nat → Nat → Int32} {hv : Nat → Int32} {ha : Nat → Nat → Nat → Int32} {sl : Int32} {sc : Nat → Nat → Int32} {pl : Int32} {pa : Nat → Nat → Int32} {mi : Nat → Int32} {ma : Nat → Nat → Int32} {tl : pm_H} (hf : ∀ k, k < 9 → ¬ ma 14 k < 0 → vp_in (ma 14 k) 5) {S : Nat} (hS : mi 1 = nI S) (hS3 : S ≤ 3) : pm_Sem l d mM_moment [.ref 31, .int 4] (cH pd si sa hv ha sl sc pl pa (mH (mi) (ma) tl)) (some (.int (fM_w (ma 14) (ma 3) 2 3))) (cH pd si sa hv ha sl sc pl pa (mH (up1 mi 0 0) (ma) tl)) := by
  refine pm_sem hl mo_M_moment ⟨_, rfl, rfl⟩ rfl rfl (Nat.le_of_ble_eq_true rfl) (fun K G hK hret => ?_)
  refine pm_aload_n dM_moment_0 rfl (q := 1) rfl ?_
  refine pm_iload_n dM_moment_1 rfl (q := 2) rfl ?_
  refine pm_iconst (x := 0) dM_moment_2 (by decide) (q := 3) rfl ?_
  refine pm_iconst (x := 5) dM_moment_3 (by decide) (q := 4) rfl ?_
  refine pm_cS3i hK (kM_in hl 0 _ _ _ _) mo_M_in st_M_in lk_M_92 dM_moment_4 (by omega) (Nat.le_of_ble_eq_true rfl) (Nat.zero_le _) (Nat.zero_le _) (q := 7) rfl ?_
  refine pm_if_ne (tgt := 14) dM_moment_7 rfl (q := 10) rfl (fun _ => ?_) (fun z => absurd z (by decide))
  refine pm_iconst (x := 0) dM_moment_14 (by decide) (q := 15) rfl ?_
  refine pm_iconst (x := 0) dM_moment_15 (by decide) (q := 16) rfl ?_
  refine pm_cV2i hK (kM_refuse_0 hl 0 _ _ rfl rfl) mo_M_refuse im_M_refuse se_M_refuse lk_M_96 dM_moment_16 (by omega) (Nat.le_of_ble_eq_true rfl) (Nat.zero_le _) (Nat.zero_le _) rfl rfl rfl (q := 19) rfl ?_
  refine pm_if_eq (tgt := 24) dM_moment_19 rfl (q := 22) rfl (fun _ => ?_) (fun z => absurd rfl z)
  refine pm_iload_n dM_moment_24 rfl (q := 25) rfl ?_
  refine pm_iconst (x := 5) dM_moment_25 (by decide) (q := 26) rfl ?_
  refine pm_icmp_ne (tgt := 46) dM_moment_26 rfl (q := 29) rfl (fun _ => ?_) (fun h => absurd h (by decide))
  refine pm_iload_n dM_moment_46 rfl (q := 47) rfl ?_
  refine pm_if_ne (tgt := 61) dM_moment_47 rfl (q := 50) rfl (fun _ => ?_) (fun h => absurd h (by decide))
  refine pm_iload_n dM_moment_61 rfl (q := 62) rfl ?_
  refine pm_iconst (x := 1) dM_moment_62 (by decide) (q := 63) rfl ?_
  refine pm_icmp_ne (tgt := 77) dM_moment_63 rfl (q := 66) rfl (fun _ => ?_) (fun h => absurd h (by decide))
  refine pm_aload_n dM_moment_77 rfl (q := 78) rfl ?_
  refine pm_aload_n dM_moment_78 rfl (q := 79) rfl ?_
  refine pm_get fl_M_72 dM_moment_79 rfl rfl (q := 82) rfl ?_
  refine pm_iload_n dM_moment_82 rfl (q := 83) rfl ?_
  refine pm_iconst (x := 2) dM_moment_83 (by decide) (q := 84) rfl ?_
  refine pm_isub dM_moment_84 (q := 85) rfl ?_
  refine pm_topL (y := nI 2) (by decide) ?_
  refine pm_cV2i hK (kM_weightOf hl 0 mH_at rfl hf 2 (by decide)) mo_M_weightOf im_M_weightOf se_M_weightOf lk_M_110 dM_moment_85 (by omega) (Nat.le_of_ble_eq_true rfl) (Nat.zero_le _) (Nat.zero_le _) rfl rfl rfl (q := 88) rfl ?_
  exact pm_retI hret dM_moment_88 rfl
set_option maxHeartbeats 4000000 in
theorem kM_moment_5 {l : Launch} (hl : l.stackTraces = false) (d : Nat) (hd : 3 ≤ d) {pd : Int32} {si : Nat → Int32} {sa : Nat → Nat → Int32} {hv : Nat → Int32} {ha : Nat → Nat → Nat → Int32} {sl : Int32} {sc : Nat → Nat → Int32} {pl : Int32} {pa : Nat → Nat → Int32} {mi : Nat → Int32} {ma : Nat → Nat → Int32} {tl : pm_H} (hf : ∀ k, k < 9 → ¬ ma 14 k < 0 → vp_in (ma 14 k) 5) {S : Nat} (hS : mi 1 = nI S) (hS3 : S ≤ 3) : pm_Sem l d mM_moment [.ref 31, .int 5] (cH pd si sa hv ha sl sc pl pa (mH (mi) (ma) tl)) (some (.int (if fM_so (up1 mi 0 0) (ma 14) ma S S = 0 then 0 else 1))) (cH pd si sa hv ha sl sc pl pa (mH (up1 mi 0 0) (ma) tl)) := by
  refine pm_sem hl mo_M_moment ⟨_, rfl, rfl⟩ rfl rfl (Nat.le_of_ble_eq_true rfl) (fun K G hK hret => ?_)
  refine pm_aload_n dM_moment_0 rfl (q := 1) rfl ?_
  refine pm_iload_n dM_moment_1 rfl (q := 2) rfl ?_
  refine pm_iconst (x := 0) dM_moment_2 (by decide) (q := 3) rfl ?_
  refine pm_iconst (x := 5) dM_moment_3 (by decide) (q := 4) rfl ?_
  refine pm_cS3i hK (kM_in hl 0 _ _ _ _) mo_M_in st_M_in lk_M_92 dM_moment_4 (by omega) (Nat.le_of_ble_eq_true rfl) (Nat.zero_le _) (Nat.zero_le _) (q := 7) rfl ?_
  refine pm_if_ne (tgt := 14) dM_moment_7 rfl (q := 10) rfl (fun _ => ?_) (fun z => absurd z (by decide))
  refine pm_iconst (x := 0) dM_moment_14 (by decide) (q := 15) rfl ?_
  refine pm_iconst (x := 0) dM_moment_15 (by decide) (q := 16) rfl ?_
  refine pm_cV2i hK (kM_refuse_0 hl 0 _ _ rfl rfl) mo_M_refuse im_M_refuse se_M_refuse lk_M_96 dM_moment_16 (by omega) (Nat.le_of_ble_eq_true rfl) (Nat.zero_le _) (Nat.zero_le _) rfl rfl rfl (q := 19) rfl ?_
  refine pm_if_eq (tgt := 24) dM_moment_19 rfl (q := 22) rfl (fun _ => ?_) (fun z => absurd rfl z)
  refine pm_iload_n dM_moment_24 rfl (q := 25) rfl ?_
  refine pm_iconst (x := 5) dM_moment_25 (by decide) (q := 26) rfl ?_
  refine pm_icmp_ne (tgt := 46) dM_moment_26 rfl (q := 29) rfl (fun h => absurd h (by decide)) (fun _ => ?_)
  refine pm_aload_n dM_moment_29 rfl (q := 30) rfl ?_
  refine pm_aload_n dM_moment_30 rfl (q := 31) rfl ?_
  refine pm_get fl_M_72 dM_moment_31 rfl rfl (q := 34) rfl ?_
  refine pm_cV1i hK (kM_isSound hl 2 (Nat.le_refl _) mH_at rfl hf (show (up1 mi 0 0) 1 = nI S from hS) hS3) mo_M_isSound im_M_isSound se_M_isSound lk_M_139 dM_moment_34 (by omega) (Nat.le_of_ble_eq_true rfl) (Nat.zero_le _) (Nat.zero_le _) rfl rfl rfl (q := 37) rfl ?_
  refine pm_if_eq (tgt := 44) dM_moment_37 rfl (q := 40) rfl (fun h37 => ?_) (fun h37 => ?_)
  · refine pm_iconst (x := 0) dM_moment_44 (by decide) (q := 45) rfl ?_
    first | exact pm_retI hret dM_moment_45 (if_pos h37).symm | exact pm_retI hret dM_moment_45 (if_neg h37).symm
  · refine pm_iconst (x := 1) dM_moment_40 (by decide) (q := 41) rfl ?_
    refine pm_goto (tgt := 45) dM_moment_41 rfl ?_
    first | exact pm_retI hret dM_moment_45 (if_pos h37).symm | exact pm_retI hret dM_moment_45 (if_neg h37).symm
set_option maxHeartbeats 4000000 in
theorem kM_moment_no {l : Launch} (hl : l.stackTraces = false) (d : Nat) (hd : 3 ≤ d) {pd : Int32} {si : Nat → Int32} {sa : Nat → Nat → Int32} {hv : Nat → Int32} {ha : Nat → Nat → Nat → Int32} {sl : Int32} {sc : Nat → Nat → Int32} {pl : Int32} {pa : Nat → Nat → Int32} {mi : Nat → Int32} {ma : Nat → Nat → Int32} {tl : pm_H} (x : Int32) (k0 : fw x 0 5 = 0) : pm_Sem l d mM_moment [.ref 31, .int x] (cH pd si sa hv ha sl sc pl pa (mH (mi) (ma) tl)) (some (.int 0)) (cH pd si sa hv ha sl sc pl pa (mH (up1 mi 0 1) (ma) tl)) := by
  refine pm_sem hl mo_M_moment ⟨_, rfl, rfl⟩ rfl rfl (Nat.le_of_ble_eq_true rfl) (fun K G hK hret => ?_)
  refine pm_aload_n dM_moment_0 rfl (q := 1) rfl ?_
  refine pm_iload_n dM_moment_1 rfl (q := 2) rfl ?_
  refine pm_iconst (x := 0) dM_moment_2 (by decide) (q := 3) rfl ?_
  refine pm_iconst (x := 5) dM_moment_3 (by decide) (q := 4) rfl ?_
  refine pm_cS3i hK (kM_in hl 0 _ _ _ _) mo_M_in st_M_in lk_M_92 dM_moment_4 (by omega) (Nat.le_of_ble_eq_true rfl) (Nat.zero_le _) (Nat.zero_le _) (q := 7) rfl ?_
  refine pm_if_ne (tgt := 14) dM_moment_7 rfl (q := 10) rfl (fun z => absurd k0 z) (fun _ => ?_)
  refine pm_iconst (x := 1) dM_moment_10 (by decide) (q := 11) rfl ?_
  refine pm_goto (tgt := 15) dM_moment_11 rfl ?_
  refine pm_iconst (x := 0) dM_moment_15 (by decide) (q := 16) rfl ?_
  refine pm_cV2i hK (kM_refuse_1 hl 0 _ _ (by decide)) mo_M_refuse im_M_refuse se_M_refuse lk_M_96 dM_moment_16 (by omega) (Nat.le_of_ble_eq_true rfl) (Nat.zero_le _) (Nat.zero_le _) rfl rfl rfl (q := 19) rfl ?_
  refine pm_if_eq (tgt := 24) dM_moment_19 rfl (q := 22) rfl (fun z => absurd z (by decide)) (fun _ => ?_)
  refine pm_iconst (x := 0) dM_moment_22 (by decide) (q := 23) rfl ?_
  exact pm_retI hret dM_moment_23 rfl
theorem nI_inj {a b : Nat} (ha : a < 2 ^ 31) (hb : b < 2 ^ 31) (h : nI a = nI b) : a = b := by
  rw [← nI_clamp ha, h, nI_clamp hb]
def fM_hn (f : Nat → Int32) (s : Nat) : Nat → Nat → Nat
  | 0, j => j
  | m + 1, j => if f (3 * s + j) < 0 then j else fM_hn f s m (j + 1)
theorem fM_h_n (f : Nat → Int32) (s : Nat) : ∀ m j, fM_h f s m j = nI (fM_hn f s m j) := by
  intro m
  induction m with
  | zero => intro j; rfl
  | succ m ih => intro j; rw [fM_h, fM_hn]; split; rfl; exact ih _
theorem fM_hn_le (f : Nat → Int32) (s : Nat) : ∀ m j, fM_hn f s m j ≤ m + j := by
  intro m
  induction m with
  | zero => intro j; rw [fM_hn]; omega
  | succ m ih =>
    intro j
    rw [fM_hn]
    split
    · omega
    · have := ih (j + 1); omega
theorem kM_heightN {l : Launch} (hl : l.stackTraces = false) (d : Nat) {h : pm_H} {t : Nat} {f : Nat → Int32} (hY : h[t]? = some (pm_i 9 f)) (s : Nat) (hs : s < 3) : pm_Sem l d mM_height [.ref 31, .ref t, .int (nI s)] h (some (.int (nI (fM_hn f s 3 0)))) h := by
  have z := kM_height hl d hY s hs
  rw [fM_h_n] at z
  exact z
set_option maxHeartbeats 4000000 in
theorem kM_act_off0 {l : Launch} (hl : l.stackTraces = false) (d : Nat) (hd : 2 ≤ d) {h : pm_H} {mi : Nat → Int32} {ma : Nat → Nat → Int32} (HA : ModAt h mi ma) {t : Nat} {f : Nat → Int32} (hY : h[t]? = some (pm_i 9 f)) (i : Nat) (hi : i < 60) (b : Nat) (hb : b < 5) (e1 : ma 10 i = nI b) (s : Nat) (hs : s < 3) (e2 : ma 12 i = nI s) (k0 : fM_hn f s 3 0 = 0) : pm_Sem l d mM_act [.ref 31, .ref t, .int (nI i)] h (some (.int 0)) h := by
  refine pm_sem hl mo_M_act ⟨_, rfl, rfl⟩ rfl rfl (Nat.le_of_ble_eq_true rfl) (fun K G hK hret => ?_)
  obtain ⟨hM, hPg, hFr, hTo, hWt, hKi, hGo, hFo, hLe, hMa, hSl, hBo, hPo, hFo2, hTo2, hCr, hTr⟩ := id HA
  refine pm_aload_n dM_act_0 rfl (q := 1) rfl ?_
  refine pm_get fl_M_60 dM_act_1 hM rfl (q := 4) rfl ?_
  refine pm_iload_n dM_act_4 rfl (q := 5) rfl ?_
  refine pm_ialdN dM_act_5 hBo hi (Nat.le_of_ble_eq_true rfl) (q := 6) rfl ?_
  refine pm_topL (y := nI b) e1 ?_
  refine pm_istore_n dM_act_6 (by decide) (q := 7) rfl ?_
  refine pm_aload_n dM_act_7 rfl (q := 8) rfl ?_
  refine pm_get fl_M_66 dM_act_8 hM rfl (q := 11) rfl ?_
  refine pm_iload_n dM_act_11 rfl (q := 12) rfl ?_
  refine pm_ialdN dM_act_12 hFo2 hi (Nat.le_of_ble_eq_true rfl) (q := 13) rfl ?_
  refine pm_topL (y := nI s) e2 ?_
  refine pm_istore dM_act_13 (by decide) (q := 15) rfl ?_
  refine pm_iload dM_act_15 rfl (q := 17) rfl ?_
  refine pm_if_lt (tgt := 63) dM_act_17 rfl (q := 20) rfl (fun z => absurd z (nI_pos (by omega))) (fun _ => ?_)
  refine pm_aload_n dM_act_20 rfl (q := 21) rfl ?_
  refine pm_aload_n dM_act_21 rfl (q := 22) rfl ?_
  refine pm_iload dM_act_22 rfl (q := 24) rfl ?_
  refine pm_cV2i hK (kM_heightN hl 0 hY s hs) mo_M_height im_M_height se_M_height lk_M_179 dM_act_24 (by omega) (Nat.le_of_ble_eq_true rfl) (Nat.zero_le _) (Nat.zero_le _) hM rfl rfl (q := 27) rfl ?_
  refine pm_iconst (x := 1) dM_act_27 (by decide) (q := 28) rfl ?_
  refine pm_isub dM_act_28 (q := 29) rfl ?_
  refine pm_topL (y := -1) (by rw [k0]; decide) ?_
  refine pm_istore dM_act_29 (by decide) (q := 31) rfl ?_
  refine pm_iload dM_act_31 rfl (q := 33) rfl ?_
  refine pm_if_lt (tgt := 49) dM_act_33 rfl (q := 36) rfl (fun _ => ?_) (fun z => absurd (by decide) z)
  refine pm_iconst (x := 0) dM_act_49 (by decide) (q := 50) rfl ?_
  exact pm_retI hret dM_act_50 rfl
set_option maxHeartbeats 4000000 in
theorem kM_act_offno {l : Launch} (hl : l.stackTraces = false) (d : Nat) (hd : 2 ≤ d) {h : pm_H} {mi : Nat → Int32} {ma : Nat → Nat → Int32} (HA : ModAt h mi ma) {t : Nat} {f : Nat → Int32} (hY : h[t]? = some (pm_i 9 f)) (i : Nat) (hi : i < 60) (b : Nat) (hb : b < 5) (e1 : ma 10 i = nI b) (s : Nat) (hs : s < 3) (e2 : ma 12 i = nI s) (n : Nat) (k0 : fM_hn f s 3 0 = n + 1) (k1 : ¬ f (3 * s + n) = nI b) : pm_Sem l d mM_act [.ref 31, .ref t, .int (nI i)] h (some (.int 0)) h := by
  refine pm_sem hl mo_M_act ⟨_, rfl, rfl⟩ rfl rfl (Nat.le_of_ble_eq_true rfl) (fun K G hK hret => ?_)
  obtain ⟨hM, hPg, hFr, hTo, hWt, hKi, hGo, hFo, hLe, hMa, hSl, hBo, hPo, hFo2, hTo2, hCr, hTr⟩ := id HA
  have h9 : 3 * s + n < 9 := by
    have := fM_hn_le f s 3 0
    omega
  refine pm_aload_n dM_act_0 rfl (q := 1) rfl ?_
  refine pm_get fl_M_60 dM_act_1 hM rfl (q := 4) rfl ?_
  refine pm_iload_n dM_act_4 rfl (q := 5) rfl ?_
  refine pm_ialdN dM_act_5 hBo hi (Nat.le_of_ble_eq_true rfl) (q := 6) rfl ?_
  refine pm_topL (y := nI b) e1 ?_
  refine pm_istore_n dM_act_6 (by decide) (q := 7) rfl ?_
  refine pm_aload_n dM_act_7 rfl (q := 8) rfl ?_
  refine pm_get fl_M_66 dM_act_8 hM rfl (q := 11) rfl ?_
  refine pm_iload_n dM_act_11 rfl (q := 12) rfl ?_
  refine pm_ialdN dM_act_12 hFo2 hi (Nat.le_of_ble_eq_true rfl) (q := 13) rfl ?_
  refine pm_topL (y := nI s) e2 ?_
  refine pm_istore dM_act_13 (by decide) (q := 15) rfl ?_
  refine pm_iload dM_act_15 rfl (q := 17) rfl ?_
  refine pm_if_lt (tgt := 63) dM_act_17 rfl (q := 20) rfl (fun z => absurd z (nI_pos (by omega))) (fun _ => ?_)
  refine pm_aload_n dM_act_20 rfl (q := 21) rfl ?_
  refine pm_aload_n dM_act_21 rfl (q := 22) rfl ?_
  refine pm_iload dM_act_22 rfl (q := 24) rfl ?_
  refine pm_cV2i hK (kM_heightN hl 0 hY s hs) mo_M_height im_M_height se_M_height lk_M_179 dM_act_24 (by omega) (Nat.le_of_ble_eq_true rfl) (Nat.zero_le _) (Nat.zero_le _) hM rfl rfl (q := 27) rfl ?_
  refine pm_iconst (x := 1) dM_act_27 (by decide) (q := 28) rfl ?_
  refine pm_isub dM_act_28 (q := 29) rfl ?_
  refine pm_topL (y := nI n) (by rw [k0, nI_succ]; exact Int32.add_sub_cancel _ _) ?_
  refine pm_istore dM_act_29 (by decide) (q := 31) rfl ?_
  refine pm_iload dM_act_31 rfl (q := 33) rfl ?_
  refine pm_if_lt (tgt := 49) dM_act_33 rfl (q := 36) rfl (fun z => absurd z (nI_pos (by omega))) (fun _ => ?_)
  refine pm_aload_n dM_act_36 rfl (q := 37) rfl ?_
  refine pm_iconst (x := 3) dM_act_37 (by decide) (q := 38) rfl ?_
  refine pm_iload dM_act_38 rfl (q := 40) rfl ?_
  refine pm_imul dM_act_40 (q := 41) rfl ?_
  refine pm_iload dM_act_41 rfl (q := 43) rfl ?_
  refine pm_iadd dM_act_43 (q := 44) rfl ?_
  refine pm_topL (y := nI (3 * s + n)) (nI_ts s n) ?_
  refine pm_ialdN dM_act_44 hY h9 (Nat.le_of_ble_eq_true rfl) (q := 45) rfl ?_
  refine pm_iload_n dM_act_45 rfl (q := 46) rfl ?_
  refine pm_icmp_eq (tgt := 51) dM_act_46 rfl (q := 49) rfl (fun z => absurd z k1) (fun _ => ?_)
  refine pm_iconst (x := 0) dM_act_49 (by decide) (q := 50) rfl ?_
  exact pm_retI hret dM_act_50 rfl
set_option maxHeartbeats 4000000 in
theorem kM_act_off {l : Launch} (hl : l.stackTraces = false) (d : Nat) (hd : 2 ≤ d) {h : pm_H} {mi : Nat → Int32} {ma : Nat → Nat → Int32} (HA : ModAt h mi ma) {t : Nat} {f : Nat → Int32} (hY : h[t]? = some (pm_i 9 f)) (i : Nat) (hi : i < 60) (b : Nat) (hb : b < 5) (e1 : ma 10 i = nI b) (s : Nat) (hs : s < 3) (e2 : ma 12 i = nI s) (n : Nat) (k0 : fM_hn f s 3 0 = n + 1) (k1 : f (3 * s + n) = nI b) : pm_Sem l d mM_act [.ref 31, .ref t, .int (nI i)] h (some (.int 1)) (h.set t (pm_i 9 (upd f (3 * s + n) (-1)))) := by
  refine pm_sem hl mo_M_act ⟨_, rfl, rfl⟩ rfl rfl (Nat.le_of_ble_eq_true rfl) (fun K G hK hret => ?_)
  obtain ⟨hM, hPg, hFr, hTo, hWt, hKi, hGo, hFo, hLe, hMa, hSl, hBo, hPo, hFo2, hTo2, hCr, hTr⟩ := id HA
  have h9 : 3 * s + n < 9 := by
    have := fM_hn_le f s 3 0
    omega
  refine pm_aload_n dM_act_0 rfl (q := 1) rfl ?_
  refine pm_get fl_M_60 dM_act_1 hM rfl (q := 4) rfl ?_
  refine pm_iload_n dM_act_4 rfl (q := 5) rfl ?_
  refine pm_ialdN dM_act_5 hBo hi (Nat.le_of_ble_eq_true rfl) (q := 6) rfl ?_
  refine pm_topL (y := nI b) e1 ?_
  refine pm_istore_n dM_act_6 (by decide) (q := 7) rfl ?_
  refine pm_aload_n dM_act_7 rfl (q := 8) rfl ?_
  refine pm_get fl_M_66 dM_act_8 hM rfl (q := 11) rfl ?_
  refine pm_iload_n dM_act_11 rfl (q := 12) rfl ?_
  refine pm_ialdN dM_act_12 hFo2 hi (Nat.le_of_ble_eq_true rfl) (q := 13) rfl ?_
  refine pm_topL (y := nI s) e2 ?_
  refine pm_istore dM_act_13 (by decide) (q := 15) rfl ?_
  refine pm_iload dM_act_15 rfl (q := 17) rfl ?_
  refine pm_if_lt (tgt := 63) dM_act_17 rfl (q := 20) rfl (fun z => absurd z (nI_pos (by omega))) (fun _ => ?_)
  refine pm_aload_n dM_act_20 rfl (q := 21) rfl ?_
  refine pm_aload_n dM_act_21 rfl (q := 22) rfl ?_
  refine pm_iload dM_act_22 rfl (q := 24) rfl ?_
  refine pm_cV2i hK (kM_heightN hl 0 hY s hs) mo_M_height im_M_height se_M_height lk_M_179 dM_act_24 (by omega) (Nat.le_of_ble_eq_true rfl) (Nat.zero_le _) (Nat.zero_le _) hM rfl rfl (q := 27) rfl ?_
  refine pm_iconst (x := 1) dM_act_27 (by decide) (q := 28) rfl ?_
  refine pm_isub dM_act_28 (q := 29) rfl ?_
  refine pm_topL (y := nI n) (by rw [k0, nI_succ]; exact Int32.add_sub_cancel _ _) ?_
  refine pm_istore dM_act_29 (by decide) (q := 31) rfl ?_
  refine pm_iload dM_act_31 rfl (q := 33) rfl ?_
  refine pm_if_lt (tgt := 49) dM_act_33 rfl (q := 36) rfl (fun z => absurd z (nI_pos (by omega))) (fun _ => ?_)
  refine pm_aload_n dM_act_36 rfl (q := 37) rfl ?_
  refine pm_iconst (x := 3) dM_act_37 (by decide) (q := 38) rfl ?_
  refine pm_iload dM_act_38 rfl (q := 40) rfl ?_
  refine pm_imul dM_act_40 (q := 41) rfl ?_
  refine pm_iload dM_act_41 rfl (q := 43) rfl ?_
  refine pm_iadd dM_act_43 (q := 44) rfl ?_
  refine pm_topL (y := nI (3 * s + n)) (nI_ts s n) ?_
  refine pm_ialdN dM_act_44 hY h9 (Nat.le_of_ble_eq_true rfl) (q := 45) rfl ?_
  refine pm_iload_n dM_act_45 rfl (q := 46) rfl ?_
  refine pm_icmp_eq (tgt := 51) dM_act_46 rfl (q := 49) rfl (fun _ => ?_) (fun z => absurd k1 z)
  refine pm_aload_n dM_act_51 rfl (q := 52) rfl ?_
  refine pm_iconst (x := 3) dM_act_52 (by decide) (q := 53) rfl ?_
  refine pm_iload dM_act_53 rfl (q := 55) rfl ?_
  refine pm_imul dM_act_55 (q := 56) rfl ?_
  refine pm_iload dM_act_56 rfl (q := 58) rfl ?_
  refine pm_iadd dM_act_58 (q := 59) rfl ?_
  refine pm_topL (y := nI (3 * s + n)) (nI_ts s n) ?_
  refine pm_iconst (x := -1) dM_act_59 (by decide) (q := 60) rfl ?_
  refine pm_iastN dM_act_60 hY h9 (Nat.le_of_ble_eq_true rfl) (q := 61) rfl ?_
  refine pm_iconst (x := 1) dM_act_61 (by decide) (q := 62) rfl ?_
  exact pm_retI hret dM_act_62 rfl
set_option maxHeartbeats 4000000 in
theorem kM_act_onout {l : Launch} (hl : l.stackTraces = false) (d : Nat) (hd : 2 ≤ d) {h : pm_H} {mi : Nat → Int32} {ma : Nat → Nat → Int32} (HA : ModAt h mi ma) {t : Nat} {f : Nat → Int32} (hY : h[t]? = some (pm_i 9 f)) (i : Nat) (hi : i < 60) (b : Nat) (hb : b < 5) (e1 : ma 10 i = nI b) (e2 : ma 12 i = -1) (k0 : fw (ma 13 i) 0 (mi 1 - 1) = 0) : pm_Sem l d mM_act [.ref 31, .ref t, .int (nI i)] h (some (.int 0)) h := by
  refine pm_sem hl mo_M_act ⟨_, rfl, rfl⟩ rfl rfl (Nat.le_of_ble_eq_true rfl) (fun K G hK hret => ?_)
  obtain ⟨hM, hPg, hFr, hTo, hWt, hKi, hGo, hFo, hLe, hMa, hSl, hBo, hPo, hFo2, hTo2, hCr, hTr⟩ := id HA
  refine pm_aload_n dM_act_0 rfl (q := 1) rfl ?_
  refine pm_get fl_M_60 dM_act_1 hM rfl (q := 4) rfl ?_
  refine pm_iload_n dM_act_4 rfl (q := 5) rfl ?_
  refine pm_ialdN dM_act_5 hBo hi (Nat.le_of_ble_eq_true rfl) (q := 6) rfl ?_
  refine pm_topL (y := nI b) e1 ?_
  refine pm_istore_n dM_act_6 (by decide) (q := 7) rfl ?_
  refine pm_aload_n dM_act_7 rfl (q := 8) rfl ?_
  refine pm_get fl_M_66 dM_act_8 hM rfl (q := 11) rfl ?_
  refine pm_iload_n dM_act_11 rfl (q := 12) rfl ?_
  refine pm_ialdN dM_act_12 hFo2 hi (Nat.le_of_ble_eq_true rfl) (q := 13) rfl ?_
  refine pm_topL (y := -1) e2 ?_
  refine pm_istore dM_act_13 (by decide) (q := 15) rfl ?_
  refine pm_iload dM_act_15 rfl (q := 17) rfl ?_
  refine pm_if_lt (tgt := 63) dM_act_17 rfl (q := 20) rfl (fun _ => ?_) (fun z => absurd (by decide) z)
  refine pm_aload_n dM_act_63 rfl (q := 64) rfl ?_
  refine pm_get fl_M_69 dM_act_64 hM rfl (q := 67) rfl ?_
  refine pm_iload_n dM_act_67 rfl (q := 68) rfl ?_
  refine pm_ialdN dM_act_68 hTo2 hi (Nat.le_of_ble_eq_true rfl) (q := 69) rfl ?_
  refine pm_istore dM_act_69 (by decide) (q := 71) rfl ?_
  refine pm_aload_n dM_act_71 rfl (q := 72) rfl ?_
  refine pm_iload dM_act_72 rfl (q := 74) rfl ?_
  refine pm_cV1i hK (kM_isStack hl 1 (Nat.le_refl _) HA _) mo_M_isStack im_M_isStack se_M_isStack lk_M_106 dM_act_74 (by omega) (Nat.le_of_ble_eq_true rfl) (Nat.zero_le _) (Nat.zero_le _) hM rfl rfl (q := 77) rfl ?_
  refine pm_if_eq (tgt := 126) dM_act_77 rfl (q := 80) rfl (fun _ => ?_) (fun z => absurd k0 z)
  refine pm_iconst (x := 0) dM_act_126 (by decide) (q := 127) rfl ?_
  exact pm_retI hret dM_act_127 rfl
set_option maxHeartbeats 4000000 in
theorem kM_act_onno {l : Launch} (hl : l.stackTraces = false) (d : Nat) (hd : 2 ≤ d) {h : pm_H} {mi : Nat → Int32} {ma : Nat → Nat → Int32} (HA : ModAt h mi ma) {t : Nat} {f : Nat → Int32} (hY : h[t]? = some (pm_i 9 f)) (hf : ∀ k, k < 9 → ¬ f k < 0 → vp_in (f k) 5) (i : Nat) (hi : i < 60) (b : Nat) (hb : b < 5) (e1 : ma 10 i = nI b) (e2 : ma 12 i = -1) (s : Nat) (hs : s < 3) (e3 : ma 13 i = nI s) (k0 : ¬ fw (nI s) 0 (mi 1 - 1) = 0) {T : Nat} (hT : mi 2 = nI T) (hT3 : T ≤ 3) (k1 : fM_hn f s 3 0 = T ∨ mi 4 < fM_w f (ma 3) s 3 + ma 3 b ∨ ¬ fM_in f (nI b) 9 = 0) : pm_Sem l d mM_act [.ref 31, .ref t, .int (nI i)] h (some (.int 0)) h := by
  refine pm_sem hl mo_M_act ⟨_, rfl, rfl⟩ rfl rfl (Nat.le_of_ble_eq_true rfl) (fun K G hK hret => ?_)
  obtain ⟨hM, hPg, hFr, hTo, hWt, hKi, hGo, hFo, hLe, hMa, hSl, hBo, hPo, hFo2, hTo2, hCr, hTr⟩ := id HA
  have hle := fM_hn_le f s 3 0
  refine pm_aload_n dM_act_0 rfl (q := 1) rfl ?_
  refine pm_get fl_M_60 dM_act_1 hM rfl (q := 4) rfl ?_
  refine pm_iload_n dM_act_4 rfl (q := 5) rfl ?_
  refine pm_ialdN dM_act_5 hBo hi (Nat.le_of_ble_eq_true rfl) (q := 6) rfl ?_
  refine pm_topL (y := nI b) e1 ?_
  refine pm_istore_n dM_act_6 (by decide) (q := 7) rfl ?_
  refine pm_aload_n dM_act_7 rfl (q := 8) rfl ?_
  refine pm_get fl_M_66 dM_act_8 hM rfl (q := 11) rfl ?_
  refine pm_iload_n dM_act_11 rfl (q := 12) rfl ?_
  refine pm_ialdN dM_act_12 hFo2 hi (Nat.le_of_ble_eq_true rfl) (q := 13) rfl ?_
  refine pm_topL (y := -1) e2 ?_
  refine pm_istore dM_act_13 (by decide) (q := 15) rfl ?_
  refine pm_iload dM_act_15 rfl (q := 17) rfl ?_
  refine pm_if_lt (tgt := 63) dM_act_17 rfl (q := 20) rfl (fun _ => ?_) (fun z => absurd (by decide) z)
  refine pm_aload_n dM_act_63 rfl (q := 64) rfl ?_
  refine pm_get fl_M_69 dM_act_64 hM rfl (q := 67) rfl ?_
  refine pm_iload_n dM_act_67 rfl (q := 68) rfl ?_
  refine pm_ialdN dM_act_68 hTo2 hi (Nat.le_of_ble_eq_true rfl) (q := 69) rfl ?_
  refine pm_topL (y := nI s) e3 ?_
  refine pm_istore dM_act_69 (by decide) (q := 71) rfl ?_
  refine pm_aload_n dM_act_71 rfl (q := 72) rfl ?_
  refine pm_iload dM_act_72 rfl (q := 74) rfl ?_
  refine pm_cV1i hK (kM_isStack hl 1 (Nat.le_refl _) HA _) mo_M_isStack im_M_isStack se_M_isStack lk_M_106 dM_act_74 (by omega) (Nat.le_of_ble_eq_true rfl) (Nat.zero_le _) (Nat.zero_le _) hM rfl rfl (q := 77) rfl ?_
  refine pm_if_eq (tgt := 126) dM_act_77 rfl (q := 80) rfl (fun z => absurd z k0) (fun _ => ?_)
  refine pm_aload_n dM_act_80 rfl (q := 81) rfl ?_
  refine pm_aload_n dM_act_81 rfl (q := 82) rfl ?_
  refine pm_iload dM_act_82 rfl (q := 84) rfl ?_
  refine pm_cV2i hK (kM_heightN hl 0 hY s hs) mo_M_height im_M_height se_M_height lk_M_179 dM_act_84 (by omega) (Nat.le_of_ble_eq_true rfl) (Nat.zero_le _) (Nat.zero_le _) hM rfl rfl (q := 87) rfl ?_
  refine pm_aload_n dM_act_87 rfl (q := 88) rfl ?_
  refine pm_get fl_M_13 dM_act_88 hM rfl (q := 91) rfl ?_
  refine pm_icmp_eq (tgt := 126) dM_act_91 rfl (q := 94) rfl (fun h91 => ?_) (fun h91 => ?_)
  · refine pm_iconst (x := 0) dM_act_126 (by decide) (q := 127) rfl ?_
    exact pm_retI hret dM_act_127 rfl
  · refine pm_aload_n dM_act_94 rfl (q := 95) rfl ?_
    refine pm_aload_n dM_act_95 rfl (q := 96) rfl ?_
    refine pm_iload dM_act_96 rfl (q := 98) rfl ?_
    refine pm_cV2i hK (kM_weightOf hl 0 HA hY hf s hs) mo_M_weightOf im_M_weightOf se_M_weightOf lk_M_110 dM_act_98 (by omega) (Nat.le_of_ble_eq_true rfl) (Nat.zero_le _) (Nat.zero_le _) hM rfl rfl (q := 101) rfl ?_
    refine pm_aload_n dM_act_101 rfl (q := 102) rfl ?_
    refine pm_get fl_M_39 dM_act_102 hM rfl (q := 105) rfl ?_
    refine pm_iload_n dM_act_105 rfl (q := 106) rfl ?_
    refine pm_ialdN dM_act_106 hWt hb (Nat.le_of_ble_eq_true rfl) (q := 107) rfl ?_
    refine pm_iadd dM_act_107 (q := 108) rfl ?_
    refine pm_aload_n dM_act_108 rfl (q := 109) rfl ?_
    refine pm_get fl_M_19 dM_act_109 hM rfl (q := 112) rfl ?_
    refine pm_icmp_gt (tgt := 126) dM_act_112 rfl (q := 115) rfl (fun h112 => ?_) (fun h112 => ?_)
    · refine pm_iconst (x := 0) dM_act_126 (by decide) (q := 127) rfl ?_
      exact pm_retI hret dM_act_127 rfl
    · refine pm_aload_n dM_act_115 rfl (q := 116) rfl ?_
      refine pm_aload_n dM_act_116 rfl (q := 117) rfl ?_
      refine pm_iload_n dM_act_117 rfl (q := 118) rfl ?_
      refine pm_bipush (x := nI 9) dM_act_118 (by decide) (q := 120) rfl ?_
      refine pm_cV3i hK (kM_isIn hl 0 HA hY _ 9 (Nat.le_refl _)) mo_M_isIn im_M_isIn se_M_isIn lk_M_129 dM_act_120 (by omega) (Nat.le_of_ble_eq_true rfl) (Nat.zero_le _) (Nat.zero_le _) hM rfl rfl (q := 123) rfl ?_
      refine pm_if_eq (tgt := 128) dM_act_123 rfl (q := 126) rfl (fun h123 => ?_) (fun h123 => ?_)
      · rcases k1 with z | z | z
        · exact absurd (by rw [z, hT]) h91
        · exact absurd z h112
        · exact absurd h123 z
      · refine pm_iconst (x := 0) dM_act_126 (by decide) (q := 127) rfl ?_
        exact pm_retI hret dM_act_127 rfl
set_option maxHeartbeats 4000000 in
theorem kM_act_on {l : Launch} (hl : l.stackTraces = false) (d : Nat) (hd : 2 ≤ d) {h : pm_H} {mi : Nat → Int32} {ma : Nat → Nat → Int32} (HA : ModAt h mi ma) {t : Nat} {f : Nat → Int32} (hY : h[t]? = some (pm_i 9 f)) (hf : ∀ k, k < 9 → ¬ f k < 0 → vp_in (f k) 5) (i : Nat) (hi : i < 60) (b : Nat) (hb : b < 5) (e1 : ma 10 i = nI b) (e2 : ma 12 i = -1) (s : Nat) (hs : s < 3) (e3 : ma 13 i = nI s) (k0 : ¬ fw (nI s) 0 (mi 1 - 1) = 0) {T : Nat} (hT : mi 2 = nI T) (hT3 : T ≤ 3) (k1 : ¬ (fM_hn f s 3 0 = T ∨ mi 4 < fM_w f (ma 3) s 3 + ma 3 b ∨ ¬ fM_in f (nI b) 9 = 0)) (hn : fM_hn f s 3 0 < 3) : pm_Sem l d mM_act [.ref 31, .ref t, .int (nI i)] h (some (.int 1)) (h.set t (pm_i 9 (upd f (3 * s + fM_hn f s 3 0) (nI b)))) := by
  refine pm_sem hl mo_M_act ⟨_, rfl, rfl⟩ rfl rfl (Nat.le_of_ble_eq_true rfl) (fun K G hK hret => ?_)
  obtain ⟨hM, hPg, hFr, hTo, hWt, hKi, hGo, hFo, hLe, hMa, hSl, hBo, hPo, hFo2, hTo2, hCr, hTr⟩ := id HA
  have hle := fM_hn_le f s 3 0
  have h9 : 3 * s + fM_hn f s 3 0 < 9 := by omega
  refine pm_aload_n dM_act_0 rfl (q := 1) rfl ?_
  refine pm_get fl_M_60 dM_act_1 hM rfl (q := 4) rfl ?_
  refine pm_iload_n dM_act_4 rfl (q := 5) rfl ?_
  refine pm_ialdN dM_act_5 hBo hi (Nat.le_of_ble_eq_true rfl) (q := 6) rfl ?_
  refine pm_topL (y := nI b) e1 ?_
  refine pm_istore_n dM_act_6 (by decide) (q := 7) rfl ?_
  refine pm_aload_n dM_act_7 rfl (q := 8) rfl ?_
  refine pm_get fl_M_66 dM_act_8 hM rfl (q := 11) rfl ?_
  refine pm_iload_n dM_act_11 rfl (q := 12) rfl ?_
  refine pm_ialdN dM_act_12 hFo2 hi (Nat.le_of_ble_eq_true rfl) (q := 13) rfl ?_
  refine pm_topL (y := -1) e2 ?_
  refine pm_istore dM_act_13 (by decide) (q := 15) rfl ?_
  refine pm_iload dM_act_15 rfl (q := 17) rfl ?_
  refine pm_if_lt (tgt := 63) dM_act_17 rfl (q := 20) rfl (fun _ => ?_) (fun z => absurd (by decide) z)
  refine pm_aload_n dM_act_63 rfl (q := 64) rfl ?_
  refine pm_get fl_M_69 dM_act_64 hM rfl (q := 67) rfl ?_
  refine pm_iload_n dM_act_67 rfl (q := 68) rfl ?_
  refine pm_ialdN dM_act_68 hTo2 hi (Nat.le_of_ble_eq_true rfl) (q := 69) rfl ?_
  refine pm_topL (y := nI s) e3 ?_
  refine pm_istore dM_act_69 (by decide) (q := 71) rfl ?_
  refine pm_aload_n dM_act_71 rfl (q := 72) rfl ?_
  refine pm_iload dM_act_72 rfl (q := 74) rfl ?_
  refine pm_cV1i hK (kM_isStack hl 1 (Nat.le_refl _) HA _) mo_M_isStack im_M_isStack se_M_isStack lk_M_106 dM_act_74 (by omega) (Nat.le_of_ble_eq_true rfl) (Nat.zero_le _) (Nat.zero_le _) hM rfl rfl (q := 77) rfl ?_
  refine pm_if_eq (tgt := 126) dM_act_77 rfl (q := 80) rfl (fun z => absurd z k0) (fun _ => ?_)
  refine pm_aload_n dM_act_80 rfl (q := 81) rfl ?_
  refine pm_aload_n dM_act_81 rfl (q := 82) rfl ?_
  refine pm_iload dM_act_82 rfl (q := 84) rfl ?_
  refine pm_cV2i hK (kM_heightN hl 0 hY s hs) mo_M_height im_M_height se_M_height lk_M_179 dM_act_84 (by omega) (Nat.le_of_ble_eq_true rfl) (Nat.zero_le _) (Nat.zero_le _) hM rfl rfl (q := 87) rfl ?_
  refine pm_aload_n dM_act_87 rfl (q := 88) rfl ?_
  refine pm_get fl_M_13 dM_act_88 hM rfl (q := 91) rfl ?_
  refine pm_icmp_eq (tgt := 126) dM_act_91 rfl (q := 94) rfl (fun z => absurd (Or.inl (nI_inj (by omega) (by omega) (z.trans hT))) k1) (fun _ => ?_)
  refine pm_aload_n dM_act_94 rfl (q := 95) rfl ?_
  refine pm_aload_n dM_act_95 rfl (q := 96) rfl ?_
  refine pm_iload dM_act_96 rfl (q := 98) rfl ?_
  refine pm_cV2i hK (kM_weightOf hl 0 HA hY hf s hs) mo_M_weightOf im_M_weightOf se_M_weightOf lk_M_110 dM_act_98 (by omega) (Nat.le_of_ble_eq_true rfl) (Nat.zero_le _) (Nat.zero_le _) hM rfl rfl (q := 101) rfl ?_
  refine pm_aload_n dM_act_101 rfl (q := 102) rfl ?_
  refine pm_get fl_M_39 dM_act_102 hM rfl (q := 105) rfl ?_
  refine pm_iload_n dM_act_105 rfl (q := 106) rfl ?_
  refine pm_ialdN dM_act_106 hWt hb (Nat.le_of_ble_eq_true rfl) (q := 107) rfl ?_
  refine pm_iadd dM_act_107 (q := 108) rfl ?_
  refine pm_aload_n dM_act_108 rfl (q := 109) rfl ?_
  refine pm_get fl_M_19 dM_act_109 hM rfl (q := 112) rfl ?_
  refine pm_icmp_gt (tgt := 126) dM_act_112 rfl (q := 115) rfl (fun z => absurd (Or.inr (Or.inl z)) k1) (fun _ => ?_)
  refine pm_aload_n dM_act_115 rfl (q := 116) rfl ?_
  refine pm_aload_n dM_act_116 rfl (q := 117) rfl ?_
  refine pm_iload_n dM_act_117 rfl (q := 118) rfl ?_
  refine pm_bipush (x := nI 9) dM_act_118 (by decide) (q := 120) rfl ?_
  refine pm_cV3i hK (kM_isIn hl 0 HA hY _ 9 (Nat.le_refl _)) mo_M_isIn im_M_isIn se_M_isIn lk_M_129 dM_act_120 (by omega) (Nat.le_of_ble_eq_true rfl) (Nat.zero_le _) (Nat.zero_le _) hM rfl rfl (q := 123) rfl ?_
  refine pm_if_eq (tgt := 128) dM_act_123 rfl (q := 126) rfl (fun _ => ?_) (fun z => absurd (Or.inr (Or.inr z)) k1)
  refine pm_aload_n dM_act_128 rfl (q := 129) rfl ?_
  refine pm_iconst (x := 3) dM_act_129 (by decide) (q := 130) rfl ?_
  refine pm_iload dM_act_130 rfl (q := 132) rfl ?_
  refine pm_imul dM_act_132 (q := 133) rfl ?_
  refine pm_aload_n dM_act_133 rfl (q := 134) rfl ?_
  refine pm_aload_n dM_act_134 rfl (q := 135) rfl ?_
  refine pm_iload dM_act_135 rfl (q := 137) rfl ?_
  refine pm_cV2i hK (kM_heightN hl 0 hY s hs) mo_M_height im_M_height se_M_height lk_M_179 dM_act_137 (by omega) (Nat.le_of_ble_eq_true rfl) (Nat.zero_le _) (Nat.zero_le _) hM rfl rfl (q := 140) rfl ?_
  refine pm_iadd dM_act_140 (q := 141) rfl ?_
  refine pm_topL (y := nI (3 * s + fM_hn f s 3 0)) (nI_ts s _) ?_
  refine pm_iload_n dM_act_141 rfl (q := 142) rfl ?_
  refine pm_iastN dM_act_142 hY h9 (Nat.le_of_ble_eq_true rfl) (q := 143) rfl ?_
  refine pm_iconst (x := 1) dM_act_143 (by decide) (q := 144) rfl ?_
  exact pm_retI hret dM_act_144 rfl
