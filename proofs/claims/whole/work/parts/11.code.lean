/-! Code: arrangements as numbers -/
def fC_boxIn (a s t : Int32) : Int32 := ((a >>> (((8 - s * 3 - t) * 3) &&& 31)) &&& 7) + (-1)
def fC_keptIn (s b a : Int32) : Int32 := if fC_boxIn b s 0 = -1 ∨ fC_boxIn b s 0 ≠ fC_boxIn a s 0 then 0 else if fC_boxIn b s 1 = -1 ∨ fC_boxIn b s 1 ≠ fC_boxIn a s 1 then 1 else if fC_boxIn b s 2 = -1 ∨ fC_boxIn b s 2 ≠ fC_boxIn a s 2 then 2 else 3
def fC_kept (b a : Int32) : Int32 := 0 + fC_keptIn 0 b a + fC_keptIn 1 b a + fC_keptIn 2 b a
set_option maxHeartbeats 2000000 in
theorem kC_boxIn {l : Launch} (hl : l.stackTraces = false) (d : Nat) (a s t : Int32) (h : pm_H) : pm_Sem l d mC_boxIn [.int a, .int s, .int t] h (some (.int (fC_boxIn a s t))) h := by
  refine pm_sem hl mo_C_boxIn ⟨_, rfl, rfl⟩ rfl rfl (Nat.le_of_ble_eq_true rfl) (fun K G hK hret => ?_)
  refine pm_bipush (x := 8) dC_boxIn_0 (by decide) (q := 2) rfl ?_
  refine pm_iload_n dC_boxIn_2 rfl (q := 3) rfl ?_
  refine pm_iconst (x := 3) dC_boxIn_3 (by decide) (q := 4) rfl ?_
  refine pm_imul dC_boxIn_4 (q := 5) rfl ?_
  refine pm_isub dC_boxIn_5 (q := 6) rfl ?_
  refine pm_iload_n dC_boxIn_6 rfl (q := 7) rfl ?_
  refine pm_isub dC_boxIn_7 (q := 8) rfl ?_
  refine pm_istore_n dC_boxIn_8 (by decide) (q := 9) rfl ?_
  refine pm_iload_n dC_boxIn_9 rfl (q := 10) rfl ?_
  refine pm_iload_n dC_boxIn_10 rfl (q := 11) rfl ?_
  refine pm_iconst (x := 3) dC_boxIn_11 (by decide) (q := 12) rfl ?_
  refine pm_imul dC_boxIn_12 (q := 13) rfl ?_
  refine pm_ishr dC_boxIn_13 (q := 14) rfl ?_
  refine pm_bipush (x := 7) dC_boxIn_14 (by decide) (q := 16) rfl ?_
  refine pm_iand dC_boxIn_16 (q := 17) rfl ?_
  refine pm_iconst (x := -1) dC_boxIn_17 (by decide) (q := 18) rfl ?_
  refine pm_iadd dC_boxIn_18 (q := 19) rfl ?_
  exact pm_retI hret dC_boxIn_19 rfl
set_option maxHeartbeats 2000000 in
theorem kC_keptIn {l : Launch} (hl : l.stackTraces = false) (d : Nat) (hd : 1 ≤ d) (s b a : Int32) (h : pm_H) : pm_Sem l d mC_keptIn [.int s, .int b, .int a] h (some (.int (fC_keptIn s b a))) h := by
  refine pm_sem hl mo_C_keptIn ⟨_, rfl, rfl⟩ rfl rfl (Nat.le_of_ble_eq_true rfl) (fun K G hK hret => ?_)
  refine pm_iconst (x := 0) dC_keptIn_0 (by decide) (q := 1) rfl ?_
  refine pm_istore_n dC_keptIn_1 (by decide) (q := 2) rfl ?_
  refine pm_iload_n dC_keptIn_2 rfl (q := 3) rfl ?_
  refine pm_iconst (x := 3) dC_keptIn_3 (by decide) (q := 4) rfl ?_
  refine pm_icmp_ge (tgt := 40) dC_keptIn_4 rfl (q := 7) rfl (fun h => absurd h (by decide)) (fun _ => ?_)
  refine pm_iload_n dC_keptIn_7 rfl (q := 8) rfl ?_
  refine pm_iload_n dC_keptIn_8 rfl (q := 9) rfl ?_
  refine pm_iload_n dC_keptIn_9 rfl (q := 10) rfl ?_
  refine pm_cS3i hK (kC_boxIn hl 0 _ _ _ _) mo_C_boxIn st_C_boxIn lk_C_21 dC_keptIn_10 (by omega) (Nat.le_of_ble_eq_true rfl) (Nat.zero_le _) (Nat.zero_le _) (q := 13) rfl ?_
  refine pm_istore dC_keptIn_13 (by decide) (q := 15) rfl ?_
  refine pm_iload dC_keptIn_15 rfl (q := 17) rfl ?_
  refine pm_iconst (x := -1) dC_keptIn_17 (by decide) (q := 18) rfl ?_
  refine pm_icmp_eq (tgt := 32) dC_keptIn_18 rfl (q := 21) rfl (fun h18 => ?_) (fun h18 => ?_)
  · refine pm_iload_n dC_keptIn_32 rfl (q := 33) rfl ?_
    exact pm_retI hret dC_keptIn_33 (by simp_all [fC_keptIn])
  · refine pm_iload dC_keptIn_21 rfl (q := 23) rfl ?_
    refine pm_iload_n dC_keptIn_23 rfl (q := 24) rfl ?_
    refine pm_iload_n dC_keptIn_24 rfl (q := 25) rfl ?_
    refine pm_iload_n dC_keptIn_25 rfl (q := 26) rfl ?_
    refine pm_cS3i hK (kC_boxIn hl 0 _ _ _ _) mo_C_boxIn st_C_boxIn lk_C_21 dC_keptIn_26 (by omega) (Nat.le_of_ble_eq_true rfl) (Nat.zero_le _) (Nat.zero_le _) (q := 29) rfl ?_
    refine pm_icmp_eq (tgt := 34) dC_keptIn_29 rfl (q := 32) rfl (fun h29 => ?_) (fun h29 => ?_)
    · refine pm_iincL dC_keptIn_34 rfl (by decide) (y := 1) (by decide) (q := 37) rfl ?_
      refine pm_goto (tgt := 2) dC_keptIn_37 rfl ?_
      refine pm_iload_n dC_keptIn_2 rfl (q := 3) rfl ?_
      refine pm_iconst (x := 3) dC_keptIn_3 (by decide) (q := 4) rfl ?_
      refine pm_icmp_ge (tgt := 40) dC_keptIn_4 rfl (q := 7) rfl (fun h => absurd h (by decide)) (fun _ => ?_)
      refine pm_iload_n dC_keptIn_7 rfl (q := 8) rfl ?_
      refine pm_iload_n dC_keptIn_8 rfl (q := 9) rfl ?_
      refine pm_iload_n dC_keptIn_9 rfl (q := 10) rfl ?_
      refine pm_cS3i hK (kC_boxIn hl 0 _ _ _ _) mo_C_boxIn st_C_boxIn lk_C_21 dC_keptIn_10 (by omega) (Nat.le_of_ble_eq_true rfl) (Nat.zero_le _) (Nat.zero_le _) (q := 13) rfl ?_
      refine pm_istore dC_keptIn_13 (by decide) (q := 15) rfl ?_
      refine pm_iload dC_keptIn_15 rfl (q := 17) rfl ?_
      refine pm_iconst (x := -1) dC_keptIn_17 (by decide) (q := 18) rfl ?_
      refine pm_icmp_eq (tgt := 32) dC_keptIn_18 rfl (q := 21) rfl (fun h18 => ?_) (fun h18 => ?_)
      · refine pm_iload_n dC_keptIn_32 rfl (q := 33) rfl ?_
        exact pm_retI hret dC_keptIn_33 (by simp_all [fC_keptIn])
      · refine pm_iload dC_keptIn_21 rfl (q := 23) rfl ?_
        refine pm_iload_n dC_keptIn_23 rfl (q := 24) rfl ?_
        refine pm_iload_n dC_keptIn_24 rfl (q := 25) rfl ?_
        refine pm_iload_n dC_keptIn_25 rfl (q := 26) rfl ?_
        refine pm_cS3i hK (kC_boxIn hl 0 _ _ _ _) mo_C_boxIn st_C_boxIn lk_C_21 dC_keptIn_26 (by omega) (Nat.le_of_ble_eq_true rfl) (Nat.zero_le _) (Nat.zero_le _) (q := 29) rfl ?_
        refine pm_icmp_eq (tgt := 34) dC_keptIn_29 rfl (q := 32) rfl (fun h29 => ?_) (fun h29 => ?_)
        · refine pm_iincL dC_keptIn_34 rfl (by decide) (y := 2) (by decide) (q := 37) rfl ?_
          refine pm_goto (tgt := 2) dC_keptIn_37 rfl ?_
          refine pm_iload_n dC_keptIn_2 rfl (q := 3) rfl ?_
          refine pm_iconst (x := 3) dC_keptIn_3 (by decide) (q := 4) rfl ?_
          refine pm_icmp_ge (tgt := 40) dC_keptIn_4 rfl (q := 7) rfl (fun h => absurd h (by decide)) (fun _ => ?_)
          refine pm_iload_n dC_keptIn_7 rfl (q := 8) rfl ?_
          refine pm_iload_n dC_keptIn_8 rfl (q := 9) rfl ?_
          refine pm_iload_n dC_keptIn_9 rfl (q := 10) rfl ?_
          refine pm_cS3i hK (kC_boxIn hl 0 _ _ _ _) mo_C_boxIn st_C_boxIn lk_C_21 dC_keptIn_10 (by omega) (Nat.le_of_ble_eq_true rfl) (Nat.zero_le _) (Nat.zero_le _) (q := 13) rfl ?_
          refine pm_istore dC_keptIn_13 (by decide) (q := 15) rfl ?_
          refine pm_iload dC_keptIn_15 rfl (q := 17) rfl ?_
          refine pm_iconst (x := -1) dC_keptIn_17 (by decide) (q := 18) rfl ?_
          refine pm_icmp_eq (tgt := 32) dC_keptIn_18 rfl (q := 21) rfl (fun h18 => ?_) (fun h18 => ?_)
          · refine pm_iload_n dC_keptIn_32 rfl (q := 33) rfl ?_
            exact pm_retI hret dC_keptIn_33 (by simp_all [fC_keptIn])
          · refine pm_iload dC_keptIn_21 rfl (q := 23) rfl ?_
            refine pm_iload_n dC_keptIn_23 rfl (q := 24) rfl ?_
            refine pm_iload_n dC_keptIn_24 rfl (q := 25) rfl ?_
            refine pm_iload_n dC_keptIn_25 rfl (q := 26) rfl ?_
            refine pm_cS3i hK (kC_boxIn hl 0 _ _ _ _) mo_C_boxIn st_C_boxIn lk_C_21 dC_keptIn_26 (by omega) (Nat.le_of_ble_eq_true rfl) (Nat.zero_le _) (Nat.zero_le _) (q := 29) rfl ?_
            refine pm_icmp_eq (tgt := 34) dC_keptIn_29 rfl (q := 32) rfl (fun h29 => ?_) (fun h29 => ?_)
            · refine pm_iincL dC_keptIn_34 rfl (by decide) (y := 3) (by decide) (q := 37) rfl ?_
              refine pm_goto (tgt := 2) dC_keptIn_37 rfl ?_
              refine pm_iload_n dC_keptIn_2 rfl (q := 3) rfl ?_
              refine pm_iconst (x := 3) dC_keptIn_3 (by decide) (q := 4) rfl ?_
              refine pm_icmp_ge (tgt := 40) dC_keptIn_4 rfl (q := 7) rfl (fun _ => ?_) (fun h => absurd h (by decide))
              refine pm_iconst (x := 3) dC_keptIn_40 (by decide) (q := 41) rfl ?_
              exact pm_retI hret dC_keptIn_41 (by simp_all [fC_keptIn])
            · refine pm_iload_n dC_keptIn_32 rfl (q := 33) rfl ?_
              exact pm_retI hret dC_keptIn_33 (by simp_all [fC_keptIn])
        · refine pm_iload_n dC_keptIn_32 rfl (q := 33) rfl ?_
          exact pm_retI hret dC_keptIn_33 (by simp_all [fC_keptIn])
    · refine pm_iload_n dC_keptIn_32 rfl (q := 33) rfl ?_
      exact pm_retI hret dC_keptIn_33 (by simp_all [fC_keptIn])
set_option maxHeartbeats 2000000 in
theorem kC_heightOf {l : Launch} (hl : l.stackTraces = false) (d : Nat) (hd : 2 ≤ d) (c s : Int32) (h : pm_H) : pm_Sem l d mC_heightOf [.int c, .int s] h (some (.int (fC_keptIn s c c))) h := by
  refine pm_sem hl mo_C_heightOf ⟨_, rfl, rfl⟩ rfl rfl (Nat.le_of_ble_eq_true rfl) (fun K G hK hret => ?_)
  refine pm_iload_n dC_heightOf_0 rfl (q := 1) rfl ?_
  refine pm_iload_n dC_heightOf_1 rfl (q := 2) rfl ?_
  refine pm_iload_n dC_heightOf_2 rfl (q := 3) rfl ?_
  refine pm_cS3i hK (kC_keptIn hl 1 (Nat.le_refl _) _ _ _ _) mo_C_keptIn st_C_keptIn lk_C_17 dC_heightOf_3 (by omega) (Nat.le_of_ble_eq_true rfl) (Nat.zero_le _) (Nat.zero_le _) (q := 6) rfl ?_
  exact pm_retI hret dC_heightOf_6 rfl
set_option maxHeartbeats 2000000 in
theorem kC_kept {l : Launch} (hl : l.stackTraces = false) (d : Nat) (hd : 2 ≤ d) (b a : Int32) (h : pm_H) : pm_Sem l d mC_kept [.int b, .int a] h (some (.int (fC_kept b a))) h := by
  refine pm_sem hl mo_C_kept ⟨_, rfl, rfl⟩ rfl rfl (Nat.le_of_ble_eq_true rfl) (fun K G hK hret => ?_)
  refine pm_iconst (x := 0) dC_kept_0 (by decide) (q := 1) rfl ?_
  refine pm_istore_n dC_kept_1 (by decide) (q := 2) rfl ?_
  refine pm_iconst (x := 0) dC_kept_2 (by decide) (q := 3) rfl ?_
  refine pm_istore_n dC_kept_3 (by decide) (q := 4) rfl ?_
  refine pm_iload_n dC_kept_4 rfl (q := 5) rfl ?_
  refine pm_iconst (x := 3) dC_kept_5 (by decide) (q := 6) rfl ?_
  refine pm_icmp_ge (tgt := 24) dC_kept_6 rfl (q := 9) rfl (fun h => absurd h (by decide)) (fun _ => ?_)
  refine pm_iload_n dC_kept_9 rfl (q := 10) rfl ?_
  refine pm_iload_n dC_kept_10 rfl (q := 11) rfl ?_
  refine pm_iload_n dC_kept_11 rfl (q := 12) rfl ?_
  refine pm_iload_n dC_kept_12 rfl (q := 13) rfl ?_
  refine pm_cS3i hK (kC_keptIn hl 1 (Nat.le_refl _) _ _ _ _) mo_C_keptIn st_C_keptIn lk_C_17 dC_kept_13 (by omega) (Nat.le_of_ble_eq_true rfl) (Nat.zero_le _) (Nat.zero_le _) (q := 16) rfl ?_
  refine pm_iadd dC_kept_16 (q := 17) rfl ?_
  refine pm_istore_n dC_kept_17 (by decide) (q := 18) rfl ?_
  refine pm_iincL dC_kept_18 rfl (by decide) (y := 1) (by decide) (q := 21) rfl ?_
  refine pm_goto (tgt := 4) dC_kept_21 rfl ?_
  refine pm_iload_n dC_kept_4 rfl (q := 5) rfl ?_
  refine pm_iconst (x := 3) dC_kept_5 (by decide) (q := 6) rfl ?_
  refine pm_icmp_ge (tgt := 24) dC_kept_6 rfl (q := 9) rfl (fun h => absurd h (by decide)) (fun _ => ?_)
  refine pm_iload_n dC_kept_9 rfl (q := 10) rfl ?_
  refine pm_iload_n dC_kept_10 rfl (q := 11) rfl ?_
  refine pm_iload_n dC_kept_11 rfl (q := 12) rfl ?_
  refine pm_iload_n dC_kept_12 rfl (q := 13) rfl ?_
  refine pm_cS3i hK (kC_keptIn hl 1 (Nat.le_refl _) _ _ _ _) mo_C_keptIn st_C_keptIn lk_C_17 dC_kept_13 (by omega) (Nat.le_of_ble_eq_true rfl) (Nat.zero_le _) (Nat.zero_le _) (q := 16) rfl ?_
  refine pm_iadd dC_kept_16 (q := 17) rfl ?_
  refine pm_istore_n dC_kept_17 (by decide) (q := 18) rfl ?_
  refine pm_iincL dC_kept_18 rfl (by decide) (y := 2) (by decide) (q := 21) rfl ?_
  refine pm_goto (tgt := 4) dC_kept_21 rfl ?_
  refine pm_iload_n dC_kept_4 rfl (q := 5) rfl ?_
  refine pm_iconst (x := 3) dC_kept_5 (by decide) (q := 6) rfl ?_
  refine pm_icmp_ge (tgt := 24) dC_kept_6 rfl (q := 9) rfl (fun h => absurd h (by decide)) (fun _ => ?_)
  refine pm_iload_n dC_kept_9 rfl (q := 10) rfl ?_
  refine pm_iload_n dC_kept_10 rfl (q := 11) rfl ?_
  refine pm_iload_n dC_kept_11 rfl (q := 12) rfl ?_
  refine pm_iload_n dC_kept_12 rfl (q := 13) rfl ?_
  refine pm_cS3i hK (kC_keptIn hl 1 (Nat.le_refl _) _ _ _ _) mo_C_keptIn st_C_keptIn lk_C_17 dC_kept_13 (by omega) (Nat.le_of_ble_eq_true rfl) (Nat.zero_le _) (Nat.zero_le _) (q := 16) rfl ?_
  refine pm_iadd dC_kept_16 (q := 17) rfl ?_
  refine pm_istore_n dC_kept_17 (by decide) (q := 18) rfl ?_
  refine pm_iincL dC_kept_18 rfl (by decide) (y := 3) (by decide) (q := 21) rfl ?_
  refine pm_goto (tgt := 4) dC_kept_21 rfl ?_
  refine pm_iload_n dC_kept_4 rfl (q := 5) rfl ?_
  refine pm_iconst (x := 3) dC_kept_5 (by decide) (q := 6) rfl ?_
  refine pm_icmp_ge (tgt := 24) dC_kept_6 rfl (q := 9) rfl (fun _ => ?_) (fun h => absurd h (by decide))
  refine pm_iload_n dC_kept_24 rfl (q := 25) rfl ?_
  exact pm_retI hret dC_kept_25 rfl
