/-! the model in any heap: what is only read -/
def ModAt (h : pm_H) (mi : Nat → Int32) (ma : Nat → Nat → Int32) : Prop :=
  h[31]? = some (pm_o 5 [.int (mi 0), .int (mi 1), .int (mi 2), .int (mi 3), .int (mi 4), .int (mi 5), .int (mi 6), .ref 32, .int (mi 8), .ref 33, .ref 34, .ref 35, .ref 36, .ref 37, .ref 38, .ref 39, .ref 40, .ref 41, .int (mi 18), .int (mi 19), .ref 42, .ref 43, .ref 44, .ref 45, .ref 46, .ref 47]) ∧
  h[32]? = some (pm_z 3 (ma 0)) ∧ h[33]? = some (pm_i 5 (ma 1)) ∧ h[34]? = some (pm_i 5 (ma 2)) ∧ h[35]? = some (pm_i 5 (ma 3)) ∧ h[36]? = some (pm_i 5 (ma 4)) ∧ h[37]? = some (pm_z 5 (ma 5)) ∧
  h[38]? = some (pm_i 7800 (ma 6)) ∧ h[39]? = some (pm_i 7800 (ma 7)) ∧ h[40]? = some (pm_i 3 (ma 8)) ∧ h[41]? = some (pm_i 9 (ma 9)) ∧
  h[42]? = some (pm_i 60 (ma 10)) ∧ h[43]? = some (pm_i 60 (ma 11)) ∧ h[44]? = some (pm_i 60 (ma 12)) ∧ h[45]? = some (pm_i 60 (ma 13)) ∧ h[46]? = some (pm_i 9 (ma 14)) ∧ h[47]? = some (pm_i 9 (ma 15))
theorem nI_ts (a b : Nat) : 3 * nI a + nI b = nI (3 * a + b) := by
  rw [show (3 : Int32) = nI 3 from rfl, nI_mulm, nI_addm]
set_option maxHeartbeats 4000000 in
theorem kM_in {l : Launch} (hl : l.stackTraces = false) (d : Nat) (x a b : Int32) (h : pm_H) : pm_Sem l d mM_in [.int x, .int a, .int b] h (some (.int (fw x a b))) h := by
  refine pm_sem hl mo_M_in ⟨_, rfl, fw_b x a b⟩ rfl rfl (Nat.le_of_ble_eq_true rfl) (fun K G hK hret => ?_)
  refine pm_iload_n dM_in_0 rfl (q := 1) rfl ?_
  refine pm_iload_n dM_in_1 rfl (q := 2) rfl ?_
  refine pm_icmp_lt (tgt := 14) dM_in_2 rfl (q := 5) rfl (fun h2 => ?_) (fun h2 => ?_)
  · refine pm_iconst (x := 0) dM_in_14 (by decide) (q := 15) rfl ?_
    exact pm_retI hret dM_in_15 (by first | exact fw_1 h2 h7 | exact fw_2 h2 | exact fw_3 h7)
  · refine pm_iload_n dM_in_5 rfl (q := 6) rfl ?_
    refine pm_iload_n dM_in_6 rfl (q := 7) rfl ?_
    refine pm_icmp_gt (tgt := 14) dM_in_7 rfl (q := 10) rfl (fun h7 => ?_) (fun h7 => ?_)
    · refine pm_iconst (x := 0) dM_in_14 (by decide) (q := 15) rfl ?_
      exact pm_retI hret dM_in_15 (by first | exact fw_1 h2 h7 | exact fw_2 h2 | exact fw_3 h7)
    · refine pm_iconst (x := 1) dM_in_10 (by decide) (q := 11) rfl ?_
      refine pm_goto (tgt := 15) dM_in_11 rfl ?_
      exact pm_retI hret dM_in_15 (by first | exact fw_1 h2 h7 | exact fw_2 h2 | exact fw_3 h7)
set_option maxHeartbeats 4000000 in
theorem kM_isStack {l : Launch} (hl : l.stackTraces = false) (d : Nat) (hd : 1 ≤ d) {h : pm_H} {mi : Nat → Int32} {ma : Nat → Nat → Int32} (HA : ModAt h mi ma) (x : Int32) : pm_Sem l d mM_isStack [.ref 31, .int x] h (some (.int (fw x 0 (mi 1 - 1)))) h := by
  refine pm_sem hl mo_M_isStack ⟨_, rfl, fw_b _ _ _⟩ rfl rfl (Nat.le_of_ble_eq_true rfl) (fun K G hK hret => ?_)
  obtain ⟨hM, hPg, hFr, hTo, hWt, hKi, hGo, hFo, hLe, hMa, hSl, hBo, hPo, hFo2, hTo2, hCr, hTr⟩ := id HA
  refine pm_iload_n dM_isStack_0 rfl (q := 1) rfl ?_
  refine pm_iconst (x := 0) dM_isStack_1 (by decide) (q := 2) rfl ?_
  refine pm_aload_n dM_isStack_2 rfl (q := 3) rfl ?_
  refine pm_get fl_M_7 dM_isStack_3 hM rfl (q := 6) rfl ?_
  refine pm_iconst (x := 1) dM_isStack_6 (by decide) (q := 7) rfl ?_
  refine pm_isub dM_isStack_7 (q := 8) rfl ?_
  refine pm_cS3i hK (kM_in hl 0 _ _ _ _) mo_M_in st_M_in lk_M_92 dM_isStack_8 (by omega) (Nat.le_of_ble_eq_true rfl) (Nat.zero_le _) (Nat.zero_le _) (q := 11) rfl ?_
  exact pm_retI hret dM_isStack_11 rfl
set_option maxHeartbeats 4000000 in
theorem kM_thrown {l : Launch} (hl : l.stackTraces = false) (d : Nat) {h : pm_H} {mi : Nat → Int32} {ma : Nat → Nat → Int32} (HA : ModAt h mi ma) : pm_Sem l d mM_thrown [.ref 31] h (some (.int (mi 0))) h := by
  refine pm_sem hl mo_M_thrown ⟨_, rfl, rfl⟩ rfl rfl (Nat.le_of_ble_eq_true rfl) (fun K G hK hret => ?_)
  obtain ⟨hM, hPg, hFr, hTo, hWt, hKi, hGo, hFo, hLe, hMa, hSl, hBo, hPo, hFo2, hTo2, hCr, hTr⟩ := id HA
  refine pm_aload_n dM_thrown_0 rfl (q := 1) rfl ?_
  refine pm_get fl_M_82 dM_thrown_1 hM rfl (q := 4) rfl ?_
  exact pm_retI hret dM_thrown_4 rfl
def fM_boxAt (a s : Int32) : Int32 := ((a >>> ((3 * s) &&& 31)) &&& 7) - 1
set_option maxHeartbeats 4000000 in
theorem kM_boxAt {l : Launch} (hl : l.stackTraces = false) (d : Nat) (a s : Int32) (h : pm_H) : pm_Sem l d mM_boxAt [.int a, .int s] h (some (.int (fM_boxAt a s))) h := by
  refine pm_sem hl mo_M_boxAt ⟨_, rfl, rfl⟩ rfl rfl (Nat.le_of_ble_eq_true rfl) (fun K G hK hret => ?_)
  refine pm_iload_n dM_boxAt_0 rfl (q := 1) rfl ?_
  refine pm_iconst (x := 3) dM_boxAt_1 (by decide) (q := 2) rfl ?_
  refine pm_iload_n dM_boxAt_2 rfl (q := 3) rfl ?_
  refine pm_imul dM_boxAt_3 (q := 4) rfl ?_
  refine pm_ishr dM_boxAt_4 (q := 5) rfl ?_
  refine pm_bipush (x := 7) dM_boxAt_5 (by decide) (q := 7) rfl ?_
  refine pm_iand dM_boxAt_7 (q := 8) rfl ?_
  refine pm_iconst (x := 1) dM_boxAt_8 (by decide) (q := 9) rfl ?_
  refine pm_isub dM_boxAt_9 (q := 10) rfl ?_
  exact pm_retI hret dM_boxAt_10 rfl
def fM_ab (mi : Nat → Int32) (ma : Nat → Nat → Int32) (b : Nat) (q : Int32) : Int32 := if nI b < mi 8 ∧ ma 5 b = 0 ∧ ma 1 b ≤ q ∧ q < ma 2 b then 1 else 0
theorem fM_ab_b (mi : Nat → Int32) (ma : Nat → Nat → Int32) (b : Nat) (q : Int32) : narrow .boolean (.int (fM_ab mi ma b q)) = .int (fM_ab mi ma b q) := by
  unfold fM_ab; split <;> rfl
set_option maxHeartbeats 4000000 in
theorem kM_isAboard {l : Launch} (hl : l.stackTraces = false) (d : Nat) {h : pm_H} {mi : Nat → Int32} {ma : Nat → Nat → Int32} (HA : ModAt h mi ma) (b : Nat) (hb : b < 5) (q : Int32) : pm_Sem l d mM_isAboard [.ref 31, .int (nI b), .int q] h (some (.int (fM_ab mi ma b q))) h := by
  refine pm_sem hl mo_M_isAboard ⟨_, rfl, fM_ab_b _ _ _ _⟩ rfl rfl (Nat.le_of_ble_eq_true rfl) (fun K G hK hret => ?_)
  obtain ⟨hM, hPg, hFr, hTo, hWt, hKi, hGo, hFo, hLe, hMa, hSl, hBo, hPo, hFo2, hTo2, hCr, hTr⟩ := id HA
  refine pm_iload_n dM_isAboard_0 rfl (q := 1) rfl ?_
  refine pm_aload_n dM_isAboard_1 rfl (q := 2) rfl ?_
  refine pm_get fl_M_100 dM_isAboard_2 hM rfl (q := 5) rfl ?_
  refine pm_icmp_ge (tgt := 41) dM_isAboard_5 rfl (q := 8) rfl (fun h5 => ?_) (fun h5 => ?_)
  · refine pm_iconst (x := 0) dM_isAboard_41 (by decide) (q := 42) rfl ?_
    exact pm_retI hret dM_isAboard_42 (by first | (simp [fM_ab, Int32.not_lt.mpr h5]; done) | (simp [fM_ab, h14]; done) | (simp [fM_ab, Int32.not_le.mpr h24]; done) | (simp [fM_ab, Int32.not_lt.mpr h34]; done) | (simp [fM_ab, Int32.not_le.mp h5, h14, Int32.not_lt.mp h24, Int32.not_le.mp h34]; done))
  · refine pm_aload_n dM_isAboard_8 rfl (q := 9) rfl ?_
    refine pm_get fl_M_45 dM_isAboard_9 hM rfl (q := 12) rfl ?_
    refine pm_iload_n dM_isAboard_12 rfl (q := 13) rfl ?_
    refine pm_zaldN dM_isAboard_13 hGo (hb) (Nat.le_of_ble_eq_true rfl) (q := 14) rfl ?_
    refine pm_if_ne (tgt := 41) dM_isAboard_14 rfl (q := 17) rfl (fun h14 => ?_) (fun h14 => ?_)
    · refine pm_iconst (x := 0) dM_isAboard_41 (by decide) (q := 42) rfl ?_
      exact pm_retI hret dM_isAboard_42 (by first | (simp [fM_ab, Int32.not_lt.mpr h5]; done) | (simp [fM_ab, h14]; done) | (simp [fM_ab, Int32.not_le.mpr h24]; done) | (simp [fM_ab, Int32.not_lt.mpr h34]; done) | (simp [fM_ab, Int32.not_le.mp h5, h14, Int32.not_lt.mp h24, Int32.not_le.mp h34]; done))
    · refine pm_aload_n dM_isAboard_17 rfl (q := 18) rfl ?_
      refine pm_get fl_M_32 dM_isAboard_18 hM rfl (q := 21) rfl ?_
      refine pm_iload_n dM_isAboard_21 rfl (q := 22) rfl ?_
      refine pm_ialdN dM_isAboard_22 hFr (hb) (Nat.le_of_ble_eq_true rfl) (q := 23) rfl ?_
      refine pm_iload_n dM_isAboard_23 rfl (q := 24) rfl ?_
      refine pm_icmp_gt (tgt := 41) dM_isAboard_24 rfl (q := 27) rfl (fun h24 => ?_) (fun h24 => ?_)
      · refine pm_iconst (x := 0) dM_isAboard_41 (by decide) (q := 42) rfl ?_
        exact pm_retI hret dM_isAboard_42 (by first | (simp [fM_ab, Int32.not_lt.mpr h5]; done) | (simp [fM_ab, h14]; done) | (simp [fM_ab, Int32.not_le.mpr h24]; done) | (simp [fM_ab, Int32.not_lt.mpr h34]; done) | (simp [fM_ab, Int32.not_le.mp h5, h14, Int32.not_lt.mp h24, Int32.not_le.mp h34]; done))
      · refine pm_aload_n dM_isAboard_27 rfl (q := 28) rfl ?_
        refine pm_get fl_M_36 dM_isAboard_28 hM rfl (q := 31) rfl ?_
        refine pm_iload_n dM_isAboard_31 rfl (q := 32) rfl ?_
        refine pm_ialdN dM_isAboard_32 hTo (hb) (Nat.le_of_ble_eq_true rfl) (q := 33) rfl ?_
        refine pm_iload_n dM_isAboard_33 rfl (q := 34) rfl ?_
        refine pm_icmp_le (tgt := 41) dM_isAboard_34 rfl (q := 37) rfl (fun h34 => ?_) (fun h34 => ?_)
        · refine pm_iconst (x := 0) dM_isAboard_41 (by decide) (q := 42) rfl ?_
          exact pm_retI hret dM_isAboard_42 (by first | (simp [fM_ab, Int32.not_lt.mpr h5]; done) | (simp [fM_ab, h14]; done) | (simp [fM_ab, Int32.not_le.mpr h24]; done) | (simp [fM_ab, Int32.not_lt.mpr h34]; done) | (simp [fM_ab, Int32.not_le.mp h5, h14, Int32.not_lt.mp h24, Int32.not_le.mp h34]; done))
        · refine pm_iconst (x := 1) dM_isAboard_37 (by decide) (q := 38) rfl ?_
          refine pm_goto (tgt := 42) dM_isAboard_38 rfl ?_
          exact pm_retI hret dM_isAboard_42 (by first | (simp [fM_ab, Int32.not_lt.mpr h5]; done) | (simp [fM_ab, h14]; done) | (simp [fM_ab, Int32.not_le.mpr h24]; done) | (simp [fM_ab, Int32.not_lt.mpr h34]; done) | (simp [fM_ab, Int32.not_le.mp h5, h14, Int32.not_lt.mp h24, Int32.not_le.mp h34]; done))
def fM_w (f wt : Nat → Int32) (s : Nat) : Nat → Int32
  | 0 => 0
  | j + 1 => if f (3 * s + j) < 0 then fM_w f wt s j else fM_w f wt s j + wt (f (3 * s + j)).toNatClampNeg
set_option maxHeartbeats 4000000 in
theorem kM_weightOf {l : Launch} (hl : l.stackTraces = false) (d : Nat) {h : pm_H} {mi : Nat → Int32} {ma : Nat → Nat → Int32} (HA : ModAt h mi ma) {t : Nat} {f : Nat → Int32} (hY : h[t]? = some (pm_i 9 f)) (hf : ∀ k, k < 9 → ¬ f k < 0 → vp_in (f k) 5) (s : Nat) (hs : s < 3) : pm_Sem l d mM_weightOf [.ref 31, .ref t, .int (nI s)] h (some (.int (fM_w f (ma 3) s 3))) h := by
  refine pm_sem hl mo_M_weightOf ⟨_, rfl, rfl⟩ rfl rfl (Nat.le_of_ble_eq_true rfl) (fun K G hK hret => ?_)
  obtain ⟨hM, hPg, hFr, hTo, hWt, hKi, hGo, hFo, hLe, hMa, hSl, hBo, hPo, hFo2, hTo2, hCr, hTr⟩ := id HA
  have hL : ∀ (m j : Nat), m + j = 3 → pm_Go mM_weightOf K G 5 [some (.ref 31), some (.ref t), some (.int (nI s)), some (.int (fM_w f (ma 3) s j)), some (.int (nI j))] [] h 0 0 := by
    intro m
    induction m with
    | zero =>
      intro j hj
      have hj : j = 3 := by omega
      subst hj
      refine pm_iload dM_weightOf_5 rfl (q := 7) rfl ?_
      refine pm_iconst (x := 3) dM_weightOf_7 (by decide) (q := 8) rfl ?_
      refine pm_icmp_ge (tgt := 48) dM_weightOf_8 rfl (q := 11) rfl (fun _ => ?_) (fun z => absurd (by decide) z)
      refine pm_iload_n dM_weightOf_48 rfl (q := 49) rfl ?_
      exact pm_retI hret dM_weightOf_49 rfl
    | succ m ih =>
      intro j hj
      have hj3 : j < 3 := by omega
      have hk9 : 3 * s + j < 9 := by omega
      refine pm_iload dM_weightOf_5 rfl (q := 7) rfl ?_
      refine pm_iconst (x := 3) dM_weightOf_7 (by decide) (q := 8) rfl ?_
      refine pm_icmp_ge (tgt := 48) dM_weightOf_8 rfl (q := 11) rfl (fun z => absurd z (show ¬ (3 : Int32) ≤ nI j from nI_ge (b := 3) hj3 (by decide))) (fun _ => ?_)
      refine pm_aload_n dM_weightOf_11 rfl (q := 12) rfl ?_
      refine pm_iconst (x := 3) dM_weightOf_12 (by decide) (q := 13) rfl ?_
      refine pm_iload_n dM_weightOf_13 rfl (q := 14) rfl ?_
      refine pm_imul dM_weightOf_14 (q := 15) rfl ?_
      refine pm_iload dM_weightOf_15 rfl (q := 17) rfl ?_
      refine pm_iadd dM_weightOf_17 (q := 18) rfl ?_
      refine pm_topL (y := nI (3 * s + j)) (nI_ts s j) ?_
      refine pm_ialdN dM_weightOf_18 hY hk9 (Nat.le_of_ble_eq_true rfl) (q := 19) rfl ?_
      refine pm_if_lt (tgt := 40) dM_weightOf_19 rfl (q := 22) rfl (fun h19 => ?_) (fun h19 => ?_)
      · refine pm_iload_n dM_weightOf_40 rfl (q := 41) rfl ?_
        refine pm_istore_n dM_weightOf_41 (by decide) (q := 42) rfl ?_
        refine pm_iincL dM_weightOf_42 rfl (by decide) (y := nI (j + 1)) (by rw [nI_succ]; rfl) (q := 45) rfl ?_
        refine pm_goto (tgt := 5) dM_weightOf_45 rfl ?_
        refine pm_loc (ls' := [some (.ref 31), some (.ref t), some (.int (nI s)), some (.int (fM_w f (ma 3) s (j + 1))), some (.int (nI (j + 1)))]) ?_ (ih (j + 1) (by omega))
        first
        | (rw [show fM_w f (ma 3) s (j + 1) = fM_w f (ma 3) s j from if_pos h19]; rfl)
        | (rw [show fM_w f (ma 3) s (j + 1) = fM_w f (ma 3) s j + ma 3 (f (3 * s + j)).toNatClampNeg from if_neg h19]; rfl)
      · refine pm_iload_n dM_weightOf_22 rfl (q := 23) rfl ?_
        refine pm_aload_n dM_weightOf_23 rfl (q := 24) rfl ?_
        refine pm_get fl_M_39 dM_weightOf_24 hM rfl (q := 27) rfl ?_
        refine pm_aload_n dM_weightOf_27 rfl (q := 28) rfl ?_
        refine pm_iconst (x := 3) dM_weightOf_28 (by decide) (q := 29) rfl ?_
        refine pm_iload_n dM_weightOf_29 rfl (q := 30) rfl ?_
        refine pm_imul dM_weightOf_30 (q := 31) rfl ?_
        refine pm_iload dM_weightOf_31 rfl (q := 33) rfl ?_
        refine pm_iadd dM_weightOf_33 (q := 34) rfl ?_
        refine pm_topL (y := nI (3 * s + j)) (nI_ts s j) ?_
        refine pm_ialdN dM_weightOf_34 hY hk9 (Nat.le_of_ble_eq_true rfl) (q := 35) rfl ?_
        refine pm_iald dM_weightOf_35 hWt (hf _ hk9 h19) (q := 36) rfl ?_
        refine pm_iadd dM_weightOf_36 (q := 37) rfl ?_
        refine pm_goto (tgt := 41) dM_weightOf_37 rfl ?_
        refine pm_istore_n dM_weightOf_41 (by decide) (q := 42) rfl ?_
        refine pm_iincL dM_weightOf_42 rfl (by decide) (y := nI (j + 1)) (by rw [nI_succ]; rfl) (q := 45) rfl ?_
        refine pm_goto (tgt := 5) dM_weightOf_45 rfl ?_
        refine pm_loc (ls' := [some (.ref 31), some (.ref t), some (.int (nI s)), some (.int (fM_w f (ma 3) s (j + 1))), some (.int (nI (j + 1)))]) ?_ (ih (j + 1) (by omega))
        first
        | (rw [show fM_w f (ma 3) s (j + 1) = fM_w f (ma 3) s j from if_pos h19]; rfl)
        | (rw [show fM_w f (ma 3) s (j + 1) = fM_w f (ma 3) s j + ma 3 (f (3 * s + j)).toNatClampNeg from if_neg h19]; rfl)
  refine pm_iconst (x := 0) dM_weightOf_0 (by decide) (q := 1) rfl ?_
  refine pm_istore_n dM_weightOf_1 (by decide) (q := 2) rfl ?_
  refine pm_iconst (x := 0) dM_weightOf_2 (by decide) (q := 3) rfl ?_
  refine pm_istore dM_weightOf_3 (by decide) (q := 5) rfl ?_
  exact hL 3 0 (by omega)
def fM_v (f wt : Nat → Int32) : Nat → Int32
  | 0 => 0
  | j + 1 => if f j < 0 then fM_v f wt j else fM_v f wt j + wt (f j).toNatClampNeg * (nI j - nI j / 3 * 3 + 1)
set_option maxHeartbeats 4000000 in
theorem kM_verticalOf {l : Launch} (hl : l.stackTraces = false) (d : Nat) {h : pm_H} {mi : Nat → Int32} {ma : Nat → Nat → Int32} (HA : ModAt h mi ma) {t : Nat} {f : Nat → Int32} (hY : h[t]? = some (pm_i 9 f)) (hf : ∀ k, k < 9 → ¬ f k < 0 → vp_in (f k) 5) : pm_Sem l d mM_verticalOf [.ref 31, .ref t] h (some (.int (fM_v f (ma 3) 9))) h := by
  refine pm_sem hl mo_M_verticalOf ⟨_, rfl, rfl⟩ rfl rfl (Nat.le_of_ble_eq_true rfl) (fun K G hK hret => ?_)
  obtain ⟨hM, hPg, hFr, hTo, hWt, hKi, hGo, hFo, hLe, hMa, hSl, hBo, hPo, hFo2, hTo2, hCr, hTr⟩ := id HA
  have hL : ∀ (m j : Nat), m + j = 9 → pm_Go mM_verticalOf K G 4 [some (.ref 31), some (.ref t), some (.int (fM_v f (ma 3) j)), some (.int (nI j))] [] h 0 0 := by
    intro m
    induction m with
    | zero =>
      intro j hj
      have hj : j = 9 := by omega
      subst hj
      refine pm_iload_n dM_verticalOf_4 rfl (q := 5) rfl ?_
      refine pm_bipush (x := 9) dM_verticalOf_5 (by decide) (q := 7) rfl ?_
      refine pm_icmp_ge (tgt := 43) dM_verticalOf_7 rfl (q := 10) rfl (fun _ => ?_) (fun z => absurd (by decide) z)
      refine pm_iload_n dM_verticalOf_43 rfl (q := 44) rfl ?_
      exact pm_retI hret dM_verticalOf_44 rfl
    | succ m ih =>
      intro j hj
      have hj9 : j < 9 := by omega
      refine pm_iload_n dM_verticalOf_4 rfl (q := 5) rfl ?_
      refine pm_bipush (x := 9) dM_verticalOf_5 (by decide) (q := 7) rfl ?_
      refine pm_icmp_ge (tgt := 43) dM_verticalOf_7 rfl (q := 10) rfl (fun z => absurd z (show ¬ (9 : Int32) ≤ nI j from nI_ge (b := 9) hj9 (by decide))) (fun _ => ?_)
      refine pm_aload_n dM_verticalOf_10 rfl (q := 11) rfl ?_
      refine pm_iload_n dM_verticalOf_11 rfl (q := 12) rfl ?_
      refine pm_ialdN dM_verticalOf_12 hY (hj9) (Nat.le_of_ble_eq_true rfl) (q := 13) rfl ?_
      refine pm_if_lt (tgt := 35) dM_verticalOf_13 rfl (q := 16) rfl (fun h13 => ?_) (fun h13 => ?_)
      · refine pm_iload_n dM_verticalOf_35 rfl (q := 36) rfl ?_
        refine pm_istore_n dM_verticalOf_36 (by decide) (q := 37) rfl ?_
        refine pm_iincL dM_verticalOf_37 rfl (by decide) (y := nI (j + 1)) (by rw [nI_succ]; rfl) (q := 40) rfl ?_
        refine pm_goto (tgt := 4) dM_verticalOf_40 rfl ?_
        refine pm_loc (ls' := [some (.ref 31), some (.ref t), some (.int (fM_v f (ma 3) (j + 1))), some (.int (nI (j + 1)))]) ?_ (ih (j + 1) (by omega))
        first
        | (rw [show fM_v f (ma 3) (j + 1) = fM_v f (ma 3) j from if_pos h13]; rfl)
        | (rw [show fM_v f (ma 3) (j + 1) = fM_v f (ma 3) j + ma 3 (f j).toNatClampNeg * (nI j - nI j / 3 * 3 + 1) from if_neg h13]; rfl)
      · refine pm_iload_n dM_verticalOf_16 rfl (q := 17) rfl ?_
        refine pm_aload_n dM_verticalOf_17 rfl (q := 18) rfl ?_
        refine pm_get fl_M_39 dM_verticalOf_18 hM rfl (q := 21) rfl ?_
        refine pm_aload_n dM_verticalOf_21 rfl (q := 22) rfl ?_
        refine pm_iload_n dM_verticalOf_22 rfl (q := 23) rfl ?_
        refine pm_ialdN dM_verticalOf_23 hY (hj9) (Nat.le_of_ble_eq_true rfl) (q := 24) rfl ?_
        refine pm_iald dM_verticalOf_24 hWt (hf _ hj9 h13) (q := 25) rfl ?_
        refine pm_iload_n dM_verticalOf_25 rfl (q := 26) rfl ?_
        refine pm_iconst (x := 3) dM_verticalOf_26 (by decide) (q := 27) rfl ?_
        refine pm_irem dM_verticalOf_27 (by decide) (q := 28) rfl ?_
        refine pm_iconst (x := 1) dM_verticalOf_28 (by decide) (q := 29) rfl ?_
        refine pm_iadd dM_verticalOf_29 (q := 30) rfl ?_
        refine pm_imul dM_verticalOf_30 (q := 31) rfl ?_
        refine pm_iadd dM_verticalOf_31 (q := 32) rfl ?_
        refine pm_goto (tgt := 36) dM_verticalOf_32 rfl ?_
        refine pm_istore_n dM_verticalOf_36 (by decide) (q := 37) rfl ?_
        refine pm_iincL dM_verticalOf_37 rfl (by decide) (y := nI (j + 1)) (by rw [nI_succ]; rfl) (q := 40) rfl ?_
        refine pm_goto (tgt := 4) dM_verticalOf_40 rfl ?_
        refine pm_loc (ls' := [some (.ref 31), some (.ref t), some (.int (fM_v f (ma 3) (j + 1))), some (.int (nI (j + 1)))]) ?_ (ih (j + 1) (by omega))
        first
        | (rw [show fM_v f (ma 3) (j + 1) = fM_v f (ma 3) j from if_pos h13]; rfl)
        | (rw [show fM_v f (ma 3) (j + 1) = fM_v f (ma 3) j + ma 3 (f j).toNatClampNeg * (nI j - nI j / 3 * 3 + 1) from if_neg h13]; rfl)
  refine pm_iconst (x := 0) dM_verticalOf_0 (by decide) (q := 1) rfl ?_
  refine pm_istore_n dM_verticalOf_1 (by decide) (q := 2) rfl ?_
  refine pm_iconst (x := 0) dM_verticalOf_2 (by decide) (q := 3) rfl ?_
  refine pm_istore_n dM_verticalOf_3 (by decide) (q := 4) rfl ?_
  exact hL 9 0 (by omega)
def fM_l (mi f wt : Nat → Int32) : Nat → Int32
  | 0 => 0
  | j + 1 => fM_l mi f wt j + fM_w f wt j 3 * (2 * nI j + 1 - mi 1)
set_option maxHeartbeats 4000000 in
theorem kM_listOf {l : Launch} (hl : l.stackTraces = false) (d : Nat) (hd : 1 ≤ d) {h : pm_H} {mi : Nat → Int32} {ma : Nat → Nat → Int32} (HA : ModAt h mi ma) {t : Nat} {f : Nat → Int32} (hY : h[t]? = some (pm_i 9 f)) (hf : ∀ k, k < 9 → ¬ f k < 0 → vp_in (f k) 5) {S : Nat} (hS : mi 1 = nI S) (hS3 : S ≤ 3) : pm_Sem l d mM_listOf [.ref 31, .ref t] h (some (.int (fM_l mi f (ma 3) S))) h := by
  refine pm_sem hl mo_M_listOf ⟨_, rfl, rfl⟩ rfl rfl (Nat.le_of_ble_eq_true rfl) (fun K G hK hret => ?_)
  obtain ⟨hM, hPg, hFr, hTo, hWt, hKi, hGo, hFo, hLe, hMa, hSl, hBo, hPo, hFo2, hTo2, hCr, hTr⟩ := id HA
  have hL : ∀ (m j : Nat), m + j = S → pm_Go mM_listOf K G 4 [some (.ref 31), some (.ref t), some (.int (fM_l mi f (ma 3) j)), some (.int (nI j))] [] h 0 0 := by
    intro m
    induction m with
    | zero =>
      intro j hj
      have hj : j = S := by omega
      subst hj
      refine pm_iload_n dM_listOf_4 rfl (q := 5) rfl ?_
      refine pm_aload_n dM_listOf_5 rfl (q := 6) rfl ?_
      refine pm_get fl_M_7 dM_listOf_6 hM rfl (q := 9) rfl ?_
      refine pm_icmp_ge (tgt := 38) dM_listOf_9 rfl (q := 12) rfl (fun _ => ?_) (fun z => absurd (by rw [hS]; exact nI_le (Nat.le_refl _) (by omega)) z)
      refine pm_iload_n dM_listOf_38 rfl (q := 39) rfl ?_
      exact pm_retI hret dM_listOf_39 rfl
    | succ m ih =>
      intro j hj
      have hjS : j < S := by omega
      refine pm_iload_n dM_listOf_4 rfl (q := 5) rfl ?_
      refine pm_aload_n dM_listOf_5 rfl (q := 6) rfl ?_
      refine pm_get fl_M_7 dM_listOf_6 hM rfl (q := 9) rfl ?_
      refine pm_icmp_ge (tgt := 38) dM_listOf_9 rfl (q := 12) rfl (fun z => absurd z (by rw [hS]; exact nI_ge hjS (by omega))) (fun _ => ?_)
      refine pm_iload_n dM_listOf_12 rfl (q := 13) rfl ?_
      refine pm_aload_n dM_listOf_13 rfl (q := 14) rfl ?_
      refine pm_aload_n dM_listOf_14 rfl (q := 15) rfl ?_
      refine pm_iload_n dM_listOf_15 rfl (q := 16) rfl ?_
      refine pm_cV2i hK (kM_weightOf hl 0 HA hY hf j (by omega)) mo_M_weightOf im_M_weightOf se_M_weightOf lk_M_110 dM_listOf_16 (by omega) (Nat.le_of_ble_eq_true rfl) (Nat.zero_le _) (Nat.zero_le _) hM rfl rfl (q := 19) rfl ?_
      refine pm_iconst (x := 2) dM_listOf_19 (by decide) (q := 20) rfl ?_
      refine pm_iload_n dM_listOf_20 rfl (q := 21) rfl ?_
      refine pm_imul dM_listOf_21 (q := 22) rfl ?_
      refine pm_iconst (x := 1) dM_listOf_22 (by decide) (q := 23) rfl ?_
      refine pm_iadd dM_listOf_23 (q := 24) rfl ?_
      refine pm_aload_n dM_listOf_24 rfl (q := 25) rfl ?_
      refine pm_get fl_M_7 dM_listOf_25 hM rfl (q := 28) rfl ?_
      refine pm_isub dM_listOf_28 (q := 29) rfl ?_
      refine pm_imul dM_listOf_29 (q := 30) rfl ?_
      refine pm_iadd dM_listOf_30 (q := 31) rfl ?_
      refine pm_istore_n dM_listOf_31 (by decide) (q := 32) rfl ?_
      refine pm_iincL dM_listOf_32 rfl (by decide) (y := nI (j + 1)) (by rw [nI_succ]; rfl) (q := 35) rfl ?_
      refine pm_goto (tgt := 4) dM_listOf_35 rfl ?_
      exact ih (j + 1) (by omega)
  refine pm_iconst (x := 0) dM_listOf_0 (by decide) (q := 1) rfl ?_
  refine pm_istore_n dM_listOf_1 (by decide) (q := 2) rfl ?_
  refine pm_iconst (x := 0) dM_listOf_2 (by decide) (q := 3) rfl ?_
  refine pm_istore_n dM_listOf_3 (by decide) (q := 4) rfl ?_
  exact hL S 0 (by omega)
def fM_in (f : Nat → Int32) (b : Int32) : Nat → Int32
  | 0 => 0
  | j + 1 => if ¬ fM_in f b j = 0 ∨ f j = b then 1 else 0
theorem fM_in_b (f : Nat → Int32) (b : Int32) (n : Nat) : narrow .boolean (.int (fM_in f b n)) = .int (fM_in f b n) := by
  cases n with
  | zero => rw [fM_in]; rfl
  | succ n => unfold fM_in; split <;> rfl
set_option maxHeartbeats 4000000 in
theorem kM_isIn {l : Launch} (hl : l.stackTraces = false) (d : Nat) {h : pm_H} {mi : Nat → Int32} {ma : Nat → Nat → Int32} (HA : ModAt h mi ma) {t : Nat} {f : Nat → Int32} (hY : h[t]? = some (pm_i 9 f)) (b : Int32) (N : Nat) (hN : N ≤ 9) : pm_Sem l d mM_isIn [.ref 31, .ref t, .int b, .int (nI N)] h (some (.int (fM_in f b N))) h := by
  refine pm_sem hl mo_M_isIn ⟨_, rfl, fM_in_b _ _ _⟩ rfl rfl (Nat.le_of_ble_eq_true rfl) (fun K G hK hret => ?_)
  obtain ⟨hM, hPg, hFr, hTo, hWt, hKi, hGo, hFo, hLe, hMa, hSl, hBo, hPo, hFo2, hTo2, hCr, hTr⟩ := id HA
  have hL : ∀ (m j : Nat), m + j = N → pm_Go mM_isIn K G 6 [some (.ref 31), some (.ref t), some (.int b), some (.int (nI N)), some (.int (fM_in f b j)), some (.int (nI j))] [] h 0 0 := by
    intro m
    induction m with
    | zero =>
      intro j hj
      have hj : j = N := by omega
      subst hj
      refine pm_iload dM_isIn_6 rfl (q := 8) rfl ?_
      refine pm_iload_n dM_isIn_8 rfl (q := 9) rfl ?_
      refine pm_icmp_ge (tgt := 38) dM_isIn_9 rfl (q := 12) rfl (fun _ => ?_) (fun z => absurd (nI_le (Nat.le_refl _) (by omega)) z)
      refine pm_iload dM_isIn_38 rfl (q := 40) rfl ?_
      exact pm_retI hret dM_isIn_40 rfl
    | succ m ih =>
      intro j hj
      have hjN : j < N := by omega
      refine pm_iload dM_isIn_6 rfl (q := 8) rfl ?_
      refine pm_iload_n dM_isIn_8 rfl (q := 9) rfl ?_
      refine pm_icmp_ge (tgt := 38) dM_isIn_9 rfl (q := 12) rfl (fun z => absurd z (nI_ge hjN (by omega))) (fun _ => ?_)
      refine pm_iload dM_isIn_12 rfl (q := 14) rfl ?_
      refine pm_if_ne (tgt := 25) dM_isIn_14 rfl (q := 17) rfl (fun h14 => ?_) (fun h14 => ?_)
      · refine pm_iconst (x := 1) dM_isIn_25 (by decide) (q := 26) rfl ?_
        refine pm_goto (tgt := 30) dM_isIn_26 rfl ?_
        refine pm_istore dM_isIn_30 (by decide) (q := 32) rfl ?_
        refine pm_iincL dM_isIn_32 rfl (by decide) (y := nI (j + 1)) (by rw [nI_succ]; rfl) (q := 35) rfl ?_
        refine pm_goto (tgt := 6) dM_isIn_35 rfl ?_
        refine pm_loc (ls' := [some (.ref 31), some (.ref t), some (.int b), some (.int (nI N)), some (.int (fM_in f b (j + 1))), some (.int (nI (j + 1)))]) ?_ (ih (j + 1) (by omega))
        first
        | (rw [show fM_in f b (j + 1) = 1 from if_pos (Or.inl h14)]; rfl)
        | (rw [show fM_in f b (j + 1) = 1 from if_pos (Or.inr h22)]; rfl)
        | (rw [show fM_in f b (j + 1) = 0 from if_neg (fun z => z.elim (fun y => y h14) h22)]; rfl)
      · refine pm_aload_n dM_isIn_17 rfl (q := 18) rfl ?_
        refine pm_iload dM_isIn_18 rfl (q := 20) rfl ?_
        refine pm_ialdN dM_isIn_20 hY (by omega) (Nat.le_of_ble_eq_true rfl) (q := 21) rfl ?_
        refine pm_iload_n dM_isIn_21 rfl (q := 22) rfl ?_
        refine pm_icmp_ne (tgt := 29) dM_isIn_22 rfl (q := 25) rfl (fun h22 => ?_) (fun h22 => ?_)
        · refine pm_iconst (x := 0) dM_isIn_29 (by decide) (q := 30) rfl ?_
          refine pm_istore dM_isIn_30 (by decide) (q := 32) rfl ?_
          refine pm_iincL dM_isIn_32 rfl (by decide) (y := nI (j + 1)) (by rw [nI_succ]; rfl) (q := 35) rfl ?_
          refine pm_goto (tgt := 6) dM_isIn_35 rfl ?_
          refine pm_loc (ls' := [some (.ref 31), some (.ref t), some (.int b), some (.int (nI N)), some (.int (fM_in f b (j + 1))), some (.int (nI (j + 1)))]) ?_ (ih (j + 1) (by omega))
          first
          | (rw [show fM_in f b (j + 1) = 1 from if_pos (Or.inl h14)]; rfl)
          | (rw [show fM_in f b (j + 1) = 1 from if_pos (Or.inr h22)]; rfl)
          | (rw [show fM_in f b (j + 1) = 0 from if_neg (fun z => z.elim (fun y => y h14) h22)]; rfl)
        · refine pm_iconst (x := 1) dM_isIn_25 (by decide) (q := 26) rfl ?_
          refine pm_goto (tgt := 30) dM_isIn_26 rfl ?_
          refine pm_istore dM_isIn_30 (by decide) (q := 32) rfl ?_
          refine pm_iincL dM_isIn_32 rfl (by decide) (y := nI (j + 1)) (by rw [nI_succ]; rfl) (q := 35) rfl ?_
          refine pm_goto (tgt := 6) dM_isIn_35 rfl ?_
          refine pm_loc (ls' := [some (.ref 31), some (.ref t), some (.int b), some (.int (nI N)), some (.int (fM_in f b (j + 1))), some (.int (nI (j + 1)))]) ?_ (ih (j + 1) (by omega))
          first
          | (rw [show fM_in f b (j + 1) = 1 from if_pos (Or.inl h14)]; rfl)
          | (rw [show fM_in f b (j + 1) = 1 from if_pos (Or.inr h22)]; rfl)
          | (rw [show fM_in f b (j + 1) = 0 from if_neg (fun z => z.elim (fun y => y h14) h22)]; rfl)
  refine pm_iconst (x := 0) dM_isIn_0 (by decide) (q := 1) rfl ?_
  refine pm_istore dM_isIn_1 (by decide) (q := 3) rfl ?_
  refine pm_iconst (x := 0) dM_isIn_3 (by decide) (q := 4) rfl ?_
  refine pm_istore dM_isIn_4 (by decide) (q := 6) rfl ?_
  exact hL N 0 (by omega)
