/-! a hold at t in any heap; what is only read -/
def HoldAt (h : pm_H) (t : Nat) (si : Nat → Int32) (sa : Nat → Nat → Int32) (v : Int32) (f g u : Nat → Int32) : Prop :=
  h[t]? = some (pm_o 2 [.ref 1, .ref (t + 1), .ref (t + 2), .ref (t + 3), .int v]) ∧ h[t + 1]? = some (pm_i 9 f) ∧ h[t + 2]? = some (pm_i 3 g) ∧ h[t + 3]? = some (pm_i 3 u) ∧
  h[1]? = some (pm_o 1 [.int (si 0), .int (si 1), .int (si 2), .int (si 3), .int (si 4), .int (si 5), .ref 2, .int (si 7), .ref 3, .ref 4, .ref 5, .ref 6, .ref 7]) ∧
  h[2]? = some (pm_z 3 (sa 0)) ∧ h[3]? = some (pm_i 5 (sa 1)) ∧ h[4]? = some (pm_i 5 (sa 2)) ∧ h[5]? = some (pm_i 5 (sa 3)) ∧ h[6]? = some (pm_i 5 (sa 4)) ∧ h[7]? = some (pm_z 5 (sa 5))
set_option maxHeartbeats 2000000 in
theorem kS_hasStackG {l : Launch} (hl : l.stackTraces = false) (d : Nat) (hd : 1 ≤ d) {h : pm_H} {a b c e f g i : Int32} (hS : h[1]? = some (pm_o 1 [.int a, .int b, .int c, .int e, .int f, .int g, .ref 2, .int i, .ref 3, .ref 4, .ref 5, .ref 6, .ref 7])) (x : Int32) : pm_Sem l d mS_hasStack [.ref 1, .int x] h (some (.int (fw x 0 (a - 1)))) h := by
  refine pm_sem hl mo_S_hasStack ⟨_, rfl, fw_b _ _ _⟩ rfl rfl (Nat.le_of_ble_eq_true rfl) (fun K G hK hret => ?_)
  refine pm_iload_n dS_hasStack_0 rfl (q := 1) rfl ?_
  refine pm_iconst (x := 0) dS_hasStack_1 (by decide) (q := 2) rfl ?_
  refine pm_aload_n dS_hasStack_2 rfl (q := 3) rfl ?_
  refine pm_get fl_S_31 dS_hasStack_3 hS rfl (q := 6) rfl ?_
  refine pm_iconst (x := 1) dS_hasStack_6 (by decide) (q := 7) rfl ?_
  refine pm_isub dS_hasStack_7 (q := 8) rfl ?_
  refine pm_cS3i hK (kB_within hl 0 _ _ _ _) mo_B_within st_B_within lk_S_53 dS_hasStack_8 (by omega) (Nat.le_of_ble_eq_true rfl) (Nat.zero_le _) (Nat.zero_le _) (q := 11) rfl ?_
  exact pm_retI hret dS_hasStack_11 rfl
set_option maxHeartbeats 2000000 in
theorem kH_boxAt {l : Launch} (hl : l.stackTraces = false) (d : Nat) {h : pm_H} {t : Nat} {si : Nat → Int32} {sa : Nat → Nat → Int32} {v : Int32} {f g u : Nat → Int32} (HA : HoldAt h t si sa v f g u) (s j : Int32) (hx : vp_in (s * 3 + j) 9) : pm_Sem l d mH_boxAt [.ref t, .int s, .int j] h (some (.int (f (s * 3 + j).toNatClampNeg))) h := by
  refine pm_sem hl mo_H_boxAt ⟨_, rfl, rfl⟩ rfl rfl (Nat.le_of_ble_eq_true rfl) (fun K G hK hret => ?_)
  obtain ⟨hT, hF, hG, hU, hS, hPl, hFr, hTo, hWt, hKd, hRo⟩ := id HA
  refine pm_aload_n dH_boxAt_0 rfl (q := 1) rfl ?_
  refine pm_get fl_H_9 dH_boxAt_1 hT rfl (q := 4) rfl ?_
  refine pm_iload_n dH_boxAt_4 rfl (q := 5) rfl ?_
  refine pm_iconst (x := 3) dH_boxAt_5 (by decide) (q := 6) rfl ?_
  refine pm_imul dH_boxAt_6 (q := 7) rfl ?_
  refine pm_iload_n dH_boxAt_7 rfl (q := 8) rfl ?_
  refine pm_iadd dH_boxAt_8 (q := 9) rfl ?_
  refine pm_iald dH_boxAt_9 hF (hx) (q := 10) rfl ?_
  exact pm_retI hret dH_boxAt_10 rfl
def fhasRoom (si g : Nat → Int32) (s : Int32) : Int32 := if fw s 0 (si 0 - 1) = 0 then 0 else if si 1 ≤ g s.toNatClampNeg then 0 else 1
theorem fhasRoom_b (si g : Nat → Int32) (s : Int32) : narrow .boolean (.int (fhasRoom si g s)) = .int (fhasRoom si g s) := by
  unfold fhasRoom; split
  · rfl
  · split <;> rfl
set_option maxHeartbeats 2000000 in
theorem kH_hasRoom {l : Launch} (hl : l.stackTraces = false) (d : Nat) (hd : 2 ≤ d) {h : pm_H} {t : Nat} {si : Nat → Int32} {sa : Nat → Nat → Int32} {v : Int32} {f g u : Nat → Int32} (HA : HoldAt h t si sa v f g u) (s : Int32) (hx : ¬ fw s 0 (si 0 - 1) = 0 → vp_in s 3) : pm_Sem l d mH_hasRoom [.ref t, .int s] h (some (.int (fhasRoom si g s))) h := by
  refine pm_sem hl mo_H_hasRoom ⟨_, rfl, fhasRoom_b _ _ _⟩ rfl rfl (Nat.le_of_ble_eq_true rfl) (fun K G hK hret => ?_)
  obtain ⟨hT, hF, hG, hU, hS, hPl, hFr, hTo, hWt, hKd, hRo⟩ := id HA
  refine pm_aload_n dH_hasRoom_0 rfl (q := 1) rfl ?_
  refine pm_get fl_H_21 dH_hasRoom_1 hT rfl (q := 4) rfl ?_
  refine pm_iload_n dH_hasRoom_4 rfl (q := 5) rfl ?_
  refine pm_cV1i hK (kS_hasStackG hl 1 (Nat.le_refl _) hS _) mo_S_hasStack im_S_hasStack se_S_hasStack lk_H_35 dH_hasRoom_5 (by omega) (Nat.le_of_ble_eq_true rfl) (Nat.zero_le _) (Nat.zero_le _) hS rfl rfl (q := 8) rfl ?_
  refine pm_if_eq (tgt := 31) dH_hasRoom_8 rfl (q := 11) rfl (fun h8 => ?_) (fun h8 => ?_)
  · refine pm_iconst (x := 0) dH_hasRoom_31 (by decide) (q := 32) rfl ?_
    exact pm_retI hret dH_hasRoom_32 (by simp_all [fhasRoom])
  · refine pm_aload_n dH_hasRoom_11 rfl (q := 12) rfl ?_
    refine pm_get fl_H_15 dH_hasRoom_12 hT rfl (q := 15) rfl ?_
    refine pm_iload_n dH_hasRoom_15 rfl (q := 16) rfl ?_
    refine pm_iald dH_hasRoom_16 hG (hx h8) (q := 17) rfl ?_
    refine pm_aload_n dH_hasRoom_17 rfl (q := 18) rfl ?_
    refine pm_get fl_H_21 dH_hasRoom_18 hT rfl (q := 21) rfl ?_
    refine pm_get fl_H_41 dH_hasRoom_21 hS rfl (q := 24) rfl ?_
    refine pm_icmp_ge (tgt := 31) dH_hasRoom_24 rfl (q := 27) rfl (fun h24 => ?_) (fun h24 => ?_)
    · refine pm_iconst (x := 0) dH_hasRoom_31 (by decide) (q := 32) rfl ?_
      exact pm_retI hret dH_hasRoom_32 (by simp_all [fhasRoom])
    · refine pm_iconst (x := 1) dH_hasRoom_27 (by decide) (q := 28) rfl ?_
      refine pm_goto (tgt := 32) dH_hasRoom_28 rfl ?_
      exact pm_retI hret dH_hasRoom_32 (by simp_all [fhasRoom])
def fab (f : Nat → Int32) : Nat → Int32
  | 0 => 0
  | j + 1 => if f j = -1 then fab f j else fab f j ||| ((1 : Int32) <<< (f j &&& 31))
set_option maxHeartbeats 2000000 in
theorem kH_aboard {l : Launch} (hl : l.stackTraces = false) (d : Nat) {h : pm_H} {t : Nat} {si : Nat → Int32} {sa : Nat → Nat → Int32} {v : Int32} {f g u : Nat → Int32} (HA : HoldAt h t si sa v f g u) : pm_Sem l d mH_aboard [.ref t] h (some (.int (fab f 9))) h := by
  refine pm_sem hl mo_H_aboard ⟨_, rfl, rfl⟩ rfl rfl (Nat.le_of_ble_eq_true rfl) (fun K G hK hret => ?_)
  obtain ⟨hT, hF, hG, hU, hS, hPl, hFr, hTo, hWt, hKd, hRo⟩ := id HA
  have hL : ∀ (m j : Nat) (o : Option Value), m + j = 9 → pm_Go mH_aboard K G 13 [some (.ref t), some (.int (fab f j)), some (.ref (t + 1)), some (.int (nI 9)), some (.int (nI j)), o] [] h 0 0 := by
    intro m
    induction m with
    | zero =>
      intro j o hj
      have hj : j = 9 := by omega
      subst hj
      refine pm_iload dH_aboard_13 rfl (q := 15) rfl ?_
      refine pm_iload_n dH_aboard_15 rfl (q := 16) rfl ?_
      refine pm_icmp_ge (tgt := 44) dH_aboard_16 rfl (q := 19) rfl (fun _ => ?_) (fun z => absurd (nI_le (Nat.le_refl _) (by omega)) z)
      refine pm_iload_n dH_aboard_44 rfl (q := 45) rfl ?_
      exact pm_retI hret dH_aboard_45 rfl
    | succ m ih =>
      intro j o hj
      have hj9 : j < 9 := by omega
      refine pm_iload dH_aboard_13 rfl (q := 15) rfl ?_
      refine pm_iload_n dH_aboard_15 rfl (q := 16) rfl ?_
      refine pm_icmp_ge (tgt := 44) dH_aboard_16 rfl (q := 19) rfl (fun z => absurd z (nI_ge hj9 (by omega))) (fun _ => ?_)
      refine pm_aload_n dH_aboard_19 rfl (q := 20) rfl ?_
      refine pm_iload dH_aboard_20 rfl (q := 22) rfl ?_
      refine pm_ialdN dH_aboard_22 hF (hj9) (Nat.le_of_ble_eq_true rfl) (q := 23) rfl ?_
      refine pm_istore dH_aboard_23 (by decide) (q := 25) rfl ?_
      refine pm_iload dH_aboard_25 rfl (q := 27) rfl ?_
      refine pm_iconst (x := -1) dH_aboard_27 (by decide) (q := 28) rfl ?_
      refine pm_icmp_eq (tgt := 38) dH_aboard_28 rfl (q := 31) rfl (fun h28 => ?_) (fun h28 => ?_)
      · refine pm_iincL dH_aboard_38 rfl (by decide) (y := nI (j + 1)) (by rw [nI_succ]; rfl) (q := 41) rfl ?_
        refine pm_goto (tgt := 13) dH_aboard_41 rfl ?_
        refine pm_loc (ls' := [some (.ref t), some (.int (fab f (j + 1))), some (.ref (t + 1)), some (.int (nI 9)), some (.int (nI (j + 1))), some (.int (f j))]) ?_ (ih (j + 1) _ (by omega))
        first
        | (rw [show fab f (j + 1) = fab f j from if_pos h28]; rfl)
        | (rw [show fab f (j + 1) = fab f j ||| ((1 : Int32) <<< (f j &&& 31)) from if_neg h28]; rfl)
      · refine pm_iload_n dH_aboard_31 rfl (q := 32) rfl ?_
        refine pm_iconst (x := 1) dH_aboard_32 (by decide) (q := 33) rfl ?_
        refine pm_iload dH_aboard_33 rfl (q := 35) rfl ?_
        refine pm_ishl dH_aboard_35 (q := 36) rfl ?_
        refine pm_ior dH_aboard_36 (q := 37) rfl ?_
        refine pm_istore_n dH_aboard_37 (by decide) (q := 38) rfl ?_
        refine pm_iincL dH_aboard_38 rfl (by decide) (y := nI (j + 1)) (by rw [nI_succ]; rfl) (q := 41) rfl ?_
        refine pm_goto (tgt := 13) dH_aboard_41 rfl ?_
        refine pm_loc (ls' := [some (.ref t), some (.int (fab f (j + 1))), some (.ref (t + 1)), some (.int (nI 9)), some (.int (nI (j + 1))), some (.int (f j))]) ?_ (ih (j + 1) _ (by omega))
        first
        | (rw [show fab f (j + 1) = fab f j from if_pos h28]; rfl)
        | (rw [show fab f (j + 1) = fab f j ||| ((1 : Int32) <<< (f j &&& 31)) from if_neg h28]; rfl)
  refine pm_iconst (x := 0) dH_aboard_0 (by decide) (q := 1) rfl ?_
  refine pm_istore_n dH_aboard_1 (by decide) (q := 2) rfl ?_
  refine pm_aload_n dH_aboard_2 rfl (q := 3) rfl ?_
  refine pm_get fl_H_9 dH_aboard_3 hT rfl (q := 6) rfl ?_
  refine pm_astore_n dH_aboard_6 (by decide) (q := 7) rfl ?_
  refine pm_aload_n dH_aboard_7 rfl (q := 8) rfl ?_
  refine pm_ilen dH_aboard_8 hF (q := 9) rfl ?_
  refine pm_istore_n dH_aboard_9 (by decide) (q := 10) rfl ?_
  refine pm_iconst (x := 0) dH_aboard_10 (by decide) (q := 11) rfl ?_
  refine pm_istore dH_aboard_11 (by decide) (q := 13) rfl ?_
  exact hL 9 0 _ (by omega)
def fisab (f : Nat → Int32) (b : Int32) : Int32 := if (fab f 9 >>> (b &&& 31)) &&& 1 = 1 then 1 else 0
theorem fisab_b (f : Nat → Int32) (b : Int32) : narrow .boolean (.int (fisab f b)) = .int (fisab f b) := by
  unfold fisab; split <;> rfl
set_option maxHeartbeats 2000000 in
theorem kH_isAboard {l : Launch} (hl : l.stackTraces = false) (d : Nat) (hd : 1 ≤ d) {h : pm_H} {t : Nat} {si : Nat → Int32} {sa : Nat → Nat → Int32} {v : Int32} {f g u : Nat → Int32} (HA : HoldAt h t si sa v f g u) (b : Int32) : pm_Sem l d mH_isAboard [.ref t, .int b] h (some (.int (fisab f b))) h := by
  refine pm_sem hl mo_H_isAboard ⟨_, rfl, fisab_b _ _⟩ rfl rfl (Nat.le_of_ble_eq_true rfl) (fun K G hK hret => ?_)
  obtain ⟨hT, hF, hG, hU, hS, hPl, hFr, hTo, hWt, hKd, hRo⟩ := id HA
  refine pm_aload_n dH_isAboard_0 rfl (q := 1) rfl ?_
  refine pm_cV0i hK (kH_aboard hl 0 HA) mo_H_aboard im_H_aboard se_H_aboard lk_H_88 dH_isAboard_1 (by omega) (Nat.le_of_ble_eq_true rfl) (Nat.zero_le _) (Nat.zero_le _) hT rfl rfl (q := 4) rfl ?_
  refine pm_iload_n dH_isAboard_4 rfl (q := 5) rfl ?_
  refine pm_ishr dH_isAboard_5 (q := 6) rfl ?_
  refine pm_iconst (x := 1) dH_isAboard_6 (by decide) (q := 7) rfl ?_
  refine pm_iand dH_isAboard_7 (q := 8) rfl ?_
  refine pm_iconst (x := 1) dH_isAboard_8 (by decide) (q := 9) rfl ?_
  refine pm_icmp_ne (tgt := 16) dH_isAboard_9 rfl (q := 12) rfl (fun h9 => ?_) (fun h9 => ?_)
  · refine pm_iconst (x := 0) dH_isAboard_16 (by decide) (q := 17) rfl ?_
    exact pm_retI hret dH_isAboard_17 (by simp_all [fisab])
  · refine pm_iconst (x := 1) dH_isAboard_12 (by decide) (q := 13) rfl ?_
    refine pm_goto (tgt := 17) dH_isAboard_13 rfl ?_
    exact pm_retI hret dH_isAboard_17 (by simp_all [fisab])
def fsl (si u : Nat → Int32) : Nat → Int32
  | 0 => 0
  | j + 1 => fsl si u j + u j * (2 * nI j + 1 - si 0)
set_option maxHeartbeats 2000000 in
theorem kH_signedList {l : Launch} (hl : l.stackTraces = false) (d : Nat) {h : pm_H} {t : Nat} {si : Nat → Int32} {sa : Nat → Nat → Int32} {v : Int32} {f g u : Nat → Int32} (HA : HoldAt h t si sa v f g u) {S : Nat} (hs : si 0 = nI S) (hS3 : S ≤ 3) : pm_Sem l d mH_signedList [.ref t] h (some (.int (fsl si u S))) h := by
  refine pm_sem hl mo_H_signedList ⟨_, rfl, rfl⟩ rfl rfl (Nat.le_of_ble_eq_true rfl) (fun K G hK hret => ?_)
  obtain ⟨hT, hF, hG, hU, hS, hPl, hFr, hTo, hWt, hKd, hRo⟩ := id HA
  have hL : ∀ (m j : Nat), m + j = S → pm_Go mH_signedList K G 4 [some (.ref t), some (.int (fsl si u j)), some (.int (nI j))] [] h 0 0 := by
    intro m
    induction m with
    | zero =>
      intro j hj
      have hj : j = S := by omega
      subst hj
      refine pm_iload_n dH_signedList_4 rfl (q := 5) rfl ?_
      refine pm_aload_n dH_signedList_5 rfl (q := 6) rfl ?_
      refine pm_get fl_H_21 dH_signedList_6 hT rfl (q := 9) rfl ?_
      refine pm_get fl_H_92 dH_signedList_9 hS rfl (q := 12) rfl ?_
      refine pm_icmp_ge (tgt := 44) dH_signedList_12 rfl (q := 15) rfl (fun _ => ?_) (fun z => absurd (by rw [hs]; exact nI_le (Nat.le_refl _) (by omega)) z)
      refine pm_iload_n dH_signedList_44 rfl (q := 45) rfl ?_
      exact pm_retI hret dH_signedList_45 rfl
    | succ m ih =>
      intro j hj
      have hjS : j < S := by omega
      refine pm_iload_n dH_signedList_4 rfl (q := 5) rfl ?_
      refine pm_aload_n dH_signedList_5 rfl (q := 6) rfl ?_
      refine pm_get fl_H_21 dH_signedList_6 hT rfl (q := 9) rfl ?_
      refine pm_get fl_H_92 dH_signedList_9 hS rfl (q := 12) rfl ?_
      refine pm_icmp_ge (tgt := 44) dH_signedList_12 rfl (q := 15) rfl (fun z => absurd z (by rw [hs]; exact nI_ge hjS (by omega))) (fun _ => ?_)
      refine pm_iload_n dH_signedList_15 rfl (q := 16) rfl ?_
      refine pm_aload_n dH_signedList_16 rfl (q := 17) rfl ?_
      refine pm_get fl_H_18 dH_signedList_17 hT rfl (q := 20) rfl ?_
      refine pm_iload_n dH_signedList_20 rfl (q := 21) rfl ?_
      refine pm_ialdN dH_signedList_21 hU (by omega) (Nat.le_of_ble_eq_true rfl) (q := 22) rfl ?_
      refine pm_iconst (x := 2) dH_signedList_22 (by decide) (q := 23) rfl ?_
      refine pm_iload_n dH_signedList_23 rfl (q := 24) rfl ?_
      refine pm_imul dH_signedList_24 (q := 25) rfl ?_
      refine pm_iconst (x := 1) dH_signedList_25 (by decide) (q := 26) rfl ?_
      refine pm_iadd dH_signedList_26 (q := 27) rfl ?_
      refine pm_aload_n dH_signedList_27 rfl (q := 28) rfl ?_
      refine pm_get fl_H_21 dH_signedList_28 hT rfl (q := 31) rfl ?_
      refine pm_get fl_H_92 dH_signedList_31 hS rfl (q := 34) rfl ?_
      refine pm_isub dH_signedList_34 (q := 35) rfl ?_
      refine pm_imul dH_signedList_35 (q := 36) rfl ?_
      refine pm_iadd dH_signedList_36 (q := 37) rfl ?_
      refine pm_istore_n dH_signedList_37 (by decide) (q := 38) rfl ?_
      refine pm_iincL dH_signedList_38 rfl (by decide) (y := nI (j + 1)) (by rw [nI_succ]; rfl) (q := 41) rfl ?_
      refine pm_goto (tgt := 4) dH_signedList_41 rfl ?_
      exact ih (j + 1) (by omega)
  refine pm_iconst (x := 0) dH_signedList_0 (by decide) (q := 1) rfl ?_
  refine pm_istore_n dH_signedList_1 (by decide) (q := 2) rfl ?_
  refine pm_iconst (x := 0) dH_signedList_2 (by decide) (q := 3) rfl ?_
  refine pm_istore_n dH_signedList_3 (by decide) (q := 4) rfl ?_
  exact hL S 0 (by omega)
