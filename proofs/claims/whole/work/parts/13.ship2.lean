/-! arrays at a counted place -/
section Count
variable {M : pm_M} {K : pm_X → Prop} {G : pm_X → State → Prop} {pc : Nat} {ls : List (Option Value)} {st : List Value} {h : pm_H} {k n : Nat}
theorem pm_ialdN {a n0 j : Nat} {f : Nat → Int32} (hd : decode M.2.1 pc = .ok (.iaload, 1)) (hh : h[a]? = some (pm_i n0 f)) (hj : j < n0) (hn : n0 ≤ 1000000) {q : Nat} (hq : pc + 1 = q) (kk : pm_Go M K G q ls (.int (f j) :: st) h k n) : pm_Go M K G pc ls (.int (nI j) :: .ref a :: st) h k n := by
  refine pm_iald hd hh (vp_in_nI hj (by omega)) hq ?_
  rw [nI_clamp (by omega)]; exact kk
theorem pm_zaldN {a n0 j : Nat} {f : Nat → Int32} (hd : decode M.2.1 pc = .ok (.baload, 1)) (hh : h[a]? = some (pm_z n0 f)) (hj : j < n0) (hn : n0 ≤ 1000000) {q : Nat} (hq : pc + 1 = q) (kk : pm_Go M K G q ls (.int (f j) :: st) h k n) : pm_Go M K G pc ls (.int (nI j) :: .ref a :: st) h k n := by
  refine pm_zald hd hh (vp_in_nI hj (by omega)) hq ?_
  rw [nI_clamp (by omega)]; exact kk
theorem pm_iastN {a n0 j : Nat} {f : Nat → Int32} {x : Int32} (hd : decode M.2.1 pc = .ok (.iastore, 1)) (hh : h[a]? = some (pm_i n0 f)) (hj : j < n0) (hn : n0 ≤ 1000000) {q : Nat} (hq : pc + 1 = q) (kk : pm_Go M K G q ls st (h.set a (pm_i n0 (upd f j x))) k n) : pm_Go M K G pc ls (.int x :: .int (nI j) :: .ref a :: st) h k n := by
  refine pm_iast hd hh (vp_in_nI hj (by omega)) hq ?_
  rw [nI_clamp (by omega)]; exact kk
theorem pm_zastN {a n0 j : Nat} {f : Nat → Int32} {x : Int32} (hd : decode M.2.1 pc = .ok (.bastore, 1)) (hh : h[a]? = some (pm_z n0 f)) (hj : j < n0) (hn : n0 ≤ 1000000) {q : Nat} (hq : pc + 1 = q) (kk : pm_Go M K G q ls st (h.set a (pm_z n0 (upd f j (vp_nar .boolean x)))) k n) : pm_Go M K G pc ls (.int x :: .int (nI j) :: .ref a :: st) h k n := by
  refine pm_zast hd hh (vp_in_nI hj (by omega)) hq ?_
  rw [nI_clamp (by omega)]; exact kk
end Count
def fhasBox (si : Nat → Int32) (sa : Nat → Nat → Int32) (x : Int32) : Int32 := if fw x 0 (si 7 - 1) = 0 then 0 else if sa 5 x.toNatClampNeg = 0 then 1 else 0
theorem fhasBox_b (si : Nat → Int32) (sa : Nat → Nat → Int32) (x : Int32) : narrow .boolean (.int (fhasBox si sa x)) = .int (fhasBox si sa x) := by
  unfold fhasBox; split
  · rfl
  · split <;> rfl
set_option maxHeartbeats 2000000 in
theorem kS_hasBox {l : Launch} (hl : l.stackTraces = false) (d : Nat) (hd : 1 ≤ d) {pd : Int32} {si : Nat → Int32} {sa : Nat → Nat → Int32} {hv : Nat → Int32} {ha : Nat → Nat → Nat → Int32} {sl : Int32} {sc : Nat → Nat → Int32} {pl : Int32} {pa : Nat → Nat → Int32} {tl : pm_H} (x : Int32) (hx : ¬ fw x 0 (si 7 - 1) = 0 → vp_in x 5) : pm_Sem l d mS_hasBox [.ref 1, .int x] (cH pd si sa hv ha sl sc pl pa tl) (some (.int (fhasBox si sa x))) (cH pd si sa hv ha sl sc pl pa tl) := by
  refine pm_sem hl mo_S_hasBox ⟨_, rfl, fhasBox_b _ _ _⟩ rfl rfl (Nat.le_of_ble_eq_true rfl) (fun K G hK hret => ?_)
  refine pm_iload_n dS_hasBox_0 rfl (q := 1) rfl ?_
  refine pm_iconst (x := 0) dS_hasBox_1 (by decide) (q := 2) rfl ?_
  refine pm_aload_n dS_hasBox_2 rfl (q := 3) rfl ?_
  refine pm_get fl_S_50 dS_hasBox_3 rfl rfl (q := 6) rfl ?_
  refine pm_iconst (x := 1) dS_hasBox_6 (by decide) (q := 7) rfl ?_
  refine pm_isub dS_hasBox_7 (q := 8) rfl ?_
  refine pm_cS3i hK (kB_within hl 0 _ _ _ _) mo_B_within st_B_within lk_S_53 dS_hasBox_8 (by omega) (Nat.le_of_ble_eq_true rfl) (Nat.zero_le _) (Nat.zero_le _) (q := 11) rfl ?_
  refine pm_if_eq (tgt := 27) dS_hasBox_11 rfl (q := 14) rfl (fun h11 => ?_) (fun h11 => ?_)
  · refine pm_iconst (x := 0) dS_hasBox_27 (by decide) (q := 28) rfl ?_
    exact pm_retI hret dS_hasBox_28 (by simp_all [fhasBox])
  · refine pm_aload_n dS_hasBox_14 rfl (q := 15) rfl ?_
    refine pm_get fl_S_28 dS_hasBox_15 rfl rfl (q := 18) rfl ?_
    refine pm_iload_n dS_hasBox_18 rfl (q := 19) rfl ?_
    refine pm_zald dS_hasBox_19 rfl (hx h11) (q := 20) rfl ?_
    refine pm_if_ne (tgt := 27) dS_hasBox_20 rfl (q := 23) rfl (fun h20 => ?_) (fun h20 => ?_)
    · refine pm_iconst (x := 0) dS_hasBox_27 (by decide) (q := 28) rfl ?_
      exact pm_retI hret dS_hasBox_28 (by simp_all [fhasBox])
    · refine pm_iconst (x := 1) dS_hasBox_23 (by decide) (q := 24) rfl ?_
      refine pm_goto (tgt := 28) dS_hasBox_24 rfl ?_
      exact pm_retI hret dS_hasBox_28 (by simp_all [fhasBox])
def fdue (sa : Nat → Nat → Int32) (q : Int32) : Nat → Int32
  | 0 => 0
  | j + 1 => if sa 5 j = 0 ∧ sa 1 j ≤ q ∧ q < sa 2 j then fdue sa q j ||| ((1 : Int32) <<< (nI j &&& 31)) else fdue sa q j
set_option maxHeartbeats 2000000 in
theorem kS_dueAt {l : Launch} (hl : l.stackTraces = false) (d : Nat) {pd : Int32} {si : Nat → Int32} {sa : Nat → Nat → Int32} {hv : Nat → Int32} {ha : Nat → Nat → Nat → Int32} {sl : Int32} {sc : Nat → Nat → Int32} {pl : Int32} {pa : Nat → Nat → Int32} {tl : pm_H} (x : Int32) {B : Nat} (hb : si 7 = nI B) (hB : B ≤ 5) : pm_Sem l d mS_dueAt [.ref 1, .int x] (cH pd si sa hv ha sl sc pl pa tl) (some (.int (fdue sa x B))) (cH pd si sa hv ha sl sc pl pa tl) := by
  refine pm_sem hl mo_S_dueAt ⟨_, rfl, rfl⟩ rfl rfl (Nat.le_of_ble_eq_true rfl) (fun K G hK hret => ?_)
  have hL : ∀ (m j : Nat), m + j = B → pm_Go mS_dueAt K G 4 [some (.ref 1), some (.int x), some (.int (fdue sa x j)), some (.int (nI j))] [] (cH pd si sa hv ha sl sc pl pa tl) 0 0 := by
    intro m
    induction m with
    | zero =>
      intro j hj
      have hj : j = B := by omega
      subst hj
      refine pm_iload_n dS_dueAt_4 rfl (q := 5) rfl ?_
      refine pm_aload_n dS_dueAt_5 rfl (q := 6) rfl ?_
      refine pm_get fl_S_50 dS_dueAt_6 rfl rfl (q := 9) rfl ?_
      refine pm_icmp_ge (tgt := 53) dS_dueAt_9 rfl (q := 12) rfl (fun _ => ?_) (fun z => absurd (by rw [hb]; exact nI_le (Nat.le_refl _) (by omega)) z)
      refine pm_iload_n dS_dueAt_53 rfl (q := 54) rfl ?_
      exact pm_retI hret dS_dueAt_54 rfl
    | succ m ih =>
      intro j hj
      have hjB : j < B := by omega
      refine pm_iload_n dS_dueAt_4 rfl (q := 5) rfl ?_
      refine pm_aload_n dS_dueAt_5 rfl (q := 6) rfl ?_
      refine pm_get fl_S_50 dS_dueAt_6 rfl rfl (q := 9) rfl ?_
      refine pm_icmp_ge (tgt := 53) dS_dueAt_9 rfl (q := 12) rfl (fun z => absurd z (by rw [hb]; exact nI_ge hjB (by omega))) (fun _ => ?_)
      refine pm_aload_n dS_dueAt_12 rfl (q := 13) rfl ?_
      refine pm_get fl_S_28 dS_dueAt_13 rfl rfl (q := 16) rfl ?_
      refine pm_iload_n dS_dueAt_16 rfl (q := 17) rfl ?_
      refine pm_zaldN dS_dueAt_17 rfl (by omega) (Nat.le_of_ble_eq_true rfl) (q := 18) rfl ?_
      refine pm_if_ne (tgt := 47) dS_dueAt_18 rfl (q := 21) rfl (fun h18 => ?_) (fun h18 => ?_)
      · refine pm_iincL dS_dueAt_47 rfl (by decide) (y := nI (j + 1)) (by rw [nI_succ]; rfl) (q := 50) rfl ?_
        refine pm_goto (tgt := 4) dS_dueAt_50 rfl ?_
        refine pm_loc (ls' := [some (.ref 1), some (.int x), some (.int (fdue sa x (j + 1))), some (.int (nI (j + 1)))]) ?_ (ih (j + 1) (by omega))
        first
        | (rw [show fdue sa x (j + 1) = fdue sa x j from if_neg (fun z => h18 z.1)]; rfl)
        | (rw [show fdue sa x (j + 1) = fdue sa x j from if_neg (fun z => Int32.not_lt.mpr z.2.1 h28)]; rfl)
        | (rw [show fdue sa x (j + 1) = fdue sa x j from if_neg (fun z => Int32.not_lt.mpr h38 z.2.2)]; rfl)
        | (rw [show fdue sa x (j + 1) = fdue sa x j ||| ((1 : Int32) <<< (nI j &&& 31)) from if_pos ⟨h18, Int32.not_lt.mp h28, Int32.not_le.mp h38⟩]; rfl)
      · refine pm_aload_n dS_dueAt_21 rfl (q := 22) rfl ?_
        refine pm_get fl_S_15 dS_dueAt_22 rfl rfl (q := 25) rfl ?_
        refine pm_iload_n dS_dueAt_25 rfl (q := 26) rfl ?_
        refine pm_ialdN dS_dueAt_26 rfl (by omega) (Nat.le_of_ble_eq_true rfl) (q := 27) rfl ?_
        refine pm_iload_n dS_dueAt_27 rfl (q := 28) rfl ?_
        refine pm_icmp_gt (tgt := 47) dS_dueAt_28 rfl (q := 31) rfl (fun h28 => ?_) (fun h28 => ?_)
        · refine pm_iincL dS_dueAt_47 rfl (by decide) (y := nI (j + 1)) (by rw [nI_succ]; rfl) (q := 50) rfl ?_
          refine pm_goto (tgt := 4) dS_dueAt_50 rfl ?_
          refine pm_loc (ls' := [some (.ref 1), some (.int x), some (.int (fdue sa x (j + 1))), some (.int (nI (j + 1)))]) ?_ (ih (j + 1) (by omega))
          first
          | (rw [show fdue sa x (j + 1) = fdue sa x j from if_neg (fun z => h18 z.1)]; rfl)
          | (rw [show fdue sa x (j + 1) = fdue sa x j from if_neg (fun z => Int32.not_lt.mpr z.2.1 h28)]; rfl)
          | (rw [show fdue sa x (j + 1) = fdue sa x j from if_neg (fun z => Int32.not_lt.mpr h38 z.2.2)]; rfl)
          | (rw [show fdue sa x (j + 1) = fdue sa x j ||| ((1 : Int32) <<< (nI j &&& 31)) from if_pos ⟨h18, Int32.not_lt.mp h28, Int32.not_le.mp h38⟩]; rfl)
        · refine pm_iload_n dS_dueAt_31 rfl (q := 32) rfl ?_
          refine pm_aload_n dS_dueAt_32 rfl (q := 33) rfl ?_
          refine pm_get fl_S_19 dS_dueAt_33 rfl rfl (q := 36) rfl ?_
          refine pm_iload_n dS_dueAt_36 rfl (q := 37) rfl ?_
          refine pm_ialdN dS_dueAt_37 rfl (by omega) (Nat.le_of_ble_eq_true rfl) (q := 38) rfl ?_
          refine pm_icmp_ge (tgt := 47) dS_dueAt_38 rfl (q := 41) rfl (fun h38 => ?_) (fun h38 => ?_)
          · refine pm_iincL dS_dueAt_47 rfl (by decide) (y := nI (j + 1)) (by rw [nI_succ]; rfl) (q := 50) rfl ?_
            refine pm_goto (tgt := 4) dS_dueAt_50 rfl ?_
            refine pm_loc (ls' := [some (.ref 1), some (.int x), some (.int (fdue sa x (j + 1))), some (.int (nI (j + 1)))]) ?_ (ih (j + 1) (by omega))
            first
            | (rw [show fdue sa x (j + 1) = fdue sa x j from if_neg (fun z => h18 z.1)]; rfl)
            | (rw [show fdue sa x (j + 1) = fdue sa x j from if_neg (fun z => Int32.not_lt.mpr z.2.1 h28)]; rfl)
            | (rw [show fdue sa x (j + 1) = fdue sa x j from if_neg (fun z => Int32.not_lt.mpr h38 z.2.2)]; rfl)
            | (rw [show fdue sa x (j + 1) = fdue sa x j ||| ((1 : Int32) <<< (nI j &&& 31)) from if_pos ⟨h18, Int32.not_lt.mp h28, Int32.not_le.mp h38⟩]; rfl)
          · refine pm_iload_n dS_dueAt_41 rfl (q := 42) rfl ?_
            refine pm_iconst (x := 1) dS_dueAt_42 (by decide) (q := 43) rfl ?_
            refine pm_iload_n dS_dueAt_43 rfl (q := 44) rfl ?_
            refine pm_ishl dS_dueAt_44 (q := 45) rfl ?_
            refine pm_ior dS_dueAt_45 (q := 46) rfl ?_
            refine pm_istore_n dS_dueAt_46 (by decide) (q := 47) rfl ?_
            refine pm_iincL dS_dueAt_47 rfl (by decide) (y := nI (j + 1)) (by rw [nI_succ]; rfl) (q := 50) rfl ?_
            refine pm_goto (tgt := 4) dS_dueAt_50 rfl ?_
            refine pm_loc (ls' := [some (.ref 1), some (.int x), some (.int (fdue sa x (j + 1))), some (.int (nI (j + 1)))]) ?_ (ih (j + 1) (by omega))
            first
            | (rw [show fdue sa x (j + 1) = fdue sa x j from if_neg (fun z => h18 z.1)]; rfl)
            | (rw [show fdue sa x (j + 1) = fdue sa x j from if_neg (fun z => Int32.not_lt.mpr z.2.1 h28)]; rfl)
            | (rw [show fdue sa x (j + 1) = fdue sa x j from if_neg (fun z => Int32.not_lt.mpr h38 z.2.2)]; rfl)
            | (rw [show fdue sa x (j + 1) = fdue sa x j ||| ((1 : Int32) <<< (nI j &&& 31)) from if_pos ⟨h18, Int32.not_lt.mp h28, Int32.not_le.mp h38⟩]; rfl)
  refine pm_iconst (x := 0) dS_dueAt_0 (by decide) (q := 1) rfl ?_
  refine pm_istore_n dS_dueAt_1 (by decide) (q := 2) rfl ?_
  refine pm_iconst (x := 0) dS_dueAt_2 (by decide) (q := 3) rfl ?_
  refine pm_istore_n dS_dueAt_3 (by decide) (q := 4) rfl ?_
  exact hL B 0 (by omega)
set_option maxHeartbeats 2000000 in
theorem kS_refit {l : Launch} (hl : l.stackTraces = false) (d : Nat) {pd : Int32} {si : Nat → Int32} {sa : Nat → Nat → Int32} {hv : Nat → Int32} {ha : Nat → Nat → Nat → Int32} {sl : Int32} {sc : Nat → Nat → Int32} {pl : Int32} {pa : Nat → Nat → Int32} {tl : pm_H} (a b c e f g : Int32) : pm_Sem l d mS_refit [.ref 1, .int a, .int b, .int c, .int e, .int f, .int g] (cH pd si sa hv ha sl sc pl pa tl) none (cH pd (fun j => if j = 0 then a else if j = 1 then b else if j = 2 then c else if j = 3 then e else if j = 4 then f else if j = 5 then g else if j = 7 then 0 else si j) (up1 sa 0 (upd (upd (upd (sa 0) 0 0) 1 0) 2 0)) hv ha sl sc pl pa tl) := by
  refine pm_sem hl mo_S_refit rfl rfl rfl (Nat.le_of_ble_eq_true rfl) (fun K G hK hret => ?_)
  refine pm_aload_n dS_refit_0 rfl (q := 1) rfl ?_
  refine pm_iload_n dS_refit_1 rfl (q := 2) rfl ?_
  refine pm_put fp_S_31 dS_refit_2 rfl (Nat.le_of_ble_eq_true rfl) (fun _ => rfl) (fun _ => rfl) (q := 5) rfl ?_
  refine pm_aload_n dS_refit_5 rfl (q := 6) rfl ?_
  refine pm_iload_n dS_refit_6 rfl (q := 7) rfl ?_
  refine pm_put fp_S_35 dS_refit_7 rfl (Nat.le_of_ble_eq_true rfl) (fun _ => rfl) (fun _ => rfl) (q := 10) rfl ?_
  refine pm_aload_n dS_refit_10 rfl (q := 11) rfl ?_
  refine pm_iload_n dS_refit_11 rfl (q := 12) rfl ?_
  refine pm_put fp_S_38 dS_refit_12 rfl (Nat.le_of_ble_eq_true rfl) (fun _ => rfl) (fun _ => rfl) (q := 15) rfl ?_
  refine pm_aload_n dS_refit_15 rfl (q := 16) rfl ?_
  refine pm_iload dS_refit_16 rfl (q := 18) rfl ?_
  refine pm_put fp_S_41 dS_refit_18 rfl (Nat.le_of_ble_eq_true rfl) (fun _ => rfl) (fun _ => rfl) (q := 21) rfl ?_
  refine pm_aload_n dS_refit_21 rfl (q := 22) rfl ?_
  refine pm_iload dS_refit_22 rfl (q := 24) rfl ?_
  refine pm_put fp_S_44 dS_refit_24 rfl (Nat.le_of_ble_eq_true rfl) (fun _ => rfl) (fun _ => rfl) (q := 27) rfl ?_
  refine pm_aload_n dS_refit_27 rfl (q := 28) rfl ?_
  refine pm_iload dS_refit_28 rfl (q := 30) rfl ?_
  refine pm_put fp_S_47 dS_refit_30 rfl (Nat.le_of_ble_eq_true rfl) (fun _ => rfl) (fun _ => rfl) (q := 33) rfl ?_
  refine pm_iconst (x := 0) dS_refit_33 (by decide) (q := 34) rfl ?_
  refine pm_istore dS_refit_34 (by decide) (q := 36) rfl ?_
  refine pm_iload dS_refit_36 rfl (q := 38) rfl ?_
  refine pm_iconst (x := 3) dS_refit_38 (by decide) (q := 39) rfl ?_
  refine pm_icmp_ge (tgt := 56) dS_refit_39 rfl (q := 42) rfl (fun h => absurd h (by decide)) (fun _ => ?_)
  refine pm_aload_n dS_refit_42 rfl (q := 43) rfl ?_
  refine pm_get fl_S_9 dS_refit_43 rfl rfl (q := 46) rfl ?_
  refine pm_iload dS_refit_46 rfl (q := 48) rfl ?_
  refine pm_iconst (x := 0) dS_refit_48 (by decide) (q := 49) rfl ?_
  refine pm_zast dS_refit_49 rfl (by unfold vp_in; decide) (q := 50) rfl ?_
  refine pm_iincL dS_refit_50 rfl (by decide) (y := 1) (by decide) (q := 53) rfl ?_
  refine pm_goto (tgt := 36) dS_refit_53 rfl ?_
  refine pm_iload dS_refit_36 rfl (q := 38) rfl ?_
  refine pm_iconst (x := 3) dS_refit_38 (by decide) (q := 39) rfl ?_
  refine pm_icmp_ge (tgt := 56) dS_refit_39 rfl (q := 42) rfl (fun h => absurd h (by decide)) (fun _ => ?_)
  refine pm_aload_n dS_refit_42 rfl (q := 43) rfl ?_
  refine pm_get fl_S_9 dS_refit_43 rfl rfl (q := 46) rfl ?_
  refine pm_iload dS_refit_46 rfl (q := 48) rfl ?_
  refine pm_iconst (x := 0) dS_refit_48 (by decide) (q := 49) rfl ?_
  refine pm_zast dS_refit_49 rfl (by unfold vp_in; decide) (q := 50) rfl ?_
  refine pm_iincL dS_refit_50 rfl (by decide) (y := 2) (by decide) (q := 53) rfl ?_
  refine pm_goto (tgt := 36) dS_refit_53 rfl ?_
  refine pm_iload dS_refit_36 rfl (q := 38) rfl ?_
  refine pm_iconst (x := 3) dS_refit_38 (by decide) (q := 39) rfl ?_
  refine pm_icmp_ge (tgt := 56) dS_refit_39 rfl (q := 42) rfl (fun h => absurd h (by decide)) (fun _ => ?_)
  refine pm_aload_n dS_refit_42 rfl (q := 43) rfl ?_
  refine pm_get fl_S_9 dS_refit_43 rfl rfl (q := 46) rfl ?_
  refine pm_iload dS_refit_46 rfl (q := 48) rfl ?_
  refine pm_iconst (x := 0) dS_refit_48 (by decide) (q := 49) rfl ?_
  refine pm_zast dS_refit_49 rfl (by unfold vp_in; decide) (q := 50) rfl ?_
  refine pm_iincL dS_refit_50 rfl (by decide) (y := 3) (by decide) (q := 53) rfl ?_
  refine pm_goto (tgt := 36) dS_refit_53 rfl ?_
  refine pm_iload dS_refit_36 rfl (q := 38) rfl ?_
  refine pm_iconst (x := 3) dS_refit_38 (by decide) (q := 39) rfl ?_
  refine pm_icmp_ge (tgt := 56) dS_refit_39 rfl (q := 42) rfl (fun _ => ?_) (fun h => absurd h (by decide))
  refine pm_aload_n dS_refit_56 rfl (q := 57) rfl ?_
  refine pm_iconst (x := 0) dS_refit_57 (by decide) (q := 58) rfl ?_
  refine pm_put fp_S_50 dS_refit_58 rfl (Nat.le_of_ble_eq_true rfl) (fun _ => rfl) (fun _ => rfl) (q := 61) rfl ?_
  exact pm_retV hret dS_refit_61 rfl
set_option maxHeartbeats 2000000 in
theorem kS_book {l : Launch} (hl : l.stackTraces = false) (d : Nat) {pd : Int32} {si : Nat → Int32} {sa : Nat → Nat → Int32} {hv : Nat → Int32} {ha : Nat → Nat → Nat → Int32} {sl : Int32} {sc : Nat → Nat → Int32} {pl : Int32} {pa : Nat → Nat → Int32} {tl : pm_H} (f t w k : Int32) (hx : vp_in (si 7) 5) : pm_Sem l d mS_book [.ref 1, .int f, .int t, .int w, .int k] (cH pd si sa hv ha sl sc pl pa tl) (some (.int (si 7))) (cH pd (up1 si 7 (si 7 + 1)) (fun j => if j = 1 then upd (sa 1) (si 7).toNatClampNeg f else if j = 2 then upd (sa 2) (si 7).toNatClampNeg t else if j = 3 then upd (sa 3) (si 7).toNatClampNeg w else if j = 4 then upd (sa 4) (si 7).toNatClampNeg k else if j = 5 then upd (sa 5) (si 7).toNatClampNeg 0 else sa j) hv ha sl sc pl pa tl) := by
  refine pm_sem hl mo_S_book ⟨_, rfl, rfl⟩ rfl rfl (Nat.le_of_ble_eq_true rfl) (fun K G hK hret => ?_)
  refine pm_aload_n dS_book_0 rfl (q := 1) rfl ?_
  refine pm_get fl_S_50 dS_book_1 rfl rfl (q := 4) rfl ?_
  refine pm_istore dS_book_4 (by decide) (q := 6) rfl ?_
  refine pm_aload_n dS_book_6 rfl (q := 7) rfl ?_
  refine pm_get fl_S_15 dS_book_7 rfl rfl (q := 10) rfl ?_
  refine pm_iload dS_book_10 rfl (q := 12) rfl ?_
  refine pm_iload_n dS_book_12 rfl (q := 13) rfl ?_
  refine pm_iast dS_book_13 rfl (hx) (q := 14) rfl ?_
  refine pm_aload_n dS_book_14 rfl (q := 15) rfl ?_
  refine pm_get fl_S_19 dS_book_15 rfl rfl (q := 18) rfl ?_
  refine pm_iload dS_book_18 rfl (q := 20) rfl ?_
  refine pm_iload_n dS_book_20 rfl (q := 21) rfl ?_
  refine pm_iast dS_book_21 rfl (hx) (q := 22) rfl ?_
  refine pm_aload_n dS_book_22 rfl (q := 23) rfl ?_
  refine pm_get fl_S_22 dS_book_23 rfl rfl (q := 26) rfl ?_
  refine pm_iload dS_book_26 rfl (q := 28) rfl ?_
  refine pm_iload_n dS_book_28 rfl (q := 29) rfl ?_
  refine pm_iast dS_book_29 rfl (hx) (q := 30) rfl ?_
  refine pm_aload_n dS_book_30 rfl (q := 31) rfl ?_
  refine pm_get fl_S_25 dS_book_31 rfl rfl (q := 34) rfl ?_
  refine pm_iload dS_book_34 rfl (q := 36) rfl ?_
  refine pm_iload dS_book_36 rfl (q := 38) rfl ?_
  refine pm_iast dS_book_38 rfl (hx) (q := 39) rfl ?_
  refine pm_aload_n dS_book_39 rfl (q := 40) rfl ?_
  refine pm_get fl_S_28 dS_book_40 rfl rfl (q := 43) rfl ?_
  refine pm_iload dS_book_43 rfl (q := 45) rfl ?_
  refine pm_iconst (x := 0) dS_book_45 (by decide) (q := 46) rfl ?_
  refine pm_zast dS_book_46 rfl (hx) (q := 47) rfl ?_
  refine pm_aload_n dS_book_47 rfl (q := 48) rfl ?_
  refine pm_dup dS_book_48 rfl (q := 49) rfl ?_
  refine pm_get fl_S_50 dS_book_49 rfl rfl (q := 52) rfl ?_
  refine pm_iconst (x := 1) dS_book_52 (by decide) (q := 53) rfl ?_
  refine pm_iadd dS_book_53 (q := 54) rfl ?_
  refine pm_put fp_S_50 dS_book_54 rfl (Nat.le_of_ble_eq_true rfl) (fun _ => rfl) (fun _ => rfl) (q := 57) rfl ?_
  refine pm_iload dS_book_57 rfl (q := 59) rfl ?_
  exact pm_retI hret dS_book_59 rfl
