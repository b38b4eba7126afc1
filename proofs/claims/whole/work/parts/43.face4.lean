/-! the class: replay -/
theorem up1_up1 {α : Type} (f : Nat → α) (k : Nat) (v w : α) : up1 (up1 f k v) k w = up1 f k w := by
  funext j
  unfold up1
  by_cases h : j = k
  · rw [if_pos h, if_pos h]
  · rw [if_neg h, if_neg h, if_neg h]
/-- the class's script holds these moves, and so many -/
def scK (S : Nat) (sl : Int32) (sc : Nat → Nat → Int32) (rs : pR) (N : Nat) : Prop :=
  sl = nI N ∧ N ≤ 30 ∧ ∀ i, i < N → rC sc S i (rs i).1 (rs i).2.2.1 (rs i).2.2.2 ∧ sc 1 i = nI (rs i).2.1 ∧ (rs i).2.1 < 4
theorem rC_s {sc : Nat → Nat → Int32} {S i b : Nat} {fr : Option Nat} {to : Nat} (hS : S ≤ 3) (h : rC sc S i b fr to) : ∀ s, fr = some s → s < 3 := by
  intro s e
  subst e
  exact Nat.lt_of_lt_of_le h.2.2.2.2 hS
set_option maxHeartbeats 4000000 in
theorem kB_replay_ok {l : Launch} (hl : l.stackTraces = false) (d : Nat) (hd : 5 ≤ d) {pd : Int32} {si : Nat → Int32} {sa : Nat → Nat → Int32} {hv : Nat → Int32} {ha : Nat → Nat → Nat → Int32} {sl : Int32} {sc : Nat → Nat → Int32} {pl : Int32} {pa : Nat → Nat → Int32} {tl : pm_H} {S T : Nat} (hS : si 0 = nI S) (hS1 : 1 ≤ S) (hS3 : S ≤ 3) (hT : si 1 = nI T) (hT3 : T ≤ 3) {rs : pR} {N : Nat} (hsc : scK S sl sc rs N) (n : Nat) (hn : n ≤ N) : pm_Sem l d mB_replay [.ref 0, .int (nI n)] (cH pd si sa hv ha sl sc pl pa tl) (some (.int (nI (aRun (aStep S T (si 3) (sa 3) rs) n 0 pE).1))) (cH pd si sa (up1 hv 0 (pV (sa 3) (aRun (aStep S T (si 3) (sa 3) rs) n 0 pE).2)) (up1 ha 0 (cA (sa 3) (aRun (aStep S T (si 3) (sa 3) rs) n 0 pE).2)) sl sc pl pa tl) := by
  refine pm_sem hl mo_B_replay ⟨_, rfl, rfl⟩ rfl rfl (Nat.le_of_ble_eq_true rfl) (fun K G hK hret => ?_)
  obtain ⟨hN, hN3, hrs⟩ := id hsc
  have k0 : ¬ fw (nI n) 0 sl = 0 := by
    rw [hN]
    exact fw_in (nI_z n (by omega)) (nI_le hn (by omega))
  have hL : ∀ (m j : Nat) (L : pL), m + j = n → pOk L T → aRun (aStep S T (si 3) (sa 3) rs) m j L = (aRun (aStep S T (si 3) (sa 3) rs) n 0 pE) → pm_Go mB_replay K G 24 [some (.ref 0), some (.int (nI n)), some (.int (nI j))] [] (cH pd si sa (up1 hv 0 (pV (sa 3) L)) (up1 ha 0 (cA (sa 3) L)) sl sc pl pa tl) 0 0 := by
    intro m
    induction m with
    | zero =>
      intro j L hj hok hr
      have hj : j = n := by omega
      subst hj
      refine pm_iload_n dB_replay_24 rfl (q := 25) rfl ?_
      refine pm_iload_n dB_replay_25 rfl (q := 26) rfl ?_
      refine pm_icmp_ge (tgt := 50) dB_replay_26 rfl (q := 29) rfl (fun _ => ?_) (fun z => absurd (nI_le (Nat.le_refl _) (by omega)) z)
      rw [← hr] at hret
      refine pm_iload_n dB_replay_50 rfl (q := 51) rfl ?_
      exact pm_retI hret dB_replay_51 rfl
    | succ m ih =>
      intro j L hj hok hr
      have hjn : j < n := by omega
      have hrj := (hrs j (by omega)).1
      cases hA : (aStep S T (si 3) (sa 3) rs) j L with
      | none =>
        have hr9 : (aRun (aStep S T (si 3) (sa 3) rs) n 0 pE) = (j, L) := by
          rw [← hr, aRun, hA]
        rw [hr9] at hret
        refine pm_iload_n dB_replay_24 rfl (q := 25) rfl ?_
        refine pm_iload_n dB_replay_25 rfl (q := 26) rfl ?_
        refine pm_icmp_ge (tgt := 50) dB_replay_26 rfl (q := 29) rfl (fun z => absurd z (nI_ge hjn (by omega))) (fun _ => ?_)
        refine pm_aload_n dB_replay_29 rfl (q := 30) rfl ?_
        refine pm_get fl_B_25 dB_replay_30 rfl rfl (q := 33) rfl ?_
        refine pm_aload_n dB_replay_33 rfl (q := 34) rfl ?_
        refine pm_get fl_B_35 dB_replay_34 rfl rfl (q := 37) rfl ?_
        refine pm_iload_n dB_replay_37 rfl (q := 38) rfl ?_
        refine pm_cV2i hK (kH_does0_none hl 4 (Nat.le_refl _) (L := L) hS hS1 hS3 hT hT3 hok rfl rfl j (by omega) hrj hA) mo_H_does im_H_does se_H_does lk_B_130 dB_replay_38 (by omega) (Nat.le_of_ble_eq_true rfl) (Nat.zero_le _) (Nat.zero_le _) rfl rfl rfl (q := 41) rfl ?_
        refine pm_if_eq (tgt := 50) dB_replay_41 rfl (q := 44) rfl (fun _ => ?_) (fun z => absurd rfl z)
        refine pm_iload_n dB_replay_50 rfl (q := 51) rfl ?_
        exact pm_retI hret dB_replay_51 rfl
      | some L' =>
        have hr9 : aRun (aStep S T (si 3) (sa 3) rs) m (j + 1) L' = (aRun (aStep S T (si 3) (sa 3) rs) n 0 pE) := by
          rw [← hr, aRun, hA]
        have hok' : pOk L' T := aAct_ok hok hS3 hrj.2.1 (rC_s hS3 hrj) hA
        refine pm_iload_n dB_replay_24 rfl (q := 25) rfl ?_
        refine pm_iload_n dB_replay_25 rfl (q := 26) rfl ?_
        refine pm_icmp_ge (tgt := 50) dB_replay_26 rfl (q := 29) rfl (fun z => absurd z (nI_ge hjn (by omega))) (fun _ => ?_)
        refine pm_aload_n dB_replay_29 rfl (q := 30) rfl ?_
        refine pm_get fl_B_25 dB_replay_30 rfl rfl (q := 33) rfl ?_
        refine pm_aload_n dB_replay_33 rfl (q := 34) rfl ?_
        refine pm_get fl_B_35 dB_replay_34 rfl rfl (q := 37) rfl ?_
        refine pm_iload_n dB_replay_37 rfl (q := 38) rfl ?_
        refine pm_cV2i hK (kH_does0_some hl 4 (Nat.le_refl _) (L := L) hS hS1 hS3 hT hT3 hok rfl rfl j (by omega) hrj hA) mo_H_does im_H_does se_H_does lk_B_130 dB_replay_38 (by omega) (Nat.le_of_ble_eq_true rfl) (Nat.zero_le _) (Nat.zero_le _) rfl rfl rfl (q := 41) rfl ?_
        refine pm_if_eq (tgt := 50) dB_replay_41 rfl (q := 44) rfl (fun z => absurd z (by decide)) (fun _ => ?_)
        refine pm_iincL dB_replay_44 rfl (by decide) (y := nI (j + 1)) (by rw [nI_succ]; rfl) (q := 47) rfl ?_
        refine pm_goto (tgt := 24) dB_replay_47 rfl ?_
        refine pm_heap (g := (cH pd si sa (up1 hv 0 (pV (sa 3) L')) (up1 ha 0 (cA (sa 3) L')) sl sc pl pa tl)) (by rw [up1_up1, up1_up1]) ?_
        exact ih (j + 1) L' (by omega) hok' hr9
  refine pm_iload_n dB_replay_0 rfl (q := 1) rfl ?_
  refine pm_iconst (x := 0) dB_replay_1 (by decide) (q := 2) rfl ?_
  refine pm_aload_n dB_replay_2 rfl (q := 3) rfl ?_
  refine pm_get fl_B_35 dB_replay_3 rfl rfl (q := 6) rfl ?_
  refine pm_get fl_B_101 dB_replay_6 rfl rfl (q := 9) rfl ?_
  refine pm_cS3i hK (kB_within hl 0 _ _ _ _) mo_B_within st_B_within lk_B_46 dB_replay_9 (by omega) (Nat.le_of_ble_eq_true rfl) (Nat.zero_le _) (Nat.zero_le _) (q := 12) rfl ?_
  refine pm_cS1v hK (kB_require_ok hl 0 _ k0 _) mo_B_require st_B_require lk_B_50 dB_replay_12 (by omega) (Nat.le_of_ble_eq_true rfl) (Nat.zero_le _) (Nat.zero_le _) (q := 15) rfl ?_
  refine pm_aload_n dB_replay_15 rfl (q := 16) rfl ?_
  refine pm_get fl_B_25 dB_replay_16 rfl rfl (q := 19) rfl ?_
  refine pm_cV0v hK (kH_clear0 hl 1 (Nat.le_refl _)) mo_H_clear im_H_clear se_H_clear lk_B_127 dB_replay_19 (by omega) (Nat.le_of_ble_eq_true rfl) (Nat.zero_le _) (Nat.zero_le _) rfl rfl rfl (q := 22) rfl ?_
  refine pm_iconst (x := 0) dB_replay_22 (by decide) (q := 23) rfl ?_
  refine pm_istore_n dB_replay_23 (by decide) (q := 24) rfl ?_
  refine pm_heap (g := (cH pd si sa (up1 hv 0 (pV (sa 3) pE)) (up1 ha 0 (cA (sa 3) pE)) sl sc pl pa tl)) (by rw [← empA_cA, pV_E]) ?_
  exact hL n 0 pE (by omega) (pE_ok T) rfl
set_option maxHeartbeats 4000000 in
theorem kB_replay_no {l : Launch} (hl : l.stackTraces = false) (d : Nat) (hd : 7 ≤ d) {pd : Int32} {si : Nat → Int32} {sa : Nat → Nat → Int32} {hv : Nat → Int32} {ha : Nat → Nat → Nat → Int32} {sl : Int32} {sc : Nat → Nat → Int32} {pl : Int32} {pa : Nat → Nat → Int32} {tl : pm_H} (x : Int32) (k0 : fw x 0 sl = 0) : pm_SemX l d mB_replay [.ref 0, .int x] (cH pd si sa hv ha sl sc pl pa tl) "java/lang/IllegalArgumentException" (cH pd si sa hv ha sl sc pl pa tl) := by
  refine pm_semX hl mo_B_replay rfl rfl (Nat.le_of_ble_eq_true rfl) ?_
  have hK := pm_KX_Kd (l := l) (d := d) (h0 := (cH pd si sa hv ha sl sc pl pa tl))
  refine pm_iload_n dB_replay_0 rfl (q := 1) rfl ?_
  refine pm_iconst (x := 0) dB_replay_1 (by decide) (q := 2) rfl ?_
  refine pm_aload_n dB_replay_2 rfl (q := 3) rfl ?_
  refine pm_get fl_B_35 dB_replay_3 rfl rfl (q := 6) rfl ?_
  refine pm_get fl_B_101 dB_replay_6 rfl rfl (q := 9) rfl ?_
  refine pm_cS3i hK (kB_within hl 0 _ _ _ _) mo_B_within st_B_within lk_B_46 dB_replay_9 (by omega) (Nat.le_of_ble_eq_true rfl) (Nat.zero_le _) (Nat.zero_le _) (q := 12) rfl ?_
  exact pm_xS (kB_require_no hl 6 (Nat.le_refl _) _ k0 _) mo_B_require st_B_require (pm_in2 (j := 116) rfl rfl) rfl dB_replay_12 (by omega) rfl rfl (Nat.le_of_ble_eq_true rfl)
