/-! the model: replay, as a run of acts of the value -/
abbrev pR := Nat → Nat × Nat × Option Nat × Nat
/-- the model's script holds these moves, and so many -/
def scM (mi : Nat → Int32) (ma : Nat → Nat → Int32) (rs : pR) (N : Nat) : Prop :=
  mi 19 = nI N ∧ N ≤ 60 ∧ ∀ i, i < N → rM ma i (rs i).1 (rs i).2.2.1 (rs i).2.2.2 ∧ ma 11 i = nI (rs i).2.1 ∧ (rs i).2.1 < 4
def aStep (S T : Nat) (cap : Int32) (W : Nat → Int32) (rs : pR) (i : Nat) (L : pL) : Option pL := aAct S T cap W (rs i).1 (rs i).2.2.1 (rs i).2.2.2 L
def aRun (step : Nat → pL → Option pL) : Nat → Nat → pL → Nat × pL
  | 0, i, L => (i, L)
  | m + 1, i, L => match step i L with | some L' => aRun step m (i + 1) L' | none => (i, L)
def pE : pL := fun _ => []
theorem pE_ok (T : Nat) : pOk pE T := ⟨fun _ => Nat.zero_le _, fun _ _ h => absurd h List.not_mem_nil, fun _ _ => rfl⟩
theorem sM_E : sM pE = fun _ => -1 := by funext k; rfl
theorem rM_s {ma : Nat → Nat → Int32} {i b : Nat} {fr : Option Nat} {to : Nat} (h : rM ma i b fr to) : ∀ s, fr = some s → s < 3 := by
  intro s e
  subst e
  exact h.2.2.2
theorem fw_in {x a b : Int32} (h1 : a ≤ x) (h2 : x ≤ b) : ¬ fw x a b = 0 := by
  unfold fw
  rw [if_pos ⟨h1, h2⟩]
  decide
theorem nI_z (n : Nat) (h : n < 2 ^ 31) : (0 : Int32) ≤ nI n := Int32.not_lt.mp (nI_pos h)
set_option maxHeartbeats 4000000 in
theorem kM_replay_ok {l : Launch} (hl : l.stackTraces = false) (d : Nat) (hd : 3 ≤ d) {pd : Int32} {si : Nat → Int32} {sa : Nat → Nat → Int32} {hv : Nat → Int32} {ha : Nat → Nat → Nat → Int32} {sl : Int32} {sc : Nat → Nat → Int32} {pl : Int32} {pa : Nat → Nat → Int32} {mi : Nat → Int32} {ma : Nat → Nat → Int32} {tl : pm_H} {S T : Nat} (hS : mi 1 = nI S) (hS1 : 1 ≤ S) (hS3 : S ≤ 3) (hT : mi 2 = nI T) (hT3 : T ≤ 3) {rs : pR} {N : Nat} (hsc : scM mi ma rs N) (n : Nat) (hn : n ≤ N) : pm_Sem l d mM_replay [.ref 31, .int (nI n)] (cH pd si sa hv ha sl sc pl pa (mH (mi) (ma) tl)) (some (.int (nI (aRun (aStep S T (mi 4) (ma 3) rs) n 0 pE).1))) (cH pd si sa hv ha sl sc pl pa (mH (up1 mi 0 0) (up1 ma 14 (sM (aRun (aStep S T (mi 4) (ma 3) rs) n 0 pE).2)) tl)) := by
  refine pm_sem hl mo_M_replay ⟨_, rfl, rfl⟩ rfl rfl (Nat.le_of_ble_eq_true rfl) (fun K G hK hret => ?_)
  obtain ⟨hN, hN6, hrs⟩ := id hsc
  have k0 : ¬ fw (nI n) 0 (mi 19) = 0 := by
    rw [hN]
    exact fw_in (nI_z n (by omega)) (nI_le hn (by omega))
  have hL : ∀ (m j : Nat) (L : pL), m + j = n → pOk L T → aRun (aStep S T (mi 4) (ma 3) rs) m j L = (aRun (aStep S T (mi 4) (ma 3) rs) n 0 pE) → pm_Go mM_replay K G 36 [some (.ref 31), some (.int (nI n)), some (.int (nI j))] [] (cH pd si sa hv ha sl sc pl pa (mH (up1 mi 0 0) (up1 ma 14 (sM L)) tl)) 0 0 := by
    intro m
    induction m with
    | zero =>
      intro j L hj hok hr
      have hj : j = n := by omega
      subst hj
      refine pm_iload_n dM_replay_36 rfl (q := 37) rfl ?_
      refine pm_iload_n dM_replay_37 rfl (q := 38) rfl ?_
      refine pm_icmp_ge (tgt := 59) dM_replay_38 rfl (q := 41) rfl (fun _ => ?_) (fun z => absurd (nI_le (Nat.le_refl _) (by omega)) z)
      rw [← hr] at hret
      refine pm_iload_n dM_replay_59 rfl (q := 60) rfl ?_
      exact pm_retI hret dM_replay_60 rfl
    | succ m ih =>
      intro j L hj hok hr
      have hjn : j < n := by omega
      have hrj := (hrs j (by omega)).1
      cases hA : (aStep S T (mi 4) (ma 3) rs) j L with
      | none =>
        have hr9 : (aRun (aStep S T (mi 4) (ma 3) rs) n 0 pE) = (j, L) := by
          rw [← hr, aRun, hA]
        rw [hr9] at hret
        refine pm_iload_n dM_replay_36 rfl (q := 37) rfl ?_
        refine pm_iload_n dM_replay_37 rfl (q := 38) rfl ?_
        refine pm_icmp_ge (tgt := 59) dM_replay_38 rfl (q := 41) rfl (fun z => absurd z (nI_ge hjn (by omega))) (fun _ => ?_)
        refine pm_aload_n dM_replay_41 rfl (q := 42) rfl ?_
        refine pm_aload_n dM_replay_42 rfl (q := 43) rfl ?_
        refine pm_get fl_M_72 dM_replay_43 rfl rfl (q := 46) rfl ?_
        refine pm_iload_n dM_replay_46 rfl (q := 47) rfl ?_
        refine pm_cV2i hK (kM_act_none hl 2 (Nat.le_refl _) mH_at (L := L) rfl hok (show (up1 mi 0 0) 1 = nI S from hS) hS1 hS3 (show (up1 mi 0 0) 2 = nI T from hT) hT3 j (by omega) hrj hA) mo_M_act im_M_act se_M_act lk_M_182 dM_replay_47 (by omega) (Nat.le_of_ble_eq_true rfl) (Nat.zero_le _) (Nat.zero_le _) rfl rfl rfl (q := 50) rfl ?_
        refine pm_if_eq (tgt := 59) dM_replay_50 rfl (q := 53) rfl (fun _ => ?_) (fun z => absurd rfl z)
        refine pm_iload_n dM_replay_59 rfl (q := 60) rfl ?_
        exact pm_retI hret dM_replay_60 rfl
      | some L' =>
        have hr9 : aRun (aStep S T (mi 4) (ma 3) rs) m (j + 1) L' = (aRun (aStep S T (mi 4) (ma 3) rs) n 0 pE) := by
          rw [← hr, aRun, hA]
        have hok' : pOk L' T := aAct_ok hok hS3 hrj.2.1 (rM_s hrj) hA
        refine pm_iload_n dM_replay_36 rfl (q := 37) rfl ?_
        refine pm_iload_n dM_replay_37 rfl (q := 38) rfl ?_
        refine pm_icmp_ge (tgt := 59) dM_replay_38 rfl (q := 41) rfl (fun z => absurd z (nI_ge hjn (by omega))) (fun _ => ?_)
        refine pm_aload_n dM_replay_41 rfl (q := 42) rfl ?_
        refine pm_aload_n dM_replay_42 rfl (q := 43) rfl ?_
        refine pm_get fl_M_72 dM_replay_43 rfl rfl (q := 46) rfl ?_
        refine pm_iload_n dM_replay_46 rfl (q := 47) rfl ?_
        refine pm_cV2i hK (kM_act_some hl 2 (Nat.le_refl _) mH_at (L := L) rfl hok (show (up1 mi 0 0) 1 = nI S from hS) hS1 hS3 (show (up1 mi 0 0) 2 = nI T from hT) hT3 j (by omega) hrj hA) mo_M_act im_M_act se_M_act lk_M_182 dM_replay_47 (by omega) (Nat.le_of_ble_eq_true rfl) (Nat.zero_le _) (Nat.zero_le _) rfl rfl rfl (q := 50) rfl ?_
        refine pm_if_eq (tgt := 59) dM_replay_50 rfl (q := 53) rfl (fun z => absurd z (by decide)) (fun _ => ?_)
        refine pm_iincL dM_replay_53 rfl (by decide) (y := nI (j + 1)) (by rw [nI_succ]; rfl) (q := 56) rfl ?_
        refine pm_goto (tgt := 36) dM_replay_56 rfl ?_
        refine pm_heap (g := (cH pd si sa hv ha sl sc pl pa (mH (up1 mi 0 0) (up1 ma 14 (sM L')) tl))) rfl ?_
        exact ih (j + 1) L' (by omega) hok' hr9
  refine pm_aload_n dM_replay_0 rfl (q := 1) rfl ?_
  refine pm_iload_n dM_replay_1 rfl (q := 2) rfl ?_
  refine pm_iconst (x := 0) dM_replay_2 (by decide) (q := 3) rfl ?_
  refine pm_aload_n dM_replay_3 rfl (q := 4) rfl ?_
  refine pm_get fl_M_89 dM_replay_4 rfl rfl (q := 7) rfl ?_
  refine pm_cS3i hK (kM_in hl 0 _ _ _ _) mo_M_in st_M_in lk_M_92 dM_replay_7 (by omega) (Nat.le_of_ble_eq_true rfl) (Nat.zero_le _) (Nat.zero_le _) (q := 10) rfl ?_
  refine pm_if_ne (tgt := 17) dM_replay_10 rfl (q := 13) rfl (fun _ => ?_) (fun z => absurd z k0)
  refine pm_iconst (x := 0) dM_replay_17 (by decide) (q := 18) rfl ?_
  refine pm_iconst (x := 0) dM_replay_18 (by decide) (q := 19) rfl ?_
  refine pm_cV2i hK (kM_refuse_0 hl 0 _ _ rfl rfl) mo_M_refuse im_M_refuse se_M_refuse lk_M_96 dM_replay_19 (by omega) (Nat.le_of_ble_eq_true rfl) (Nat.zero_le _) (Nat.zero_le _) rfl rfl rfl (q := 22) rfl ?_
  refine pm_if_eq (tgt := 27) dM_replay_22 rfl (q := 25) rfl (fun _ => ?_) (fun z => absurd rfl z)
  refine pm_aload_n dM_replay_27 rfl (q := 28) rfl ?_
  refine pm_get fl_M_72 dM_replay_28 rfl rfl (q := 31) rfl ?_
  refine pm_cS1v hK (kM_empty hl 0 rfl) mo_M_empty st_M_empty lk_M_78 dM_replay_31 (by omega) (Nat.le_of_ble_eq_true rfl) (Nat.zero_le _) (Nat.zero_le _) (q := 34) rfl ?_
  refine pm_iconst (x := 0) dM_replay_34 (by decide) (q := 35) rfl ?_
  refine pm_istore_n dM_replay_35 (by decide) (q := 36) rfl ?_
  refine pm_heap (g := (cH pd si sa hv ha sl sc pl pa (mH (up1 mi 0 0) (up1 ma 14 (sM pE)) tl))) rfl ?_
  exact hL n 0 pE (by omega) (pE_ok T) rfl
set_option maxHeartbeats 4000000 in
theorem kM_replay_no {l : Launch} (hl : l.stackTraces = false) (d : Nat) (hd : 3 ≤ d) {pd : Int32} {si : Nat → Int32} {sa : Nat → Nat → Int32} {hv : Nat → Int32} {ha : Nat → Nat → Nat → Int32} {sl : Int32} {sc : Nat → Nat → Int32} {pl : Int32} {pa : Nat → Nat → Int32} {mi : Nat → Int32} {ma : Nat → Nat → Int32} {tl : pm_H} (x : Int32) (k0 : fw x 0 (mi 19) = 0) : pm_Sem l d mM_replay [.ref 31, .int x] (cH pd si sa hv ha sl sc pl pa (mH (mi) (ma) tl)) (some (.int 0)) (cH pd si sa hv ha sl sc pl pa (mH (up1 mi 0 1) (ma) tl)) := by
  refine pm_sem hl mo_M_replay ⟨_, rfl, rfl⟩ rfl rfl (Nat.le_of_ble_eq_true rfl) (fun K G hK hret => ?_)
  refine pm_aload_n dM_replay_0 rfl (q := 1) rfl ?_
  refine pm_iload_n dM_replay_1 rfl (q := 2) rfl ?_
  refine pm_iconst (x := 0) dM_replay_2 (by decide) (q := 3) rfl ?_
  refine pm_aload_n dM_replay_3 rfl (q := 4) rfl ?_
  refine pm_get fl_M_89 dM_replay_4 rfl rfl (q := 7) rfl ?_
  refine pm_cS3i hK (kM_in hl 0 _ _ _ _) mo_M_in st_M_in lk_M_92 dM_replay_7 (by omega) (Nat.le_of_ble_eq_true rfl) (Nat.zero_le _) (Nat.zero_le _) (q := 10) rfl ?_
  refine pm_if_ne (tgt := 17) dM_replay_10 rfl (q := 13) rfl (fun z => absurd k0 z) (fun _ => ?_)
  refine pm_iconst (x := 1) dM_replay_13 (by decide) (q := 14) rfl ?_
  refine pm_goto (tgt := 18) dM_replay_14 rfl ?_
  refine pm_iconst (x := 0) dM_replay_18 (by decide) (q := 19) rfl ?_
  refine pm_cV2i hK (kM_refuse_1 hl 0 _ _ (by decide)) mo_M_refuse im_M_refuse se_M_refuse lk_M_96 dM_replay_19 (by omega) (Nat.le_of_ble_eq_true rfl) (Nat.zero_le _) (Nat.zero_le _) rfl rfl rfl (q := 22) rfl ?_
  refine pm_if_eq (tgt := 27) dM_replay_22 rfl (q := 25) rfl (fun z => absurd z (by decide)) (fun _ => ?_)
  refine pm_iconst (x := 0) dM_replay_25 (by decide) (q := 26) rfl ?_
  exact pm_retI hret dM_replay_26 rfl
