/-! nothing beyond the stacks: kept by every act; verify without a plan -/
theorem pIn_act {S T : Nat} {cap : Int32} {W : Nat → Int32} {b : Nat} {fr : Option Nat} {to : Nat} {L L' : pL} (h : pIn L S) (e : aAct S T cap W b fr to L = some L') : pIn L' S := by
  unfold aAct at e
  intro r hr
  split at e
  · next s =>
    split at e
    · cases e
      unfold up1
      split
      · next z => rw [← z, h r hr]; rfl
      · exact h r hr
    · cases e
  · split at e
    · next z =>
      cases e
      unfold up1
      rw [if_neg (by omega)]
      exact h r hr
    · cases e
theorem pIn_E (S : Nat) : pIn pE S := fun _ _ => rfl
theorem aRun_ok {S T : Nat} {cap : Int32} {W : Nat → Int32} {rs : pR} {N : Nat} (hS : S ≤ 3) (hr : ∀ i, i < N → (rs i).1 < 5 ∧ ∀ s, (rs i).2.2.1 = some s → s < 3) : ∀ m i L, m + i ≤ N → pOk L T → pIn L S → pOk (aRun (aStep S T cap W rs) m i L).2 T ∧ pIn (aRun (aStep S T cap W rs) m i L).2 S := by
  intro m
  induction m with
  | zero => intro i L _ h1 h2; exact ⟨h1, h2⟩
  | succ m ih =>
    intro i L hi h1 h2
    rw [aRun]
    cases e : aStep S T cap W rs i L with
    | none => exact ⟨h1, h2⟩
    | some L' =>
      obtain ⟨u1, u2⟩ := hr i (by omega)
      exact ih (i + 1) L' (by omega) (aAct_ok h1 hS u1 u2 e) (pIn_act h2 e)
set_option maxHeartbeats 4000000 in
theorem kB_verify_no {l : Launch} (hl : l.stackTraces = false) (d : Nat) (hd : 7 ≤ d) {pd : Int32} {si : Nat → Int32} {sa : Nat → Nat → Int32} {hv : Nat → Int32} {ha : Nat → Nat → Nat → Int32} {sl : Int32} {sc : Nat → Nat → Int32} {pl : Int32} {pa : Nat → Nat → Int32} {tl : pm_H} (k0 : pd = 0) : pm_SemX l d mB_verify [.ref 0] (cH pd si sa hv ha sl sc pl pa tl) "java/lang/IllegalStateException" (cH pd si sa hv ha sl sc pl pa tl) := by
  refine pm_semX hl mo_B_verify rfl rfl (Nat.le_of_ble_eq_true rfl) ?_
  have hK := pm_KX_Kd (l := l) (d := d) (h0 := (cH pd si sa hv ha sl sc pl pa tl))
  refine pm_aload_n dB_verify_0 rfl (q := 1) rfl ?_
  refine pm_get fl_B_97 dB_verify_1 rfl rfl (q := 4) rfl ?_
  refine pm_if_ne (tgt := 15) dB_verify_4 rfl (q := 7) rfl (fun z => absurd k0 z) (fun _ => ?_)
  exact pm_new0 ex_ISE rfl dB_verify_7 dB_verify_10 dB_verify_11 dB_verify_14 (by simp; omega) (Nat.le_of_ble_eq_true rfl)
set_option maxHeartbeats 4000000 in
theorem kM_verify_no {l : Launch} (hl : l.stackTraces = false) (d : Nat) (hd : 1 ≤ d) {pd : Int32} {si : Nat → Int32} {sa : Nat → Nat → Int32} {hv : Nat → Int32} {ha : Nat → Nat → Nat → Int32} {sl : Int32} {sc : Nat → Nat → Int32} {pl : Int32} {pa : Nat → Nat → Int32} {mi : Nat → Int32} {ma : Nat → Nat → Int32} {tl : pm_H} (k0 : mi 18 = 0) : pm_Sem l d mM_verify [.ref 31] (cH pd si sa hv ha sl sc pl pa (mH (mi) (ma) tl)) (some (.int 0)) (cH pd si sa hv ha sl sc pl pa (mH (up1 mi 0 1) (ma) tl)) := by
  refine pm_sem hl mo_M_verify ⟨_, rfl, rfl⟩ rfl rfl (Nat.le_of_ble_eq_true rfl) (fun K G hK hret => ?_)
  refine pm_aload_n dM_verify_0 rfl (q := 1) rfl ?_
  refine pm_aload_n dM_verify_1 rfl (q := 2) rfl ?_
  refine pm_get fl_M_85 dM_verify_2 rfl rfl (q := 5) rfl ?_
  refine pm_if_ne (tgt := 12) dM_verify_5 rfl (q := 8) rfl (fun z => absurd k0 z) (fun _ => ?_)
  refine pm_iconst (x := 1) dM_verify_8 (by decide) (q := 9) rfl ?_
  refine pm_goto (tgt := 13) dM_verify_9 rfl ?_
  refine pm_iconst (x := 0) dM_verify_13 (by decide) (q := 14) rfl ?_
  refine pm_cV2i hK (kM_refuse_1 hl 0 _ _ (by decide)) mo_M_refuse im_M_refuse se_M_refuse lk_M_96 dM_verify_14 (by omega) (Nat.le_of_ble_eq_true rfl) (Nat.zero_le _) (Nat.zero_le _) rfl rfl rfl (q := 17) rfl ?_
  refine pm_if_eq (tgt := 22) dM_verify_17 rfl (q := 20) rfl (fun z => absurd z (by decide)) (fun _ => ?_)
  refine pm_iconst (x := 0) dM_verify_20 (by decide) (q := 21) rfl ?_
  exact pm_retI hret dM_verify_21 rfl
