/-! the class: the plan is chosen -/
set_option maxHeartbeats 4000000 in
theorem kP_goesOn_last {l : Launch} (hl : l.stackTraces = false) (d : Nat) (hd : 1 ≤ d) {pd : Int32} {si : Nat → Int32} {sa : Nat → Nat → Int32} {hv : Nat → Int32} {ha : Nat → Nat → Nat → Int32} {sl : Int32} {sc : Nat → Nat → Int32} {pl : Int32} {tl : pm_H} {pa : Nat → Nat → Int32} (p : Nat) {D : Nat} (hP : si 2 = nI (D + 1)) (hD3 : D ≤ 3) (hp : D ≤ p + 1) (hp3 : p < 3) (a x : Int32) : pm_Sem l d mP_goesOn [.ref 21, .int (nI p), .int a, .int x] (cH pd si sa hv ha sl sc pl pa tl) (some (.int 1)) (cH pd si sa hv ha sl sc pl pa tl) := by
  refine pm_sem hl mo_P_goesOn ⟨_, rfl, rfl⟩ rfl rfl (Nat.le_of_ble_eq_true rfl) (fun K G hK hret => ?_)
  have eD : si 2 - 1 = nI D := by rw [hP]; exact nI_pred D
  refine pm_iload_n dP_goesOn_0 rfl (q := 1) rfl ?_
  refine pm_iconst (x := 1) dP_goesOn_1 (by decide) (q := 2) rfl ?_
  refine pm_iadd dP_goesOn_2 (q := 3) rfl ?_
  refine pm_topL (y := nI (p + 1)) (nI_succ p).symm ?_
  refine pm_aload_n dP_goesOn_3 rfl (q := 4) rfl ?_
  refine pm_get fl_P_27 dP_goesOn_4 rfl rfl (q := 7) rfl ?_
  refine pm_cV0i hK (kS_departures hl 0) mo_S_departures im_S_departures se_S_departures lk_P_48 dP_goesOn_7 (by omega) (Nat.le_of_ble_eq_true rfl) (Nat.zero_le _) (Nat.zero_le _) rfl rfl rfl (q := 10) rfl ?_
  refine pm_icmp_ge (tgt := 30) dP_goesOn_10 rfl (q := 13) rfl (fun _ => ?_) (fun z => absurd (by rw [eD]; exact nI_le hp (by omega)) z)
  refine pm_iconst (x := 1) dP_goesOn_30 (by decide) (q := 31) rfl ?_
  exact pm_retI hret dP_goesOn_31 rfl
set_option maxHeartbeats 4000000 in
theorem kP_goesOn_yes {l : Launch} (hl : l.stackTraces = false) (d : Nat) (hd : 1 ≤ d) {pd : Int32} {si : Nat → Int32} {sa : Nat → Nat → Int32} {hv : Nat → Int32} {ha : Nat → Nat → Nat → Int32} {sl : Int32} {sc : Nat → Nat → Int32} {pl : Int32} {tl : pm_H} {pa : Nat → Nat → Int32} {h2 : pm_H} (p : Nat) {D : Nat} (hP : si 2 = nI (D + 1)) (hD3 : D ≤ 3) (hp : p + 1 < D) (a x : Nat) (ha6 : a < 2016) (hF : pm_Sem l d mP_chooses [.ref 21, .int (nI (p + 1)), .int (pa 0 a), .int (nI x)] (cH pd si sa hv ha sl sc pl pa tl) (some (.int 1)) h2) : pm_Sem l (d + 1) mP_goesOn [.ref 21, .int (nI p), .int (nI a), .int (nI x)] (cH pd si sa hv ha sl sc pl pa tl) (some (.int 1)) h2 := by
  refine pm_sem hl mo_P_goesOn ⟨_, rfl, rfl⟩ rfl rfl (Nat.le_of_ble_eq_true rfl) (fun K G hK hret => ?_)
  have eD : si 2 - 1 = nI D := by rw [hP]; exact nI_pred D
  refine pm_iload_n dP_goesOn_0 rfl (q := 1) rfl ?_
  refine pm_iconst (x := 1) dP_goesOn_1 (by decide) (q := 2) rfl ?_
  refine pm_iadd dP_goesOn_2 (q := 3) rfl ?_
  refine pm_topL (y := nI (p + 1)) (nI_succ p).symm ?_
  refine pm_aload_n dP_goesOn_3 rfl (q := 4) rfl ?_
  refine pm_get fl_P_27 dP_goesOn_4 rfl rfl (q := 7) rfl ?_
  refine pm_cV0i hK (kS_departures hl 0) mo_S_departures im_S_departures se_S_departures lk_P_48 dP_goesOn_7 (by omega) (Nat.le_of_ble_eq_true rfl) (Nat.zero_le _) (Nat.zero_le _) rfl rfl rfl (q := 10) rfl ?_
  refine pm_icmp_ge (tgt := 30) dP_goesOn_10 rfl (q := 13) rfl (fun z => absurd z (by rw [eD]; exact nI_ge hp (by omega))) (fun _ => ?_)
  refine pm_aload_n dP_goesOn_13 rfl (q := 14) rfl ?_
  refine pm_iload_n dP_goesOn_14 rfl (q := 15) rfl ?_
  refine pm_iconst (x := 1) dP_goesOn_15 (by decide) (q := 16) rfl ?_
  refine pm_iadd dP_goesOn_16 (q := 17) rfl ?_
  refine pm_topL (y := nI (p + 1)) (nI_succ p).symm ?_
  refine pm_aload_n dP_goesOn_17 rfl (q := 18) rfl ?_
  refine pm_get fl_P_11 dP_goesOn_18 rfl rfl (q := 21) rfl ?_
  refine pm_iload_n dP_goesOn_21 rfl (q := 22) rfl ?_
  refine pm_ialdN dP_goesOn_22 rfl ha6 (Nat.le_of_ble_eq_true rfl) (q := 23) rfl ?_
  refine pm_iload_n dP_goesOn_23 rfl (q := 24) rfl ?_
  refine pm_cV3i hK (hF) mo_P_chooses im_P_chooses se_P_chooses lk_P_128 dP_goesOn_24 (by omega) (Nat.le_of_ble_eq_true rfl) (Nat.zero_le _) (Nat.zero_le _) rfl rfl rfl (q := 27) rfl ?_
  refine pm_if_eq (tgt := 32) dP_goesOn_27 rfl (q := 30) rfl (fun z => absurd z (by decide)) (fun _ => ?_)
  refine pm_iconst (x := 1) dP_goesOn_30 (by decide) (q := 31) rfl ?_
  exact pm_retI hret dP_goesOn_31 rfl
set_option maxHeartbeats 4000000 in
theorem kP_goesOn_no {l : Launch} (hl : l.stackTraces = false) (d : Nat) (hd : 1 ≤ d) {pd : Int32} {si : Nat → Int32} {sa : Nat → Nat → Int32} {hv : Nat → Int32} {ha : Nat → Nat → Nat → Int32} {sl : Int32} {sc : Nat → Nat → Int32} {pl : Int32} {tl : pm_H} {pa : Nat → Nat → Int32} {pa2 : Nat → Nat → Int32} (p : Nat) {D : Nat} (hP : si 2 = nI (D + 1)) (hD3 : D ≤ 3) (hp : p + 1 < D) (a x : Nat) (ha6 : a < 2016) (hF : pm_Sem l d mP_chooses [.ref 21, .int (nI (p + 1)), .int (pa 0 a), .int (nI x)] (cH pd si sa hv ha sl sc pl pa tl) (some (.int 0)) (cH pd si sa hv ha sl sc pl pa2 tl)) : pm_Sem l (d + 1) mP_goesOn [.ref 21, .int (nI p), .int (nI a), .int (nI x)] (cH pd si sa hv ha sl sc pl pa tl) (some (.int 0)) (cH pd si sa hv ha sl sc pl (up1 pa2 1 (upd (pa2 1) a (nI (x + 1)))) tl) := by
  refine pm_sem hl mo_P_goesOn ⟨_, rfl, rfl⟩ rfl rfl (Nat.le_of_ble_eq_true rfl) (fun K G hK hret => ?_)
  have eD : si 2 - 1 = nI D := by rw [hP]; exact nI_pred D
  refine pm_iload_n dP_goesOn_0 rfl (q := 1) rfl ?_
  refine pm_iconst (x := 1) dP_goesOn_1 (by decide) (q := 2) rfl ?_
  refine pm_iadd dP_goesOn_2 (q := 3) rfl ?_
  refine pm_topL (y := nI (p + 1)) (nI_succ p).symm ?_
  refine pm_aload_n dP_goesOn_3 rfl (q := 4) rfl ?_
  refine pm_get fl_P_27 dP_goesOn_4 rfl rfl (q := 7) rfl ?_
  refine pm_cV0i hK (kS_departures hl 0) mo_S_departures im_S_departures se_S_departures lk_P_48 dP_goesOn_7 (by omega) (Nat.le_of_ble_eq_true rfl) (Nat.zero_le _) (Nat.zero_le _) rfl rfl rfl (q := 10) rfl ?_
  refine pm_icmp_ge (tgt := 30) dP_goesOn_10 rfl (q := 13) rfl (fun z => absurd z (by rw [eD]; exact nI_ge hp (by omega))) (fun _ => ?_)
  refine pm_aload_n dP_goesOn_13 rfl (q := 14) rfl ?_
  refine pm_iload_n dP_goesOn_14 rfl (q := 15) rfl ?_
  refine pm_iconst (x := 1) dP_goesOn_15 (by decide) (q := 16) rfl ?_
  refine pm_iadd dP_goesOn_16 (q := 17) rfl ?_
  refine pm_topL (y := nI (p + 1)) (nI_succ p).symm ?_
  refine pm_aload_n dP_goesOn_17 rfl (q := 18) rfl ?_
  refine pm_get fl_P_11 dP_goesOn_18 rfl rfl (q := 21) rfl ?_
  refine pm_iload_n dP_goesOn_21 rfl (q := 22) rfl ?_
  refine pm_ialdN dP_goesOn_22 rfl ha6 (Nat.le_of_ble_eq_true rfl) (q := 23) rfl ?_
  refine pm_iload_n dP_goesOn_23 rfl (q := 24) rfl ?_
  refine pm_cV3i hK (hF) mo_P_chooses im_P_chooses se_P_chooses lk_P_128 dP_goesOn_24 (by omega) (Nat.le_of_ble_eq_true rfl) (Nat.zero_le _) (Nat.zero_le _) rfl rfl rfl (q := 27) rfl ?_
  refine pm_if_eq (tgt := 32) dP_goesOn_27 rfl (q := 30) rfl (fun _ => ?_) (fun z => absurd rfl z)
  refine pm_aload_n dP_goesOn_32 rfl (q := 33) rfl ?_
  refine pm_get fl_P_15 dP_goesOn_33 rfl rfl (q := 36) rfl ?_
  refine pm_iload_n dP_goesOn_36 rfl (q := 37) rfl ?_
  refine pm_iload_n dP_goesOn_37 rfl (q := 38) rfl ?_
  refine pm_iconst (x := 1) dP_goesOn_38 (by decide) (q := 39) rfl ?_
  refine pm_iadd dP_goesOn_39 (q := 40) rfl ?_
  refine pm_topL (y := nI (x + 1)) (nI_succ x).symm ?_
  refine pm_iastN dP_goesOn_40 rfl ha6 (Nat.le_of_ble_eq_true rfl) (q := 41) rfl ?_
  refine pm_iconst (x := 0) dP_goesOn_41 (by decide) (q := 42) rfl ?_
  exact pm_retI hret dP_goesOn_42 rfl
/-- what may stand before a departure -/
def preA (A : Nat → List pL) (p : Nat) (L : pL) : Prop := (p = 0 ∧ L = pE) ∨ (0 < p ∧ L ∈ A (p - 1))
def svA (sa : Nat → Nat → Int32) (B p : Nat) : Int32 := if p = 0 then 0 else fbc (fdue sa (nI (p - 1)) B &&& fdue sa (nI (p - 1) + 1) B)
theorem ct_E (b : Nat) : ct pE b ≤ 1 := Nat.zero_le _
theorem preA_ok {si : Nat → Int32} {sa : Nat → Nat → Int32} {S T B p : Nat} (hB : B ≤ 5) {L : pL} (h : preA (lsA si sa S T B) p L) : pOk L T ∧ (∀ b, ct L b ≤ 1) ∧ ∀ N ∈ (lsA si sa S T B) p, svA sa B p = nI (shr L N) := by
  rcases h with ⟨e, rfl⟩ | ⟨h1, h2⟩
  · refine ⟨pE_ok T, ct_E, fun N _ => ?_⟩
    have : shr pE N = 0 := by
      rw [shr_sum]
      simp [bn1, pE_has]
    unfold svA
    rw [if_pos e, this]
    rfl
  · obtain ⟨q, rfl⟩ : ∃ q, p = q + 1 := ⟨p - 1, by omega⟩
    rw [Nat.add_sub_cancel] at h2
    have a := (lsA_arr h2).1
    refine ⟨a.1, a.2.1, fun N hN => ?_⟩
    unfold svA
    rw [if_neg (Nat.succ_ne_zero q), Nat.add_sub_cancel]
    exact stay_val hB a (lsA_arr hN).1
/-- the lists and bounds stand -/
def chI (si : Nat → Int32) (sa : Nat → Nat → Int32) (S T B D n : Nat) (pa : Nat → Nat → Int32) : Prop := laI si sa S T B D n pa ∧ lbI (lsA si sa S T B) D (stL (lsA si sa S T B) (shd sa B)) (pa 1)
theorem laI_cg {si : Nat → Int32} {sa : Nat → Nat → Int32} {S T B j n : Nat} {pa pa2 : Nat → Nat → Int32} (h : laI si sa S T B j n pa) (e0 : pa2 0 = pa 0) (e2 : pa2 2 = pa 2) (e3 : pa2 3 = pa 3) : laI si sa S T B j n pa2 := by
  refine ⟨h.1, fun p hp => ?_⟩
  rw [e0, e2, e3]
  exact h.2 p hp
theorem pick_one {A : Nat → List pL} {k p i : Nat} {L : pL} (h : i < (A p).length) (hn : ∀ j, (hj : j < i) → ¬ isB A k p L ((A p)[j]) = true) (hb : isB A k p L ((A p)[i]) = true) : pick A (k + 1) p L = (A p)[i] :: pick A k (p + 1) ((A p)[i]) := by
  rw [pick, find_first (A p) i h hn hb]
theorem nIr {x u q : Nat} (h1 : ¬ u ≤ q) (h2 : u < 2 ^ 31) (e : x = q) : nI x < nI u := by
  rw [e]
  exact nI_lt (by omega) h2
theorem neg_lt {x : Int32} {u : Nat} (h : x < 0) (hu : u < 2 ^ 31) : x < nI u := Int32.lt_of_lt_of_le h (nI_z u hu)
set_option maxHeartbeats 16000000 in
theorem kP_chooses {l : Launch} (hl : l.stackTraces = false) {pd : Int32} {si : Nat → Int32} {sa : Nat → Nat → Int32} {hv : Nat → Int32} {ha : Nat → Nat → Nat → Int32} {sl : Int32} {sc : Nat → Nat → Int32} {pl : Int32} {tl : pm_H} {S T D B : Nat} (hS : si 0 = nI S) (hS3 : S ≤ 3) (hT3 : T ≤ 3) (hP : si 2 = nI (D + 1)) (hD3 : D ≤ 3) (hB : si 7 = nI B) (hB5 : B ≤ 5) (n : Nat) (hne : ∀ q, q < D → ¬ (lsA si sa S T B) q = []) : ∀ (k p : Nat), k + p = D → 1 ≤ k → ∀ (d : Nat), 2 * k + 2 ≤ d → ∀ (L : pL) (lf m : Nat) (pa : Nat → Nat → Int32), preA (lsA si sa S T B) p L → lf ≤ 10 → chI si sa S T B D n pa → bo (lsA si sa S T B) k p L = some m → lf ≤ m → ∃ (r : Int32) (pa2 : Nat → Nat → Int32), chI si sa S T B D n pa2 ∧ (r = 1 ∧ lf = m ∧ (∀ i, (h : i < (pick (lsA si sa S T B) k p L).length) → pa2 4 (p + i) = cC ((pick (lsA si sa S T B) k p L)[i])) ∨ r = 0 ∧ lf < m) ∧ pm_Sem l d mP_chooses [.ref 21, .int (nI p), .int (cC L), .int (nI lf)] (cH pd si sa hv ha sl sc pl pa tl) (some (.int r)) (cH pd si sa hv ha sl sc pl pa2 tl) := by
  have hlay : lay (stL (lsA si sa S T B) (shd sa B)) (lsA si sa S T B) D := stL_lay (lsA_sh hB5) D
  have harr : ∀ q, q < D → ∀ N ∈ (lsA si sa S T B) q, arr (duP sa B q) T N := fun q _ N hN => (lsA_arr hN).1
  intro k
  induction k with
  | zero => intro p _ h; omega
  | succ k ih =>
    intro p hkp _ d hd L lf m pa hpre hlf hI hm hle
    have hp3 : p < 3 := by omega
    obtain ⟨hL, hc1, hsv⟩ := preA_ok hB5 hpre
    have hend : (stL (lsA si sa S T B) (shd sa B)) p + ((lsA si sa S T B) p).length ≤ 2016 := by
      rw [stL_end (lsA_sh hB5)]
      exact lsA_cap hB5 (p + 1) (by omega)
    have ek : D - 1 - p = k := by omega
    have hO : ∀ (c i : Nat) (pa : Nat → Nat → Int32), c + i = ((lsA si sa S T B) p).length → chI si sa S T B D n pa → (lf = m → ∀ j, (hj : j < i) → (h : j < ((lsA si sa S T B) p).length) → ¬ isB (lsA si sa S T B) k p L (((lsA si sa S T B) p)[j]) = true) → ∃ (r : Int32) (pa2 : Nat → Nat → Int32), chI si sa S T B D n pa2 ∧ (r = 1 ∧ lf = m ∧ (∀ i, (h : i < (pick (lsA si sa S T B) (k + 1) p L).length) → pa2 4 (p + i) = cC ((pick (lsA si sa S T B) (k + 1) p L)[i])) ∨ r = 0 ∧ lf < m) ∧ ∀ o, pm_Out l d mP_chooses (some (.int r)) (cH pd si sa hv ha sl sc pl pa2 tl) 25 [some (.ref 21), some (.int (nI p)), some (.int (cC L)), some (.int (nI lf)), some (.int (svA sa B p)), some (.int (nI ((stL (lsA si sa S T B) (shd sa B)) p + i))), o] [] (cH pd si sa hv ha sl sc pl pa tl) := by
      intro c
      induction c with
      | zero =>
        intro i pa hi hI hno
        obtain ⟨e2, e3, e0, _⟩ := hI.1.2 p (by omega)
        have hlt : lf < m := by
          rcases Nat.lt_or_eq_of_le hle with h | h
          · exact h
          · exfalso
            obtain ⟨N, hN, hN2⟩ := pick_ex hm
            obtain ⟨j, hj, ej⟩ := List.getElem_of_mem hN2
            have := List.find?_some hN
            rw [← ej] at this
            exact hno h j (by omega) hj this
        refine ⟨0, pa, hI, Or.inr ⟨rfl, hlt⟩, fun o K G hK hret => ?_⟩
        refine pm_iload dP_chooses_25 rfl (q := 27) rfl ?_
        refine pm_aload_n dP_chooses_27 rfl (q := 28) rfl ?_
        refine pm_get fl_P_21 dP_chooses_28 rfl rfl (q := 31) rfl ?_
        refine pm_iload_n dP_chooses_31 rfl (q := 32) rfl ?_
        refine pm_ialdN dP_chooses_32 rfl hp3 (Nat.le_of_ble_eq_true rfl) (q := 33) rfl ?_
        refine pm_topL e3 ?_
        refine pm_icmp_ge (tgt := 99) dP_chooses_33 rfl (q := 36) rfl (fun _ => ?_) (fun z => absurd (nI_le (by omega) (by omega)) z)
        refine pm_iconst (x := 0) dP_chooses_99 (by decide) (q := 100) rfl ?_
        exact pm_retI hret dP_chooses_100 rfl
      | succ c ihc =>
        intro i pa hi hI hno
        have hi9 : i < ((lsA si sa S T B) p).length := by omega
        obtain ⟨e2, e3, e0, _⟩ := hI.1.2 p (by omega)
        have ec := e0 i hi9
        have hM : ((lsA si sa S T B) p)[i] ∈ (lsA si sa S T B) p := List.getElem_mem hi9
        have hst : (stL (lsA si sa S T B) (shd sa B)) p + i < 2016 := by omega
        obtain ⟨v, ev, hv15⟩ := bo_ex k (p + 1) (((lsA si sa S T B) p)[i]) (fun q a b => hne q (by omega))
        have hbh : bh (lsA si sa S T B) D p (((lsA si sa S T B) p)[i]) = some v := by
          unfold bh
          rw [ek]
          exact ev
        obtain ⟨u, eu, hu⟩ := hI.2 p (by omega) i hi9
        have hu := hu v hbh
        have hmv := bo_le hM hm ev
        have hB9 := isB_iff hm ev
        have aM := (lsA_arr hM).1
        have esv := hsv _ hM
        have hrest := rest_val (lf := lf) hL aM.1 hc1 hlf
        have ekp := keptAll_val hL aM.1 hT3
        rw [← esv] at hrest
        generalize hG : ((lsA si sa S T B) p)[i] = N at *
        have h63 : ∀ (y : Int32), nI lf - svA sa B p + nI (kpt L N) = y → ∀ (o : Option Value) (K : pm_X → Prop) (G : pm_X → State → Prop), (∀ X, K X → pm_Kd l d 0 0 X) → pm_Go mP_chooses K G 63 [some (.ref 21), some (.int (nI p)), some (.int (cC L)), some (.int (nI lf)), some (.int (svA sa B p)), some (.int (nI ((stL (lsA si sa S T B) (shd sa B)) p + i))), some (.int y)] [.int y, .int (nI u)] (cH pd si sa hv ha sl sc pl pa tl) 0 0 → pm_Go mP_chooses K G 25 [some (.ref 21), some (.int (nI p)), some (.int (cC L)), some (.int (nI lf)), some (.int (svA sa B p)), some (.int (nI ((stL (lsA si sa S T B) (shd sa B)) p + i))), o] [] (cH pd si sa hv ha sl sc pl pa tl) 0 0 := by
          intro y ey o K G hK h63
          refine pm_iload dP_chooses_25 rfl (q := 27) rfl ?_
          refine pm_aload_n dP_chooses_27 rfl (q := 28) rfl ?_
          refine pm_get fl_P_21 dP_chooses_28 rfl rfl (q := 31) rfl ?_
          refine pm_iload_n dP_chooses_31 rfl (q := 32) rfl ?_
          refine pm_ialdN dP_chooses_32 rfl hp3 (Nat.le_of_ble_eq_true rfl) (q := 33) rfl ?_
          refine pm_topL e3 ?_
          refine pm_icmp_ge (tgt := 99) dP_chooses_33 rfl (q := 36) rfl (fun z => absurd z (nI_ge (by omega) (by omega))) (fun _ => ?_)
          refine pm_iload_n dP_chooses_36 rfl (q := 37) rfl ?_
          refine pm_iload dP_chooses_37 rfl (q := 39) rfl ?_
          refine pm_isub dP_chooses_39 (q := 40) rfl ?_
          refine pm_iload_n dP_chooses_40 rfl (q := 41) rfl ?_
          refine pm_aload_n dP_chooses_41 rfl (q := 42) rfl ?_
          refine pm_get fl_P_11 dP_chooses_42 rfl rfl (q := 45) rfl ?_
          refine pm_iload dP_chooses_45 rfl (q := 47) rfl ?_
          refine pm_ialdN dP_chooses_47 rfl hst (Nat.le_of_ble_eq_true rfl) (q := 48) rfl ?_
          refine pm_topL ec ?_
          refine pm_cS2i hK (kC_kept hl 2 (Nat.le_refl _) _ _ _) mo_C_kept st_C_kept lk_P_135 dP_chooses_48 (by omega) (Nat.le_of_ble_eq_true rfl) (Nat.zero_le _) (Nat.zero_le _) (q := 51) rfl ?_
          refine pm_topL ekp ?_
          refine pm_iadd dP_chooses_51 (q := 52) rfl ?_
          refine pm_topL ey ?_
          refine pm_istore dP_chooses_52 (by decide) (q := 54) rfl ?_
          refine pm_aload_n dP_chooses_54 rfl (q := 55) rfl ?_
          refine pm_get fl_P_15 dP_chooses_55 rfl rfl (q := 58) rfl ?_
          refine pm_iload dP_chooses_58 rfl (q := 60) rfl ?_
          refine pm_ialdN dP_chooses_60 rfl hst (Nat.le_of_ble_eq_true rfl) (q := 61) rfl ?_
          refine pm_topL eu ?_
          refine pm_iload dP_chooses_61 rfl (q := 63) rfl ?_
          exact h63
        by_cases hskip : lf < cost L N ∨ (cost L N ≤ lf ∧ ¬ u ≤ lf - cost L N)
        · have hlt : nI lf - svA sa B p + nI (kpt L N) < nI u := by
            rcases hskip with z | ⟨z1, z2⟩
            · exact neg_lt (hrest.2 z) (by omega)
            · rw [hrest.1 z1]
              exact nI_lt (by omega) (by omega)
          have hnB : lf = m → ¬ isB (lsA si sa S T B) k p L N = true := by
            intro e z
            have := hB9.mp z
            omega
          obtain ⟨r, pa2, q1, q2, ho⟩ := ihc (i + 1) pa (by omega) hI (fun e j hj h => by
            by_cases y : j = i
            · subst y
              rw [hG]
              exact hnB e
            · exact hno e j (by omega) h)
          refine ⟨r, pa2, q1, q2, fun o K G hK hret => h63 _ rfl o K G hK ?_⟩
          have nx := ho (some (.int (nI lf - svA sa B p + nI (kpt L N)))) K G hK hret
          refine pm_icmp_gt (tgt := 93) dP_chooses_63 rfl (q := 66) rfl (fun _ => ?_) (fun z => absurd hlt z)
          refine pm_iincL dP_chooses_93 rfl (by decide) (y := nI ((stL (lsA si sa S T B) (shd sa B)) p + (i + 1))) (by rw [← Nat.add_assoc, nI_succ]; rfl) (q := 96) rfl ?_
          refine pm_goto (tgt := 25) dP_chooses_96 rfl ?_
          exact nx
        · have c1 : cost L N ≤ lf := by omega
          have c2 : u ≤ lf - cost L N := by omega
          have er := hrest.1 c1
          have nlt : ¬ nI (lf - cost L N) < nI u := nI_nlt c2 (by omega)
          have hgo : ∃ (r : Int32) (pa2 : Nat → Nat → Int32), chI si sa S T B D n pa2 ∧ (r = 1 ∧ lf - cost L N = v ∧ (∀ j, (h : j < (pick (lsA si sa S T B) k (p + 1) N).length) → pa2 4 (p + 1 + j) = cC ((pick (lsA si sa S T B) k (p + 1) N)[j])) ∨ r = 0 ∧ lf - cost L N < v) ∧ pm_Sem l (d - 1) mP_goesOn [.ref 21, .int (nI p), .int (nI ((stL (lsA si sa S T B) (shd sa B)) p + i)), .int (nI (lf - cost L N))] (cH pd si sa hv ha sl sc pl pa tl) (some (.int r)) (cH pd si sa hv ha sl sc pl pa2 tl) := by
            cases k with
            | zero =>
              have ev : some 0 = some v := ev
              cases ev
              refine ⟨1, pa, hI, Or.inl ⟨rfl, by omega, fun j h => absurd h (Nat.not_lt_zero _)⟩, ?_⟩
              exact kP_goesOn_last hl (d - 1) (by omega) p hP hD3 (by omega) hp3 _ _
            | succ k =>
              obtain ⟨r, pa2, q1, q2, hw⟩ := ih (p + 1) (by omega) (by omega) (d - 2) (by omega) N (lf - cost L N) v pa (Or.inr ⟨by omega, by rw [Nat.add_sub_cancel]; exact hM⟩) (by omega) hI ev (by omega)
              rw [← ec] at hw
              rcases q2 with ⟨rfl, q3, q4⟩ | ⟨rfl, q3⟩
              · refine ⟨1, pa2, q1, Or.inl ⟨rfl, q3, q4⟩, ?_⟩
                have := kP_goesOn_yes hl (d - 2) (by omega) p hP hD3 (by omega) ((stL (lsA si sa S T B) (shd sa B)) p + i) (lf - cost L N) hst hw
                rw [show d - 2 + 1 = d - 1 by omega] at this
                exact this
              · refine ⟨0, up1 pa2 1 (upd (pa2 1) ((stL (lsA si sa S T B) (shd sa B)) p + i) (nI (lf - cost L N + 1))), ⟨laI_cg q1.1 rfl rfl rfl, ?_⟩, Or.inr ⟨rfl, q3⟩, ?_⟩
                · exact lbI_set (du := fun q => duP sa B q) hlay hne harr q1.2 (by omega) hi9 (by rw [hG]; exact hbh) (by omega)
                · have := kP_goesOn_no hl (d - 2) (by omega) p hP hD3 (by omega) ((stL (lsA si sa S T B) (shd sa B)) p + i) (lf - cost L N) hst hw
                  rw [show d - 2 + 1 = d - 1 by omega] at this
                  exact this
          obtain ⟨r, pa2, q1, q2, hw⟩ := hgo
          rcases q2 with ⟨rfl, q3, q4⟩ | ⟨rfl, q3⟩
          · have em : lf = m := by omega
            have hBt : isB (lsA si sa S T B) k p L N = true := hB9.mpr (by omega)
            have epk : pick (lsA si sa S T B) (k + 1) p L = N :: pick (lsA si sa S T B) k (p + 1) N := by
              have := pick_one (A := (lsA si sa S T B)) (k := k) (p := p) (L := L) hi9 (fun j hj => hno em j hj (by omega)) (by rw [hG]; exact hBt)
              rw [hG] at this
              exact this
            have ec2 : pa2 0 ((stL (lsA si sa S T B) (shd sa B)) p + i) = cC N := by rw [← hG]; exact (q1.1.2 p (by omega)).2.2.1 i hi9
            refine ⟨1, up1 pa2 4 (upd (pa2 4) p (cC N)), ⟨laI_cg q1.1 rfl rfl rfl, q1.2⟩, Or.inl ⟨rfl, em, ?_⟩, fun o K G hK hret => h63 _ er o K G hK ?_⟩
            · rw [epk]
              intro j hj
              cases j with
              | zero => exact upd_at _ _ _
              | succ j =>
                show upd (pa2 4) p (cC N) (p + (j + 1)) = _
                rw [upd_ne _ _ (by omega), show p + (j + 1) = p + 1 + j by omega]
                exact q4 j (Nat.lt_of_succ_lt_succ hj)
            · skip
              refine pm_icmp_gt (tgt := 93) dP_chooses_63 rfl (q := 66) rfl (fun z => absurd z nlt) (fun _ => ?_)
              refine pm_aload_n dP_chooses_66 rfl (q := 67) rfl ?_
              refine pm_iload_n dP_chooses_67 rfl (q := 68) rfl ?_
              refine pm_iload dP_chooses_68 rfl (q := 70) rfl ?_
              refine pm_iload dP_chooses_70 rfl (q := 72) rfl ?_
              refine pm_cV3i hK (hw) mo_P_goesOn im_P_goesOn se_P_goesOn lk_P_138 dP_chooses_72 (by omega) (Nat.le_of_ble_eq_true rfl) (Nat.zero_le _) (Nat.zero_le _) rfl rfl rfl (q := 75) rfl ?_
              refine pm_if_eq (tgt := 93) dP_chooses_75 rfl (q := 78) rfl (fun z => absurd z (by decide)) (fun _ => ?_)
              refine pm_aload_n dP_chooses_78 rfl (q := 79) rfl ?_
              refine pm_get fl_P_24 dP_chooses_79 rfl rfl (q := 82) rfl ?_
              refine pm_iload_n dP_chooses_82 rfl (q := 83) rfl ?_
              refine pm_aload_n dP_chooses_83 rfl (q := 84) rfl ?_
              refine pm_get fl_P_11 dP_chooses_84 rfl rfl (q := 87) rfl ?_
              refine pm_iload dP_chooses_87 rfl (q := 89) rfl ?_
              refine pm_ialdN dP_chooses_89 rfl hst (Nat.le_of_ble_eq_true rfl) (q := 90) rfl ?_
              refine pm_topL ec2 ?_
              refine pm_iastN dP_chooses_90 rfl hp3 (Nat.le_of_ble_eq_true rfl) (q := 91) rfl ?_
              refine pm_iconst (x := 1) dP_chooses_91 (by decide) (q := 92) rfl ?_
              exact pm_retI hret dP_chooses_92 rfl
          · have hnB : lf = m → ¬ isB (lsA si sa S T B) k p L N = true := by
              intro e z
              have := hB9.mp z
              omega
            obtain ⟨r, pa3, s1, s2, ho⟩ := ihc (i + 1) pa2 (by omega) q1 (fun e j hj h => by
              by_cases y : j = i
              · subst y
                rw [hG]
                exact hnB e
              · exact hno e j (by omega) h)
            refine ⟨r, pa3, s1, s2, fun o K G hK hret => h63 _ er o K G hK ?_⟩
            have nx := ho (some (.int (nI (lf - cost L N)))) K G hK hret
            refine pm_icmp_gt (tgt := 93) dP_chooses_63 rfl (q := 66) rfl (fun z => absurd z nlt) (fun _ => ?_)
            refine pm_aload_n dP_chooses_66 rfl (q := 67) rfl ?_
            refine pm_iload_n dP_chooses_67 rfl (q := 68) rfl ?_
            refine pm_iload dP_chooses_68 rfl (q := 70) rfl ?_
            refine pm_iload dP_chooses_70 rfl (q := 72) rfl ?_
            refine pm_cV3i hK (hw) mo_P_goesOn im_P_goesOn se_P_goesOn lk_P_138 dP_chooses_72 (by omega) (Nat.le_of_ble_eq_true rfl) (Nat.zero_le _) (Nat.zero_le _) rfl rfl rfl (q := 75) rfl ?_
            refine pm_if_eq (tgt := 93) dP_chooses_75 rfl (q := 78) rfl (fun _ => ?_) (fun z => absurd rfl z)
            refine pm_iincL dP_chooses_93 rfl (by decide) (y := nI ((stL (lsA si sa S T B) (shd sa B)) p + (i + 1))) (by rw [← Nat.add_assoc, nI_succ]; rfl) (q := 96) rfl ?_
            refine pm_goto (tgt := 25) dP_chooses_96 rfl ?_
            exact nx
    obtain ⟨e2, e3, e0, _⟩ := hI.1.2 p (by omega)
    obtain ⟨r, pa2, q1, q2, ho⟩ := hO ((lsA si sa S T B) p).length 0 pa (by omega) hI (fun _ j hj => absurd hj (Nat.not_lt_zero _))
    refine ⟨r, pa2, q1, q2, ?_⟩
    have hb : narrow .boolean (.int r) = .int r := by
      rcases q2 with ⟨e, _⟩ | ⟨e, _⟩ <;> rw [e] <;> rfl
    refine pm_sem hl mo_P_chooses ⟨_, rfl, hb⟩ rfl rfl (Nat.le_of_ble_eq_true rfl) (fun K G hK hret => ?_)
    have nx := ho none K G hK hret
    rw [Nat.add_zero] at nx
    have h17 : pm_Go mP_chooses K G 15 [some (.ref 21), some (.int (nI p)), some (.int (cC L)), some (.int (nI lf)), none, none, none] [.int (svA sa B p)] (cH pd si sa hv ha sl sc pl pa tl) 0 0 := by
      refine pm_istore dP_chooses_15 (by decide) (q := 17) rfl ?_
      refine pm_aload_n dP_chooses_17 rfl (q := 18) rfl ?_
      refine pm_get fl_P_18 dP_chooses_18 rfl rfl (q := 21) rfl ?_
      refine pm_iload_n dP_chooses_21 rfl (q := 22) rfl ?_
      refine pm_ialdN dP_chooses_22 rfl hp3 (Nat.le_of_ble_eq_true rfl) (q := 23) rfl ?_
      refine pm_topL e2 ?_
      refine pm_istore dP_chooses_23 (by decide) (q := 25) rfl ?_
      exact nx
    cases p with
    | zero =>
      refine pm_iload_n dP_chooses_0 rfl (q := 1) rfl ?_
      refine pm_if_ne (tgt := 8) dP_chooses_1 rfl (q := 4) rfl (fun z => absurd rfl z) (fun _ => ?_)
      refine pm_iconst (x := 0) dP_chooses_4 (by decide) (q := 5) rfl ?_
      refine pm_goto (tgt := 15) dP_chooses_5 rfl ?_
      exact h17
    | succ q =>
      refine pm_iload_n dP_chooses_0 rfl (q := 1) rfl ?_
      refine pm_if_ne (tgt := 8) dP_chooses_1 rfl (q := 4) rfl (fun _ => ?_) (fun z => absurd z (nI_ne0 (Nat.zero_lt_succ _) (by omega)))
      refine pm_aload_n dP_chooses_8 rfl (q := 9) rfl ?_
      refine pm_iload_n dP_chooses_9 rfl (q := 10) rfl ?_
      refine pm_iconst (x := 1) dP_chooses_10 (by decide) (q := 11) rfl ?_
      refine pm_isub dP_chooses_11 (q := 12) rfl ?_
      refine pm_topL (y := nI q) (nI_pred q) ?_
      refine pm_cV1i hK (kP_staying hl 1 (Nat.le_refl _) hB hB5 (nI q)) mo_P_staying im_P_staying se_P_staying lk_P_132 dP_chooses_12 (by omega) (Nat.le_of_ble_eq_true rfl) (Nat.zero_le _) (Nat.zero_le _) rfl rfl rfl (q := 15) rfl ?_
      exact h17
set_option maxHeartbeats 8000000 in
theorem kP_chooseAll {l : Launch} (hl : l.stackTraces = false) (d : Nat) (hd : 9 ≤ d) {pd : Int32} {si : Nat → Int32} {sa : Nat → Nat → Int32} {hv : Nat → Int32} {ha : Nat → Nat → Nat → Int32} {sl : Int32} {sc : Nat → Nat → Int32} {pl : Int32} {tl : pm_H} {S T D B : Nat} (hS : si 0 = nI S) (hS3 : S ≤ 3) (hT3 : T ≤ 3) (hP : si 2 = nI (D + 1)) (hD3 : D ≤ 3) (hB : si 7 = nI B) (hB5 : B ≤ 5) (hD1 : 1 ≤ D) (n : Nat) (hne : ∀ q, q < D → ¬ (lsA si sa S T B) q = []) {pa : Nat → Nat → Int32} (hI : laI si sa S T B D n pa) {m : Nat} (hm : bo (lsA si sa S T B) D 0 pE = some m) : ∃ (pa2 : Nat → Nat → Int32), (∀ i, (h : i < (pick (lsA si sa S T B) D 0 pE).length) → pa2 4 i = cC ((pick (lsA si sa S T B) D 0 pE)[i])) ∧ pm_Sem l d mP_chooseAll [.ref 21] (cH pd si sa hv ha sl sc pl pa tl) (some (.int (nI m))) (cH pd si sa hv ha sl sc pl pa2 tl) := by
  have hm10 : m ≤ 10 := by
    obtain ⟨e, rfl⟩ : ∃ e, D = e + 1 := ⟨D - 1, by omega⟩
    have := bo_top (fun q h => hne q h) hm
    omega
  have hO : ∀ (c x : Nat) (pa : Nat → Nat → Int32), c + x = m → chI si sa S T B D n pa → ∃ (pa2 : Nat → Nat → Int32), (∀ i, (h : i < (pick (lsA si sa S T B) D 0 pE).length) → pa2 4 i = cC ((pick (lsA si sa S T B) D 0 pE)[i])) ∧ pm_Out l d mP_chooseAll (some (.int (nI m))) (cH pd si sa hv ha sl sc pl pa2 tl) 10 [some (.ref 21), some (.int (nI x))] [] (cH pd si sa hv ha sl sc pl pa tl) := by
    intro c
    induction c with
    | zero =>
      intro x pa hx hI
      have hx : x = m := by omega
      subst hx
      obtain ⟨r, pa2, q1, q2, hw⟩ := kP_chooses (hv := hv) (ha := ha) (pd := pd) (sl := sl) (sc := sc) (pl := pl) (tl := tl) hl hS hS3 hT3 hP hD3 hB hB5 n hne D 0 (by omega) hD1 8 (by omega) pE x x pa (Or.inl ⟨rfl, rfl⟩) hm10 hI hm (Nat.le_refl _)
      rcases q2 with ⟨rfl, _, q4⟩ | ⟨_, q3⟩
      · refine ⟨pa2, fun i h => by have := q4 i h; rw [Nat.zero_add] at this; exact this, fun K G hK hret => ?_⟩
        rw [cC_E] at hw
        refine pm_iload_n dP_chooseAll_10 rfl (q := 11) rfl ?_
        refine pm_bipush (x := 10) dP_chooseAll_11 (by decide) (q := 13) rfl ?_
        refine pm_icmp_gt (tgt := 34) dP_chooseAll_13 rfl (q := 16) rfl (fun z => absurd z (show ¬ nI 10 < nI x from nI_nlt (by omega) (by omega))) (fun _ => ?_)
        refine pm_aload_n dP_chooseAll_16 rfl (q := 17) rfl ?_
        refine pm_iconst (x := 0) dP_chooseAll_17 (by decide) (q := 18) rfl ?_
        refine pm_iconst (x := 0) dP_chooseAll_18 (by decide) (q := 19) rfl ?_
        refine pm_iload_n dP_chooseAll_19 rfl (q := 20) rfl ?_
        refine pm_cV3i hK (hw) mo_P_chooses im_P_chooses se_P_chooses lk_P_128 dP_chooseAll_20 (by omega) (Nat.le_of_ble_eq_true rfl) (Nat.zero_le _) (Nat.zero_le _) rfl rfl rfl (q := 23) rfl ?_
        refine pm_if_eq (tgt := 28) dP_chooseAll_23 rfl (q := 26) rfl (fun z => absurd z (by decide)) (fun _ => ?_)
        refine pm_iload_n dP_chooseAll_26 rfl (q := 27) rfl ?_
        exact pm_retI hret dP_chooseAll_27 rfl
      · exact absurd q3 (Nat.lt_irrefl _)
    | succ c ih =>
      intro x pa hx hI
      obtain ⟨r, pa2, q1, q2, hw⟩ := kP_chooses (hv := hv) (ha := ha) (pd := pd) (sl := sl) (sc := sc) (pl := pl) (tl := tl) hl hS hS3 hT3 hP hD3 hB hB5 n hne D 0 (by omega) hD1 8 (by omega) pE x m pa (Or.inl ⟨rfl, rfl⟩) (by omega) hI hm (by omega)
      rcases q2 with ⟨_, q3, _⟩ | ⟨rfl, q3⟩
      · omega
      · obtain ⟨pa3, s1, ho⟩ := ih (x + 1) pa2 (by omega) q1
        refine ⟨pa3, s1, fun K G hK hret => ?_⟩
        have nx := ho K G hK hret
        rw [cC_E] at hw
        refine pm_iload_n dP_chooseAll_10 rfl (q := 11) rfl ?_
        refine pm_bipush (x := 10) dP_chooseAll_11 (by decide) (q := 13) rfl ?_
        refine pm_icmp_gt (tgt := 34) dP_chooseAll_13 rfl (q := 16) rfl (fun z => absurd z (show ¬ nI 10 < nI x from nI_nlt (by omega) (by omega))) (fun _ => ?_)
        refine pm_aload_n dP_chooseAll_16 rfl (q := 17) rfl ?_
        refine pm_iconst (x := 0) dP_chooseAll_17 (by decide) (q := 18) rfl ?_
        refine pm_iconst (x := 0) dP_chooseAll_18 (by decide) (q := 19) rfl ?_
        refine pm_iload_n dP_chooseAll_19 rfl (q := 20) rfl ?_
        refine pm_cV3i hK (hw) mo_P_chooses im_P_chooses se_P_chooses lk_P_128 dP_chooseAll_20 (by omega) (Nat.le_of_ble_eq_true rfl) (Nat.zero_le _) (Nat.zero_le _) rfl rfl rfl (q := 23) rfl ?_
        refine pm_if_eq (tgt := 28) dP_chooseAll_23 rfl (q := 26) rfl (fun _ => ?_) (fun z => absurd rfl z)
        refine pm_iincL dP_chooseAll_28 rfl (by decide) (y := nI (x + 1)) (by rw [nI_succ]; rfl) (q := 31) rfl ?_
        refine pm_goto (tgt := 10) dP_chooseAll_31 rfl ?_
        exact nx
  obtain ⟨pa2, s1, ho⟩ := hO m 0 (up1 pa 1 (fun _ => 0)) (by omega) ⟨laI_cg hI rfl rfl rfl, lbI_zero⟩
  refine ⟨pa2, s1, ?_⟩
  refine pm_sem hl mo_P_chooseAll ⟨_, rfl, rfl⟩ rfl rfl (Nat.le_of_ble_eq_true rfl) (fun K G hK hret => ?_)
  have nx := ho K G hK hret
  refine pm_aload_n dP_chooseAll_0 rfl (q := 1) rfl ?_
  refine pm_get fl_P_15 dP_chooseAll_1 rfl rfl (q := 4) rfl ?_
  refine pm_iconst (x := 0) dP_chooseAll_4 (by decide) (q := 5) rfl ?_
  refine pm_cS2v hK (kA_fill hl 0 0 rfl (by decide)) mo_A_fill st_A_fill lk_P_122 dP_chooseAll_5 (by omega) (Nat.le_of_ble_eq_true rfl) (Nat.zero_le _) (Nat.zero_le _) (q := 8) rfl ?_
  refine pm_heap (g := (cH pd si sa hv ha sl sc pl (up1 pa 1 (fun _ => 0)) tl)) rfl ?_
  refine pm_iconst (x := 0) dP_chooseAll_8 (by decide) (q := 9) rfl ?_
  refine pm_istore_n dP_chooseAll_9 (by decide) (q := 10) rfl ?_
  exact nx
