/-! the law: replay, verify, report, plan -/
theorem lw_replay {l : Launch} (hl : l.stackTraces = false) {h : pm_H} (hI : lwInv h) (x : Int32) : lwR l mL_replay mM_replay [.int x] h := by
  obtain ⟨pd, si, sa, hv, ha, sl, sc, pl, pa, mi, ma, o, S, T, D, B, N, rs, L, rfl, hS⟩ := hI
  obtain ⟨hK, hM⟩ := lwS_K hS
  obtain ⟨hE, hB, ⟨n1, n2, n3, hr⟩, _, hp⟩ := id hS
  obtain ⟨⟨hS1, hS2, hS3⟩, ⟨hT1, hT2, hT3⟩, _⟩ := id hB
  have e1 : mi 1 = si 0 := hE.1.1
  have e2 : mi 2 = si 1 := hE.1.2.1
  have e4 : mi 4 = si 3 := hE.1.2.2.2.1
  have a3 := hE.2 3 (by decide)
  by_cases k : fw x 0 sl = 0
  · exact ⟨1, 0, _, _, o, kL_replay_no hl 40 (by decide) x k, kM_replay_no hl 40 (by decide) x (by rw [n2, ← n1]; exact k), kM_thrown hl 40 mH_at, lwO_c, ⟨_, _, _, _, _, _, _, _, _, _, _, o, S, T, D, B, N, rs, L, rfl, lwS_thr 1 hS⟩, rfl, fun z => absurd z (by decide)⟩
  · have k2 := k
    rw [n1] at k2
    obtain ⟨n, _, hn, rfl⟩ := fw_ex (a := 0) (b := N) (Nat.zero_le _) (by omega) k2
    have wC := kL_replay_ok (pd := pd) (si := si) (sa := sa) (hv := hv) (ha := ha) (sl := sl) (sc := sc) (pl := pl) (pa := pa) (tl := mH mi ma [pm_l 1 o]) hl 40 (by decide) hS1 hS2 hS3 hT1 hT3 hK n hn (o := o) rfl
    have wM := fun o2 => kM_replay_ok (pd := pd) (si := si) (sa := sa) (hv := up1 hv 0 (pV (sa 3) (aRun (aStep S T (si 3) (sa 3) rs) n 0 pE).2)) (ha := up1 ha 0 (cA (sa 3) (aRun (aStep S T (si 3) (sa 3) rs) n 0 pE).2)) (sl := sl) (sc := sc) (pl := pl) (pa := pa) (mi := mi) (ma := ma) (tl := [pm_l 1 o2]) hl 40 (by decide) (e1.trans hS1) hS2 hS3 (e2.trans hT1) hT3 hM n hn
    rw [e4, a3] at wM
    have ho := aRun_ok (T := T) (cap := si 3) (W := sa 3) hS3 (fun i hi => ⟨((hK.2.2 i hi).1).2.1, rC_s hS3 (hK.2.2 i hi).1⟩) n 0 pE (by omega) (pE_ok T) (pIn_E S)
    refine ⟨0, _, _, _, _, wC, wM _, kM_thrown hl 40 mH_at, lwO_c, ?_, rfl, fun _ => rfl⟩
    refine ⟨_, _, _, _, _, _, _, _, _, _, _, _, S, T, D, B, N, rs, _, rfl, ⟨⟨hE.1, fun j hj => ?_⟩, hB, ⟨n1, n2, n3, fun i hi => ⟨(hr i hi).1, fun j hj => ⟨((hr i hi).2 j hj).1, ?_⟩⟩⟩, ⟨ho.1, ho.2, rfl, rfl, rfl⟩, hp⟩⟩
    · rw [← hE.2 j hj]
      exact if_neg (by omega)
    · rw [← ((hr i hi).2 j hj).2]
      have : up1 ma 14 (sM (aRun (aStep S T (si 3) (sa 3) rs) n 0 pE).2) (10 + j) = ma (10 + j) := if_neg (by omega)
      rw [this]
theorem lw_verify {l : Launch} (hl : l.stackTraces = false) {h : pm_H} (hI : lwInv h) : lwR l mL_verify mM_verify [] h := by
  obtain ⟨pd, si, sa, hv, ha, sl, sc, pl, pa, mi, ma, o, S, T, D, B, N, rs, L, rfl, hS⟩ := hI
  obtain ⟨hK, hM⟩ := lwS_K hS
  obtain ⟨hE, hB, ⟨n1, n2, n3, hr⟩, hC, hp⟩ := id hS
  obtain ⟨⟨hS1, hS2, hS3⟩, ⟨hT1, hT2, hT3⟩, ⟨hD, hD1, hD3⟩, h5, hB7, hB5⟩ := id hB
  have e1 : mi 1 = si 0 := hE.1.1
  have e2 : mi 2 = si 1 := hE.1.2.1
  have e3 : mi 3 = si 2 := hE.1.2.2.1
  have e4 : mi 4 = si 3 := hE.1.2.2.2.1
  have a3 := hE.2 3 (by decide)
  by_cases k : pd = 0
  · exact ⟨1, 0, _, _, o, kL_verify_no hl 40 (by decide) k, kM_verify_no hl 40 (by decide) (by rw [← hp]; exact k), kM_thrown hl 40 mH_at, lwO_c, ⟨_, _, _, _, _, _, _, _, _, _, _, o, S, T, D, B, N, rs, L, rfl, lwS_thr 1 hS⟩, rfl, fun z => absurd z (by decide)⟩
  · have eq : vOut (aStep S T (si 3) (sa 3) rs) (fun i => (rs i).2.1) (badC si sa S B) N (D + 1) 0 0 pE = vOut (aStep S T (mi 4) (ma 3) rs) (fun i => (rs i).2.1) (badM mi ma S) N (D + 1) 0 0 pE := by
      rw [e4, a3]
      exact vOut_cg hS3 (fun i hi => ⟨((hK.2.2 i hi).1).2.1, rC_s hS3 (hK.2.2 i hi).1⟩) _ (fun q M o1 o2 => bad_eq hE o1 hT3 o2 hS1 hS3 h5 hB7 hB5 q) (D + 1) 0 0 pE (Nat.zero_le _) (pE_ok T) (pIn_E S)
    have wC := kL_verify_ok (pd := pd) (si := si) (sa := sa) (hv := hv) (ha := ha) (sl := sl) (sc := sc) (pl := pl) (pa := pa) (tl := mH mi ma [pm_l 1 o]) hl 40 (by decide) hS1 hS2 hS3 hT1 hT3 hD (by omega) (by omega) hB7 hB5 hK k (o := o) rfl
    refine ⟨0, _, _, _, _, wC, kM_verify_ok hl 40 (by decide) (e1.trans hS1) hS2 hS3 (e2.trans hT1) hT3 (e3.trans hD) (by omega) (by omega) hM (by rw [← hp]; exact k), kM_thrown hl 40 mH_at, lwO_c, ?_, rfl, fun _ => ?_⟩
    · refine ⟨_, _, _, _, _, _, _, _, _, _, _, _, S, T, D, B, N, rs, L, rfl, ⟨⟨hE.1, fun j hj => ?_⟩, hB, ⟨n1, n2, n3, fun i hi => ⟨(hr i hi).1, fun j hj => ⟨((hr i hi).2 j hj).1, ?_⟩⟩⟩, hC, hp⟩⟩
      · rw [← hE.2 j hj]
        exact if_neg (by omega)
      · rw [← ((hr i hi).2 j hj).2]
        have : up1 ma 15 (sM (vOut (aStep S T (mi 4) (ma 3) rs) (fun i => (rs i).2.1) (badM mi ma S) N (D + 1) 0 0 pE).2) (10 + j) = ma (10 + j) := if_neg (by omega)
        rw [this]
    · rw [← eq]
      rfl
theorem rep_eq {sa sc ma : Nat → Nat → Int32} {rs : pR} {S N : Nat} (hS3 : S ≤ 3) (a1 : ma 1 = sa 1) (a2 : ma 2 = sa 2) (hr : ∀ i, i < N → rowOk S (rs i) ∧ ∀ j, j < 4 → sc j i = cl j (rs i) ∧ ma (10 + j) i = cl j (rs i)) (q : Int32) : ∀ n, n ≤ N → frc sa sc (fun j => (rs j).1) q 0 n = fMr0 ma q n ∧ frc sa sc (fun j => (rs j).1) q 1 n = fMr1 ma q n ∧ frc sa sc (fun j => (rs j).1) q 2 n = fMr2 ma q n := by
  intro n
  induction n with
  | zero => intro _; exact ⟨rfl, rfl, rfl⟩
  | succ n ih =>
    intro hn
    obtain ⟨i0, i1, i2⟩ := ih (by omega)
    obtain ⟨qr, qj⟩ := hr n (by omega)
    have c1 := (qj 1 (by decide)).1
    have d1 : ma 11 n = cl 1 (rs n) := (qj 1 (by decide)).2
    have d0 : ma 10 n = nI (rs n).1 := (qj 0 (by decide)).2
    have c3 := (qj 3 (by decide)).1
    have d3 : ma 13 n = cl 3 (rs n) := (qj 3 (by decide)).2
    have b5 := qr.1
    obtain ⟨w1, w2, w3⟩ := cl3_on qr hS3
    have cb : (nI (rs n).1).toNatClampNeg = (rs n).1 := nI_clamp (by omega)
    rw [frc, frc, frc, fMr0, fMr1, fMr2, i0, i1, i2, c1, d1, d0, d3, cb, a1, a2]
    refine ⟨?_, ?_, ?_⟩
    · have e : (cl 1 (rs n) = q ∧ ¬ frep sa sc ((fun j => (rs j).1) n) n 0 = 0) ↔ (cl 1 (rs n) = q ∧ ¬ cl 3 (rs n) < 0 ∧ sa 1 (rs n).1 = q) := by
        refine and_congr_right fun hq => ?_
        unfold frep
        rw [if_pos rfl, c3, c1, hq]
        by_cases z : ¬ ne1 (cl 3 (rs n)) = 0 ∧ sa 1 (rs n).1 = q
        · rw [if_pos z]
          exact ⟨fun _ => ⟨fun y => z.1 (w1.mpr y), z.2⟩, fun _ => by decide⟩
        · rw [if_neg z]
          exact ⟨fun y => absurd rfl y, fun y => absurd ⟨fun t => y.1 (w1.mp t), y.2⟩ z⟩
      by_cases z : cl 1 (rs n) = q ∧ ¬ cl 3 (rs n) < 0 ∧ sa 1 (rs n).1 = q
      · rw [if_pos z, if_pos (e.mpr z)]
      · rw [if_neg z, if_neg (fun y => z (e.mp y))]
    · have e : (cl 1 (rs n) = q ∧ ¬ frep sa sc ((fun j => (rs j).1) n) n 1 = 0) ↔ (cl 1 (rs n) = q ∧ cl 3 (rs n) < 0 ∧ sa 2 (rs n).1 = q) := by
        refine and_congr_right fun hq => ?_
        unfold frep
        rw [if_neg (by decide), if_pos rfl, c3, c1, hq]
        by_cases z : ne1 (cl 3 (rs n)) = 0 ∧ sa 2 (rs n).1 = q
        · rw [if_pos z]
          exact ⟨fun _ => ⟨w1.mp z.1, z.2⟩, fun _ => by decide⟩
        · rw [if_neg z]
          exact ⟨fun y => absurd rfl y, fun y => absurd ⟨w1.mpr y.1, y.2⟩ z⟩
      by_cases z : cl 1 (rs n) = q ∧ cl 3 (rs n) < 0 ∧ sa 2 (rs n).1 = q
      · rw [if_pos z, if_pos (e.mpr z)]
      · rw [if_neg z, if_neg (fun y => z (e.mp y))]
    · have e : (cl 1 (rs n) = q ∧ ¬ frep sa sc ((fun j => (rs j).1) n) n 2 = 0) ↔ (cl 1 (rs n) = q ∧ ¬ cl 3 (rs n) < 0 ∧ ¬ sa 1 (rs n).1 = q) := by
        refine and_congr_right fun hq => ?_
        unfold frep
        rw [if_neg (by decide), if_neg (by decide), c3, c1, hq]
        by_cases z : ¬ ne1 (cl 3 (rs n)) = 0 ∧ ¬ sa 1 (rs n).1 = q
        · rw [if_pos z]
          exact ⟨fun _ => ⟨fun y => z.1 (w1.mpr y), z.2⟩, fun _ => by decide⟩
        · rw [if_neg z]
          exact ⟨fun y => absurd rfl y, fun y => absurd ⟨fun t => y.1 (w1.mp t), y.2⟩ z⟩
      by_cases z : cl 1 (rs n) = q ∧ ¬ cl 3 (rs n) < 0 ∧ ¬ sa 1 (rs n).1 = q
      · rw [if_pos z, if_pos (e.mpr z)]
      · rw [if_neg z, if_neg (fun y => z (e.mp y))]
theorem lw_report {l : Launch} (hl : l.stackTraces = false) {h : pm_H} (hI : lwInv h) (x y : Int32) : lwR l mL_report mM_report [.int x, .int y] h := by
  obtain ⟨pd, si, sa, hv, ha, sl, sc, pl, pa, mi, ma, o, S, T, D, B, N, rs, L, rfl, hS⟩ := hI
  obtain ⟨hE, hB, ⟨n1, n2, n3, hr⟩, _, _⟩ := id hS
  have hS3 := hB.1.2.2
  have e3 : mi 3 = si 2 := hE.1.2.2.1
  have inv : ∀ (k : Int32) (o2 : Nat → Int64), lwInv (cH pd si sa hv ha sl sc pl pa (mH (up1 mi 0 k) ma [pm_l 1 o2])) := fun k o2 => ⟨_, _, _, _, _, _, _, _, _, _, _, o2, S, T, D, B, N, rs, L, rfl, lwS_thr k hS⟩
  by_cases k : ¬ fw x 0 (si 2 - 1) = 0 ∧ ¬ fw y 0 2 = 0
  · obtain ⟨j, _, j2, rfl⟩ := fw_ex (a := 0) (b := 2) (by decide) (by decide) k.2
    have m0 : ¬ fw x 0 (mi 3 - 1) = 0 := by rw [e3]; exact k.1
    have hbx : ∀ j, j < N → (rs j).1 < 5 := fun j hj => (hr j hj).1.1
    have hm : ∀ j, j < N → sc 0 j = nI (rs j).1 := fun j hj => ((hr j hj).2 0 (by decide)).1
    have hbm : ∀ j, j < N → vp_in (ma 10 j) 5 := fun j hj => by
      have e : ma 10 j = nI (rs j).1 := ((hr j hj).2 0 (by decide)).2
      rw [e]
      exact vp_in_nI (hbx j hj) (by decide)
    obtain ⟨r0, r1, r2⟩ := rep_eq hS3 (hE.2 1 (by decide)) (hE.2 2 (by decide)) hr x N (Nat.le_refl _)
    have u : j = 0 ∨ j = 1 ∨ j = 2 := by omega
    rcases u with rfl | rfl | rfl
    · exact ⟨0, _, _, _, _, kL_report_0 hl 40 (by decide) x (o := o) rfl N n1 n3 (fun j => (rs j).1) hbx hm k.1, kM_report_0 hl 40 (by decide) x n2 (by omega) hbm m0, kM_thrown hl 40 mH_at, lwO_c, inv 0 _, rfl, fun _ => by
        show (frc sa sc (fun j => (rs j).1) x 0 N).toInt64 = _
        rw [r0]⟩
    · exact ⟨0, _, _, _, _, kL_report_1 hl 40 (by decide) x (o := o) rfl N n1 n3 (fun j => (rs j).1) hbx hm k.1, kM_report_1 hl 40 (by decide) x n2 (by omega) hbm m0, kM_thrown hl 40 mH_at, lwO_c, inv 0 _, rfl, fun _ => by
        show (frc sa sc (fun j => (rs j).1) x 1 N).toInt64 = _
        rw [r1]⟩
    · exact ⟨0, _, _, _, _, kL_report_2 hl 40 (by decide) x (o := o) rfl N n1 n3 (fun j => (rs j).1) hbx hm k.1, kM_report_2 hl 40 (by decide) x n2 (by omega) hbm m0, kM_thrown hl 40 mH_at, lwO_c, inv 0 _, rfl, fun _ => by
        show (frc sa sc (fun j => (rs j).1) x 2 N).toInt64 = _
        rw [r2]⟩
  · have k0 : (if ¬ fw x 0 (si 2 - 1) = 0 ∧ ¬ fw y 0 2 = 0 then (1 : Int32) else 0) = 0 := by rw [if_neg k]
    have k1 : fw x 0 (mi 3 - 1) = 0 ∨ fw y 0 2 = 0 := by
      rw [e3]
      by_cases z : fw x 0 (si 2 - 1) = 0
      · exact Or.inl z
      · by_cases z2 : fw y 0 2 = 0
        · exact Or.inr z2
        · exact absurd ⟨z, z2⟩ k
    exact ⟨1, 0, _, _, o, kL_report_no hl 40 (by decide) x y k0, kM_report_no hl 40 (by decide) x y k1, kM_thrown hl 40 mH_at, lwO_c, inv 1 o, rfl, fun z => absurd z (by decide)⟩
def rsL (R : List pQ) : pR := fun i => (R[i]?).getD (0, 0, none, 0)
theorem rsL_at {R : List pQ} {i : Nat} (h : i < R.length) : rsL R i = R[i] := by
  unfold rsL
  rw [List.getElem?_eq_getElem h]
  rfl
theorem maW_4 (ma : Nat → Nat → Int32) (n : Nat) (R : List pQ) : ∀ j, j < 4 → maW ma n R (10 + j) = lsW (ma (10 + j)) n (R.map (cl j)) := by
  intro j hj
  have u : j = 0 ∨ j = 1 ∨ j = 2 ∨ j = 3 := by omega
  rcases u with rfl | rfl | rfl | rfl <;> rfl
theorem maW_o (ma : Nat → Nat → Int32) (n : Nat) (R : List pQ) (j : Nat) (h : j < 10 ∨ 13 < j) : maW ma n R j = ma j := by
  unfold maW
  rw [if_neg (by omega), if_neg (by omega), if_neg (by omega), if_neg (by omega)]
theorem ls_num {R : List pQ} (f : Nat → Int32) (j i : Nat) (h : i < R.length) : lsW f 0 (R.map (cl j)) i = cl j (rsL R i) := by
  have := lsW_at (R.map (cl j)) f 0 i (by rw [List.length_map]; exact h)
  rw [Nat.zero_add] at this
  rw [this, List.getElem_map, rsL_at h]
theorem lw_plan {l : Launch} (hl : l.stackTraces = false) {h : pm_H} (hI : lwInv h) : ∃ (k : Int32) (h1 h2 : pm_H), pm_Sem l 40 mB_plan [.ref 0] h (some (.int k)) h1 ∧ pm_Sem l 40 mM_plan [.ref 31] h1 (some (.int k)) h2 ∧ lwO h1 ∧ lwInv h2 := by
  obtain ⟨pd, si, sa, hv, ha, sl, sc, pl, pa, mi, ma, o, S, T, D, B, N, rs, L, rfl, hS⟩ := hI
  obtain ⟨hE, hB, _, _, _⟩ := id hS
  obtain ⟨⟨hS1, hS2, hS3⟩, ⟨hT1, hT2, hT3⟩, ⟨hD, hD1, hD3⟩, h5, hB7, hB5⟩ := id hB
  have e1 : mi 1 = si 0 := hE.1.1
  have e2 : mi 2 = si 1 := hE.1.2.1
  have e3 : mi 3 = si 2 := hE.1.2.2.1
  obtain ⟨x, y, n, pa2, hc⟩ := kB_plan (pd := pd) (hv := hv) (ha := ha) (sl := sl) (sc := sc) (pl := pl) (pa := pa) (tl := mH mi ma [pm_l 1 o]) hl 40 (by decide) hS1 hS2 hS3 hT1 hT3 hD hD1 hD3 hB7 hB5
  have hlen : ∀ p, (lsA si sa S T B p).length ≤ 2600 := fun p => by
    have a := lsA_len (si := si) (sa := sa) (S := S) (T := T) (B := B) p
    have b := wt5_le (duP sa B p) pE
    by_cases z : wt5 (duP sa B p) pE = 5
    · rw [z, eNum_5] at a
      omega
    · have := eNum_le (show wt5 (duP sa B p) pE < 5 by omega)
      omega
  have km : ∀ (pd2 : Int32) (hv2 : Nat → Int32) (ha2 : Nat → Nat → Nat → Int32) (sl2 : Int32) (sc2 : Nat → Nat → Int32) (pl2 : Int32) (pa3 : Nat → Nat → Int32), _ := fun pd2 hv2 ha2 sl2 sc2 pl2 pa3 => kM_plan (pd := pd2) (si := si) (sa := sa) (hv := hv2) (ha := ha2) (sl := sl2) (sc := sc2) (pl := pl2) (pa := pa3) (mi := mi) (ma := ma) (tl := [pm_l 1 o]) hl 40 (by decide) (S := S) (T := T) (D := D) (e1.trans hS1) hS3 (e2.trans hT1) hT3 (e3.trans hD) hD1 hD3 (lsA si sa S T B) (fun p _ => lm_ls hE hT3 hS1 hS3 h5 hB7 hB5 p) (fun p _ => hlen p) (fun p _ N hN => ⟨(lsA_arr hN).1.1, (lsA_arr hN).2, (lsA_arr hN).1.2.1⟩)
  rcases hc with ⟨m, hne, hm, hw⟩ | ⟨⟨q, hq, hqe⟩, hw⟩
  · obtain ⟨ma2, hag, hor⟩ := km 1 (up1 (up1 hv 0 0) 2 x) (up1 (up1 ha 0 empA) 2 y) (nI (mvAll 0 pE (pick (lsA si sa S T B) D 0 pE)).length) (scW sc 0 (mvAll 0 pE (pick (lsA si sa S T B) D 0 pE))) (nI n) pa2
    rcases hor with ⟨m2, hm2, hw2⟩ | ⟨hm2, _⟩
    · rw [hm] at hm2
      cases hm2
      refine ⟨nI m, _, _, hw, hw2, lwO_c, ?_⟩
      have hRl := pick_mv hD3 hne
      have hRo := mvAll_ok (T := T) (S := S) (P := D + 1) (pick (lsA si sa S T B) D 0 pE) 0 pE (pE_ok T) (pE_in S) (fun N hN => ⟨(pick_ok N hN).1, (pick_ok N hN).2.1⟩) (by rw [pick_len D 0 pE (fun q _ b => hne q (by omega))]; omega)
      generalize mvAll 0 pE (pick (lsA si sa S T B) D 0 pE) = R at *
      refine ⟨_, _, _, _, _, _, _, _, _, _, _, o, S, T, D, B, R.length, rsL R, pE, rfl, ⟨⟨hE.1, fun j hj => ?_⟩, hB, ⟨rfl, rfl, hRl, fun i hi => ⟨?_, fun j hj => ⟨?_, ?_⟩⟩⟩, ⟨pE_ok T, pIn_E S, empA_cA (sa 3), (pV_E (sa 3)).symm, ?_⟩, rfl⟩⟩
      · rw [maW_o _ _ _ _ (Or.inl (by omega)), hag j (by omega) (by omega) (by omega) (by omega), ← hE.2 j hj]
        exact if_neg (by omega)
      · rw [rsL_at hi]
        obtain ⟨r1, r2, r3⟩ := hRo _ (List.getElem_mem hi)
        refine ⟨r1, by omega, ?_⟩
        generalize R[i] = r at *
        obtain ⟨b, p, fr, to⟩ := r
        cases fr with
        | some s => exact r3
        | none => exact Nat.lt_of_lt_of_le r3 hS3
      · exact ls_num _ _ _ hi
      · rw [maW_4 _ _ _ j hj]
        exact ls_num _ _ _ hi
      · rw [maW_o _ _ _ _ (Or.inr (by decide)), hag 14 (by decide) (by decide) (by decide) (by decide), sM_E]
        rfl
    · rw [hm] at hm2
      cases hm2
  · obtain ⟨ma2, hag, hor⟩ := km 0 (up1 (up1 hv 0 0) 2 x) (up1 (up1 ha 0 empA) 2 y) 0 sc (nI n) pa2
    have hbn := bo_none (A := lsA si sa S T B) D 0 pE ⟨q, Nat.zero_le _, by omega, hqe⟩
    rcases hor with ⟨m2, hm2, _⟩ | ⟨_, hw2⟩
    · rw [hbn] at hm2
      cases hm2
    · refine ⟨-1, _, _, hw, hw2, lwO_c, ?_⟩
      refine ⟨_, _, _, _, _, _, _, _, _, _, _, o, S, T, D, B, 0, rs, pE, rfl, ⟨⟨hE.1, fun j hj => ?_⟩, hB, ⟨rfl, rfl, Nat.zero_le _, fun i hi => absurd hi (Nat.not_lt_zero _)⟩, ⟨pE_ok T, pIn_E S, empA_cA (sa 3), (pV_E (sa 3)).symm, ?_⟩, rfl⟩⟩
      · rw [hag j (by omega) (by omega) (by omega) (by omega), ← hE.2 j hj]
        exact if_neg (by omega)
      · rw [hag 14 (by decide) (by decide) (by decide) (by decide), sM_E]
        rfl
