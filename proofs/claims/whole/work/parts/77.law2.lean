/-! the law: calls on the script and the crane -/
theorem fall01 (si f g u : Nat → Int32) (sa : Nat → Nat → Int32) : ∀ m j, fall si f g u sa m j = 0 ∨ fall si f g u sa m j = 1 := by
  intro m
  induction m with
  | zero => intro j; exact Or.inr rfl
  | succ m ih =>
    intro j
    rw [fall]
    split
    · exact Or.inl rfl
    · exact ih (j + 1)
theorem fsound01 (si f g u : Nat → Int32) (sa : Nat → Nat → Int32) (v : Int32) (S : Nat) : fsound si f g u sa v S = 0 ∨ fsound si f g u sa v S = 1 := by
  unfold fsound
  split
  · exact Or.inl rfl
  · split
    · exact fall01 si f g u sa S 0
    · exact Or.inl rfl
/-- a number within so many -/
theorem fw_num {x : Int32} {n m : Nat} (hn : n ≤ m) (hm : m < 2 ^ 31) (h : ¬ fw x 0 (nI n - 1) = 0) : ∃ j, j < n ∧ x = nI j := by
  cases n with
  | zero =>
    exfalso
    unfold fw at h
    by_cases z : 0 ≤ x ∧ x ≤ nI 0 - 1
    · exact absurd (Int32.le_trans z.1 z.2) (by decide)
    · rw [if_neg z] at h
      exact h rfl
  | succ b =>
    rw [nI_pred] at h
    obtain ⟨j, _, j2, e⟩ := fw_ex (a := 0) (b := b) (Nat.zero_le _) (by omega) h
    exact ⟨j, by omega, e⟩
theorem lw_moves {l : Launch} (hl : l.stackTraces = false) {h : pm_H} (hI : lwInv h) : ∃ (k : Int32) (h2 : pm_H), pm_Sem l 40 mB_moves [.ref 0] h (some (.int k)) h ∧ pm_Sem l 40 mM_moves [.ref 31] h (some (.int k)) h2 ∧ lwInv h2 := by
  obtain ⟨pd, si, sa, hv, ha, sl, sc, pl, pa, mi, ma, o, S, T, D, B, N, rs, L, rfl, hS⟩ := hI
  have e : mi 19 = sl := hS.2.2.1.2.1.trans hS.2.2.1.1.symm
  have w := kM_moves (pd := pd) (si := si) (sa := sa) (hv := hv) (ha := ha) (sl := sl) (sc := sc) (pl := pl) (pa := pa) (mi := mi) (ma := ma) (tl := [pm_l 1 o]) hl 40
  rw [e] at w
  exact ⟨sl, _, kB_moves hl 40, w, ⟨_, _, _, _, _, _, _, _, _, _, _, o, S, T, D, B, N, rs, L, rfl, lwS_thr 0 hS⟩⟩
theorem out3 {y : Int32} (h : fw y 0 3 = 0) : y.toInt < 0 ∨ 3 < y.toInt := by
  unfold fw at h
  by_cases z : 0 ≤ y ∧ y ≤ 3
  · rw [if_pos z] at h; exact absurd h (by decide)
  · by_cases z1 : 0 ≤ y
    · refine Or.inr ?_
      have z2 : ¬ y ≤ 3 := fun w => z ⟨z1, w⟩
      have := Int32.lt_iff_toInt_lt.mp (Int32.not_le.mp z2)
      exact this
    · refine Or.inl ?_
      have := Int32.lt_iff_toInt_lt.mp (Int32.not_le.mp z1)
      exact this
theorem out5 {y : Int32} (h : fw y 0 5 = 0) : y.toInt < 0 ∨ 5 < y.toInt := by
  unfold fw at h
  by_cases z : 0 ≤ y ∧ y ≤ 5
  · rw [if_pos z] at h; exact absurd h (by decide)
  · by_cases z1 : 0 ≤ y
    · refine Or.inr ?_
      have z2 : ¬ y ≤ 5 := fun w => z ⟨z1, w⟩
      have := Int32.lt_iff_toInt_lt.mp (Int32.not_le.mp z2)
      exact this
    · refine Or.inl ?_
      have := Int32.lt_iff_toInt_lt.mp (Int32.not_le.mp z1)
      exact this
theorem lw_move {l : Launch} (hl : l.stackTraces = false) {h : pm_H} (hI : lwInv h) (x y : Int32) : lwR l mL_move mM_move [.int x, .int y] h := by
  obtain ⟨pd, si, sa, hv, ha, sl, sc, pl, pa, mi, ma, o, S, T, D, B, N, rs, L, rfl, hS⟩ := hI
  obtain ⟨_, _, ⟨e1, e2, e3, hr⟩, _⟩ := id hS
  have inv : ∀ (k : Int32) (o2 : Nat → Int64), lwInv (cH pd si sa hv ha sl sc pl pa (mH (up1 mi 0 k) ma [pm_l 1 o2])) := fun k o2 => ⟨_, _, _, _, _, _, _, _, _, _, _, o2, S, T, D, B, N, rs, L, rfl, lwS_thr k hS⟩
  by_cases km : fw x 0 (sl - 1) = 0
  · exact ⟨1, 0, _, _, o, kL_move_no hl 40 (by decide) x y km, kM_move_no hl 40 (by decide) x y (by rw [e2, ← e1]; exact km), kM_thrown hl 40 mH_at, lwO_c, inv 1 o, rfl, fun z => absurd z (by decide)⟩
  · have km2 : ¬ fw x 0 (mi 19 - 1) = 0 := by rw [e2, ← e1]; exact km
    have km3 := km
    rw [e1] at km3
    obtain ⟨i, hi, rfl⟩ := fw_num (m := 30) e3 (by decide) km3
    have v30 : vp_in (nI i) 30 := vp_in_nI (by omega) (by decide)
    have v60 : vp_in (nI i) 60 := vp_in_nI (by omega) (by decide)
    have ci : (nI i).toNatClampNeg = i := nI_clamp (by omega)
    have q := (hr i hi).2
    by_cases ky : fw y 0 3 = 0
    · exact ⟨2, 0, _, _, o, kL_move_bad hl 40 (by decide) (nI i) y km (out3 ky), kM_move_bad hl 40 (by decide) (nI i) y km2 ky, kM_thrown hl 40 mH_at, lwO_c, inv 2 o, rfl, fun z => absurd z (by decide)⟩
    · obtain ⟨j, _, j3, rfl⟩ := fw_ex (a := 0) (b := 3) (by decide) (by decide) ky
      have u : j = 0 ∨ j = 1 ∨ j = 2 ∨ j = 3 := by omega
      rcases u with rfl | rfl | rfl | rfl
      · exact ⟨0, _, _, _, _, kL_move_0 hl 40 (by decide) (nI i) (o := o) rfl km v30, kM_move_0 hl 40 (by decide) (nI i) km2 v60, kM_thrown hl 40 mH_at, lwO_c, inv 0 _, rfl, fun _ => by
          show (sc 0 (nI i).toNatClampNeg).toInt64 = (ma 10 (nI i).toNatClampNeg).toInt64
          rw [ci, (q 0 (by decide)).1, (q 0 (by decide)).2]⟩
      · exact ⟨0, _, _, _, _, kL_move_1 hl 40 (by decide) (nI i) (o := o) rfl km v30, kM_move_1 hl 40 (by decide) (nI i) km2 v60, kM_thrown hl 40 mH_at, lwO_c, inv 0 _, rfl, fun _ => by
          show (sc 1 (nI i).toNatClampNeg).toInt64 = (ma 11 (nI i).toNatClampNeg).toInt64
          rw [ci, (q 1 (by decide)).1, (q 1 (by decide)).2]⟩
      · exact ⟨0, _, _, _, _, kL_move_2 hl 40 (by decide) (nI i) (o := o) rfl km v30, kM_move_2 hl 40 (by decide) (nI i) km2 v60, kM_thrown hl 40 mH_at, lwO_c, inv 0 _, rfl, fun _ => by
          show (sc 2 (nI i).toNatClampNeg).toInt64 = (ma 12 (nI i).toNatClampNeg).toInt64
          rw [ci, (q 2 (by decide)).1, (q 2 (by decide)).2]⟩
      · exact ⟨0, _, _, _, _, kL_move_3 hl 40 (by decide) (nI i) (o := o) rfl km v30, kM_move_3 hl 40 (by decide) (nI i) km2 v60, kM_thrown hl 40 mH_at, lwO_c, inv 0 _, rfl, fun _ => by
          show (sc 3 (nI i).toNatClampNeg).toInt64 = (ma 13 (nI i).toNatClampNeg).toInt64
          rw [ci, (q 3 (by decide)).1, (q 3 (by decide)).2]⟩
/-- a move that puts a box on -/
theorem cl3_on {S : Nat} {r : pQ} (h : rowOk S r) (hS : S ≤ 3) : (ne1 (cl 3 r) = 0 ↔ cl 3 r < 0) ∧ (¬ cl 3 r < 0 → r.2.2.1 = none) ∧ (¬ ne1 (cl 3 r) = 0 ↔ 0 ≤ cl 3 r) := by
  obtain ⟨b, p, fr, to⟩ := r
  obtain ⟨q1, q2, q3⟩ := h
  cases fr with
  | some s =>
    have e : cl 3 (b, p, some s, to) = -1 := rfl
    rw [e]
    exact ⟨⟨fun _ => by decide, fun _ => by decide⟩, fun z => absurd (by decide) z, ⟨fun z => absurd (by decide) z, fun z => absurd z (by decide)⟩⟩
  | none =>
    have e : cl 3 (b, p, none, to) = nI to := rfl
    have q3 : to < 3 := q3
    rw [e]
    have n1 : ne1 (nI to) = 1 := by unfold ne1; rw [if_neg (nI_ne_m1 (by omega))]
    rw [n1]
    exact ⟨⟨fun z => absurd z (by decide), fun z => absurd z (nI_pos (by omega))⟩, fun _ => rfl, ⟨fun _ => nI_z to (by omega), fun _ => by decide⟩⟩
theorem lw_hand {l : Launch} (hl : l.stackTraces = false) {h : pm_H} (hI : lwInv h) (x y : Int32) : lwV l mL_hand mM_hand [.int x, .int y] h := by
  obtain ⟨pd, si, sa, hv, ha, sl, sc, pl, pa, mi, ma, o, S, T, D, B, N, rs, L, rfl, hS⟩ := hI
  obtain ⟨hE, hB, ⟨e1, e2, e3, hr⟩, hC, hp⟩ := id hS
  have hS3 := hB.1.2.2
  have inv : ∀ (k : Int32), lwInv (cH pd si sa hv ha sl sc pl pa (mH (up1 mi 0 k) ma [pm_l 1 o])) := fun k => ⟨_, _, _, _, _, _, _, _, _, _, _, o, S, T, D, B, N, rs, L, rfl, lwS_thr k hS⟩
  by_cases km : fw x 0 (sl - 1) = 0
  · exact ⟨1, _, _, kL_hand_no hl 40 (by decide) x y km, kM_hand_no hl 40 (by decide) x y (by rw [e2, ← e1]; exact km), kM_thrown hl 40 mH_at, lwO_c, inv 1⟩
  · have km2 : ¬ fw x 0 (mi 19 - 1) = 0 := by rw [e2, ← e1]; exact km
    have km3 := km
    rw [e1] at km3
    obtain ⟨i, hi, rfl⟩ := fw_num (m := 30) e3 (by decide) km3
    have v30 : vp_in (nI i) 30 := vp_in_nI (by omega) (by decide)
    have v60 : vp_in (nI i) 60 := vp_in_nI (by omega) (by decide)
    have ci : (nI i).toNatClampNeg = i := nI_clamp (by omega)
    obtain ⟨qr, q⟩ := hr i hi
    have c3 := (q 3 (by decide)).1
    have d3 : ma 13 i = cl 3 (rs i) := (q 3 (by decide)).2
    obtain ⟨w1, w2, w3⟩ := cl3_on qr hS3
    by_cases ky : ¬ fw y 0 2 = 0 ∧ ¬ ne1 (sc 3 (nI i).toNatClampNeg) = 0
    · have k0 : ¬ (if ¬ fw y 0 2 = 0 ∧ ¬ ne1 (sc 3 (nI i).toNatClampNeg) = 0 then (1 : Int32) else 0) = 0 := by rw [if_pos ky]; decide
      have kn := ky.2
      rw [ci, c3] at kn
      have k2 : 0 ≤ ma 13 (nI i).toNatClampNeg := by rw [ci, d3]; exact w3.mp kn
      refine ⟨0, _, _, kL_hand_ok hl 40 (by decide) (nI i) y km v30 k0, kM_hand_ok hl 40 (by decide) (nI i) y km2 v60 ky.1 k2, kM_thrown hl 40 mH_at, lwO_c, ?_⟩
      obtain ⟨s, _, s2, rfl⟩ := fw_ex (a := 0) (b := 2) (by decide) (by decide) ky.1
      have hnone := w2 (fun z => kn (w1.mpr z))
      refine ⟨_, _, _, _, _, _, _, _, _, _, _, o, S, T, D, B, N, fun j => if j = i then ((rs i).1, (rs i).2.1, none, s) else rs j, L, rfl, ⟨⟨hE.1, fun j hj => ?_⟩, hB, ⟨e1, e2, e3, fun j hj => ?_⟩, hC, hp⟩⟩
      · have u : j = 0 ∨ j = 1 ∨ j = 2 ∨ j = 3 ∨ j = 4 ∨ j = 5 := by omega
        rcases u with rfl | rfl | rfl | rfl | rfl | rfl
        · exact hE.2 0 (by decide)
        · exact hE.2 1 (by decide)
        · exact hE.2 2 (by decide)
        · exact hE.2 3 (by decide)
        · exact hE.2 4 (by decide)
        · exact hE.2 5 (by decide)
      · rw [ci]
        by_cases z : j = i
        · subst z
          dsimp only
          rw [if_pos rfl]
          refine ⟨⟨qr.1, qr.2.1, show s < 3 by omega⟩, fun t ht => ?_⟩
          have u : t = 0 ∨ t = 1 ∨ t = 2 ∨ t = 3 := by omega
          rcases u with rfl | rfl | rfl | rfl
          · exact q 0 (by decide)
          · exact q 1 (by decide)
          · have e : cl 2 ((rs j).1, (rs j).2.1, none, s) = cl 2 (rs j) := by
              unfold cl
              rw [hnone]
              rfl
            rw [e]
            exact q 2 (by decide)
          · exact ⟨upd_at _ _ _, upd_at _ _ _⟩
        · dsimp only
          rw [if_neg z]
          refine ⟨(hr j hj).1, fun t ht => ?_⟩
          have q := (hr j hj).2
          have u : t = 0 ∨ t = 1 ∨ t = 2 ∨ t = 3 := by omega
          rcases u with rfl | rfl | rfl | rfl
          · exact q 0 (by decide)
          · exact q 1 (by decide)
          · exact q 2 (by decide)
          · refine ⟨?_, ?_⟩
            · show upd (sc 3) i (nI s) j = _
              rw [upd_ne _ _ z]
              exact (q 3 (by decide)).1
            · show upd (ma 13) i (nI s) j = _
              rw [upd_ne _ _ z]
              exact (q 3 (by decide)).2
    · have k0 : (if ¬ fw y 0 2 = 0 ∧ ¬ ne1 (sc 3 (nI i).toNatClampNeg) = 0 then (1 : Int32) else 0) = 0 := by rw [if_neg ky]
      refine ⟨2, _, _, kL_hand_bad hl 40 (by decide) (nI i) y km v30 k0, kM_hand_bad hl 40 (by decide) (nI i) y km2 v60 (fun z => ky ⟨z.1, ?_⟩), kM_thrown hl 40 mH_at, lwO_c, inv 2⟩
      rw [ci, c3]
      have z2 := z.2
      rw [ci, d3] at z2
      exact w3.mpr z2
theorem lw_slot {l : Launch} (hl : l.stackTraces = false) {h : pm_H} (hI : lwInv h) (x y : Int32) : lwR l mL_slot mM_slot [.int x, .int y] h := by
  obtain ⟨pd, si, sa, hv, ha, sl, sc, pl, pa, mi, ma, o, S, T, D, B, N, rs, L, rfl, hS⟩ := hI
  obtain ⟨hE, hB, _, hC, _⟩ := id hS
  obtain ⟨⟨hS1, hS2, hS3⟩, ⟨hT1, hT2, hT3⟩, _⟩ := hB
  have e1 : mi 1 = si 0 := hE.1.1
  have e2 : mi 2 = si 1 := hE.1.2.1
  have inv : ∀ (k : Int32) (o2 : Nat → Int64), lwInv (cH pd si sa hv ha sl sc pl pa (mH (up1 mi 0 k) ma [pm_l 1 o2])) := fun k o2 => ⟨_, _, _, _, _, _, _, _, _, _, _, o2, S, T, D, B, N, rs, L, rfl, lwS_thr k hS⟩
  by_cases k : ¬ fw x 0 (si 0 - 1) = 0 ∧ ¬ fw y 0 (si 1 - 1) = 0
  · have k0 : ¬ (if ¬ fw x 0 (si 0 - 1) = 0 ∧ ¬ fw y 0 (si 1 - 1) = 0 then (1 : Int32) else 0) = 0 := by rw [if_pos k]; decide
    have m1 : ¬ fw x 0 (mi 1 - 1) = 0 := by rw [e1]; exact k.1
    have m2 : ¬ fw y 0 (mi 2 - 1) = 0 := by rw [e2]; exact k.2
    have kx := k.1
    have ky := k.2
    rw [hS1] at kx
    rw [hT1] at ky
    obtain ⟨s, hs, rfl⟩ := fw_num (m := 3) hS3 (by decide) kx
    obtain ⟨t, ht, rfl⟩ := fw_num (m := 3) hT3 (by decide) ky
    have ea : nI s * 3 + nI t = nI (3 * s + t) := by rw [nI_st, show s * 3 + t = 3 * s + t by omega]
    have eb : 3 * nI s + nI t = nI (3 * s + t) := nI_ts s t
    have v : vp_in (nI (3 * s + t)) 9 := vp_in_nI (by omega) (by decide)
    have ci : (nI (3 * s + t)).toNatClampNeg = 3 * s + t := nI_clamp (by omega)
    refine ⟨0, _, _, _, _, kL_slot_ok hl 40 (by decide) (nI s) (nI t) (o := o) rfl (by rw [ea]; exact v) k0, kM_slot_ok hl 40 (by decide) (nI s) (nI t) m1 m2 (by rw [eb]; exact v), kM_thrown hl 40 mH_at, lwO_c, inv 0 _, rfl, fun _ => ?_⟩
    show (ha 0 0 (nI s * 3 + nI t).toNatClampNeg).toInt64 = (ma 14 (3 * nI s + nI t).toNatClampNeg).toInt64
    rw [ea, eb, ci, hC.2.2.1, hC.2.2.2.2]
    rfl
  · have k0 : (if ¬ fw x 0 (si 0 - 1) = 0 ∧ ¬ fw y 0 (si 1 - 1) = 0 then (1 : Int32) else 0) = 0 := by rw [if_neg k]
    exact ⟨1, 0, _, _, o, kL_slot_no hl 40 (by decide) x y k0, kM_slot_no hl 40 (by decide) x y (by rw [e1, e2]; exact k), kM_thrown hl 40 mH_at, lwO_c, inv 1 o, rfl, fun z => absurd z (by decide)⟩
theorem lw_moment {l : Launch} (hl : l.stackTraces = false) {h : pm_H} (hI : lwInv h) (x : Int32) : lwR l mL_moment mM_moment [.int x] h := by
  obtain ⟨pd, si, sa, hv, ha, sl, sc, pl, pa, mi, ma, o, S, T, D, B, N, rs, L, rfl, hS⟩ := hI
  obtain ⟨hE, hB, _, hC, _⟩ := id hS
  obtain ⟨⟨hS1, hS2, hS3⟩, ⟨hT1, hT2, hT3⟩, _, h5, _⟩ := hB
  obtain ⟨hL, iL, ca, cv, cm⟩ := hC
  have e1 : mi 1 = si 0 := hE.1.1
  have m1 : mi 1 = nI S := e1.trans hS1
  have a3 := hE.2 3 (by decide)
  have hf : ∀ k, k < 9 → ¬ ma 14 k < 0 → vp_in (ma 14 k) 5 := by rw [cm]; exact sM_f5 hL
  have inv : ∀ (k : Int32) (o2 : Nat → Int64), lwInv (cH pd si sa hv ha sl sc pl pa (mH (up1 mi 0 k) ma [pm_l 1 o2])) := fun k o2 => ⟨_, _, _, _, _, _, _, _, _, _, _, o2, S, T, D, B, N, rs, L, rfl, lwS_thr k hS⟩
  by_cases k : fw x 0 5 = 0
  · exact ⟨1, 0, _, _, o, kL_moment_no hl 40 (by decide) x (out5 k), kM_moment_no hl 40 (by decide) x k, kM_thrown hl 40 mH_at, lwO_c, inv 1 o, rfl, fun z => absurd z (by decide)⟩
  · obtain ⟨j, _, j3, rfl⟩ := fw_ex (a := 0) (b := 5) (by decide) (by decide) k
    have u : j = 0 ∨ j = 1 ∨ j = 2 ∨ j = 3 ∨ j = 4 ∨ j = 5 := by omega
    rcases u with rfl | rfl | rfl | rfl | rfl | rfl
    · exact ⟨0, _, _, _, _, kL_moment_0 hl 40 (by decide) (o := o) rfl, kM_moment_0 hl 40 (by decide) hf m1 hS3, kM_thrown hl 40 mH_at, lwO_c, inv 0 _, rfl, fun _ => by
        show (hv 0).toInt64 = (fM_v (ma 14) (ma 3) 9).toInt64
        rw [cv, cm, a3, fM_v_val hL hT3]⟩
    · exact ⟨0, _, _, _, _, kL_moment_1 hl 40 (by decide) (o := o) rfl hS1 hS3, kM_moment_1 hl 40 (by decide) hf m1 hS3, kM_thrown hl 40 mH_at, lwO_c, inv 0 _, rfl, fun _ => by
        show (fsl si (ha 0 2) S).toInt64 = (fM_l (up1 mi 0 0) (ma 14) (ma 3) S).toInt64
        rw [ca, cm, a3, fM_l_val (mi := up1 mi 0 0) (si := si) hL hT3 (sa 3) e1]
        rfl⟩
    · exact ⟨0, _, _, _, _, kL_moment_2 hl 40 (by decide) (o := o) rfl, kM_moment_2 hl 40 (by decide) hf m1 hS3, kM_thrown hl 40 mH_at, lwO_c, inv 0 _, rfl, fun _ => by
        show (ha 0 2 0).toInt64 = (fM_w (ma 14) (ma 3) 0 3).toInt64
        rw [ca, cm, a3, sM_w hL hT3]
        rfl⟩
    · exact ⟨0, _, _, _, _, kL_moment_3 hl 40 (by decide) (o := o) rfl, kM_moment_3 hl 40 (by decide) hf m1 hS3, kM_thrown hl 40 mH_at, lwO_c, inv 0 _, rfl, fun _ => by
        show (ha 0 2 1).toInt64 = (fM_w (ma 14) (ma 3) 1 3).toInt64
        rw [ca, cm, a3, sM_w hL hT3]
        rfl⟩
    · exact ⟨0, _, _, _, _, kL_moment_4 hl 40 (by decide) (o := o) rfl, kM_moment_4 hl 40 (by decide) hf m1 hS3, kM_thrown hl 40 mH_at, lwO_c, inv 0 _, rfl, fun _ => by
        show (ha 0 2 2).toInt64 = (fM_w (ma 14) (ma 3) 2 3).toInt64
        rw [ca, cm, a3, sM_w hL hT3]
        rfl⟩
    · have HO : HoldOk si (ha 0 0) (ha 0 1) S := by rw [ca]; exact hold_ok hL hT3 hS1 hS3
      exact ⟨0, _, _, _, _, kL_moment_5 hl 40 (by decide) (o := o) rfl HO, kM_moment_5 hl 40 (by decide) hf m1 hS3, kM_thrown hl 40 mH_at, lwO_c, inv 0 _, rfl, fun _ => by
        show (fsound si (ha 0 0) (ha 0 1) (ha 0 2) sa (hv 0) S).toInt64 = (if fM_so (up1 mi 0 0) (ma 14) ma S S = 0 then (0 : Int32) else 1).toInt64
        have q := sound_eq (mi := up1 mi 0 0) (ma := ma) hL hT3 iL hS1 hS3 e1 hE.1.2.2.2.1 hE.1.2.2.2.2.1 hE.1.2.2.2.2.2.1 h5 (hE.2 0 (by decide)) a3 (hE.2 4 (by decide))
        rw [cm, ca, cv]
        show (fsound si (sM L) (fun s => nI (L s).length) (fun s => pW (sa 3) (L s)) sa (pV (sa 3) L) S).toInt64 = _
        rcases fsound01 si (sM L) (fun s => nI (L s).length) (fun s => pW (sa 3) (L s)) sa (pV (sa 3) L) S with z | z
        · rw [z, if_pos (by
            by_cases w : fM_so (up1 mi 0 0) (sM L) ma S S = 0
            · exact w
            · exact absurd z (q.mpr w))]
        · rw [z, if_neg (q.mp (by rw [z]; decide))]⟩
