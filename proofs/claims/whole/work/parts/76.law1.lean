/-! the law: what holds between two calls, and each call -/
def rowOk (S : Nat) (r : pQ) : Prop := r.1 < 5 ∧ r.2.1 < 4 ∧ (match r.2.2.1 with | some s => s < S | none => r.2.2.2 < 3)
def lwS (pd : Int32) (si : Nat → Int32) (sa : Nat → Nat → Int32) (hv : Nat → Int32) (ha : Nat → Nat → Nat → Int32) (sl : Int32) (sc : Nat → Nat → Int32) (mi : Nat → Int32) (ma : Nat → Nat → Int32) (S T D B N : Nat) (rs : pR) (L : pL) : Prop :=
  shEq si sa mi ma ∧ ((si 0 = nI S ∧ 1 ≤ S ∧ S ≤ 3) ∧ (si 1 = nI T ∧ 1 ≤ T ∧ T ≤ 3) ∧ (si 2 = nI (D + 1) ∧ 1 ≤ D ∧ D ≤ 3) ∧ 0 ≤ si 5 ∧ (si 7 = nI B ∧ B ≤ 5)) ∧
  (sl = nI N ∧ mi 19 = nI N ∧ N ≤ 30 ∧ ∀ i, i < N → rowOk S (rs i) ∧ ∀ j, j < 4 → sc j i = cl j (rs i) ∧ ma (10 + j) i = cl j (rs i)) ∧
  (pOk L T ∧ pIn L S ∧ ha 0 = cA (sa 3) L ∧ hv 0 = pV (sa 3) L ∧ ma 14 = sM L) ∧ pd = mi 18
def lwInv (h : pm_H) : Prop := ∃ (pd : Int32) (si : Nat → Int32) (sa : Nat → Nat → Int32) (hv : Nat → Int32) (ha : Nat → Nat → Nat → Int32) (sl : Int32) (sc : Nat → Nat → Int32) (pl : Int32) (pa : Nat → Nat → Int32) (mi : Nat → Int32) (ma : Nat → Nat → Int32) (o : Nat → Int64) (S T D B N : Nat) (rs : pR) (L : pL), h = cH pd si sa hv ha sl sc pl pa (mH mi ma [pm_l 1 o]) ∧ lwS pd si sa hv ha sl sc mi ma S T D B N rs L
/-- the objects stand where they stand -/
def lwO (h : pm_H) : Prop := (∃ fs, h[0]? = some (.inl (0, fs))) ∧ ∃ fs, h[31]? = some (.inl (5, fs))
theorem lwO_c {pd : Int32} {si : Nat → Int32} {sa : Nat → Nat → Int32} {hv : Nat → Int32} {ha : Nat → Nat → Nat → Int32} {sl : Int32} {sc : Nat → Nat → Int32} {pl : Int32} {pa : Nat → Nat → Int32} {mi : Nat → Int32} {ma : Nat → Nat → Int32} {tl : pm_H} : lwO (cH pd si sa hv ha sl sc pl pa (mH mi ma tl)) := ⟨⟨_, rfl⟩, ⟨_, rfl⟩⟩
theorem lwInv_o {h : pm_H} (hI : lwInv h) : lwO h := by
  obtain ⟨pd, si, sa, hv, ha, sl, sc, pl, pa, mi, ma, o, S, T, D, B, N, rs, L, rfl, hS⟩ := hI
  exact lwO_c
/-- a call without an answer -/
def lwV (l : Launch) (ML MM : pm_M) (as : List Value) (h : pm_H) : Prop := ∃ (k : Int32) (h1 h2 : pm_H), pm_SemC l 40 ML (.ref 0 :: as) h (some (.int k)) h1 ∧ pm_Sem l 40 MM (.ref 31 :: as) h1 none h2 ∧ pm_Sem l 40 mM_thrown [.ref 31] h2 (some (.int k)) h2 ∧ lwO h1 ∧ lwInv h2
/-- a call with an answer -/
def lwR (l : Launch) (ML MM : pm_M) (as : List Value) (h : pm_H) : Prop := ∃ (k b : Int32) (h1 h2 : pm_H) (o : Nat → Int64), pm_SemC l 40 ML (.ref 0 :: (as ++ [.ref 48])) h (some (.int k)) h1 ∧ pm_Sem l 40 MM (.ref 31 :: as) h1 (some (.int b)) h2 ∧ pm_Sem l 40 mM_thrown [.ref 31] h2 (some (.int k)) h2 ∧ lwO h1 ∧ lwInv h2 ∧ h2[48]? = some (pm_l 1 o) ∧ (k = 0 → o 0 = b.toInt64)
theorem fw_ex {x : Int32} {a b : Nat} (ha : a ≤ b) (hb : b < 2 ^ 31) (h : ¬ fw x (nI a) (nI b) = 0) : ∃ j, a ≤ j ∧ j ≤ b ∧ x = nI j := by
  unfold fw at h
  by_cases z : nI a ≤ x ∧ x ≤ nI b
  · have h0 : ¬ x < 0 := Int32.not_lt.mpr (Int32.le_trans (nI_z a (by omega)) z.1)
    obtain ⟨j, hj, e⟩ := nI_of h0
    subst e
    exact ⟨j, (nI_leI (by omega) hj).mp z.1, (nI_leI hj hb).mp z.2, rfl⟩
  · rw [if_neg z] at h
    exact absurd rfl h
theorem lwS_thr {pd : Int32} {si : Nat → Int32} {sa : Nat → Nat → Int32} {hv : Nat → Int32} {ha : Nat → Nat → Nat → Int32} {sl : Int32} {sc : Nat → Nat → Int32} {mi : Nat → Int32} {ma : Nat → Nat → Int32} {S T D B N : Nat} {rs : pR} {L : pL} (x : Int32) (h : lwS pd si sa hv ha sl sc mi ma S T D B N rs L) : lwS pd si sa hv ha sl sc (up1 mi 0 x) ma S T D B N rs L := h
theorem lwS_drop {si : Nat → Int32} {sa : Nat → Nat → Int32} {hv : Nat → Int32} {ha : Nat → Nat → Nat → Int32} {sc : Nat → Nat → Int32} {mi : Nat → Int32} {ma : Nat → Nat → Int32} {S T D B : Nat} {rs : pR} (hE : shEq si sa mi ma) (hS : si 0 = nI S ∧ 1 ≤ S ∧ S ≤ 3) (hT : si 1 = nI T ∧ 1 ≤ T ∧ T ≤ 3) (hD : si 2 = nI (D + 1) ∧ 1 ≤ D ∧ D ≤ 3) (h5 : 0 ≤ si 5) (hB : si 7 = nI B ∧ B ≤ 5) (e8 : mi 18 = 0) (e9 : mi 19 = 0) (e14 : ma 14 = fun _ => -1) : lwS 0 si sa (up1 hv 0 0) (up1 ha 0 empA) 0 sc mi ma S T D B 0 rs pE :=
  ⟨hE, ⟨hS, hT, hD, h5, hB⟩, ⟨rfl, e9, Nat.zero_le _, fun i hi => absurd hi (Nat.not_lt_zero _)⟩, ⟨pE_ok T, pIn_E S, empA_cA (sa 3), (pV_E (sa 3)).symm, by rw [e14, sM_E]⟩, e8.symm⟩
theorem lwS_K {pd : Int32} {si : Nat → Int32} {sa : Nat → Nat → Int32} {hv : Nat → Int32} {ha : Nat → Nat → Nat → Int32} {sl : Int32} {sc : Nat → Nat → Int32} {mi : Nat → Int32} {ma : Nat → Nat → Int32} {S T D B N : Nat} {rs : pR} {L : pL} (h : lwS pd si sa hv ha sl sc mi ma S T D B N rs L) : scK S sl sc rs N ∧ scM mi ma rs N := by
  obtain ⟨_, ⟨⟨_, _, hS3⟩, _⟩, ⟨e1, e2, e3, hr⟩, _⟩ := h
  refine ⟨⟨e1, e3, fun i hi => ?_⟩, ⟨e2, by omega, fun i hi => ?_⟩⟩
  · obtain ⟨⟨q1, q2, q3⟩, q4⟩ := hr i hi
    refine ⟨⟨(q4 0 (by decide)).1, q1, ?_⟩, (q4 1 (by decide)).1, q2⟩
    have c2 := (q4 2 (by decide)).1
    have c3 := (q4 3 (by decide)).1
    generalize rs i = r at *
    obtain ⟨b, p, fr, to⟩ := r
    cases fr with
    | none => exact ⟨c3, q3⟩
    | some s => exact ⟨c3, c2, q3⟩
  · obtain ⟨⟨q1, q2, q3⟩, q4⟩ := hr i hi
    refine ⟨⟨(q4 0 (by decide)).2, q1, ?_⟩, (q4 1 (by decide)).2, q2⟩
    have c2 := (q4 2 (by decide)).2
    have c3 := (q4 3 (by decide)).2
    generalize rs i = r at *
    obtain ⟨b, p, fr, to⟩ := r
    cases fr with
    | none => exact ⟨c2, c3, q3⟩
    | some s => exact ⟨c2, Nat.lt_of_lt_of_le q3 hS3⟩
theorem lw_bay {l : Launch} (hl : l.stackTraces = false) {h : pm_H} (hI : lwInv h) (a b c e f g : Int32) : lwV l mL_bay mM_bay [.int a, .int b, .int c, .int e, .int f, .int g] h := by
  obtain ⟨pd, si, sa, hv, ha, sl, sc, pl, pa, mi, ma, o, S, T, D, B, N, rs, L, rfl, hS⟩ := hI
  by_cases hg : ¬ fw a 1 3 = 0 ∧ ¬ fw b 1 3 = 0 ∧ ¬ fw c 2 4 = 0 ∧ ¬ fw e 1 200 = 0 ∧ ¬ fw f 0 2000 = 0 ∧ ¬ fw g 0 2000 = 0
  · obtain ⟨k0, k1, k2, k3, k4, k5⟩ := hg
    refine ⟨0, _, _, kL_bay_ok hl 40 (by decide) a b c e f g k0 k1 k2 k3 k4 k5, kM_bay_ok hl 40 (by decide) a b c e f g k0 k1 k2 k3 k4 k5, kM_thrown hl 40 mH_at, lwO_c, ?_⟩
    obtain ⟨S2, s1, s2, es⟩ := fw_ex (a := 1) (b := 3) (by decide) (by decide) k0
    obtain ⟨T2, t1, t2, et⟩ := fw_ex (a := 1) (b := 3) (by decide) (by decide) k1
    obtain ⟨P2, p1, p2, ep⟩ := fw_ex (a := 2) (b := 4) (by decide) (by decide) k2
    obtain ⟨G2, g1, g2, eg⟩ := fw_ex (a := 0) (b := 2000) (by decide) (by decide) k5
    obtain ⟨D2, rfl⟩ : ∃ D2, P2 = D2 + 1 := ⟨P2 - 1, by omega⟩
    refine ⟨_, _, _, _, _, _, _, _, _, _, _, o, S2, T2, D2, 0, 0, rs, pE, rfl, ?_⟩
    obtain ⟨⟨_, hm⟩, _⟩ := hS
    refine lwS_drop ⟨⟨rfl, rfl, rfl, rfl, rfl, rfl, rfl⟩, fun j hj => ?_⟩ ⟨es, s1, s2⟩ ⟨et, t1, t2⟩ ⟨ep, by omega, by omega⟩ (by show (0 : Int32) ≤ g; rw [eg]; exact nI_z G2 (by omega)) ⟨rfl, by decide⟩ rfl rfl rfl
    have u : j = 0 ∨ j = 1 ∨ j = 2 ∨ j = 3 ∨ j = 4 ∨ j = 5 := by omega
    rcases u with rfl | rfl | rfl | rfl | rfl | rfl
    · show upd (upd (upd (ma 0) 0 0) 1 0) 2 0 = upd (upd (upd (sa 0) 0 0) 1 0) 2 0
      rw [hm 0 (by decide)]
    · exact hm 1 (by decide)
    · exact hm 2 (by decide)
    · exact hm 3 (by decide)
    · exact hm 4 (by decide)
    · exact hm 5 (by decide)
  · exact ⟨1, _, _, kL_bay_no hl 40 (by decide) a b c e f g hg, kM_bay_no hl 40 (by decide) a b c e f g hg, kM_thrown hl 40 mH_at, lwO_c, ⟨_, _, _, _, _, _, _, _, _, _, _, o, S, T, D, B, N, rs, L, rfl, lwS_thr 1 hS⟩⟩
theorem lw_plug {l : Launch} (hl : l.stackTraces = false) {h : pm_H} (hI : lwInv h) (x y : Int32) : lwV l mL_plug mM_plug [.int x, .int y] h := by
  obtain ⟨pd, si, sa, hv, ha, sl, sc, pl, pa, mi, ma, o, S, T, D, B, N, rs, L, rfl, hS⟩ := hI
  obtain ⟨hE, ⟨⟨hS1, hS2, hS3⟩, hT, hD, h5, hB⟩, _⟩ := id hS
  have e1 := hE.1.1
  by_cases k0 : fw x 0 (si 0 - 1) = 0
  · exact ⟨1, _, _, kL_plug_no hl 40 (by decide) x y k0, kM_plug_no hl 40 (by decide) x y (by rw [e1]; exact k0), kM_thrown hl 40 mH_at, lwO_c, ⟨_, _, _, _, _, _, _, _, _, _, _, o, S, T, D, B, N, rs, L, rfl, lwS_thr 1 hS⟩⟩
  · have hx : vp_in x 3 := by
      obtain ⟨s, rfl⟩ : ∃ s, S = s + 1 := ⟨S - 1, by omega⟩
      rw [hS1, nI_pred] at k0
      obtain ⟨j, _, j2, rfl⟩ := fw_ex (a := 0) (b := s) (Nat.zero_le _) (by omega) k0
      exact vp_in_nI (by omega) (by decide)
    refine ⟨0, _, _, kL_plug_ok hl 40 (by decide) x y k0 hx, kM_plug_ok hl 40 (by decide) x y (by rw [e1]; exact k0) hx, kM_thrown hl 40 mH_at, lwO_c, ?_⟩
    refine ⟨_, _, _, _, _, _, _, _, _, _, _, o, S, T, D, B, 0, rs, pE, rfl, ?_⟩
    refine lwS_drop ⟨hE.1, fun j hj => ?_⟩ ⟨hS1, hS2, hS3⟩ hT hD h5 hB rfl rfl rfl
    have hm := hE.2
    have u : j = 0 ∨ j = 1 ∨ j = 2 ∨ j = 3 ∨ j = 4 ∨ j = 5 := by omega
    rcases u with rfl | rfl | rfl | rfl | rfl | rfl
    · show upd (ma 0) x.toNatClampNeg (vp_nar .boolean y) = upd (sa 0) x.toNatClampNeg (vp_nar .boolean y)
      rw [hm 0 (by decide)]
    · exact hm 1 (by decide)
    · exact hm 2 (by decide)
    · exact hm 3 (by decide)
    · exact hm 4 (by decide)
    · exact hm 5 (by decide)
theorem lw_roll {l : Launch} (hl : l.stackTraces = false) {h : pm_H} (hI : lwInv h) (x : Int32) : lwV l mL_roll mM_roll [.int x] h := by
  obtain ⟨pd, si, sa, hv, ha, sl, sc, pl, pa, mi, ma, o, S, T, D, B, N, rs, L, rfl, hS⟩ := hI
  obtain ⟨hE, ⟨hS1, hT, hD, h5, hB, hB5⟩, _⟩ := id hS
  have e8 : mi 8 = si 7 := hE.1.2.2.2.2.2.2
  have hm := hE.2
  have hx : ¬ fw x 0 (si 7 - 1) = 0 → vp_in x 5 := by
    intro k
    cases B with
    | zero =>
      rw [hB] at k
      exfalso
      unfold fw at k
      by_cases z : 0 ≤ x ∧ x ≤ nI 0 - 1
      · have : (0 : Int32) ≤ nI 0 - 1 := Int32.le_trans z.1 z.2
        exact absurd this (by decide)
      · rw [if_neg z] at k
        exact k rfl
    | succ b =>
      rw [hB, nI_pred] at k
      obtain ⟨j, _, j2, rfl⟩ := fw_ex (a := 0) (b := b) (Nat.zero_le _) (by omega) k
      exact vp_in_nI (by omega) (by decide)
  have no : ∀ (hM : pm_Sem l 40 mM_roll [.ref 31, .int x] (cH pd si sa hv ha sl sc pl pa (mH mi ma [pm_l 1 o])) none (cH pd si sa hv ha sl sc pl pa (mH (up1 mi 0 1) ma [pm_l 1 o]))), fhasBox si sa x = 0 → lwV l mL_roll mM_roll [.int x] (cH pd si sa hv ha sl sc pl pa (mH mi ma [pm_l 1 o])) :=
    fun hM k => ⟨1, _, _, kL_roll_no hl 40 (by decide) x k hx, hM, kM_thrown hl 40 mH_at, lwO_c, ⟨_, _, _, _, _, _, _, _, _, _, _, o, S, T, D, B, N, rs, L, rfl, lwS_thr 1 hS⟩⟩
  by_cases k0 : fw x 0 (si 7 - 1) = 0
  · exact no (kM_roll_no hl 40 (by decide) x (by rw [e8]; exact k0)) (by unfold fhasBox; rw [if_pos k0])
  · by_cases k1 : sa 5 x.toNatClampNeg = 0
    · have kb : ¬ fhasBox si sa x = 0 := by unfold fhasBox; rw [if_neg k0, if_pos k1]; decide
      refine ⟨0, _, _, kL_roll_ok hl 40 (by decide) x kb hx, kM_roll_ok hl 40 (by decide) x (by rw [e8]; exact k0) (hx k0) (by rw [hm 5 (by decide)]; exact k1), kM_thrown hl 40 mH_at, lwO_c, ?_⟩
      refine ⟨_, _, _, _, _, _, _, _, _, _, _, o, S, T, D, B, 0, rs, pE, rfl, ?_⟩
      refine lwS_drop ⟨hE.1, fun j hj => ?_⟩ hS1 hT hD h5 ⟨hB, hB5⟩ rfl rfl rfl
      have u : j = 0 ∨ j = 1 ∨ j = 2 ∨ j = 3 ∨ j = 4 ∨ j = 5 := by omega
      rcases u with rfl | rfl | rfl | rfl | rfl | rfl
      · exact hm 0 (by decide)
      · exact hm 1 (by decide)
      · exact hm 2 (by decide)
      · exact hm 3 (by decide)
      · exact hm 4 (by decide)
      · show upd (ma 5) x.toNatClampNeg 1 = upd (sa 5) x.toNatClampNeg 1
        rw [hm 5 (by decide)]
    · exact no (kM_roll_gone hl 40 (by decide) x (by rw [e8]; exact k0) (hx k0) (by rw [hm 5 (by decide)]; exact k1)) (by unfold fhasBox; rw [if_neg k0, if_neg k1])
theorem lw_box {l : Launch} (hl : l.stackTraces = false) {h : pm_H} (hI : lwInv h) (x y w k : Int32) : lwR l mL_box mM_box [.int x, .int y, .int w, .int k] h := by
  obtain ⟨pd, si, sa, hv, ha, sl, sc, pl, pa, mi, ma, o, S, T, D, B, N, rs, L, rfl, hS⟩ := hI
  obtain ⟨hE, ⟨hS1, hT, hD, h5, hB, hB5⟩, _⟩ := id hS
  have e8 : mi 8 = si 7 := hE.1.2.2.2.2.2.2
  have e3 : mi 3 = si 2 := hE.1.2.2.1
  have hm := hE.2
  by_cases hg : ¬ fw x 0 (mi 3 - 1) = 0 ∧ ¬ fw y 0 (mi 3 - 1) = 0 ∧ x < y ∧ ¬ fw w 1 40 = 0 ∧ ¬ fw k 0 3 = 0
  · have hg2 := hg
    rw [e3] at hg2
    obtain ⟨c1, c2, c3, k1, k2⟩ := hg2
    have k0 : ¬ (if ¬ fw x 0 (si 2 - 1) = 0 ∧ ¬ fw y 0 (si 2 - 1) = 0 ∧ x < y then (1 : Int32) else 0) = 0 := by
      rw [if_pos ⟨c1, c2, c3⟩]; decide
    by_cases full : B = 5
    · have f7 : si 7 = 5 := by rw [hB, full]; rfl
      exact ⟨2, 0, _, _, o, kL_box_full hl 40 (by decide) x y w k k0 k1 k2 (by rw [f7]; decide), kM_box_full hl 40 (by decide) x y w k hg (by rw [e8]; exact f7), kM_thrown hl 40 mH_at, lwO_c, ⟨_, _, _, _, _, _, _, _, _, _, _, o, S, T, D, B, N, rs, L, rfl, lwS_thr 2 hS⟩, rfl, fun z => absurd z (by decide)⟩
    · have lt5 : si 7 < 5 := by rw [hB]; exact (show nI B < nI 5 from nI_lt (by omega) (by decide))
      have v5 : vp_in (si 7) 5 := by rw [hB]; exact vp_in_nI (by omega) (by decide)
      have ne5 : ¬ mi 8 = 5 := by rw [e8, hB]; exact fun z => full (nI_inj (by omega) (by decide) (show nI B = nI 5 from z))
      refine ⟨0, mi 8 + 1 - 1, _, _, vp_updL o 0 (si 7).toInt64, kL_box_ok hl 40 (by decide) x y w k (o := o) rfl k0 k1 k2 lt5 v5, kM_box_ok hl 40 (by decide) x y w k hg ne5 (by rw [e8]; exact v5), kM_thrown hl 40 mH_at, lwO_c, ?_, rfl, fun _ => ?_⟩
      · refine ⟨_, _, _, _, _, _, _, _, _, _, _, vp_updL o 0 (si 7).toInt64, S, T, D, B + 1, 0, rs, pE, rfl, ?_⟩
        refine lwS_drop ⟨⟨hE.1.1, hE.1.2.1, hE.1.2.2.1, hE.1.2.2.2.1, hE.1.2.2.2.2.1, hE.1.2.2.2.2.2.1, ?_⟩, fun j hj => ?_⟩ hS1 hT hD h5 ⟨?_, by omega⟩ rfl rfl rfl
        · show mi 8 + 1 = si 7 + 1
          rw [e8]
        · have u : j = 0 ∨ j = 1 ∨ j = 2 ∨ j = 3 ∨ j = 4 ∨ j = 5 := by omega
          rcases u with rfl | rfl | rfl | rfl | rfl | rfl
          · exact hm 0 (by decide)
          · show upd (ma 1) (mi 8).toNatClampNeg x = upd (sa 1) (si 7).toNatClampNeg x
            rw [hm 1 (by decide), e8]
          · show upd (ma 2) (mi 8).toNatClampNeg y = upd (sa 2) (si 7).toNatClampNeg y
            rw [hm 2 (by decide), e8]
          · show upd (ma 3) (mi 8).toNatClampNeg w = upd (sa 3) (si 7).toNatClampNeg w
            rw [hm 3 (by decide), e8]
          · show upd (ma 4) (mi 8).toNatClampNeg k = upd (sa 4) (si 7).toNatClampNeg k
            rw [hm 4 (by decide), e8]
          · show upd (ma 5) (mi 8).toNatClampNeg 0 = upd (sa 5) (si 7).toNatClampNeg 0
            rw [hm 5 (by decide), e8]
        · show si 7 + 1 = nI (B + 1)
          rw [hB, nI_succ]
      · show (si 7).toInt64 = (mi 8 + 1 - 1).toInt64
        rw [e8, Int32.add_sub_cancel]
  · have hno : ¬ (¬ (if ¬ fw x 0 (si 2 - 1) = 0 ∧ ¬ fw y 0 (si 2 - 1) = 0 ∧ x < y then (1 : Int32) else 0) = 0 ∧ ¬ fw w 1 40 = 0 ∧ ¬ fw k 0 3 = 0) := by
      rintro ⟨z1, z2, z3⟩
      apply hg
      rw [e3]
      by_cases z : ¬ fw x 0 (si 2 - 1) = 0 ∧ ¬ fw y 0 (si 2 - 1) = 0 ∧ x < y
      · exact ⟨z.1, z.2.1, z.2.2, z2, z3⟩
      · rw [if_neg z] at z1
        exact absurd rfl z1
    exact ⟨1, 0, _, _, o, kL_box_no hl 40 (by decide) x y w k hno, kM_box_no hl 40 (by decide) x y w k hg, kM_thrown hl 40 mH_at, lwO_c, ⟨_, _, _, _, _, _, _, _, _, _, _, o, S, T, D, B, N, rs, L, rfl, lwS_thr 1 hS⟩, rfl, fun z => absurd z (by decide)⟩
