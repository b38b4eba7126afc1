/-! the model: reckon, choose -/
/-- the lists of the departures stand in the model's arrays -/
def mlI (A : Nat → List pL) (ma : Nat → Nat → Int32) (p : Nat) : Prop := ma 8 p = nI (A p).length ∧ (A p).length ≤ 2600 ∧ ∀ i, (h : i < (A p).length) → ma 6 (2600 * p + i) = cM ((A p)[i])
/-- what is least behind them too -/
def mbI (A : Nat → List pL) (D : Nat) (f : Nat → Int32) (p : Nat) : Prop := ∀ i, (h : i < (A p).length) → f (2600 * p + i) = oI (bh A D p ((A p)[i]))
theorem k26' (q : Nat) : 2600 * nI q = nI (2600 * q) := by
  rw [show (2600 : Int32) = nI 2600 from rfl, nI_mulm]
theorem oI_neg {o : Option Nat} (h : o = none) : oI o < 0 := by rw [h]; decide
set_option maxHeartbeats 16000000 in
theorem kM_reckon {l : Launch} (hl : l.stackTraces = false) (d : Nat) (hd : 3 ≤ d) {pd : Int32} {si : Nat → Int32} {sa : Nat → Nat → Int32} {hv : Nat → Int32} {ha : Nat → Nat → Nat → Int32} {sl : Int32} {sc : Nat → Nat → Int32} {pl : Int32} {pa : Nat → Nat → Int32} {mi : Nat → Int32} {ma : Nat → Nat → Int32} {tl : pm_H} {T D : Nat} (hT3 : T ≤ 3) (hP : mi 3 = nI (D + 1)) (hD3 : D ≤ 3) (A : Nat → List pL) (hA : ∀ p, p < D → ∀ N ∈ A p, pOk N T ∧ ∀ b, ct N b ≤ 1) (q : Nat) (hq : q < D) (hl0 : mlI A ma q) (hl1 : q + 1 < D → mlI A ma (q + 1)) (hb1 : q + 1 < D → mbI A D (ma 7) (q + 1)) : pm_Sem l d mM_reckon [.ref 31, .int (nI q)] (cH pd si sa hv ha sl sc pl pa (mH mi ma tl)) none (cH pd si sa hv ha sl sc pl pa (mH mi (up1 ma 7 (lsW (ma 7) (2600 * q) ((A q).map (fun N => oI (bh A D q N))))) tl)) := by
  refine pm_sem hl mo_M_reckon rfl rfl rfl (Nat.le_of_ble_eq_true rfl) (fun K G hK hret => ?_)
  obtain ⟨hm0, hc0, hf0⟩ := id hl0
  have hq3 : q < 3 := by omega
  have eD : mi 3 - 2 = nI D - 1 := by rw [hP, nI_succ]; exact (by intro x; show x + 1 - 2 = x - 1; rw [show (2 : Int32) = 1 + 1 from rfl, ← Int32.sub_sub, Int32.add_sub_cancel] : ∀ x : Int32, x + 1 - 2 = x - 1) (nI D)
  have eD2 : mi 3 - 2 = nI (D - 1) := by rw [eD]; obtain ⟨e, rfl⟩ : ∃ e, D = e + 1 := ⟨D - 1, by omega⟩; exact nI_pred e
  have hO : ∀ (m i : Nat) (o3 o4 o5 : Option Value), m + i = (A q).length → pm_Go mM_reckon K G 6 [some (.ref 31), some (.int (nI q)), some (.int (nI (2600 * q + i))), o3, o4, o5] [] (cH pd si sa hv ha sl sc pl pa (mH mi (up1 ma 7 (lsW (ma 7) (2600 * q) (((A q).take i).map (fun N => oI (bh A D q N))))) tl)) 0 0 := by
    intro m
    induction m with
    | zero =>
      intro i o3 o4 o5 hi
      have hi : i = (A q).length := by omega
      subst hi
      rw [List.take_length]
      refine pm_iload_n dM_reckon_6 rfl (q := 7) rfl ?_
      refine pm_sipush (x := 2600) dM_reckon_7 (by decide) (q := 10) rfl ?_
      refine pm_iload_n dM_reckon_10 rfl (q := 11) rfl ?_
      refine pm_imul dM_reckon_11 (q := 12) rfl ?_
      refine pm_aload_n dM_reckon_12 rfl (q := 13) rfl ?_
      refine pm_get fl_M_54 dM_reckon_13 rfl rfl (q := 16) rfl ?_
      refine pm_iload_n dM_reckon_16 rfl (q := 17) rfl ?_
      refine pm_ialdN dM_reckon_17 rfl hq3 (Nat.le_of_ble_eq_true rfl) (q := 18) rfl ?_
      refine pm_topL (y := nI (A q).length) hm0 ?_
      refine pm_iadd dM_reckon_18 (q := 19) rfl ?_
      refine pm_topL (k26 q (A q).length) ?_
      refine pm_icmp_ge (tgt := 185) dM_reckon_19 rfl (q := 22) rfl (fun _ => ?_) (fun z => absurd (nI_le (Nat.le_refl _) (by omega)) z)
      exact pm_retV hret dM_reckon_185 rfl
    | succ m ih =>
      intro i o3 o4 o5 hi
      have hi9 : i < (A q).length := by omega
      have hidx : 2600 * q + i < 7800 := by omega
      have hM := hA q hq _ (List.getElem_mem hi9)
      have efi := hf0 i hi9
      have zs : (lsW (ma 7) (2600 * q) (((A q).take (i + 1)).map (fun N => oI (bh A D q N)))) = upd (lsW (ma 7) (2600 * q) (((A q).take i).map (fun N => oI (bh A D q N)))) (2600 * q + i) (oI (bh A D q ((A q)[i]))) := by
        rw [take_snoc hi9, List.map_append, List.map_singleton, lsW_snoc, List.length_map, List.length_take, Nat.min_eq_left (by omega)]
      by_cases hlast : q + 1 = D
      · have eb : oI (bh A D q ((A q)[i])) = 0 := by
          unfold bh
          rw [show D - 1 - q = 0 by omega]
          rfl
        have nx := ih (i + 1) (some (.int 0)) o4 o5 (by omega)
        rw [zs, eb] at nx
        refine pm_iload_n dM_reckon_6 rfl (q := 7) rfl ?_
        refine pm_sipush (x := 2600) dM_reckon_7 (by decide) (q := 10) rfl ?_
        refine pm_iload_n dM_reckon_10 rfl (q := 11) rfl ?_
        refine pm_imul dM_reckon_11 (q := 12) rfl ?_
        refine pm_aload_n dM_reckon_12 rfl (q := 13) rfl ?_
        refine pm_get fl_M_54 dM_reckon_13 rfl rfl (q := 16) rfl ?_
        refine pm_iload_n dM_reckon_16 rfl (q := 17) rfl ?_
        refine pm_ialdN dM_reckon_17 rfl hq3 (Nat.le_of_ble_eq_true rfl) (q := 18) rfl ?_
        refine pm_topL (y := nI (A q).length) hm0 ?_
        refine pm_iadd dM_reckon_18 (q := 19) rfl ?_
        refine pm_topL (k26 q (A q).length) ?_
        refine pm_icmp_ge (tgt := 185) dM_reckon_19 rfl (q := 22) rfl (fun z => absurd z (nI_ge (by omega) (by omega))) (fun _ => ?_)
        refine pm_aload_n dM_reckon_22 rfl (q := 23) rfl ?_
        refine pm_get fl_M_51 dM_reckon_23 rfl rfl (q := 26) rfl ?_
        refine pm_iload_n dM_reckon_26 rfl (q := 27) rfl ?_
        refine pm_iload_n dM_reckon_27 rfl (q := 28) rfl ?_
        refine pm_aload_n dM_reckon_28 rfl (q := 29) rfl ?_
        refine pm_get fl_M_16 dM_reckon_29 rfl rfl (q := 32) rfl ?_
        refine pm_iconst (x := 2) dM_reckon_32 (by decide) (q := 33) rfl ?_
        refine pm_isub dM_reckon_33 (q := 34) rfl ?_
        refine pm_topL (y := nI (D - 1)) eD2 ?_
        refine pm_icmp_ne (tgt := 41) dM_reckon_34 rfl (q := 37) rfl (fun z => absurd (by rw [show D - 1 = q by omega]) z) (fun _ => ?_)
        refine pm_iconst (x := 0) dM_reckon_37 (by decide) (q := 38) rfl ?_
        refine pm_goto (tgt := 42) dM_reckon_38 rfl ?_
        refine pm_iastN dM_reckon_42 rfl hidx (Nat.le_of_ble_eq_true rfl) (q := 43) rfl ?_
        refine pm_iconst (x := 0) dM_reckon_43 (by decide) (q := 44) rfl ?_
        refine pm_istore_n dM_reckon_44 (by decide) (q := 45) rfl ?_
        refine pm_iload_n dM_reckon_45 rfl (q := 46) rfl ?_
        refine pm_aload_n dM_reckon_46 rfl (q := 47) rfl ?_
        refine pm_get fl_M_16 dM_reckon_47 rfl rfl (q := 50) rfl ?_
        refine pm_iconst (x := 2) dM_reckon_50 (by decide) (q := 51) rfl ?_
        refine pm_isub dM_reckon_51 (q := 52) rfl ?_
        refine pm_topL (y := nI (D - 1)) eD2 ?_
        refine pm_icmp_ge (tgt := 179) dM_reckon_52 rfl (q := 55) rfl (fun _ => ?_) (fun z => absurd (nI_le (by omega) (by omega)) z)
        refine pm_iincL dM_reckon_179 rfl (by decide) (y := nI (2600 * q + (i + 1))) (by rw [← Nat.add_assoc, nI_succ]; rfl) (q := 182) rfl ?_
        refine pm_goto (tgt := 6) dM_reckon_182 rfl ?_
        exact nx
      · obtain ⟨hm1, hc1, hf1⟩ := hl1 (by omega)
        have hb1 := hb1 (by omega)
        obtain ⟨k, hk⟩ : ∃ k, D - 1 - q = k + 1 := ⟨D - 2 - q, by omega⟩
        have eb : bh A D q ((A q)[i]) = (oF (fun K => (bo A k (q + 1 + 1) K).map (fun v => v + cost (A q)[i] K)) ((A (q + 1)).take (A (q + 1)).length) none) := by
          unfold bh
          rw [hk, List.take_length, bo]
        have hq13 : q + 1 < 3 := by omega
        have hI : ∀ (m2 j : Nat) (o4 o5 : Option Value), m2 + j = (A (q + 1)).length → pm_Go mM_reckon K G 45 [some (.ref 31), some (.int (nI q)), some (.int (nI (2600 * q + i))), some (.int (nI j)), o4, o5] [] (cH pd si sa hv ha sl sc pl pa (mH mi (up1 ma 7 (upd (lsW (ma 7) (2600 * q) (((A q).take i).map (fun N => oI (bh A D q N)))) (2600 * q + i) (oI (oF (fun K => (bo A k (q + 1 + 1) K).map (fun v => v + cost (A q)[i] K)) ((A (q + 1)).take j) none)))) tl)) 0 0 := by
          intro m2
          induction m2 with
          | zero =>
            intro j o4 o5 hj
            have hj : j = (A (q + 1)).length := by omega
            subst hj
            have nx := ih (i + 1) (some (.int (nI (A (q + 1)).length))) o4 o5 (by omega)
            rw [zs, eb] at nx
            refine pm_iload_n dM_reckon_45 rfl (q := 46) rfl ?_
            refine pm_aload_n dM_reckon_46 rfl (q := 47) rfl ?_
            refine pm_get fl_M_16 dM_reckon_47 rfl rfl (q := 50) rfl ?_
            refine pm_iconst (x := 2) dM_reckon_50 (by decide) (q := 51) rfl ?_
            refine pm_isub dM_reckon_51 (q := 52) rfl ?_
            refine pm_topL (y := nI (D - 1)) eD2 ?_
            refine pm_icmp_ge (tgt := 179) dM_reckon_52 rfl (q := 55) rfl (fun z => absurd z (nI_ge (by omega) (by omega))) (fun _ => ?_)
            refine pm_iload_n dM_reckon_55 rfl (q := 56) rfl ?_
            refine pm_aload_n dM_reckon_56 rfl (q := 57) rfl ?_
            refine pm_get fl_M_54 dM_reckon_57 rfl rfl (q := 60) rfl ?_
            refine pm_iload_n dM_reckon_60 rfl (q := 61) rfl ?_
            refine pm_iconst (x := 1) dM_reckon_61 (by decide) (q := 62) rfl ?_
            refine pm_iadd dM_reckon_62 (q := 63) rfl ?_
            refine pm_topL (y := nI (q + 1)) (nI_succ q).symm ?_
            refine pm_ialdN dM_reckon_63 rfl hq13 (Nat.le_of_ble_eq_true rfl) (q := 64) rfl ?_
            refine pm_topL (y := nI (A (q + 1)).length) hm1 ?_
            refine pm_icmp_ge (tgt := 179) dM_reckon_64 rfl (q := 67) rfl (fun _ => ?_) (fun z => absurd (nI_le (Nat.le_refl _) (by omega)) z)
            refine pm_iincL dM_reckon_179 rfl (by decide) (y := nI (2600 * q + (i + 1))) (by rw [← Nat.add_assoc, nI_succ]; rfl) (q := 182) rfl ?_
            refine pm_goto (tgt := 6) dM_reckon_182 rfl ?_
            exact nx
          | succ m2 ih2 =>
            intro j o4 o5 hj
            have hj9 : j < (A (q + 1)).length := by omega
            have hidx1 : 2600 * (q + 1) + j < 7800 := by omega
            have hN := hA (q + 1) (by omega) _ (List.getElem_mem hj9)
            have efj := hf1 j hj9
            have elj : (upd (lsW (ma 7) (2600 * q) (((A q).take i).map (fun N => oI (bh A D q N)))) (2600 * q + i) (oI (oF (fun K => (bo A k (q + 1 + 1) K).map (fun v => v + cost (A q)[i] K)) ((A (q + 1)).take j) none))) (2600 * (q + 1) + j) = oI (bo A k (q + 1 + 1) ((A (q + 1))[j])) := by
              rw [upd_ne _ _ (by omega), lsW_out _ _ _ _ (Or.inr (by rw [List.length_map, List.length_take]; omega)), hb1 j hj9]
              unfold bh
              rw [show D - 1 - (q + 1) = k by omega]
            have eli : (upd (lsW (ma 7) (2600 * q) (((A q).take i).map (fun N => oI (bh A D q N)))) (2600 * q + i) (oI (oF (fun K => (bo A k (q + 1 + 1) K).map (fun v => v + cost (A q)[i] K)) ((A (q + 1)).take j) none))) (2600 * q + i) = oI (oF (fun K => (bo A k (q + 1 + 1) K).map (fun v => v + cost (A q)[i] K)) ((A (q + 1)).take j) none) := upd_at _ _ _
            have esh : fM_sho (cM (A q)[i]) (cM (A (q + 1))[j]) 3 = nI (cost (A q)[i] (A (q + 1))[j]) := shifts_val hM.1 hN.1 hT3 hT3 hM.2
            have eac : (oF (fun K => (bo A k (q + 1 + 1) K).map (fun v => v + cost (A q)[i] K)) ((A (q + 1)).take (j + 1)) none) = oMin (oF (fun K => (bo A k (q + 1 + 1) K).map (fun v => v + cost (A q)[i] K)) ((A (q + 1)).take j) none) ((bo A k (q + 1 + 1) ((A (q + 1))[j])).map (fun v => v + cost (A q)[i] (A (q + 1))[j])) := by
              rw [take_snoc hj9, oF_snoc]
            have nx := fun o4 o5 => ih2 (j + 1) o4 o5 (by omega)
            have hab : ∀ a, (oF (fun K => (bo A k (q + 1 + 1) K).map (fun v => v + cost (A q)[i] K)) ((A (q + 1)).take j) none) = some a → a ≤ 5 * k + 5 := fun a e => oF_bnd e
            have hk3 : k ≤ 3 := by omega
            have hc5 := cost_le5 (A q)[i] (A (q + 1))[j]
            rw [eac] at nx
            generalize (oF (fun K => (bo A k (q + 1 + 1) K).map (fun v => v + cost (A q)[i] K)) ((A (q + 1)).take j) none) = ac at *
            cases hw : bo A k (q + 1 + 1) ((A (q + 1))[j]) with
            | none =>
              rw [hw] at elj nx
              have e0 : oMin ac (Option.map (fun v => v + cost (A q)[i] (A (q + 1))[j]) none) = ac := by cases ac <;> rfl
              rw [e0] at nx
              have nx := nx (some (.int (nI (2600 * (q + 1) + j)))) (some (.int (-1)))
              refine pm_iload_n dM_reckon_45 rfl (q := 46) rfl ?_
              refine pm_aload_n dM_reckon_46 rfl (q := 47) rfl ?_
              refine pm_get fl_M_16 dM_reckon_47 rfl rfl (q := 50) rfl ?_
              refine pm_iconst (x := 2) dM_reckon_50 (by decide) (q := 51) rfl ?_
              refine pm_isub dM_reckon_51 (q := 52) rfl ?_
              refine pm_topL (y := nI (D - 1)) eD2 ?_
              refine pm_icmp_ge (tgt := 179) dM_reckon_52 rfl (q := 55) rfl (fun z => absurd z (nI_ge (by omega) (by omega))) (fun _ => ?_)
              refine pm_iload_n dM_reckon_55 rfl (q := 56) rfl ?_
              refine pm_aload_n dM_reckon_56 rfl (q := 57) rfl ?_
              refine pm_get fl_M_54 dM_reckon_57 rfl rfl (q := 60) rfl ?_
              refine pm_iload_n dM_reckon_60 rfl (q := 61) rfl ?_
              refine pm_iconst (x := 1) dM_reckon_61 (by decide) (q := 62) rfl ?_
              refine pm_iadd dM_reckon_62 (q := 63) rfl ?_
              refine pm_topL (y := nI (q + 1)) (nI_succ q).symm ?_
              refine pm_ialdN dM_reckon_63 rfl hq13 (Nat.le_of_ble_eq_true rfl) (q := 64) rfl ?_
              refine pm_topL (y := nI (A (q + 1)).length) hm1 ?_
              refine pm_icmp_ge (tgt := 179) dM_reckon_64 rfl (q := 67) rfl (fun z => absurd z (nI_ge hj9 (by omega))) (fun _ => ?_)
              refine pm_sipush (x := 2600) dM_reckon_67 (by decide) (q := 70) rfl ?_
              refine pm_iload_n dM_reckon_70 rfl (q := 71) rfl ?_
              refine pm_iconst (x := 1) dM_reckon_71 (by decide) (q := 72) rfl ?_
              refine pm_iadd dM_reckon_72 (q := 73) rfl ?_
              refine pm_topL (y := nI (q + 1)) (nI_succ q).symm ?_
              refine pm_imul dM_reckon_73 (q := 74) rfl ?_
              refine pm_iload_n dM_reckon_74 rfl (q := 75) rfl ?_
              refine pm_iadd dM_reckon_75 (q := 76) rfl ?_
              refine pm_topL (k26 (q + 1) j) ?_
              refine pm_istore dM_reckon_76 (by decide) (q := 78) rfl ?_
              refine pm_aload_n dM_reckon_78 rfl (q := 79) rfl ?_
              refine pm_get fl_M_51 dM_reckon_79 rfl rfl (q := 82) rfl ?_
              refine pm_iload dM_reckon_82 rfl (q := 84) rfl ?_
              refine pm_ialdN dM_reckon_84 rfl hidx1 (Nat.le_of_ble_eq_true rfl) (q := 85) rfl ?_
              refine pm_topL (y := -1) elj ?_
              refine pm_if_ge (tgt := 92) dM_reckon_85 rfl (q := 88) rfl (fun z => absurd z (by decide)) (fun _ => ?_)
              refine pm_iconst (x := -1) dM_reckon_88 (by decide) (q := 89) rfl ?_
              refine pm_goto (tgt := 129) dM_reckon_89 rfl ?_
              refine pm_istore dM_reckon_129 (by decide) (q := 131) rfl ?_
              refine pm_aload_n dM_reckon_131 rfl (q := 132) rfl ?_
              refine pm_get fl_M_51 dM_reckon_132 rfl rfl (q := 135) rfl ?_
              refine pm_iload_n dM_reckon_135 rfl (q := 136) rfl ?_
              refine pm_iload dM_reckon_136 rfl (q := 138) rfl ?_
              refine pm_if_lt (tgt := 166) dM_reckon_138 rfl (q := 141) rfl (fun _ => ?_) (fun z => absurd (by decide) z)
              refine pm_aload_n dM_reckon_166 rfl (q := 167) rfl ?_
              refine pm_get fl_M_51 dM_reckon_167 rfl rfl (q := 170) rfl ?_
              refine pm_iload_n dM_reckon_170 rfl (q := 171) rfl ?_
              refine pm_ialdN dM_reckon_171 rfl hidx (Nat.le_of_ble_eq_true rfl) (q := 172) rfl ?_
              refine pm_topL (y := oI ac) eli ?_
              refine pm_iastN dM_reckon_172 rfl hidx (Nat.le_of_ble_eq_true rfl) (q := 173) rfl ?_
              refine pm_iincL dM_reckon_173 rfl (by decide) (y := nI (j + 1)) (by rw [nI_succ]; rfl) (q := 176) rfl ?_
              refine pm_goto (tgt := 45) dM_reckon_176 rfl ?_
              refine pm_heap (g := (cH pd si sa hv ha sl sc pl pa (mH mi (up1 ma 7 (upd (lsW (ma 7) (2600 * q) (((A q).take i).map (fun N => oI (bh A D q N)))) (2600 * q + i) (oI ac))) tl))) (by show (cH pd si sa hv ha sl sc pl pa (mH mi (up1 ma 7 (upd (upd (lsW (ma 7) (2600 * q) (((A q).take i).map (fun N => oI (bh A D q N)))) (2600 * q + i) (oI ac)) (2600 * q + i) (oI ac))) tl)) = _; rw [upd_upd]) ?_
              exact nx
            | some w =>
              rw [hw] at elj nx
              have hwb := bo_bnd _ _ _ _ hw
              have elj : _ = nI w := elj
              cases ac with
              | none =>
                have eli : _ = (-1 : Int32) := eli
                have nx := nx (some (.int (nI (2600 * (q + 1) + j)))) (some (.int (nI (w + (cost (A q)[i] (A (q + 1))[j])))))
                refine pm_iload_n dM_reckon_45 rfl (q := 46) rfl ?_
                refine pm_aload_n dM_reckon_46 rfl (q := 47) rfl ?_
                refine pm_get fl_M_16 dM_reckon_47 rfl rfl (q := 50) rfl ?_
                refine pm_iconst (x := 2) dM_reckon_50 (by decide) (q := 51) rfl ?_
                refine pm_isub dM_reckon_51 (q := 52) rfl ?_
                refine pm_topL (y := nI (D - 1)) eD2 ?_
                refine pm_icmp_ge (tgt := 179) dM_reckon_52 rfl (q := 55) rfl (fun z => absurd z (nI_ge (by omega) (by omega))) (fun _ => ?_)
                refine pm_iload_n dM_reckon_55 rfl (q := 56) rfl ?_
                refine pm_aload_n dM_reckon_56 rfl (q := 57) rfl ?_
                refine pm_get fl_M_54 dM_reckon_57 rfl rfl (q := 60) rfl ?_
                refine pm_iload_n dM_reckon_60 rfl (q := 61) rfl ?_
                refine pm_iconst (x := 1) dM_reckon_61 (by decide) (q := 62) rfl ?_
                refine pm_iadd dM_reckon_62 (q := 63) rfl ?_
                refine pm_topL (y := nI (q + 1)) (nI_succ q).symm ?_
                refine pm_ialdN dM_reckon_63 rfl hq13 (Nat.le_of_ble_eq_true rfl) (q := 64) rfl ?_
                refine pm_topL (y := nI (A (q + 1)).length) hm1 ?_
                refine pm_icmp_ge (tgt := 179) dM_reckon_64 rfl (q := 67) rfl (fun z => absurd z (nI_ge hj9 (by omega))) (fun _ => ?_)
                refine pm_sipush (x := 2600) dM_reckon_67 (by decide) (q := 70) rfl ?_
                refine pm_iload_n dM_reckon_70 rfl (q := 71) rfl ?_
                refine pm_iconst (x := 1) dM_reckon_71 (by decide) (q := 72) rfl ?_
                refine pm_iadd dM_reckon_72 (q := 73) rfl ?_
                refine pm_topL (y := nI (q + 1)) (nI_succ q).symm ?_
                refine pm_imul dM_reckon_73 (q := 74) rfl ?_
                refine pm_iload_n dM_reckon_74 rfl (q := 75) rfl ?_
                refine pm_iadd dM_reckon_75 (q := 76) rfl ?_
                refine pm_topL (k26 (q + 1) j) ?_
                refine pm_istore dM_reckon_76 (by decide) (q := 78) rfl ?_
                refine pm_aload_n dM_reckon_78 rfl (q := 79) rfl ?_
                refine pm_get fl_M_51 dM_reckon_79 rfl rfl (q := 82) rfl ?_
                refine pm_iload dM_reckon_82 rfl (q := 84) rfl ?_
                refine pm_ialdN dM_reckon_84 rfl hidx1 (Nat.le_of_ble_eq_true rfl) (q := 85) rfl ?_
                refine pm_topL (y := nI w) elj ?_
                refine pm_if_ge (tgt := 92) dM_reckon_85 rfl (q := 88) rfl (fun _ => ?_) (fun z => absurd (nI_z w (by omega)) z)
                refine pm_aload_n dM_reckon_92 rfl (q := 93) rfl ?_
                refine pm_get fl_M_51 dM_reckon_93 rfl rfl (q := 96) rfl ?_
                refine pm_iload dM_reckon_96 rfl (q := 98) rfl ?_
                refine pm_ialdN dM_reckon_98 rfl hidx1 (Nat.le_of_ble_eq_true rfl) (q := 99) rfl ?_
                refine pm_topL (y := nI w) elj ?_
                refine pm_aload_n dM_reckon_99 rfl (q := 100) rfl ?_
                refine pm_get fl_M_51 dM_reckon_100 rfl rfl (q := 103) rfl ?_
                refine pm_iload_n dM_reckon_103 rfl (q := 104) rfl ?_
                refine pm_ialdN dM_reckon_104 rfl hidx (Nat.le_of_ble_eq_true rfl) (q := 105) rfl ?_
                refine pm_topL (y := -1) eli ?_
                refine pm_if_ne (tgt := 112) dM_reckon_105 rfl (q := 108) rfl (fun _ => ?_) (fun z => absurd z (by decide))
                refine pm_aload_n dM_reckon_112 rfl (q := 113) rfl ?_
                refine pm_get fl_M_48 dM_reckon_113 rfl rfl (q := 116) rfl ?_
                refine pm_iload_n dM_reckon_116 rfl (q := 117) rfl ?_
                refine pm_ialdN dM_reckon_117 rfl hidx (Nat.le_of_ble_eq_true rfl) (q := 118) rfl ?_
                refine pm_topL efi ?_
                refine pm_aload_n dM_reckon_118 rfl (q := 119) rfl ?_
                refine pm_get fl_M_48 dM_reckon_119 rfl rfl (q := 122) rfl ?_
                refine pm_iload dM_reckon_122 rfl (q := 124) rfl ?_
                refine pm_ialdN dM_reckon_124 rfl hidx1 (Nat.le_of_ble_eq_true rfl) (q := 125) rfl ?_
                refine pm_topL efj ?_
                refine pm_cS2i hK (kM_shifts hl 2 (Nat.le_refl _) _ _ _) mo_M_shifts st_M_shifts lk_M_158 dM_reckon_125 (by omega) (Nat.le_of_ble_eq_true rfl) (Nat.zero_le _) (Nat.zero_le _) (q := 128) rfl ?_
                refine pm_topL esh ?_
                refine pm_iadd dM_reckon_128 (q := 129) rfl ?_
                refine pm_topL (y := nI (w + (cost (A q)[i] (A (q + 1))[j]))) (nI_addm _ _) ?_
                refine pm_istore dM_reckon_129 (by decide) (q := 131) rfl ?_
                refine pm_aload_n dM_reckon_131 rfl (q := 132) rfl ?_
                refine pm_get fl_M_51 dM_reckon_132 rfl rfl (q := 135) rfl ?_
                refine pm_iload_n dM_reckon_135 rfl (q := 136) rfl ?_
                refine pm_iload dM_reckon_136 rfl (q := 138) rfl ?_
                refine pm_if_lt (tgt := 166) dM_reckon_138 rfl (q := 141) rfl (fun z => absurd z (nI_pos (by omega))) (fun _ => ?_)
                refine pm_aload_n dM_reckon_141 rfl (q := 142) rfl ?_
                refine pm_get fl_M_51 dM_reckon_142 rfl rfl (q := 145) rfl ?_
                refine pm_iload_n dM_reckon_145 rfl (q := 146) rfl ?_
                refine pm_ialdN dM_reckon_146 rfl hidx (Nat.le_of_ble_eq_true rfl) (q := 147) rfl ?_
                refine pm_topL (y := -1) eli ?_
                refine pm_if_lt (tgt := 161) dM_reckon_147 rfl (q := 150) rfl (fun _ => ?_) (fun z => absurd (by decide) z)
                refine pm_iload dM_reckon_161 rfl (q := 163) rfl ?_
                refine pm_goto (tgt := 172) dM_reckon_163 rfl ?_
                refine pm_iastN dM_reckon_172 rfl hidx (Nat.le_of_ble_eq_true rfl) (q := 173) rfl ?_
                refine pm_iincL dM_reckon_173 rfl (by decide) (y := nI (j + 1)) (by rw [nI_succ]; rfl) (q := 176) rfl ?_
                refine pm_goto (tgt := 45) dM_reckon_176 rfl ?_
                refine pm_heap (g := (cH pd si sa hv ha sl sc pl pa (mH mi (up1 ma 7 (upd (lsW (ma 7) (2600 * q) (((A q).take i).map (fun N => oI (bh A D q N)))) (2600 * q + i) (nI (w + (cost (A q)[i] (A (q + 1))[j]))))) tl))) (by show (cH pd si sa hv ha sl sc pl pa (mH mi (up1 ma 7 (upd (upd (lsW (ma 7) (2600 * q) (((A q).take i).map (fun N => oI (bh A D q N)))) (2600 * q + i) (oI none)) (2600 * q + i) (nI (w + (cost (A q)[i] (A (q + 1))[j]))))) tl)) = _; rw [upd_upd]) ?_
                exact nx
              | some a =>
                have ha9 := hab a rfl
                have eli : _ = nI a := eli
                by_cases a0 : a = 0
                · subst a0
                  have e0 : oMin (some 0) (Option.map (fun v => v + cost (A q)[i] (A (q + 1))[j]) (some w)) = some 0 := by
                    show some (if w + cost (A q)[i] (A (q + 1))[j] < 0 then w + cost (A q)[i] (A (q + 1))[j] else 0) = some 0
                    rw [if_neg (Nat.not_lt_zero _)]
                  rw [e0] at nx
                  have nx := nx (some (.int (nI (2600 * (q + 1) + j)))) (some (.int (nI w)))
                  refine pm_iload_n dM_reckon_45 rfl (q := 46) rfl ?_
                  refine pm_aload_n dM_reckon_46 rfl (q := 47) rfl ?_
                  refine pm_get fl_M_16 dM_reckon_47 rfl rfl (q := 50) rfl ?_
                  refine pm_iconst (x := 2) dM_reckon_50 (by decide) (q := 51) rfl ?_
                  refine pm_isub dM_reckon_51 (q := 52) rfl ?_
                  refine pm_topL (y := nI (D - 1)) eD2 ?_
                  refine pm_icmp_ge (tgt := 179) dM_reckon_52 rfl (q := 55) rfl (fun z => absurd z (nI_ge (by omega) (by omega))) (fun _ => ?_)
                  refine pm_iload_n dM_reckon_55 rfl (q := 56) rfl ?_
                  refine pm_aload_n dM_reckon_56 rfl (q := 57) rfl ?_
                  refine pm_get fl_M_54 dM_reckon_57 rfl rfl (q := 60) rfl ?_
                  refine pm_iload_n dM_reckon_60 rfl (q := 61) rfl ?_
                  refine pm_iconst (x := 1) dM_reckon_61 (by decide) (q := 62) rfl ?_
                  refine pm_iadd dM_reckon_62 (q := 63) rfl ?_
                  refine pm_topL (y := nI (q + 1)) (nI_succ q).symm ?_
                  refine pm_ialdN dM_reckon_63 rfl hq13 (Nat.le_of_ble_eq_true rfl) (q := 64) rfl ?_
                  refine pm_topL (y := nI (A (q + 1)).length) hm1 ?_
                  refine pm_icmp_ge (tgt := 179) dM_reckon_64 rfl (q := 67) rfl (fun z => absurd z (nI_ge hj9 (by omega))) (fun _ => ?_)
                  refine pm_sipush (x := 2600) dM_reckon_67 (by decide) (q := 70) rfl ?_
                  refine pm_iload_n dM_reckon_70 rfl (q := 71) rfl ?_
                  refine pm_iconst (x := 1) dM_reckon_71 (by decide) (q := 72) rfl ?_
                  refine pm_iadd dM_reckon_72 (q := 73) rfl ?_
                  refine pm_topL (y := nI (q + 1)) (nI_succ q).symm ?_
                  refine pm_imul dM_reckon_73 (q := 74) rfl ?_
                  refine pm_iload_n dM_reckon_74 rfl (q := 75) rfl ?_
                  refine pm_iadd dM_reckon_75 (q := 76) rfl ?_
                  refine pm_topL (k26 (q + 1) j) ?_
                  refine pm_istore dM_reckon_76 (by decide) (q := 78) rfl ?_
                  refine pm_aload_n dM_reckon_78 rfl (q := 79) rfl ?_
                  refine pm_get fl_M_51 dM_reckon_79 rfl rfl (q := 82) rfl ?_
                  refine pm_iload dM_reckon_82 rfl (q := 84) rfl ?_
                  refine pm_ialdN dM_reckon_84 rfl hidx1 (Nat.le_of_ble_eq_true rfl) (q := 85) rfl ?_
                  refine pm_topL (y := nI w) elj ?_
                  refine pm_if_ge (tgt := 92) dM_reckon_85 rfl (q := 88) rfl (fun _ => ?_) (fun z => absurd (nI_z w (by omega)) z)
                  refine pm_aload_n dM_reckon_92 rfl (q := 93) rfl ?_
                  refine pm_get fl_M_51 dM_reckon_93 rfl rfl (q := 96) rfl ?_
                  refine pm_iload dM_reckon_96 rfl (q := 98) rfl ?_
                  refine pm_ialdN dM_reckon_98 rfl hidx1 (Nat.le_of_ble_eq_true rfl) (q := 99) rfl ?_
                  refine pm_topL (y := nI w) elj ?_
                  refine pm_aload_n dM_reckon_99 rfl (q := 100) rfl ?_
                  refine pm_get fl_M_51 dM_reckon_100 rfl rfl (q := 103) rfl ?_
                  refine pm_iload_n dM_reckon_103 rfl (q := 104) rfl ?_
                  refine pm_ialdN dM_reckon_104 rfl hidx (Nat.le_of_ble_eq_true rfl) (q := 105) rfl ?_
                  refine pm_topL (y := nI 0) eli ?_
                  refine pm_if_ne (tgt := 112) dM_reckon_105 rfl (q := 108) rfl (fun z => absurd rfl z) (fun _ => ?_)
                  refine pm_iconst (x := 0) dM_reckon_108 (by decide) (q := 109) rfl ?_
                  refine pm_goto (tgt := 128) dM_reckon_109 rfl ?_
                  refine pm_iadd dM_reckon_128 (q := 129) rfl ?_
                  refine pm_topL (y := nI w) (Int32.add_zero _) ?_
                  refine pm_istore dM_reckon_129 (by decide) (q := 131) rfl ?_
                  refine pm_aload_n dM_reckon_131 rfl (q := 132) rfl ?_
                  refine pm_get fl_M_51 dM_reckon_132 rfl rfl (q := 135) rfl ?_
                  refine pm_iload_n dM_reckon_135 rfl (q := 136) rfl ?_
                  refine pm_iload dM_reckon_136 rfl (q := 138) rfl ?_
                  refine pm_if_lt (tgt := 166) dM_reckon_138 rfl (q := 141) rfl (fun z => absurd z (nI_pos (by omega))) (fun _ => ?_)
                  refine pm_aload_n dM_reckon_141 rfl (q := 142) rfl ?_
                  refine pm_get fl_M_51 dM_reckon_142 rfl rfl (q := 145) rfl ?_
                  refine pm_iload_n dM_reckon_145 rfl (q := 146) rfl ?_
                  refine pm_ialdN dM_reckon_146 rfl hidx (Nat.le_of_ble_eq_true rfl) (q := 147) rfl ?_
                  refine pm_topL (y := nI 0) eli ?_
                  refine pm_if_lt (tgt := 161) dM_reckon_147 rfl (q := 150) rfl (fun z => absurd z (by decide)) (fun _ => ?_)
                  refine pm_iload dM_reckon_150 rfl (q := 152) rfl ?_
                  refine pm_aload_n dM_reckon_152 rfl (q := 153) rfl ?_
                  refine pm_get fl_M_51 dM_reckon_153 rfl rfl (q := 156) rfl ?_
                  refine pm_iload_n dM_reckon_156 rfl (q := 157) rfl ?_
                  refine pm_ialdN dM_reckon_157 rfl hidx (Nat.le_of_ble_eq_true rfl) (q := 158) rfl ?_
                  refine pm_topL (y := nI 0) eli ?_
                  refine pm_icmp_ge (tgt := 166) dM_reckon_158 rfl (q := 161) rfl (fun _ => ?_) (fun z => absurd (nI_le (Nat.zero_le _) (by omega)) z)
                  refine pm_aload_n dM_reckon_166 rfl (q := 167) rfl ?_
                  refine pm_get fl_M_51 dM_reckon_167 rfl rfl (q := 170) rfl ?_
                  refine pm_iload_n dM_reckon_170 rfl (q := 171) rfl ?_
                  refine pm_ialdN dM_reckon_171 rfl hidx (Nat.le_of_ble_eq_true rfl) (q := 172) rfl ?_
                  refine pm_topL (y := nI 0) eli ?_
                  refine pm_iastN dM_reckon_172 rfl hidx (Nat.le_of_ble_eq_true rfl) (q := 173) rfl ?_
                  refine pm_iincL dM_reckon_173 rfl (by decide) (y := nI (j + 1)) (by rw [nI_succ]; rfl) (q := 176) rfl ?_
                  refine pm_goto (tgt := 45) dM_reckon_176 rfl ?_
                  refine pm_heap (g := (cH pd si sa hv ha sl sc pl pa (mH mi (up1 ma 7 (upd (lsW (ma 7) (2600 * q) (((A q).take i).map (fun N => oI (bh A D q N)))) (2600 * q + i) (nI 0))) tl))) (by show (cH pd si sa hv ha sl sc pl pa (mH mi (up1 ma 7 (upd (upd (lsW (ma 7) (2600 * q) (((A q).take i).map (fun N => oI (bh A D q N)))) (2600 * q + i) (oI (some 0))) (2600 * q + i) (nI 0))) tl)) = _; rw [upd_upd]) ?_
                  exact nx
                · have nx := nx (some (.int (nI (2600 * (q + 1) + j)))) (some (.int (nI (w + (cost (A q)[i] (A (q + 1))[j])))))
                  have e0 : oMin (some a) (Option.map (fun v => v + cost (A q)[i] (A (q + 1))[j]) (some w)) = some (if w + (cost (A q)[i] (A (q + 1))[j]) < a then w + (cost (A q)[i] (A (q + 1))[j]) else a) := rfl
                  rw [e0] at nx
                  by_cases lt : w + (cost (A q)[i] (A (q + 1))[j]) < a
                  · rw [if_pos lt] at nx
                    refine pm_iload_n dM_reckon_45 rfl (q := 46) rfl ?_
                    refine pm_aload_n dM_reckon_46 rfl (q := 47) rfl ?_
                    refine pm_get fl_M_16 dM_reckon_47 rfl rfl (q := 50) rfl ?_
                    refine pm_iconst (x := 2) dM_reckon_50 (by decide) (q := 51) rfl ?_
                    refine pm_isub dM_reckon_51 (q := 52) rfl ?_
                    refine pm_topL (y := nI (D - 1)) eD2 ?_
                    refine pm_icmp_ge (tgt := 179) dM_reckon_52 rfl (q := 55) rfl (fun z => absurd z (nI_ge (by omega) (by omega))) (fun _ => ?_)
                    refine pm_iload_n dM_reckon_55 rfl (q := 56) rfl ?_
                    refine pm_aload_n dM_reckon_56 rfl (q := 57) rfl ?_
                    refine pm_get fl_M_54 dM_reckon_57 rfl rfl (q := 60) rfl ?_
                    refine pm_iload_n dM_reckon_60 rfl (q := 61) rfl ?_
                    refine pm_iconst (x := 1) dM_reckon_61 (by decide) (q := 62) rfl ?_
                    refine pm_iadd dM_reckon_62 (q := 63) rfl ?_
                    refine pm_topL (y := nI (q + 1)) (nI_succ q).symm ?_
                    refine pm_ialdN dM_reckon_63 rfl hq13 (Nat.le_of_ble_eq_true rfl) (q := 64) rfl ?_
                    refine pm_topL (y := nI (A (q + 1)).length) hm1 ?_
                    refine pm_icmp_ge (tgt := 179) dM_reckon_64 rfl (q := 67) rfl (fun z => absurd z (nI_ge hj9 (by omega))) (fun _ => ?_)
                    refine pm_sipush (x := 2600) dM_reckon_67 (by decide) (q := 70) rfl ?_
                    refine pm_iload_n dM_reckon_70 rfl (q := 71) rfl ?_
                    refine pm_iconst (x := 1) dM_reckon_71 (by decide) (q := 72) rfl ?_
                    refine pm_iadd dM_reckon_72 (q := 73) rfl ?_
                    refine pm_topL (y := nI (q + 1)) (nI_succ q).symm ?_
                    refine pm_imul dM_reckon_73 (q := 74) rfl ?_
                    refine pm_iload_n dM_reckon_74 rfl (q := 75) rfl ?_
                    refine pm_iadd dM_reckon_75 (q := 76) rfl ?_
                    refine pm_topL (k26 (q + 1) j) ?_
                    refine pm_istore dM_reckon_76 (by decide) (q := 78) rfl ?_
                    refine pm_aload_n dM_reckon_78 rfl (q := 79) rfl ?_
                    refine pm_get fl_M_51 dM_reckon_79 rfl rfl (q := 82) rfl ?_
                    refine pm_iload dM_reckon_82 rfl (q := 84) rfl ?_
                    refine pm_ialdN dM_reckon_84 rfl hidx1 (Nat.le_of_ble_eq_true rfl) (q := 85) rfl ?_
                    refine pm_topL (y := nI w) elj ?_
                    refine pm_if_ge (tgt := 92) dM_reckon_85 rfl (q := 88) rfl (fun _ => ?_) (fun z => absurd (nI_z w (by omega)) z)
                    refine pm_aload_n dM_reckon_92 rfl (q := 93) rfl ?_
                    refine pm_get fl_M_51 dM_reckon_93 rfl rfl (q := 96) rfl ?_
                    refine pm_iload dM_reckon_96 rfl (q := 98) rfl ?_
                    refine pm_ialdN dM_reckon_98 rfl hidx1 (Nat.le_of_ble_eq_true rfl) (q := 99) rfl ?_
                    refine pm_topL (y := nI w) elj ?_
                    refine pm_aload_n dM_reckon_99 rfl (q := 100) rfl ?_
                    refine pm_get fl_M_51 dM_reckon_100 rfl rfl (q := 103) rfl ?_
                    refine pm_iload_n dM_reckon_103 rfl (q := 104) rfl ?_
                    refine pm_ialdN dM_reckon_104 rfl hidx (Nat.le_of_ble_eq_true rfl) (q := 105) rfl ?_
                    refine pm_topL (y := nI a) eli ?_
                    refine pm_if_ne (tgt := 112) dM_reckon_105 rfl (q := 108) rfl (fun _ => ?_) (fun z => absurd z (nI_ne0 (by omega) (by omega)))
                    refine pm_aload_n dM_reckon_112 rfl (q := 113) rfl ?_
                    refine pm_get fl_M_48 dM_reckon_113 rfl rfl (q := 116) rfl ?_
                    refine pm_iload_n dM_reckon_116 rfl (q := 117) rfl ?_
                    refine pm_ialdN dM_reckon_117 rfl hidx (Nat.le_of_ble_eq_true rfl) (q := 118) rfl ?_
                    refine pm_topL efi ?_
                    refine pm_aload_n dM_reckon_118 rfl (q := 119) rfl ?_
                    refine pm_get fl_M_48 dM_reckon_119 rfl rfl (q := 122) rfl ?_
                    refine pm_iload dM_reckon_122 rfl (q := 124) rfl ?_
                    refine pm_ialdN dM_reckon_124 rfl hidx1 (Nat.le_of_ble_eq_true rfl) (q := 125) rfl ?_
                    refine pm_topL efj ?_
                    refine pm_cS2i hK (kM_shifts hl 2 (Nat.le_refl _) _ _ _) mo_M_shifts st_M_shifts lk_M_158 dM_reckon_125 (by omega) (Nat.le_of_ble_eq_true rfl) (Nat.zero_le _) (Nat.zero_le _) (q := 128) rfl ?_
                    refine pm_topL esh ?_
                    refine pm_iadd dM_reckon_128 (q := 129) rfl ?_
                    refine pm_topL (y := nI (w + (cost (A q)[i] (A (q + 1))[j]))) (nI_addm _ _) ?_
                    refine pm_istore dM_reckon_129 (by decide) (q := 131) rfl ?_
                    refine pm_aload_n dM_reckon_131 rfl (q := 132) rfl ?_
                    refine pm_get fl_M_51 dM_reckon_132 rfl rfl (q := 135) rfl ?_
                    refine pm_iload_n dM_reckon_135 rfl (q := 136) rfl ?_
                    refine pm_iload dM_reckon_136 rfl (q := 138) rfl ?_
                    refine pm_if_lt (tgt := 166) dM_reckon_138 rfl (q := 141) rfl (fun z => absurd z (nI_pos (by omega))) (fun _ => ?_)
                    refine pm_aload_n dM_reckon_141 rfl (q := 142) rfl ?_
                    refine pm_get fl_M_51 dM_reckon_142 rfl rfl (q := 145) rfl ?_
                    refine pm_iload_n dM_reckon_145 rfl (q := 146) rfl ?_
                    refine pm_ialdN dM_reckon_146 rfl hidx (Nat.le_of_ble_eq_true rfl) (q := 147) rfl ?_
                    refine pm_topL (y := nI a) eli ?_
                    refine pm_if_lt (tgt := 161) dM_reckon_147 rfl (q := 150) rfl (fun z => absurd z (nI_pos (by omega))) (fun _ => ?_)
                    refine pm_iload dM_reckon_150 rfl (q := 152) rfl ?_
                    refine pm_aload_n dM_reckon_152 rfl (q := 153) rfl ?_
                    refine pm_get fl_M_51 dM_reckon_153 rfl rfl (q := 156) rfl ?_
                    refine pm_iload_n dM_reckon_156 rfl (q := 157) rfl ?_
                    refine pm_ialdN dM_reckon_157 rfl hidx (Nat.le_of_ble_eq_true rfl) (q := 158) rfl ?_
                    refine pm_topL (y := nI a) eli ?_
                    refine pm_icmp_ge (tgt := 166) dM_reckon_158 rfl (q := 161) rfl (fun z => absurd z (nI_ge lt (by omega))) (fun _ => ?_)
                    refine pm_iload dM_reckon_161 rfl (q := 163) rfl ?_
                    refine pm_goto (tgt := 172) dM_reckon_163 rfl ?_
                    refine pm_iastN dM_reckon_172 rfl hidx (Nat.le_of_ble_eq_true rfl) (q := 173) rfl ?_
                    refine pm_iincL dM_reckon_173 rfl (by decide) (y := nI (j + 1)) (by rw [nI_succ]; rfl) (q := 176) rfl ?_
                    refine pm_goto (tgt := 45) dM_reckon_176 rfl ?_
                    refine pm_heap (g := (cH pd si sa hv ha sl sc pl pa (mH mi (up1 ma 7 (upd (lsW (ma 7) (2600 * q) (((A q).take i).map (fun N => oI (bh A D q N)))) (2600 * q + i) (nI (w + (cost (A q)[i] (A (q + 1))[j]))))) tl))) (by show (cH pd si sa hv ha sl sc pl pa (mH mi (up1 ma 7 (upd (upd (lsW (ma 7) (2600 * q) (((A q).take i).map (fun N => oI (bh A D q N)))) (2600 * q + i) (oI (some a))) (2600 * q + i) (nI (w + (cost (A q)[i] (A (q + 1))[j]))))) tl)) = _; rw [upd_upd]) ?_
                    exact nx
                  · rw [if_neg lt] at nx
                    refine pm_iload_n dM_reckon_45 rfl (q := 46) rfl ?_
                    refine pm_aload_n dM_reckon_46 rfl (q := 47) rfl ?_
                    refine pm_get fl_M_16 dM_reckon_47 rfl rfl (q := 50) rfl ?_
                    refine pm_iconst (x := 2) dM_reckon_50 (by decide) (q := 51) rfl ?_
                    refine pm_isub dM_reckon_51 (q := 52) rfl ?_
                    refine pm_topL (y := nI (D - 1)) eD2 ?_
                    refine pm_icmp_ge (tgt := 179) dM_reckon_52 rfl (q := 55) rfl (fun z => absurd z (nI_ge (by omega) (by omega))) (fun _ => ?_)
                    refine pm_iload_n dM_reckon_55 rfl (q := 56) rfl ?_
                    refine pm_aload_n dM_reckon_56 rfl (q := 57) rfl ?_
                    refine pm_get fl_M_54 dM_reckon_57 rfl rfl (q := 60) rfl ?_
                    refine pm_iload_n dM_reckon_60 rfl (q := 61) rfl ?_
                    refine pm_iconst (x := 1) dM_reckon_61 (by decide) (q := 62) rfl ?_
                    refine pm_iadd dM_reckon_62 (q := 63) rfl ?_
                    refine pm_topL (y := nI (q + 1)) (nI_succ q).symm ?_
                    refine pm_ialdN dM_reckon_63 rfl hq13 (Nat.le_of_ble_eq_true rfl) (q := 64) rfl ?_
                    refine pm_topL (y := nI (A (q + 1)).length) hm1 ?_
                    refine pm_icmp_ge (tgt := 179) dM_reckon_64 rfl (q := 67) rfl (fun z => absurd z (nI_ge hj9 (by omega))) (fun _ => ?_)
                    refine pm_sipush (x := 2600) dM_reckon_67 (by decide) (q := 70) rfl ?_
                    refine pm_iload_n dM_reckon_70 rfl (q := 71) rfl ?_
                    refine pm_iconst (x := 1) dM_reckon_71 (by decide) (q := 72) rfl ?_
                    refine pm_iadd dM_reckon_72 (q := 73) rfl ?_
                    refine pm_topL (y := nI (q + 1)) (nI_succ q).symm ?_
                    refine pm_imul dM_reckon_73 (q := 74) rfl ?_
                    refine pm_iload_n dM_reckon_74 rfl (q := 75) rfl ?_
                    refine pm_iadd dM_reckon_75 (q := 76) rfl ?_
                    refine pm_topL (k26 (q + 1) j) ?_
                    refine pm_istore dM_reckon_76 (by decide) (q := 78) rfl ?_
                    refine pm_aload_n dM_reckon_78 rfl (q := 79) rfl ?_
                    refine pm_get fl_M_51 dM_reckon_79 rfl rfl (q := 82) rfl ?_
                    refine pm_iload dM_reckon_82 rfl (q := 84) rfl ?_
                    refine pm_ialdN dM_reckon_84 rfl hidx1 (Nat.le_of_ble_eq_true rfl) (q := 85) rfl ?_
                    refine pm_topL (y := nI w) elj ?_
                    refine pm_if_ge (tgt := 92) dM_reckon_85 rfl (q := 88) rfl (fun _ => ?_) (fun z => absurd (nI_z w (by omega)) z)
                    refine pm_aload_n dM_reckon_92 rfl (q := 93) rfl ?_
                    refine pm_get fl_M_51 dM_reckon_93 rfl rfl (q := 96) rfl ?_
                    refine pm_iload dM_reckon_96 rfl (q := 98) rfl ?_
                    refine pm_ialdN dM_reckon_98 rfl hidx1 (Nat.le_of_ble_eq_true rfl) (q := 99) rfl ?_
                    refine pm_topL (y := nI w) elj ?_
                    refine pm_aload_n dM_reckon_99 rfl (q := 100) rfl ?_
                    refine pm_get fl_M_51 dM_reckon_100 rfl rfl (q := 103) rfl ?_
                    refine pm_iload_n dM_reckon_103 rfl (q := 104) rfl ?_
                    refine pm_ialdN dM_reckon_104 rfl hidx (Nat.le_of_ble_eq_true rfl) (q := 105) rfl ?_
                    refine pm_topL (y := nI a) eli ?_
                    refine pm_if_ne (tgt := 112) dM_reckon_105 rfl (q := 108) rfl (fun _ => ?_) (fun z => absurd z (nI_ne0 (by omega) (by omega)))
                    refine pm_aload_n dM_reckon_112 rfl (q := 113) rfl ?_
                    refine pm_get fl_M_48 dM_reckon_113 rfl rfl (q := 116) rfl ?_
                    refine pm_iload_n dM_reckon_116 rfl (q := 117) rfl ?_
                    refine pm_ialdN dM_reckon_117 rfl hidx (Nat.le_of_ble_eq_true rfl) (q := 118) rfl ?_
                    refine pm_topL efi ?_
                    refine pm_aload_n dM_reckon_118 rfl (q := 119) rfl ?_
                    refine pm_get fl_M_48 dM_reckon_119 rfl rfl (q := 122) rfl ?_
                    refine pm_iload dM_reckon_122 rfl (q := 124) rfl ?_
                    refine pm_ialdN dM_reckon_124 rfl hidx1 (Nat.le_of_ble_eq_true rfl) (q := 125) rfl ?_
                    refine pm_topL efj ?_
                    refine pm_cS2i hK (kM_shifts hl 2 (Nat.le_refl _) _ _ _) mo_M_shifts st_M_shifts lk_M_158 dM_reckon_125 (by omega) (Nat.le_of_ble_eq_true rfl) (Nat.zero_le _) (Nat.zero_le _) (q := 128) rfl ?_
                    refine pm_topL esh ?_
                    refine pm_iadd dM_reckon_128 (q := 129) rfl ?_
                    refine pm_topL (y := nI (w + (cost (A q)[i] (A (q + 1))[j]))) (nI_addm _ _) ?_
                    refine pm_istore dM_reckon_129 (by decide) (q := 131) rfl ?_
                    refine pm_aload_n dM_reckon_131 rfl (q := 132) rfl ?_
                    refine pm_get fl_M_51 dM_reckon_132 rfl rfl (q := 135) rfl ?_
                    refine pm_iload_n dM_reckon_135 rfl (q := 136) rfl ?_
                    refine pm_iload dM_reckon_136 rfl (q := 138) rfl ?_
                    refine pm_if_lt (tgt := 166) dM_reckon_138 rfl (q := 141) rfl (fun z => absurd z (nI_pos (by omega))) (fun _ => ?_)
                    refine pm_aload_n dM_reckon_141 rfl (q := 142) rfl ?_
                    refine pm_get fl_M_51 dM_reckon_142 rfl rfl (q := 145) rfl ?_
                    refine pm_iload_n dM_reckon_145 rfl (q := 146) rfl ?_
                    refine pm_ialdN dM_reckon_146 rfl hidx (Nat.le_of_ble_eq_true rfl) (q := 147) rfl ?_
                    refine pm_topL (y := nI a) eli ?_
                    refine pm_if_lt (tgt := 161) dM_reckon_147 rfl (q := 150) rfl (fun z => absurd z (nI_pos (by omega))) (fun _ => ?_)
                    refine pm_iload dM_reckon_150 rfl (q := 152) rfl ?_
                    refine pm_aload_n dM_reckon_152 rfl (q := 153) rfl ?_
                    refine pm_get fl_M_51 dM_reckon_153 rfl rfl (q := 156) rfl ?_
                    refine pm_iload_n dM_reckon_156 rfl (q := 157) rfl ?_
                    refine pm_ialdN dM_reckon_157 rfl hidx (Nat.le_of_ble_eq_true rfl) (q := 158) rfl ?_
                    refine pm_topL (y := nI a) eli ?_
                    refine pm_icmp_ge (tgt := 166) dM_reckon_158 rfl (q := 161) rfl (fun _ => ?_) (fun z => absurd (nI_le (by omega) (by omega)) z)
                    refine pm_aload_n dM_reckon_166 rfl (q := 167) rfl ?_
                    refine pm_get fl_M_51 dM_reckon_167 rfl rfl (q := 170) rfl ?_
                    refine pm_iload_n dM_reckon_170 rfl (q := 171) rfl ?_
                    refine pm_ialdN dM_reckon_171 rfl hidx (Nat.le_of_ble_eq_true rfl) (q := 172) rfl ?_
                    refine pm_topL (y := nI a) eli ?_
                    refine pm_iastN dM_reckon_172 rfl hidx (Nat.le_of_ble_eq_true rfl) (q := 173) rfl ?_
                    refine pm_iincL dM_reckon_173 rfl (by decide) (y := nI (j + 1)) (by rw [nI_succ]; rfl) (q := 176) rfl ?_
                    refine pm_goto (tgt := 45) dM_reckon_176 rfl ?_
                    refine pm_heap (g := (cH pd si sa hv ha sl sc pl pa (mH mi (up1 ma 7 (upd (lsW (ma 7) (2600 * q) (((A q).take i).map (fun N => oI (bh A D q N)))) (2600 * q + i) (nI a))) tl))) (by show (cH pd si sa hv ha sl sc pl pa (mH mi (up1 ma 7 (upd (upd (lsW (ma 7) (2600 * q) (((A q).take i).map (fun N => oI (bh A D q N)))) (2600 * q + i) (oI (some a))) (2600 * q + i) (nI a))) tl)) = _; rw [upd_upd]) ?_
                    exact nx
        have nx := hI (A (q + 1)).length 0 o4 o5 (by omega)
        rw [List.take_zero] at nx
        refine pm_iload_n dM_reckon_6 rfl (q := 7) rfl ?_
        refine pm_sipush (x := 2600) dM_reckon_7 (by decide) (q := 10) rfl ?_
        refine pm_iload_n dM_reckon_10 rfl (q := 11) rfl ?_
        refine pm_imul dM_reckon_11 (q := 12) rfl ?_
        refine pm_aload_n dM_reckon_12 rfl (q := 13) rfl ?_
        refine pm_get fl_M_54 dM_reckon_13 rfl rfl (q := 16) rfl ?_
        refine pm_iload_n dM_reckon_16 rfl (q := 17) rfl ?_
        refine pm_ialdN dM_reckon_17 rfl hq3 (Nat.le_of_ble_eq_true rfl) (q := 18) rfl ?_
        refine pm_topL (y := nI (A q).length) hm0 ?_
        refine pm_iadd dM_reckon_18 (q := 19) rfl ?_
        refine pm_topL (k26 q (A q).length) ?_
        refine pm_icmp_ge (tgt := 185) dM_reckon_19 rfl (q := 22) rfl (fun z => absurd z (nI_ge (by omega) (by omega))) (fun _ => ?_)
        refine pm_aload_n dM_reckon_22 rfl (q := 23) rfl ?_
        refine pm_get fl_M_51 dM_reckon_23 rfl rfl (q := 26) rfl ?_
        refine pm_iload_n dM_reckon_26 rfl (q := 27) rfl ?_
        refine pm_iload_n dM_reckon_27 rfl (q := 28) rfl ?_
        refine pm_aload_n dM_reckon_28 rfl (q := 29) rfl ?_
        refine pm_get fl_M_16 dM_reckon_29 rfl rfl (q := 32) rfl ?_
        refine pm_iconst (x := 2) dM_reckon_32 (by decide) (q := 33) rfl ?_
        refine pm_isub dM_reckon_33 (q := 34) rfl ?_
        refine pm_topL (y := nI (D - 1)) eD2 ?_
        refine pm_icmp_ne (tgt := 41) dM_reckon_34 rfl (q := 37) rfl (fun _ => ?_) (fun z => absurd (nI_inj (by omega) (by omega) z) (by omega))
        refine pm_iconst (x := -1) dM_reckon_41 (by decide) (q := 42) rfl ?_
        refine pm_iastN dM_reckon_42 rfl hidx (Nat.le_of_ble_eq_true rfl) (q := 43) rfl ?_
        refine pm_iconst (x := 0) dM_reckon_43 (by decide) (q := 44) rfl ?_
        refine pm_istore_n dM_reckon_44 (by decide) (q := 45) rfl ?_
        exact nx
  have h0 := hO (A q).length 0 none none none (by omega)
  rw [List.take_zero, List.map_nil, Nat.add_zero] at h0
  have e7 : up1 ma 7 (lsW (ma 7) (2600 * q) []) = ma := up1_same ma 7
  rw [e7] at h0
  refine pm_sipush (x := 2600) dM_reckon_0 (by decide) (q := 3) rfl ?_
  refine pm_iload_n dM_reckon_3 rfl (q := 4) rfl ?_
  refine pm_imul dM_reckon_4 (q := 5) rfl ?_
  refine pm_topL (k26' q) ?_
  refine pm_istore_n dM_reckon_5 (by decide) (q := 6) rfl ?_
  exact h0
set_option maxHeartbeats 8000000 in
theorem kM_choose {l : Launch} (hl : l.stackTraces = false) (d : Nat) (hd : 3 ≤ d) {pd : Int32} {si : Nat → Int32} {sa : Nat → Nat → Int32} {hv : Nat → Int32} {ha : Nat → Nat → Nat → Int32} {sl : Int32} {sc : Nat → Nat → Int32} {pl : Int32} {pa : Nat → Nat → Int32} {mi : Nat → Int32} {ma : Nat → Nat → Int32} {tl : pm_H} {T : Nat} (hT3 : T ≤ 3) (A : Nat → List pL) {n q lf : Nat} {L : pL} (hL : pOk L T) (hL1 : ∀ b, ct L b ≤ 1) (hA : ∀ N ∈ A q, pOk N T) (hq : q < 3) (hn : n ≤ 3) (hl0 : mlI A ma q) (hb0 : ∀ i, (h : i < (A q).length) → ma 7 (2600 * q + i) = oI (bo A n (q + 1) ((A q)[i]))) (hm : bo A (n + 1) q L = some lf) : ∃ i, ∃ (h : i < (A q).length), (A q).find? (isB A n q L) = some ((A q)[i]) ∧ pm_Sem l d mM_choose [.ref 31, .int (nI q), .int (cM L), .int (nI lf)] (cH pd si sa hv ha sl sc pl pa (mH mi ma tl)) (some (.int (nI (2600 * q + i)))) (cH pd si sa hv ha sl sc pl pa (mH mi ma tl)) := by
  obtain ⟨N, hN, _⟩ := pick_ex hm
  obtain ⟨i, hi, ei, hB, hnB⟩ := find_at _ _ hN
  refine ⟨i, hi, by rw [hN, ei], ?_⟩
  rw [← ei] at hB
  obtain ⟨_, hc0, hf0⟩ := hl0
  have hlf := bo_bnd _ _ _ _ hm
  refine pm_sem hl mo_M_choose ⟨_, rfl, rfl⟩ rfl rfl (Nat.le_of_ble_eq_true rfl) (fun K G hK hret => ?_)
  have hO : ∀ (m j : Nat), m + j = i → pm_Go mM_choose K G 7 [some (.ref 31), some (.int (nI q)), some (.int (cM L)), some (.int (nI lf)), some (.int (nI (2600 * q + j)))] [] (cH pd si sa hv ha sl sc pl pa (mH mi ma tl)) 0 0 := by
    intro m
    induction m with
    | zero =>
      intro j hj
      have hj : j = i := by omega
      subst hj
      have hidx : 2600 * q + j < 7800 := by omega
      have el := hb0 j hi
      have ef := hf0 j hi
      have hNo := hA _ (List.getElem_mem hi)
      have esh : fM_sho (cM L) (cM (A q)[j]) 3 = nI (cost L (A q)[j]) := shifts_val hL hNo hT3 hT3 hL1
      cases hw : bo A n (q + 1) ((A q)[j]) with
      | none =>
        have := of_decide_eq_true hB
        rw [hw, hm] at this
        cases this
      | some v =>
        have ev := (isB_iff hm hw).mp hB
        have hv9 := bo_bnd _ _ _ _ hw
        rw [hw] at el
        have el : _ = nI v := el
        refine pm_aload_n dM_choose_7 rfl (q := 8) rfl ?_
        refine pm_get fl_M_51 dM_choose_8 rfl rfl (q := 11) rfl ?_
        refine pm_iload dM_choose_11 rfl (q := 13) rfl ?_
        refine pm_ialdN dM_choose_13 rfl hidx (Nat.le_of_ble_eq_true rfl) (q := 14) rfl ?_
        refine pm_topL (y := nI v) el ?_
        refine pm_if_lt (tgt := 40) dM_choose_14 rfl (q := 17) rfl (fun z => absurd z (nI_pos (by omega))) (fun _ => ?_)
        refine pm_aload_n dM_choose_17 rfl (q := 18) rfl ?_
        refine pm_get fl_M_51 dM_choose_18 rfl rfl (q := 21) rfl ?_
        refine pm_iload dM_choose_21 rfl (q := 23) rfl ?_
        refine pm_ialdN dM_choose_23 rfl hidx (Nat.le_of_ble_eq_true rfl) (q := 24) rfl ?_
        refine pm_topL (y := nI v) el ?_
        refine pm_iload_n dM_choose_24 rfl (q := 25) rfl ?_
        refine pm_aload_n dM_choose_25 rfl (q := 26) rfl ?_
        refine pm_get fl_M_48 dM_choose_26 rfl rfl (q := 29) rfl ?_
        refine pm_iload dM_choose_29 rfl (q := 31) rfl ?_
        refine pm_ialdN dM_choose_31 rfl hidx (Nat.le_of_ble_eq_true rfl) (q := 32) rfl ?_
        refine pm_topL ef ?_
        refine pm_cS2i hK (kM_shifts hl 2 (Nat.le_refl _) _ _ _) mo_M_shifts st_M_shifts lk_M_158 dM_choose_32 (by omega) (Nat.le_of_ble_eq_true rfl) (Nat.zero_le _) (Nat.zero_le _) (q := 35) rfl ?_
        refine pm_topL esh ?_
        refine pm_iadd dM_choose_35 (q := 36) rfl ?_
        refine pm_topL (y := (nI (v + cost L (A q)[j]))) (nI_addm _ _) ?_
        refine pm_iload_n dM_choose_36 rfl (q := 37) rfl ?_
        refine pm_icmp_eq (tgt := 46) dM_choose_37 rfl (q := 40) rfl (fun _ => ?_) (fun z => absurd (by rw [ev]) z)
        refine pm_iload dM_choose_46 rfl (q := 48) rfl ?_
        exact pm_retI hret dM_choose_48 rfl
    | succ m ih =>
      intro j hj
      have hj9 : j < (A q).length := by omega
      have hidx : 2600 * q + j < 7800 := by omega
      have el := hb0 j hj9
      have ef := hf0 j hj9
      have hNo := hA _ (List.getElem_mem hj9)
      have esh : fM_sho (cM L) (cM (A q)[j]) 3 = nI (cost L (A q)[j]) := shifts_val hL hNo hT3 hT3 hL1
      have nB := hnB j (by omega)
      have nx := ih (j + 1) (by omega)
      have hc5 := cost_le5 L (A q)[j]
      cases hw : bo A n (q + 1) ((A q)[j]) with
      | none =>
        rw [hw] at el
        have el : _ = (-1 : Int32) := el
        refine pm_aload_n dM_choose_7 rfl (q := 8) rfl ?_
        refine pm_get fl_M_51 dM_choose_8 rfl rfl (q := 11) rfl ?_
        refine pm_iload dM_choose_11 rfl (q := 13) rfl ?_
        refine pm_ialdN dM_choose_13 rfl hidx (Nat.le_of_ble_eq_true rfl) (q := 14) rfl ?_
        refine pm_topL (y := -1) el ?_
        refine pm_if_lt (tgt := 40) dM_choose_14 rfl (q := 17) rfl (fun _ => ?_) (fun z => absurd (by decide) z)
        refine pm_iincL dM_choose_40 rfl (by decide) (y := nI (2600 * q + (j + 1))) (by rw [← Nat.add_assoc, nI_succ]; rfl) (q := 43) rfl ?_
        refine pm_goto (tgt := 7) dM_choose_43 rfl ?_
        exact nx
      | some v =>
        have ev : ¬ v + cost L (A q)[j] = lf := fun z => nB ((isB_iff hm hw).mpr z)
        have hv9 := bo_bnd _ _ _ _ hw
        rw [hw] at el
        have el : _ = nI v := el
        refine pm_aload_n dM_choose_7 rfl (q := 8) rfl ?_
        refine pm_get fl_M_51 dM_choose_8 rfl rfl (q := 11) rfl ?_
        refine pm_iload dM_choose_11 rfl (q := 13) rfl ?_
        refine pm_ialdN dM_choose_13 rfl hidx (Nat.le_of_ble_eq_true rfl) (q := 14) rfl ?_
        refine pm_topL (y := nI v) el ?_
        refine pm_if_lt (tgt := 40) dM_choose_14 rfl (q := 17) rfl (fun z => absurd z (nI_pos (by omega))) (fun _ => ?_)
        refine pm_aload_n dM_choose_17 rfl (q := 18) rfl ?_
        refine pm_get fl_M_51 dM_choose_18 rfl rfl (q := 21) rfl ?_
        refine pm_iload dM_choose_21 rfl (q := 23) rfl ?_
        refine pm_ialdN dM_choose_23 rfl hidx (Nat.le_of_ble_eq_true rfl) (q := 24) rfl ?_
        refine pm_topL (y := nI v) el ?_
        refine pm_iload_n dM_choose_24 rfl (q := 25) rfl ?_
        refine pm_aload_n dM_choose_25 rfl (q := 26) rfl ?_
        refine pm_get fl_M_48 dM_choose_26 rfl rfl (q := 29) rfl ?_
        refine pm_iload dM_choose_29 rfl (q := 31) rfl ?_
        refine pm_ialdN dM_choose_31 rfl hidx (Nat.le_of_ble_eq_true rfl) (q := 32) rfl ?_
        refine pm_topL ef ?_
        refine pm_cS2i hK (kM_shifts hl 2 (Nat.le_refl _) _ _ _) mo_M_shifts st_M_shifts lk_M_158 dM_choose_32 (by omega) (Nat.le_of_ble_eq_true rfl) (Nat.zero_le _) (Nat.zero_le _) (q := 35) rfl ?_
        refine pm_topL esh ?_
        refine pm_iadd dM_choose_35 (q := 36) rfl ?_
        refine pm_topL (y := (nI (v + cost L (A q)[j]))) (nI_addm _ _) ?_
        refine pm_iload_n dM_choose_36 rfl (q := 37) rfl ?_
        refine pm_icmp_eq (tgt := 46) dM_choose_37 rfl (q := 40) rfl (fun z => absurd (nI_inj (by omega) (by omega) z) ev) (fun _ => ?_)
        refine pm_iincL dM_choose_40 rfl (by decide) (y := nI (2600 * q + (j + 1))) (by rw [← Nat.add_assoc, nI_succ]; rfl) (q := 43) rfl ?_
        refine pm_goto (tgt := 7) dM_choose_43 rfl ?_
        exact nx
  have h0 := hO i 0 (by omega)
  rw [Nat.add_zero] at h0
  refine pm_sipush (x := 2600) dM_choose_0 (by decide) (q := 3) rfl ?_
  refine pm_iload_n dM_choose_3 rfl (q := 4) rfl ?_
  refine pm_imul dM_choose_4 (q := 5) rfl ?_
  refine pm_topL (k26' q) ?_
  refine pm_istore dM_choose_5 (by decide) (q := 7) rfl ?_
  exact h0
