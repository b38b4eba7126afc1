def lw_K (l : Launch) (L : Nat) (xs : Nat → Int32) (X : pm_X) : Prop := match X with
  | (_, l', _, R, s, _, args, _, _, _, A, _, _, α) => l' = l ∧ R = room_1 ∧ args = #[Value.ref (α 1000000)] ∧ A = (fun q => s.heap.size ≤ q) ∧ va_X (α 1000000) L xs s s.heap ∧ α 1000000 < s.heap.size
def lw_G (X : pm_X) : State → Prop := match X with
  | (_, _, _, _, s, _, args, below, _, _, _, _, _, _) => lw_Z below args s
theorem lw_KX {l : Launch} {L : Nat} {xs : Nat → Int32} : ∀ X, lw_K l L xs X → lwX L xs X := by
  rintro ⟨p, l1, e, R, s, m, args, below, meth, c, A, D, κ, α⟩ ⟨_, _, _, h4, h5, h6⟩
  refine ⟨h5, h6, ?_⟩
  rw [h4]
  show ¬ s.heap.size ≤ α 1000000
  omega
theorem lw_Kd {l : Launch} {L : Nat} {xs : Nat → Int32} : ∀ X, lw_K l L xs X → pm_Kd l 100 601024 7293034 X := by
  rintro ⟨p, l1, e, R, s, m, args, below, meth, c, A, D, κ, α⟩ ⟨h1, h2, _⟩
  refine ⟨h1, ?_, ?_, ?_, ?_⟩
  · show 100 ≤ R.frames
    rw [h2]; decide
  · show 40 * 100 ≤ R.locals
    rw [h2]; decide
  · show 601024 ≤ R.cells
    rw [h2]; exact Nat.le_refl _
  · show 7293034 ≤ R.slots
    rw [h2]; exact Nat.le_refl _
theorem lw_stab {l : Launch} {L : Nat} {xs : Nat → Int32} {lo hi : Nat} (hh : hi ≤ 1000000) : pm_Stab (lw_K l L xs) lw_G lo hi := by
  rintro ⟨p, l1, e, R, s, m, args, below, meth, c, A, D, κ, α⟩ α' hag ⟨h1, h2, h3, h4, h5, h6⟩
  have ea : α' 1000000 = α 1000000 := hag 1000000 (Or.inr hh)
  refine ⟨⟨h1, h2, ?_, h4, ?_, ?_⟩, fun t ht => ht⟩
  · show args = #[Value.ref (α' 1000000)]
    rw [ea]; exact h3
  · show va_X (α' 1000000) L xs s s.heap
    rw [ea]; exact h5
  · show α' 1000000 < s.heap.size
    rw [ea]; exact h6
theorem lw_end {l : Launch} {L : Nat} {xs : Nat → Int32} {pc : Nat} {ls : List (Option Value)} {h : pm_H} {k n : Nat} (hd : decode code pc = .ok (.ireturn, 1)) (h1 : k ≤ 601024) (h2 : n ≤ 7293034) : pm_Go mL_law (lw_K l L xs) lw_G pc ls [.int 1] h k n := by
  rintro ⟨p, l1, e, R, s, m, args, below, meth, c, A, D, κ, α⟩ hKX hO H locs rs hs
  obtain ⟨rfl, rfl, rfl, rfl, hx, hbl⟩ := hKX
  obtain ⟨q1, q2, q3, q4, q5, q6, q7, q8, q9, q10⟩ := hO
  refine va_forget (fun q hq => hs.2.2.1.2.2 q hq) ?_
  refine W.widen h1 h2 ?_
  exact lw_ret q1 q2 q3 q9 hd
set_option maxHeartbeats 8000000 in
theorem lq_bay {l : Launch} (hl : l.stackTraces = false) {L : Nat} {xs : Nat → Int32} (hL : L ≤ 3584) {i k n : Nat} (hi : i + 7 ≤ L) {h : pm_H} (hI : lwInv h) (hk : k + 1 ≤ 601024) (hn : n + 6 ≤ 7293034) (o5 o6 : Option Value) (nx : ∀ (h2 : pm_H) (k2 n2 : Nat) (p5 p6 : Option Value), lwInv h2 → k2 ≤ k + 1 → n2 ≤ n + 6 → pm_Go mL_law (lw_K l L xs) lw_G 832 [some (.ref 1000000), some (.ref 0), some (.ref 31), some (.ref 48), some (.int (nI i)), p5, p6] [] h2 k2 n2) : pm_Go mL_law (lw_K l L xs) lw_G 108 [some (.ref 1000000), some (.ref 0), some (.ref 31), some (.ref 48), some (.int (nI i)), o5, o6] [] h k n := by
  obtain ⟨k1, h1, h2, w1, w2, w3, ⟨hB1, fs1, hO1⟩, hI2⟩ := lw_bay hl hI (xs (i + 1)) (xs (i + 2)) (xs (i + 3)) (xs (i + 4)) (xs (i + 5)) (xs (i + 6))
  obtain ⟨_, fs2, hO2⟩ := lwInv_o hI2
  refine pm_aload_n dL_law_108 rfl (q := 109) rfl ?_
  refine pm_aload_n dL_law_109 rfl (q := 110) rfl ?_
  refine pm_iload dL_law_110 rfl (q := 112) rfl ?_
  refine pm_iconst (x := 1) dL_law_112 (by decide) (q := 113) rfl ?_
  refine pm_iadd dL_law_113 (q := 114) rfl ?_
  refine pm_topL (y := nI (i + 1)) (nI_addm i 1) ?_
  refine pm_sld lw_KX (i := i + 1) (by omega) (by omega) dL_law_114 (q := 115) rfl ?_
  refine pm_aload_n dL_law_115 rfl (q := 116) rfl ?_
  refine pm_iload dL_law_116 rfl (q := 118) rfl ?_
  refine pm_iconst (x := 2) dL_law_118 (by decide) (q := 119) rfl ?_
  refine pm_iadd dL_law_119 (q := 120) rfl ?_
  refine pm_topL (y := nI (i + 2)) (nI_addm i 2) ?_
  refine pm_sld lw_KX (i := i + 2) (by omega) (by omega) dL_law_120 (q := 121) rfl ?_
  refine pm_aload_n dL_law_121 rfl (q := 122) rfl ?_
  refine pm_iload dL_law_122 rfl (q := 124) rfl ?_
  refine pm_iconst (x := 3) dL_law_124 (by decide) (q := 125) rfl ?_
  refine pm_iadd dL_law_125 (q := 126) rfl ?_
  refine pm_topL (y := nI (i + 3)) (nI_addm i 3) ?_
  refine pm_sld lw_KX (i := i + 3) (by omega) (by omega) dL_law_126 (q := 127) rfl ?_
  refine pm_aload_n dL_law_127 rfl (q := 128) rfl ?_
  refine pm_iload dL_law_128 rfl (q := 130) rfl ?_
  refine pm_iconst (x := 4) dL_law_130 (by decide) (q := 131) rfl ?_
  refine pm_iadd dL_law_131 (q := 132) rfl ?_
  refine pm_topL (y := nI (i + 4)) (nI_addm i 4) ?_
  refine pm_sld lw_KX (i := i + 4) (by omega) (by omega) dL_law_132 (q := 133) rfl ?_
  refine pm_aload_n dL_law_133 rfl (q := 134) rfl ?_
  refine pm_iload dL_law_134 rfl (q := 136) rfl ?_
  refine pm_iconst (x := 5) dL_law_136 (by decide) (q := 137) rfl ?_
  refine pm_iadd dL_law_137 (q := 138) rfl ?_
  refine pm_topL (y := nI (i + 5)) (nI_addm i 5) ?_
  refine pm_sld lw_KX (i := i + 5) (by omega) (by omega) dL_law_138 (q := 139) rfl ?_
  refine pm_aload_n dL_law_139 rfl (q := 140) rfl ?_
  refine pm_iload dL_law_140 rfl (q := 142) rfl ?_
  refine pm_bipush (x := 6) dL_law_142 (by decide) (q := 144) rfl ?_
  refine pm_iadd dL_law_144 (q := 145) rfl ?_
  refine pm_topL (y := nI (i + 6)) (nI_addm i 6) ?_
  refine pm_sld lw_KX (i := i + 6) (by omega) (by omega) dL_law_145 (q := 146) rfl ?_
  refine pm_callC (as := _) lw_Kd w1 mc_L_bay st_L_bay (pm_in2 (j := 107) rfl rfl) dL_law_146 (by decide) rfl rfl (Nat.le_of_ble_eq_true rfl) (by omega) (by omega) (q := 149) rfl ?_
  show pm_Go mL_law (lw_K l L xs) lw_G 149 _ [.int k1] h1 (k + 1) (n + 6)
  refine pm_istore dL_law_149 (by decide) (q := 151) rfl ?_
  refine pm_aload_n dL_law_151 rfl (q := 152) rfl ?_
  refine pm_aload_n dL_law_152 rfl (q := 153) rfl ?_
  refine pm_iload dL_law_153 rfl (q := 155) rfl ?_
  refine pm_iconst (x := 1) dL_law_155 (by decide) (q := 156) rfl ?_
  refine pm_iadd dL_law_156 (q := 157) rfl ?_
  refine pm_topL (y := nI (i + 1)) (nI_addm i 1) ?_
  refine pm_sld lw_KX (i := i + 1) (by omega) (by omega) dL_law_157 (q := 158) rfl ?_
  refine pm_aload_n dL_law_158 rfl (q := 159) rfl ?_
  refine pm_iload dL_law_159 rfl (q := 161) rfl ?_
  refine pm_iconst (x := 2) dL_law_161 (by decide) (q := 162) rfl ?_
  refine pm_iadd dL_law_162 (q := 163) rfl ?_
  refine pm_topL (y := nI (i + 2)) (nI_addm i 2) ?_
  refine pm_sld lw_KX (i := i + 2) (by omega) (by omega) dL_law_163 (q := 164) rfl ?_
  refine pm_aload_n dL_law_164 rfl (q := 165) rfl ?_
  refine pm_iload dL_law_165 rfl (q := 167) rfl ?_
  refine pm_iconst (x := 3) dL_law_167 (by decide) (q := 168) rfl ?_
  refine pm_iadd dL_law_168 (q := 169) rfl ?_
  refine pm_topL (y := nI (i + 3)) (nI_addm i 3) ?_
  refine pm_sld lw_KX (i := i + 3) (by omega) (by omega) dL_law_169 (q := 170) rfl ?_
  refine pm_aload_n dL_law_170 rfl (q := 171) rfl ?_
  refine pm_iload dL_law_171 rfl (q := 173) rfl ?_
  refine pm_iconst (x := 4) dL_law_173 (by decide) (q := 174) rfl ?_
  refine pm_iadd dL_law_174 (q := 175) rfl ?_
  refine pm_topL (y := nI (i + 4)) (nI_addm i 4) ?_
  refine pm_sld lw_KX (i := i + 4) (by omega) (by omega) dL_law_175 (q := 176) rfl ?_
  refine pm_aload_n dL_law_176 rfl (q := 177) rfl ?_
  refine pm_iload dL_law_177 rfl (q := 179) rfl ?_
  refine pm_iconst (x := 5) dL_law_179 (by decide) (q := 180) rfl ?_
  refine pm_iadd dL_law_180 (q := 181) rfl ?_
  refine pm_topL (y := nI (i + 5)) (nI_addm i 5) ?_
  refine pm_sld lw_KX (i := i + 5) (by omega) (by omega) dL_law_181 (q := 182) rfl ?_
  refine pm_aload_n dL_law_182 rfl (q := 183) rfl ?_
  refine pm_iload dL_law_183 rfl (q := 185) rfl ?_
  refine pm_bipush (x := 6) dL_law_185 (by decide) (q := 187) rfl ?_
  refine pm_iadd dL_law_187 (q := 188) rfl ?_
  refine pm_topL (y := nI (i + 6)) (nI_addm i 6) ?_
  refine pm_sld lw_KX (i := i + 6) (by omega) (by omega) dL_law_188 (q := 189) rfl ?_
  refine pm_cV6v (ci := 5) lw_Kd w2 mo_M_bay im_M_bay se_M_bay lk_L_65 dL_law_189 (by decide) (Nat.le_of_ble_eq_true rfl) (by omega) (by omega) hO1 rfl rfl (q := 192) rfl ?_
  refine pm_aload_n dL_law_192 rfl (q := 193) rfl ?_
  refine pm_cV0i (ci := 5) lw_Kd w3 mo_M_thrown im_M_thrown se_M_thrown lk_L_66 dL_law_193 (by decide) (Nat.le_of_ble_eq_true rfl) (by omega) (by omega) hO2 rfl rfl (q := 196) rfl ?_
  refine pm_iload dL_law_196 rfl (q := 198) rfl ?_
  refine pm_icmp_eq (tgt := 203) dL_law_198 rfl (q := 201) rfl (fun _ => ?_) (fun z => absurd rfl z)
  refine pm_goto (tgt := 832) dL_law_203 rfl ?_
  exact nx h2 (k + 1) (n + 6) _ _ hI2 (Nat.le_refl _) (Nat.le_refl _)
set_option maxHeartbeats 8000000 in
theorem lq_plug {l : Launch} (hl : l.stackTraces = false) {L : Nat} {xs : Nat → Int32} (hL : L ≤ 3584) {i k n : Nat} (hi : i + 7 ≤ L) {h : pm_H} (hI : lwInv h) (hk : k + 1 ≤ 601024) (hn : n + 6 ≤ 7293034) (o5 o6 : Option Value) (nx : ∀ (h2 : pm_H) (k2 n2 : Nat) (p5 p6 : Option Value), lwInv h2 → k2 ≤ k + 1 → n2 ≤ n + 6 → pm_Go mL_law (lw_K l L xs) lw_G 832 [some (.ref 1000000), some (.ref 0), some (.ref 31), some (.ref 48), some (.int (nI i)), p5, p6] [] h2 k2 n2) : pm_Go mL_law (lw_K l L xs) lw_G 206 [some (.ref 1000000), some (.ref 0), some (.ref 31), some (.ref 48), some (.int (nI i)), o5, o6] [] h k n := by
  have go : ∀ (y : Int32), (¬ xs (i + 2) = 0 → y = 1) → (xs (i + 2) = 0 → y = 0) → pm_Go mL_law (lw_K l L xs) lw_G 206 [some (.ref 1000000), some (.ref 0), some (.ref 31), some (.ref 48), some (.int (nI i)), o5, o6] [] h k n := by
    intro y y1 y0
    obtain ⟨k1, h1, h2, w1, w2, w3, ⟨hB1, fs1, hO1⟩, hI2⟩ := lw_plug hl hI (xs (i + 1)) y
    obtain ⟨_, fs2, hO2⟩ := lwInv_o hI2
    by_cases hz : ¬ xs (i + 2) = 0
    · skip
      refine pm_aload_n dL_law_206 rfl (q := 207) rfl ?_
      refine pm_aload_n dL_law_207 rfl (q := 208) rfl ?_
      refine pm_iload dL_law_208 rfl (q := 210) rfl ?_
      refine pm_iconst (x := 1) dL_law_210 (by decide) (q := 211) rfl ?_
      refine pm_iadd dL_law_211 (q := 212) rfl ?_
      refine pm_topL (y := nI (i + 1)) (nI_addm i 1) ?_
      refine pm_sld lw_KX (i := i + 1) (by omega) (by omega) dL_law_212 (q := 213) rfl ?_
      refine pm_aload_n dL_law_213 rfl (q := 214) rfl ?_
      refine pm_iload dL_law_214 rfl (q := 216) rfl ?_
      refine pm_iconst (x := 2) dL_law_216 (by decide) (q := 217) rfl ?_
      refine pm_iadd dL_law_217 (q := 218) rfl ?_
      refine pm_topL (y := nI (i + 2)) (nI_addm i 2) ?_
      refine pm_sld lw_KX (i := i + 2) (by omega) (by omega) dL_law_218 (q := 219) rfl ?_
      refine pm_if_eq (tgt := 226) dL_law_219 rfl (q := 222) rfl (fun z => absurd z hz) (fun _ => ?_)
      refine pm_iconst (x := 1) dL_law_222 (by decide) (q := 223) rfl ?_
      refine pm_goto (tgt := 227) dL_law_223 rfl ?_
      refine pm_topL (y := y) (y1 hz).symm ?_
      refine pm_callC (as := _) lw_Kd w1 mc_L_plug st_L_plug (pm_in2 (j := 182) rfl rfl) dL_law_227 (by decide) rfl rfl (Nat.le_of_ble_eq_true rfl) (by omega) (by omega) (q := 230) rfl ?_
      show pm_Go mL_law (lw_K l L xs) lw_G 230 _ [.int k1] h1 (k + 1) (n + 6)
      refine pm_istore dL_law_230 (by decide) (q := 232) rfl ?_
      refine pm_aload_n dL_law_232 rfl (q := 233) rfl ?_
      refine pm_aload_n dL_law_233 rfl (q := 234) rfl ?_
      refine pm_iload dL_law_234 rfl (q := 236) rfl ?_
      refine pm_iconst (x := 1) dL_law_236 (by decide) (q := 237) rfl ?_
      refine pm_iadd dL_law_237 (q := 238) rfl ?_
      refine pm_topL (y := nI (i + 1)) (nI_addm i 1) ?_
      refine pm_sld lw_KX (i := i + 1) (by omega) (by omega) dL_law_238 (q := 239) rfl ?_
      refine pm_aload_n dL_law_239 rfl (q := 240) rfl ?_
      refine pm_iload dL_law_240 rfl (q := 242) rfl ?_
      refine pm_iconst (x := 2) dL_law_242 (by decide) (q := 243) rfl ?_
      refine pm_iadd dL_law_243 (q := 244) rfl ?_
      refine pm_topL (y := nI (i + 2)) (nI_addm i 2) ?_
      refine pm_sld lw_KX (i := i + 2) (by omega) (by omega) dL_law_244 (q := 245) rfl ?_
      refine pm_if_eq (tgt := 252) dL_law_245 rfl (q := 248) rfl (fun z => absurd z hz) (fun _ => ?_)
      refine pm_iconst (x := 1) dL_law_248 (by decide) (q := 249) rfl ?_
      refine pm_goto (tgt := 253) dL_law_249 rfl ?_
      refine pm_topL (y := y) (y1 hz).symm ?_
      refine pm_cV2v (ci := 5) lw_Kd w2 mo_M_plug im_M_plug se_M_plug lk_L_72 dL_law_253 (by decide) (Nat.le_of_ble_eq_true rfl) (by omega) (by omega) hO1 rfl rfl (q := 256) rfl ?_
      refine pm_aload_n dL_law_256 rfl (q := 257) rfl ?_
      refine pm_cV0i (ci := 5) lw_Kd w3 mo_M_thrown im_M_thrown se_M_thrown lk_L_66 dL_law_257 (by decide) (Nat.le_of_ble_eq_true rfl) (by omega) (by omega) hO2 rfl rfl (q := 260) rfl ?_
      refine pm_iload dL_law_260 rfl (q := 262) rfl ?_
      refine pm_icmp_eq (tgt := 267) dL_law_262 rfl (q := 265) rfl (fun _ => ?_) (fun z => absurd rfl z)
      refine pm_goto (tgt := 832) dL_law_267 rfl ?_
      exact nx h2 (k + 1) (n + 6) _ _ hI2 (Nat.le_refl _) (Nat.le_refl _)
    · have hz : xs (i + 2) = 0 := Decidable.not_not.mp hz
      refine pm_aload_n dL_law_206 rfl (q := 207) rfl ?_
      refine pm_aload_n dL_law_207 rfl (q := 208) rfl ?_
      refine pm_iload dL_law_208 rfl (q := 210) rfl ?_
      refine pm_iconst (x := 1) dL_law_210 (by decide) (q := 211) rfl ?_
      refine pm_iadd dL_law_211 (q := 212) rfl ?_
      refine pm_topL (y := nI (i + 1)) (nI_addm i 1) ?_
      refine pm_sld lw_KX (i := i + 1) (by omega) (by omega) dL_law_212 (q := 213) rfl ?_
      refine pm_aload_n dL_law_213 rfl (q := 214) rfl ?_
      refine pm_iload dL_law_214 rfl (q := 216) rfl ?_
      refine pm_iconst (x := 2) dL_law_216 (by decide) (q := 217) rfl ?_
      refine pm_iadd dL_law_217 (q := 218) rfl ?_
      refine pm_topL (y := nI (i + 2)) (nI_addm i 2) ?_
      refine pm_sld lw_KX (i := i + 2) (by omega) (by omega) dL_law_218 (q := 219) rfl ?_
      refine pm_if_eq (tgt := 226) dL_law_219 rfl (q := 222) rfl (fun _ => ?_) (fun z => absurd hz z)
      refine pm_iconst (x := 0) dL_law_226 (by decide) (q := 227) rfl ?_
      refine pm_topL (y := y) (y0 hz).symm ?_
      refine pm_callC (as := _) lw_Kd w1 mc_L_plug st_L_plug (pm_in2 (j := 182) rfl rfl) dL_law_227 (by decide) rfl rfl (Nat.le_of_ble_eq_true rfl) (by omega) (by omega) (q := 230) rfl ?_
      show pm_Go mL_law (lw_K l L xs) lw_G 230 _ [.int k1] h1 (k + 1) (n + 6)
      refine pm_istore dL_law_230 (by decide) (q := 232) rfl ?_
      refine pm_aload_n dL_law_232 rfl (q := 233) rfl ?_
      refine pm_aload_n dL_law_233 rfl (q := 234) rfl ?_
      refine pm_iload dL_law_234 rfl (q := 236) rfl ?_
      refine pm_iconst (x := 1) dL_law_236 (by decide) (q := 237) rfl ?_
      refine pm_iadd dL_law_237 (q := 238) rfl ?_
      refine pm_topL (y := nI (i + 1)) (nI_addm i 1) ?_
      refine pm_sld lw_KX (i := i + 1) (by omega) (by omega) dL_law_238 (q := 239) rfl ?_
      refine pm_aload_n dL_law_239 rfl (q := 240) rfl ?_
      refine pm_iload dL_law_240 rfl (q := 242) rfl ?_
      refine pm_iconst (x := 2) dL_law_242 (by decide) (q := 243) rfl ?_
      refine pm_iadd dL_law_243 (q := 244) rfl ?_
      refine pm_topL (y := nI (i + 2)) (nI_addm i 2) ?_
      refine pm_sld lw_KX (i := i + 2) (by omega) (by omega) dL_law_244 (q := 245) rfl ?_
      refine pm_if_eq (tgt := 252) dL_law_245 rfl (q := 248) rfl (fun _ => ?_) (fun z => absurd hz z)
      refine pm_iconst (x := 0) dL_law_252 (by decide) (q := 253) rfl ?_
      refine pm_topL (y := y) (y0 hz).symm ?_
      refine pm_cV2v (ci := 5) lw_Kd w2 mo_M_plug im_M_plug se_M_plug lk_L_72 dL_law_253 (by decide) (Nat.le_of_ble_eq_true rfl) (by omega) (by omega) hO1 rfl rfl (q := 256) rfl ?_
      refine pm_aload_n dL_law_256 rfl (q := 257) rfl ?_
      refine pm_cV0i (ci := 5) lw_Kd w3 mo_M_thrown im_M_thrown se_M_thrown lk_L_66 dL_law_257 (by decide) (Nat.le_of_ble_eq_true rfl) (by omega) (by omega) hO2 rfl rfl (q := 260) rfl ?_
      refine pm_iload dL_law_260 rfl (q := 262) rfl ?_
      refine pm_icmp_eq (tgt := 267) dL_law_262 rfl (q := 265) rfl (fun _ => ?_) (fun z => absurd rfl z)
      refine pm_goto (tgt := 832) dL_law_267 rfl ?_
      exact nx h2 (k + 1) (n + 6) _ _ hI2 (Nat.le_refl _) (Nat.le_refl _)
  by_cases hz : xs (i + 2) = 0
  · exact go 0 (fun z => absurd hz z) (fun _ => rfl)
  · exact go 1 (fun _ => rfl) (fun z => absurd z hz)
set_option maxHeartbeats 8000000 in
theorem lq_box {l : Launch} (hl : l.stackTraces = false) {L : Nat} {xs : Nat → Int32} (hL : L ≤ 3584) {i k n : Nat} (hi : i + 7 ≤ L) {h : pm_H} (hI : lwInv h) (hk : k + 1 ≤ 601024) (hn : n + 6 ≤ 7293034) (o5 o6 : Option Value) (nx : ∀ (h2 : pm_H) (k2 n2 : Nat) (p5 p6 : Option Value), lwInv h2 → k2 ≤ k + 1 → n2 ≤ n + 6 → pm_Go mL_law (lw_K l L xs) lw_G 832 [some (.ref 1000000), some (.ref 0), some (.ref 31), some (.ref 48), some (.int (nI i)), p5, p6] [] h2 k2 n2) : pm_Go mL_law (lw_K l L xs) lw_G 270 [some (.ref 1000000), some (.ref 0), some (.ref 31), some (.ref 48), some (.int (nI i)), o5, o6] [] h k n := by
  obtain ⟨k1, b1, h1, h2, ob, w1, w2, w3, ⟨hB1, fs1, hO1⟩, hI2, hob, hq⟩ := lw_box hl hI (xs (i + 1)) (xs (i + 2)) (xs (i + 3)) (xs (i + 4))
  obtain ⟨_, fs2, hO2⟩ := lwInv_o hI2
  refine pm_aload_n dL_law_270 rfl (q := 271) rfl ?_
  refine pm_aload_n dL_law_271 rfl (q := 272) rfl ?_
  refine pm_iload dL_law_272 rfl (q := 274) rfl ?_
  refine pm_iconst (x := 1) dL_law_274 (by decide) (q := 275) rfl ?_
  refine pm_iadd dL_law_275 (q := 276) rfl ?_
  refine pm_topL (y := nI (i + 1)) (nI_addm i 1) ?_
  refine pm_sld lw_KX (i := i + 1) (by omega) (by omega) dL_law_276 (q := 277) rfl ?_
  refine pm_aload_n dL_law_277 rfl (q := 278) rfl ?_
  refine pm_iload dL_law_278 rfl (q := 280) rfl ?_
  refine pm_iconst (x := 2) dL_law_280 (by decide) (q := 281) rfl ?_
  refine pm_iadd dL_law_281 (q := 282) rfl ?_
  refine pm_topL (y := nI (i + 2)) (nI_addm i 2) ?_
  refine pm_sld lw_KX (i := i + 2) (by omega) (by omega) dL_law_282 (q := 283) rfl ?_
  refine pm_aload_n dL_law_283 rfl (q := 284) rfl ?_
  refine pm_iload dL_law_284 rfl (q := 286) rfl ?_
  refine pm_iconst (x := 3) dL_law_286 (by decide) (q := 287) rfl ?_
  refine pm_iadd dL_law_287 (q := 288) rfl ?_
  refine pm_topL (y := nI (i + 3)) (nI_addm i 3) ?_
  refine pm_sld lw_KX (i := i + 3) (by omega) (by omega) dL_law_288 (q := 289) rfl ?_
  refine pm_aload_n dL_law_289 rfl (q := 290) rfl ?_
  refine pm_iload dL_law_290 rfl (q := 292) rfl ?_
  refine pm_iconst (x := 4) dL_law_292 (by decide) (q := 293) rfl ?_
  refine pm_iadd dL_law_293 (q := 294) rfl ?_
  refine pm_topL (y := nI (i + 4)) (nI_addm i 4) ?_
  refine pm_sld lw_KX (i := i + 4) (by omega) (by omega) dL_law_294 (q := 295) rfl ?_
  refine pm_aload_n dL_law_295 rfl (q := 296) rfl ?_
  refine pm_callC (as := _) lw_Kd w1 mc_L_box st_L_box (pm_in2 (j := 190) rfl rfl) dL_law_296 (by decide) rfl rfl (Nat.le_of_ble_eq_true rfl) (by omega) (by omega) (q := 299) rfl ?_
  show pm_Go mL_law (lw_K l L xs) lw_G 299 _ [.int k1] h1 (k + 1) (n + 6)
  refine pm_istore dL_law_299 (by decide) (q := 301) rfl ?_
  refine pm_aload_n dL_law_301 rfl (q := 302) rfl ?_
  refine pm_aload_n dL_law_302 rfl (q := 303) rfl ?_
  refine pm_iload dL_law_303 rfl (q := 305) rfl ?_
  refine pm_iconst (x := 1) dL_law_305 (by decide) (q := 306) rfl ?_
  refine pm_iadd dL_law_306 (q := 307) rfl ?_
  refine pm_topL (y := nI (i + 1)) (nI_addm i 1) ?_
  refine pm_sld lw_KX (i := i + 1) (by omega) (by omega) dL_law_307 (q := 308) rfl ?_
  refine pm_aload_n dL_law_308 rfl (q := 309) rfl ?_
  refine pm_iload dL_law_309 rfl (q := 311) rfl ?_
  refine pm_iconst (x := 2) dL_law_311 (by decide) (q := 312) rfl ?_
  refine pm_iadd dL_law_312 (q := 313) rfl ?_
  refine pm_topL (y := nI (i + 2)) (nI_addm i 2) ?_
  refine pm_sld lw_KX (i := i + 2) (by omega) (by omega) dL_law_313 (q := 314) rfl ?_
  refine pm_aload_n dL_law_314 rfl (q := 315) rfl ?_
  refine pm_iload dL_law_315 rfl (q := 317) rfl ?_
  refine pm_iconst (x := 3) dL_law_317 (by decide) (q := 318) rfl ?_
  refine pm_iadd dL_law_318 (q := 319) rfl ?_
  refine pm_topL (y := nI (i + 3)) (nI_addm i 3) ?_
  refine pm_sld lw_KX (i := i + 3) (by omega) (by omega) dL_law_319 (q := 320) rfl ?_
  refine pm_aload_n dL_law_320 rfl (q := 321) rfl ?_
  refine pm_iload dL_law_321 rfl (q := 323) rfl ?_
  refine pm_iconst (x := 4) dL_law_323 (by decide) (q := 324) rfl ?_
  refine pm_iadd dL_law_324 (q := 325) rfl ?_
  refine pm_topL (y := nI (i + 4)) (nI_addm i 4) ?_
  refine pm_sld lw_KX (i := i + 4) (by omega) (by omega) dL_law_325 (q := 326) rfl ?_
  refine pm_cV4i (ci := 5) lw_Kd w2 mo_M_box im_M_box se_M_box lk_L_76 dL_law_326 (by decide) (Nat.le_of_ble_eq_true rfl) (by omega) (by omega) hO1 rfl rfl (q := 329) rfl ?_
  refine pm_istore dL_law_329 (by decide) (q := 331) rfl ?_
  refine pm_aload_n dL_law_331 rfl (q := 332) rfl ?_
  refine pm_cV0i (ci := 5) lw_Kd w3 mo_M_thrown im_M_thrown se_M_thrown lk_L_66 dL_law_332 (by decide) (Nat.le_of_ble_eq_true rfl) (by omega) (by omega) hO2 rfl rfl (q := 335) rfl ?_
  refine pm_iload dL_law_335 rfl (q := 337) rfl ?_
  refine pm_icmp_eq (tgt := 342) dL_law_337 rfl (q := 340) rfl (fun _ => ?_) (fun z => absurd rfl z)
  refine pm_iload dL_law_342 rfl (q := 344) rfl ?_
  refine pm_if_ne (tgt := 359) dL_law_344 rfl (q := 347) rfl (fun h344 => ?_) (fun h344 => ?_)
  · refine pm_goto (tgt := 832) dL_law_359 rfl ?_
    exact nx h2 (k + 1) (n + 6) _ _ hI2 (Nat.le_refl _) (Nat.le_refl _)
  · refine pm_aload_n dL_law_347 rfl (q := 348) rfl ?_
    refine pm_iconst (x := 0) dL_law_348 (by decide) (q := 349) rfl ?_
    refine pm_lald dL_law_349 hob (by unfold vp_in; decide) (q := 350) rfl ?_
    refine pm_iload dL_law_350 rfl (q := 352) rfl ?_
    refine pm_i2l dL_law_352 (q := 353) rfl ?_
    refine pm_lcmp dL_law_353 (q := 354) rfl ?_
    refine pm_topL (y := 0) (by rw [show ob (0 : Int32).toNatClampNeg = b1.toInt64 from hq h344]; exact lg_same _) ?_
    refine pm_if_eq (tgt := 359) dL_law_354 rfl (q := 357) rfl (fun _ => ?_) (fun z => absurd rfl z)
    refine pm_goto (tgt := 832) dL_law_359 rfl ?_
    exact nx h2 (k + 1) (n + 6) _ _ hI2 (Nat.le_refl _) (Nat.le_refl _)
set_option maxHeartbeats 8000000 in
theorem lq_roll {l : Launch} (hl : l.stackTraces = false) {L : Nat} {xs : Nat → Int32} (hL : L ≤ 3584) {i k n : Nat} (hi : i + 7 ≤ L) {h : pm_H} (hI : lwInv h) (hk : k + 1 ≤ 601024) (hn : n + 6 ≤ 7293034) (o5 o6 : Option Value) (nx : ∀ (h2 : pm_H) (k2 n2 : Nat) (p5 p6 : Option Value), lwInv h2 → k2 ≤ k + 1 → n2 ≤ n + 6 → pm_Go mL_law (lw_K l L xs) lw_G 832 [some (.ref 1000000), some (.ref 0), some (.ref 31), some (.ref 48), some (.int (nI i)), p5, p6] [] h2 k2 n2) : pm_Go mL_law (lw_K l L xs) lw_G 362 [some (.ref 1000000), some (.ref 0), some (.ref 31), some (.ref 48), some (.int (nI i)), o5, o6] [] h k n := by
  obtain ⟨k1, h1, h2, w1, w2, w3, ⟨hB1, fs1, hO1⟩, hI2⟩ := lw_roll hl hI (xs (i + 1))
  obtain ⟨_, fs2, hO2⟩ := lwInv_o hI2
  refine pm_aload_n dL_law_362 rfl (q := 363) rfl ?_
  refine pm_aload_n dL_law_363 rfl (q := 364) rfl ?_
  refine pm_iload dL_law_364 rfl (q := 366) rfl ?_
  refine pm_iconst (x := 1) dL_law_366 (by decide) (q := 367) rfl ?_
  refine pm_iadd dL_law_367 (q := 368) rfl ?_
  refine pm_topL (y := nI (i + 1)) (nI_addm i 1) ?_
  refine pm_sld lw_KX (i := i + 1) (by omega) (by omega) dL_law_368 (q := 369) rfl ?_
  refine pm_callC (as := _) lw_Kd w1 mc_L_roll st_L_roll (pm_in2 (j := 221) rfl rfl) dL_law_369 (by decide) rfl rfl (Nat.le_of_ble_eq_true rfl) (by omega) (by omega) (q := 372) rfl ?_
  show pm_Go mL_law (lw_K l L xs) lw_G 372 _ [.int k1] h1 (k + 1) (n + 6)
  refine pm_istore dL_law_372 (by decide) (q := 374) rfl ?_
  refine pm_aload_n dL_law_374 rfl (q := 375) rfl ?_
  refine pm_aload_n dL_law_375 rfl (q := 376) rfl ?_
  refine pm_iload dL_law_376 rfl (q := 378) rfl ?_
  refine pm_iconst (x := 1) dL_law_378 (by decide) (q := 379) rfl ?_
  refine pm_iadd dL_law_379 (q := 380) rfl ?_
  refine pm_topL (y := nI (i + 1)) (nI_addm i 1) ?_
  refine pm_sld lw_KX (i := i + 1) (by omega) (by omega) dL_law_380 (q := 381) rfl ?_
  refine pm_cV1v (ci := 5) lw_Kd w2 mo_M_roll im_M_roll se_M_roll lk_L_80 dL_law_381 (by decide) (Nat.le_of_ble_eq_true rfl) (by omega) (by omega) hO1 rfl rfl (q := 384) rfl ?_
  refine pm_aload_n dL_law_384 rfl (q := 385) rfl ?_
  refine pm_cV0i (ci := 5) lw_Kd w3 mo_M_thrown im_M_thrown se_M_thrown lk_L_66 dL_law_385 (by decide) (Nat.le_of_ble_eq_true rfl) (by omega) (by omega) hO2 rfl rfl (q := 388) rfl ?_
  refine pm_iload dL_law_388 rfl (q := 390) rfl ?_
  refine pm_icmp_eq (tgt := 395) dL_law_390 rfl (q := 393) rfl (fun _ => ?_) (fun z => absurd rfl z)
  refine pm_goto (tgt := 832) dL_law_395 rfl ?_
  exact nx h2 (k + 1) (n + 6) _ _ hI2 (Nat.le_refl _) (Nat.le_refl _)
set_option maxHeartbeats 8000000 in
theorem lq_plan {l : Launch} (hl : l.stackTraces = false) {L : Nat} {xs : Nat → Int32} (hL : L ≤ 3584) {i k n : Nat} (hi : i + 7 ≤ L) {h : pm_H} (hI : lwInv h) (hk : k + 1 ≤ 601024) (hn : n + 6 ≤ 7293034) (o5 o6 : Option Value) (nx : ∀ (h2 : pm_H) (k2 n2 : Nat) (p5 p6 : Option Value), lwInv h2 → k2 ≤ k + 1 → n2 ≤ n + 6 → pm_Go mL_law (lw_K l L xs) lw_G 832 [some (.ref 1000000), some (.ref 0), some (.ref 31), some (.ref 48), some (.int (nI i)), p5, p6] [] h2 k2 n2) : pm_Go mL_law (lw_K l L xs) lw_G 398 [some (.ref 1000000), some (.ref 0), some (.ref 31), some (.ref 48), some (.int (nI i)), o5, o6] [] h k n := by
  obtain ⟨k1, h1, h2, w1, w2, ⟨hB1, fs1, hO1⟩, hI2⟩ := lw_plan hl hI
  obtain ⟨⟨fs0, hO0⟩, _⟩ := lwInv_o hI
  refine pm_aload_n dL_law_398 rfl (q := 399) rfl ?_
  refine pm_cV0i (ci := 0) lw_Kd w1 mo_B_plan im_B_plan se_B_plan lk_L_81 dL_law_399 (by decide) (Nat.le_of_ble_eq_true rfl) (by omega) (by omega) hO0 rfl rfl (q := 402) rfl ?_
  refine pm_aload_n dL_law_402 rfl (q := 403) rfl ?_
  refine pm_cV0i (ci := 5) lw_Kd w2 mo_M_plan im_M_plan se_M_plan lk_L_84 dL_law_403 (by decide) (Nat.le_of_ble_eq_true rfl) (by omega) (by omega) hO1 rfl rfl (q := 406) rfl ?_
  refine pm_icmp_eq (tgt := 832) dL_law_406 rfl (q := 409) rfl (fun _ => ?_) (fun z => absurd rfl z)
  exact nx h2 k n _ _ hI2 (by omega) (by omega)
set_option maxHeartbeats 8000000 in
theorem lq_moves {l : Launch} (hl : l.stackTraces = false) {L : Nat} {xs : Nat → Int32} (hL : L ≤ 3584) {i k n : Nat} (hi : i + 7 ≤ L) {h : pm_H} (hI : lwInv h) (hk : k + 1 ≤ 601024) (hn : n + 6 ≤ 7293034) (o5 o6 : Option Value) (nx : ∀ (h2 : pm_H) (k2 n2 : Nat) (p5 p6 : Option Value), lwInv h2 → k2 ≤ k + 1 → n2 ≤ n + 6 → pm_Go mL_law (lw_K l L xs) lw_G 832 [some (.ref 1000000), some (.ref 0), some (.ref 31), some (.ref 48), some (.int (nI i)), p5, p6] [] h2 k2 n2) : pm_Go mL_law (lw_K l L xs) lw_G 411 [some (.ref 1000000), some (.ref 0), some (.ref 31), some (.ref 48), some (.int (nI i)), o5, o6] [] h k n := by
  obtain ⟨k1, h2, w1, w2, hI2⟩ := lw_moves hl hI
  obtain ⟨⟨fs0, hO0⟩, fs1, hO1⟩ := lwInv_o hI
  refine pm_aload_n dL_law_411 rfl (q := 412) rfl ?_
  refine pm_cV0i (ci := 0) lw_Kd w1 mo_B_moves im_B_moves se_B_moves lk_L_85 dL_law_412 (by decide) (Nat.le_of_ble_eq_true rfl) (by omega) (by omega) hO0 rfl rfl (q := 415) rfl ?_
  refine pm_aload_n dL_law_415 rfl (q := 416) rfl ?_
  refine pm_cV0i (ci := 5) lw_Kd w2 mo_M_moves im_M_moves se_M_moves lk_L_88 dL_law_416 (by decide) (Nat.le_of_ble_eq_true rfl) (by omega) (by omega) hO1 rfl rfl (q := 419) rfl ?_
  refine pm_icmp_eq (tgt := 832) dL_law_419 rfl (q := 422) rfl (fun _ => ?_) (fun z => absurd rfl z)
  exact nx h2 k n _ _ hI2 (by omega) (by omega)
set_option maxHeartbeats 8000000 in
theorem lq_move {l : Launch} (hl : l.stackTraces = false) {L : Nat} {xs : Nat → Int32} (hL : L ≤ 3584) {i k n : Nat} (hi : i + 7 ≤ L) {h : pm_H} (hI : lwInv h) (hk : k + 1 ≤ 601024) (hn : n + 6 ≤ 7293034) (o5 o6 : Option Value) (nx : ∀ (h2 : pm_H) (k2 n2 : Nat) (p5 p6 : Option Value), lwInv h2 → k2 ≤ k + 1 → n2 ≤ n + 6 → pm_Go mL_law (lw_K l L xs) lw_G 832 [some (.ref 1000000), some (.ref 0), some (.ref 31), some (.ref 48), some (.int (nI i)), p5, p6] [] h2 k2 n2) : pm_Go mL_law (lw_K l L xs) lw_G 424 [some (.ref 1000000), some (.ref 0), some (.ref 31), some (.ref 48), some (.int (nI i)), o5, o6] [] h k n := by
  obtain ⟨k1, b1, h1, h2, ob, w1, w2, w3, ⟨hB1, fs1, hO1⟩, hI2, hob, hq⟩ := lw_move hl hI (xs (i + 1)) (xs (i + 2))
  obtain ⟨_, fs2, hO2⟩ := lwInv_o hI2
  refine pm_aload_n dL_law_424 rfl (q := 425) rfl ?_
  refine pm_aload_n dL_law_425 rfl (q := 426) rfl ?_
  refine pm_iload dL_law_426 rfl (q := 428) rfl ?_
  refine pm_iconst (x := 1) dL_law_428 (by decide) (q := 429) rfl ?_
  refine pm_iadd dL_law_429 (q := 430) rfl ?_
  refine pm_topL (y := nI (i + 1)) (nI_addm i 1) ?_
  refine pm_sld lw_KX (i := i + 1) (by omega) (by omega) dL_law_430 (q := 431) rfl ?_
  refine pm_aload_n dL_law_431 rfl (q := 432) rfl ?_
  refine pm_iload dL_law_432 rfl (q := 434) rfl ?_
  refine pm_iconst (x := 2) dL_law_434 (by decide) (q := 435) rfl ?_
  refine pm_iadd dL_law_435 (q := 436) rfl ?_
  refine pm_topL (y := nI (i + 2)) (nI_addm i 2) ?_
  refine pm_sld lw_KX (i := i + 2) (by omega) (by omega) dL_law_436 (q := 437) rfl ?_
  refine pm_aload_n dL_law_437 rfl (q := 438) rfl ?_
  refine pm_callC (as := _) lw_Kd w1 mc_L_move st_L_move (pm_in2 (j := 232) rfl rfl) dL_law_438 (by decide) rfl rfl (Nat.le_of_ble_eq_true rfl) (by omega) (by omega) (q := 441) rfl ?_
  show pm_Go mL_law (lw_K l L xs) lw_G 441 _ [.int k1] h1 (k + 1) (n + 6)
  refine pm_istore dL_law_441 (by decide) (q := 443) rfl ?_
  refine pm_aload_n dL_law_443 rfl (q := 444) rfl ?_
  refine pm_aload_n dL_law_444 rfl (q := 445) rfl ?_
  refine pm_iload dL_law_445 rfl (q := 447) rfl ?_
  refine pm_iconst (x := 1) dL_law_447 (by decide) (q := 448) rfl ?_
  refine pm_iadd dL_law_448 (q := 449) rfl ?_
  refine pm_topL (y := nI (i + 1)) (nI_addm i 1) ?_
  refine pm_sld lw_KX (i := i + 1) (by omega) (by omega) dL_law_449 (q := 450) rfl ?_
  refine pm_aload_n dL_law_450 rfl (q := 451) rfl ?_
  refine pm_iload dL_law_451 rfl (q := 453) rfl ?_
  refine pm_iconst (x := 2) dL_law_453 (by decide) (q := 454) rfl ?_
  refine pm_iadd dL_law_454 (q := 455) rfl ?_
  refine pm_topL (y := nI (i + 2)) (nI_addm i 2) ?_
  refine pm_sld lw_KX (i := i + 2) (by omega) (by omega) dL_law_455 (q := 456) rfl ?_
  refine pm_cV2i (ci := 5) lw_Kd w2 mo_M_move im_M_move se_M_move lk_L_92 dL_law_456 (by decide) (Nat.le_of_ble_eq_true rfl) (by omega) (by omega) hO1 rfl rfl (q := 459) rfl ?_
  refine pm_istore dL_law_459 (by decide) (q := 461) rfl ?_
  refine pm_aload_n dL_law_461 rfl (q := 462) rfl ?_
  refine pm_cV0i (ci := 5) lw_Kd w3 mo_M_thrown im_M_thrown se_M_thrown lk_L_66 dL_law_462 (by decide) (Nat.le_of_ble_eq_true rfl) (by omega) (by omega) hO2 rfl rfl (q := 465) rfl ?_
  refine pm_iload dL_law_465 rfl (q := 467) rfl ?_
  refine pm_icmp_eq (tgt := 472) dL_law_467 rfl (q := 470) rfl (fun _ => ?_) (fun z => absurd rfl z)
  refine pm_iload dL_law_472 rfl (q := 474) rfl ?_
  refine pm_if_ne (tgt := 489) dL_law_474 rfl (q := 477) rfl (fun h474 => ?_) (fun h474 => ?_)
  · refine pm_goto (tgt := 832) dL_law_489 rfl ?_
    exact nx h2 (k + 1) (n + 6) _ _ hI2 (Nat.le_refl _) (Nat.le_refl _)
  · refine pm_aload_n dL_law_477 rfl (q := 478) rfl ?_
    refine pm_iconst (x := 0) dL_law_478 (by decide) (q := 479) rfl ?_
    refine pm_lald dL_law_479 hob (by unfold vp_in; decide) (q := 480) rfl ?_
    refine pm_iload dL_law_480 rfl (q := 482) rfl ?_
    refine pm_i2l dL_law_482 (q := 483) rfl ?_
    refine pm_lcmp dL_law_483 (q := 484) rfl ?_
    refine pm_topL (y := 0) (by rw [show ob (0 : Int32).toNatClampNeg = b1.toInt64 from hq h474]; exact lg_same _) ?_
    refine pm_if_eq (tgt := 489) dL_law_484 rfl (q := 487) rfl (fun _ => ?_) (fun z => absurd rfl z)
    refine pm_goto (tgt := 832) dL_law_489 rfl ?_
    exact nx h2 (k + 1) (n + 6) _ _ hI2 (Nat.le_refl _) (Nat.le_refl _)
set_option maxHeartbeats 8000000 in
theorem lq_hand {l : Launch} (hl : l.stackTraces = false) {L : Nat} {xs : Nat → Int32} (hL : L ≤ 3584) {i k n : Nat} (hi : i + 7 ≤ L) {h : pm_H} (hI : lwInv h) (hk : k + 1 ≤ 601024) (hn : n + 6 ≤ 7293034) (o5 o6 : Option Value) (nx : ∀ (h2 : pm_H) (k2 n2 : Nat) (p5 p6 : Option Value), lwInv h2 → k2 ≤ k + 1 → n2 ≤ n + 6 → pm_Go mL_law (lw_K l L xs) lw_G 832 [some (.ref 1000000), some (.ref 0), some (.ref 31), some (.ref 48), some (.int (nI i)), p5, p6] [] h2 k2 n2) : pm_Go mL_law (lw_K l L xs) lw_G 492 [some (.ref 1000000), some (.ref 0), some (.ref 31), some (.ref 48), some (.int (nI i)), o5, o6] [] h k n := by
  obtain ⟨k1, h1, h2, w1, w2, w3, ⟨hB1, fs1, hO1⟩, hI2⟩ := lw_hand hl hI (xs (i + 1)) (xs (i + 2))
  obtain ⟨_, fs2, hO2⟩ := lwInv_o hI2
  refine pm_aload_n dL_law_492 rfl (q := 493) rfl ?_
  refine pm_aload_n dL_law_493 rfl (q := 494) rfl ?_
  refine pm_iload dL_law_494 rfl (q := 496) rfl ?_
  refine pm_iconst (x := 1) dL_law_496 (by decide) (q := 497) rfl ?_
  refine pm_iadd dL_law_497 (q := 498) rfl ?_
  refine pm_topL (y := nI (i + 1)) (nI_addm i 1) ?_
  refine pm_sld lw_KX (i := i + 1) (by omega) (by omega) dL_law_498 (q := 499) rfl ?_
  refine pm_aload_n dL_law_499 rfl (q := 500) rfl ?_
  refine pm_iload dL_law_500 rfl (q := 502) rfl ?_
  refine pm_iconst (x := 2) dL_law_502 (by decide) (q := 503) rfl ?_
  refine pm_iadd dL_law_503 (q := 504) rfl ?_
  refine pm_topL (y := nI (i + 2)) (nI_addm i 2) ?_
  refine pm_sld lw_KX (i := i + 2) (by omega) (by omega) dL_law_504 (q := 505) rfl ?_
  refine pm_callC (as := _) lw_Kd w1 mc_L_hand st_L_hand (pm_in3 (j := 24) rfl rfl) dL_law_505 (by decide) rfl rfl (Nat.le_of_ble_eq_true rfl) (by omega) (by omega) (q := 508) rfl ?_
  show pm_Go mL_law (lw_K l L xs) lw_G 508 _ [.int k1] h1 (k + 1) (n + 6)
  refine pm_istore dL_law_508 (by decide) (q := 510) rfl ?_
  refine pm_aload_n dL_law_510 rfl (q := 511) rfl ?_
  refine pm_aload_n dL_law_511 rfl (q := 512) rfl ?_
  refine pm_iload dL_law_512 rfl (q := 514) rfl ?_
  refine pm_iconst (x := 1) dL_law_514 (by decide) (q := 515) rfl ?_
  refine pm_iadd dL_law_515 (q := 516) rfl ?_
  refine pm_topL (y := nI (i + 1)) (nI_addm i 1) ?_
  refine pm_sld lw_KX (i := i + 1) (by omega) (by omega) dL_law_516 (q := 517) rfl ?_
  refine pm_aload_n dL_law_517 rfl (q := 518) rfl ?_
  refine pm_iload dL_law_518 rfl (q := 520) rfl ?_
  refine pm_iconst (x := 2) dL_law_520 (by decide) (q := 521) rfl ?_
  refine pm_iadd dL_law_521 (q := 522) rfl ?_
  refine pm_topL (y := nI (i + 2)) (nI_addm i 2) ?_
  refine pm_sld lw_KX (i := i + 2) (by omega) (by omega) dL_law_522 (q := 523) rfl ?_
  refine pm_cV2v (ci := 5) lw_Kd w2 mo_M_hand im_M_hand se_M_hand lk_L_96 dL_law_523 (by decide) (Nat.le_of_ble_eq_true rfl) (by omega) (by omega) hO1 rfl rfl (q := 526) rfl ?_
  refine pm_aload_n dL_law_526 rfl (q := 527) rfl ?_
  refine pm_cV0i (ci := 5) lw_Kd w3 mo_M_thrown im_M_thrown se_M_thrown lk_L_66 dL_law_527 (by decide) (Nat.le_of_ble_eq_true rfl) (by omega) (by omega) hO2 rfl rfl (q := 530) rfl ?_
  refine pm_iload dL_law_530 rfl (q := 532) rfl ?_
  refine pm_icmp_eq (tgt := 537) dL_law_532 rfl (q := 535) rfl (fun _ => ?_) (fun z => absurd rfl z)
  refine pm_goto (tgt := 832) dL_law_537 rfl ?_
  exact nx h2 (k + 1) (n + 6) _ _ hI2 (Nat.le_refl _) (Nat.le_refl _)
set_option maxHeartbeats 8000000 in
theorem lq_replay {l : Launch} (hl : l.stackTraces = false) {L : Nat} {xs : Nat → Int32} (hL : L ≤ 3584) {i k n : Nat} (hi : i + 7 ≤ L) {h : pm_H} (hI : lwInv h) (hk : k + 1 ≤ 601024) (hn : n + 6 ≤ 7293034) (o5 o6 : Option Value) (nx : ∀ (h2 : pm_H) (k2 n2 : Nat) (p5 p6 : Option Value), lwInv h2 → k2 ≤ k + 1 → n2 ≤ n + 6 → pm_Go mL_law (lw_K l L xs) lw_G 832 [some (.ref 1000000), some (.ref 0), some (.ref 31), some (.ref 48), some (.int (nI i)), p5, p6] [] h2 k2 n2) : pm_Go mL_law (lw_K l L xs) lw_G 540 [some (.ref 1000000), some (.ref 0), some (.ref 31), some (.ref 48), some (.int (nI i)), o5, o6] [] h k n := by
  obtain ⟨k1, b1, h1, h2, ob, w1, w2, w3, ⟨hB1, fs1, hO1⟩, hI2, hob, hq⟩ := lw_replay hl hI (xs (i + 1))
  obtain ⟨_, fs2, hO2⟩ := lwInv_o hI2
  refine pm_aload_n dL_law_540 rfl (q := 541) rfl ?_
  refine pm_aload_n dL_law_541 rfl (q := 542) rfl ?_
  refine pm_iload dL_law_542 rfl (q := 544) rfl ?_
  refine pm_iconst (x := 1) dL_law_544 (by decide) (q := 545) rfl ?_
  refine pm_iadd dL_law_545 (q := 546) rfl ?_
  refine pm_topL (y := nI (i + 1)) (nI_addm i 1) ?_
  refine pm_sld lw_KX (i := i + 1) (by omega) (by omega) dL_law_546 (q := 547) rfl ?_
  refine pm_aload_n dL_law_547 rfl (q := 548) rfl ?_
  refine pm_callC (as := _) lw_Kd w1 mc_L_replay st_L_replay (pm_in3 (j := 35) rfl rfl) dL_law_548 (by decide) rfl rfl (Nat.le_of_ble_eq_true rfl) (by omega) (by omega) (q := 551) rfl ?_
  show pm_Go mL_law (lw_K l L xs) lw_G 551 _ [.int k1] h1 (k + 1) (n + 6)
  refine pm_istore dL_law_551 (by decide) (q := 553) rfl ?_
  refine pm_aload_n dL_law_553 rfl (q := 554) rfl ?_
  refine pm_aload_n dL_law_554 rfl (q := 555) rfl ?_
  refine pm_iload dL_law_555 rfl (q := 557) rfl ?_
  refine pm_iconst (x := 1) dL_law_557 (by decide) (q := 558) rfl ?_
  refine pm_iadd dL_law_558 (q := 559) rfl ?_
  refine pm_topL (y := nI (i + 1)) (nI_addm i 1) ?_
  refine pm_sld lw_KX (i := i + 1) (by omega) (by omega) dL_law_559 (q := 560) rfl ?_
  refine pm_cV1i (ci := 5) lw_Kd w2 mo_M_replay im_M_replay se_M_replay lk_L_100 dL_law_560 (by decide) (Nat.le_of_ble_eq_true rfl) (by omega) (by omega) hO1 rfl rfl (q := 563) rfl ?_
  refine pm_istore dL_law_563 (by decide) (q := 565) rfl ?_
  refine pm_aload_n dL_law_565 rfl (q := 566) rfl ?_
  refine pm_cV0i (ci := 5) lw_Kd w3 mo_M_thrown im_M_thrown se_M_thrown lk_L_66 dL_law_566 (by decide) (Nat.le_of_ble_eq_true rfl) (by omega) (by omega) hO2 rfl rfl (q := 569) rfl ?_
  refine pm_iload dL_law_569 rfl (q := 571) rfl ?_
  refine pm_icmp_eq (tgt := 576) dL_law_571 rfl (q := 574) rfl (fun _ => ?_) (fun z => absurd rfl z)
  refine pm_iload dL_law_576 rfl (q := 578) rfl ?_
  refine pm_if_ne (tgt := 593) dL_law_578 rfl (q := 581) rfl (fun h578 => ?_) (fun h578 => ?_)
  · refine pm_goto (tgt := 832) dL_law_593 rfl ?_
    exact nx h2 (k + 1) (n + 6) _ _ hI2 (Nat.le_refl _) (Nat.le_refl _)
  · refine pm_aload_n dL_law_581 rfl (q := 582) rfl ?_
    refine pm_iconst (x := 0) dL_law_582 (by decide) (q := 583) rfl ?_
    refine pm_lald dL_law_583 hob (by unfold vp_in; decide) (q := 584) rfl ?_
    refine pm_iload dL_law_584 rfl (q := 586) rfl ?_
    refine pm_i2l dL_law_586 (q := 587) rfl ?_
    refine pm_lcmp dL_law_587 (q := 588) rfl ?_
    refine pm_topL (y := 0) (by rw [show ob (0 : Int32).toNatClampNeg = b1.toInt64 from hq h578]; exact lg_same _) ?_
    refine pm_if_eq (tgt := 593) dL_law_588 rfl (q := 591) rfl (fun _ => ?_) (fun z => absurd rfl z)
    refine pm_goto (tgt := 832) dL_law_593 rfl ?_
    exact nx h2 (k + 1) (n + 6) _ _ hI2 (Nat.le_refl _) (Nat.le_refl _)
set_option maxHeartbeats 8000000 in
theorem lq_slot {l : Launch} (hl : l.stackTraces = false) {L : Nat} {xs : Nat → Int32} (hL : L ≤ 3584) {i k n : Nat} (hi : i + 7 ≤ L) {h : pm_H} (hI : lwInv h) (hk : k + 1 ≤ 601024) (hn : n + 6 ≤ 7293034) (o5 o6 : Option Value) (nx : ∀ (h2 : pm_H) (k2 n2 : Nat) (p5 p6 : Option Value), lwInv h2 → k2 ≤ k + 1 → n2 ≤ n + 6 → pm_Go mL_law (lw_K l L xs) lw_G 832 [some (.ref 1000000), some (.ref 0), some (.ref 31), some (.ref 48), some (.int (nI i)), p5, p6] [] h2 k2 n2) : pm_Go mL_law (lw_K l L xs) lw_G 596 [some (.ref 1000000), some (.ref 0), some (.ref 31), some (.ref 48), some (.int (nI i)), o5, o6] [] h k n := by
  obtain ⟨k1, b1, h1, h2, ob, w1, w2, w3, ⟨hB1, fs1, hO1⟩, hI2, hob, hq⟩ := lw_slot hl hI (xs (i + 1)) (xs (i + 2))
  obtain ⟨_, fs2, hO2⟩ := lwInv_o hI2
  refine pm_aload_n dL_law_596 rfl (q := 597) rfl ?_
  refine pm_aload_n dL_law_597 rfl (q := 598) rfl ?_
  refine pm_iload dL_law_598 rfl (q := 600) rfl ?_
  refine pm_iconst (x := 1) dL_law_600 (by decide) (q := 601) rfl ?_
  refine pm_iadd dL_law_601 (q := 602) rfl ?_
  refine pm_topL (y := nI (i + 1)) (nI_addm i 1) ?_
  refine pm_sld lw_KX (i := i + 1) (by omega) (by omega) dL_law_602 (q := 603) rfl ?_
  refine pm_aload_n dL_law_603 rfl (q := 604) rfl ?_
  refine pm_iload dL_law_604 rfl (q := 606) rfl ?_
  refine pm_iconst (x := 2) dL_law_606 (by decide) (q := 607) rfl ?_
  refine pm_iadd dL_law_607 (q := 608) rfl ?_
  refine pm_topL (y := nI (i + 2)) (nI_addm i 2) ?_
  refine pm_sld lw_KX (i := i + 2) (by omega) (by omega) dL_law_608 (q := 609) rfl ?_
  refine pm_aload_n dL_law_609 rfl (q := 610) rfl ?_
  refine pm_callC (as := _) lw_Kd w1 mc_L_slot st_L_slot (pm_in3 (j := 70) rfl rfl) dL_law_610 (by decide) rfl rfl (Nat.le_of_ble_eq_true rfl) (by omega) (by omega) (q := 613) rfl ?_
  show pm_Go mL_law (lw_K l L xs) lw_G 613 _ [.int k1] h1 (k + 1) (n + 6)
  refine pm_istore dL_law_613 (by decide) (q := 615) rfl ?_
  refine pm_aload_n dL_law_615 rfl (q := 616) rfl ?_
  refine pm_aload_n dL_law_616 rfl (q := 617) rfl ?_
  refine pm_iload dL_law_617 rfl (q := 619) rfl ?_
  refine pm_iconst (x := 1) dL_law_619 (by decide) (q := 620) rfl ?_
  refine pm_iadd dL_law_620 (q := 621) rfl ?_
  refine pm_topL (y := nI (i + 1)) (nI_addm i 1) ?_
  refine pm_sld lw_KX (i := i + 1) (by omega) (by omega) dL_law_621 (q := 622) rfl ?_
  refine pm_aload_n dL_law_622 rfl (q := 623) rfl ?_
  refine pm_iload dL_law_623 rfl (q := 625) rfl ?_
  refine pm_iconst (x := 2) dL_law_625 (by decide) (q := 626) rfl ?_
  refine pm_iadd dL_law_626 (q := 627) rfl ?_
  refine pm_topL (y := nI (i + 2)) (nI_addm i 2) ?_
  refine pm_sld lw_KX (i := i + 2) (by omega) (by omega) dL_law_627 (q := 628) rfl ?_
  refine pm_cV2i (ci := 5) lw_Kd w2 mo_M_slot im_M_slot se_M_slot lk_L_103 dL_law_628 (by decide) (Nat.le_of_ble_eq_true rfl) (by omega) (by omega) hO1 rfl rfl (q := 631) rfl ?_
  refine pm_istore dL_law_631 (by decide) (q := 633) rfl ?_
  refine pm_aload_n dL_law_633 rfl (q := 634) rfl ?_
  refine pm_cV0i (ci := 5) lw_Kd w3 mo_M_thrown im_M_thrown se_M_thrown lk_L_66 dL_law_634 (by decide) (Nat.le_of_ble_eq_true rfl) (by omega) (by omega) hO2 rfl rfl (q := 637) rfl ?_
  refine pm_iload dL_law_637 rfl (q := 639) rfl ?_
  refine pm_icmp_eq (tgt := 644) dL_law_639 rfl (q := 642) rfl (fun _ => ?_) (fun z => absurd rfl z)
  refine pm_iload dL_law_644 rfl (q := 646) rfl ?_
  refine pm_if_ne (tgt := 661) dL_law_646 rfl (q := 649) rfl (fun h646 => ?_) (fun h646 => ?_)
  · refine pm_goto (tgt := 832) dL_law_661 rfl ?_
    exact nx h2 (k + 1) (n + 6) _ _ hI2 (Nat.le_refl _) (Nat.le_refl _)
  · refine pm_aload_n dL_law_649 rfl (q := 650) rfl ?_
    refine pm_iconst (x := 0) dL_law_650 (by decide) (q := 651) rfl ?_
    refine pm_lald dL_law_651 hob (by unfold vp_in; decide) (q := 652) rfl ?_
    refine pm_iload dL_law_652 rfl (q := 654) rfl ?_
    refine pm_i2l dL_law_654 (q := 655) rfl ?_
    refine pm_lcmp dL_law_655 (q := 656) rfl ?_
    refine pm_topL (y := 0) (by rw [show ob (0 : Int32).toNatClampNeg = b1.toInt64 from hq h646]; exact lg_same _) ?_
    refine pm_if_eq (tgt := 661) dL_law_656 rfl (q := 659) rfl (fun _ => ?_) (fun z => absurd rfl z)
    refine pm_goto (tgt := 832) dL_law_661 rfl ?_
    exact nx h2 (k + 1) (n + 6) _ _ hI2 (Nat.le_refl _) (Nat.le_refl _)
set_option maxHeartbeats 8000000 in
theorem lq_moment {l : Launch} (hl : l.stackTraces = false) {L : Nat} {xs : Nat → Int32} (hL : L ≤ 3584) {i k n : Nat} (hi : i + 7 ≤ L) {h : pm_H} (hI : lwInv h) (hk : k + 1 ≤ 601024) (hn : n + 6 ≤ 7293034) (o5 o6 : Option Value) (nx : ∀ (h2 : pm_H) (k2 n2 : Nat) (p5 p6 : Option Value), lwInv h2 → k2 ≤ k + 1 → n2 ≤ n + 6 → pm_Go mL_law (lw_K l L xs) lw_G 832 [some (.ref 1000000), some (.ref 0), some (.ref 31), some (.ref 48), some (.int (nI i)), p5, p6] [] h2 k2 n2) : pm_Go mL_law (lw_K l L xs) lw_G 664 [some (.ref 1000000), some (.ref 0), some (.ref 31), some (.ref 48), some (.int (nI i)), o5, o6] [] h k n := by
  obtain ⟨k1, b1, h1, h2, ob, w1, w2, w3, ⟨hB1, fs1, hO1⟩, hI2, hob, hq⟩ := lw_moment hl hI (xs (i + 1))
  obtain ⟨_, fs2, hO2⟩ := lwInv_o hI2
  refine pm_aload_n dL_law_664 rfl (q := 665) rfl ?_
  refine pm_aload_n dL_law_665 rfl (q := 666) rfl ?_
  refine pm_iload dL_law_666 rfl (q := 668) rfl ?_
  refine pm_iconst (x := 1) dL_law_668 (by decide) (q := 669) rfl ?_
  refine pm_iadd dL_law_669 (q := 670) rfl ?_
  refine pm_topL (y := nI (i + 1)) (nI_addm i 1) ?_
  refine pm_sld lw_KX (i := i + 1) (by omega) (by omega) dL_law_670 (q := 671) rfl ?_
  refine pm_aload_n dL_law_671 rfl (q := 672) rfl ?_
  refine pm_callC (as := _) lw_Kd w1 mc_L_moment st_L_moment (pm_in3 (j := 78) rfl rfl) dL_law_672 (by decide) rfl rfl (Nat.le_of_ble_eq_true rfl) (by omega) (by omega) (q := 675) rfl ?_
  show pm_Go mL_law (lw_K l L xs) lw_G 675 _ [.int k1] h1 (k + 1) (n + 6)
  refine pm_istore dL_law_675 (by decide) (q := 677) rfl ?_
  refine pm_aload_n dL_law_677 rfl (q := 678) rfl ?_
  refine pm_aload_n dL_law_678 rfl (q := 679) rfl ?_
  refine pm_iload dL_law_679 rfl (q := 681) rfl ?_
  refine pm_iconst (x := 1) dL_law_681 (by decide) (q := 682) rfl ?_
  refine pm_iadd dL_law_682 (q := 683) rfl ?_
  refine pm_topL (y := nI (i + 1)) (nI_addm i 1) ?_
  refine pm_sld lw_KX (i := i + 1) (by omega) (by omega) dL_law_683 (q := 684) rfl ?_
  refine pm_cV1i (ci := 5) lw_Kd w2 mo_M_moment im_M_moment se_M_moment lk_L_106 dL_law_684 (by decide) (Nat.le_of_ble_eq_true rfl) (by omega) (by omega) hO1 rfl rfl (q := 687) rfl ?_
  refine pm_istore dL_law_687 (by decide) (q := 689) rfl ?_
  refine pm_aload_n dL_law_689 rfl (q := 690) rfl ?_
  refine pm_cV0i (ci := 5) lw_Kd w3 mo_M_thrown im_M_thrown se_M_thrown lk_L_66 dL_law_690 (by decide) (Nat.le_of_ble_eq_true rfl) (by omega) (by omega) hO2 rfl rfl (q := 693) rfl ?_
  refine pm_iload dL_law_693 rfl (q := 695) rfl ?_
  refine pm_icmp_eq (tgt := 700) dL_law_695 rfl (q := 698) rfl (fun _ => ?_) (fun z => absurd rfl z)
  refine pm_iload dL_law_700 rfl (q := 702) rfl ?_
  refine pm_if_ne (tgt := 717) dL_law_702 rfl (q := 705) rfl (fun h702 => ?_) (fun h702 => ?_)
  · refine pm_goto (tgt := 832) dL_law_717 rfl ?_
    exact nx h2 (k + 1) (n + 6) _ _ hI2 (Nat.le_refl _) (Nat.le_refl _)
  · refine pm_aload_n dL_law_705 rfl (q := 706) rfl ?_
    refine pm_iconst (x := 0) dL_law_706 (by decide) (q := 707) rfl ?_
    refine pm_lald dL_law_707 hob (by unfold vp_in; decide) (q := 708) rfl ?_
    refine pm_iload dL_law_708 rfl (q := 710) rfl ?_
    refine pm_i2l dL_law_710 (q := 711) rfl ?_
    refine pm_lcmp dL_law_711 (q := 712) rfl ?_
    refine pm_topL (y := 0) (by rw [show ob (0 : Int32).toNatClampNeg = b1.toInt64 from hq h702]; exact lg_same _) ?_
    refine pm_if_eq (tgt := 717) dL_law_712 rfl (q := 715) rfl (fun _ => ?_) (fun z => absurd rfl z)
    refine pm_goto (tgt := 832) dL_law_717 rfl ?_
    exact nx h2 (k + 1) (n + 6) _ _ hI2 (Nat.le_refl _) (Nat.le_refl _)
set_option maxHeartbeats 8000000 in
theorem lq_verify {l : Launch} (hl : l.stackTraces = false) {L : Nat} {xs : Nat → Int32} (hL : L ≤ 3584) {i k n : Nat} (hi : i + 7 ≤ L) {h : pm_H} (hI : lwInv h) (hk : k + 1 ≤ 601024) (hn : n + 6 ≤ 7293034) (o5 o6 : Option Value) (nx : ∀ (h2 : pm_H) (k2 n2 : Nat) (p5 p6 : Option Value), lwInv h2 → k2 ≤ k + 1 → n2 ≤ n + 6 → pm_Go mL_law (lw_K l L xs) lw_G 832 [some (.ref 1000000), some (.ref 0), some (.ref 31), some (.ref 48), some (.int (nI i)), p5, p6] [] h2 k2 n2) : pm_Go mL_law (lw_K l L xs) lw_G 720 [some (.ref 1000000), some (.ref 0), some (.ref 31), some (.ref 48), some (.int (nI i)), o5, o6] [] h k n := by
  obtain ⟨k1, b1, h1, h2, ob, w1, w2, w3, ⟨hB1, fs1, hO1⟩, hI2, hob, hq⟩ := lw_verify hl hI 
  obtain ⟨_, fs2, hO2⟩ := lwInv_o hI2
  refine pm_aload_n dL_law_720 rfl (q := 721) rfl ?_
  refine pm_aload_n dL_law_721 rfl (q := 722) rfl ?_
  refine pm_callC (as := _) lw_Kd w1 mc_L_verify st_L_verify (pm_in3 (j := 87) rfl rfl) dL_law_722 (by decide) rfl rfl (Nat.le_of_ble_eq_true rfl) (by omega) (by omega) (q := 725) rfl ?_
  show pm_Go mL_law (lw_K l L xs) lw_G 725 _ [.int k1] h1 (k + 1) (n + 6)
  refine pm_istore dL_law_725 (by decide) (q := 727) rfl ?_
  refine pm_aload_n dL_law_727 rfl (q := 728) rfl ?_
  refine pm_cV0i (ci := 5) lw_Kd w2 mo_M_verify im_M_verify se_M_verify lk_L_110 dL_law_728 (by decide) (Nat.le_of_ble_eq_true rfl) (by omega) (by omega) hO1 rfl rfl (q := 731) rfl ?_
  refine pm_istore dL_law_731 (by decide) (q := 733) rfl ?_
  refine pm_aload_n dL_law_733 rfl (q := 734) rfl ?_
  refine pm_cV0i (ci := 5) lw_Kd w3 mo_M_thrown im_M_thrown se_M_thrown lk_L_66 dL_law_734 (by decide) (Nat.le_of_ble_eq_true rfl) (by omega) (by omega) hO2 rfl rfl (q := 737) rfl ?_
  refine pm_iload dL_law_737 rfl (q := 739) rfl ?_
  refine pm_icmp_eq (tgt := 744) dL_law_739 rfl (q := 742) rfl (fun _ => ?_) (fun z => absurd rfl z)
  refine pm_iload dL_law_744 rfl (q := 746) rfl ?_
  refine pm_if_ne (tgt := 761) dL_law_746 rfl (q := 749) rfl (fun h746 => ?_) (fun h746 => ?_)
  · refine pm_goto (tgt := 832) dL_law_761 rfl ?_
    exact nx h2 (k + 1) (n + 6) _ _ hI2 (Nat.le_refl _) (Nat.le_refl _)
  · refine pm_aload_n dL_law_749 rfl (q := 750) rfl ?_
    refine pm_iconst (x := 0) dL_law_750 (by decide) (q := 751) rfl ?_
    refine pm_lald dL_law_751 hob (by unfold vp_in; decide) (q := 752) rfl ?_
    refine pm_iload dL_law_752 rfl (q := 754) rfl ?_
    refine pm_i2l dL_law_754 (q := 755) rfl ?_
    refine pm_lcmp dL_law_755 (q := 756) rfl ?_
    refine pm_topL (y := 0) (by rw [show ob (0 : Int32).toNatClampNeg = b1.toInt64 from hq h746]; exact lg_same _) ?_
    refine pm_if_eq (tgt := 761) dL_law_756 rfl (q := 759) rfl (fun _ => ?_) (fun z => absurd rfl z)
    refine pm_goto (tgt := 832) dL_law_761 rfl ?_
    exact nx h2 (k + 1) (n + 6) _ _ hI2 (Nat.le_refl _) (Nat.le_refl _)
set_option maxHeartbeats 8000000 in
theorem lq_report {l : Launch} (hl : l.stackTraces = false) {L : Nat} {xs : Nat → Int32} (hL : L ≤ 3584) {i k n : Nat} (hi : i + 7 ≤ L) {h : pm_H} (hI : lwInv h) (hk : k + 1 ≤ 601024) (hn : n + 6 ≤ 7293034) (o5 o6 : Option Value) (nx : ∀ (h2 : pm_H) (k2 n2 : Nat) (p5 p6 : Option Value), lwInv h2 → k2 ≤ k + 1 → n2 ≤ n + 6 → pm_Go mL_law (lw_K l L xs) lw_G 832 [some (.ref 1000000), some (.ref 0), some (.ref 31), some (.ref 48), some (.int (nI i)), p5, p6] [] h2 k2 n2) : pm_Go mL_law (lw_K l L xs) lw_G 764 [some (.ref 1000000), some (.ref 0), some (.ref 31), some (.ref 48), some (.int (nI i)), o5, o6] [] h k n := by
  obtain ⟨k1, b1, h1, h2, ob, w1, w2, w3, ⟨hB1, fs1, hO1⟩, hI2, hob, hq⟩ := lw_report hl hI (xs (i + 1)) (xs (i + 2))
  obtain ⟨_, fs2, hO2⟩ := lwInv_o hI2
  refine pm_aload_n dL_law_764 rfl (q := 765) rfl ?_
  refine pm_aload_n dL_law_765 rfl (q := 766) rfl ?_
  refine pm_iload dL_law_766 rfl (q := 768) rfl ?_
  refine pm_iconst (x := 1) dL_law_768 (by decide) (q := 769) rfl ?_
  refine pm_iadd dL_law_769 (q := 770) rfl ?_
  refine pm_topL (y := nI (i + 1)) (nI_addm i 1) ?_
  refine pm_sld lw_KX (i := i + 1) (by omega) (by omega) dL_law_770 (q := 771) rfl ?_
  refine pm_aload_n dL_law_771 rfl (q := 772) rfl ?_
  refine pm_iload dL_law_772 rfl (q := 774) rfl ?_
  refine pm_iconst (x := 2) dL_law_774 (by decide) (q := 775) rfl ?_
  refine pm_iadd dL_law_775 (q := 776) rfl ?_
  refine pm_topL (y := nI (i + 2)) (nI_addm i 2) ?_
  refine pm_sld lw_KX (i := i + 2) (by omega) (by omega) dL_law_776 (q := 777) rfl ?_
  refine pm_aload_n dL_law_777 rfl (q := 778) rfl ?_
  refine pm_callC (as := _) lw_Kd w1 mc_L_report st_L_report (pm_in3 (j := 105) rfl rfl) dL_law_778 (by decide) rfl rfl (Nat.le_of_ble_eq_true rfl) (by omega) (by omega) (q := 781) rfl ?_
  show pm_Go mL_law (lw_K l L xs) lw_G 781 _ [.int k1] h1 (k + 1) (n + 6)
  refine pm_istore dL_law_781 (by decide) (q := 783) rfl ?_
  refine pm_aload_n dL_law_783 rfl (q := 784) rfl ?_
  refine pm_aload_n dL_law_784 rfl (q := 785) rfl ?_
  refine pm_iload dL_law_785 rfl (q := 787) rfl ?_
  refine pm_iconst (x := 1) dL_law_787 (by decide) (q := 788) rfl ?_
  refine pm_iadd dL_law_788 (q := 789) rfl ?_
  refine pm_topL (y := nI (i + 1)) (nI_addm i 1) ?_
  refine pm_sld lw_KX (i := i + 1) (by omega) (by omega) dL_law_789 (q := 790) rfl ?_
  refine pm_aload_n dL_law_790 rfl (q := 791) rfl ?_
  refine pm_iload dL_law_791 rfl (q := 793) rfl ?_
  refine pm_iconst (x := 2) dL_law_793 (by decide) (q := 794) rfl ?_
  refine pm_iadd dL_law_794 (q := 795) rfl ?_
  refine pm_topL (y := nI (i + 2)) (nI_addm i 2) ?_
  refine pm_sld lw_KX (i := i + 2) (by omega) (by omega) dL_law_795 (q := 796) rfl ?_
  refine pm_cV2i (ci := 5) lw_Kd w2 mo_M_report im_M_report se_M_report lk_L_113 dL_law_796 (by decide) (Nat.le_of_ble_eq_true rfl) (by omega) (by omega) hO1 rfl rfl (q := 799) rfl ?_
  refine pm_istore dL_law_799 (by decide) (q := 801) rfl ?_
  refine pm_aload_n dL_law_801 rfl (q := 802) rfl ?_
  refine pm_cV0i (ci := 5) lw_Kd w3 mo_M_thrown im_M_thrown se_M_thrown lk_L_66 dL_law_802 (by decide) (Nat.le_of_ble_eq_true rfl) (by omega) (by omega) hO2 rfl rfl (q := 805) rfl ?_
  refine pm_iload dL_law_805 rfl (q := 807) rfl ?_
  refine pm_icmp_eq (tgt := 812) dL_law_807 rfl (q := 810) rfl (fun _ => ?_) (fun z => absurd rfl z)
  refine pm_iload dL_law_812 rfl (q := 814) rfl ?_
  refine pm_if_ne (tgt := 829) dL_law_814 rfl (q := 817) rfl (fun h814 => ?_) (fun h814 => ?_)
  · refine pm_goto (tgt := 832) dL_law_829 rfl ?_
    exact nx h2 (k + 1) (n + 6) _ _ hI2 (Nat.le_refl _) (Nat.le_refl _)
  · refine pm_aload_n dL_law_817 rfl (q := 818) rfl ?_
    refine pm_iconst (x := 0) dL_law_818 (by decide) (q := 819) rfl ?_
    refine pm_lald dL_law_819 hob (by unfold vp_in; decide) (q := 820) rfl ?_
    refine pm_iload dL_law_820 rfl (q := 822) rfl ?_
    refine pm_i2l dL_law_822 (q := 823) rfl ?_
    refine pm_lcmp dL_law_823 (q := 824) rfl ?_
    refine pm_topL (y := 0) (by rw [show ob (0 : Int32).toNatClampNeg = b1.toInt64 from hq h814]; exact lg_same _) ?_
    refine pm_if_eq (tgt := 829) dL_law_824 rfl (q := 827) rfl (fun _ => ?_) (fun z => absurd rfl z)
    refine pm_goto (tgt := 832) dL_law_829 rfl ?_
    exact nx h2 (k + 1) (n + 6) _ _ hI2 (Nat.le_refl _) (Nat.le_refl _)
set_option maxHeartbeats 8000000 in
theorem lw_loop {l : Launch} (hl : l.stackTraces = false) {L : Nat} {xs : Nat → Int32} (hL : L ≤ 3584) : ∀ (m i k n : Nat) (h : pm_H) (o5 o6 : Option Value), L ≤ i + m → i ≤ L + 7 → lwInv h → k + m ≤ 601024 → n + 6 * m ≤ 7293034 → pm_Go mL_law (lw_K l L xs) lw_G 23 [some (.ref 1000000), some (.ref 0), some (.ref 31), some (.ref 48), some (.int (nI i)), o5, o6] [] h k n := by
  intro m
  have out : ∀ (i k n : Nat) (h : pm_H) (o5 o6 : Option Value), L < i + 7 → i ≤ L + 7 → k ≤ 601024 → n ≤ 7293034 → pm_Go mL_law (lw_K l L xs) lw_G 23 [some (.ref 1000000), some (.ref 0), some (.ref 31), some (.ref 48), some (.int (nI i)), o5, o6] [] h k n := by
    intro i k n h o5 o6 hx hi hk hn
    have he : nI L - 7 < nI i := (loop_end (by omega) (by omega)).mpr hx
    refine pm_iload dL_law_23 rfl (q := 25) rfl ?_
    refine pm_aload_n dL_law_25 rfl (q := 26) rfl ?_
    refine pm_slen lw_KX dL_law_26 (q := 27) rfl ?_
    refine pm_bipush (x := 7) dL_law_27 (by decide) (q := 29) rfl ?_
    refine pm_isub dL_law_29 (q := 30) rfl ?_
    refine pm_icmp_gt (tgt := 838) dL_law_30 rfl (q := 33) rfl (fun _ => ?_) (fun z => absurd he z)
    refine pm_iconst (x := 1) dL_law_838 (by decide) (q := 839) rfl ?_
    exact lw_end dL_law_839 hk hn
  induction m with
  | zero => intro i k n h o5 o6 h1 h2 hI h3 h4; exact out i k n h o5 o6 (by omega) h2 (by omega) (by omega)
  | succ m ih =>
    intro i k n h o5 o6 h1 h2 hI h3 h4
    by_cases hx : L < i + 7
    · exact out i k n h o5 o6 hx h2 (by omega) (by omega)
    · have hi : i + 7 ≤ L := by omega
      have he : ¬ nI L - 7 < nI i := fun z => hx ((loop_end (by omega) (by omega)).mp z)
      have nx : ∀ (h2 : pm_H) (k2 n2 : Nat) (p5 p6 : Option Value), lwInv h2 → k2 ≤ k + 1 → n2 ≤ n + 6 → pm_Go mL_law (lw_K l L xs) lw_G 832 [some (.ref 1000000), some (.ref 0), some (.ref 31), some (.ref 48), some (.int (nI i)), p5, p6] [] h2 k2 n2 := by
        intro h2 k2 n2 p5 p6 hI2 hk2 hn2
        have r := ih (i + 7) k2 n2 h2 p5 p6 (by omega) (by omega) hI2 (by omega) (by omega)
        refine pm_iincL dL_law_832 rfl (by decide) (y := nI (i + 7)) (nI_addm i 7) (q := 835) rfl ?_
        refine pm_goto (tgt := 23) dL_law_835 rfl ?_
        exact r
      obtain ⟨c, hc, ec⟩ := and15 (xs i)
      refine pm_iload dL_law_23 rfl (q := 25) rfl ?_
      refine pm_aload_n dL_law_25 rfl (q := 26) rfl ?_
      refine pm_slen lw_KX dL_law_26 (q := 27) rfl ?_
      refine pm_bipush (x := 7) dL_law_27 (by decide) (q := 29) rfl ?_
      refine pm_isub dL_law_29 (q := 30) rfl ?_
      refine pm_icmp_gt (tgt := 838) dL_law_30 rfl (q := 33) rfl (fun z => absurd z he) (fun _ => ?_)
      refine pm_aload_n dL_law_33 rfl (q := 34) rfl ?_
      refine pm_iload dL_law_34 rfl (q := 36) rfl ?_
      refine pm_sld lw_KX (i := i) (by omega) (by omega) dL_law_36 (q := 37) rfl ?_
      refine pm_bipush (x := 15) dL_law_37 (by decide) (q := 39) rfl ?_
      refine pm_iand dL_law_39 (q := 40) rfl ?_
      refine pm_topL ec ?_
      have tI : (nI c).toInt = (c : Int) := nI_toInt (by omega)
      have u : c = 0 ∨ c = 1 ∨ c = 2 ∨ c = 3 ∨ c = 4 ∨ c = 5 ∨ c = 6 ∨ c = 7 ∨ c = 8 ∨ c = 9 ∨ c = 10 ∨ c = 11 ∨ c = 12 ∨ 12 < c := by omega
      rcases u with rfl | rfl | rfl | rfl | rfl | rfl | rfl | rfl | rfl | rfl | rfl | rfl | rfl | hc12
      · exact pm_tabIn (tgt := 108) dL_law_40 (by decide) (by decide) (off := 68) (by decide) rfl (lq_bay hl hL hi hI (by omega) (by omega) _ _ nx)
      · exact pm_tabIn (tgt := 206) dL_law_40 (by decide) (by decide) (off := 166) (by decide) rfl (lq_plug hl hL hi hI (by omega) (by omega) _ _ nx)
      · exact pm_tabIn (tgt := 270) dL_law_40 (by decide) (by decide) (off := 230) (by decide) rfl (lq_box hl hL hi hI (by omega) (by omega) _ _ nx)
      · exact pm_tabIn (tgt := 362) dL_law_40 (by decide) (by decide) (off := 322) (by decide) rfl (lq_roll hl hL hi hI (by omega) (by omega) _ _ nx)
      · exact pm_tabIn (tgt := 398) dL_law_40 (by decide) (by decide) (off := 358) (by decide) rfl (lq_plan hl hL hi hI (by omega) (by omega) _ _ nx)
      · exact pm_tabIn (tgt := 411) dL_law_40 (by decide) (by decide) (off := 371) (by decide) rfl (lq_moves hl hL hi hI (by omega) (by omega) _ _ nx)
      · exact pm_tabIn (tgt := 424) dL_law_40 (by decide) (by decide) (off := 384) (by decide) rfl (lq_move hl hL hi hI (by omega) (by omega) _ _ nx)
      · exact pm_tabIn (tgt := 492) dL_law_40 (by decide) (by decide) (off := 452) (by decide) rfl (lq_hand hl hL hi hI (by omega) (by omega) _ _ nx)
      · exact pm_tabIn (tgt := 540) dL_law_40 (by decide) (by decide) (off := 500) (by decide) rfl (lq_replay hl hL hi hI (by omega) (by omega) _ _ nx)
      · exact pm_tabIn (tgt := 596) dL_law_40 (by decide) (by decide) (off := 556) (by decide) rfl (lq_slot hl hL hi hI (by omega) (by omega) _ _ nx)
      · exact pm_tabIn (tgt := 664) dL_law_40 (by decide) (by decide) (off := 624) (by decide) rfl (lq_moment hl hL hi hI (by omega) (by omega) _ _ nx)
      · exact pm_tabIn (tgt := 720) dL_law_40 (by decide) (by decide) (off := 680) (by decide) rfl (lq_verify hl hL hi hI (by omega) (by omega) _ _ nx)
      · exact pm_tabIn (tgt := 764) dL_law_40 (by decide) (by decide) (off := 724) (by decide) rfl (lq_report hl hL hi hI (by omega) (by omega) _ _ nx)
      · exact pm_tabOut (tgt := 832) dL_law_40 (Or.inr (by rw [tI]; omega)) rfl (nx h k n _ _ hI (by omega) (by omega))
set_option maxHeartbeats 8000000 in
theorem lw_begin {l : Launch} (hl : l.stackTraces = false) {L : Nat} {xs : Nat → Int32} (hL : L ≤ 3584) : pm_Go mL_law (lw_K l L xs) lw_G 0 [some (.ref 1000000), none, none, none, none, none, none] [] [] 0 0 := by
  have hK := lw_Kd (l := l) (L := L) (xs := xs)
  have hSt : pm_Stab (lw_K l L xs) lw_G 0 1000000 := lw_stab (Nat.le_refl _)
  refine pm_new (lo := 0) (hi := 1000000) hK nw_L_8 dL_law_0 hSt (Nat.zero_le _) (Nat.le_of_ble_eq_true rfl) rfl rfl rfl (by decide) (by decide) (q := 3) rfl (j := 0) rfl ?_
  refine pm_dup dL_law_3 rfl (q := 4) rfl ?_
  refine pm_cI (as := []) hK hSt (kB_init hl 3 (Nat.le_refl _)) mo_B_init im_B_init rfl rfl lk_L_56 dL_law_4 (by decide) rfl rfl (Nat.le_of_ble_eq_true rfl) (by decide) (by decide) (Nat.zero_le _) (Nat.le_of_ble_eq_true rfl) rfl rfl (q := 7) rfl ?_
  refine pm_astore_n dL_law_7 (by decide) (q := 8) rfl ?_
  refine pm_new (lo := 0) (hi := 1000000) hK nw_L_57 dL_law_8 hSt (Nat.zero_le _) (Nat.le_of_ble_eq_true rfl) rfl rfl rfl (by decide) (by decide) (q := 11) rfl (j := 31) rfl ?_
  refine pm_dup dL_law_11 rfl (q := 12) rfl ?_
  refine pm_cI (as := []) hK hSt (kM_init hl 1 (Nat.le_refl _)) mo_M_init im_M_init rfl rfl lk_L_59 dL_law_12 (by decide) rfl rfl (Nat.le_of_ble_eq_true rfl) (by decide) (by decide) (Nat.zero_le _) (Nat.le_of_ble_eq_true rfl) rfl rfl (q := 15) rfl ?_
  refine pm_astore_n dL_law_15 (by decide) (q := 16) rfl ?_
  refine pm_iconst (x := 1) dL_law_16 (by decide) (q := 17) rfl ?_
  refine pm_newl (lo := 0) (hi := 1000000) (N := 1) hK (pm_in4 (j := 115) rfl rfl) dL_law_17 (by decide) (by decide) (by decide) hSt (Nat.zero_le _) (Nat.le_of_ble_eq_true rfl) rfl rfl rfl (by decide) (by decide) (q := 19) rfl (j := 48) rfl ?_
  refine pm_astore_n dL_law_19 (by decide) (q := 20) rfl ?_
  refine pm_iconst (x := 0) dL_law_20 (by decide) (q := 21) rfl ?_
  refine pm_istore dL_law_21 (by decide) (q := 23) rfl ?_
  exact lw_loop hl hL L 0 _ _ _ _ _ (by omega) (by omega) (lwInv_0 (fun _ => 0)) (by omega) (by omega)
