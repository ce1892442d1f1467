/-! ===== the law's roads: what is told ===== -/
def lwP : Po := fun v _ _ => v = some (.int (nI 1))
theorem op_bucket {L i : Nat} {xs : Nat → Int32} {μ : MI} {ν : ML} (hL : L ≤ 3072) (hi : i + 6 ≤ L) (hV : INV μ ν) (next : ∀ μ' ν', INV μ' ν' → AW mL_law (9, some (L, xs)) lwP 817 [some (.ref NO), some (.ref 0), some (.ref 75), some (.int (nI i))] [] μ' ν') : AW mL_law (9, some (L, xs)) lwP 124 [some (.ref NO), some (.ref 0), some (.ref 75), some (.int (nI i))] [] μ ν := by
  obtain ⟨t, S, hV⟩ := hV
  obtain ⟨h1, h2, h3, h4, h5, h6, h7⟩ := id hV
  have hnb := h2.1.1
  have hns := h2.2.1.1
  have hfr := h2.2.2.1
  have hsp := h2.2.2.2.1.1
  have hB := h4.2.2.2.2
  have hnb2 := hnb.2
  have hns2 := hns.2
  have hfr2 := hfr.2
  have hsp2 := hsp.2
  have hmb : μ 75 0 = nI (N (μ 2 0)) := h3.1.1.trans hnb.1
  have hms : μ 75 5 = nI (N (μ 7 0)) := h3.1.2.1.trans hns.1
  refine A_aload_n dL_law_124 rfl ?_
  refine A_aload_n dL_law_125 rfl ?_
  refine A_iload_n dL_law_126 rfl ?_
  refine A_iconst (v := nI 1) dL_law_127 (by decide +kernel) ?_
  refine A_iaddN dL_law_128 ?_
  refine A_sld dL_law_129 rfl (vp_in_nI (by omega) (by omega)) ?_
  refine A_aload_n dL_law_130 rfl ?_
  refine A_iload_n dL_law_131 rfl ?_
  refine A_iconst (v := nI 2) dL_law_132 (by decide +kernel) ?_
  refine A_iaddN dL_law_133 ?_
  refine A_sld dL_law_134 rfl (vp_in_nI (by omega) (by omega)) ?_
  refine A_callV2 dL_law_135 mlL_13 (Nat.le_of_ble_eq_true rfl) rfl rfl (Nat.le_of_ble_eq_true rfl) (c_bucket _ _ hnb.1 hnb.2 (fun g => ?_) (fun g e => ?_) (fun g e => ?_))
  · refine Kn.s ?_
    refine A_pop dL_law_138 rfl ?_
    refine A_aload_n dL_law_139 rfl ?_
    refine A_aload_n dL_law_140 rfl ?_
    refine A_iload_n dL_law_141 rfl ?_
    refine A_iconst (v := nI 1) dL_law_142 (by decide +kernel) ?_
    refine A_iaddN dL_law_143 ?_
    refine A_sld dL_law_144 rfl (vp_in_nI (by omega) (by omega)) ?_
    refine A_aload_n dL_law_145 rfl ?_
    refine A_iload_n dL_law_146 rfl ?_
    refine A_iconst (v := nI 2) dL_law_147 (by decide +kernel) ?_
    refine A_iaddN dL_law_148 ?_
    refine A_sld dL_law_149 rfl (vp_in_nI (by omega) (by omega)) ?_
    refine A_callV2 dL_law_150 mlL_17 (Nat.le_of_ble_eq_true rfl) rfl rfl (Nat.le_of_ble_eq_true rfl) (m_bucket _ _ hmb hnb.2 (fun _ => ?_) (fun q _ => absurd q g) (fun q _ => absurd q g))
    refine Kn.s ?_
    refine A_pop dL_law_153 rfl ?_
    refine A_goto (tgt := 817) dL_law_154 (by decide) ?_
    exact next μ ν ⟨t, S, hV⟩
  · refine Kn.s ?_
    refine A_pop dL_law_138 rfl ?_
    refine A_aload_n dL_law_139 rfl ?_
    refine A_aload_n dL_law_140 rfl ?_
    refine A_iload_n dL_law_141 rfl ?_
    refine A_iconst (v := nI 1) dL_law_142 (by decide +kernel) ?_
    refine A_iaddN dL_law_143 ?_
    refine A_sld dL_law_144 rfl (vp_in_nI (by omega) (by omega)) ?_
    refine A_aload_n dL_law_145 rfl ?_
    refine A_iload_n dL_law_146 rfl ?_
    refine A_iconst (v := nI 2) dL_law_147 (by decide +kernel) ?_
    refine A_iaddN dL_law_148 ?_
    refine A_sld dL_law_149 rfl (vp_in_nI (by omega) (by omega)) ?_
    refine A_callV2 dL_law_150 mlL_17 (Nat.le_of_ble_eq_true rfl) rfl rfl (Nat.le_of_ble_eq_true rfl) (m_bucket _ _ hmb hnb.2 (fun q => absurd g q) (fun _ _ => ?_) (fun _ q => absurd e (by omega)))
    refine Kn.s ?_
    refine A_pop dL_law_153 rfl ?_
    refine A_goto (tgt := 817) dL_law_154 (by decide) ?_
    exact next μ ν ⟨t, S, hV⟩
  · refine Kn.s ?_
    refine A_pop dL_law_138 rfl ?_
    refine A_aload_n dL_law_139 rfl ?_
    refine A_aload_n dL_law_140 rfl ?_
    refine A_iload_n dL_law_141 rfl ?_
    refine A_iconst (v := nI 1) dL_law_142 (by decide +kernel) ?_
    refine A_iaddN dL_law_143 ?_
    refine A_sld dL_law_144 rfl (vp_in_nI (by omega) (by omega)) ?_
    refine A_aload_n dL_law_145 rfl ?_
    refine A_iload_n dL_law_146 rfl ?_
    refine A_iconst (v := nI 2) dL_law_147 (by decide +kernel) ?_
    refine A_iaddN dL_law_148 ?_
    refine A_sld dL_law_149 rfl (vp_in_nI (by omega) (by omega)) ?_
    refine A_callV2 dL_law_150 mlL_17 (Nat.le_of_ble_eq_true rfl) rfl rfl (Nat.le_of_ble_eq_true rfl) (m_bucket (m := N (μ 2 0)) _ _ (by simp (disch := omega) only [up2_a]; exact hmb) hnb.2 (fun q => absurd g q) (fun _ q => absurd e (by omega)) (fun _ _ => ?_))
    refine Kn.s ?_
    refine A_pop dL_law_153 rfl ?_
    refine A_goto (tgt := 817) dL_law_154 (by decide) ?_
    refine next _ _ ⟨t, S, hV.cfg (WC_bucket (m := N (μ 2 0)) h2 hnb.1 e g ?_ ?_ ?_ (fun j hj => ?_) (fun j hj => ?_) (fun a ha j => ?_)) (CM_bucket (m := N (μ 2 0)) (x := xs (nI (i + 1)).toNatClampNeg) (y := xs (nI (i + 2)).toNatClampNeg) h3 hnb.1 e ?_ ?_ ⟨?_, ?_, ?_⟩ ⟨?_, ?_, ?_, ?_⟩ (fun j hj => ⟨?_, ?_, ?_⟩) (fun j hj => ⟨?_, ?_, ?_, ?_⟩) (fun a ha j => ?_) (fun j hj1 hj2 => ?_)) ?_ (fun a j q1 q2 q3 => ?_)⟩
    all_goals first
      | (simp (disch := omega) only [up2_ne, up2_s]; done)
      | (simp (disch := omega) only [up2_ne, up2_s]; rw [N_nI (k := N (μ 2 0) + 1) (by omega)]; omega)
theorem op_pipe {L i : Nat} {xs : Nat → Int32} {μ : MI} {ν : ML} (hL : L ≤ 3072) (hi : i + 6 ≤ L) (hV : INV μ ν) (next : ∀ μ' ν', INV μ' ν' → AW mL_law (9, some (L, xs)) lwP 817 [some (.ref NO), some (.ref 0), some (.ref 75), some (.int (nI i))] [] μ' ν') : AW mL_law (9, some (L, xs)) lwP 157 [some (.ref NO), some (.ref 0), some (.ref 75), some (.int (nI i))] [] μ ν := by
  obtain ⟨t, S, hV⟩ := hV
  obtain ⟨h1, h2, h3, h4, h5, h6, h7⟩ := id hV
  have hnb := h2.1.1
  have hns := h2.2.1.1
  have hfr := h2.2.2.1
  have hsp := h2.2.2.2.1.1
  have hB := h4.2.2.2.2
  have hnb2 := hnb.2
  have hns2 := hns.2
  have hfr2 := hfr.2
  have hsp2 := hsp.2
  have hmb : μ 75 0 = nI (N (μ 2 0)) := h3.1.1.trans hnb.1
  have hms : μ 75 5 = nI (N (μ 7 0)) := h3.1.2.1.trans hns.1
  refine A_aload_n dL_law_157 rfl ?_
  refine A_aload_n dL_law_158 rfl ?_
  refine A_iload_n dL_law_159 rfl ?_
  refine A_iconst (v := nI 1) dL_law_160 (by decide +kernel) ?_
  refine A_iaddN dL_law_161 ?_
  refine A_sld dL_law_162 rfl (vp_in_nI (by omega) (by omega)) ?_
  refine A_aload_n dL_law_163 rfl ?_
  refine A_iload_n dL_law_164 rfl ?_
  refine A_iconst (v := nI 2) dL_law_165 (by decide +kernel) ?_
  refine A_iaddN dL_law_166 ?_
  refine A_sld dL_law_167 rfl (vp_in_nI (by omega) (by omega)) ?_
  refine A_aload_n dL_law_168 rfl ?_
  refine A_iload_n dL_law_169 rfl ?_
  refine A_iconst (v := nI 3) dL_law_170 (by decide +kernel) ?_
  refine A_iaddN dL_law_171 ?_
  refine A_sld dL_law_172 rfl (vp_in_nI (by omega) (by omega)) ?_
  refine A_callV3 dL_law_173 mlL_18 (Nat.le_of_ble_eq_true rfl) rfl rfl (Nat.le_of_ble_eq_true rfl) (c_pipe _ _ _ hnb.1 hnb.2 (fun g => ?_) (fun g g2 g3 => ?_) (fun k g g2 g3 g4 => ?_))
  · refine Kn.s ?_
    refine A_pop dL_law_176 rfl ?_
    refine A_aload_n dL_law_177 rfl ?_
    refine A_aload_n dL_law_178 rfl ?_
    refine A_iload_n dL_law_179 rfl ?_
    refine A_iconst (v := nI 1) dL_law_180 (by decide +kernel) ?_
    refine A_iaddN dL_law_181 ?_
    refine A_sld dL_law_182 rfl (vp_in_nI (by omega) (by omega)) ?_
    refine A_aload_n dL_law_183 rfl ?_
    refine A_iload_n dL_law_184 rfl ?_
    refine A_iconst (v := nI 2) dL_law_185 (by decide +kernel) ?_
    refine A_iaddN dL_law_186 ?_
    refine A_sld dL_law_187 rfl (vp_in_nI (by omega) (by omega)) ?_
    refine A_aload_n dL_law_188 rfl ?_
    refine A_iload_n dL_law_189 rfl ?_
    refine A_iconst (v := nI 3) dL_law_190 (by decide +kernel) ?_
    refine A_iaddN dL_law_191 ?_
    refine A_sld dL_law_192 rfl (vp_in_nI (by omega) (by omega)) ?_
    refine A_callV3 dL_law_193 mlL_22 (Nat.le_of_ble_eq_true rfl) rfl rfl (Nat.le_of_ble_eq_true rfl) (m_pipe _ _ _ hmb hnb.2 (fun _ => ?_) (fun _ q1 q2 => absurd trivial (fun _ => (g.elim (fun z => z q1) (fun z => q2.elim z.1 z.2)))) (fun k _ e hk q2 => absurd trivial (fun _ => (g.elim (fun z => z ⟨k, e, hk⟩) (fun z => q2.elim z.1 z.2)))))
    refine Kn.s ?_
    refine A_pop dL_law_196 rfl ?_
    refine A_goto (tgt := 817) dL_law_197 (by decide) ?_
    exact next μ ν ⟨t, S, hV⟩
  · refine Kn.s ?_
    refine A_pop dL_law_176 rfl ?_
    refine A_aload_n dL_law_177 rfl ?_
    refine A_aload_n dL_law_178 rfl ?_
    refine A_iload_n dL_law_179 rfl ?_
    refine A_iconst (v := nI 1) dL_law_180 (by decide +kernel) ?_
    refine A_iaddN dL_law_181 ?_
    refine A_sld dL_law_182 rfl (vp_in_nI (by omega) (by omega)) ?_
    refine A_aload_n dL_law_183 rfl ?_
    refine A_iload_n dL_law_184 rfl ?_
    refine A_iconst (v := nI 2) dL_law_185 (by decide +kernel) ?_
    refine A_iaddN dL_law_186 ?_
    refine A_sld dL_law_187 rfl (vp_in_nI (by omega) (by omega)) ?_
    refine A_aload_n dL_law_188 rfl ?_
    refine A_iload_n dL_law_189 rfl ?_
    refine A_iconst (v := nI 3) dL_law_190 (by decide +kernel) ?_
    refine A_iaddN dL_law_191 ?_
    refine A_sld dL_law_192 rfl (vp_in_nI (by omega) (by omega)) ?_
    refine A_callV3 dL_law_193 mlL_22 (Nat.le_of_ble_eq_true rfl) rfl rfl (Nat.le_of_ble_eq_true rfl) (m_pipe _ _ _ hmb hnb.2 (fun q => absurd trivial (fun _ => q.elim (fun z => z g2) (fun z => g3.elim z.1 z.2))) (fun _ _ _ => ?_) (fun _ q _ _ _ => absurd q g))
    refine Kn.s ?_
    refine A_pop dL_law_196 rfl ?_
    refine A_goto (tgt := 817) dL_law_197 (by decide) ?_
    exact next μ ν ⟨t, S, hV⟩
  · refine Kn.s ?_
    refine A_pop dL_law_176 rfl ?_
    refine A_aload_n dL_law_177 rfl ?_
    refine A_aload_n dL_law_178 rfl ?_
    refine A_iload_n dL_law_179 rfl ?_
    refine A_iconst (v := nI 1) dL_law_180 (by decide +kernel) ?_
    refine A_iaddN dL_law_181 ?_
    refine A_sld dL_law_182 rfl (vp_in_nI (by omega) (by omega)) ?_
    refine A_aload_n dL_law_183 rfl ?_
    refine A_iload_n dL_law_184 rfl ?_
    refine A_iconst (v := nI 2) dL_law_185 (by decide +kernel) ?_
    refine A_iaddN dL_law_186 ?_
    refine A_sld dL_law_187 rfl (vp_in_nI (by omega) (by omega)) ?_
    refine A_aload_n dL_law_188 rfl ?_
    refine A_iload_n dL_law_189 rfl ?_
    refine A_iconst (v := nI 3) dL_law_190 (by decide +kernel) ?_
    refine A_iaddN dL_law_191 ?_
    refine A_sld dL_law_192 rfl (vp_in_nI (by omega) (by omega)) ?_
    refine A_callV3 dL_law_193 mlL_22 (Nat.le_of_ble_eq_true rfl) rfl rfl (Nat.le_of_ble_eq_true rfl) (m_pipe (m := N (μ 2 0)) _ _ _ (by simp (disch := omega) only [up2_a]; exact hmb) hnb.2 (fun q => absurd trivial (fun _ => q.elim (fun z => z ⟨k, g2, g3⟩) (fun z => g4.elim z.1 z.2))) (fun q _ _ => absurd g q) (fun k2 _ e2 hk2 _ => ?_))
    refine Kn.s ?_
    refine A_pop dL_law_196 rfl ?_
    refine A_goto (tgt := 817) dL_law_197 (by decide) ?_
    have ek : k2 = k := (nI_eq (by omega) (by omega)).mp (e2.symm.trans g2)
    subst ek
    refine next _ _ ⟨t, S, hV.cfg (WC_pipe (m := N (μ 2 0)) (k := k2) h2 hnb.1 hnb.2 g g4 ?_ ?_ (fun j hj => ?_) (fun j hj => ?_) (fun a q1 q2 q3 j => ?_)) (CM_pipe (m := N (μ 2 0)) (k := k2) (to := xs (nI (i + 2)).toNatClampNeg) (dl := xs (nI (i + 3)).toNatClampNeg) h3 g4 hnb.2 ?_ ?_ ?_ ?_ (fun j hj => ⟨?_, ?_, ?_, ?_⟩) (fun a q1 q2 q3 j => ?_) (fun a q1 q2 q3 q4 j => ?_)) ?_ (fun a j q1 q2 q3 => ?_)⟩
    all_goals first
      | (simp (disch := omega) only [up2_ne, up2_s]; done)
      | (simp (disch := omega) only [up2_ne]; exact Nat.le_refl _)
theorem op_spout {L i : Nat} {xs : Nat → Int32} {μ : MI} {ν : ML} (hL : L ≤ 3072) (hi : i + 6 ≤ L) (hV : INV μ ν) (next : ∀ μ' ν', INV μ' ν' → AW mL_law (9, some (L, xs)) lwP 817 [some (.ref NO), some (.ref 0), some (.ref 75), some (.int (nI i))] [] μ' ν') : AW mL_law (9, some (L, xs)) lwP 200 [some (.ref NO), some (.ref 0), some (.ref 75), some (.int (nI i))] [] μ ν := by
  obtain ⟨t, S, hV⟩ := hV
  obtain ⟨h1, h2, h3, h4, h5, h6, h7⟩ := id hV
  have hnb := h2.1.1
  have hns := h2.2.1.1
  have hfr := h2.2.2.1
  have hsp := h2.2.2.2.1.1
  have hB := h4.2.2.2.2
  have hnb2 := hnb.2
  have hns2 := hns.2
  have hfr2 := hfr.2
  have hsp2 := hsp.2
  have hmb : μ 75 0 = nI (N (μ 2 0)) := h3.1.1.trans hnb.1
  have hms : μ 75 5 = nI (N (μ 7 0)) := h3.1.2.1.trans hns.1
  refine A_aload_n dL_law_200 rfl ?_
  refine A_aload_n dL_law_201 rfl ?_
  refine A_iload_n dL_law_202 rfl ?_
  refine A_iconst (v := nI 1) dL_law_203 (by decide +kernel) ?_
  refine A_iaddN dL_law_204 ?_
  refine A_sld dL_law_205 rfl (vp_in_nI (by omega) (by omega)) ?_
  refine A_aload_n dL_law_206 rfl ?_
  refine A_iload_n dL_law_207 rfl ?_
  refine A_iconst (v := nI 2) dL_law_208 (by decide +kernel) ?_
  refine A_iaddN dL_law_209 ?_
  refine A_sld dL_law_210 rfl (vp_in_nI (by omega) (by omega)) ?_
  refine A_aload_n dL_law_211 rfl ?_
  refine A_iload_n dL_law_212 rfl ?_
  refine A_iconst (v := nI 3) dL_law_213 (by decide +kernel) ?_
  refine A_iaddN dL_law_214 ?_
  refine A_sld dL_law_215 rfl (vp_in_nI (by omega) (by omega)) ?_
  refine A_aload_n dL_law_216 rfl ?_
  refine A_iload_n dL_law_217 rfl ?_
  refine A_iconst (v := nI 4) dL_law_218 (by decide +kernel) ?_
  refine A_iaddN dL_law_219 ?_
  refine A_sld dL_law_220 rfl (vp_in_nI (by omega) (by omega)) ?_
  refine A_callV4 dL_law_221 mlL_23 (Nat.le_of_ble_eq_true rfl) rfl rfl (Nat.le_of_ble_eq_true rfl) (c_spout _ _ _ _ hnb.1 hnb.2 hns.1 hns.2 (fun g => ?_) (fun g g2 => ?_) (fun g g2 e => ?_) (fun g g2 e => ?_))
  · refine Kn.s ?_
    refine A_pop dL_law_224 rfl ?_
    refine A_aload_n dL_law_225 rfl ?_
    refine A_aload_n dL_law_226 rfl ?_
    refine A_iload_n dL_law_227 rfl ?_
    refine A_iconst (v := nI 1) dL_law_228 (by decide +kernel) ?_
    refine A_iaddN dL_law_229 ?_
    refine A_sld dL_law_230 rfl (vp_in_nI (by omega) (by omega)) ?_
    refine A_aload_n dL_law_231 rfl ?_
    refine A_iload_n dL_law_232 rfl ?_
    refine A_iconst (v := nI 2) dL_law_233 (by decide +kernel) ?_
    refine A_iaddN dL_law_234 ?_
    refine A_sld dL_law_235 rfl (vp_in_nI (by omega) (by omega)) ?_
    refine A_aload_n dL_law_236 rfl ?_
    refine A_iload_n dL_law_237 rfl ?_
    refine A_iconst (v := nI 3) dL_law_238 (by decide +kernel) ?_
    refine A_iaddN dL_law_239 ?_
    refine A_sld dL_law_240 rfl (vp_in_nI (by omega) (by omega)) ?_
    refine A_aload_n dL_law_241 rfl ?_
    refine A_iload_n dL_law_242 rfl ?_
    refine A_iconst (v := nI 4) dL_law_243 (by decide +kernel) ?_
    refine A_iaddN dL_law_244 ?_
    refine A_sld dL_law_245 rfl (vp_in_nI (by omega) (by omega)) ?_
    refine A_callV4 dL_law_246 mlL_27 (Nat.le_of_ble_eq_true rfl) rfl rfl (Nat.le_of_ble_eq_true rfl) (m_spout _ _ _ _ hmb hnb.2 hms hns.2 (fun _ => ?_) (fun q _ => absurd q g) (fun q _ _ => absurd q g) (fun q _ _ => absurd q g))
    refine Kn.s ?_
    refine A_pop dL_law_249 rfl ?_
    refine A_goto (tgt := 817) dL_law_250 (by decide) ?_
    exact next μ ν ⟨t, S, hV⟩
  · refine Kn.s ?_
    refine A_pop dL_law_224 rfl ?_
    refine A_aload_n dL_law_225 rfl ?_
    refine A_aload_n dL_law_226 rfl ?_
    refine A_iload_n dL_law_227 rfl ?_
    refine A_iconst (v := nI 1) dL_law_228 (by decide +kernel) ?_
    refine A_iaddN dL_law_229 ?_
    refine A_sld dL_law_230 rfl (vp_in_nI (by omega) (by omega)) ?_
    refine A_aload_n dL_law_231 rfl ?_
    refine A_iload_n dL_law_232 rfl ?_
    refine A_iconst (v := nI 2) dL_law_233 (by decide +kernel) ?_
    refine A_iaddN dL_law_234 ?_
    refine A_sld dL_law_235 rfl (vp_in_nI (by omega) (by omega)) ?_
    refine A_aload_n dL_law_236 rfl ?_
    refine A_iload_n dL_law_237 rfl ?_
    refine A_iconst (v := nI 3) dL_law_238 (by decide +kernel) ?_
    refine A_iaddN dL_law_239 ?_
    refine A_sld dL_law_240 rfl (vp_in_nI (by omega) (by omega)) ?_
    refine A_aload_n dL_law_241 rfl ?_
    refine A_iload_n dL_law_242 rfl ?_
    refine A_iconst (v := nI 4) dL_law_243 (by decide +kernel) ?_
    refine A_iaddN dL_law_244 ?_
    refine A_sld dL_law_245 rfl (vp_in_nI (by omega) (by omega)) ?_
    refine A_callV4 dL_law_246 mlL_27 (Nat.le_of_ble_eq_true rfl) rfl rfl (Nat.le_of_ble_eq_true rfl) (m_spout _ _ _ _ hmb hnb.2 hms hns.2 (fun q => absurd g q) (fun _ _ => ?_) (fun _ q _ => absurd q g2) (fun _ q _ => absurd q g2))
    refine Kn.s ?_
    refine A_pop dL_law_249 rfl ?_
    refine A_goto (tgt := 817) dL_law_250 (by decide) ?_
    exact next μ ν ⟨t, S, hV⟩
  · refine Kn.s ?_
    refine A_pop dL_law_224 rfl ?_
    refine A_aload_n dL_law_225 rfl ?_
    refine A_aload_n dL_law_226 rfl ?_
    refine A_iload_n dL_law_227 rfl ?_
    refine A_iconst (v := nI 1) dL_law_228 (by decide +kernel) ?_
    refine A_iaddN dL_law_229 ?_
    refine A_sld dL_law_230 rfl (vp_in_nI (by omega) (by omega)) ?_
    refine A_aload_n dL_law_231 rfl ?_
    refine A_iload_n dL_law_232 rfl ?_
    refine A_iconst (v := nI 2) dL_law_233 (by decide +kernel) ?_
    refine A_iaddN dL_law_234 ?_
    refine A_sld dL_law_235 rfl (vp_in_nI (by omega) (by omega)) ?_
    refine A_aload_n dL_law_236 rfl ?_
    refine A_iload_n dL_law_237 rfl ?_
    refine A_iconst (v := nI 3) dL_law_238 (by decide +kernel) ?_
    refine A_iaddN dL_law_239 ?_
    refine A_sld dL_law_240 rfl (vp_in_nI (by omega) (by omega)) ?_
    refine A_aload_n dL_law_241 rfl ?_
    refine A_iload_n dL_law_242 rfl ?_
    refine A_iconst (v := nI 4) dL_law_243 (by decide +kernel) ?_
    refine A_iaddN dL_law_244 ?_
    refine A_sld dL_law_245 rfl (vp_in_nI (by omega) (by omega)) ?_
    refine A_callV4 dL_law_246 mlL_27 (Nat.le_of_ble_eq_true rfl) rfl rfl (Nat.le_of_ble_eq_true rfl) (m_spout _ _ _ _ hmb hnb.2 hms hns.2 (fun q => absurd g q) (fun _ q => absurd g2 q) (fun _ _ _ => ?_) (fun _ _ q => absurd e (by omega)))
    refine Kn.s ?_
    refine A_pop dL_law_249 rfl ?_
    refine A_goto (tgt := 817) dL_law_250 (by decide) ?_
    exact next μ ν ⟨t, S, hV⟩
  · refine Kn.s ?_
    refine A_pop dL_law_224 rfl ?_
    refine A_aload_n dL_law_225 rfl ?_
    refine A_aload_n dL_law_226 rfl ?_
    refine A_iload_n dL_law_227 rfl ?_
    refine A_iconst (v := nI 1) dL_law_228 (by decide +kernel) ?_
    refine A_iaddN dL_law_229 ?_
    refine A_sld dL_law_230 rfl (vp_in_nI (by omega) (by omega)) ?_
    refine A_aload_n dL_law_231 rfl ?_
    refine A_iload_n dL_law_232 rfl ?_
    refine A_iconst (v := nI 2) dL_law_233 (by decide +kernel) ?_
    refine A_iaddN dL_law_234 ?_
    refine A_sld dL_law_235 rfl (vp_in_nI (by omega) (by omega)) ?_
    refine A_aload_n dL_law_236 rfl ?_
    refine A_iload_n dL_law_237 rfl ?_
    refine A_iconst (v := nI 3) dL_law_238 (by decide +kernel) ?_
    refine A_iaddN dL_law_239 ?_
    refine A_sld dL_law_240 rfl (vp_in_nI (by omega) (by omega)) ?_
    refine A_aload_n dL_law_241 rfl ?_
    refine A_iload_n dL_law_242 rfl ?_
    refine A_iconst (v := nI 4) dL_law_243 (by decide +kernel) ?_
    refine A_iaddN dL_law_244 ?_
    refine A_sld dL_law_245 rfl (vp_in_nI (by omega) (by omega)) ?_
    refine A_callV4 dL_law_246 mlL_27 (Nat.le_of_ble_eq_true rfl) rfl rfl (Nat.le_of_ble_eq_true rfl) (m_spout (m := N (μ 2 0)) (n := N (μ 7 0)) _ _ _ _ (by simp (disch := omega) only [up2_a]; exact hmb) hnb.2 (by simp (disch := omega) only [up2_a]; exact hms) hns.2 (fun q => absurd g q) (fun _ q => absurd g2 q) (fun _ _ q => absurd e (by omega)) (fun _ _ _ => ?_))
    refine Kn.s ?_
    refine A_pop dL_law_249 rfl ?_
    refine A_goto (tgt := 817) dL_law_250 (by decide) ?_
    refine next _ _ ⟨t, S, hV.cfg (WC_spout (m := N (μ 2 0)) (n := N (μ 7 0)) h2 hnb.1 hnb.2 hns.1 e g g2 ?_ ⟨?_, ?_, ?_⟩ (fun j hj => ⟨?_, ?_, ?_⟩) (fun a q1 q2 j => ?_)) (CM_spout (n := N (μ 7 0)) (to := xs (nI (i + 1)).toNatClampNeg) (v := xs (nI (i + 2)).toNatClampNeg) (e := xs (nI (i + 3)).toNatClampNeg) (f0 := xs (nI (i + 4)).toNatClampNeg) h3 hns.1 e ?_ ?_ ⟨?_, ?_, ?_, ?_⟩ ⟨?_, ?_, ?_, ?_⟩ (fun j hj => ⟨?_, ?_, ?_, ?_⟩) (fun j hj => ⟨?_, ?_, ?_, ?_⟩) (fun a q1 q2 j => ?_) (fun a q1 q2 q3 j => ?_) (fun j hj => ?_)) ?_ (fun a j q1 q2 q3 => ?_)⟩
    all_goals first
      | (simp (disch := omega) only [up2_ne, up2_s]; done)
      | (simp (disch := omega) only [up2_ne]; exact Nat.le_refl _)
theorem op_turn {L i : Nat} {xs : Nat → Int32} {μ : MI} {ν : ML} (hL : L ≤ 3072) (hi : i + 6 ≤ L) (hV : INV μ ν) (next : ∀ μ' ν', INV μ' ν' → AW mL_law (9, some (L, xs)) lwP 817 [some (.ref NO), some (.ref 0), some (.ref 75), some (.int (nI i))] [] μ' ν') : AW mL_law (9, some (L, xs)) lwP 253 [some (.ref NO), some (.ref 0), some (.ref 75), some (.int (nI i))] [] μ ν := by
  obtain ⟨t, S, hV⟩ := hV
  obtain ⟨h1, h2, h3, h4, h5, h6, h7⟩ := id hV
  have hnb := h2.1.1
  have hns := h2.2.1.1
  have hfr := h2.2.2.1
  have hsp := h2.2.2.2.1.1
  have hB := h4.2.2.2.2
  have hnb2 := hnb.2
  have hns2 := hns.2
  have hfr2 := hfr.2
  have hsp2 := hsp.2
  have hmb : μ 75 0 = nI (N (μ 2 0)) := h3.1.1.trans hnb.1
  have hms : μ 75 5 = nI (N (μ 7 0)) := h3.1.2.1.trans hns.1
  refine A_aload_n dL_law_253 rfl ?_
  refine A_aload_n dL_law_254 rfl ?_
  refine A_iload_n dL_law_255 rfl ?_
  refine A_iconst (v := nI 1) dL_law_256 (by decide +kernel) ?_
  refine A_iaddN dL_law_257 ?_
  refine A_sld dL_law_258 rfl (vp_in_nI (by omega) (by omega)) ?_
  refine A_aload_n dL_law_259 rfl ?_
  refine A_iload_n dL_law_260 rfl ?_
  refine A_iconst (v := nI 2) dL_law_261 (by decide +kernel) ?_
  refine A_iaddN dL_law_262 ?_
  refine A_sld dL_law_263 rfl (vp_in_nI (by omega) (by omega)) ?_
  refine A_callV2 dL_law_264 mlL_28 (Nat.le_of_ble_eq_true rfl) rfl rfl (Nat.le_of_ble_eq_true rfl) (c_turn _ _ hns.1 hns.2 (fun g => ?_) (fun g g2 => ?_) (fun k g g2 g3 => ?_))
  · refine Kn.s ?_
    refine A_pop dL_law_267 rfl ?_
    refine A_aload_n dL_law_268 rfl ?_
    refine A_aload_n dL_law_269 rfl ?_
    refine A_iload_n dL_law_270 rfl ?_
    refine A_iconst (v := nI 1) dL_law_271 (by decide +kernel) ?_
    refine A_iaddN dL_law_272 ?_
    refine A_sld dL_law_273 rfl (vp_in_nI (by omega) (by omega)) ?_
    refine A_aload_n dL_law_274 rfl ?_
    refine A_iload_n dL_law_275 rfl ?_
    refine A_iconst (v := nI 2) dL_law_276 (by decide +kernel) ?_
    refine A_iaddN dL_law_277 ?_
    refine A_sld dL_law_278 rfl (vp_in_nI (by omega) (by omega)) ?_
    refine A_callV2 dL_law_279 mlL_31 (Nat.le_of_ble_eq_true rfl) rfl rfl (Nat.le_of_ble_eq_true rfl) (m_turn _ _ hms hns.2 (fun _ => ?_) (fun q _ => absurd q g) (fun k e hk _ => absurd ⟨k, e, hk⟩ g))
    refine Kn.s ?_
    refine A_pop dL_law_282 rfl ?_
    refine A_goto (tgt := 817) dL_law_283 (by decide) ?_
    exact next μ ν ⟨t, S, hV⟩
  · refine Kn.s ?_
    refine A_pop dL_law_267 rfl ?_
    refine A_aload_n dL_law_268 rfl ?_
    refine A_aload_n dL_law_269 rfl ?_
    refine A_iload_n dL_law_270 rfl ?_
    refine A_iconst (v := nI 1) dL_law_271 (by decide +kernel) ?_
    refine A_iaddN dL_law_272 ?_
    refine A_sld dL_law_273 rfl (vp_in_nI (by omega) (by omega)) ?_
    refine A_aload_n dL_law_274 rfl ?_
    refine A_iload_n dL_law_275 rfl ?_
    refine A_iconst (v := nI 2) dL_law_276 (by decide +kernel) ?_
    refine A_iaddN dL_law_277 ?_
    refine A_sld dL_law_278 rfl (vp_in_nI (by omega) (by omega)) ?_
    refine A_callV2 dL_law_279 mlL_31 (Nat.le_of_ble_eq_true rfl) rfl rfl (Nat.le_of_ble_eq_true rfl) (m_turn _ _ hms hns.2 (fun q => absurd g q) (fun _ _ => ?_) (fun _ _ _ q => absurd q g2))
    refine Kn.s ?_
    refine A_pop dL_law_282 rfl ?_
    refine A_goto (tgt := 817) dL_law_283 (by decide) ?_
    exact next μ ν ⟨t, S, hV⟩
  · refine Kn.s ?_
    refine A_pop dL_law_267 rfl ?_
    refine A_aload_n dL_law_268 rfl ?_
    refine A_aload_n dL_law_269 rfl ?_
    refine A_iload_n dL_law_270 rfl ?_
    refine A_iconst (v := nI 1) dL_law_271 (by decide +kernel) ?_
    refine A_iaddN dL_law_272 ?_
    refine A_sld dL_law_273 rfl (vp_in_nI (by omega) (by omega)) ?_
    refine A_aload_n dL_law_274 rfl ?_
    refine A_iload_n dL_law_275 rfl ?_
    refine A_iconst (v := nI 2) dL_law_276 (by decide +kernel) ?_
    refine A_iaddN dL_law_277 ?_
    refine A_sld dL_law_278 rfl (vp_in_nI (by omega) (by omega)) ?_
    refine A_callV2 dL_law_279 mlL_31 (Nat.le_of_ble_eq_true rfl) rfl rfl (Nat.le_of_ble_eq_true rfl) (m_turn (n := N (μ 7 0)) _ _ (by simp (disch := omega) only [up2_a]; exact hms) hns.2 (fun q => absurd ⟨k, g, g2⟩ q) (fun _ q => absurd g3 q) (fun k2 e2 hk2 _ => ?_))
    refine Kn.s ?_
    have ek : k2 = k := (nI_eq (by omega) (by omega)).mp (e2.symm.trans g)
    subst ek
    have ev : (up2 μ 9 k2 (xs (nI (i + 2)).toNatClampNeg)) 81 k2 = μ 9 k2 := (up2_a _ _ (by omega)).trans (h3.2.2.1 k2 hk2).2.1
    refine A_pop dL_law_282 rfl ?_
    refine A_goto (tgt := 817) dL_law_283 (by decide) ?_
    refine next _ _ ⟨t, S, hV.cfg (WC_keep h2 (fun a q1 q2 q3 q4 q5 q6 q7 j => ?_)) (CM_turn (k := k2) (v := xs (nI (i + 2)).toNatClampNeg) h3 ?_ ?_ (fun j hj => ⟨?_, ?_⟩) (fun a q1 q2 j => ?_)) ?_ (fun a j q1 q2 q3 => ?_)⟩
    all_goals first
      | (simp (disch := omega) only [up2_ne, up2_s]; done)
      | (simp (disch := omega) only [up2_ne]; exact Nat.le_refl _)
theorem op_frog {L i : Nat} {xs : Nat → Int32} {μ : MI} {ν : ML} (hL : L ≤ 3072) (hi : i + 6 ≤ L) (hV : INV μ ν) (next : ∀ μ' ν', INV μ' ν' → AW mL_law (9, some (L, xs)) lwP 817 [some (.ref NO), some (.ref 0), some (.ref 75), some (.int (nI i))] [] μ' ν') : AW mL_law (9, some (L, xs)) lwP 286 [some (.ref NO), some (.ref 0), some (.ref 75), some (.int (nI i))] [] μ ν := by
  obtain ⟨t, S, hV⟩ := hV
  obtain ⟨h1, h2, h3, h4, h5, h6, h7⟩ := id hV
  have hnb := h2.1.1
  have hns := h2.2.1.1
  have hfr := h2.2.2.1
  have hsp := h2.2.2.2.1.1
  have hB := h4.2.2.2.2
  have hnb2 := hnb.2
  have hns2 := hns.2
  have hfr2 := hfr.2
  have hsp2 := hsp.2
  have hmb : μ 75 0 = nI (N (μ 2 0)) := h3.1.1.trans hnb.1
  have hms : μ 75 5 = nI (N (μ 7 0)) := h3.1.2.1.trans hns.1
  refine A_aload_n dL_law_286 rfl ?_
  refine A_aload_n dL_law_287 rfl ?_
  refine A_iload_n dL_law_288 rfl ?_
  refine A_iconst (v := nI 1) dL_law_289 (by decide +kernel) ?_
  refine A_iaddN dL_law_290 ?_
  refine A_sld dL_law_291 rfl (vp_in_nI (by omega) (by omega)) ?_
  refine A_aload_n dL_law_292 rfl ?_
  refine A_iload_n dL_law_293 rfl ?_
  refine A_iconst (v := nI 2) dL_law_294 (by decide +kernel) ?_
  refine A_iaddN dL_law_295 ?_
  refine A_sld dL_law_296 rfl (vp_in_nI (by omega) (by omega)) ?_
  refine A_aload_n dL_law_297 rfl ?_
  refine A_iload_n dL_law_298 rfl ?_
  refine A_iconst (v := nI 3) dL_law_299 (by decide +kernel) ?_
  refine A_iaddN dL_law_300 ?_
  refine A_sld dL_law_301 rfl (vp_in_nI (by omega) (by omega)) ?_
  refine A_callV3 dL_law_302 mlL_32 (Nat.le_of_ble_eq_true rfl) rfl rfl (Nat.le_of_ble_eq_true rfl) (c_frog _ _ _ hns.1 hns.2 hfr.1 hfr.2 (fun g => ?_) (fun g g2 => ?_) (fun g g2 e => ?_) (fun g g2 e => ?_))
  · refine Kn.s ?_
    refine A_pop dL_law_305 rfl ?_
    refine A_aload_n dL_law_306 rfl ?_
    refine A_aload_n dL_law_307 rfl ?_
    refine A_iload_n dL_law_308 rfl ?_
    refine A_iconst (v := nI 1) dL_law_309 (by decide +kernel) ?_
    refine A_iaddN dL_law_310 ?_
    refine A_sld dL_law_311 rfl (vp_in_nI (by omega) (by omega)) ?_
    refine A_aload_n dL_law_312 rfl ?_
    refine A_iload_n dL_law_313 rfl ?_
    refine A_iconst (v := nI 2) dL_law_314 (by decide +kernel) ?_
    refine A_iaddN dL_law_315 ?_
    refine A_sld dL_law_316 rfl (vp_in_nI (by omega) (by omega)) ?_
    refine A_aload_n dL_law_317 rfl ?_
    refine A_iload_n dL_law_318 rfl ?_
    refine A_iconst (v := nI 3) dL_law_319 (by decide +kernel) ?_
    refine A_iaddN dL_law_320 ?_
    refine A_sld dL_law_321 rfl (vp_in_nI (by omega) (by omega)) ?_
    refine A_callV3 dL_law_322 mlL_35 (Nat.le_of_ble_eq_true rfl) rfl rfl (Nat.le_of_ble_eq_true rfl) (m_frog _ _ _ hms hns.2 (h3.1.2.2.1.trans hfr.1) hfr.2 (fun _ => ?_) (fun q _ => absurd q g) (fun q _ _ => absurd q g) (fun q _ _ => absurd q g))
    refine Kn.s ?_
    refine A_pop dL_law_325 rfl ?_
    refine A_goto (tgt := 817) dL_law_326 (by decide) ?_
    exact next μ ν ⟨t, S, hV⟩
  · refine Kn.s ?_
    refine A_pop dL_law_305 rfl ?_
    refine A_aload_n dL_law_306 rfl ?_
    refine A_aload_n dL_law_307 rfl ?_
    refine A_iload_n dL_law_308 rfl ?_
    refine A_iconst (v := nI 1) dL_law_309 (by decide +kernel) ?_
    refine A_iaddN dL_law_310 ?_
    refine A_sld dL_law_311 rfl (vp_in_nI (by omega) (by omega)) ?_
    refine A_aload_n dL_law_312 rfl ?_
    refine A_iload_n dL_law_313 rfl ?_
    refine A_iconst (v := nI 2) dL_law_314 (by decide +kernel) ?_
    refine A_iaddN dL_law_315 ?_
    refine A_sld dL_law_316 rfl (vp_in_nI (by omega) (by omega)) ?_
    refine A_aload_n dL_law_317 rfl ?_
    refine A_iload_n dL_law_318 rfl ?_
    refine A_iconst (v := nI 3) dL_law_319 (by decide +kernel) ?_
    refine A_iaddN dL_law_320 ?_
    refine A_sld dL_law_321 rfl (vp_in_nI (by omega) (by omega)) ?_
    refine A_callV3 dL_law_322 mlL_35 (Nat.le_of_ble_eq_true rfl) rfl rfl (Nat.le_of_ble_eq_true rfl) (m_frog _ _ _ hms hns.2 (h3.1.2.2.1.trans hfr.1) hfr.2 (fun q => absurd g q) (fun _ _ => ?_) (fun _ q _ => absurd q g2) (fun _ q _ => absurd q g2))
    refine Kn.s ?_
    refine A_pop dL_law_325 rfl ?_
    refine A_goto (tgt := 817) dL_law_326 (by decide) ?_
    exact next μ ν ⟨t, S, hV⟩
  · refine Kn.s ?_
    refine A_pop dL_law_305 rfl ?_
    refine A_aload_n dL_law_306 rfl ?_
    refine A_aload_n dL_law_307 rfl ?_
    refine A_iload_n dL_law_308 rfl ?_
    refine A_iconst (v := nI 1) dL_law_309 (by decide +kernel) ?_
    refine A_iaddN dL_law_310 ?_
    refine A_sld dL_law_311 rfl (vp_in_nI (by omega) (by omega)) ?_
    refine A_aload_n dL_law_312 rfl ?_
    refine A_iload_n dL_law_313 rfl ?_
    refine A_iconst (v := nI 2) dL_law_314 (by decide +kernel) ?_
    refine A_iaddN dL_law_315 ?_
    refine A_sld dL_law_316 rfl (vp_in_nI (by omega) (by omega)) ?_
    refine A_aload_n dL_law_317 rfl ?_
    refine A_iload_n dL_law_318 rfl ?_
    refine A_iconst (v := nI 3) dL_law_319 (by decide +kernel) ?_
    refine A_iaddN dL_law_320 ?_
    refine A_sld dL_law_321 rfl (vp_in_nI (by omega) (by omega)) ?_
    refine A_callV3 dL_law_322 mlL_35 (Nat.le_of_ble_eq_true rfl) rfl rfl (Nat.le_of_ble_eq_true rfl) (m_frog _ _ _ hms hns.2 (h3.1.2.2.1.trans hfr.1) hfr.2 (fun q => absurd g q) (fun _ q => absurd g2 q) (fun _ _ _ => ?_) (fun _ _ q => absurd e (by omega)))
    refine Kn.s ?_
    refine A_pop dL_law_325 rfl ?_
    refine A_goto (tgt := 817) dL_law_326 (by decide) ?_
    exact next μ ν ⟨t, S, hV⟩
  · refine Kn.s ?_
    refine A_pop dL_law_305 rfl ?_
    refine A_aload_n dL_law_306 rfl ?_
    refine A_aload_n dL_law_307 rfl ?_
    refine A_iload_n dL_law_308 rfl ?_
    refine A_iconst (v := nI 1) dL_law_309 (by decide +kernel) ?_
    refine A_iaddN dL_law_310 ?_
    refine A_sld dL_law_311 rfl (vp_in_nI (by omega) (by omega)) ?_
    refine A_aload_n dL_law_312 rfl ?_
    refine A_iload_n dL_law_313 rfl ?_
    refine A_iconst (v := nI 2) dL_law_314 (by decide +kernel) ?_
    refine A_iaddN dL_law_315 ?_
    refine A_sld dL_law_316 rfl (vp_in_nI (by omega) (by omega)) ?_
    refine A_aload_n dL_law_317 rfl ?_
    refine A_iload_n dL_law_318 rfl ?_
    refine A_iconst (v := nI 3) dL_law_319 (by decide +kernel) ?_
    refine A_iaddN dL_law_320 ?_
    refine A_sld dL_law_321 rfl (vp_in_nI (by omega) (by omega)) ?_
    refine A_callV3 dL_law_322 mlL_35 (Nat.le_of_ble_eq_true rfl) rfl rfl (Nat.le_of_ble_eq_true rfl) (m_frog (n := N (μ 7 0)) (q := N (μ 12 0)) _ _ _ (by simp (disch := omega) only [up2_a]; exact hms) hns.2 (by simp (disch := omega) only [up2_a]; exact h3.1.2.2.1.trans hfr.1) hfr.2 (fun q => absurd g q) (fun _ q => absurd g2 q) (fun _ _ q => absurd e (by omega)) (fun _ _ _ => ?_))
    refine Kn.s ?_
    refine A_pop dL_law_325 rfl ?_
    refine A_goto (tgt := 817) dL_law_326 (by decide) ?_
    refine next _ _ ⟨t, S, hV.cfg (WC_frog (q := N (μ 12 0)) h2 e ?_ (fun a q1 q2 j => ?_)) (CM_frog (q := N (μ 12 0)) (s := xs (nI (i + 1)).toNatClampNeg) (f0 := xs (nI (i + 2)).toNatClampNeg) (t := xs (nI (i + 3)).toNatClampNeg) h3 hfr.1 e ?_ ?_ ⟨?_, ?_, ?_⟩ ⟨?_, ?_, ?_⟩ (fun j hj => ⟨⟨?_, ?_, ?_⟩, ?_, ?_, ?_⟩) (fun a q1 q2 q3 j => ?_) (fun j hj => ?_)) ?_ (fun a j q1 q2 q3 => ?_)⟩
    all_goals first
      | (simp (disch := omega) only [up2_ne, up2_s]; done)
      | (simp (disch := omega) only [up2_ne]; exact Nat.le_refl _)
theorem op_weather {L i : Nat} {xs : Nat → Int32} {μ : MI} {ν : ML} (hL : L ≤ 3072) (hi : i + 6 ≤ L) (hV : INV μ ν) (next : ∀ μ' ν', INV μ' ν' → AW mL_law (9, some (L, xs)) lwP 817 [some (.ref NO), some (.ref 0), some (.ref 75), some (.int (nI i))] [] μ' ν') : AW mL_law (9, some (L, xs)) lwP 329 [some (.ref NO), some (.ref 0), some (.ref 75), some (.int (nI i))] [] μ ν := by
  obtain ⟨t, S, hV⟩ := hV
  obtain ⟨h1, h2, h3, h4, h5, h6, h7⟩ := id hV
  have hnb := h2.1.1
  have hns := h2.2.1.1
  have hfr := h2.2.2.1
  have hsp := h2.2.2.2.1.1
  have hB := h4.2.2.2.2
  have hnb2 := hnb.2
  have hns2 := hns.2
  have hfr2 := hfr.2
  have hsp2 := hsp.2
  have hmb : μ 75 0 = nI (N (μ 2 0)) := h3.1.1.trans hnb.1
  have hms : μ 75 5 = nI (N (μ 7 0)) := h3.1.2.1.trans hns.1
  refine A_aload_n dL_law_329 rfl ?_
  refine A_aload_n dL_law_330 rfl ?_
  refine A_iload_n dL_law_331 rfl ?_
  refine A_iconst (v := nI 1) dL_law_332 (by decide +kernel) ?_
  refine A_iaddN dL_law_333 ?_
  refine A_sld dL_law_334 rfl (vp_in_nI (by omega) (by omega)) ?_
  refine A_aload_n dL_law_335 rfl ?_
  refine A_iload_n dL_law_336 rfl ?_
  refine A_iconst (v := nI 2) dL_law_337 (by decide +kernel) ?_
  refine A_iaddN dL_law_338 ?_
  refine A_sld dL_law_339 rfl (vp_in_nI (by omega) (by omega)) ?_
  refine A_callV2 dL_law_340 mlL_36 (Nat.le_of_ble_eq_true rfl) rfl rfl (Nat.le_of_ble_eq_true rfl) (c_weather _ _ hsp.1 hsp.2 (fun g => ?_) (fun g e => ?_) (fun g e => ?_))
  · refine Kn.s ?_
    refine A_pop dL_law_343 rfl ?_
    refine A_aload_n dL_law_344 rfl ?_
    refine A_aload_n dL_law_345 rfl ?_
    refine A_iload_n dL_law_346 rfl ?_
    refine A_iconst (v := nI 1) dL_law_347 (by decide +kernel) ?_
    refine A_iaddN dL_law_348 ?_
    refine A_sld dL_law_349 rfl (vp_in_nI (by omega) (by omega)) ?_
    refine A_aload_n dL_law_350 rfl ?_
    refine A_iload_n dL_law_351 rfl ?_
    refine A_iconst (v := nI 2) dL_law_352 (by decide +kernel) ?_
    refine A_iaddN dL_law_353 ?_
    refine A_sld dL_law_354 rfl (vp_in_nI (by omega) (by omega)) ?_
    refine A_callV2 dL_law_355 mlL_39 (Nat.le_of_ble_eq_true rfl) rfl rfl (Nat.le_of_ble_eq_true rfl) (m_weather _ _ (h3.1.2.2.2.1.trans hsp.1) hsp.2 (fun _ => ?_) (fun q _ => absurd q g) (fun q _ => absurd q g))
    refine Kn.s ?_
    refine A_pop dL_law_358 rfl ?_
    refine A_goto (tgt := 817) dL_law_359 (by decide) ?_
    exact next μ ν ⟨t, S, hV⟩
  · refine Kn.s ?_
    refine A_pop dL_law_343 rfl ?_
    refine A_aload_n dL_law_344 rfl ?_
    refine A_aload_n dL_law_345 rfl ?_
    refine A_iload_n dL_law_346 rfl ?_
    refine A_iconst (v := nI 1) dL_law_347 (by decide +kernel) ?_
    refine A_iaddN dL_law_348 ?_
    refine A_sld dL_law_349 rfl (vp_in_nI (by omega) (by omega)) ?_
    refine A_aload_n dL_law_350 rfl ?_
    refine A_iload_n dL_law_351 rfl ?_
    refine A_iconst (v := nI 2) dL_law_352 (by decide +kernel) ?_
    refine A_iaddN dL_law_353 ?_
    refine A_sld dL_law_354 rfl (vp_in_nI (by omega) (by omega)) ?_
    refine A_callV2 dL_law_355 mlL_39 (Nat.le_of_ble_eq_true rfl) rfl rfl (Nat.le_of_ble_eq_true rfl) (m_weather _ _ (h3.1.2.2.2.1.trans hsp.1) hsp.2 (fun q => absurd g q) (fun _ _ => ?_) (fun _ q => absurd e (by omega)))
    refine Kn.s ?_
    refine A_pop dL_law_358 rfl ?_
    refine A_goto (tgt := 817) dL_law_359 (by decide) ?_
    exact next μ ν ⟨t, S, hV⟩
  · refine Kn.s ?_
    refine A_pop dL_law_343 rfl ?_
    refine A_aload_n dL_law_344 rfl ?_
    refine A_aload_n dL_law_345 rfl ?_
    refine A_iload_n dL_law_346 rfl ?_
    refine A_iconst (v := nI 1) dL_law_347 (by decide +kernel) ?_
    refine A_iaddN dL_law_348 ?_
    refine A_sld dL_law_349 rfl (vp_in_nI (by omega) (by omega)) ?_
    refine A_aload_n dL_law_350 rfl ?_
    refine A_iload_n dL_law_351 rfl ?_
    refine A_iconst (v := nI 2) dL_law_352 (by decide +kernel) ?_
    refine A_iaddN dL_law_353 ?_
    refine A_sld dL_law_354 rfl (vp_in_nI (by omega) (by omega)) ?_
    refine A_callV2 dL_law_355 mlL_39 (Nat.le_of_ble_eq_true rfl) rfl rfl (Nat.le_of_ble_eq_true rfl) (m_weather (q := N (μ 16 0)) _ _ (by simp (disch := omega) only [up2_a]; exact h3.1.2.2.2.1.trans hsp.1) hsp.2 (fun q => absurd g q) (fun _ q => absurd e (by omega)) (fun _ _ => ?_))
    refine Kn.s ?_
    refine A_pop dL_law_358 rfl ?_
    refine A_goto (tgt := 817) dL_law_359 (by decide) ?_
    refine next _ _ ⟨t, S, hV.cfg (WC_spell (q := N (μ 16 0)) h2 hsp.1 e g.1 ?_ ?_ (fun j hj => ?_) (fun a q1 q2 j => ?_)) (CM_spell (q := N (μ 16 0)) (f0 := xs (nI (i + 1)).toNatClampNeg) (w := xs (nI (i + 2)).toNatClampNeg) h3 hsp.1 e ?_ ?_ ⟨?_, ?_⟩ ⟨?_, ?_⟩ (fun j hj => ⟨⟨?_, ?_⟩, ?_, ?_⟩) (fun a q1 q2 q3 j => ?_) (fun j hj => ?_)) ?_ (fun a j q1 q2 q3 => ?_)⟩
    all_goals first
      | (simp (disch := omega) only [up2_ne, up2_s]; done)
      | (simp (disch := omega) only [up2_ne]; exact Nat.le_refl _)
theorem op_dry {L i : Nat} {xs : Nat → Int32} {μ : MI} {ν : ML} (hL : L ≤ 3072) (hi : i + 6 ≤ L) (hV : INV μ ν) (next : ∀ μ' ν', INV μ' ν' → AW mL_law (9, some (L, xs)) lwP 817 [some (.ref NO), some (.ref 0), some (.ref 75), some (.int (nI i))] [] μ' ν') : AW mL_law (9, some (L, xs)) lwP 362 [some (.ref NO), some (.ref 0), some (.ref 75), some (.int (nI i))] [] μ ν := by
  obtain ⟨t, S, hV⟩ := hV
  obtain ⟨h1, h2, h3, h4, h5, h6, h7⟩ := id hV
  have hnb := h2.1.1
  have hns := h2.2.1.1
  have hfr := h2.2.2.1
  have hsp := h2.2.2.2.1.1
  have hB := h4.2.2.2.2
  have hnb2 := hnb.2
  have hns2 := hns.2
  have hfr2 := hfr.2
  have hsp2 := hsp.2
  have hmb : μ 75 0 = nI (N (μ 2 0)) := h3.1.1.trans hnb.1
  have hms : μ 75 5 = nI (N (μ 7 0)) := h3.1.2.1.trans hns.1
  refine A_aload_n dL_law_362 rfl ?_
  refine A_aload_n dL_law_363 rfl ?_
  refine A_iload_n dL_law_364 rfl ?_
  refine A_iconst (v := nI 1) dL_law_365 (by decide +kernel) ?_
  refine A_iaddN dL_law_366 ?_
  refine A_sld dL_law_367 rfl (vp_in_nI (by omega) (by omega)) ?_
  refine A_callV1 dL_law_368 mlL_40 (Nat.le_of_ble_eq_true rfl) rfl rfl (Nat.le_of_ble_eq_true rfl) (c_dry _ (fun g => ?_) (fun g => ?_))
  · refine Kn.s ?_
    refine A_pop dL_law_371 rfl ?_
    refine A_aload_n dL_law_372 rfl ?_
    refine A_aload_n dL_law_373 rfl ?_
    refine A_iload_n dL_law_374 rfl ?_
    refine A_iconst (v := nI 1) dL_law_375 (by decide +kernel) ?_
    refine A_iaddN dL_law_376 ?_
    refine A_sld dL_law_377 rfl (vp_in_nI (by omega) (by omega)) ?_
    refine A_callV1 dL_law_378 mlL_44 (Nat.le_of_ble_eq_true rfl) rfl rfl (Nat.le_of_ble_eq_true rfl) (m_dry _ (fun _ => ?_) (fun q => absurd q g))
    refine Kn.s ?_
    refine A_pop dL_law_381 rfl ?_
    refine A_goto (tgt := 817) dL_law_382 (by decide) ?_
    exact next μ ν ⟨t, S, hV⟩
  · refine Kn.s ?_
    refine A_pop dL_law_371 rfl ?_
    refine A_aload_n dL_law_372 rfl ?_
    refine A_aload_n dL_law_373 rfl ?_
    refine A_iload_n dL_law_374 rfl ?_
    refine A_iconst (v := nI 1) dL_law_375 (by decide +kernel) ?_
    refine A_iaddN dL_law_376 ?_
    refine A_sld dL_law_377 rfl (vp_in_nI (by omega) (by omega)) ?_
    refine A_callV1 dL_law_378 mlL_44 (Nat.le_of_ble_eq_true rfl) rfl rfl (Nat.le_of_ble_eq_true rfl) (m_dry _ (fun q => absurd g q) (fun _ => ?_))
    refine Kn.s ?_
    have ev : (up2 μ 1 4 (xs (nI (i + 1)).toNatClampNeg)) 75 17 = μ 1 4 := (up2_a _ _ (by omega)).trans h3.1.2.2.2.2
    refine A_pop dL_law_381 rfl ?_
    refine A_goto (tgt := 817) dL_law_382 (by decide) ?_
    refine next _ _ ⟨t, S, hV.cfg (WC_dry h2 g ?_ (fun a q1 q2 j => ?_)) (CM_dry (v := xs (nI (i + 1)).toNatClampNeg) h3 ?_ ?_ (fun a q1 q2 j => ?_) (fun j hj => ?_)) ?_ (fun a j q1 q2 q3 => ?_)⟩
    all_goals first
      | (simp (disch := omega) only [up2_ne, up2_s]; done)
      | (simp (disch := omega) only [up2_ne]; exact Nat.le_refl _)
