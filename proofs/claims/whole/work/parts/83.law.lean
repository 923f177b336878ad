/-! ===== the law's body ===== -/
def lw_I (σ : gz_Mm) : Prop := ∃ S, ap_wf S ∧ ap_X σ S ∧ am_X σ S
section ZW
variable {d : Nat} {y : MethodName} {cc : ByteArray} {nL : Nat} {rt : Option FieldType} {mc ms pc L : Nat} {ls : List (Option Value)} {st : List Value} {σ : gz_Mm} {Q : Option Value → gz_AH → Prop}
theorem zl_scr {i q : Nat} {w x : Int32} (hd : decode cc pc = .ok (.iaload, 1)) (hw : w = nI q) (hL : L ≤ 2560) (hi : i + q < L) (hx : σ 10 (i + q) = x) (kk : gz_R d y cc nL rt mc ms (pc + 1) ls (.int x :: st) (gz_mk L σ) Q) : gz_R d y cc nL rt mc ms pc ls (.int (nI i + w) :: .ref 10 :: st) (gz_mk L σ) Q := by
  subst hw
  rw [nI_add]
  refine zt_iald (a := 10) (n := L) hd rfl (vp_in_nI hi (by omega)) ?_
  rw [nI_clamp (by omega), hx]
  exact kk
end ZW
theorem lw_and (x : Int32) : ∃ k, k < 32 ∧ (x &&& 31) = nI k := by
  have hb : (x &&& 31).toBitVec = x.toBitVec &&& 31#32 := rfl
  have h1 : (x &&& 31).toBitVec.toNat ≤ 31 := by
    rw [hb, BitVec.toNat_and]
    exact Nat.and_le_right
  refine ⟨(x &&& 31).toBitVec.toNat, by omega, ?_⟩
  apply Int32.toBitVec_inj.mp
  show _ = BitVec.ofNat 32 _
  rw [BitVec.ofNat_toNat, BitVec.setWidth_eq]
theorem lw_sub5 {L : Nat} (hL : L ≤ 2560) : (nI L - 5).toInt = (L : Int) - 5 := by
  rw [Int32.toInt_sub, nI_toInt (by omega), show (5 : Int32).toInt = 5 from rfl]
  exact Int.bmod_eq_of_le (by omega) (by omega)
theorem lw_c_input {L j mc ms : Nat} {σ : gz_Mm} {S : ap_S} {Q : Option Value → gz_AH → Prop} (hL : L ≤ 2560) (hj : j + 5 ≤ L) (hw : ap_wf S) (hX : ap_X σ S) (hM : am_X σ S) (kk : ∀ σ2, lw_I σ2 → gz_R 11 yL_law cL_law 4 (some .boolean) mc ms 936 [some (.ref 10), some (.ref 11), some (.ref 57), some (.int (nI j))] [] (gz_mk L σ2) Q) : gz_R 11 yL_law cL_law 4 (some .boolean) mc ms 152 [some (.ref 10), some (.ref 11), some (.ref 57), some (.int (nI j))] [] (gz_mk L σ) Q := by
  refine zr_aload_n dL_law_152 rfl ?_
  refine zt_cVi (As := []) (gz_Gi.keep (cx_input L σ S hw hX ) ap_P.keep) zc_L_13 rfl dL_law_153 rfl rfl rfl rfl rfl rfl (fun v1 σ1 h1 => ?_)
  refine zr_aload_n dL_law_156 rfl ?_
  refine zt_cVi (As := []) (ax_input L σ1 S hw (hM.fr h1.1.2.2) ) zc_L_17 rfl dL_law_157 rfl rfl rfl rfl rfl rfl (fun v2 σ2 h2 => ?_)
  exact zr_icmp_eq 936 dL_law_160 (by decide) (fun _ => kk σ2 ⟨_, fw_input S hw , h1.1.2.1.fr (fun k _ q => h2.2.2 k q), h2.2.1⟩) (fun q => absurd (h1.1.1.trans h2.1.symm) q)
theorem lw_c_gate {L j mc ms : Nat} {σ : gz_Mm} {S : ap_S} {Q : Option Value → gz_AH → Prop} (hL : L ≤ 2560) (hj : j + 5 ≤ L) (hw : ap_wf S) (hX : ap_X σ S) (hM : am_X σ S) (kk : ∀ σ2, lw_I σ2 → gz_R 11 yL_law cL_law 4 (some .boolean) mc ms 936 [some (.ref 10), some (.ref 11), some (.ref 57), some (.int (nI j))] [] (gz_mk L σ2) Q) : gz_R 11 yL_law cL_law 4 (some .boolean) mc ms 165 [some (.ref 10), some (.ref 11), some (.ref 57), some (.int (nI j))] [] (gz_mk L σ) Q := by
  refine zr_aload_n dL_law_165 rfl ?_
  refine zr_aload_n dL_law_166 rfl ?_
  refine zr_iload_n dL_law_167 rfl ?_
  refine zr_iconst (v := 1) dL_law_168 kc_iconst_1 ?_
  refine zr_iadd dL_law_169 ?_
  refine zl_scr (q := 1) (x := σ 10 (j + 1)) dL_law_170 rfl hL (by omega) rfl ?_
  refine zr_aload_n dL_law_171 rfl ?_
  refine zr_iload_n dL_law_172 rfl ?_
  refine zr_iconst (v := 2) dL_law_173 kc_iconst_2 ?_
  refine zr_iadd dL_law_174 ?_
  refine zl_scr (q := 2) (x := σ 10 (j + 2)) dL_law_175 rfl hL (by omega) rfl ?_
  refine zr_aload_n dL_law_176 rfl ?_
  refine zr_iload_n dL_law_177 rfl ?_
  refine zr_iconst (v := 3) dL_law_178 kc_iconst_3 ?_
  refine zr_iadd dL_law_179 ?_
  refine zl_scr (q := 3) (x := σ 10 (j + 3)) dL_law_180 rfl hL (by omega) rfl ?_
  refine zr_aload_n dL_law_181 rfl ?_
  refine zr_iload_n dL_law_182 rfl ?_
  refine zr_iconst (v := 4) dL_law_183 kc_iconst_4 ?_
  refine zr_iadd dL_law_184 ?_
  refine zl_scr (q := 4) (x := σ 10 (j + 4)) dL_law_185 rfl hL (by omega) rfl ?_
  refine zt_cVi (As := [.int (σ 10 (j + 1)), .int (σ 10 (j + 2)), .int (σ 10 (j + 3)), .int (σ 10 (j + 4))]) (gz_Gi.keep (cx_gate L σ S hw hX (σ 10 (j + 1)) (σ 10 (j + 2)) (σ 10 (j + 3)) (σ 10 (j + 4))) ap_P.keep) zc_L_18 rfl dL_law_186 rfl rfl rfl rfl rfl rfl (fun v1 σ1 h1 => ?_)
  refine zr_aload_n dL_law_189 rfl ?_
  refine zr_aload_n dL_law_190 rfl ?_
  refine zr_iload_n dL_law_191 rfl ?_
  refine zr_iconst (v := 1) dL_law_192 kc_iconst_1 ?_
  refine zr_iadd dL_law_193 ?_
  refine zl_scr (q := 1) (x := σ 10 (j + 1)) dL_law_194 rfl hL (by omega) (by rw [h1.2]) ?_
  refine zr_aload_n dL_law_195 rfl ?_
  refine zr_iload_n dL_law_196 rfl ?_
  refine zr_iconst (v := 2) dL_law_197 kc_iconst_2 ?_
  refine zr_iadd dL_law_198 ?_
  refine zl_scr (q := 2) (x := σ 10 (j + 2)) dL_law_199 rfl hL (by omega) (by rw [h1.2]) ?_
  refine zr_aload_n dL_law_200 rfl ?_
  refine zr_iload_n dL_law_201 rfl ?_
  refine zr_iconst (v := 3) dL_law_202 kc_iconst_3 ?_
  refine zr_iadd dL_law_203 ?_
  refine zl_scr (q := 3) (x := σ 10 (j + 3)) dL_law_204 rfl hL (by omega) (by rw [h1.2]) ?_
  refine zr_aload_n dL_law_205 rfl ?_
  refine zr_iload_n dL_law_206 rfl ?_
  refine zr_iconst (v := 4) dL_law_207 kc_iconst_4 ?_
  refine zr_iadd dL_law_208 ?_
  refine zl_scr (q := 4) (x := σ 10 (j + 4)) dL_law_209 rfl hL (by omega) (by rw [h1.2]) ?_
  refine zt_cVi (As := [.int (σ 10 (j + 1)), .int (σ 10 (j + 2)), .int (σ 10 (j + 3)), .int (σ 10 (j + 4))]) (ax_gate L σ1 S hw (hM.fr h1.1.2.2) (σ 10 (j + 1)) (σ 10 (j + 2)) (σ 10 (j + 3)) (σ 10 (j + 4))) zc_L_22 rfl dL_law_210 rfl rfl rfl rfl rfl rfl (fun v2 σ2 h2 => ?_)
  exact zr_icmp_eq 936 dL_law_213 (by decide) (fun _ => kk σ2 ⟨_, fw_gate S hw (σ 10 (j + 1)) (σ 10 (j + 2)) (σ 10 (j + 3)) (σ 10 (j + 4)), h1.1.2.1.fr (fun k _ q => h2.2.2 k q), h2.2.1⟩) (fun q => absurd (h1.1.1.trans h2.1.symm) q)
theorem lw_c_cell {L j mc ms : Nat} {σ : gz_Mm} {S : ap_S} {Q : Option Value → gz_AH → Prop} (hL : L ≤ 2560) (hj : j + 5 ≤ L) (hw : ap_wf S) (hX : ap_X σ S) (hM : am_X σ S) (kk : ∀ σ2, lw_I σ2 → gz_R 11 yL_law cL_law 4 (some .boolean) mc ms 936 [some (.ref 10), some (.ref 11), some (.ref 57), some (.int (nI j))] [] (gz_mk L σ2) Q) : gz_R 11 yL_law cL_law 4 (some .boolean) mc ms 218 [some (.ref 10), some (.ref 11), some (.ref 57), some (.int (nI j))] [] (gz_mk L σ) Q := by
  refine zr_aload_n dL_law_218 rfl ?_
  refine zr_aload_n dL_law_219 rfl ?_
  refine zr_iload_n dL_law_220 rfl ?_
  refine zr_iconst (v := 1) dL_law_221 kc_iconst_1 ?_
  refine zr_iadd dL_law_222 ?_
  refine zl_scr (q := 1) (x := σ 10 (j + 1)) dL_law_223 rfl hL (by omega) rfl ?_
  refine zt_cVi (As := [.int (σ 10 (j + 1))]) (gz_Gi.keep (cx_cell L σ S hw hX (σ 10 (j + 1))) ap_P.keep) zc_L_23 rfl dL_law_224 rfl rfl rfl rfl rfl rfl (fun v1 σ1 h1 => ?_)
  refine zr_aload_n dL_law_227 rfl ?_
  refine zr_aload_n dL_law_228 rfl ?_
  refine zr_iload_n dL_law_229 rfl ?_
  refine zr_iconst (v := 1) dL_law_230 kc_iconst_1 ?_
  refine zr_iadd dL_law_231 ?_
  refine zl_scr (q := 1) (x := σ 10 (j + 1)) dL_law_232 rfl hL (by omega) (by rw [h1.2]) ?_
  refine zt_cVi (As := [.int (σ 10 (j + 1))]) (ax_cell L σ1 S hw (hM.fr h1.1.2.2) (σ 10 (j + 1))) zc_L_27 rfl dL_law_233 rfl rfl rfl rfl rfl rfl (fun v2 σ2 h2 => ?_)
  exact zr_icmp_eq 936 dL_law_236 (by decide) (fun _ => kk σ2 ⟨_, fw_cell S hw (σ 10 (j + 1)), h1.1.2.1.fr (fun k _ q => h2.2.2 k q), h2.2.1⟩) (fun q => absurd (h1.1.1.trans h2.1.symm) q)
theorem lw_c_source {L j mc ms : Nat} {σ : gz_Mm} {S : ap_S} {Q : Option Value → gz_AH → Prop} (hL : L ≤ 2560) (hj : j + 5 ≤ L) (hw : ap_wf S) (hX : ap_X σ S) (hM : am_X σ S) (kk : ∀ σ2, lw_I σ2 → gz_R 11 yL_law cL_law 4 (some .boolean) mc ms 936 [some (.ref 10), some (.ref 11), some (.ref 57), some (.int (nI j))] [] (gz_mk L σ2) Q) : gz_R 11 yL_law cL_law 4 (some .boolean) mc ms 241 [some (.ref 10), some (.ref 11), some (.ref 57), some (.int (nI j))] [] (gz_mk L σ) Q := by
  refine zr_aload_n dL_law_241 rfl ?_
  refine zr_aload_n dL_law_242 rfl ?_
  refine zr_iload_n dL_law_243 rfl ?_
  refine zr_iconst (v := 1) dL_law_244 kc_iconst_1 ?_
  refine zr_iadd dL_law_245 ?_
  refine zl_scr (q := 1) (x := σ 10 (j + 1)) dL_law_246 rfl hL (by omega) rfl ?_
  refine zr_aload_n dL_law_247 rfl ?_
  refine zr_iload_n dL_law_248 rfl ?_
  refine zr_iconst (v := 2) dL_law_249 kc_iconst_2 ?_
  refine zr_iadd dL_law_250 ?_
  refine zl_scr (q := 2) (x := σ 10 (j + 2)) dL_law_251 rfl hL (by omega) rfl ?_
  refine zt_cVi (As := [.int (σ 10 (j + 1)), .int (σ 10 (j + 2))]) (gz_Gi.keep (cx_source L σ S hw hX (σ 10 (j + 1)) (σ 10 (j + 2))) ap_P.keep) zc_L_28 rfl dL_law_252 rfl rfl rfl rfl rfl rfl (fun v1 σ1 h1 => ?_)
  refine zr_aload_n dL_law_255 rfl ?_
  refine zr_aload_n dL_law_256 rfl ?_
  refine zr_iload_n dL_law_257 rfl ?_
  refine zr_iconst (v := 1) dL_law_258 kc_iconst_1 ?_
  refine zr_iadd dL_law_259 ?_
  refine zl_scr (q := 1) (x := σ 10 (j + 1)) dL_law_260 rfl hL (by omega) (by rw [h1.2]) ?_
  refine zr_aload_n dL_law_261 rfl ?_
  refine zr_iload_n dL_law_262 rfl ?_
  refine zr_iconst (v := 2) dL_law_263 kc_iconst_2 ?_
  refine zr_iadd dL_law_264 ?_
  refine zl_scr (q := 2) (x := σ 10 (j + 2)) dL_law_265 rfl hL (by omega) (by rw [h1.2]) ?_
  refine zt_cVi (As := [.int (σ 10 (j + 1)), .int (σ 10 (j + 2))]) (ax_source L σ1 S hw (hM.fr h1.1.2.2) (σ 10 (j + 1)) (σ 10 (j + 2))) zc_L_32 rfl dL_law_266 rfl rfl rfl rfl rfl rfl (fun v2 σ2 h2 => ?_)
  exact zr_icmp_eq 936 dL_law_269 (by decide) (fun _ => kk σ2 ⟨_, fw_source S hw (σ 10 (j + 1)) (σ 10 (j + 2)), h1.1.2.1.fr (fun k _ q => h2.2.2 k q), h2.2.1⟩) (fun q => absurd (h1.1.1.trans h2.1.symm) q)
theorem lw_c_output {L j mc ms : Nat} {σ : gz_Mm} {S : ap_S} {Q : Option Value → gz_AH → Prop} (hL : L ≤ 2560) (hj : j + 5 ≤ L) (hw : ap_wf S) (hX : ap_X σ S) (hM : am_X σ S) (kk : ∀ σ2, lw_I σ2 → gz_R 11 yL_law cL_law 4 (some .boolean) mc ms 936 [some (.ref 10), some (.ref 11), some (.ref 57), some (.int (nI j))] [] (gz_mk L σ2) Q) : gz_R 11 yL_law cL_law 4 (some .boolean) mc ms 274 [some (.ref 10), some (.ref 11), some (.ref 57), some (.int (nI j))] [] (gz_mk L σ) Q := by
  refine zr_aload_n dL_law_274 rfl ?_
  refine zr_aload_n dL_law_275 rfl ?_
  refine zr_iload_n dL_law_276 rfl ?_
  refine zr_iconst (v := 1) dL_law_277 kc_iconst_1 ?_
  refine zr_iadd dL_law_278 ?_
  refine zl_scr (q := 1) (x := σ 10 (j + 1)) dL_law_279 rfl hL (by omega) rfl ?_
  refine zt_cVi (As := [.int (σ 10 (j + 1))]) (gz_Gi.keep (cx_output L σ S hw hX (σ 10 (j + 1))) ap_P.keep) zc_L_33 rfl dL_law_280 rfl rfl rfl rfl rfl rfl (fun v1 σ1 h1 => ?_)
  refine zr_aload_n dL_law_283 rfl ?_
  refine zr_aload_n dL_law_284 rfl ?_
  refine zr_iload_n dL_law_285 rfl ?_
  refine zr_iconst (v := 1) dL_law_286 kc_iconst_1 ?_
  refine zr_iadd dL_law_287 ?_
  refine zl_scr (q := 1) (x := σ 10 (j + 1)) dL_law_288 rfl hL (by omega) (by rw [h1.2]) ?_
  refine zt_cVi (As := [.int (σ 10 (j + 1))]) (ax_output L σ1 S hw (hM.fr h1.1.2.2) (σ 10 (j + 1))) zc_L_36 rfl dL_law_289 rfl rfl rfl rfl rfl rfl (fun v2 σ2 h2 => ?_)
  exact zr_icmp_eq 936 dL_law_292 (by decide) (fun _ => kk σ2 ⟨_, fw_output S hw (σ 10 (j + 1)), h1.1.2.1.fr (fun k _ q => h2.2.2 k q), h2.2.1⟩) (fun q => absurd (h1.1.1.trans h2.1.symm) q)
theorem lw_c_count {L j mc ms : Nat} {σ : gz_Mm} {S : ap_S} {Q : Option Value → gz_AH → Prop} (hL : L ≤ 2560) (hj : j + 5 ≤ L) (hw : ap_wf S) (hX : ap_X σ S) (hM : am_X σ S) (kk : ∀ σ2, lw_I σ2 → gz_R 11 yL_law cL_law 4 (some .boolean) mc ms 936 [some (.ref 10), some (.ref 11), some (.ref 57), some (.int (nI j))] [] (gz_mk L σ2) Q) : gz_R 11 yL_law cL_law 4 (some .boolean) mc ms 297 [some (.ref 10), some (.ref 11), some (.ref 57), some (.int (nI j))] [] (gz_mk L σ) Q := by
  refine zr_aload_n dL_law_297 rfl ?_
  refine zr_aload_n dL_law_298 rfl ?_
  refine zr_iload_n dL_law_299 rfl ?_
  refine zr_iconst (v := 1) dL_law_300 kc_iconst_1 ?_
  refine zr_iadd dL_law_301 ?_
  refine zl_scr (q := 1) (x := σ 10 (j + 1)) dL_law_302 rfl hL (by omega) rfl ?_
  refine zt_cVi (As := [.int (σ 10 (j + 1))]) (gz_Gi.keep (cx_count L σ S hw hX (σ 10 (j + 1))) ap_P.keep) zc_L_37 rfl dL_law_303 rfl rfl rfl rfl rfl rfl (fun v1 σ1 h1 => ?_)
  refine zr_aload_n dL_law_306 rfl ?_
  refine zr_aload_n dL_law_307 rfl ?_
  refine zr_iload_n dL_law_308 rfl ?_
  refine zr_iconst (v := 1) dL_law_309 kc_iconst_1 ?_
  refine zr_iadd dL_law_310 ?_
  refine zl_scr (q := 1) (x := σ 10 (j + 1)) dL_law_311 rfl hL (by omega) (by rw [h1.2]) ?_
  refine zt_cVi (As := [.int (σ 10 (j + 1))]) (ax_count L σ1 S hw (hM.fr h1.1.2.2) (σ 10 (j + 1))) zc_L_40 rfl dL_law_312 rfl rfl rfl rfl rfl rfl (fun v2 σ2 h2 => ?_)
  exact zr_icmp_eq 936 dL_law_315 (by decide) (fun _ => kk σ2 ⟨_, fw_count S hw (σ 10 (j + 1)), h1.1.2.1.fr (fun k _ q => h2.2.2 k q), h2.2.1⟩) (fun q => absurd (h1.1.1.trans h2.1.symm) q)
theorem lw_c_line {L j mc ms : Nat} {σ : gz_Mm} {S : ap_S} {Q : Option Value → gz_AH → Prop} (hL : L ≤ 2560) (hj : j + 5 ≤ L) (hw : ap_wf S) (hX : ap_X σ S) (hM : am_X σ S) (kk : ∀ σ2, lw_I σ2 → gz_R 11 yL_law cL_law 4 (some .boolean) mc ms 936 [some (.ref 10), some (.ref 11), some (.ref 57), some (.int (nI j))] [] (gz_mk L σ2) Q) : gz_R 11 yL_law cL_law 4 (some .boolean) mc ms 320 [some (.ref 10), some (.ref 11), some (.ref 57), some (.int (nI j))] [] (gz_mk L σ) Q := by
  refine zr_aload_n dL_law_320 rfl ?_
  refine zr_aload_n dL_law_321 rfl ?_
  refine zr_iload_n dL_law_322 rfl ?_
  refine zr_iconst (v := 1) dL_law_323 kc_iconst_1 ?_
  refine zr_iadd dL_law_324 ?_
  refine zl_scr (q := 1) (x := σ 10 (j + 1)) dL_law_325 rfl hL (by omega) rfl ?_
  refine zr_aload_n dL_law_326 rfl ?_
  refine zr_iload_n dL_law_327 rfl ?_
  refine zr_iconst (v := 2) dL_law_328 kc_iconst_2 ?_
  refine zr_iadd dL_law_329 ?_
  refine zl_scr (q := 2) (x := σ 10 (j + 2)) dL_law_330 rfl hL (by omega) rfl ?_
  refine zt_cVi (As := [.int (σ 10 (j + 1)), .int (σ 10 (j + 2))]) (gz_Gi.keep (cx_line L σ S hw hX (σ 10 (j + 1)) (σ 10 (j + 2))) ap_P.keep) zc_L_41 rfl dL_law_331 rfl rfl rfl rfl rfl rfl (fun v1 σ1 h1 => ?_)
  refine zr_aload_n dL_law_334 rfl ?_
  refine zr_aload_n dL_law_335 rfl ?_
  refine zr_iload_n dL_law_336 rfl ?_
  refine zr_iconst (v := 1) dL_law_337 kc_iconst_1 ?_
  refine zr_iadd dL_law_338 ?_
  refine zl_scr (q := 1) (x := σ 10 (j + 1)) dL_law_339 rfl hL (by omega) (by rw [h1.2]) ?_
  refine zr_aload_n dL_law_340 rfl ?_
  refine zr_iload_n dL_law_341 rfl ?_
  refine zr_iconst (v := 2) dL_law_342 kc_iconst_2 ?_
  refine zr_iadd dL_law_343 ?_
  refine zl_scr (q := 2) (x := σ 10 (j + 2)) dL_law_344 rfl hL (by omega) (by rw [h1.2]) ?_
  refine zt_cVi (As := [.int (σ 10 (j + 1)), .int (σ 10 (j + 2))]) (ax_line L σ1 S hw (hM.fr h1.1.2.2) (σ 10 (j + 1)) (σ 10 (j + 2))) zc_L_44 rfl dL_law_345 rfl rfl rfl rfl rfl rfl (fun v2 σ2 h2 => ?_)
  exact zr_icmp_eq 936 dL_law_348 (by decide) (fun _ => kk σ2 ⟨_, fw_line S hw (σ 10 (j + 1)) (σ 10 (j + 2)), h1.1.2.1.fr (fun k _ q => h2.2.2 k q), h2.2.1⟩) (fun q => absurd (h1.1.1.trans h2.1.symm) q)
theorem lw_c_set {L j mc ms : Nat} {σ : gz_Mm} {S : ap_S} {Q : Option Value → gz_AH → Prop} (hL : L ≤ 2560) (hj : j + 5 ≤ L) (hw : ap_wf S) (hX : ap_X σ S) (hM : am_X σ S) (kk : ∀ σ2, lw_I σ2 → gz_R 11 yL_law cL_law 4 (some .boolean) mc ms 936 [some (.ref 10), some (.ref 11), some (.ref 57), some (.int (nI j))] [] (gz_mk L σ2) Q) : gz_R 11 yL_law cL_law 4 (some .boolean) mc ms 353 [some (.ref 10), some (.ref 11), some (.ref 57), some (.int (nI j))] [] (gz_mk L σ) Q := by
  refine zr_aload_n dL_law_353 rfl ?_
  refine zr_aload_n dL_law_354 rfl ?_
  refine zr_iload_n dL_law_355 rfl ?_
  refine zr_iconst (v := 1) dL_law_356 kc_iconst_1 ?_
  refine zr_iadd dL_law_357 ?_
  refine zl_scr (q := 1) (x := σ 10 (j + 1)) dL_law_358 rfl hL (by omega) rfl ?_
  refine zr_aload_n dL_law_359 rfl ?_
  refine zr_iload_n dL_law_360 rfl ?_
  refine zr_iconst (v := 2) dL_law_361 kc_iconst_2 ?_
  refine zr_iadd dL_law_362 ?_
  refine zl_scr (q := 2) (x := σ 10 (j + 2)) dL_law_363 rfl hL (by omega) rfl ?_
  refine zt_cVi (As := [.int (σ 10 (j + 1)), .int (σ 10 (j + 2))]) (gz_Gi.keep (cx_set L σ S hw hX (σ 10 (j + 1)) (σ 10 (j + 2))) ap_P.keep) zc_L_45 rfl dL_law_364 rfl rfl rfl rfl rfl rfl (fun v1 σ1 h1 => ?_)
  refine zr_aload_n dL_law_367 rfl ?_
  refine zr_aload_n dL_law_368 rfl ?_
  refine zr_iload_n dL_law_369 rfl ?_
  refine zr_iconst (v := 1) dL_law_370 kc_iconst_1 ?_
  refine zr_iadd dL_law_371 ?_
  refine zl_scr (q := 1) (x := σ 10 (j + 1)) dL_law_372 rfl hL (by omega) (by rw [h1.2]) ?_
  refine zr_aload_n dL_law_373 rfl ?_
  refine zr_iload_n dL_law_374 rfl ?_
  refine zr_iconst (v := 2) dL_law_375 kc_iconst_2 ?_
  refine zr_iadd dL_law_376 ?_
  refine zl_scr (q := 2) (x := σ 10 (j + 2)) dL_law_377 rfl hL (by omega) (by rw [h1.2]) ?_
  refine zt_cVi (As := [.int (σ 10 (j + 1)), .int (σ 10 (j + 2))]) (ax_set L σ1 S hw (hM.fr h1.1.2.2) (σ 10 (j + 1)) (σ 10 (j + 2))) zc_L_48 rfl dL_law_378 rfl rfl rfl rfl rfl rfl (fun v2 σ2 h2 => ?_)
  exact zr_icmp_eq 936 dL_law_381 (by decide) (fun _ => kk σ2 ⟨_, fw_set S hw (σ 10 (j + 1)) (σ 10 (j + 2)), h1.1.2.1.fr (fun k _ q => h2.2.2 k q), h2.2.1⟩) (fun q => absurd (h1.1.1.trans h2.1.symm) q)
theorem lw_c_hold {L j mc ms : Nat} {σ : gz_Mm} {S : ap_S} {Q : Option Value → gz_AH → Prop} (hL : L ≤ 2560) (hj : j + 5 ≤ L) (hw : ap_wf S) (hX : ap_X σ S) (hM : am_X σ S) (kk : ∀ σ2, lw_I σ2 → gz_R 11 yL_law cL_law 4 (some .boolean) mc ms 936 [some (.ref 10), some (.ref 11), some (.ref 57), some (.int (nI j))] [] (gz_mk L σ2) Q) : gz_R 11 yL_law cL_law 4 (some .boolean) mc ms 386 [some (.ref 10), some (.ref 11), some (.ref 57), some (.int (nI j))] [] (gz_mk L σ) Q := by
  refine zr_aload_n dL_law_386 rfl ?_
  refine zr_aload_n dL_law_387 rfl ?_
  refine zr_iload_n dL_law_388 rfl ?_
  refine zr_iconst (v := 1) dL_law_389 kc_iconst_1 ?_
  refine zr_iadd dL_law_390 ?_
  refine zl_scr (q := 1) (x := σ 10 (j + 1)) dL_law_391 rfl hL (by omega) rfl ?_
  refine zr_aload_n dL_law_392 rfl ?_
  refine zr_iload_n dL_law_393 rfl ?_
  refine zr_iconst (v := 2) dL_law_394 kc_iconst_2 ?_
  refine zr_iadd dL_law_395 ?_
  refine zl_scr (q := 2) (x := σ 10 (j + 2)) dL_law_396 rfl hL (by omega) rfl ?_
  refine zt_cVi (As := [.int (σ 10 (j + 1)), .int (σ 10 (j + 2))]) (gz_Gi.keep (cx_hold L σ S hw hX (σ 10 (j + 1)) (σ 10 (j + 2))) ap_P.keep) zc_L_49 rfl dL_law_397 rfl rfl rfl rfl rfl rfl (fun v1 σ1 h1 => ?_)
  refine zr_aload_n dL_law_400 rfl ?_
  refine zr_aload_n dL_law_401 rfl ?_
  refine zr_iload_n dL_law_402 rfl ?_
  refine zr_iconst (v := 1) dL_law_403 kc_iconst_1 ?_
  refine zr_iadd dL_law_404 ?_
  refine zl_scr (q := 1) (x := σ 10 (j + 1)) dL_law_405 rfl hL (by omega) (by rw [h1.2]) ?_
  refine zr_aload_n dL_law_406 rfl ?_
  refine zr_iload_n dL_law_407 rfl ?_
  refine zr_iconst (v := 2) dL_law_408 kc_iconst_2 ?_
  refine zr_iadd dL_law_409 ?_
  refine zl_scr (q := 2) (x := σ 10 (j + 2)) dL_law_410 rfl hL (by omega) (by rw [h1.2]) ?_
  refine zt_cVi (As := [.int (σ 10 (j + 1)), .int (σ 10 (j + 2))]) (ax_hold L σ1 S hw (hM.fr h1.1.2.2) (σ 10 (j + 1)) (σ 10 (j + 2))) zc_L_52 rfl dL_law_411 rfl rfl rfl rfl rfl rfl (fun v2 σ2 h2 => ?_)
  exact zr_icmp_eq 936 dL_law_414 (by decide) (fun _ => kk σ2 ⟨_, fw_hold S hw (σ 10 (j + 1)) (σ 10 (j + 2)), h1.1.2.1.fr (fun k _ q => h2.2.2 k q), h2.2.1⟩) (fun q => absurd (h1.1.1.trans h2.1.symm) q)
theorem lw_c_clock {L j mc ms : Nat} {σ : gz_Mm} {S : ap_S} {Q : Option Value → gz_AH → Prop} (hL : L ≤ 2560) (hj : j + 5 ≤ L) (hw : ap_wf S) (hX : ap_X σ S) (hM : am_X σ S) (kk : ∀ σ2, lw_I σ2 → gz_R 11 yL_law cL_law 4 (some .boolean) mc ms 936 [some (.ref 10), some (.ref 11), some (.ref 57), some (.int (nI j))] [] (gz_mk L σ2) Q) : gz_R 11 yL_law cL_law 4 (some .boolean) mc ms 419 [some (.ref 10), some (.ref 11), some (.ref 57), some (.int (nI j))] [] (gz_mk L σ) Q := by
  refine zr_aload_n dL_law_419 rfl ?_
  refine zr_aload_n dL_law_420 rfl ?_
  refine zr_iload_n dL_law_421 rfl ?_
  refine zr_iconst (v := 1) dL_law_422 kc_iconst_1 ?_
  refine zr_iadd dL_law_423 ?_
  refine zl_scr (q := 1) (x := σ 10 (j + 1)) dL_law_424 rfl hL (by omega) rfl ?_
  refine zt_cVi (As := [.int (σ 10 (j + 1))]) (gz_Gi.keep (cx_clock L σ S hw hX (σ 10 (j + 1))) ap_P.keep) zc_L_53 rfl dL_law_425 rfl rfl rfl rfl rfl rfl (fun v1 σ1 h1 => ?_)
  refine zr_aload_n dL_law_428 rfl ?_
  refine zr_aload_n dL_law_429 rfl ?_
  refine zr_iload_n dL_law_430 rfl ?_
  refine zr_iconst (v := 1) dL_law_431 kc_iconst_1 ?_
  refine zr_iadd dL_law_432 ?_
  refine zl_scr (q := 1) (x := σ 10 (j + 1)) dL_law_433 rfl hL (by omega) (by rw [h1.2]) ?_
  refine zt_cVi (As := [.int (σ 10 (j + 1))]) (ax_clock L σ1 S hw (hM.fr h1.1.2.2) (σ 10 (j + 1))) zc_L_56 rfl dL_law_434 rfl rfl rfl rfl rfl rfl (fun v2 σ2 h2 => ?_)
  exact zr_icmp_eq 936 dL_law_437 (by decide) (fun _ => kk σ2 ⟨_, fw_clock S hw (σ 10 (j + 1)), h1.1.2.1.fr (fun k _ q => h2.2.2 k q), h2.2.1⟩) (fun q => absurd (h1.1.1.trans h2.1.symm) q)
theorem lw_c_stick {L j mc ms : Nat} {σ : gz_Mm} {S : ap_S} {Q : Option Value → gz_AH → Prop} (hL : L ≤ 2560) (hj : j + 5 ≤ L) (hw : ap_wf S) (hX : ap_X σ S) (hM : am_X σ S) (kk : ∀ σ2, lw_I σ2 → gz_R 11 yL_law cL_law 4 (some .boolean) mc ms 936 [some (.ref 10), some (.ref 11), some (.ref 57), some (.int (nI j))] [] (gz_mk L σ2) Q) : gz_R 11 yL_law cL_law 4 (some .boolean) mc ms 442 [some (.ref 10), some (.ref 11), some (.ref 57), some (.int (nI j))] [] (gz_mk L σ) Q := by
  refine zr_aload_n dL_law_442 rfl ?_
  refine zr_aload_n dL_law_443 rfl ?_
  refine zr_iload_n dL_law_444 rfl ?_
  refine zr_iconst (v := 1) dL_law_445 kc_iconst_1 ?_
  refine zr_iadd dL_law_446 ?_
  refine zl_scr (q := 1) (x := σ 10 (j + 1)) dL_law_447 rfl hL (by omega) rfl ?_
  refine zr_aload_n dL_law_448 rfl ?_
  refine zr_iload_n dL_law_449 rfl ?_
  refine zr_iconst (v := 2) dL_law_450 kc_iconst_2 ?_
  refine zr_iadd dL_law_451 ?_
  refine zl_scr (q := 2) (x := σ 10 (j + 2)) dL_law_452 rfl hL (by omega) rfl ?_
  refine zt_cVi (As := [.int (σ 10 (j + 1)), .int (σ 10 (j + 2))]) (gz_Gi.keep (cx_stick L σ S hw hX (σ 10 (j + 1)) (σ 10 (j + 2))) ap_P.keep) zc_L_57 rfl dL_law_453 rfl rfl rfl rfl rfl rfl (fun v1 σ1 h1 => ?_)
  refine zr_aload_n dL_law_456 rfl ?_
  refine zr_aload_n dL_law_457 rfl ?_
  refine zr_iload_n dL_law_458 rfl ?_
  refine zr_iconst (v := 1) dL_law_459 kc_iconst_1 ?_
  refine zr_iadd dL_law_460 ?_
  refine zl_scr (q := 1) (x := σ 10 (j + 1)) dL_law_461 rfl hL (by omega) (by rw [h1.2]) ?_
  refine zr_aload_n dL_law_462 rfl ?_
  refine zr_iload_n dL_law_463 rfl ?_
  refine zr_iconst (v := 2) dL_law_464 kc_iconst_2 ?_
  refine zr_iadd dL_law_465 ?_
  refine zl_scr (q := 2) (x := σ 10 (j + 2)) dL_law_466 rfl hL (by omega) (by rw [h1.2]) ?_
  refine zt_cVi (As := [.int (σ 10 (j + 1)), .int (σ 10 (j + 2))]) (ax_stick L σ1 S hw (hM.fr h1.1.2.2) (σ 10 (j + 1)) (σ 10 (j + 2))) zc_L_60 rfl dL_law_467 rfl rfl rfl rfl rfl rfl (fun v2 σ2 h2 => ?_)
  exact zr_icmp_eq 936 dL_law_470 (by decide) (fun _ => kk σ2 ⟨_, fw_stick S hw (σ 10 (j + 1)) (σ 10 (j + 2)), h1.1.2.1.fr (fun k _ q => h2.2.2 k q), h2.2.1⟩) (fun q => absurd (h1.1.1.trans h2.1.symm) q)
theorem lw_c_chain {L j mc ms : Nat} {σ : gz_Mm} {S : ap_S} {Q : Option Value → gz_AH → Prop} (hL : L ≤ 2560) (hj : j + 5 ≤ L) (hw : ap_wf S) (hX : ap_X σ S) (hM : am_X σ S) (kk : ∀ σ2, lw_I σ2 → gz_R 11 yL_law cL_law 4 (some .boolean) mc ms 936 [some (.ref 10), some (.ref 11), some (.ref 57), some (.int (nI j))] [] (gz_mk L σ2) Q) : gz_R 11 yL_law cL_law 4 (some .boolean) mc ms 475 [some (.ref 10), some (.ref 11), some (.ref 57), some (.int (nI j))] [] (gz_mk L σ) Q := by
  by_cases hz : σ 10 (j + 4) = 0
  · refine zr_aload_n dL_law_475 rfl ?_
    refine zr_aload_n dL_law_476 rfl ?_
    refine zr_iload_n dL_law_477 rfl ?_
    refine zr_iconst (v := 1) dL_law_478 kc_iconst_1 ?_
    refine zr_iadd dL_law_479 ?_
    refine zl_scr (q := 1) (x := σ 10 (j + 1)) dL_law_480 rfl hL (by omega) rfl ?_
    refine zr_aload_n dL_law_481 rfl ?_
    refine zr_iload_n dL_law_482 rfl ?_
    refine zr_iconst (v := 2) dL_law_483 kc_iconst_2 ?_
    refine zr_iadd dL_law_484 ?_
    refine zl_scr (q := 2) (x := σ 10 (j + 2)) dL_law_485 rfl hL (by omega) rfl ?_
    refine zr_aload_n dL_law_486 rfl ?_
    refine zr_iload_n dL_law_487 rfl ?_
    refine zr_iconst (v := 3) dL_law_488 kc_iconst_3 ?_
    refine zr_iadd dL_law_489 ?_
    refine zl_scr (q := 3) (x := σ 10 (j + 3)) dL_law_490 rfl hL (by omega) rfl ?_
    refine zr_aload_n dL_law_491 rfl ?_
    refine zr_iload_n dL_law_492 rfl ?_
    refine zr_iconst (v := 4) dL_law_493 kc_iconst_4 ?_
    refine zr_iadd dL_law_494 ?_
    refine zl_scr (q := 4) (x := σ 10 (j + 4)) dL_law_495 rfl hL (by omega) rfl ?_
    refine zr_if_eq 503 dL_law_496 (by decide) (fun _ => ?_) (fun q => absurd hz q)
    refine zr_iconst (v := 0) dL_law_503 kc_iconst_0 ?_
    refine zt_cVi (As := [.int (σ 10 (j + 1)), .int (σ 10 (j + 2)), .int (σ 10 (j + 3)), .int (nI 0)]) (gz_Gi.keep (cx_chain L σ S hw hX (σ 10 (j + 1)) (σ 10 (j + 2)) (σ 10 (j + 3)) 0 (by decide)) ap_P.keep) zc_L_61 rfl dL_law_504 rfl rfl rfl rfl rfl rfl (fun v1 σ1 h1 => ?_)
    refine zr_aload_n dL_law_507 rfl ?_
    refine zr_aload_n dL_law_508 rfl ?_
    refine zr_iload_n dL_law_509 rfl ?_
    refine zr_iconst (v := 1) dL_law_510 kc_iconst_1 ?_
    refine zr_iadd dL_law_511 ?_
    refine zl_scr (q := 1) (x := σ 10 (j + 1)) dL_law_512 rfl hL (by omega) (by rw [h1.2]) ?_
    refine zr_aload_n dL_law_513 rfl ?_
    refine zr_iload_n dL_law_514 rfl ?_
    refine zr_iconst (v := 2) dL_law_515 kc_iconst_2 ?_
    refine zr_iadd dL_law_516 ?_
    refine zl_scr (q := 2) (x := σ 10 (j + 2)) dL_law_517 rfl hL (by omega) (by rw [h1.2]) ?_
    refine zr_aload_n dL_law_518 rfl ?_
    refine zr_iload_n dL_law_519 rfl ?_
    refine zr_iconst (v := 3) dL_law_520 kc_iconst_3 ?_
    refine zr_iadd dL_law_521 ?_
    refine zl_scr (q := 3) (x := σ 10 (j + 3)) dL_law_522 rfl hL (by omega) (by rw [h1.2]) ?_
    refine zr_aload_n dL_law_523 rfl ?_
    refine zr_iload_n dL_law_524 rfl ?_
    refine zr_iconst (v := 4) dL_law_525 kc_iconst_4 ?_
    refine zr_iadd dL_law_526 ?_
    refine zl_scr (q := 4) (x := σ 10 (j + 4)) dL_law_527 rfl hL (by omega) (by rw [h1.2]) ?_
    refine zr_if_eq 535 dL_law_528 (by decide) (fun _ => ?_) (fun q => absurd hz q)
    refine zr_iconst (v := 0) dL_law_535 kc_iconst_0 ?_
    refine zt_cVi (As := [.int (σ 10 (j + 1)), .int (σ 10 (j + 2)), .int (σ 10 (j + 3)), .int (nI 0)]) (ax_chain L σ1 S hw (hM.fr h1.1.2.2) (σ 10 (j + 1)) (σ 10 (j + 2)) (σ 10 (j + 3)) 0 (by decide)) zc_L_65 rfl dL_law_536 rfl rfl rfl rfl rfl rfl (fun v2 σ2 h2 => ?_)
    exact zr_icmp_eq 936 dL_law_539 (by decide) (fun _ => kk σ2 ⟨_, fw_chain S hw (σ 10 (j + 1)) (σ 10 (j + 2)) (σ 10 (j + 3)) 0 (by decide), h1.1.2.1.fr (fun k _ q => h2.2.2 k q), h2.2.1⟩) (fun q => absurd (h1.1.1.trans h2.1.symm) q)
  · refine zr_aload_n dL_law_475 rfl ?_
    refine zr_aload_n dL_law_476 rfl ?_
    refine zr_iload_n dL_law_477 rfl ?_
    refine zr_iconst (v := 1) dL_law_478 kc_iconst_1 ?_
    refine zr_iadd dL_law_479 ?_
    refine zl_scr (q := 1) (x := σ 10 (j + 1)) dL_law_480 rfl hL (by omega) rfl ?_
    refine zr_aload_n dL_law_481 rfl ?_
    refine zr_iload_n dL_law_482 rfl ?_
    refine zr_iconst (v := 2) dL_law_483 kc_iconst_2 ?_
    refine zr_iadd dL_law_484 ?_
    refine zl_scr (q := 2) (x := σ 10 (j + 2)) dL_law_485 rfl hL (by omega) rfl ?_
    refine zr_aload_n dL_law_486 rfl ?_
    refine zr_iload_n dL_law_487 rfl ?_
    refine zr_iconst (v := 3) dL_law_488 kc_iconst_3 ?_
    refine zr_iadd dL_law_489 ?_
    refine zl_scr (q := 3) (x := σ 10 (j + 3)) dL_law_490 rfl hL (by omega) rfl ?_
    refine zr_aload_n dL_law_491 rfl ?_
    refine zr_iload_n dL_law_492 rfl ?_
    refine zr_iconst (v := 4) dL_law_493 kc_iconst_4 ?_
    refine zr_iadd dL_law_494 ?_
    refine zl_scr (q := 4) (x := σ 10 (j + 4)) dL_law_495 rfl hL (by omega) rfl ?_
    refine zr_if_eq 503 dL_law_496 (by decide) (fun q => absurd q hz) (fun _ => ?_)
    refine zr_iconst (v := 1) dL_law_499 kc_iconst_1 ?_
    refine zr_goto 504 dL_law_500 (by decide) ?_
    refine zt_cVi (As := [.int (σ 10 (j + 1)), .int (σ 10 (j + 2)), .int (σ 10 (j + 3)), .int (nI 1)]) (gz_Gi.keep (cx_chain L σ S hw hX (σ 10 (j + 1)) (σ 10 (j + 2)) (σ 10 (j + 3)) 1 (by decide)) ap_P.keep) zc_L_61 rfl dL_law_504 rfl rfl rfl rfl rfl rfl (fun v1 σ1 h1 => ?_)
    refine zr_aload_n dL_law_507 rfl ?_
    refine zr_aload_n dL_law_508 rfl ?_
    refine zr_iload_n dL_law_509 rfl ?_
    refine zr_iconst (v := 1) dL_law_510 kc_iconst_1 ?_
    refine zr_iadd dL_law_511 ?_
    refine zl_scr (q := 1) (x := σ 10 (j + 1)) dL_law_512 rfl hL (by omega) (by rw [h1.2]) ?_
    refine zr_aload_n dL_law_513 rfl ?_
    refine zr_iload_n dL_law_514 rfl ?_
    refine zr_iconst (v := 2) dL_law_515 kc_iconst_2 ?_
    refine zr_iadd dL_law_516 ?_
    refine zl_scr (q := 2) (x := σ 10 (j + 2)) dL_law_517 rfl hL (by omega) (by rw [h1.2]) ?_
    refine zr_aload_n dL_law_518 rfl ?_
    refine zr_iload_n dL_law_519 rfl ?_
    refine zr_iconst (v := 3) dL_law_520 kc_iconst_3 ?_
    refine zr_iadd dL_law_521 ?_
    refine zl_scr (q := 3) (x := σ 10 (j + 3)) dL_law_522 rfl hL (by omega) (by rw [h1.2]) ?_
    refine zr_aload_n dL_law_523 rfl ?_
    refine zr_iload_n dL_law_524 rfl ?_
    refine zr_iconst (v := 4) dL_law_525 kc_iconst_4 ?_
    refine zr_iadd dL_law_526 ?_
    refine zl_scr (q := 4) (x := σ 10 (j + 4)) dL_law_527 rfl hL (by omega) (by rw [h1.2]) ?_
    refine zr_if_eq 535 dL_law_528 (by decide) (fun q => absurd q hz) (fun _ => ?_)
    refine zr_iconst (v := 1) dL_law_531 kc_iconst_1 ?_
    refine zr_goto 536 dL_law_532 (by decide) ?_
    refine zt_cVi (As := [.int (σ 10 (j + 1)), .int (σ 10 (j + 2)), .int (σ 10 (j + 3)), .int (nI 1)]) (ax_chain L σ1 S hw (hM.fr h1.1.2.2) (σ 10 (j + 1)) (σ 10 (j + 2)) (σ 10 (j + 3)) 1 (by decide)) zc_L_65 rfl dL_law_536 rfl rfl rfl rfl rfl rfl (fun v2 σ2 h2 => ?_)
    exact zr_icmp_eq 936 dL_law_539 (by decide) (fun _ => kk σ2 ⟨_, fw_chain S hw (σ 10 (j + 1)) (σ 10 (j + 2)) (σ 10 (j + 3)) 1 (by decide), h1.1.2.1.fr (fun k _ q => h2.2.2 k q), h2.2.1⟩) (fun q => absurd (h1.1.1.trans h2.1.symm) q)
theorem lw_c_unchain {L j mc ms : Nat} {σ : gz_Mm} {S : ap_S} {Q : Option Value → gz_AH → Prop} (hL : L ≤ 2560) (hj : j + 5 ≤ L) (hw : ap_wf S) (hX : ap_X σ S) (hM : am_X σ S) (kk : ∀ σ2, lw_I σ2 → gz_R 11 yL_law cL_law 4 (some .boolean) mc ms 936 [some (.ref 10), some (.ref 11), some (.ref 57), some (.int (nI j))] [] (gz_mk L σ2) Q) : gz_R 11 yL_law cL_law 4 (some .boolean) mc ms 544 [some (.ref 10), some (.ref 11), some (.ref 57), some (.int (nI j))] [] (gz_mk L σ) Q := by
  refine zr_aload_n dL_law_544 rfl ?_
  refine zr_aload_n dL_law_545 rfl ?_
  refine zr_iload_n dL_law_546 rfl ?_
  refine zr_iconst (v := 1) dL_law_547 kc_iconst_1 ?_
  refine zr_iadd dL_law_548 ?_
  refine zl_scr (q := 1) (x := σ 10 (j + 1)) dL_law_549 rfl hL (by omega) rfl ?_
  refine zt_cVi (As := [.int (σ 10 (j + 1))]) (gz_Gi.keep (cx_unchain L σ S hw hX (σ 10 (j + 1))) ap_P.keep) zc_L_66 rfl dL_law_550 rfl rfl rfl rfl rfl rfl (fun v1 σ1 h1 => ?_)
  refine zr_aload_n dL_law_553 rfl ?_
  refine zr_aload_n dL_law_554 rfl ?_
  refine zr_iload_n dL_law_555 rfl ?_
  refine zr_iconst (v := 1) dL_law_556 kc_iconst_1 ?_
  refine zr_iadd dL_law_557 ?_
  refine zl_scr (q := 1) (x := σ 10 (j + 1)) dL_law_558 rfl hL (by omega) (by rw [h1.2]) ?_
  refine zt_cVi (As := [.int (σ 10 (j + 1))]) (ax_unchain L σ1 S hw (hM.fr h1.1.2.2) (σ 10 (j + 1))) zc_L_69 rfl dL_law_559 rfl rfl rfl rfl rfl rfl (fun v2 σ2 h2 => ?_)
  exact zr_icmp_eq 936 dL_law_562 (by decide) (fun _ => kk σ2 ⟨_, fw_unchain S hw (σ 10 (j + 1)), h1.1.2.1.fr (fun k _ q => h2.2.2 k q), h2.2.1⟩) (fun q => absurd (h1.1.1.trans h2.1.symm) q)
theorem lw_c_link {L j mc ms : Nat} {σ : gz_Mm} {S : ap_S} {Q : Option Value → gz_AH → Prop} (hL : L ≤ 2560) (hj : j + 5 ≤ L) (hw : ap_wf S) (hX : ap_X σ S) (hM : am_X σ S) (kk : ∀ σ2, lw_I σ2 → gz_R 11 yL_law cL_law 4 (some .boolean) mc ms 936 [some (.ref 10), some (.ref 11), some (.ref 57), some (.int (nI j))] [] (gz_mk L σ2) Q) : gz_R 11 yL_law cL_law 4 (some .boolean) mc ms 567 [some (.ref 10), some (.ref 11), some (.ref 57), some (.int (nI j))] [] (gz_mk L σ) Q := by
  refine zr_aload_n dL_law_567 rfl ?_
  refine zr_aload_n dL_law_568 rfl ?_
  refine zr_iload_n dL_law_569 rfl ?_
  refine zr_iconst (v := 1) dL_law_570 kc_iconst_1 ?_
  refine zr_iadd dL_law_571 ?_
  refine zl_scr (q := 1) (x := σ 10 (j + 1)) dL_law_572 rfl hL (by omega) rfl ?_
  refine zr_aload_n dL_law_573 rfl ?_
  refine zr_iload_n dL_law_574 rfl ?_
  refine zr_iconst (v := 2) dL_law_575 kc_iconst_2 ?_
  refine zr_iadd dL_law_576 ?_
  refine zl_scr (q := 2) (x := σ 10 (j + 2)) dL_law_577 rfl hL (by omega) rfl ?_
  refine zt_cVi (As := [.int (σ 10 (j + 1)), .int (σ 10 (j + 2))]) (gz_Gi.keep (cx_link L σ S hw hX (σ 10 (j + 1)) (σ 10 (j + 2))) ap_P.keep) zc_L_70 rfl dL_law_578 rfl rfl rfl rfl rfl rfl (fun v1 σ1 h1 => ?_)
  refine zr_aload_n dL_law_581 rfl ?_
  refine zr_aload_n dL_law_582 rfl ?_
  refine zr_iload_n dL_law_583 rfl ?_
  refine zr_iconst (v := 1) dL_law_584 kc_iconst_1 ?_
  refine zr_iadd dL_law_585 ?_
  refine zl_scr (q := 1) (x := σ 10 (j + 1)) dL_law_586 rfl hL (by omega) (by rw [h1.2]) ?_
  refine zr_aload_n dL_law_587 rfl ?_
  refine zr_iload_n dL_law_588 rfl ?_
  refine zr_iconst (v := 2) dL_law_589 kc_iconst_2 ?_
  refine zr_iadd dL_law_590 ?_
  refine zl_scr (q := 2) (x := σ 10 (j + 2)) dL_law_591 rfl hL (by omega) (by rw [h1.2]) ?_
  refine zt_cVi (As := [.int (σ 10 (j + 1)), .int (σ 10 (j + 2))]) (ax_link L σ1 S hw (hM.fr h1.1.2.2) (σ 10 (j + 1)) (σ 10 (j + 2))) zc_L_73 rfl dL_law_592 rfl rfl rfl rfl rfl rfl (fun v2 σ2 h2 => ?_)
  exact zr_icmp_eq 936 dL_law_595 (by decide) (fun _ => kk σ2 ⟨_, fw_link S hw (σ 10 (j + 1)) (σ 10 (j + 2)), h1.1.2.1.fr (fun k _ q => h2.2.2 k q), h2.2.1⟩) (fun q => absurd (h1.1.1.trans h2.1.symm) q)
theorem lw_c_stitch {L j mc ms : Nat} {σ : gz_Mm} {S : ap_S} {Q : Option Value → gz_AH → Prop} (hL : L ≤ 2560) (hj : j + 5 ≤ L) (hw : ap_wf S) (hX : ap_X σ S) (hM : am_X σ S) (kk : ∀ σ2, lw_I σ2 → gz_R 11 yL_law cL_law 4 (some .boolean) mc ms 936 [some (.ref 10), some (.ref 11), some (.ref 57), some (.int (nI j))] [] (gz_mk L σ2) Q) : gz_R 11 yL_law cL_law 4 (some .boolean) mc ms 600 [some (.ref 10), some (.ref 11), some (.ref 57), some (.int (nI j))] [] (gz_mk L σ) Q := by
  refine zr_aload_n dL_law_600 rfl ?_
  refine zt_cVi (As := []) (gz_Gi.keep (cx_stitch L σ S hw hX ) ap_P.keep) zc_L_74 rfl dL_law_601 rfl rfl rfl rfl rfl rfl (fun v1 σ1 h1 => ?_)
  refine zr_aload_n dL_law_604 rfl ?_
  refine zt_cVi (As := []) (ax_stitch L σ1 S hw (hM.fr h1.1.2.2) ) zc_L_77 rfl dL_law_605 rfl rfl rfl rfl rfl rfl (fun v2 σ2 h2 => ?_)
  exact zr_icmp_eq 936 dL_law_608 (by decide) (fun _ => kk σ2 ⟨_, fw_stitch S hw , h1.1.2.1.fr (fun k _ q => h2.2.2 k q), h2.2.1⟩) (fun q => absurd (h1.1.1.trans h2.1.symm) q)
theorem lw_c_shift {L j mc ms : Nat} {σ : gz_Mm} {S : ap_S} {Q : Option Value → gz_AH → Prop} (hL : L ≤ 2560) (hj : j + 5 ≤ L) (hw : ap_wf S) (hX : ap_X σ S) (hM : am_X σ S) (kk : ∀ σ2, lw_I σ2 → gz_R 11 yL_law cL_law 4 (some .boolean) mc ms 936 [some (.ref 10), some (.ref 11), some (.ref 57), some (.int (nI j))] [] (gz_mk L σ2) Q) : gz_R 11 yL_law cL_law 4 (some .boolean) mc ms 613 [some (.ref 10), some (.ref 11), some (.ref 57), some (.int (nI j))] [] (gz_mk L σ) Q := by
  refine zr_aload_n dL_law_613 rfl ?_
  refine zr_aload_n dL_law_614 rfl ?_
  refine zr_iload_n dL_law_615 rfl ?_
  refine zr_iconst (v := 1) dL_law_616 kc_iconst_1 ?_
  refine zr_iadd dL_law_617 ?_
  refine zl_scr (q := 1) (x := σ 10 (j + 1)) dL_law_618 rfl hL (by omega) rfl ?_
  refine zr_aload_n dL_law_619 rfl ?_
  refine zr_iload_n dL_law_620 rfl ?_
  refine zr_iconst (v := 2) dL_law_621 kc_iconst_2 ?_
  refine zr_iadd dL_law_622 ?_
  refine zl_scr (q := 2) (x := σ 10 (j + 2)) dL_law_623 rfl hL (by omega) rfl ?_
  refine zt_cVi (As := [.int (σ 10 (j + 1)), .int (σ 10 (j + 2))]) (gz_Gi.keep (cx_shift L σ S hw hX (σ 10 (j + 1)) (σ 10 (j + 2))) ap_P.keep) zc_L_78 rfl dL_law_624 rfl rfl rfl rfl rfl rfl (fun v1 σ1 h1 => ?_)
  refine zr_aload_n dL_law_627 rfl ?_
  refine zr_aload_n dL_law_628 rfl ?_
  refine zr_iload_n dL_law_629 rfl ?_
  refine zr_iconst (v := 1) dL_law_630 kc_iconst_1 ?_
  refine zr_iadd dL_law_631 ?_
  refine zl_scr (q := 1) (x := σ 10 (j + 1)) dL_law_632 rfl hL (by omega) (by rw [h1.2]) ?_
  refine zr_aload_n dL_law_633 rfl ?_
  refine zr_iload_n dL_law_634 rfl ?_
  refine zr_iconst (v := 2) dL_law_635 kc_iconst_2 ?_
  refine zr_iadd dL_law_636 ?_
  refine zl_scr (q := 2) (x := σ 10 (j + 2)) dL_law_637 rfl hL (by omega) (by rw [h1.2]) ?_
  refine zt_cVi (As := [.int (σ 10 (j + 1)), .int (σ 10 (j + 2))]) (ax_shift L σ1 S hw (hM.fr h1.1.2.2) (σ 10 (j + 1)) (σ 10 (j + 2))) zc_L_81 rfl dL_law_638 rfl rfl rfl rfl rfl rfl (fun v2 σ2 h2 => ?_)
  exact zr_icmp_eq 936 dL_law_641 (by decide) (fun _ => kk σ2 ⟨_, fw_shift S hw (σ 10 (j + 1)) (σ 10 (j + 2)), h1.1.2.1.fr (fun k _ q => h2.2.2 k q), h2.2.1⟩) (fun q => absurd (h1.1.1.trans h2.1.symm) q)
theorem lw_c_tag {L j mc ms : Nat} {σ : gz_Mm} {S : ap_S} {Q : Option Value → gz_AH → Prop} (hL : L ≤ 2560) (hj : j + 5 ≤ L) (hw : ap_wf S) (hX : ap_X σ S) (hM : am_X σ S) (kk : ∀ σ2, lw_I σ2 → gz_R 11 yL_law cL_law 4 (some .boolean) mc ms 936 [some (.ref 10), some (.ref 11), some (.ref 57), some (.int (nI j))] [] (gz_mk L σ2) Q) : gz_R 11 yL_law cL_law 4 (some .boolean) mc ms 646 [some (.ref 10), some (.ref 11), some (.ref 57), some (.int (nI j))] [] (gz_mk L σ) Q := by
  refine zr_aload_n dL_law_646 rfl ?_
  refine zr_aload_n dL_law_647 rfl ?_
  refine zr_iload_n dL_law_648 rfl ?_
  refine zr_iconst (v := 1) dL_law_649 kc_iconst_1 ?_
  refine zr_iadd dL_law_650 ?_
  refine zl_scr (q := 1) (x := σ 10 (j + 1)) dL_law_651 rfl hL (by omega) rfl ?_
  refine zt_cVi (As := [.int (σ 10 (j + 1))]) (gz_Gi.keep (cx_tag L σ S hw hX (σ 10 (j + 1))) ap_P.keep) zc_L_82 rfl dL_law_652 rfl rfl rfl rfl rfl rfl (fun v1 σ1 h1 => ?_)
  refine zr_aload_n dL_law_655 rfl ?_
  refine zr_aload_n dL_law_656 rfl ?_
  refine zr_iload_n dL_law_657 rfl ?_
  refine zr_iconst (v := 1) dL_law_658 kc_iconst_1 ?_
  refine zr_iadd dL_law_659 ?_
  refine zl_scr (q := 1) (x := σ 10 (j + 1)) dL_law_660 rfl hL (by omega) (by rw [h1.2]) ?_
  refine zt_cVi (As := [.int (σ 10 (j + 1))]) (ax_tag L σ1 S hw (hM.fr h1.1.2.2) (σ 10 (j + 1))) zc_L_85 rfl dL_law_661 rfl rfl rfl rfl rfl rfl (fun v2 σ2 h2 => ?_)
  exact zr_icmp_eq 936 dL_law_664 (by decide) (fun _ => kk σ2 ⟨_, fw_tag S hw (σ 10 (j + 1)), h1.1.2.1.fr (fun k _ q => h2.2.2 k q), h2.2.1⟩) (fun q => absurd (h1.1.1.trans h2.1.symm) q)
theorem lw_c_tick {L j mc ms : Nat} {σ : gz_Mm} {S : ap_S} {Q : Option Value → gz_AH → Prop} (hL : L ≤ 2560) (hj : j + 5 ≤ L) (hw : ap_wf S) (hX : ap_X σ S) (hM : am_X σ S) (kk : ∀ σ2, lw_I σ2 → gz_R 11 yL_law cL_law 4 (some .boolean) mc ms 936 [some (.ref 10), some (.ref 11), some (.ref 57), some (.int (nI j))] [] (gz_mk L σ2) Q) : gz_R 11 yL_law cL_law 4 (some .boolean) mc ms 669 [some (.ref 10), some (.ref 11), some (.ref 57), some (.int (nI j))] [] (gz_mk L σ) Q := by
  refine zr_aload_n dL_law_669 rfl ?_
  refine zr_aload_n dL_law_670 rfl ?_
  refine zr_iload_n dL_law_671 rfl ?_
  refine zr_iconst (v := 1) dL_law_672 kc_iconst_1 ?_
  refine zr_iadd dL_law_673 ?_
  refine zl_scr (q := 1) (x := σ 10 (j + 1)) dL_law_674 rfl hL (by omega) rfl ?_
  refine zr_aload_n dL_law_675 rfl ?_
  refine zr_iload_n dL_law_676 rfl ?_
  refine zr_iconst (v := 2) dL_law_677 kc_iconst_2 ?_
  refine zr_iadd dL_law_678 ?_
  refine zl_scr (q := 2) (x := σ 10 (j + 2)) dL_law_679 rfl hL (by omega) rfl ?_
  refine zt_cVi (As := [.int (σ 10 (j + 1)), .int (σ 10 (j + 2))]) (gz_Gi.keep (cx_tick L σ S hw hX (σ 10 (j + 1)) (σ 10 (j + 2))) ap_P.keep) zc_L_86 rfl dL_law_680 rfl rfl rfl rfl rfl rfl (fun v1 σ1 h1 => ?_)
  refine zr_aload_n dL_law_683 rfl ?_
  refine zr_aload_n dL_law_684 rfl ?_
  refine zr_iload_n dL_law_685 rfl ?_
  refine zr_iconst (v := 1) dL_law_686 kc_iconst_1 ?_
  refine zr_iadd dL_law_687 ?_
  refine zl_scr (q := 1) (x := σ 10 (j + 1)) dL_law_688 rfl hL (by omega) (by rw [h1.2]) ?_
  refine zr_aload_n dL_law_689 rfl ?_
  refine zr_iload_n dL_law_690 rfl ?_
  refine zr_iconst (v := 2) dL_law_691 kc_iconst_2 ?_
  refine zr_iadd dL_law_692 ?_
  refine zl_scr (q := 2) (x := σ 10 (j + 2)) dL_law_693 rfl hL (by omega) (by rw [h1.2]) ?_
  refine zt_cVi (As := [.int (σ 10 (j + 1)), .int (σ 10 (j + 2))]) (ax_tick L σ1 S hw (hM.fr h1.1.2.2) (σ 10 (j + 1)) (σ 10 (j + 2))) zc_L_89 rfl dL_law_694 rfl rfl rfl rfl rfl rfl (fun v2 σ2 h2 => ?_)
  exact zr_icmp_eq 936 dL_law_697 (by decide) (fun _ => kk σ2 ⟨_, fw_tick S hw (σ 10 (j + 1)) (σ 10 (j + 2)), h1.1.2.1.fr (fun k _ q => h2.2.2 k q), h2.2.1⟩) (fun q => absurd (h1.1.1.trans h2.1.symm) q)
theorem lw_c_state {L j mc ms : Nat} {σ : gz_Mm} {S : ap_S} {Q : Option Value → gz_AH → Prop} (hL : L ≤ 2560) (hj : j + 5 ≤ L) (hw : ap_wf S) (hX : ap_X σ S) (hM : am_X σ S) (kk : ∀ σ2, lw_I σ2 → gz_R 11 yL_law cL_law 4 (some .boolean) mc ms 936 [some (.ref 10), some (.ref 11), some (.ref 57), some (.int (nI j))] [] (gz_mk L σ2) Q) : gz_R 11 yL_law cL_law 4 (some .boolean) mc ms 702 [some (.ref 10), some (.ref 11), some (.ref 57), some (.int (nI j))] [] (gz_mk L σ) Q := by
  refine zr_aload_n dL_law_702 rfl ?_
  refine zr_aload_n dL_law_703 rfl ?_
  refine zr_iload_n dL_law_704 rfl ?_
  refine zr_iconst (v := 1) dL_law_705 kc_iconst_1 ?_
  refine zr_iadd dL_law_706 ?_
  refine zl_scr (q := 1) (x := σ 10 (j + 1)) dL_law_707 rfl hL (by omega) rfl ?_
  refine zt_cVi (As := [.int (σ 10 (j + 1))]) (gz_Gi.keep (cx_state L σ S hw hX (σ 10 (j + 1))) ap_P.keep) zc_L_90 rfl dL_law_708 rfl rfl rfl rfl rfl rfl (fun v1 σ1 h1 => ?_)
  refine zr_aload_n dL_law_711 rfl ?_
  refine zr_aload_n dL_law_712 rfl ?_
  refine zr_iload_n dL_law_713 rfl ?_
  refine zr_iconst (v := 1) dL_law_714 kc_iconst_1 ?_
  refine zr_iadd dL_law_715 ?_
  refine zl_scr (q := 1) (x := σ 10 (j + 1)) dL_law_716 rfl hL (by omega) (by rw [h1.2]) ?_
  refine zt_cVi (As := [.int (σ 10 (j + 1))]) (ax_state L σ1 S hw (hM.fr h1.1.2.2) (σ 10 (j + 1))) zc_L_93 rfl dL_law_717 rfl rfl rfl rfl rfl rfl (fun v2 σ2 h2 => ?_)
  exact zr_icmp_eq 936 dL_law_720 (by decide) (fun _ => kk σ2 ⟨_, fw_state S hw (σ 10 (j + 1)), h1.1.2.1.fr (fun k _ q => h2.2.2 k q), h2.2.1⟩) (fun q => absurd (h1.1.1.trans h2.1.symm) q)
theorem lw_c_test {L j mc ms : Nat} {σ : gz_Mm} {S : ap_S} {Q : Option Value → gz_AH → Prop} (hL : L ≤ 2560) (hj : j + 5 ≤ L) (hw : ap_wf S) (hX : ap_X σ S) (hM : am_X σ S) (kk : ∀ σ2, lw_I σ2 → gz_R 11 yL_law cL_law 4 (some .boolean) mc ms 936 [some (.ref 10), some (.ref 11), some (.ref 57), some (.int (nI j))] [] (gz_mk L σ2) Q) : gz_R 11 yL_law cL_law 4 (some .boolean) mc ms 725 [some (.ref 10), some (.ref 11), some (.ref 57), some (.int (nI j))] [] (gz_mk L σ) Q := by
  refine zr_aload_n dL_law_725 rfl ?_
  refine zr_aload_n dL_law_726 rfl ?_
  refine zr_iload_n dL_law_727 rfl ?_
  refine zr_iconst (v := 1) dL_law_728 kc_iconst_1 ?_
  refine zr_iadd dL_law_729 ?_
  refine zl_scr (q := 1) (x := σ 10 (j + 1)) dL_law_730 rfl hL (by omega) rfl ?_
  refine zr_aload_n dL_law_731 rfl ?_
  refine zr_iload_n dL_law_732 rfl ?_
  refine zr_iconst (v := 2) dL_law_733 kc_iconst_2 ?_
  refine zr_iadd dL_law_734 ?_
  refine zl_scr (q := 2) (x := σ 10 (j + 2)) dL_law_735 rfl hL (by omega) rfl ?_
  refine zt_cVi (As := [.int (σ 10 (j + 1)), .int (σ 10 (j + 2))]) (gz_Gi.keep (cx_test L σ S hw hX (σ 10 (j + 1)) (σ 10 (j + 2))) ap_P.keep) zc_L_94 rfl dL_law_736 rfl rfl rfl rfl rfl rfl (fun v1 σ1 h1 => ?_)
  refine zr_aload_n dL_law_739 rfl ?_
  refine zr_aload_n dL_law_740 rfl ?_
  refine zr_iload_n dL_law_741 rfl ?_
  refine zr_iconst (v := 1) dL_law_742 kc_iconst_1 ?_
  refine zr_iadd dL_law_743 ?_
  refine zl_scr (q := 1) (x := σ 10 (j + 1)) dL_law_744 rfl hL (by omega) (by rw [h1.2]) ?_
  refine zr_aload_n dL_law_745 rfl ?_
  refine zr_iload_n dL_law_746 rfl ?_
  refine zr_iconst (v := 2) dL_law_747 kc_iconst_2 ?_
  refine zr_iadd dL_law_748 ?_
  refine zl_scr (q := 2) (x := σ 10 (j + 2)) dL_law_749 rfl hL (by omega) (by rw [h1.2]) ?_
  refine zt_cVi (As := [.int (σ 10 (j + 1)), .int (σ 10 (j + 2))]) (ax_test L σ1 S hw (hM.fr h1.1.2.2) (σ 10 (j + 1)) (σ 10 (j + 2))) zc_L_97 rfl dL_law_750 rfl rfl rfl rfl rfl rfl (fun v2 σ2 h2 => ?_)
  exact zr_icmp_eq 936 dL_law_753 (by decide) (fun _ => kk σ2 ⟨_, fw_test S hw (σ 10 (j + 1)) (σ 10 (j + 2)), h1.1.2.1.fr (fun k _ q => h2.2.2 k q), h2.2.1⟩) (fun q => absurd (h1.1.1.trans h2.1.symm) q)
theorem lw_c_drive {L j mc ms : Nat} {σ : gz_Mm} {S : ap_S} {Q : Option Value → gz_AH → Prop} (hL : L ≤ 2560) (hj : j + 5 ≤ L) (hw : ap_wf S) (hX : ap_X σ S) (hM : am_X σ S) (kk : ∀ σ2, lw_I σ2 → gz_R 11 yL_law cL_law 4 (some .boolean) mc ms 936 [some (.ref 10), some (.ref 11), some (.ref 57), some (.int (nI j))] [] (gz_mk L σ2) Q) : gz_R 11 yL_law cL_law 4 (some .boolean) mc ms 758 [some (.ref 10), some (.ref 11), some (.ref 57), some (.int (nI j))] [] (gz_mk L σ) Q := by
  refine zr_aload_n dL_law_758 rfl ?_
  refine zr_aload_n dL_law_759 rfl ?_
  refine zr_iload_n dL_law_760 rfl ?_
  refine zr_iconst (v := 1) dL_law_761 kc_iconst_1 ?_
  refine zr_iadd dL_law_762 ?_
  refine zl_scr (q := 1) (x := σ 10 (j + 1)) dL_law_763 rfl hL (by omega) rfl ?_
  refine zt_cVi (As := [.int (σ 10 (j + 1))]) (gz_Gi.keep (cx_drive L σ S hw hX (σ 10 (j + 1))) ap_P.keep) zc_L_98 rfl dL_law_764 rfl rfl rfl rfl rfl rfl (fun v1 σ1 h1 => ?_)
  refine zr_aload_n dL_law_767 rfl ?_
  refine zr_aload_n dL_law_768 rfl ?_
  refine zr_iload_n dL_law_769 rfl ?_
  refine zr_iconst (v := 1) dL_law_770 kc_iconst_1 ?_
  refine zr_iadd dL_law_771 ?_
  refine zl_scr (q := 1) (x := σ 10 (j + 1)) dL_law_772 rfl hL (by omega) (by rw [h1.2]) ?_
  refine zt_cVi (As := [.int (σ 10 (j + 1))]) (ax_drive L σ1 S hw (hM.fr h1.1.2.2) (σ 10 (j + 1))) zc_L_101 rfl dL_law_773 rfl rfl rfl rfl rfl rfl (fun v2 σ2 h2 => ?_)
  exact zr_icmp_eq 936 dL_law_776 (by decide) (fun _ => kk σ2 ⟨_, fw_drive S hw (σ 10 (j + 1)), h1.1.2.1.fr (fun k _ q => h2.2.2 k q), h2.2.1⟩) (fun q => absurd (h1.1.1.trans h2.1.symm) q)
theorem lw_c_seen {L j mc ms : Nat} {σ : gz_Mm} {S : ap_S} {Q : Option Value → gz_AH → Prop} (hL : L ≤ 2560) (hj : j + 5 ≤ L) (hw : ap_wf S) (hX : ap_X σ S) (hM : am_X σ S) (kk : ∀ σ2, lw_I σ2 → gz_R 11 yL_law cL_law 4 (some .boolean) mc ms 936 [some (.ref 10), some (.ref 11), some (.ref 57), some (.int (nI j))] [] (gz_mk L σ2) Q) : gz_R 11 yL_law cL_law 4 (some .boolean) mc ms 781 [some (.ref 10), some (.ref 11), some (.ref 57), some (.int (nI j))] [] (gz_mk L σ) Q := by
  refine zr_aload_n dL_law_781 rfl ?_
  refine zr_aload_n dL_law_782 rfl ?_
  refine zr_iload_n dL_law_783 rfl ?_
  refine zr_iconst (v := 1) dL_law_784 kc_iconst_1 ?_
  refine zr_iadd dL_law_785 ?_
  refine zl_scr (q := 1) (x := σ 10 (j + 1)) dL_law_786 rfl hL (by omega) rfl ?_
  refine zr_aload_n dL_law_787 rfl ?_
  refine zr_iload_n dL_law_788 rfl ?_
  refine zr_iconst (v := 2) dL_law_789 kc_iconst_2 ?_
  refine zr_iadd dL_law_790 ?_
  refine zl_scr (q := 2) (x := σ 10 (j + 2)) dL_law_791 rfl hL (by omega) rfl ?_
  refine zt_cVi (As := [.int (σ 10 (j + 1)), .int (σ 10 (j + 2))]) (gz_Gi.keep (cx_seen L σ S hw hX (σ 10 (j + 1)) (σ 10 (j + 2))) ap_P.keep) zc_L_102 rfl dL_law_792 rfl rfl rfl rfl rfl rfl (fun v1 σ1 h1 => ?_)
  refine zr_aload_n dL_law_795 rfl ?_
  refine zr_aload_n dL_law_796 rfl ?_
  refine zr_iload_n dL_law_797 rfl ?_
  refine zr_iconst (v := 1) dL_law_798 kc_iconst_1 ?_
  refine zr_iadd dL_law_799 ?_
  refine zl_scr (q := 1) (x := σ 10 (j + 1)) dL_law_800 rfl hL (by omega) (by rw [h1.2]) ?_
  refine zr_aload_n dL_law_801 rfl ?_
  refine zr_iload_n dL_law_802 rfl ?_
  refine zr_iconst (v := 2) dL_law_803 kc_iconst_2 ?_
  refine zr_iadd dL_law_804 ?_
  refine zl_scr (q := 2) (x := σ 10 (j + 2)) dL_law_805 rfl hL (by omega) (by rw [h1.2]) ?_
  refine zt_cVi (As := [.int (σ 10 (j + 1)), .int (σ 10 (j + 2))]) (ax_seen L σ1 S hw (hM.fr h1.1.2.2) (σ 10 (j + 1)) (σ 10 (j + 2))) zc_L_105 rfl dL_law_806 rfl rfl rfl rfl rfl rfl (fun v2 σ2 h2 => ?_)
  exact zr_icmp_eq 936 dL_law_809 (by decide) (fun _ => kk σ2 ⟨_, fw_seen S hw (σ 10 (j + 1)) (σ 10 (j + 2)), h1.1.2.1.fr (fun k _ q => h2.2.2 k q), h2.2.1⟩) (fun q => absurd (h1.1.1.trans h2.1.symm) q)
theorem lw_c_shows {L j mc ms : Nat} {σ : gz_Mm} {S : ap_S} {Q : Option Value → gz_AH → Prop} (hL : L ≤ 2560) (hj : j + 5 ≤ L) (hw : ap_wf S) (hX : ap_X σ S) (hM : am_X σ S) (kk : ∀ σ2, lw_I σ2 → gz_R 11 yL_law cL_law 4 (some .boolean) mc ms 936 [some (.ref 10), some (.ref 11), some (.ref 57), some (.int (nI j))] [] (gz_mk L σ2) Q) : gz_R 11 yL_law cL_law 4 (some .boolean) mc ms 814 [some (.ref 10), some (.ref 11), some (.ref 57), some (.int (nI j))] [] (gz_mk L σ) Q := by
  refine zr_aload_n dL_law_814 rfl ?_
  refine zr_aload_n dL_law_815 rfl ?_
  refine zr_iload_n dL_law_816 rfl ?_
  refine zr_iconst (v := 1) dL_law_817 kc_iconst_1 ?_
  refine zr_iadd dL_law_818 ?_
  refine zl_scr (q := 1) (x := σ 10 (j + 1)) dL_law_819 rfl hL (by omega) rfl ?_
  refine zr_aload_n dL_law_820 rfl ?_
  refine zr_iload_n dL_law_821 rfl ?_
  refine zr_iconst (v := 2) dL_law_822 kc_iconst_2 ?_
  refine zr_iadd dL_law_823 ?_
  refine zl_scr (q := 2) (x := σ 10 (j + 2)) dL_law_824 rfl hL (by omega) rfl ?_
  refine zr_aload_n dL_law_825 rfl ?_
  refine zr_iload_n dL_law_826 rfl ?_
  refine zr_iconst (v := 3) dL_law_827 kc_iconst_3 ?_
  refine zr_iadd dL_law_828 ?_
  refine zl_scr (q := 3) (x := σ 10 (j + 3)) dL_law_829 rfl hL (by omega) rfl ?_
  refine zt_cVi (As := [.int (σ 10 (j + 1)), .int (σ 10 (j + 2)), .int (σ 10 (j + 3))]) (gz_Gi.keep (cx_shows L σ S hw hX (σ 10 (j + 1)) (σ 10 (j + 2)) (σ 10 (j + 3))) ap_P.keep) zc_L_106 rfl dL_law_830 rfl rfl rfl rfl rfl rfl (fun v1 σ1 h1 => ?_)
  refine zr_aload_n dL_law_833 rfl ?_
  refine zr_aload_n dL_law_834 rfl ?_
  refine zr_iload_n dL_law_835 rfl ?_
  refine zr_iconst (v := 1) dL_law_836 kc_iconst_1 ?_
  refine zr_iadd dL_law_837 ?_
  refine zl_scr (q := 1) (x := σ 10 (j + 1)) dL_law_838 rfl hL (by omega) (by rw [h1.2]) ?_
  refine zr_aload_n dL_law_839 rfl ?_
  refine zr_iload_n dL_law_840 rfl ?_
  refine zr_iconst (v := 2) dL_law_841 kc_iconst_2 ?_
  refine zr_iadd dL_law_842 ?_
  refine zl_scr (q := 2) (x := σ 10 (j + 2)) dL_law_843 rfl hL (by omega) (by rw [h1.2]) ?_
  refine zr_aload_n dL_law_844 rfl ?_
  refine zr_iload_n dL_law_845 rfl ?_
  refine zr_iconst (v := 3) dL_law_846 kc_iconst_3 ?_
  refine zr_iadd dL_law_847 ?_
  refine zl_scr (q := 3) (x := σ 10 (j + 3)) dL_law_848 rfl hL (by omega) (by rw [h1.2]) ?_
  refine zt_cVi (As := [.int (σ 10 (j + 1)), .int (σ 10 (j + 2)), .int (σ 10 (j + 3))]) (ax_shows L σ1 S hw (hM.fr h1.1.2.2) (σ 10 (j + 1)) (σ 10 (j + 2)) (σ 10 (j + 3))) zc_L_110 rfl dL_law_849 rfl rfl rfl rfl rfl rfl (fun v2 σ2 h2 => ?_)
  exact zr_icmp_eq 936 dL_law_852 (by decide) (fun _ => kk σ2 ⟨_, fw_shows S hw (σ 10 (j + 1)) (σ 10 (j + 2)) (σ 10 (j + 3)), h1.1.2.1.fr (fun k _ q => h2.2.2 k q), h2.2.1⟩) (fun q => absurd (h1.1.1.trans h2.1.symm) q)
theorem lw_c_shownBy {L j mc ms : Nat} {σ : gz_Mm} {S : ap_S} {Q : Option Value → gz_AH → Prop} (hL : L ≤ 2560) (hj : j + 5 ≤ L) (hw : ap_wf S) (hX : ap_X σ S) (hM : am_X σ S) (kk : ∀ σ2, lw_I σ2 → gz_R 11 yL_law cL_law 4 (some .boolean) mc ms 936 [some (.ref 10), some (.ref 11), some (.ref 57), some (.int (nI j))] [] (gz_mk L σ2) Q) : gz_R 11 yL_law cL_law 4 (some .boolean) mc ms 857 [some (.ref 10), some (.ref 11), some (.ref 57), some (.int (nI j))] [] (gz_mk L σ) Q := by
  refine zr_aload_n dL_law_857 rfl ?_
  refine zr_aload_n dL_law_858 rfl ?_
  refine zr_iload_n dL_law_859 rfl ?_
  refine zr_iconst (v := 1) dL_law_860 kc_iconst_1 ?_
  refine zr_iadd dL_law_861 ?_
  refine zl_scr (q := 1) (x := σ 10 (j + 1)) dL_law_862 rfl hL (by omega) rfl ?_
  refine zr_aload_n dL_law_863 rfl ?_
  refine zr_iload_n dL_law_864 rfl ?_
  refine zr_iconst (v := 2) dL_law_865 kc_iconst_2 ?_
  refine zr_iadd dL_law_866 ?_
  refine zl_scr (q := 2) (x := σ 10 (j + 2)) dL_law_867 rfl hL (by omega) rfl ?_
  refine zt_cVi (As := [.int (σ 10 (j + 1)), .int (σ 10 (j + 2))]) (gz_Gi.keep (cx_shownBy L σ S hw hX (σ 10 (j + 1)) (σ 10 (j + 2))) ap_P.keep) zc_L_111 rfl dL_law_868 rfl rfl rfl rfl rfl rfl (fun v1 σ1 h1 => ?_)
  refine zr_aload_n dL_law_871 rfl ?_
  refine zr_aload_n dL_law_872 rfl ?_
  refine zr_iload_n dL_law_873 rfl ?_
  refine zr_iconst (v := 1) dL_law_874 kc_iconst_1 ?_
  refine zr_iadd dL_law_875 ?_
  refine zl_scr (q := 1) (x := σ 10 (j + 1)) dL_law_876 rfl hL (by omega) (by rw [h1.2]) ?_
  refine zr_aload_n dL_law_877 rfl ?_
  refine zr_iload_n dL_law_878 rfl ?_
  refine zr_iconst (v := 2) dL_law_879 kc_iconst_2 ?_
  refine zr_iadd dL_law_880 ?_
  refine zl_scr (q := 2) (x := σ 10 (j + 2)) dL_law_881 rfl hL (by omega) (by rw [h1.2]) ?_
  refine zt_cVi (As := [.int (σ 10 (j + 1)), .int (σ 10 (j + 2))]) (ax_shownBy L σ1 S hw (hM.fr h1.1.2.2) (σ 10 (j + 1)) (σ 10 (j + 2))) zc_L_114 rfl dL_law_882 rfl rfl rfl rfl rfl rfl (fun v2 σ2 h2 => ?_)
  exact zr_icmp_eq 936 dL_law_885 (by decide) (fun _ => kk σ2 ⟨_, fw_shownBy S hw (σ 10 (j + 1)) (σ 10 (j + 2)), h1.1.2.1.fr (fun k _ q => h2.2.2 k q), h2.2.1⟩) (fun q => absurd (h1.1.1.trans h2.1.symm) q)
theorem lw_c_covers {L j mc ms : Nat} {σ : gz_Mm} {S : ap_S} {Q : Option Value → gz_AH → Prop} (hL : L ≤ 2560) (hj : j + 5 ≤ L) (hw : ap_wf S) (hX : ap_X σ S) (hM : am_X σ S) (kk : ∀ σ2, lw_I σ2 → gz_R 11 yL_law cL_law 4 (some .boolean) mc ms 936 [some (.ref 10), some (.ref 11), some (.ref 57), some (.int (nI j))] [] (gz_mk L σ2) Q) : gz_R 11 yL_law cL_law 4 (some .boolean) mc ms 890 [some (.ref 10), some (.ref 11), some (.ref 57), some (.int (nI j))] [] (gz_mk L σ) Q := by
  refine zr_aload_n dL_law_890 rfl ?_
  refine zt_cVi (As := []) (gz_Gi.keep (cx_covers L σ S hw hX ) ap_P.keep) zc_L_115 rfl dL_law_891 rfl rfl rfl rfl rfl rfl (fun v1 σ1 h1 => ?_)
  refine zr_aload_n dL_law_894 rfl ?_
  refine zt_cVi (As := []) (ax_covers L σ1 S hw (hM.fr h1.1.2.2) ) zc_L_118 rfl dL_law_895 rfl rfl rfl rfl rfl rfl (fun v2 σ2 h2 => ?_)
  exact zr_icmp_eq 936 dL_law_898 (by decide) (fun _ => kk σ2 ⟨_, fw_covers S hw , h1.1.2.1.fr (fun k _ q => h2.2.2 k q), h2.2.1⟩) (fun q => absurd (h1.1.1.trans h2.1.symm) q)
theorem lw_c_same {L j mc ms : Nat} {σ : gz_Mm} {S : ap_S} {Q : Option Value → gz_AH → Prop} (hL : L ≤ 2560) (hj : j + 5 ≤ L) (hw : ap_wf S) (hX : ap_X σ S) (hM : am_X σ S) (kk : ∀ σ2, lw_I σ2 → gz_R 11 yL_law cL_law 4 (some .boolean) mc ms 936 [some (.ref 10), some (.ref 11), some (.ref 57), some (.int (nI j))] [] (gz_mk L σ2) Q) : gz_R 11 yL_law cL_law 4 (some .boolean) mc ms 903 [some (.ref 10), some (.ref 11), some (.ref 57), some (.int (nI j))] [] (gz_mk L σ) Q := by
  refine zr_aload_n dL_law_903 rfl ?_
  refine zr_aload_n dL_law_904 rfl ?_
  refine zr_iload_n dL_law_905 rfl ?_
  refine zr_iconst (v := 1) dL_law_906 kc_iconst_1 ?_
  refine zr_iadd dL_law_907 ?_
  refine zl_scr (q := 1) (x := σ 10 (j + 1)) dL_law_908 rfl hL (by omega) rfl ?_
  refine zr_aload_n dL_law_909 rfl ?_
  refine zr_iload_n dL_law_910 rfl ?_
  refine zr_iconst (v := 2) dL_law_911 kc_iconst_2 ?_
  refine zr_iadd dL_law_912 ?_
  refine zl_scr (q := 2) (x := σ 10 (j + 2)) dL_law_913 rfl hL (by omega) rfl ?_
  refine zt_cVi (As := [.int (σ 10 (j + 1)), .int (σ 10 (j + 2))]) (gz_Gi.keep (cx_same L σ S hw hX (σ 10 (j + 1)) (σ 10 (j + 2))) ap_P.keep) zc_L_119 rfl dL_law_914 rfl rfl rfl rfl rfl rfl (fun v1 σ1 h1 => ?_)
  refine zr_aload_n dL_law_917 rfl ?_
  refine zr_aload_n dL_law_918 rfl ?_
  refine zr_iload_n dL_law_919 rfl ?_
  refine zr_iconst (v := 1) dL_law_920 kc_iconst_1 ?_
  refine zr_iadd dL_law_921 ?_
  refine zl_scr (q := 1) (x := σ 10 (j + 1)) dL_law_922 rfl hL (by omega) (by rw [h1.2]) ?_
  refine zr_aload_n dL_law_923 rfl ?_
  refine zr_iload_n dL_law_924 rfl ?_
  refine zr_iconst (v := 2) dL_law_925 kc_iconst_2 ?_
  refine zr_iadd dL_law_926 ?_
  refine zl_scr (q := 2) (x := σ 10 (j + 2)) dL_law_927 rfl hL (by omega) (by rw [h1.2]) ?_
  refine zt_cVi (As := [.int (σ 10 (j + 1)), .int (σ 10 (j + 2))]) (ax_same L σ1 S hw (hM.fr h1.1.2.2) (σ 10 (j + 1)) (σ 10 (j + 2))) zc_L_122 rfl dL_law_928 rfl rfl rfl rfl rfl rfl (fun v2 σ2 h2 => ?_)
  exact zr_icmp_eq 936 dL_law_931 (by decide) (fun _ => kk σ2 ⟨_, fw_same S hw (σ 10 (j + 1)) (σ 10 (j + 2)), h1.1.2.1.fr (fun k _ q => h2.2.2 k q), h2.2.1⟩) (fun q => absurd (h1.1.1.trans h2.1.symm) q)
theorem lw_loop {L mc ms : Nat} {Q : Option Value → gz_AH → Prop} (hL : L ≤ 2560) (hQ : ∀ σ, Q (some (.int 1)) (gz_mk L σ)) : ∀ (n j : Nat) (σ : gz_Mm), L ≤ j + n → j ≤ 3000 → lw_I σ → gz_R 11 yL_law cL_law 4 (some .boolean) mc ms 18 [some (.ref 10), some (.ref 11), some (.ref 57), some (.int (nI j))] [] (gz_mk L σ) Q := by
  intro n
  induction n with
  | zero =>
    intro j σ h1 h2 _
    refine zr_iload_n dL_law_18 rfl ?_
    refine zr_aload_n dL_law_19 rfl ?_
    refine zt_alen (a := 10) (n := L) dL_law_20 rfl ?_
    refine zr_iconst (v := 5) dL_law_21 kc_iconst_5 ?_
    refine zr_isub dL_law_22 ?_
    refine zr_icmp_gt 942 dL_law_23 (by decide) (fun _ => ?_) (fun q => absurd ?_ q)
    · refine zr_iconst (v := 1) dL_law_942 kc_iconst_1 ?_
      exact zr_zret dL_law_943 rfl rfl (hQ σ)
    · show nI L - 5 < nI j
      rw [Int32.lt_iff_toInt_lt, lw_sub5 hL, nI_toInt (by omega)]
      omega
  | succ n ih =>
    intro j σ h1 h2 hI
    refine zr_iload_n dL_law_18 rfl ?_
    refine zr_aload_n dL_law_19 rfl ?_
    refine zt_alen (a := 10) (n := L) dL_law_20 rfl ?_
    refine zr_iconst (v := 5) dL_law_21 kc_iconst_5 ?_
    refine zr_isub dL_law_22 ?_
    refine zr_icmp_gt 942 dL_law_23 (by decide) (fun _ => ?_) (fun q => ?_)
    · refine zr_iconst (v := 1) dL_law_942 kc_iconst_1 ?_
      exact zr_zret dL_law_943 rfl rfl (hQ σ)
    · have hj : j + 5 ≤ L := by
        have q' : ¬ (nI L - 5 < nI j) := q
        rw [Int32.lt_iff_toInt_lt, lw_sub5 hL, nI_toInt (by omega)] at q'
        omega
      have kk : ∀ σ2, lw_I σ2 → gz_R 11 yL_law cL_law 4 (some .boolean) mc ms 936 [some (.ref 10), some (.ref 11), some (.ref 57), some (.int (nI j))] [] (gz_mk L σ2) Q := by
        intro σ2 h
        refine zr_iinc (v := nI (j + 5)) dL_law_936 rfl (nI_add j 5) rfl ?_
        refine zr_goto 18 dL_law_939 (by decide) ?_
        exact ih (j + 5) σ2 (by omega) (by omega) h
      obtain ⟨S, hw, hX, hM⟩ := hI
      refine zr_aload_n dL_law_26 rfl ?_
      refine zr_iload_n dL_law_27 rfl ?_
      refine zt_iald (a := 10) (n := L) dL_law_28 rfl (vp_in_nI (by omega) (by omega)) ?_
      refine zr_bipush (v := 31) dL_law_29 kc_bipush_31 ?_
      refine zr_iand dL_law_31 ?_
      obtain ⟨k, hk, e⟩ := lw_and (σ 10 (nI j).toNatClampNeg)
      refine zr_top e ?_
      match k, hk with
      | 0, _ => exact zr_tin (off := 120) 152 dL_law_32 (by decide) (by decide) (by decide) (by decide) (lw_c_input hL hj hw hX hM kk)
      | 1, _ => exact zr_tin (off := 133) 165 dL_law_32 (by decide) (by decide) (by decide) (by decide) (lw_c_gate hL hj hw hX hM kk)
      | 2, _ => exact zr_tin (off := 186) 218 dL_law_32 (by decide) (by decide) (by decide) (by decide) (lw_c_cell hL hj hw hX hM kk)
      | 3, _ => exact zr_tin (off := 209) 241 dL_law_32 (by decide) (by decide) (by decide) (by decide) (lw_c_source hL hj hw hX hM kk)
      | 4, _ => exact zr_tin (off := 242) 274 dL_law_32 (by decide) (by decide) (by decide) (by decide) (lw_c_output hL hj hw hX hM kk)
      | 5, _ => exact zr_tin (off := 265) 297 dL_law_32 (by decide) (by decide) (by decide) (by decide) (lw_c_count hL hj hw hX hM kk)
      | 6, _ => exact zr_tin (off := 288) 320 dL_law_32 (by decide) (by decide) (by decide) (by decide) (lw_c_line hL hj hw hX hM kk)
      | 7, _ => exact zr_tin (off := 321) 353 dL_law_32 (by decide) (by decide) (by decide) (by decide) (lw_c_set hL hj hw hX hM kk)
      | 8, _ => exact zr_tin (off := 354) 386 dL_law_32 (by decide) (by decide) (by decide) (by decide) (lw_c_hold hL hj hw hX hM kk)
      | 9, _ => exact zr_tin (off := 387) 419 dL_law_32 (by decide) (by decide) (by decide) (by decide) (lw_c_clock hL hj hw hX hM kk)
      | 10, _ => exact zr_tin (off := 410) 442 dL_law_32 (by decide) (by decide) (by decide) (by decide) (lw_c_stick hL hj hw hX hM kk)
      | 11, _ => exact zr_tin (off := 443) 475 dL_law_32 (by decide) (by decide) (by decide) (by decide) (lw_c_chain hL hj hw hX hM kk)
      | 12, _ => exact zr_tin (off := 512) 544 dL_law_32 (by decide) (by decide) (by decide) (by decide) (lw_c_unchain hL hj hw hX hM kk)
      | 13, _ => exact zr_tin (off := 535) 567 dL_law_32 (by decide) (by decide) (by decide) (by decide) (lw_c_link hL hj hw hX hM kk)
      | 14, _ => exact zr_tin (off := 568) 600 dL_law_32 (by decide) (by decide) (by decide) (by decide) (lw_c_stitch hL hj hw hX hM kk)
      | 15, _ => exact zr_tin (off := 581) 613 dL_law_32 (by decide) (by decide) (by decide) (by decide) (lw_c_shift hL hj hw hX hM kk)
      | 16, _ => exact zr_tin (off := 614) 646 dL_law_32 (by decide) (by decide) (by decide) (by decide) (lw_c_tag hL hj hw hX hM kk)
      | 17, _ => exact zr_tin (off := 637) 669 dL_law_32 (by decide) (by decide) (by decide) (by decide) (lw_c_tick hL hj hw hX hM kk)
      | 18, _ => exact zr_tin (off := 670) 702 dL_law_32 (by decide) (by decide) (by decide) (by decide) (lw_c_state hL hj hw hX hM kk)
      | 19, _ => exact zr_tin (off := 693) 725 dL_law_32 (by decide) (by decide) (by decide) (by decide) (lw_c_test hL hj hw hX hM kk)
      | 20, _ => exact zr_tin (off := 726) 758 dL_law_32 (by decide) (by decide) (by decide) (by decide) (lw_c_drive hL hj hw hX hM kk)
      | 21, _ => exact zr_tin (off := 749) 781 dL_law_32 (by decide) (by decide) (by decide) (by decide) (lw_c_seen hL hj hw hX hM kk)
      | 22, _ => exact zr_tin (off := 782) 814 dL_law_32 (by decide) (by decide) (by decide) (by decide) (lw_c_shows hL hj hw hX hM kk)
      | 23, _ => exact zr_tin (off := 825) 857 dL_law_32 (by decide) (by decide) (by decide) (by decide) (lw_c_shownBy hL hj hw hX hM kk)
      | 24, _ => exact zr_tin (off := 858) 890 dL_law_32 (by decide) (by decide) (by decide) (by decide) (lw_c_covers hL hj hw hX hM kk)
      | 25, _ => exact zr_tin (off := 871) 903 dL_law_32 (by decide) (by decide) (by decide) (by decide) (lw_c_same hL hj hw hX hM kk)
      | 26, _ => exact zr_tout 936 dL_law_32 (by decide) (by decide) (kk σ ⟨S, hw, hX, hM⟩)
      | 27, _ => exact zr_tout 936 dL_law_32 (by decide) (by decide) (kk σ ⟨S, hw, hX, hM⟩)
      | 28, _ => exact zr_tout 936 dL_law_32 (by decide) (by decide) (kk σ ⟨S, hw, hX, hM⟩)
      | 29, _ => exact zr_tout 936 dL_law_32 (by decide) (by decide) (kk σ ⟨S, hw, hX, hM⟩)
      | 30, _ => exact zr_tout 936 dL_law_32 (by decide) (by decide) (kk σ ⟨S, hw, hX, hM⟩)
      | 31, _ => exact zr_tout 936 dL_law_32 (by decide) (by decide) (kk σ ⟨S, hw, hX, hM⟩)
      | k + 32, h => exact absurd h (by omega)
theorem lw_body (L : Nat) (hL : L ≤ 2560) (xs : Nat → Int32) : gz_R 11 yL_law cL_law 4 (some .boolean) 600000 7302250 0 [some (.ref 10), none, none, none] [] (gk_0 L xs) (fun r _ => r = some (.int 1)) := by
  have h0 : (gk_0 L xs).length = 11 := rfl
  refine zr_new (ci := 8) (ty := tyX8) (fs := [.null, .null, .null, .null, .null, .null, .null, .null]) (by decide) rfl zk_X8 tyX8_ok ze_L_7 zn_X8 zi_X8 dvX8 (fun _ _ => rfl) dL_law_0 (by decide) (by decide) ?_
  refine zr_dup dL_law_3 rfl ?_
  refine zr_callI (k := 11) (As := []) (ck_8 _ h0) zc_L_9 dL_law_4 (by decide) (by decide) (by decide) rfl (Nat.le_of_ble_eq_true rfl) (fun r h' q => ?_)
  obtain ⟨rfl, rfl⟩ := q
  refine zr_astore_n dL_law_7 (by decide) rfl ?_
  have h1 : (gk_0 L xs ++ gi_8).length = 57 := rfl
  refine zr_new (ci := 9) (ty := tyX9) (fs := [.null, .null, .null, .int 0, .null, .int 0, .null, .null, .null, .null, .null, .int 0, .null, .int 0, .null, .null, .null, .null, .int 0, .null, .null, .int 0, .int 0, .int 0, .int 0, .int 0, .int 0, .int 0, .int 0, .int 0, .null, .null, .null, .int 0, .null, .int 0, .int 0, .null, .int 0, .null, .int 0, .null, .null, .null, .null, .null]) (by decide) rfl zk_X9 tyX9_ok ze_L_10 zn_X9 zi_X9 dvX9 (fun _ _ => rfl) dL_law_8 (by decide) (by decide) ?_
  refine zr_dup dL_law_11 rfl ?_
  refine zr_callI (k := 57) (As := []) (ck_9 57 (by decide) _ h1) zc_L_12 dL_law_12 (by decide) (by decide) (by decide) rfl (Nat.le_of_ble_eq_true rfl) (fun r h' q => ?_)
  obtain ⟨rfl, rfl⟩ := q
  rw [gk_0_mk]
  refine zr_astore_n dL_law_15 (by decide) rfl ?_
  refine zr_iconst (v := 0) dL_law_16 kc_iconst_0 ?_
  refine zr_istore_n dL_law_17 (by decide) rfl ?_
  exact lw_loop hL (fun _ => rfl) L 0 _ (by omega) (by omega) ⟨ss_0, ss_wf, ss_X xs, ss_M xs⟩
