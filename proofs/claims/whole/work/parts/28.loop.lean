/-! ===== the law's loop ===== -/
theorem lgE {x y : Int64} (h : x = y) : lg_cmp x y = 0 := by
  subst h; unfold lg_cmp; rw [if_neg (fun q => Int64.lt_irrefl q), if_pos rfl]
theorem gtL {L n : Nat} (hL : L ≤ 2561) (hn : n ≤ 1000) : nI L - 5 < nI (1 + 5 * n) ↔ L < 1 + 5 * n + 5 := by
  by_cases h5 : 5 ≤ L
  · have e : nI L - 5 = nI (L - 5) := by
      have q := nI_add (L - 5) 5
      rw [show L - 5 + 5 = L by omega] at q
      rw [← q]
      exact Int32.add_sub_cancel _ _
    rw [e, nI_ltI (by omega) (by omega)]
    omega
  · refine ⟨fun _ => by omega, fun _ => Int32.lt_of_lt_of_le (b := 0) ?_ (nI_pos' (by omega))⟩
    rcases (show L = 0 ∨ L = 1 ∨ L = 2 ∨ L = 3 ∨ L = 4 by omega) with rfl | rfl | rfl | rfl | rfl <;> decide
theorem add5 (n : Nat) : nI (1 + 5 * n) + Int32.ofInt 5 = nI (1 + 5 * (n + 1)) := by
  rw [show 1 + 5 * (n + 1) = 1 + 5 * n + 5 by omega]; exact nI_add _ 5
def lwL (v5 v6 : Value) (n : Nat) : List Value := [.retAddr 0, .ref 0, .ref 45, .ref 65, .int (nI (1 + 5 * n)), v5, v6]
/-- the law comes to true from its loop's head -/
def lwK (l : Launch) (G : zGP) (K n : Nat) (S : St) : Prop :=
  ∀ (th : Int32) (fo : Nat → Int64) (v5 v6 : Value) (cs sl : Nat), cs ≤ 100 + 3 * n → sl ≤ 2000 + 18 * n → ∃ hpF, Ev l G m_L_law 33 [.retAddr 0, .ref 0, .ref 45, .ref 65, .int (nI (1 + 5 * n)), v5, v6] [] (hpA K S S th fo) cs sl (.inl (some (.int 1)), hpF)
set_option maxHeartbeats 4000000 in
set_option maxRecDepth 100000 in
theorem lc_code {l : Launch} {G : zGP} {K m n : Nat} {S : St} {th : Int32} {fo : Nat → Int64} {v5 v6 : Value} {cs sl : Nat} (hn : 1 + 5 * n + 5 ≤ G.2.2.2.2.1) (hL : G.2.2.2.2.1 ≤ 2561) (hcs : cs ≤ 100 + 3 * n) (hsl : sl ≤ 2000 + 18 * n) (hag : AgV l G K m S m_L_code [.ref 0, .int (G.2.2.2.2.2.1 (1 + 5 * n + 1)), .int (G.2.2.2.2.2.1 (1 + 5 * n + 2)), .int (G.2.2.2.2.2.1 (1 + 5 * n + 3)), .int (G.2.2.2.2.2.1 (1 + 5 * n + 4)), .ref 65] m_M_code [.ref 45, .int (G.2.2.2.2.2.1 (1 + 5 * n + 1)), .int (G.2.2.2.2.2.1 (1 + 5 * n + 2)), .int (G.2.2.2.2.2.1 (1 + 5 * n + 3)), .int (G.2.2.2.2.2.1 (1 + 5 * n + 4))]) (k : ∀ S' m', m' ≤ m + 1 → Inv K S' m' → lwK l G K (n + 1) S') : ∃ hpF, Ev l G m_L_law 140 [.retAddr 0, .ref 0, .ref 45, .ref 65, .int (nI (1 + 5 * n)), v5, v6] [] (hpA K S S th fo) cs sl (.inl (some (.int 1)), hpF) := by
  obtain ⟨S', fo', code, v, m', hm', hI, hv, hA, hB⟩ := hag th fo
  obtain ⟨hpF, E⟩ := k S' m' hm' hI code fo' (.int code) (.int v) (cs + m_L_code.2.2.2.2.2.1.cells + m_M_code.2.2.2.2.2.1.cells + m_M_thrown.2.2.2.2.2.1.cells) (sl + m_L_code.2.2.2.2.2.1.slots + m_M_code.2.2.2.2.2.1.slots + m_M_thrown.2.2.2.2.2.1.slots) (by show cs + 2 + 0 + 0 ≤ _; omega) (by show sl + 12 + 0 + 0 ≤ _; omega)
  refine ⟨hpF, ?_⟩
  refine e_aload_n (pc := 140) d_L_law_140 rfl ?_
  refine e_aload_nS (pc := 141) d_L_law_141 rfl ?_
  refine e_iload (pc := 142) d_L_law_142 rfl ?_
  refine e_iconst (pc := 144) (v := 1) d_L_law_144 (by decide) ?_
  refine e_iadd (pc := 145) d_L_law_145 ?_
  refine e_topi (y := nI (1 + 5 * n + 1)) (nI_add _ 1) ?_
  refine e_sld (pc := 146) d_L_law_146 (vp_in_nI (by omega) (by omega)) (congrArg G.2.2.2.2.2.1 (nI_clamp (by omega))) ?_
  refine e_aload_nS (pc := 147) d_L_law_147 rfl ?_
  refine e_iload (pc := 148) d_L_law_148 rfl ?_
  refine e_iconst (pc := 150) (v := 2) d_L_law_150 (by decide) ?_
  refine e_iadd (pc := 151) d_L_law_151 ?_
  refine e_topi (y := nI (1 + 5 * n + 2)) (nI_add _ 2) ?_
  refine e_sld (pc := 152) d_L_law_152 (vp_in_nI (by omega) (by omega)) (congrArg G.2.2.2.2.2.1 (nI_clamp (by omega))) ?_
  refine e_aload_nS (pc := 153) d_L_law_153 rfl ?_
  refine e_iload (pc := 154) d_L_law_154 rfl ?_
  refine e_iconst (pc := 156) (v := 3) d_L_law_156 (by decide) ?_
  refine e_iadd (pc := 157) d_L_law_157 ?_
  refine e_topi (y := nI (1 + 5 * n + 3)) (nI_add _ 3) ?_
  refine e_sld (pc := 158) d_L_law_158 (vp_in_nI (by omega) (by omega)) (congrArg G.2.2.2.2.2.1 (nI_clamp (by omega))) ?_
  refine e_aload_nS (pc := 159) d_L_law_159 rfl ?_
  refine e_iload (pc := 160) d_L_law_160 rfl ?_
  refine e_iconst (pc := 162) (v := 4) d_L_law_162 (by decide) ?_
  refine e_iadd (pc := 163) d_L_law_163 ?_
  refine e_topi (y := nI (1 + 5 * n + 4)) (nI_add _ 4) ?_
  refine e_sld (pc := 164) d_L_law_164 (vp_in_nI (by omega) (by omega)) (congrArg G.2.2.2.2.2.1 (nI_clamp (by omega))) ?_
  refine e_aload_n (pc := 165) d_L_law_165 rfl ?_
  refine e_cS6 (pc := 166) s_L_law_166 (hA) (Nat.le_of_ble_eq_true rfl) (by show cs + 2 ≤ 650581; omega) (by show sl + 12 ≤ 7144328; omega) (zGo.v ?_)
  refine e_istore (pc := 169) d_L_law_169 (Nat.le_of_ble_eq_true rfl) ?_
  dsimp only [List.set]
  refine e_aload_n (pc := 171) d_L_law_171 rfl ?_
  refine e_aload_nS (pc := 172) d_L_law_172 rfl ?_
  refine e_iload (pc := 173) d_L_law_173 rfl ?_
  refine e_iconst (pc := 175) (v := 1) d_L_law_175 (by decide) ?_
  refine e_iadd (pc := 176) d_L_law_176 ?_
  refine e_topi (y := nI (1 + 5 * n + 1)) (nI_add _ 1) ?_
  refine e_sld (pc := 177) d_L_law_177 (vp_in_nI (by omega) (by omega)) (congrArg G.2.2.2.2.2.1 (nI_clamp (by omega))) ?_
  refine e_aload_nS (pc := 178) d_L_law_178 rfl ?_
  refine e_iload (pc := 179) d_L_law_179 rfl ?_
  refine e_iconst (pc := 181) (v := 2) d_L_law_181 (by decide) ?_
  refine e_iadd (pc := 182) d_L_law_182 ?_
  refine e_topi (y := nI (1 + 5 * n + 2)) (nI_add _ 2) ?_
  refine e_sld (pc := 183) d_L_law_183 (vp_in_nI (by omega) (by omega)) (congrArg G.2.2.2.2.2.1 (nI_clamp (by omega))) ?_
  refine e_aload_nS (pc := 184) d_L_law_184 rfl ?_
  refine e_iload (pc := 185) d_L_law_185 rfl ?_
  refine e_iconst (pc := 187) (v := 3) d_L_law_187 (by decide) ?_
  refine e_iadd (pc := 188) d_L_law_188 ?_
  refine e_topi (y := nI (1 + 5 * n + 3)) (nI_add _ 3) ?_
  refine e_sld (pc := 189) d_L_law_189 (vp_in_nI (by omega) (by omega)) (congrArg G.2.2.2.2.2.1 (nI_clamp (by omega))) ?_
  refine e_aload_nS (pc := 190) d_L_law_190 rfl ?_
  refine e_iload (pc := 191) d_L_law_191 rfl ?_
  refine e_iconst (pc := 193) (v := 4) d_L_law_193 (by decide) ?_
  refine e_iadd (pc := 194) d_L_law_194 ?_
  refine e_topi (y := nI (1 + 5 * n + 4)) (nI_add _ 4) ?_
  refine e_sld (pc := 195) d_L_law_195 (vp_in_nI (by omega) (by omega)) (congrArg G.2.2.2.2.2.1 (nI_clamp (by omega))) ?_
  refine e_cV4 (pc := 196) s_L_law_196 (hB) rfl rfl rfl (Nat.le_of_ble_eq_true rfl) (by show cs + 2 + 0 ≤ 650581; omega) (by show sl + 12 + 0 ≤ 7144328; omega) (zGo.v ?_)
  refine e_istore (pc := 199) d_L_law_199 (Nat.le_of_ble_eq_true rfl) ?_
  dsimp only [List.set]
  refine e_aload_n (pc := 201) d_L_law_201 rfl ?_
  refine e_cV0 (pc := 202) s_L_law_202 (sM_thrown) rfl rfl rfl (Nat.le_of_ble_eq_true rfl) (by show cs + 2 + 0 + 0 ≤ 650581; omega) (by show sl + 12 + 0 + 0 ≤ 7144328; omega) (zGo.v ?_)
  refine e_iload (pc := 205) d_L_law_205 rfl ?_
  refine e_icmp_eq (pc := 207) (tgt := 212) d_L_law_207 (by decide) (fun _ => ?_) (fun zz => absurd (rfl) zz)
  refine e_iload (pc := 212) d_L_law_212 rfl ?_
  refine e_if_ne (pc := 214) (tgt := 229) d_L_law_214 (by decide) (fun hz1 => ?_) (fun hz1 => ?_)
  · refine e_goto (pc := 229) (tgt := 1249) d_L_law_229 (by decide) ?_
    refine e_iinc (pc := 1249) d_L_law_1249 rfl (Nat.le_of_ble_eq_true rfl) ?_
    dsimp only [List.set]
    refine e_goto (pc := 1252) (tgt := 33) d_L_law_1252 (by decide) ?_
    exact (add5 n) ▸ E
  · refine e_aload_n (pc := 217) d_L_law_217 rfl ?_
    refine e_iconst (pc := 218) (v := 0) d_L_law_218 (by decide) ?_
    refine e_lald (pc := 219) d_L_law_219 rfl (vp_dec (by decide)) rfl ?_
    refine e_iload (pc := 220) d_L_law_220 rfl ?_
    refine e_i2l (pc := 222) d_L_law_222 ?_
    refine e_lcmp (pc := 223) d_L_law_223 ?_
    refine e_if_eq (pc := 224) (tgt := 229) d_L_law_224 (by decide) (fun _ => ?_) (fun zz => absurd (lgE (hv (by assumption))) zz)
    refine e_goto (pc := 229) (tgt := 1249) d_L_law_229 (by decide) ?_
    refine e_iinc (pc := 1249) d_L_law_1249 rfl (Nat.le_of_ble_eq_true rfl) ?_
    dsimp only [List.set]
    refine e_goto (pc := 1252) (tgt := 33) d_L_law_1252 (by decide) ?_
    exact (add5 n) ▸ E
set_option maxHeartbeats 4000000 in
set_option maxRecDepth 100000 in
theorem lc_poke {l : Launch} {G : zGP} {K m n : Nat} {S : St} {th : Int32} {fo : Nat → Int64} {v5 v6 : Value} {cs sl : Nat} (hn : 1 + 5 * n + 5 ≤ G.2.2.2.2.1) (hL : G.2.2.2.2.1 ≤ 2561) (hcs : cs ≤ 100 + 3 * n) (hsl : sl ≤ 2000 + 18 * n) (hag : AgN l G K m S m_L_poke [.ref 0, .int (G.2.2.2.2.2.1 (1 + 5 * n + 1)), .int (G.2.2.2.2.2.1 (1 + 5 * n + 2))] m_M_poke [.ref 45, .int (G.2.2.2.2.2.1 (1 + 5 * n + 1)), .int (G.2.2.2.2.2.1 (1 + 5 * n + 2))]) (k : ∀ S' m', m' ≤ m + 1 → Inv K S' m' → lwK l G K (n + 1) S') : ∃ hpF, Ev l G m_L_law 232 [.retAddr 0, .ref 0, .ref 45, .ref 65, .int (nI (1 + 5 * n)), v5, v6] [] (hpA K S S th fo) cs sl (.inl (some (.int 1)), hpF) := by
  obtain ⟨S', fo', code, m', hm', hI, hA, hB⟩ := hag th fo
  obtain ⟨hpF, E⟩ := k S' m' hm' hI code fo' (.int code) v6 (cs + m_L_poke.2.2.2.2.2.1.cells + m_M_poke.2.2.2.2.2.1.cells + m_M_thrown.2.2.2.2.2.1.cells) (sl + m_L_poke.2.2.2.2.2.1.slots + m_M_poke.2.2.2.2.2.1.slots + m_M_thrown.2.2.2.2.2.1.slots) (by show cs + 2 + 0 + 0 ≤ _; omega) (by show sl + 12 + 0 + 0 ≤ _; omega)
  refine ⟨hpF, ?_⟩
  refine e_aload_n (pc := 232) d_L_law_232 rfl ?_
  refine e_aload_nS (pc := 233) d_L_law_233 rfl ?_
  refine e_iload (pc := 234) d_L_law_234 rfl ?_
  refine e_iconst (pc := 236) (v := 1) d_L_law_236 (by decide) ?_
  refine e_iadd (pc := 237) d_L_law_237 ?_
  refine e_topi (y := nI (1 + 5 * n + 1)) (nI_add _ 1) ?_
  refine e_sld (pc := 238) d_L_law_238 (vp_in_nI (by omega) (by omega)) (congrArg G.2.2.2.2.2.1 (nI_clamp (by omega))) ?_
  refine e_aload_nS (pc := 239) d_L_law_239 rfl ?_
  refine e_iload (pc := 240) d_L_law_240 rfl ?_
  refine e_iconst (pc := 242) (v := 2) d_L_law_242 (by decide) ?_
  refine e_iadd (pc := 243) d_L_law_243 ?_
  refine e_topi (y := nI (1 + 5 * n + 2)) (nI_add _ 2) ?_
  refine e_sld (pc := 244) d_L_law_244 (vp_in_nI (by omega) (by omega)) (congrArg G.2.2.2.2.2.1 (nI_clamp (by omega))) ?_
  refine e_cS3 (pc := 245) s_L_law_245 (hA) (Nat.le_of_ble_eq_true rfl) (by show cs + 2 ≤ 650581; omega) (by show sl + 12 ≤ 7144328; omega) (zGo.v ?_)
  refine e_istore (pc := 248) d_L_law_248 (Nat.le_of_ble_eq_true rfl) ?_
  dsimp only [List.set]
  refine e_aload_n (pc := 250) d_L_law_250 rfl ?_
  refine e_aload_nS (pc := 251) d_L_law_251 rfl ?_
  refine e_iload (pc := 252) d_L_law_252 rfl ?_
  refine e_iconst (pc := 254) (v := 1) d_L_law_254 (by decide) ?_
  refine e_iadd (pc := 255) d_L_law_255 ?_
  refine e_topi (y := nI (1 + 5 * n + 1)) (nI_add _ 1) ?_
  refine e_sld (pc := 256) d_L_law_256 (vp_in_nI (by omega) (by omega)) (congrArg G.2.2.2.2.2.1 (nI_clamp (by omega))) ?_
  refine e_aload_nS (pc := 257) d_L_law_257 rfl ?_
  refine e_iload (pc := 258) d_L_law_258 rfl ?_
  refine e_iconst (pc := 260) (v := 2) d_L_law_260 (by decide) ?_
  refine e_iadd (pc := 261) d_L_law_261 ?_
  refine e_topi (y := nI (1 + 5 * n + 2)) (nI_add _ 2) ?_
  refine e_sld (pc := 262) d_L_law_262 (vp_in_nI (by omega) (by omega)) (congrArg G.2.2.2.2.2.1 (nI_clamp (by omega))) ?_
  refine e_cV2 (pc := 263) s_L_law_263 (hB) rfl rfl rfl (Nat.le_of_ble_eq_true rfl) (by show cs + 2 + 0 ≤ 650581; omega) (by show sl + 12 + 0 ≤ 7144328; omega) (zGo.n ?_)
  refine e_aload_n (pc := 266) d_L_law_266 rfl ?_
  refine e_cV0 (pc := 267) s_L_law_267 (sM_thrown) rfl rfl rfl (Nat.le_of_ble_eq_true rfl) (by show cs + 2 + 0 + 0 ≤ 650581; omega) (by show sl + 12 + 0 + 0 ≤ 7144328; omega) (zGo.v ?_)
  refine e_iload (pc := 270) d_L_law_270 rfl ?_
  refine e_icmp_eq (pc := 272) (tgt := 277) d_L_law_272 (by decide) (fun _ => ?_) (fun zz => absurd (rfl) zz)
  refine e_goto (pc := 277) (tgt := 1249) d_L_law_277 (by decide) ?_
  refine e_iinc (pc := 1249) d_L_law_1249 rfl (Nat.le_of_ble_eq_true rfl) ?_
  dsimp only [List.set]
  refine e_goto (pc := 1252) (tgt := 33) d_L_law_1252 (by decide) ?_
  exact (add5 n) ▸ E
set_option maxHeartbeats 4000000 in
set_option maxRecDepth 100000 in
theorem lc_step {l : Launch} {G : zGP} {K m n : Nat} {S : St} {th : Int32} {fo : Nat → Int64} {v5 v6 : Value} {cs sl : Nat} (hn : 1 + 5 * n + 5 ≤ G.2.2.2.2.1) (hL : G.2.2.2.2.1 ≤ 2561) (hcs : cs ≤ 100 + 3 * n) (hsl : sl ≤ 2000 + 18 * n) (hag : AgV l G K m S m_L_step [.ref 0, .int (G.2.2.2.2.2.1 (1 + 5 * n + 1)), .ref 65] m_M_step [.ref 45, .int (G.2.2.2.2.2.1 (1 + 5 * n + 1))]) (k : ∀ S' m', m' ≤ m + 1 → Inv K S' m' → lwK l G K (n + 1) S') : ∃ hpF, Ev l G m_L_law 280 [.retAddr 0, .ref 0, .ref 45, .ref 65, .int (nI (1 + 5 * n)), v5, v6] [] (hpA K S S th fo) cs sl (.inl (some (.int 1)), hpF) := by
  obtain ⟨S', fo', code, v, m', hm', hI, hv, hA, hB⟩ := hag th fo
  obtain ⟨hpF, E⟩ := k S' m' hm' hI code fo' (.int code) (.int v) (cs + m_L_step.2.2.2.2.2.1.cells + m_M_step.2.2.2.2.2.1.cells + m_M_thrown.2.2.2.2.2.1.cells) (sl + m_L_step.2.2.2.2.2.1.slots + m_M_step.2.2.2.2.2.1.slots + m_M_thrown.2.2.2.2.2.1.slots) (by show cs + 1 + 0 + 0 ≤ _; omega) (by show sl + 6 + 0 + 0 ≤ _; omega)
  refine ⟨hpF, ?_⟩
  refine e_aload_n (pc := 280) d_L_law_280 rfl ?_
  refine e_aload_nS (pc := 281) d_L_law_281 rfl ?_
  refine e_iload (pc := 282) d_L_law_282 rfl ?_
  refine e_iconst (pc := 284) (v := 1) d_L_law_284 (by decide) ?_
  refine e_iadd (pc := 285) d_L_law_285 ?_
  refine e_topi (y := nI (1 + 5 * n + 1)) (nI_add _ 1) ?_
  refine e_sld (pc := 286) d_L_law_286 (vp_in_nI (by omega) (by omega)) (congrArg G.2.2.2.2.2.1 (nI_clamp (by omega))) ?_
  refine e_aload_n (pc := 287) d_L_law_287 rfl ?_
  refine e_cS3 (pc := 288) s_L_law_288 (hA) (Nat.le_of_ble_eq_true rfl) (by show cs + 1 ≤ 650581; omega) (by show sl + 6 ≤ 7144328; omega) (zGo.v ?_)
  refine e_istore (pc := 291) d_L_law_291 (Nat.le_of_ble_eq_true rfl) ?_
  dsimp only [List.set]
  refine e_aload_n (pc := 293) d_L_law_293 rfl ?_
  refine e_aload_nS (pc := 294) d_L_law_294 rfl ?_
  refine e_iload (pc := 295) d_L_law_295 rfl ?_
  refine e_iconst (pc := 297) (v := 1) d_L_law_297 (by decide) ?_
  refine e_iadd (pc := 298) d_L_law_298 ?_
  refine e_topi (y := nI (1 + 5 * n + 1)) (nI_add _ 1) ?_
  refine e_sld (pc := 299) d_L_law_299 (vp_in_nI (by omega) (by omega)) (congrArg G.2.2.2.2.2.1 (nI_clamp (by omega))) ?_
  refine e_cV1 (pc := 300) s_L_law_300 (hB) rfl rfl rfl (Nat.le_of_ble_eq_true rfl) (by show cs + 1 + 0 ≤ 650581; omega) (by show sl + 6 + 0 ≤ 7144328; omega) (zGo.v ?_)
  refine e_istore (pc := 303) d_L_law_303 (Nat.le_of_ble_eq_true rfl) ?_
  dsimp only [List.set]
  refine e_aload_n (pc := 305) d_L_law_305 rfl ?_
  refine e_cV0 (pc := 306) s_L_law_306 (sM_thrown) rfl rfl rfl (Nat.le_of_ble_eq_true rfl) (by show cs + 1 + 0 + 0 ≤ 650581; omega) (by show sl + 6 + 0 + 0 ≤ 7144328; omega) (zGo.v ?_)
  refine e_iload (pc := 309) d_L_law_309 rfl ?_
  refine e_icmp_eq (pc := 311) (tgt := 316) d_L_law_311 (by decide) (fun _ => ?_) (fun zz => absurd (rfl) zz)
  refine e_iload (pc := 316) d_L_law_316 rfl ?_
  refine e_if_ne (pc := 318) (tgt := 333) d_L_law_318 (by decide) (fun hz2 => ?_) (fun hz2 => ?_)
  · refine e_goto (pc := 333) (tgt := 1249) d_L_law_333 (by decide) ?_
    refine e_iinc (pc := 1249) d_L_law_1249 rfl (Nat.le_of_ble_eq_true rfl) ?_
    dsimp only [List.set]
    refine e_goto (pc := 1252) (tgt := 33) d_L_law_1252 (by decide) ?_
    exact (add5 n) ▸ E
  · refine e_aload_n (pc := 321) d_L_law_321 rfl ?_
    refine e_iconst (pc := 322) (v := 0) d_L_law_322 (by decide) ?_
    refine e_lald (pc := 323) d_L_law_323 rfl (vp_dec (by decide)) rfl ?_
    refine e_iload (pc := 324) d_L_law_324 rfl ?_
    refine e_i2l (pc := 326) d_L_law_326 ?_
    refine e_lcmp (pc := 327) d_L_law_327 ?_
    refine e_if_eq (pc := 328) (tgt := 333) d_L_law_328 (by decide) (fun _ => ?_) (fun zz => absurd (lgE (hv (by assumption))) zz)
    refine e_goto (pc := 333) (tgt := 1249) d_L_law_333 (by decide) ?_
    refine e_iinc (pc := 1249) d_L_law_1249 rfl (Nat.le_of_ble_eq_true rfl) ?_
    dsimp only [List.set]
    refine e_goto (pc := 1252) (tgt := 33) d_L_law_1252 (by decide) ?_
    exact (add5 n) ▸ E
set_option maxHeartbeats 4000000 in
set_option maxRecDepth 100000 in
theorem lc_drain {l : Launch} {G : zGP} {K m n : Nat} {S : St} {th : Int32} {fo : Nat → Int64} {v5 v6 : Value} {cs sl : Nat} (hn : 1 + 5 * n + 5 ≤ G.2.2.2.2.1) (hL : G.2.2.2.2.1 ≤ 2561) (hcs : cs ≤ 100 + 3 * n) (hsl : sl ≤ 2000 + 18 * n) (hag : AgV l G K m S m_L_drain [.ref 0, .int (G.2.2.2.2.2.1 (1 + 5 * n + 1)), .ref 65] m_M_drain [.ref 45, .int (G.2.2.2.2.2.1 (1 + 5 * n + 1))]) (k : ∀ S' m', m' ≤ m + 1 → Inv K S' m' → lwK l G K (n + 1) S') : ∃ hpF, Ev l G m_L_law 336 [.retAddr 0, .ref 0, .ref 45, .ref 65, .int (nI (1 + 5 * n)), v5, v6] [] (hpA K S S th fo) cs sl (.inl (some (.int 1)), hpF) := by
  obtain ⟨S', fo', code, v, m', hm', hI, hv, hA, hB⟩ := hag th fo
  obtain ⟨hpF, E⟩ := k S' m' hm' hI code fo' (.int code) (.int v) (cs + m_L_drain.2.2.2.2.2.1.cells + m_M_drain.2.2.2.2.2.1.cells + m_M_thrown.2.2.2.2.2.1.cells) (sl + m_L_drain.2.2.2.2.2.1.slots + m_M_drain.2.2.2.2.2.1.slots + m_M_thrown.2.2.2.2.2.1.slots) (by show cs + 1 + 0 + 0 ≤ _; omega) (by show sl + 6 + 0 + 0 ≤ _; omega)
  refine ⟨hpF, ?_⟩
  refine e_aload_n (pc := 336) d_L_law_336 rfl ?_
  refine e_aload_nS (pc := 337) d_L_law_337 rfl ?_
  refine e_iload (pc := 338) d_L_law_338 rfl ?_
  refine e_iconst (pc := 340) (v := 1) d_L_law_340 (by decide) ?_
  refine e_iadd (pc := 341) d_L_law_341 ?_
  refine e_topi (y := nI (1 + 5 * n + 1)) (nI_add _ 1) ?_
  refine e_sld (pc := 342) d_L_law_342 (vp_in_nI (by omega) (by omega)) (congrArg G.2.2.2.2.2.1 (nI_clamp (by omega))) ?_
  refine e_aload_n (pc := 343) d_L_law_343 rfl ?_
  refine e_cS3 (pc := 344) s_L_law_344 (hA) (Nat.le_of_ble_eq_true rfl) (by show cs + 1 ≤ 650581; omega) (by show sl + 6 ≤ 7144328; omega) (zGo.v ?_)
  refine e_istore (pc := 347) d_L_law_347 (Nat.le_of_ble_eq_true rfl) ?_
  dsimp only [List.set]
  refine e_aload_n (pc := 349) d_L_law_349 rfl ?_
  refine e_aload_nS (pc := 350) d_L_law_350 rfl ?_
  refine e_iload (pc := 351) d_L_law_351 rfl ?_
  refine e_iconst (pc := 353) (v := 1) d_L_law_353 (by decide) ?_
  refine e_iadd (pc := 354) d_L_law_354 ?_
  refine e_topi (y := nI (1 + 5 * n + 1)) (nI_add _ 1) ?_
  refine e_sld (pc := 355) d_L_law_355 (vp_in_nI (by omega) (by omega)) (congrArg G.2.2.2.2.2.1 (nI_clamp (by omega))) ?_
  refine e_cV1 (pc := 356) s_L_law_356 (hB) rfl rfl rfl (Nat.le_of_ble_eq_true rfl) (by show cs + 1 + 0 ≤ 650581; omega) (by show sl + 6 + 0 ≤ 7144328; omega) (zGo.v ?_)
  refine e_istore (pc := 359) d_L_law_359 (Nat.le_of_ble_eq_true rfl) ?_
  dsimp only [List.set]
  refine e_aload_n (pc := 361) d_L_law_361 rfl ?_
  refine e_cV0 (pc := 362) s_L_law_362 (sM_thrown) rfl rfl rfl (Nat.le_of_ble_eq_true rfl) (by show cs + 1 + 0 + 0 ≤ 650581; omega) (by show sl + 6 + 0 + 0 ≤ 7144328; omega) (zGo.v ?_)
  refine e_iload (pc := 365) d_L_law_365 rfl ?_
  refine e_icmp_eq (pc := 367) (tgt := 372) d_L_law_367 (by decide) (fun _ => ?_) (fun zz => absurd (rfl) zz)
  refine e_iload (pc := 372) d_L_law_372 rfl ?_
  refine e_if_ne (pc := 374) (tgt := 389) d_L_law_374 (by decide) (fun hz3 => ?_) (fun hz3 => ?_)
  · refine e_goto (pc := 389) (tgt := 1249) d_L_law_389 (by decide) ?_
    refine e_iinc (pc := 1249) d_L_law_1249 rfl (Nat.le_of_ble_eq_true rfl) ?_
    dsimp only [List.set]
    refine e_goto (pc := 1252) (tgt := 33) d_L_law_1252 (by decide) ?_
    exact (add5 n) ▸ E
  · refine e_aload_n (pc := 377) d_L_law_377 rfl ?_
    refine e_iconst (pc := 378) (v := 0) d_L_law_378 (by decide) ?_
    refine e_lald (pc := 379) d_L_law_379 rfl (vp_dec (by decide)) rfl ?_
    refine e_iload (pc := 380) d_L_law_380 rfl ?_
    refine e_i2l (pc := 382) d_L_law_382 ?_
    refine e_lcmp (pc := 383) d_L_law_383 ?_
    refine e_if_eq (pc := 384) (tgt := 389) d_L_law_384 (by decide) (fun _ => ?_) (fun zz => absurd (lgE (hv (by assumption))) zz)
    refine e_goto (pc := 389) (tgt := 1249) d_L_law_389 (by decide) ?_
    refine e_iinc (pc := 1249) d_L_law_1249 rfl (Nat.le_of_ble_eq_true rfl) ?_
    dsimp only [List.set]
    refine e_goto (pc := 1252) (tgt := 33) d_L_law_1252 (by decide) ?_
    exact (add5 n) ▸ E
set_option maxHeartbeats 4000000 in
set_option maxRecDepth 100000 in
theorem lc_grant {l : Launch} {G : zGP} {K m n : Nat} {S : St} {th : Int32} {fo : Nat → Int64} {v5 v6 : Value} {cs sl : Nat} (hn : 1 + 5 * n + 5 ≤ G.2.2.2.2.1) (hL : G.2.2.2.2.1 ≤ 2561) (hcs : cs ≤ 100 + 3 * n) (hsl : sl ≤ 2000 + 18 * n) (hag : AgV l G K m S m_L_grant [.ref 0, .int (G.2.2.2.2.2.1 (1 + 5 * n + 1)), .ref 65] m_M_grant [.ref 45, .int (G.2.2.2.2.2.1 (1 + 5 * n + 1))]) (k : ∀ S' m', m' ≤ m + 1 → Inv K S' m' → lwK l G K (n + 1) S') : ∃ hpF, Ev l G m_L_law 392 [.retAddr 0, .ref 0, .ref 45, .ref 65, .int (nI (1 + 5 * n)), v5, v6] [] (hpA K S S th fo) cs sl (.inl (some (.int 1)), hpF) := by
  obtain ⟨S', fo', code, v, m', hm', hI, hv, hA, hB⟩ := hag th fo
  obtain ⟨hpF, E⟩ := k S' m' hm' hI code fo' (.int code) (.int v) (cs + m_L_grant.2.2.2.2.2.1.cells + m_M_grant.2.2.2.2.2.1.cells + m_M_thrown.2.2.2.2.2.1.cells) (sl + m_L_grant.2.2.2.2.2.1.slots + m_M_grant.2.2.2.2.2.1.slots + m_M_thrown.2.2.2.2.2.1.slots) (by show cs + 1 + 0 + 0 ≤ _; omega) (by show sl + 6 + 0 + 0 ≤ _; omega)
  refine ⟨hpF, ?_⟩
  refine e_aload_n (pc := 392) d_L_law_392 rfl ?_
  refine e_aload_nS (pc := 393) d_L_law_393 rfl ?_
  refine e_iload (pc := 394) d_L_law_394 rfl ?_
  refine e_iconst (pc := 396) (v := 1) d_L_law_396 (by decide) ?_
  refine e_iadd (pc := 397) d_L_law_397 ?_
  refine e_topi (y := nI (1 + 5 * n + 1)) (nI_add _ 1) ?_
  refine e_sld (pc := 398) d_L_law_398 (vp_in_nI (by omega) (by omega)) (congrArg G.2.2.2.2.2.1 (nI_clamp (by omega))) ?_
  refine e_aload_n (pc := 399) d_L_law_399 rfl ?_
  refine e_cS3 (pc := 400) s_L_law_400 (hA) (Nat.le_of_ble_eq_true rfl) (by show cs + 1 ≤ 650581; omega) (by show sl + 6 ≤ 7144328; omega) (zGo.v ?_)
  refine e_istore (pc := 403) d_L_law_403 (Nat.le_of_ble_eq_true rfl) ?_
  dsimp only [List.set]
  refine e_aload_n (pc := 405) d_L_law_405 rfl ?_
  refine e_aload_nS (pc := 406) d_L_law_406 rfl ?_
  refine e_iload (pc := 407) d_L_law_407 rfl ?_
  refine e_iconst (pc := 409) (v := 1) d_L_law_409 (by decide) ?_
  refine e_iadd (pc := 410) d_L_law_410 ?_
  refine e_topi (y := nI (1 + 5 * n + 1)) (nI_add _ 1) ?_
  refine e_sld (pc := 411) d_L_law_411 (vp_in_nI (by omega) (by omega)) (congrArg G.2.2.2.2.2.1 (nI_clamp (by omega))) ?_
  refine e_cV1 (pc := 412) s_L_law_412 (hB) rfl rfl rfl (Nat.le_of_ble_eq_true rfl) (by show cs + 1 + 0 ≤ 650581; omega) (by show sl + 6 + 0 ≤ 7144328; omega) (zGo.v ?_)
  refine e_istore (pc := 415) d_L_law_415 (Nat.le_of_ble_eq_true rfl) ?_
  dsimp only [List.set]
  refine e_aload_n (pc := 417) d_L_law_417 rfl ?_
  refine e_cV0 (pc := 418) s_L_law_418 (sM_thrown) rfl rfl rfl (Nat.le_of_ble_eq_true rfl) (by show cs + 1 + 0 + 0 ≤ 650581; omega) (by show sl + 6 + 0 + 0 ≤ 7144328; omega) (zGo.v ?_)
  refine e_iload (pc := 421) d_L_law_421 rfl ?_
  refine e_icmp_eq (pc := 423) (tgt := 428) d_L_law_423 (by decide) (fun _ => ?_) (fun zz => absurd (rfl) zz)
  refine e_iload (pc := 428) d_L_law_428 rfl ?_
  refine e_if_ne (pc := 430) (tgt := 445) d_L_law_430 (by decide) (fun hz4 => ?_) (fun hz4 => ?_)
  · refine e_goto (pc := 445) (tgt := 1249) d_L_law_445 (by decide) ?_
    refine e_iinc (pc := 1249) d_L_law_1249 rfl (Nat.le_of_ble_eq_true rfl) ?_
    dsimp only [List.set]
    refine e_goto (pc := 1252) (tgt := 33) d_L_law_1252 (by decide) ?_
    exact (add5 n) ▸ E
  · refine e_aload_n (pc := 433) d_L_law_433 rfl ?_
    refine e_iconst (pc := 434) (v := 0) d_L_law_434 (by decide) ?_
    refine e_lald (pc := 435) d_L_law_435 rfl (vp_dec (by decide)) rfl ?_
    refine e_iload (pc := 436) d_L_law_436 rfl ?_
    refine e_i2l (pc := 438) d_L_law_438 ?_
    refine e_lcmp (pc := 439) d_L_law_439 ?_
    refine e_if_eq (pc := 440) (tgt := 445) d_L_law_440 (by decide) (fun _ => ?_) (fun zz => absurd (lgE (hv (by assumption))) zz)
    refine e_goto (pc := 445) (tgt := 1249) d_L_law_445 (by decide) ?_
    refine e_iinc (pc := 1249) d_L_law_1249 rfl (Nat.le_of_ble_eq_true rfl) ?_
    dsimp only [List.set]
    refine e_goto (pc := 1252) (tgt := 33) d_L_law_1252 (by decide) ?_
    exact (add5 n) ▸ E
set_option maxHeartbeats 4000000 in
set_option maxRecDepth 100000 in
theorem lc_fill {l : Launch} {G : zGP} {K m n : Nat} {S : St} {th : Int32} {fo : Nat → Int64} {v5 v6 : Value} {cs sl : Nat} (hn : 1 + 5 * n + 5 ≤ G.2.2.2.2.1) (hL : G.2.2.2.2.1 ≤ 2561) (hcs : cs ≤ 100 + 3 * n) (hsl : sl ≤ 2000 + 18 * n) (hag : AgV l G K m S m_L_fill [.ref 0, .int (G.2.2.2.2.2.1 (1 + 5 * n + 1)), .ref 65] m_M_fill [.ref 45, .int (G.2.2.2.2.2.1 (1 + 5 * n + 1))]) (k : ∀ S' m', m' ≤ m + 1 → Inv K S' m' → lwK l G K (n + 1) S') : ∃ hpF, Ev l G m_L_law 448 [.retAddr 0, .ref 0, .ref 45, .ref 65, .int (nI (1 + 5 * n)), v5, v6] [] (hpA K S S th fo) cs sl (.inl (some (.int 1)), hpF) := by
  obtain ⟨S', fo', code, v, m', hm', hI, hv, hA, hB⟩ := hag th fo
  obtain ⟨hpF, E⟩ := k S' m' hm' hI code fo' (.int code) (.int v) (cs + m_L_fill.2.2.2.2.2.1.cells + m_M_fill.2.2.2.2.2.1.cells + m_M_thrown.2.2.2.2.2.1.cells) (sl + m_L_fill.2.2.2.2.2.1.slots + m_M_fill.2.2.2.2.2.1.slots + m_M_thrown.2.2.2.2.2.1.slots) (by show cs + 1 + 0 + 0 ≤ _; omega) (by show sl + 6 + 0 + 0 ≤ _; omega)
  refine ⟨hpF, ?_⟩
  refine e_aload_n (pc := 448) d_L_law_448 rfl ?_
  refine e_aload_nS (pc := 449) d_L_law_449 rfl ?_
  refine e_iload (pc := 450) d_L_law_450 rfl ?_
  refine e_iconst (pc := 452) (v := 1) d_L_law_452 (by decide) ?_
  refine e_iadd (pc := 453) d_L_law_453 ?_
  refine e_topi (y := nI (1 + 5 * n + 1)) (nI_add _ 1) ?_
  refine e_sld (pc := 454) d_L_law_454 (vp_in_nI (by omega) (by omega)) (congrArg G.2.2.2.2.2.1 (nI_clamp (by omega))) ?_
  refine e_aload_n (pc := 455) d_L_law_455 rfl ?_
  refine e_cS3 (pc := 456) s_L_law_456 (hA) (Nat.le_of_ble_eq_true rfl) (by show cs + 1 ≤ 650581; omega) (by show sl + 6 ≤ 7144328; omega) (zGo.v ?_)
  refine e_istore (pc := 459) d_L_law_459 (Nat.le_of_ble_eq_true rfl) ?_
  dsimp only [List.set]
  refine e_aload_n (pc := 461) d_L_law_461 rfl ?_
  refine e_aload_nS (pc := 462) d_L_law_462 rfl ?_
  refine e_iload (pc := 463) d_L_law_463 rfl ?_
  refine e_iconst (pc := 465) (v := 1) d_L_law_465 (by decide) ?_
  refine e_iadd (pc := 466) d_L_law_466 ?_
  refine e_topi (y := nI (1 + 5 * n + 1)) (nI_add _ 1) ?_
  refine e_sld (pc := 467) d_L_law_467 (vp_in_nI (by omega) (by omega)) (congrArg G.2.2.2.2.2.1 (nI_clamp (by omega))) ?_
  refine e_cV1 (pc := 468) s_L_law_468 (hB) rfl rfl rfl (Nat.le_of_ble_eq_true rfl) (by show cs + 1 + 0 ≤ 650581; omega) (by show sl + 6 + 0 ≤ 7144328; omega) (zGo.v ?_)
  refine e_istore (pc := 471) d_L_law_471 (Nat.le_of_ble_eq_true rfl) ?_
  dsimp only [List.set]
  refine e_aload_n (pc := 473) d_L_law_473 rfl ?_
  refine e_cV0 (pc := 474) s_L_law_474 (sM_thrown) rfl rfl rfl (Nat.le_of_ble_eq_true rfl) (by show cs + 1 + 0 + 0 ≤ 650581; omega) (by show sl + 6 + 0 + 0 ≤ 7144328; omega) (zGo.v ?_)
  refine e_iload (pc := 477) d_L_law_477 rfl ?_
  refine e_icmp_eq (pc := 479) (tgt := 484) d_L_law_479 (by decide) (fun _ => ?_) (fun zz => absurd (rfl) zz)
  refine e_iload (pc := 484) d_L_law_484 rfl ?_
  refine e_if_ne (pc := 486) (tgt := 501) d_L_law_486 (by decide) (fun hz5 => ?_) (fun hz5 => ?_)
  · refine e_goto (pc := 501) (tgt := 1249) d_L_law_501 (by decide) ?_
    refine e_iinc (pc := 1249) d_L_law_1249 rfl (Nat.le_of_ble_eq_true rfl) ?_
    dsimp only [List.set]
    refine e_goto (pc := 1252) (tgt := 33) d_L_law_1252 (by decide) ?_
    exact (add5 n) ▸ E
  · refine e_aload_n (pc := 489) d_L_law_489 rfl ?_
    refine e_iconst (pc := 490) (v := 0) d_L_law_490 (by decide) ?_
    refine e_lald (pc := 491) d_L_law_491 rfl (vp_dec (by decide)) rfl ?_
    refine e_iload (pc := 492) d_L_law_492 rfl ?_
    refine e_i2l (pc := 494) d_L_law_494 ?_
    refine e_lcmp (pc := 495) d_L_law_495 ?_
    refine e_if_eq (pc := 496) (tgt := 501) d_L_law_496 (by decide) (fun _ => ?_) (fun zz => absurd (lgE (hv (by assumption))) zz)
    refine e_goto (pc := 501) (tgt := 1249) d_L_law_501 (by decide) ?_
    refine e_iinc (pc := 1249) d_L_law_1249 rfl (Nat.le_of_ble_eq_true rfl) ?_
    dsimp only [List.set]
    refine e_goto (pc := 1252) (tgt := 33) d_L_law_1252 (by decide) ?_
    exact (add5 n) ▸ E
set_option maxHeartbeats 4000000 in
set_option maxRecDepth 100000 in
theorem lc_register {l : Launch} {G : zGP} {K m n : Nat} {S : St} {th : Int32} {fo : Nat → Int64} {v5 v6 : Value} {cs sl : Nat} (hn : 1 + 5 * n + 5 ≤ G.2.2.2.2.1) (hL : G.2.2.2.2.1 ≤ 2561) (hcs : cs ≤ 100 + 3 * n) (hsl : sl ≤ 2000 + 18 * n) (hag : AgV l G K m S m_L_register [.ref 0, .int (G.2.2.2.2.2.1 (1 + 5 * n + 1)), .int (G.2.2.2.2.2.1 (1 + 5 * n + 2)), .ref 65] m_M_register [.ref 45, .int (G.2.2.2.2.2.1 (1 + 5 * n + 1)), .int (G.2.2.2.2.2.1 (1 + 5 * n + 2))]) (k : ∀ S' m', m' ≤ m + 1 → Inv K S' m' → lwK l G K (n + 1) S') : ∃ hpF, Ev l G m_L_law 504 [.retAddr 0, .ref 0, .ref 45, .ref 65, .int (nI (1 + 5 * n)), v5, v6] [] (hpA K S S th fo) cs sl (.inl (some (.int 1)), hpF) := by
  obtain ⟨S', fo', code, v, m', hm', hI, hv, hA, hB⟩ := hag th fo
  obtain ⟨hpF, E⟩ := k S' m' hm' hI code fo' (.int code) (.int v) (cs + m_L_register.2.2.2.2.2.1.cells + m_M_register.2.2.2.2.2.1.cells + m_M_thrown.2.2.2.2.2.1.cells) (sl + m_L_register.2.2.2.2.2.1.slots + m_M_register.2.2.2.2.2.1.slots + m_M_thrown.2.2.2.2.2.1.slots) (by show cs + 2 + 0 + 0 ≤ _; omega) (by show sl + 12 + 0 + 0 ≤ _; omega)
  refine ⟨hpF, ?_⟩
  refine e_aload_n (pc := 504) d_L_law_504 rfl ?_
  refine e_aload_nS (pc := 505) d_L_law_505 rfl ?_
  refine e_iload (pc := 506) d_L_law_506 rfl ?_
  refine e_iconst (pc := 508) (v := 1) d_L_law_508 (by decide) ?_
  refine e_iadd (pc := 509) d_L_law_509 ?_
  refine e_topi (y := nI (1 + 5 * n + 1)) (nI_add _ 1) ?_
  refine e_sld (pc := 510) d_L_law_510 (vp_in_nI (by omega) (by omega)) (congrArg G.2.2.2.2.2.1 (nI_clamp (by omega))) ?_
  refine e_aload_nS (pc := 511) d_L_law_511 rfl ?_
  refine e_iload (pc := 512) d_L_law_512 rfl ?_
  refine e_iconst (pc := 514) (v := 2) d_L_law_514 (by decide) ?_
  refine e_iadd (pc := 515) d_L_law_515 ?_
  refine e_topi (y := nI (1 + 5 * n + 2)) (nI_add _ 2) ?_
  refine e_sld (pc := 516) d_L_law_516 (vp_in_nI (by omega) (by omega)) (congrArg G.2.2.2.2.2.1 (nI_clamp (by omega))) ?_
  refine e_aload_n (pc := 517) d_L_law_517 rfl ?_
  refine e_cS4 (pc := 518) s_L_law_518 (hA) (Nat.le_of_ble_eq_true rfl) (by show cs + 2 ≤ 650581; omega) (by show sl + 12 ≤ 7144328; omega) (zGo.v ?_)
  refine e_istore (pc := 521) d_L_law_521 (Nat.le_of_ble_eq_true rfl) ?_
  dsimp only [List.set]
  refine e_aload_n (pc := 523) d_L_law_523 rfl ?_
  refine e_aload_nS (pc := 524) d_L_law_524 rfl ?_
  refine e_iload (pc := 525) d_L_law_525 rfl ?_
  refine e_iconst (pc := 527) (v := 1) d_L_law_527 (by decide) ?_
  refine e_iadd (pc := 528) d_L_law_528 ?_
  refine e_topi (y := nI (1 + 5 * n + 1)) (nI_add _ 1) ?_
  refine e_sld (pc := 529) d_L_law_529 (vp_in_nI (by omega) (by omega)) (congrArg G.2.2.2.2.2.1 (nI_clamp (by omega))) ?_
  refine e_aload_nS (pc := 530) d_L_law_530 rfl ?_
  refine e_iload (pc := 531) d_L_law_531 rfl ?_
  refine e_iconst (pc := 533) (v := 2) d_L_law_533 (by decide) ?_
  refine e_iadd (pc := 534) d_L_law_534 ?_
  refine e_topi (y := nI (1 + 5 * n + 2)) (nI_add _ 2) ?_
  refine e_sld (pc := 535) d_L_law_535 (vp_in_nI (by omega) (by omega)) (congrArg G.2.2.2.2.2.1 (nI_clamp (by omega))) ?_
  refine e_cV2 (pc := 536) s_L_law_536 (hB) rfl rfl rfl (Nat.le_of_ble_eq_true rfl) (by show cs + 2 + 0 ≤ 650581; omega) (by show sl + 12 + 0 ≤ 7144328; omega) (zGo.v ?_)
  refine e_istore (pc := 539) d_L_law_539 (Nat.le_of_ble_eq_true rfl) ?_
  dsimp only [List.set]
  refine e_aload_n (pc := 541) d_L_law_541 rfl ?_
  refine e_cV0 (pc := 542) s_L_law_542 (sM_thrown) rfl rfl rfl (Nat.le_of_ble_eq_true rfl) (by show cs + 2 + 0 + 0 ≤ 650581; omega) (by show sl + 12 + 0 + 0 ≤ 7144328; omega) (zGo.v ?_)
  refine e_iload (pc := 545) d_L_law_545 rfl ?_
  refine e_icmp_eq (pc := 547) (tgt := 552) d_L_law_547 (by decide) (fun _ => ?_) (fun zz => absurd (rfl) zz)
  refine e_iload (pc := 552) d_L_law_552 rfl ?_
  refine e_if_ne (pc := 554) (tgt := 569) d_L_law_554 (by decide) (fun hz6 => ?_) (fun hz6 => ?_)
  · refine e_goto (pc := 569) (tgt := 1249) d_L_law_569 (by decide) ?_
    refine e_iinc (pc := 1249) d_L_law_1249 rfl (Nat.le_of_ble_eq_true rfl) ?_
    dsimp only [List.set]
    refine e_goto (pc := 1252) (tgt := 33) d_L_law_1252 (by decide) ?_
    exact (add5 n) ▸ E
  · refine e_aload_n (pc := 557) d_L_law_557 rfl ?_
    refine e_iconst (pc := 558) (v := 0) d_L_law_558 (by decide) ?_
    refine e_lald (pc := 559) d_L_law_559 rfl (vp_dec (by decide)) rfl ?_
    refine e_iload (pc := 560) d_L_law_560 rfl ?_
    refine e_i2l (pc := 562) d_L_law_562 ?_
    refine e_lcmp (pc := 563) d_L_law_563 ?_
    refine e_if_eq (pc := 564) (tgt := 569) d_L_law_564 (by decide) (fun _ => ?_) (fun zz => absurd (lgE (hv (by assumption))) zz)
    refine e_goto (pc := 569) (tgt := 1249) d_L_law_569 (by decide) ?_
    refine e_iinc (pc := 1249) d_L_law_1249 rfl (Nat.le_of_ble_eq_true rfl) ?_
    dsimp only [List.set]
    refine e_goto (pc := 1252) (tgt := 33) d_L_law_1252 (by decide) ?_
    exact (add5 n) ▸ E
set_option maxHeartbeats 4000000 in
set_option maxRecDepth 100000 in
theorem lc_place {l : Launch} {G : zGP} {K m n : Nat} {S : St} {th : Int32} {fo : Nat → Int64} {v5 v6 : Value} {cs sl : Nat} (hn : 1 + 5 * n + 5 ≤ G.2.2.2.2.1) (hL : G.2.2.2.2.1 ≤ 2561) (hcs : cs ≤ 100 + 3 * n) (hsl : sl ≤ 2000 + 18 * n) (hag : AgV l G K m S m_L_place [.ref 0, .int (G.2.2.2.2.2.1 (1 + 5 * n + 1)), .ref 65] m_M_place [.ref 45, .int (G.2.2.2.2.2.1 (1 + 5 * n + 1))]) (k : ∀ S' m', m' ≤ m + 1 → Inv K S' m' → lwK l G K (n + 1) S') : ∃ hpF, Ev l G m_L_law 572 [.retAddr 0, .ref 0, .ref 45, .ref 65, .int (nI (1 + 5 * n)), v5, v6] [] (hpA K S S th fo) cs sl (.inl (some (.int 1)), hpF) := by
  obtain ⟨S', fo', code, v, m', hm', hI, hv, hA, hB⟩ := hag th fo
  obtain ⟨hpF, E⟩ := k S' m' hm' hI code fo' (.int code) (.int v) (cs + m_L_place.2.2.2.2.2.1.cells + m_M_place.2.2.2.2.2.1.cells + m_M_thrown.2.2.2.2.2.1.cells) (sl + m_L_place.2.2.2.2.2.1.slots + m_M_place.2.2.2.2.2.1.slots + m_M_thrown.2.2.2.2.2.1.slots) (by show cs + 1 + 0 + 0 ≤ _; omega) (by show sl + 6 + 0 + 0 ≤ _; omega)
  refine ⟨hpF, ?_⟩
  refine e_aload_n (pc := 572) d_L_law_572 rfl ?_
  refine e_aload_nS (pc := 573) d_L_law_573 rfl ?_
  refine e_iload (pc := 574) d_L_law_574 rfl ?_
  refine e_iconst (pc := 576) (v := 1) d_L_law_576 (by decide) ?_
  refine e_iadd (pc := 577) d_L_law_577 ?_
  refine e_topi (y := nI (1 + 5 * n + 1)) (nI_add _ 1) ?_
  refine e_sld (pc := 578) d_L_law_578 (vp_in_nI (by omega) (by omega)) (congrArg G.2.2.2.2.2.1 (nI_clamp (by omega))) ?_
  refine e_aload_n (pc := 579) d_L_law_579 rfl ?_
  refine e_cS3 (pc := 580) s_L_law_580 (hA) (Nat.le_of_ble_eq_true rfl) (by show cs + 1 ≤ 650581; omega) (by show sl + 6 ≤ 7144328; omega) (zGo.v ?_)
  refine e_istore (pc := 583) d_L_law_583 (Nat.le_of_ble_eq_true rfl) ?_
  dsimp only [List.set]
  refine e_aload_n (pc := 585) d_L_law_585 rfl ?_
  refine e_aload_nS (pc := 586) d_L_law_586 rfl ?_
  refine e_iload (pc := 587) d_L_law_587 rfl ?_
  refine e_iconst (pc := 589) (v := 1) d_L_law_589 (by decide) ?_
  refine e_iadd (pc := 590) d_L_law_590 ?_
  refine e_topi (y := nI (1 + 5 * n + 1)) (nI_add _ 1) ?_
  refine e_sld (pc := 591) d_L_law_591 (vp_in_nI (by omega) (by omega)) (congrArg G.2.2.2.2.2.1 (nI_clamp (by omega))) ?_
  refine e_cV1 (pc := 592) s_L_law_592 (hB) rfl rfl rfl (Nat.le_of_ble_eq_true rfl) (by show cs + 1 + 0 ≤ 650581; omega) (by show sl + 6 + 0 ≤ 7144328; omega) (zGo.v ?_)
  refine e_istore (pc := 595) d_L_law_595 (Nat.le_of_ble_eq_true rfl) ?_
  dsimp only [List.set]
  refine e_aload_n (pc := 597) d_L_law_597 rfl ?_
  refine e_cV0 (pc := 598) s_L_law_598 (sM_thrown) rfl rfl rfl (Nat.le_of_ble_eq_true rfl) (by show cs + 1 + 0 + 0 ≤ 650581; omega) (by show sl + 6 + 0 + 0 ≤ 7144328; omega) (zGo.v ?_)
  refine e_iload (pc := 601) d_L_law_601 rfl ?_
  refine e_icmp_eq (pc := 603) (tgt := 608) d_L_law_603 (by decide) (fun _ => ?_) (fun zz => absurd (rfl) zz)
  refine e_iload (pc := 608) d_L_law_608 rfl ?_
  refine e_if_ne (pc := 610) (tgt := 625) d_L_law_610 (by decide) (fun hz7 => ?_) (fun hz7 => ?_)
  · refine e_goto (pc := 625) (tgt := 1249) d_L_law_625 (by decide) ?_
    refine e_iinc (pc := 1249) d_L_law_1249 rfl (Nat.le_of_ble_eq_true rfl) ?_
    dsimp only [List.set]
    refine e_goto (pc := 1252) (tgt := 33) d_L_law_1252 (by decide) ?_
    exact (add5 n) ▸ E
  · refine e_aload_n (pc := 613) d_L_law_613 rfl ?_
    refine e_iconst (pc := 614) (v := 0) d_L_law_614 (by decide) ?_
    refine e_lald (pc := 615) d_L_law_615 rfl (vp_dec (by decide)) rfl ?_
    refine e_iload (pc := 616) d_L_law_616 rfl ?_
    refine e_i2l (pc := 618) d_L_law_618 ?_
    refine e_lcmp (pc := 619) d_L_law_619 ?_
    refine e_if_eq (pc := 620) (tgt := 625) d_L_law_620 (by decide) (fun _ => ?_) (fun zz => absurd (lgE (hv (by assumption))) zz)
    refine e_goto (pc := 625) (tgt := 1249) d_L_law_625 (by decide) ?_
    refine e_iinc (pc := 1249) d_L_law_1249 rfl (Nat.le_of_ble_eq_true rfl) ?_
    dsimp only [List.set]
    refine e_goto (pc := 1252) (tgt := 33) d_L_law_1252 (by decide) ?_
    exact (add5 n) ▸ E
set_option maxHeartbeats 4000000 in
set_option maxRecDepth 100000 in
theorem lc_buffered {l : Launch} {G : zGP} {K m n : Nat} {S : St} {th : Int32} {fo : Nat → Int64} {v5 v6 : Value} {cs sl : Nat} (hn : 1 + 5 * n + 5 ≤ G.2.2.2.2.1) (hL : G.2.2.2.2.1 ≤ 2561) (hcs : cs ≤ 100 + 3 * n) (hsl : sl ≤ 2000 + 18 * n) (hag : AgV l G K m S m_L_buffered [.ref 0, .int (G.2.2.2.2.2.1 (1 + 5 * n + 1)), .ref 65] m_M_buffered [.ref 45, .int (G.2.2.2.2.2.1 (1 + 5 * n + 1))]) (k : ∀ S' m', m' ≤ m + 1 → Inv K S' m' → lwK l G K (n + 1) S') : ∃ hpF, Ev l G m_L_law 628 [.retAddr 0, .ref 0, .ref 45, .ref 65, .int (nI (1 + 5 * n)), v5, v6] [] (hpA K S S th fo) cs sl (.inl (some (.int 1)), hpF) := by
  obtain ⟨S', fo', code, v, m', hm', hI, hv, hA, hB⟩ := hag th fo
  obtain ⟨hpF, E⟩ := k S' m' hm' hI code fo' (.int code) (.int v) (cs + m_L_buffered.2.2.2.2.2.1.cells + m_M_buffered.2.2.2.2.2.1.cells + m_M_thrown.2.2.2.2.2.1.cells) (sl + m_L_buffered.2.2.2.2.2.1.slots + m_M_buffered.2.2.2.2.2.1.slots + m_M_thrown.2.2.2.2.2.1.slots) (by show cs + 1 + 0 + 0 ≤ _; omega) (by show sl + 6 + 0 + 0 ≤ _; omega)
  refine ⟨hpF, ?_⟩
  refine e_aload_n (pc := 628) d_L_law_628 rfl ?_
  refine e_aload_nS (pc := 629) d_L_law_629 rfl ?_
  refine e_iload (pc := 630) d_L_law_630 rfl ?_
  refine e_iconst (pc := 632) (v := 1) d_L_law_632 (by decide) ?_
  refine e_iadd (pc := 633) d_L_law_633 ?_
  refine e_topi (y := nI (1 + 5 * n + 1)) (nI_add _ 1) ?_
  refine e_sld (pc := 634) d_L_law_634 (vp_in_nI (by omega) (by omega)) (congrArg G.2.2.2.2.2.1 (nI_clamp (by omega))) ?_
  refine e_aload_n (pc := 635) d_L_law_635 rfl ?_
  refine e_cS3 (pc := 636) s_L_law_636 (hA) (Nat.le_of_ble_eq_true rfl) (by show cs + 1 ≤ 650581; omega) (by show sl + 6 ≤ 7144328; omega) (zGo.v ?_)
  refine e_istore (pc := 639) d_L_law_639 (Nat.le_of_ble_eq_true rfl) ?_
  dsimp only [List.set]
  refine e_aload_n (pc := 641) d_L_law_641 rfl ?_
  refine e_aload_nS (pc := 642) d_L_law_642 rfl ?_
  refine e_iload (pc := 643) d_L_law_643 rfl ?_
  refine e_iconst (pc := 645) (v := 1) d_L_law_645 (by decide) ?_
  refine e_iadd (pc := 646) d_L_law_646 ?_
  refine e_topi (y := nI (1 + 5 * n + 1)) (nI_add _ 1) ?_
  refine e_sld (pc := 647) d_L_law_647 (vp_in_nI (by omega) (by omega)) (congrArg G.2.2.2.2.2.1 (nI_clamp (by omega))) ?_
  refine e_cV1 (pc := 648) s_L_law_648 (hB) rfl rfl rfl (Nat.le_of_ble_eq_true rfl) (by show cs + 1 + 0 ≤ 650581; omega) (by show sl + 6 + 0 ≤ 7144328; omega) (zGo.v ?_)
  refine e_istore (pc := 651) d_L_law_651 (Nat.le_of_ble_eq_true rfl) ?_
  dsimp only [List.set]
  refine e_aload_n (pc := 653) d_L_law_653 rfl ?_
  refine e_cV0 (pc := 654) s_L_law_654 (sM_thrown) rfl rfl rfl (Nat.le_of_ble_eq_true rfl) (by show cs + 1 + 0 + 0 ≤ 650581; omega) (by show sl + 6 + 0 + 0 ≤ 7144328; omega) (zGo.v ?_)
  refine e_iload (pc := 657) d_L_law_657 rfl ?_
  refine e_icmp_eq (pc := 659) (tgt := 664) d_L_law_659 (by decide) (fun _ => ?_) (fun zz => absurd (rfl) zz)
  refine e_iload (pc := 664) d_L_law_664 rfl ?_
  refine e_if_ne (pc := 666) (tgt := 681) d_L_law_666 (by decide) (fun hz8 => ?_) (fun hz8 => ?_)
  · refine e_goto (pc := 681) (tgt := 1249) d_L_law_681 (by decide) ?_
    refine e_iinc (pc := 1249) d_L_law_1249 rfl (Nat.le_of_ble_eq_true rfl) ?_
    dsimp only [List.set]
    refine e_goto (pc := 1252) (tgt := 33) d_L_law_1252 (by decide) ?_
    exact (add5 n) ▸ E
  · refine e_aload_n (pc := 669) d_L_law_669 rfl ?_
    refine e_iconst (pc := 670) (v := 0) d_L_law_670 (by decide) ?_
    refine e_lald (pc := 671) d_L_law_671 rfl (vp_dec (by decide)) rfl ?_
    refine e_iload (pc := 672) d_L_law_672 rfl ?_
    refine e_i2l (pc := 674) d_L_law_674 ?_
    refine e_lcmp (pc := 675) d_L_law_675 ?_
    refine e_if_eq (pc := 676) (tgt := 681) d_L_law_676 (by decide) (fun _ => ?_) (fun zz => absurd (lgE (hv (by assumption))) zz)
    refine e_goto (pc := 681) (tgt := 1249) d_L_law_681 (by decide) ?_
    refine e_iinc (pc := 1249) d_L_law_1249 rfl (Nat.le_of_ble_eq_true rfl) ?_
    dsimp only [List.set]
    refine e_goto (pc := 1252) (tgt := 33) d_L_law_1252 (by decide) ?_
    exact (add5 n) ▸ E
set_option maxHeartbeats 4000000 in
set_option maxRecDepth 100000 in
theorem lc_storeAddress {l : Launch} {G : zGP} {K m n : Nat} {S : St} {th : Int32} {fo : Nat → Int64} {v5 v6 : Value} {cs sl : Nat} (hn : 1 + 5 * n + 5 ≤ G.2.2.2.2.1) (hL : G.2.2.2.2.1 ≤ 2561) (hcs : cs ≤ 100 + 3 * n) (hsl : sl ≤ 2000 + 18 * n) (hag : AgV l G K m S m_L_storeAddress [.ref 0, .int (G.2.2.2.2.2.1 (1 + 5 * n + 1)), .int (G.2.2.2.2.2.1 (1 + 5 * n + 2)), .ref 65] m_M_storeAddress [.ref 45, .int (G.2.2.2.2.2.1 (1 + 5 * n + 1)), .int (G.2.2.2.2.2.1 (1 + 5 * n + 2))]) (k : ∀ S' m', m' ≤ m + 1 → Inv K S' m' → lwK l G K (n + 1) S') : ∃ hpF, Ev l G m_L_law 684 [.retAddr 0, .ref 0, .ref 45, .ref 65, .int (nI (1 + 5 * n)), v5, v6] [] (hpA K S S th fo) cs sl (.inl (some (.int 1)), hpF) := by
  obtain ⟨S', fo', code, v, m', hm', hI, hv, hA, hB⟩ := hag th fo
  obtain ⟨hpF, E⟩ := k S' m' hm' hI code fo' (.int code) (.int v) (cs + m_L_storeAddress.2.2.2.2.2.1.cells + m_M_storeAddress.2.2.2.2.2.1.cells + m_M_thrown.2.2.2.2.2.1.cells) (sl + m_L_storeAddress.2.2.2.2.2.1.slots + m_M_storeAddress.2.2.2.2.2.1.slots + m_M_thrown.2.2.2.2.2.1.slots) (by show cs + 2 + 0 + 0 ≤ _; omega) (by show sl + 12 + 0 + 0 ≤ _; omega)
  refine ⟨hpF, ?_⟩
  refine e_aload_n (pc := 684) d_L_law_684 rfl ?_
  refine e_aload_nS (pc := 685) d_L_law_685 rfl ?_
  refine e_iload (pc := 686) d_L_law_686 rfl ?_
  refine e_iconst (pc := 688) (v := 1) d_L_law_688 (by decide) ?_
  refine e_iadd (pc := 689) d_L_law_689 ?_
  refine e_topi (y := nI (1 + 5 * n + 1)) (nI_add _ 1) ?_
  refine e_sld (pc := 690) d_L_law_690 (vp_in_nI (by omega) (by omega)) (congrArg G.2.2.2.2.2.1 (nI_clamp (by omega))) ?_
  refine e_aload_nS (pc := 691) d_L_law_691 rfl ?_
  refine e_iload (pc := 692) d_L_law_692 rfl ?_
  refine e_iconst (pc := 694) (v := 2) d_L_law_694 (by decide) ?_
  refine e_iadd (pc := 695) d_L_law_695 ?_
  refine e_topi (y := nI (1 + 5 * n + 2)) (nI_add _ 2) ?_
  refine e_sld (pc := 696) d_L_law_696 (vp_in_nI (by omega) (by omega)) (congrArg G.2.2.2.2.2.1 (nI_clamp (by omega))) ?_
  refine e_aload_n (pc := 697) d_L_law_697 rfl ?_
  refine e_cS4 (pc := 698) s_L_law_698 (hA) (Nat.le_of_ble_eq_true rfl) (by show cs + 2 ≤ 650581; omega) (by show sl + 12 ≤ 7144328; omega) (zGo.v ?_)
  refine e_istore (pc := 701) d_L_law_701 (Nat.le_of_ble_eq_true rfl) ?_
  dsimp only [List.set]
  refine e_aload_n (pc := 703) d_L_law_703 rfl ?_
  refine e_aload_nS (pc := 704) d_L_law_704 rfl ?_
  refine e_iload (pc := 705) d_L_law_705 rfl ?_
  refine e_iconst (pc := 707) (v := 1) d_L_law_707 (by decide) ?_
  refine e_iadd (pc := 708) d_L_law_708 ?_
  refine e_topi (y := nI (1 + 5 * n + 1)) (nI_add _ 1) ?_
  refine e_sld (pc := 709) d_L_law_709 (vp_in_nI (by omega) (by omega)) (congrArg G.2.2.2.2.2.1 (nI_clamp (by omega))) ?_
  refine e_aload_nS (pc := 710) d_L_law_710 rfl ?_
  refine e_iload (pc := 711) d_L_law_711 rfl ?_
  refine e_iconst (pc := 713) (v := 2) d_L_law_713 (by decide) ?_
  refine e_iadd (pc := 714) d_L_law_714 ?_
  refine e_topi (y := nI (1 + 5 * n + 2)) (nI_add _ 2) ?_
  refine e_sld (pc := 715) d_L_law_715 (vp_in_nI (by omega) (by omega)) (congrArg G.2.2.2.2.2.1 (nI_clamp (by omega))) ?_
  refine e_cV2 (pc := 716) s_L_law_716 (hB) rfl rfl rfl (Nat.le_of_ble_eq_true rfl) (by show cs + 2 + 0 ≤ 650581; omega) (by show sl + 12 + 0 ≤ 7144328; omega) (zGo.v ?_)
  refine e_istore (pc := 719) d_L_law_719 (Nat.le_of_ble_eq_true rfl) ?_
  dsimp only [List.set]
  refine e_aload_n (pc := 721) d_L_law_721 rfl ?_
  refine e_cV0 (pc := 722) s_L_law_722 (sM_thrown) rfl rfl rfl (Nat.le_of_ble_eq_true rfl) (by show cs + 2 + 0 + 0 ≤ 650581; omega) (by show sl + 12 + 0 + 0 ≤ 7144328; omega) (zGo.v ?_)
  refine e_iload (pc := 725) d_L_law_725 rfl ?_
  refine e_icmp_eq (pc := 727) (tgt := 732) d_L_law_727 (by decide) (fun _ => ?_) (fun zz => absurd (rfl) zz)
  refine e_iload (pc := 732) d_L_law_732 rfl ?_
  refine e_if_ne (pc := 734) (tgt := 749) d_L_law_734 (by decide) (fun hz9 => ?_) (fun hz9 => ?_)
  · refine e_goto (pc := 749) (tgt := 1249) d_L_law_749 (by decide) ?_
    refine e_iinc (pc := 1249) d_L_law_1249 rfl (Nat.le_of_ble_eq_true rfl) ?_
    dsimp only [List.set]
    refine e_goto (pc := 1252) (tgt := 33) d_L_law_1252 (by decide) ?_
    exact (add5 n) ▸ E
  · refine e_aload_n (pc := 737) d_L_law_737 rfl ?_
    refine e_iconst (pc := 738) (v := 0) d_L_law_738 (by decide) ?_
    refine e_lald (pc := 739) d_L_law_739 rfl (vp_dec (by decide)) rfl ?_
    refine e_iload (pc := 740) d_L_law_740 rfl ?_
    refine e_i2l (pc := 742) d_L_law_742 ?_
    refine e_lcmp (pc := 743) d_L_law_743 ?_
    refine e_if_eq (pc := 744) (tgt := 749) d_L_law_744 (by decide) (fun _ => ?_) (fun zz => absurd (lgE (hv (by assumption))) zz)
    refine e_goto (pc := 749) (tgt := 1249) d_L_law_749 (by decide) ?_
    refine e_iinc (pc := 1249) d_L_law_1249 rfl (Nat.le_of_ble_eq_true rfl) ?_
    dsimp only [List.set]
    refine e_goto (pc := 1252) (tgt := 33) d_L_law_1252 (by decide) ?_
    exact (add5 n) ▸ E
set_option maxHeartbeats 4000000 in
set_option maxRecDepth 100000 in
theorem lc_storeValue {l : Launch} {G : zGP} {K m n : Nat} {S : St} {th : Int32} {fo : Nat → Int64} {v5 v6 : Value} {cs sl : Nat} (hn : 1 + 5 * n + 5 ≤ G.2.2.2.2.1) (hL : G.2.2.2.2.1 ≤ 2561) (hcs : cs ≤ 100 + 3 * n) (hsl : sl ≤ 2000 + 18 * n) (hag : AgV l G K m S m_L_storeValue [.ref 0, .int (G.2.2.2.2.2.1 (1 + 5 * n + 1)), .int (G.2.2.2.2.2.1 (1 + 5 * n + 2)), .ref 65] m_M_storeValue [.ref 45, .int (G.2.2.2.2.2.1 (1 + 5 * n + 1)), .int (G.2.2.2.2.2.1 (1 + 5 * n + 2))]) (k : ∀ S' m', m' ≤ m + 1 → Inv K S' m' → lwK l G K (n + 1) S') : ∃ hpF, Ev l G m_L_law 752 [.retAddr 0, .ref 0, .ref 45, .ref 65, .int (nI (1 + 5 * n)), v5, v6] [] (hpA K S S th fo) cs sl (.inl (some (.int 1)), hpF) := by
  obtain ⟨S', fo', code, v, m', hm', hI, hv, hA, hB⟩ := hag th fo
  obtain ⟨hpF, E⟩ := k S' m' hm' hI code fo' (.int code) (.int v) (cs + m_L_storeValue.2.2.2.2.2.1.cells + m_M_storeValue.2.2.2.2.2.1.cells + m_M_thrown.2.2.2.2.2.1.cells) (sl + m_L_storeValue.2.2.2.2.2.1.slots + m_M_storeValue.2.2.2.2.2.1.slots + m_M_thrown.2.2.2.2.2.1.slots) (by show cs + 2 + 0 + 0 ≤ _; omega) (by show sl + 12 + 0 + 0 ≤ _; omega)
  refine ⟨hpF, ?_⟩
  refine e_aload_n (pc := 752) d_L_law_752 rfl ?_
  refine e_aload_nS (pc := 753) d_L_law_753 rfl ?_
  refine e_iload (pc := 754) d_L_law_754 rfl ?_
  refine e_iconst (pc := 756) (v := 1) d_L_law_756 (by decide) ?_
  refine e_iadd (pc := 757) d_L_law_757 ?_
  refine e_topi (y := nI (1 + 5 * n + 1)) (nI_add _ 1) ?_
  refine e_sld (pc := 758) d_L_law_758 (vp_in_nI (by omega) (by omega)) (congrArg G.2.2.2.2.2.1 (nI_clamp (by omega))) ?_
  refine e_aload_nS (pc := 759) d_L_law_759 rfl ?_
  refine e_iload (pc := 760) d_L_law_760 rfl ?_
  refine e_iconst (pc := 762) (v := 2) d_L_law_762 (by decide) ?_
  refine e_iadd (pc := 763) d_L_law_763 ?_
  refine e_topi (y := nI (1 + 5 * n + 2)) (nI_add _ 2) ?_
  refine e_sld (pc := 764) d_L_law_764 (vp_in_nI (by omega) (by omega)) (congrArg G.2.2.2.2.2.1 (nI_clamp (by omega))) ?_
  refine e_aload_n (pc := 765) d_L_law_765 rfl ?_
  refine e_cS4 (pc := 766) s_L_law_766 (hA) (Nat.le_of_ble_eq_true rfl) (by show cs + 2 ≤ 650581; omega) (by show sl + 12 ≤ 7144328; omega) (zGo.v ?_)
  refine e_istore (pc := 769) d_L_law_769 (Nat.le_of_ble_eq_true rfl) ?_
  dsimp only [List.set]
  refine e_aload_n (pc := 771) d_L_law_771 rfl ?_
  refine e_aload_nS (pc := 772) d_L_law_772 rfl ?_
  refine e_iload (pc := 773) d_L_law_773 rfl ?_
  refine e_iconst (pc := 775) (v := 1) d_L_law_775 (by decide) ?_
  refine e_iadd (pc := 776) d_L_law_776 ?_
  refine e_topi (y := nI (1 + 5 * n + 1)) (nI_add _ 1) ?_
  refine e_sld (pc := 777) d_L_law_777 (vp_in_nI (by omega) (by omega)) (congrArg G.2.2.2.2.2.1 (nI_clamp (by omega))) ?_
  refine e_aload_nS (pc := 778) d_L_law_778 rfl ?_
  refine e_iload (pc := 779) d_L_law_779 rfl ?_
  refine e_iconst (pc := 781) (v := 2) d_L_law_781 (by decide) ?_
  refine e_iadd (pc := 782) d_L_law_782 ?_
  refine e_topi (y := nI (1 + 5 * n + 2)) (nI_add _ 2) ?_
  refine e_sld (pc := 783) d_L_law_783 (vp_in_nI (by omega) (by omega)) (congrArg G.2.2.2.2.2.1 (nI_clamp (by omega))) ?_
  refine e_cV2 (pc := 784) s_L_law_784 (hB) rfl rfl rfl (Nat.le_of_ble_eq_true rfl) (by show cs + 2 + 0 ≤ 650581; omega) (by show sl + 12 + 0 ≤ 7144328; omega) (zGo.v ?_)
  refine e_istore (pc := 787) d_L_law_787 (Nat.le_of_ble_eq_true rfl) ?_
  dsimp only [List.set]
  refine e_aload_n (pc := 789) d_L_law_789 rfl ?_
  refine e_cV0 (pc := 790) s_L_law_790 (sM_thrown) rfl rfl rfl (Nat.le_of_ble_eq_true rfl) (by show cs + 2 + 0 + 0 ≤ 650581; omega) (by show sl + 12 + 0 + 0 ≤ 7144328; omega) (zGo.v ?_)
  refine e_iload (pc := 793) d_L_law_793 rfl ?_
  refine e_icmp_eq (pc := 795) (tgt := 800) d_L_law_795 (by decide) (fun _ => ?_) (fun zz => absurd (rfl) zz)
  refine e_iload (pc := 800) d_L_law_800 rfl ?_
  refine e_if_ne (pc := 802) (tgt := 817) d_L_law_802 (by decide) (fun hz10 => ?_) (fun hz10 => ?_)
  · refine e_goto (pc := 817) (tgt := 1249) d_L_law_817 (by decide) ?_
    refine e_iinc (pc := 1249) d_L_law_1249 rfl (Nat.le_of_ble_eq_true rfl) ?_
    dsimp only [List.set]
    refine e_goto (pc := 1252) (tgt := 33) d_L_law_1252 (by decide) ?_
    exact (add5 n) ▸ E
  · refine e_aload_n (pc := 805) d_L_law_805 rfl ?_
    refine e_iconst (pc := 806) (v := 0) d_L_law_806 (by decide) ?_
    refine e_lald (pc := 807) d_L_law_807 rfl (vp_dec (by decide)) rfl ?_
    refine e_iload (pc := 808) d_L_law_808 rfl ?_
    refine e_i2l (pc := 810) d_L_law_810 ?_
    refine e_lcmp (pc := 811) d_L_law_811 ?_
    refine e_if_eq (pc := 812) (tgt := 817) d_L_law_812 (by decide) (fun _ => ?_) (fun zz => absurd (lgE (hv (by assumption))) zz)
    refine e_goto (pc := 817) (tgt := 1249) d_L_law_817 (by decide) ?_
    refine e_iinc (pc := 1249) d_L_law_1249 rfl (Nat.le_of_ble_eq_true rfl) ?_
    dsimp only [List.set]
    refine e_goto (pc := 1252) (tgt := 33) d_L_law_1252 (by decide) ?_
    exact (add5 n) ▸ E
set_option maxHeartbeats 4000000 in
set_option maxRecDepth 100000 in
theorem lc_line {l : Launch} {G : zGP} {K m n : Nat} {S : St} {th : Int32} {fo : Nat → Int64} {v5 v6 : Value} {cs sl : Nat} (hn : 1 + 5 * n + 5 ≤ G.2.2.2.2.1) (hL : G.2.2.2.2.1 ≤ 2561) (hcs : cs ≤ 100 + 3 * n) (hsl : sl ≤ 2000 + 18 * n) (hag : AgV l G K m S m_L_line [.ref 0, .int (G.2.2.2.2.2.1 (1 + 5 * n + 1)), .int (G.2.2.2.2.2.1 (1 + 5 * n + 2)), .ref 65] m_M_line [.ref 45, .int (G.2.2.2.2.2.1 (1 + 5 * n + 1)), .int (G.2.2.2.2.2.1 (1 + 5 * n + 2))]) (k : ∀ S' m', m' ≤ m + 1 → Inv K S' m' → lwK l G K (n + 1) S') : ∃ hpF, Ev l G m_L_law 820 [.retAddr 0, .ref 0, .ref 45, .ref 65, .int (nI (1 + 5 * n)), v5, v6] [] (hpA K S S th fo) cs sl (.inl (some (.int 1)), hpF) := by
  obtain ⟨S', fo', code, v, m', hm', hI, hv, hA, hB⟩ := hag th fo
  obtain ⟨hpF, E⟩ := k S' m' hm' hI code fo' (.int code) (.int v) (cs + m_L_line.2.2.2.2.2.1.cells + m_M_line.2.2.2.2.2.1.cells + m_M_thrown.2.2.2.2.2.1.cells) (sl + m_L_line.2.2.2.2.2.1.slots + m_M_line.2.2.2.2.2.1.slots + m_M_thrown.2.2.2.2.2.1.slots) (by show cs + 2 + 0 + 0 ≤ _; omega) (by show sl + 12 + 0 + 0 ≤ _; omega)
  refine ⟨hpF, ?_⟩
  refine e_aload_n (pc := 820) d_L_law_820 rfl ?_
  refine e_aload_nS (pc := 821) d_L_law_821 rfl ?_
  refine e_iload (pc := 822) d_L_law_822 rfl ?_
  refine e_iconst (pc := 824) (v := 1) d_L_law_824 (by decide) ?_
  refine e_iadd (pc := 825) d_L_law_825 ?_
  refine e_topi (y := nI (1 + 5 * n + 1)) (nI_add _ 1) ?_
  refine e_sld (pc := 826) d_L_law_826 (vp_in_nI (by omega) (by omega)) (congrArg G.2.2.2.2.2.1 (nI_clamp (by omega))) ?_
  refine e_aload_nS (pc := 827) d_L_law_827 rfl ?_
  refine e_iload (pc := 828) d_L_law_828 rfl ?_
  refine e_iconst (pc := 830) (v := 2) d_L_law_830 (by decide) ?_
  refine e_iadd (pc := 831) d_L_law_831 ?_
  refine e_topi (y := nI (1 + 5 * n + 2)) (nI_add _ 2) ?_
  refine e_sld (pc := 832) d_L_law_832 (vp_in_nI (by omega) (by omega)) (congrArg G.2.2.2.2.2.1 (nI_clamp (by omega))) ?_
  refine e_aload_n (pc := 833) d_L_law_833 rfl ?_
  refine e_cS4 (pc := 834) s_L_law_834 (hA) (Nat.le_of_ble_eq_true rfl) (by show cs + 2 ≤ 650581; omega) (by show sl + 12 ≤ 7144328; omega) (zGo.v ?_)
  refine e_istore (pc := 837) d_L_law_837 (Nat.le_of_ble_eq_true rfl) ?_
  dsimp only [List.set]
  refine e_aload_n (pc := 839) d_L_law_839 rfl ?_
  refine e_aload_nS (pc := 840) d_L_law_840 rfl ?_
  refine e_iload (pc := 841) d_L_law_841 rfl ?_
  refine e_iconst (pc := 843) (v := 1) d_L_law_843 (by decide) ?_
  refine e_iadd (pc := 844) d_L_law_844 ?_
  refine e_topi (y := nI (1 + 5 * n + 1)) (nI_add _ 1) ?_
  refine e_sld (pc := 845) d_L_law_845 (vp_in_nI (by omega) (by omega)) (congrArg G.2.2.2.2.2.1 (nI_clamp (by omega))) ?_
  refine e_aload_nS (pc := 846) d_L_law_846 rfl ?_
  refine e_iload (pc := 847) d_L_law_847 rfl ?_
  refine e_iconst (pc := 849) (v := 2) d_L_law_849 (by decide) ?_
  refine e_iadd (pc := 850) d_L_law_850 ?_
  refine e_topi (y := nI (1 + 5 * n + 2)) (nI_add _ 2) ?_
  refine e_sld (pc := 851) d_L_law_851 (vp_in_nI (by omega) (by omega)) (congrArg G.2.2.2.2.2.1 (nI_clamp (by omega))) ?_
  refine e_cV2 (pc := 852) s_L_law_852 (hB) rfl rfl rfl (Nat.le_of_ble_eq_true rfl) (by show cs + 2 + 0 ≤ 650581; omega) (by show sl + 12 + 0 ≤ 7144328; omega) (zGo.v ?_)
  refine e_istore (pc := 855) d_L_law_855 (Nat.le_of_ble_eq_true rfl) ?_
  dsimp only [List.set]
  refine e_aload_n (pc := 857) d_L_law_857 rfl ?_
  refine e_cV0 (pc := 858) s_L_law_858 (sM_thrown) rfl rfl rfl (Nat.le_of_ble_eq_true rfl) (by show cs + 2 + 0 + 0 ≤ 650581; omega) (by show sl + 12 + 0 + 0 ≤ 7144328; omega) (zGo.v ?_)
  refine e_iload (pc := 861) d_L_law_861 rfl ?_
  refine e_icmp_eq (pc := 863) (tgt := 868) d_L_law_863 (by decide) (fun _ => ?_) (fun zz => absurd (rfl) zz)
  refine e_iload (pc := 868) d_L_law_868 rfl ?_
  refine e_if_ne (pc := 870) (tgt := 885) d_L_law_870 (by decide) (fun hz11 => ?_) (fun hz11 => ?_)
  · refine e_goto (pc := 885) (tgt := 1249) d_L_law_885 (by decide) ?_
    refine e_iinc (pc := 1249) d_L_law_1249 rfl (Nat.le_of_ble_eq_true rfl) ?_
    dsimp only [List.set]
    refine e_goto (pc := 1252) (tgt := 33) d_L_law_1252 (by decide) ?_
    exact (add5 n) ▸ E
  · refine e_aload_n (pc := 873) d_L_law_873 rfl ?_
    refine e_iconst (pc := 874) (v := 0) d_L_law_874 (by decide) ?_
    refine e_lald (pc := 875) d_L_law_875 rfl (vp_dec (by decide)) rfl ?_
    refine e_iload (pc := 876) d_L_law_876 rfl ?_
    refine e_i2l (pc := 878) d_L_law_878 ?_
    refine e_lcmp (pc := 879) d_L_law_879 ?_
    refine e_if_eq (pc := 880) (tgt := 885) d_L_law_880 (by decide) (fun _ => ?_) (fun zz => absurd (lgE (hv (by assumption))) zz)
    refine e_goto (pc := 885) (tgt := 1249) d_L_law_885 (by decide) ?_
    refine e_iinc (pc := 1249) d_L_law_1249 rfl (Nat.le_of_ble_eq_true rfl) ?_
    dsimp only [List.set]
    refine e_goto (pc := 1252) (tgt := 33) d_L_law_1252 (by decide) ?_
    exact (add5 n) ▸ E
set_option maxHeartbeats 4000000 in
set_option maxRecDepth 100000 in
theorem lc_cached {l : Launch} {G : zGP} {K m n : Nat} {S : St} {th : Int32} {fo : Nat → Int64} {v5 v6 : Value} {cs sl : Nat} (hn : 1 + 5 * n + 5 ≤ G.2.2.2.2.1) (hL : G.2.2.2.2.1 ≤ 2561) (hcs : cs ≤ 100 + 3 * n) (hsl : sl ≤ 2000 + 18 * n) (hag : AgV l G K m S m_L_cached [.ref 0, .int (G.2.2.2.2.2.1 (1 + 5 * n + 1)), .int (G.2.2.2.2.2.1 (1 + 5 * n + 2)), .ref 65] m_M_cached [.ref 45, .int (G.2.2.2.2.2.1 (1 + 5 * n + 1)), .int (G.2.2.2.2.2.1 (1 + 5 * n + 2))]) (k : ∀ S' m', m' ≤ m + 1 → Inv K S' m' → lwK l G K (n + 1) S') : ∃ hpF, Ev l G m_L_law 888 [.retAddr 0, .ref 0, .ref 45, .ref 65, .int (nI (1 + 5 * n)), v5, v6] [] (hpA K S S th fo) cs sl (.inl (some (.int 1)), hpF) := by
  obtain ⟨S', fo', code, v, m', hm', hI, hv, hA, hB⟩ := hag th fo
  obtain ⟨hpF, E⟩ := k S' m' hm' hI code fo' (.int code) (.int v) (cs + m_L_cached.2.2.2.2.2.1.cells + m_M_cached.2.2.2.2.2.1.cells + m_M_thrown.2.2.2.2.2.1.cells) (sl + m_L_cached.2.2.2.2.2.1.slots + m_M_cached.2.2.2.2.2.1.slots + m_M_thrown.2.2.2.2.2.1.slots) (by show cs + 3 + 0 + 0 ≤ _; omega) (by show sl + 18 + 0 + 0 ≤ _; omega)
  refine ⟨hpF, ?_⟩
  refine e_aload_n (pc := 888) d_L_law_888 rfl ?_
  refine e_aload_nS (pc := 889) d_L_law_889 rfl ?_
  refine e_iload (pc := 890) d_L_law_890 rfl ?_
  refine e_iconst (pc := 892) (v := 1) d_L_law_892 (by decide) ?_
  refine e_iadd (pc := 893) d_L_law_893 ?_
  refine e_topi (y := nI (1 + 5 * n + 1)) (nI_add _ 1) ?_
  refine e_sld (pc := 894) d_L_law_894 (vp_in_nI (by omega) (by omega)) (congrArg G.2.2.2.2.2.1 (nI_clamp (by omega))) ?_
  refine e_aload_nS (pc := 895) d_L_law_895 rfl ?_
  refine e_iload (pc := 896) d_L_law_896 rfl ?_
  refine e_iconst (pc := 898) (v := 2) d_L_law_898 (by decide) ?_
  refine e_iadd (pc := 899) d_L_law_899 ?_
  refine e_topi (y := nI (1 + 5 * n + 2)) (nI_add _ 2) ?_
  refine e_sld (pc := 900) d_L_law_900 (vp_in_nI (by omega) (by omega)) (congrArg G.2.2.2.2.2.1 (nI_clamp (by omega))) ?_
  refine e_aload_n (pc := 901) d_L_law_901 rfl ?_
  refine e_cS4 (pc := 902) s_L_law_902 (hA) (Nat.le_of_ble_eq_true rfl) (by show cs + 3 ≤ 650581; omega) (by show sl + 18 ≤ 7144328; omega) (zGo.v ?_)
  refine e_istore (pc := 905) d_L_law_905 (Nat.le_of_ble_eq_true rfl) ?_
  dsimp only [List.set]
  refine e_aload_n (pc := 907) d_L_law_907 rfl ?_
  refine e_aload_nS (pc := 908) d_L_law_908 rfl ?_
  refine e_iload (pc := 909) d_L_law_909 rfl ?_
  refine e_iconst (pc := 911) (v := 1) d_L_law_911 (by decide) ?_
  refine e_iadd (pc := 912) d_L_law_912 ?_
  refine e_topi (y := nI (1 + 5 * n + 1)) (nI_add _ 1) ?_
  refine e_sld (pc := 913) d_L_law_913 (vp_in_nI (by omega) (by omega)) (congrArg G.2.2.2.2.2.1 (nI_clamp (by omega))) ?_
  refine e_aload_nS (pc := 914) d_L_law_914 rfl ?_
  refine e_iload (pc := 915) d_L_law_915 rfl ?_
  refine e_iconst (pc := 917) (v := 2) d_L_law_917 (by decide) ?_
  refine e_iadd (pc := 918) d_L_law_918 ?_
  refine e_topi (y := nI (1 + 5 * n + 2)) (nI_add _ 2) ?_
  refine e_sld (pc := 919) d_L_law_919 (vp_in_nI (by omega) (by omega)) (congrArg G.2.2.2.2.2.1 (nI_clamp (by omega))) ?_
  refine e_cV2 (pc := 920) s_L_law_920 (hB) rfl rfl rfl (Nat.le_of_ble_eq_true rfl) (by show cs + 3 + 0 ≤ 650581; omega) (by show sl + 18 + 0 ≤ 7144328; omega) (zGo.v ?_)
  refine e_istore (pc := 923) d_L_law_923 (Nat.le_of_ble_eq_true rfl) ?_
  dsimp only [List.set]
  refine e_aload_n (pc := 925) d_L_law_925 rfl ?_
  refine e_cV0 (pc := 926) s_L_law_926 (sM_thrown) rfl rfl rfl (Nat.le_of_ble_eq_true rfl) (by show cs + 3 + 0 + 0 ≤ 650581; omega) (by show sl + 18 + 0 + 0 ≤ 7144328; omega) (zGo.v ?_)
  refine e_iload (pc := 929) d_L_law_929 rfl ?_
  refine e_icmp_eq (pc := 931) (tgt := 936) d_L_law_931 (by decide) (fun _ => ?_) (fun zz => absurd (rfl) zz)
  refine e_iload (pc := 936) d_L_law_936 rfl ?_
  refine e_if_ne (pc := 938) (tgt := 953) d_L_law_938 (by decide) (fun hz12 => ?_) (fun hz12 => ?_)
  · refine e_goto (pc := 953) (tgt := 1249) d_L_law_953 (by decide) ?_
    refine e_iinc (pc := 1249) d_L_law_1249 rfl (Nat.le_of_ble_eq_true rfl) ?_
    dsimp only [List.set]
    refine e_goto (pc := 1252) (tgt := 33) d_L_law_1252 (by decide) ?_
    exact (add5 n) ▸ E
  · refine e_aload_n (pc := 941) d_L_law_941 rfl ?_
    refine e_iconst (pc := 942) (v := 0) d_L_law_942 (by decide) ?_
    refine e_lald (pc := 943) d_L_law_943 rfl (vp_dec (by decide)) rfl ?_
    refine e_iload (pc := 944) d_L_law_944 rfl ?_
    refine e_i2l (pc := 946) d_L_law_946 ?_
    refine e_lcmp (pc := 947) d_L_law_947 ?_
    refine e_if_eq (pc := 948) (tgt := 953) d_L_law_948 (by decide) (fun _ => ?_) (fun zz => absurd (lgE (hv (by assumption))) zz)
    refine e_goto (pc := 953) (tgt := 1249) d_L_law_953 (by decide) ?_
    refine e_iinc (pc := 1249) d_L_law_1249 rfl (Nat.le_of_ble_eq_true rfl) ?_
    dsimp only [List.set]
    refine e_goto (pc := 1252) (tgt := 33) d_L_law_1252 (by decide) ?_
    exact (add5 n) ▸ E
set_option maxHeartbeats 4000000 in
set_option maxRecDepth 100000 in
theorem lc_request {l : Launch} {G : zGP} {K m n : Nat} {S : St} {th : Int32} {fo : Nat → Int64} {v5 v6 : Value} {cs sl : Nat} (hn : 1 + 5 * n + 5 ≤ G.2.2.2.2.1) (hL : G.2.2.2.2.1 ≤ 2561) (hcs : cs ≤ 100 + 3 * n) (hsl : sl ≤ 2000 + 18 * n) (hag : AgV l G K m S m_L_request [.ref 0, .int (G.2.2.2.2.2.1 (1 + 5 * n + 1)), .ref 65] m_M_request [.ref 45, .int (G.2.2.2.2.2.1 (1 + 5 * n + 1))]) (k : ∀ S' m', m' ≤ m + 1 → Inv K S' m' → lwK l G K (n + 1) S') : ∃ hpF, Ev l G m_L_law 956 [.retAddr 0, .ref 0, .ref 45, .ref 65, .int (nI (1 + 5 * n)), v5, v6] [] (hpA K S S th fo) cs sl (.inl (some (.int 1)), hpF) := by
  obtain ⟨S', fo', code, v, m', hm', hI, hv, hA, hB⟩ := hag th fo
  obtain ⟨hpF, E⟩ := k S' m' hm' hI code fo' (.int code) (.int v) (cs + m_L_request.2.2.2.2.2.1.cells + m_M_request.2.2.2.2.2.1.cells + m_M_thrown.2.2.2.2.2.1.cells) (sl + m_L_request.2.2.2.2.2.1.slots + m_M_request.2.2.2.2.2.1.slots + m_M_thrown.2.2.2.2.2.1.slots) (by show cs + 1 + 0 + 0 ≤ _; omega) (by show sl + 6 + 0 + 0 ≤ _; omega)
  refine ⟨hpF, ?_⟩
  refine e_aload_n (pc := 956) d_L_law_956 rfl ?_
  refine e_aload_nS (pc := 957) d_L_law_957 rfl ?_
  refine e_iload (pc := 958) d_L_law_958 rfl ?_
  refine e_iconst (pc := 960) (v := 1) d_L_law_960 (by decide) ?_
  refine e_iadd (pc := 961) d_L_law_961 ?_
  refine e_topi (y := nI (1 + 5 * n + 1)) (nI_add _ 1) ?_
  refine e_sld (pc := 962) d_L_law_962 (vp_in_nI (by omega) (by omega)) (congrArg G.2.2.2.2.2.1 (nI_clamp (by omega))) ?_
  refine e_aload_n (pc := 963) d_L_law_963 rfl ?_
  refine e_cS3 (pc := 964) s_L_law_964 (hA) (Nat.le_of_ble_eq_true rfl) (by show cs + 1 ≤ 650581; omega) (by show sl + 6 ≤ 7144328; omega) (zGo.v ?_)
  refine e_istore (pc := 967) d_L_law_967 (Nat.le_of_ble_eq_true rfl) ?_
  dsimp only [List.set]
  refine e_aload_n (pc := 969) d_L_law_969 rfl ?_
  refine e_aload_nS (pc := 970) d_L_law_970 rfl ?_
  refine e_iload (pc := 971) d_L_law_971 rfl ?_
  refine e_iconst (pc := 973) (v := 1) d_L_law_973 (by decide) ?_
  refine e_iadd (pc := 974) d_L_law_974 ?_
  refine e_topi (y := nI (1 + 5 * n + 1)) (nI_add _ 1) ?_
  refine e_sld (pc := 975) d_L_law_975 (vp_in_nI (by omega) (by omega)) (congrArg G.2.2.2.2.2.1 (nI_clamp (by omega))) ?_
  refine e_cV1 (pc := 976) s_L_law_976 (hB) rfl rfl rfl (Nat.le_of_ble_eq_true rfl) (by show cs + 1 + 0 ≤ 650581; omega) (by show sl + 6 + 0 ≤ 7144328; omega) (zGo.v ?_)
  refine e_istore (pc := 979) d_L_law_979 (Nat.le_of_ble_eq_true rfl) ?_
  dsimp only [List.set]
  refine e_aload_n (pc := 981) d_L_law_981 rfl ?_
  refine e_cV0 (pc := 982) s_L_law_982 (sM_thrown) rfl rfl rfl (Nat.le_of_ble_eq_true rfl) (by show cs + 1 + 0 + 0 ≤ 650581; omega) (by show sl + 6 + 0 + 0 ≤ 7144328; omega) (zGo.v ?_)
  refine e_iload (pc := 985) d_L_law_985 rfl ?_
  refine e_icmp_eq (pc := 987) (tgt := 992) d_L_law_987 (by decide) (fun _ => ?_) (fun zz => absurd (rfl) zz)
  refine e_iload (pc := 992) d_L_law_992 rfl ?_
  refine e_if_ne (pc := 994) (tgt := 1009) d_L_law_994 (by decide) (fun hz13 => ?_) (fun hz13 => ?_)
  · refine e_goto (pc := 1009) (tgt := 1249) d_L_law_1009 (by decide) ?_
    refine e_iinc (pc := 1249) d_L_law_1249 rfl (Nat.le_of_ble_eq_true rfl) ?_
    dsimp only [List.set]
    refine e_goto (pc := 1252) (tgt := 33) d_L_law_1252 (by decide) ?_
    exact (add5 n) ▸ E
  · refine e_aload_n (pc := 997) d_L_law_997 rfl ?_
    refine e_iconst (pc := 998) (v := 0) d_L_law_998 (by decide) ?_
    refine e_lald (pc := 999) d_L_law_999 rfl (vp_dec (by decide)) rfl ?_
    refine e_iload (pc := 1000) d_L_law_1000 rfl ?_
    refine e_i2l (pc := 1002) d_L_law_1002 ?_
    refine e_lcmp (pc := 1003) d_L_law_1003 ?_
    refine e_if_eq (pc := 1004) (tgt := 1009) d_L_law_1004 (by decide) (fun _ => ?_) (fun zz => absurd (lgE (hv (by assumption))) zz)
    refine e_goto (pc := 1009) (tgt := 1249) d_L_law_1009 (by decide) ?_
    refine e_iinc (pc := 1249) d_L_law_1249 rfl (Nat.le_of_ble_eq_true rfl) ?_
    dsimp only [List.set]
    refine e_goto (pc := 1252) (tgt := 33) d_L_law_1252 (by decide) ?_
    exact (add5 n) ▸ E
set_option maxHeartbeats 4000000 in
set_option maxRecDepth 100000 in
theorem lc_memory {l : Launch} {G : zGP} {K m n : Nat} {S : St} {th : Int32} {fo : Nat → Int64} {v5 v6 : Value} {cs sl : Nat} (hn : 1 + 5 * n + 5 ≤ G.2.2.2.2.1) (hL : G.2.2.2.2.1 ≤ 2561) (hcs : cs ≤ 100 + 3 * n) (hsl : sl ≤ 2000 + 18 * n) (hag : AgV l G K m S m_L_memory [.ref 0, .int (G.2.2.2.2.2.1 (1 + 5 * n + 1)), .ref 65] m_M_memory [.ref 45, .int (G.2.2.2.2.2.1 (1 + 5 * n + 1))]) (k : ∀ S' m', m' ≤ m + 1 → Inv K S' m' → lwK l G K (n + 1) S') : ∃ hpF, Ev l G m_L_law 1012 [.retAddr 0, .ref 0, .ref 45, .ref 65, .int (nI (1 + 5 * n)), v5, v6] [] (hpA K S S th fo) cs sl (.inl (some (.int 1)), hpF) := by
  obtain ⟨S', fo', code, v, m', hm', hI, hv, hA, hB⟩ := hag th fo
  obtain ⟨hpF, E⟩ := k S' m' hm' hI code fo' (.int code) (.int v) (cs + m_L_memory.2.2.2.2.2.1.cells + m_M_memory.2.2.2.2.2.1.cells + m_M_thrown.2.2.2.2.2.1.cells) (sl + m_L_memory.2.2.2.2.2.1.slots + m_M_memory.2.2.2.2.2.1.slots + m_M_thrown.2.2.2.2.2.1.slots) (by show cs + 1 + 0 + 0 ≤ _; omega) (by show sl + 6 + 0 + 0 ≤ _; omega)
  refine ⟨hpF, ?_⟩
  refine e_aload_n (pc := 1012) d_L_law_1012 rfl ?_
  refine e_aload_nS (pc := 1013) d_L_law_1013 rfl ?_
  refine e_iload (pc := 1014) d_L_law_1014 rfl ?_
  refine e_iconst (pc := 1016) (v := 1) d_L_law_1016 (by decide) ?_
  refine e_iadd (pc := 1017) d_L_law_1017 ?_
  refine e_topi (y := nI (1 + 5 * n + 1)) (nI_add _ 1) ?_
  refine e_sld (pc := 1018) d_L_law_1018 (vp_in_nI (by omega) (by omega)) (congrArg G.2.2.2.2.2.1 (nI_clamp (by omega))) ?_
  refine e_aload_n (pc := 1019) d_L_law_1019 rfl ?_
  refine e_cS3 (pc := 1020) s_L_law_1020 (hA) (Nat.le_of_ble_eq_true rfl) (by show cs + 1 ≤ 650581; omega) (by show sl + 6 ≤ 7144328; omega) (zGo.v ?_)
  refine e_istore (pc := 1023) d_L_law_1023 (Nat.le_of_ble_eq_true rfl) ?_
  dsimp only [List.set]
  refine e_aload_n (pc := 1025) d_L_law_1025 rfl ?_
  refine e_aload_nS (pc := 1026) d_L_law_1026 rfl ?_
  refine e_iload (pc := 1027) d_L_law_1027 rfl ?_
  refine e_iconst (pc := 1029) (v := 1) d_L_law_1029 (by decide) ?_
  refine e_iadd (pc := 1030) d_L_law_1030 ?_
  refine e_topi (y := nI (1 + 5 * n + 1)) (nI_add _ 1) ?_
  refine e_sld (pc := 1031) d_L_law_1031 (vp_in_nI (by omega) (by omega)) (congrArg G.2.2.2.2.2.1 (nI_clamp (by omega))) ?_
  refine e_cV1 (pc := 1032) s_L_law_1032 (hB) rfl rfl rfl (Nat.le_of_ble_eq_true rfl) (by show cs + 1 + 0 ≤ 650581; omega) (by show sl + 6 + 0 ≤ 7144328; omega) (zGo.v ?_)
  refine e_istore (pc := 1035) d_L_law_1035 (Nat.le_of_ble_eq_true rfl) ?_
  dsimp only [List.set]
  refine e_aload_n (pc := 1037) d_L_law_1037 rfl ?_
  refine e_cV0 (pc := 1038) s_L_law_1038 (sM_thrown) rfl rfl rfl (Nat.le_of_ble_eq_true rfl) (by show cs + 1 + 0 + 0 ≤ 650581; omega) (by show sl + 6 + 0 + 0 ≤ 7144328; omega) (zGo.v ?_)
  refine e_iload (pc := 1041) d_L_law_1041 rfl ?_
  refine e_icmp_eq (pc := 1043) (tgt := 1048) d_L_law_1043 (by decide) (fun _ => ?_) (fun zz => absurd (rfl) zz)
  refine e_iload (pc := 1048) d_L_law_1048 rfl ?_
  refine e_if_ne (pc := 1050) (tgt := 1065) d_L_law_1050 (by decide) (fun hz14 => ?_) (fun hz14 => ?_)
  · refine e_goto (pc := 1065) (tgt := 1249) d_L_law_1065 (by decide) ?_
    refine e_iinc (pc := 1249) d_L_law_1249 rfl (Nat.le_of_ble_eq_true rfl) ?_
    dsimp only [List.set]
    refine e_goto (pc := 1252) (tgt := 33) d_L_law_1252 (by decide) ?_
    exact (add5 n) ▸ E
  · refine e_aload_n (pc := 1053) d_L_law_1053 rfl ?_
    refine e_iconst (pc := 1054) (v := 0) d_L_law_1054 (by decide) ?_
    refine e_lald (pc := 1055) d_L_law_1055 rfl (vp_dec (by decide)) rfl ?_
    refine e_iload (pc := 1056) d_L_law_1056 rfl ?_
    refine e_i2l (pc := 1058) d_L_law_1058 ?_
    refine e_lcmp (pc := 1059) d_L_law_1059 ?_
    refine e_if_eq (pc := 1060) (tgt := 1065) d_L_law_1060 (by decide) (fun _ => ?_) (fun zz => absurd (lgE (hv (by assumption))) zz)
    refine e_goto (pc := 1065) (tgt := 1249) d_L_law_1065 (by decide) ?_
    refine e_iinc (pc := 1249) d_L_law_1249 rfl (Nat.le_of_ble_eq_true rfl) ?_
    dsimp only [List.set]
    refine e_goto (pc := 1252) (tgt := 33) d_L_law_1252 (by decide) ?_
    exact (add5 n) ▸ E
set_option maxHeartbeats 4000000 in
set_option maxRecDepth 100000 in
theorem lc_word {l : Launch} {G : zGP} {K m n : Nat} {S : St} {th : Int32} {fo : Nat → Int64} {v5 v6 : Value} {cs sl : Nat} (hn : 1 + 5 * n + 5 ≤ G.2.2.2.2.1) (hL : G.2.2.2.2.1 ≤ 2561) (hcs : cs ≤ 100 + 3 * n) (hsl : sl ≤ 2000 + 18 * n) (hag : AgV l G K m S m_L_word [.ref 0, .int (G.2.2.2.2.2.1 (1 + 5 * n + 1)), .ref 65] m_M_word [.ref 45, .int (G.2.2.2.2.2.1 (1 + 5 * n + 1))]) (k : ∀ S' m', m' ≤ m + 1 → Inv K S' m' → lwK l G K (n + 1) S') : ∃ hpF, Ev l G m_L_law 1068 [.retAddr 0, .ref 0, .ref 45, .ref 65, .int (nI (1 + 5 * n)), v5, v6] [] (hpA K S S th fo) cs sl (.inl (some (.int 1)), hpF) := by
  obtain ⟨S', fo', code, v, m', hm', hI, hv, hA, hB⟩ := hag th fo
  obtain ⟨hpF, E⟩ := k S' m' hm' hI code fo' (.int code) (.int v) (cs + m_L_word.2.2.2.2.2.1.cells + m_M_word.2.2.2.2.2.1.cells + m_M_thrown.2.2.2.2.2.1.cells) (sl + m_L_word.2.2.2.2.2.1.slots + m_M_word.2.2.2.2.2.1.slots + m_M_thrown.2.2.2.2.2.1.slots) (by show cs + 1 + 0 + 0 ≤ _; omega) (by show sl + 6 + 0 + 0 ≤ _; omega)
  refine ⟨hpF, ?_⟩
  refine e_aload_n (pc := 1068) d_L_law_1068 rfl ?_
  refine e_aload_nS (pc := 1069) d_L_law_1069 rfl ?_
  refine e_iload (pc := 1070) d_L_law_1070 rfl ?_
  refine e_iconst (pc := 1072) (v := 1) d_L_law_1072 (by decide) ?_
  refine e_iadd (pc := 1073) d_L_law_1073 ?_
  refine e_topi (y := nI (1 + 5 * n + 1)) (nI_add _ 1) ?_
  refine e_sld (pc := 1074) d_L_law_1074 (vp_in_nI (by omega) (by omega)) (congrArg G.2.2.2.2.2.1 (nI_clamp (by omega))) ?_
  refine e_aload_n (pc := 1075) d_L_law_1075 rfl ?_
  refine e_cS3 (pc := 1076) s_L_law_1076 (hA) (Nat.le_of_ble_eq_true rfl) (by show cs + 1 ≤ 650581; omega) (by show sl + 6 ≤ 7144328; omega) (zGo.v ?_)
  refine e_istore (pc := 1079) d_L_law_1079 (Nat.le_of_ble_eq_true rfl) ?_
  dsimp only [List.set]
  refine e_aload_n (pc := 1081) d_L_law_1081 rfl ?_
  refine e_aload_nS (pc := 1082) d_L_law_1082 rfl ?_
  refine e_iload (pc := 1083) d_L_law_1083 rfl ?_
  refine e_iconst (pc := 1085) (v := 1) d_L_law_1085 (by decide) ?_
  refine e_iadd (pc := 1086) d_L_law_1086 ?_
  refine e_topi (y := nI (1 + 5 * n + 1)) (nI_add _ 1) ?_
  refine e_sld (pc := 1087) d_L_law_1087 (vp_in_nI (by omega) (by omega)) (congrArg G.2.2.2.2.2.1 (nI_clamp (by omega))) ?_
  refine e_cV1 (pc := 1088) s_L_law_1088 (hB) rfl rfl rfl (Nat.le_of_ble_eq_true rfl) (by show cs + 1 + 0 ≤ 650581; omega) (by show sl + 6 + 0 ≤ 7144328; omega) (zGo.v ?_)
  refine e_istore (pc := 1091) d_L_law_1091 (Nat.le_of_ble_eq_true rfl) ?_
  dsimp only [List.set]
  refine e_aload_n (pc := 1093) d_L_law_1093 rfl ?_
  refine e_cV0 (pc := 1094) s_L_law_1094 (sM_thrown) rfl rfl rfl (Nat.le_of_ble_eq_true rfl) (by show cs + 1 + 0 + 0 ≤ 650581; omega) (by show sl + 6 + 0 + 0 ≤ 7144328; omega) (zGo.v ?_)
  refine e_iload (pc := 1097) d_L_law_1097 rfl ?_
  refine e_icmp_eq (pc := 1099) (tgt := 1104) d_L_law_1099 (by decide) (fun _ => ?_) (fun zz => absurd (rfl) zz)
  refine e_iload (pc := 1104) d_L_law_1104 rfl ?_
  refine e_if_ne (pc := 1106) (tgt := 1121) d_L_law_1106 (by decide) (fun hz15 => ?_) (fun hz15 => ?_)
  · refine e_goto (pc := 1121) (tgt := 1249) d_L_law_1121 (by decide) ?_
    refine e_iinc (pc := 1249) d_L_law_1249 rfl (Nat.le_of_ble_eq_true rfl) ?_
    dsimp only [List.set]
    refine e_goto (pc := 1252) (tgt := 33) d_L_law_1252 (by decide) ?_
    exact (add5 n) ▸ E
  · refine e_aload_n (pc := 1109) d_L_law_1109 rfl ?_
    refine e_iconst (pc := 1110) (v := 0) d_L_law_1110 (by decide) ?_
    refine e_lald (pc := 1111) d_L_law_1111 rfl (vp_dec (by decide)) rfl ?_
    refine e_iload (pc := 1112) d_L_law_1112 rfl ?_
    refine e_i2l (pc := 1114) d_L_law_1114 ?_
    refine e_lcmp (pc := 1115) d_L_law_1115 ?_
    refine e_if_eq (pc := 1116) (tgt := 1121) d_L_law_1116 (by decide) (fun _ => ?_) (fun zz => absurd (lgE (hv (by assumption))) zz)
    refine e_goto (pc := 1121) (tgt := 1249) d_L_law_1121 (by decide) ?_
    refine e_iinc (pc := 1249) d_L_law_1249 rfl (Nat.le_of_ble_eq_true rfl) ?_
    dsimp only [List.set]
    refine e_goto (pc := 1252) (tgt := 33) d_L_law_1252 (by decide) ?_
    exact (add5 n) ▸ E
set_option maxHeartbeats 4000000 in
set_option maxRecDepth 100000 in
theorem lc_events {l : Launch} {G : zGP} {K n : Nat} {S : St} {th : Int32} {fo : Nat → Int64} {v5 v6 : Value} {cs sl : Nat} (hn : 1 + 5 * n + 5 ≤ G.2.2.2.2.1) (hL : G.2.2.2.2.1 ≤ 2561) (hcs : cs ≤ 100 + 3 * n) (hsl : sl ≤ 2000 + 18 * n) (k : lwK l G K (n + 1) S) : ∃ hpF, Ev l G m_L_law 1124 [.retAddr 0, .ref 0, .ref 45, .ref 65, .int (nI (1 + 5 * n)), v5, v6] [] (hpA K S S th fo) cs sl (.inl (some (.int 1)), hpF) := by
  obtain ⟨hpF, E⟩ := k 0 fo v5 v6 (cs + m_B_events.2.2.2.2.2.1.cells + m_M_events.2.2.2.2.2.1.cells) (sl + m_B_events.2.2.2.2.2.1.slots + m_M_events.2.2.2.2.2.1.slots) (by show cs + 0 + 0 ≤ _; omega) (by show sl + 0 + 0 ≤ _; omega)
  refine ⟨hpF, ?_⟩
  refine e_aload_n (pc := 1124) d_L_law_1124 rfl ?_
  refine e_cV0 (pc := 1125) s_L_law_1125 (sA_events) rfl rfl rfl (Nat.le_of_ble_eq_true rfl) (by show cs + 0 ≤ 650581; omega) (by show sl + 0 ≤ 7144328; omega) (zGo.v ?_)
  refine e_aload_n (pc := 1128) d_L_law_1128 rfl ?_
  refine e_cV0 (pc := 1129) s_L_law_1129 (sM_events) rfl rfl rfl (Nat.le_of_ble_eq_true rfl) (by show cs + 0 + 0 ≤ 650581; omega) (by show sl + 0 + 0 ≤ 7144328; omega) (zGo.v ?_)
  refine e_icmp_eq (pc := 1132) (tgt := 1249) d_L_law_1132 (by decide) (fun _ => ?_) (fun zz => absurd (rfl) zz)
  refine e_iinc (pc := 1249) d_L_law_1249 rfl (Nat.le_of_ble_eq_true rfl) ?_
  dsimp only [List.set]
  refine e_goto (pc := 1252) (tgt := 33) d_L_law_1252 (by decide) ?_
  exact (add5 n) ▸ E
set_option maxHeartbeats 4000000 in
set_option maxRecDepth 100000 in
theorem lc_event {l : Launch} {G : zGP} {K m n : Nat} {S : St} {th : Int32} {fo : Nat → Int64} {v5 v6 : Value} {cs sl : Nat} (hn : 1 + 5 * n + 5 ≤ G.2.2.2.2.1) (hL : G.2.2.2.2.1 ≤ 2561) (hcs : cs ≤ 100 + 3 * n) (hsl : sl ≤ 2000 + 18 * n) (hag : AgV l G K m S m_L_event [.ref 0, .int (G.2.2.2.2.2.1 (1 + 5 * n + 1)), .ref 65] m_M_event [.ref 45, .int (G.2.2.2.2.2.1 (1 + 5 * n + 1))]) (k : ∀ S' m', m' ≤ m + 1 → Inv K S' m' → lwK l G K (n + 1) S') : ∃ hpF, Ev l G m_L_law 1137 [.retAddr 0, .ref 0, .ref 45, .ref 65, .int (nI (1 + 5 * n)), v5, v6] [] (hpA K S S th fo) cs sl (.inl (some (.int 1)), hpF) := by
  obtain ⟨S', fo', code, v, m', hm', hI, hv, hA, hB⟩ := hag th fo
  obtain ⟨hpF, E⟩ := k S' m' hm' hI code fo' (.int code) (.int v) (cs + m_L_event.2.2.2.2.2.1.cells + m_M_event.2.2.2.2.2.1.cells + m_M_thrown.2.2.2.2.2.1.cells) (sl + m_L_event.2.2.2.2.2.1.slots + m_M_event.2.2.2.2.2.1.slots + m_M_thrown.2.2.2.2.2.1.slots) (by show cs + 1 + 0 + 0 ≤ _; omega) (by show sl + 6 + 0 + 0 ≤ _; omega)
  refine ⟨hpF, ?_⟩
  refine e_aload_n (pc := 1137) d_L_law_1137 rfl ?_
  refine e_aload_nS (pc := 1138) d_L_law_1138 rfl ?_
  refine e_iload (pc := 1139) d_L_law_1139 rfl ?_
  refine e_iconst (pc := 1141) (v := 1) d_L_law_1141 (by decide) ?_
  refine e_iadd (pc := 1142) d_L_law_1142 ?_
  refine e_topi (y := nI (1 + 5 * n + 1)) (nI_add _ 1) ?_
  refine e_sld (pc := 1143) d_L_law_1143 (vp_in_nI (by omega) (by omega)) (congrArg G.2.2.2.2.2.1 (nI_clamp (by omega))) ?_
  refine e_aload_n (pc := 1144) d_L_law_1144 rfl ?_
  refine e_cS3 (pc := 1145) s_L_law_1145 (hA) (Nat.le_of_ble_eq_true rfl) (by show cs + 1 ≤ 650581; omega) (by show sl + 6 ≤ 7144328; omega) (zGo.v ?_)
  refine e_istore (pc := 1148) d_L_law_1148 (Nat.le_of_ble_eq_true rfl) ?_
  dsimp only [List.set]
  refine e_aload_n (pc := 1150) d_L_law_1150 rfl ?_
  refine e_aload_nS (pc := 1151) d_L_law_1151 rfl ?_
  refine e_iload (pc := 1152) d_L_law_1152 rfl ?_
  refine e_iconst (pc := 1154) (v := 1) d_L_law_1154 (by decide) ?_
  refine e_iadd (pc := 1155) d_L_law_1155 ?_
  refine e_topi (y := nI (1 + 5 * n + 1)) (nI_add _ 1) ?_
  refine e_sld (pc := 1156) d_L_law_1156 (vp_in_nI (by omega) (by omega)) (congrArg G.2.2.2.2.2.1 (nI_clamp (by omega))) ?_
  refine e_cV1 (pc := 1157) s_L_law_1157 (hB) rfl rfl rfl (Nat.le_of_ble_eq_true rfl) (by show cs + 1 + 0 ≤ 650581; omega) (by show sl + 6 + 0 ≤ 7144328; omega) (zGo.v ?_)
  refine e_istore (pc := 1160) d_L_law_1160 (Nat.le_of_ble_eq_true rfl) ?_
  dsimp only [List.set]
  refine e_aload_n (pc := 1162) d_L_law_1162 rfl ?_
  refine e_cV0 (pc := 1163) s_L_law_1163 (sM_thrown) rfl rfl rfl (Nat.le_of_ble_eq_true rfl) (by show cs + 1 + 0 + 0 ≤ 650581; omega) (by show sl + 6 + 0 + 0 ≤ 7144328; omega) (zGo.v ?_)
  refine e_iload (pc := 1166) d_L_law_1166 rfl ?_
  refine e_icmp_eq (pc := 1168) (tgt := 1173) d_L_law_1168 (by decide) (fun _ => ?_) (fun zz => absurd (rfl) zz)
  refine e_iload (pc := 1173) d_L_law_1173 rfl ?_
  refine e_if_ne (pc := 1175) (tgt := 1190) d_L_law_1175 (by decide) (fun hz16 => ?_) (fun hz16 => ?_)
  · refine e_goto (pc := 1190) (tgt := 1249) d_L_law_1190 (by decide) ?_
    refine e_iinc (pc := 1249) d_L_law_1249 rfl (Nat.le_of_ble_eq_true rfl) ?_
    dsimp only [List.set]
    refine e_goto (pc := 1252) (tgt := 33) d_L_law_1252 (by decide) ?_
    exact (add5 n) ▸ E
  · refine e_aload_n (pc := 1178) d_L_law_1178 rfl ?_
    refine e_iconst (pc := 1179) (v := 0) d_L_law_1179 (by decide) ?_
    refine e_lald (pc := 1180) d_L_law_1180 rfl (vp_dec (by decide)) rfl ?_
    refine e_iload (pc := 1181) d_L_law_1181 rfl ?_
    refine e_i2l (pc := 1183) d_L_law_1183 ?_
    refine e_lcmp (pc := 1184) d_L_law_1184 ?_
    refine e_if_eq (pc := 1185) (tgt := 1190) d_L_law_1185 (by decide) (fun _ => ?_) (fun zz => absurd (lgE (hv (by assumption))) zz)
    refine e_goto (pc := 1190) (tgt := 1249) d_L_law_1190 (by decide) ?_
    refine e_iinc (pc := 1249) d_L_law_1249 rfl (Nat.le_of_ble_eq_true rfl) ?_
    dsimp only [List.set]
    refine e_goto (pc := 1252) (tgt := 33) d_L_law_1252 (by decide) ?_
    exact (add5 n) ▸ E
set_option maxHeartbeats 4000000 in
set_option maxRecDepth 100000 in
theorem lc_eventValue {l : Launch} {G : zGP} {K m n : Nat} {S : St} {th : Int32} {fo : Nat → Int64} {v5 v6 : Value} {cs sl : Nat} (hn : 1 + 5 * n + 5 ≤ G.2.2.2.2.1) (hL : G.2.2.2.2.1 ≤ 2561) (hcs : cs ≤ 100 + 3 * n) (hsl : sl ≤ 2000 + 18 * n) (hag : AgV l G K m S m_L_eventValue [.ref 0, .int (G.2.2.2.2.2.1 (1 + 5 * n + 1)), .ref 65] m_M_eventValue [.ref 45, .int (G.2.2.2.2.2.1 (1 + 5 * n + 1))]) (k : ∀ S' m', m' ≤ m + 1 → Inv K S' m' → lwK l G K (n + 1) S') : ∃ hpF, Ev l G m_L_law 1193 [.retAddr 0, .ref 0, .ref 45, .ref 65, .int (nI (1 + 5 * n)), v5, v6] [] (hpA K S S th fo) cs sl (.inl (some (.int 1)), hpF) := by
  obtain ⟨S', fo', code, v, m', hm', hI, hv, hA, hB⟩ := hag th fo
  obtain ⟨hpF, E⟩ := k S' m' hm' hI code fo' (.int code) (.int v) (cs + m_L_eventValue.2.2.2.2.2.1.cells + m_M_eventValue.2.2.2.2.2.1.cells + m_M_thrown.2.2.2.2.2.1.cells) (sl + m_L_eventValue.2.2.2.2.2.1.slots + m_M_eventValue.2.2.2.2.2.1.slots + m_M_thrown.2.2.2.2.2.1.slots) (by show cs + 1 + 0 + 0 ≤ _; omega) (by show sl + 6 + 0 + 0 ≤ _; omega)
  refine ⟨hpF, ?_⟩
  refine e_aload_n (pc := 1193) d_L_law_1193 rfl ?_
  refine e_aload_nS (pc := 1194) d_L_law_1194 rfl ?_
  refine e_iload (pc := 1195) d_L_law_1195 rfl ?_
  refine e_iconst (pc := 1197) (v := 1) d_L_law_1197 (by decide) ?_
  refine e_iadd (pc := 1198) d_L_law_1198 ?_
  refine e_topi (y := nI (1 + 5 * n + 1)) (nI_add _ 1) ?_
  refine e_sld (pc := 1199) d_L_law_1199 (vp_in_nI (by omega) (by omega)) (congrArg G.2.2.2.2.2.1 (nI_clamp (by omega))) ?_
  refine e_aload_n (pc := 1200) d_L_law_1200 rfl ?_
  refine e_cS3 (pc := 1201) s_L_law_1201 (hA) (Nat.le_of_ble_eq_true rfl) (by show cs + 1 ≤ 650581; omega) (by show sl + 6 ≤ 7144328; omega) (zGo.v ?_)
  refine e_istore (pc := 1204) d_L_law_1204 (Nat.le_of_ble_eq_true rfl) ?_
  dsimp only [List.set]
  refine e_aload_n (pc := 1206) d_L_law_1206 rfl ?_
  refine e_aload_nS (pc := 1207) d_L_law_1207 rfl ?_
  refine e_iload (pc := 1208) d_L_law_1208 rfl ?_
  refine e_iconst (pc := 1210) (v := 1) d_L_law_1210 (by decide) ?_
  refine e_iadd (pc := 1211) d_L_law_1211 ?_
  refine e_topi (y := nI (1 + 5 * n + 1)) (nI_add _ 1) ?_
  refine e_sld (pc := 1212) d_L_law_1212 (vp_in_nI (by omega) (by omega)) (congrArg G.2.2.2.2.2.1 (nI_clamp (by omega))) ?_
  refine e_cV1 (pc := 1213) s_L_law_1213 (hB) rfl rfl rfl (Nat.le_of_ble_eq_true rfl) (by show cs + 1 + 0 ≤ 650581; omega) (by show sl + 6 + 0 ≤ 7144328; omega) (zGo.v ?_)
  refine e_istore (pc := 1216) d_L_law_1216 (Nat.le_of_ble_eq_true rfl) ?_
  dsimp only [List.set]
  refine e_aload_n (pc := 1218) d_L_law_1218 rfl ?_
  refine e_cV0 (pc := 1219) s_L_law_1219 (sM_thrown) rfl rfl rfl (Nat.le_of_ble_eq_true rfl) (by show cs + 1 + 0 + 0 ≤ 650581; omega) (by show sl + 6 + 0 + 0 ≤ 7144328; omega) (zGo.v ?_)
  refine e_iload (pc := 1222) d_L_law_1222 rfl ?_
  refine e_icmp_eq (pc := 1224) (tgt := 1229) d_L_law_1224 (by decide) (fun _ => ?_) (fun zz => absurd (rfl) zz)
  refine e_iload (pc := 1229) d_L_law_1229 rfl ?_
  refine e_if_ne (pc := 1231) (tgt := 1246) d_L_law_1231 (by decide) (fun hz17 => ?_) (fun hz17 => ?_)
  · refine e_goto (pc := 1246) (tgt := 1249) d_L_law_1246 (by decide) ?_
    refine e_iinc (pc := 1249) d_L_law_1249 rfl (Nat.le_of_ble_eq_true rfl) ?_
    dsimp only [List.set]
    refine e_goto (pc := 1252) (tgt := 33) d_L_law_1252 (by decide) ?_
    exact (add5 n) ▸ E
  · refine e_aload_n (pc := 1234) d_L_law_1234 rfl ?_
    refine e_iconst (pc := 1235) (v := 0) d_L_law_1235 (by decide) ?_
    refine e_lald (pc := 1236) d_L_law_1236 rfl (vp_dec (by decide)) rfl ?_
    refine e_iload (pc := 1237) d_L_law_1237 rfl ?_
    refine e_i2l (pc := 1239) d_L_law_1239 ?_
    refine e_lcmp (pc := 1240) d_L_law_1240 ?_
    refine e_if_eq (pc := 1241) (tgt := 1246) d_L_law_1241 (by decide) (fun _ => ?_) (fun zz => absurd (lgE (hv (by assumption))) zz)
    refine e_goto (pc := 1246) (tgt := 1249) d_L_law_1246 (by decide) ?_
    refine e_iinc (pc := 1249) d_L_law_1249 rfl (Nat.le_of_ble_eq_true rfl) ?_
    dsimp only [List.set]
    refine e_goto (pc := 1252) (tgt := 33) d_L_law_1252 (by decide) ?_
    exact (add5 n) ▸ E
set_option maxHeartbeats 4000000 in
set_option maxRecDepth 100000 in
theorem lc_end {l : Launch} {G : zGP} {K n : Nat} {S : St} {th : Int32} {fo : Nat → Int64} {v5 v6 : Value} {cs sl : Nat} (h : G.2.2.2.2.1 < 1 + 5 * n + 5) (hL : G.2.2.2.2.1 ≤ 2561) (hn : n ≤ 1000) (hcs : cs ≤ 100 + 3 * n) (hsl : sl ≤ 2000 + 18 * n) : Ev l G m_L_law 33 [.retAddr 0, .ref 0, .ref 45, .ref 65, .int (nI (1 + 5 * n)), v5, v6] [] (hpA K S S th fo) cs sl (.inl (some (.int 1)), hpA K S S th fo) := by
  refine e_iload (pc := 33) d_L_law_33 rfl ?_
  refine e_aload_nS (pc := 35) d_L_law_35 rfl ?_
  refine e_slen (pc := 36) d_L_law_36 rfl ?_
  refine e_topi (y := nI G.2.2.2.2.1) rfl ?_
  refine e_iconst (pc := 37) (v := 5) d_L_law_37 (by decide) ?_
  refine e_isub (pc := 38) d_L_law_38 ?_
  refine e_icmp_gt (pc := 39) (tgt := 1255) d_L_law_39 (by decide) (fun _ => ?_) (fun zz => absurd ((gtL hL hn).mpr h) zz)
  refine e_iconst (pc := 1255) (v := 1) d_L_law_1255 (by decide) ?_
  exact e_iret (pc := 1256) d_L_law_1256 rfl (by decide) (by show cs ≤ 650581; omega) (by show sl ≤ 7144328; omega) rfl
set_option maxHeartbeats 4000000 in
set_option maxRecDepth 100000 in
theorem lc_hd {l : Launch} {G : zGP} {K n : Nat} {S : St} {th : Int32} {fo : Nat → Int64} {v5 v6 : Value} {cs sl : Nat} {R : zRes} (hn : 1 + 5 * n + 5 ≤ G.2.2.2.2.1) (hL : G.2.2.2.2.1 ≤ 2561) (kk : Ev l G m_L_law 49 [.retAddr 0, .ref 0, .ref 45, .ref 65, .int (nI (1 + 5 * n)), v5, v6] [.int (nI ((G.2.2.2.2.2.1 (1 + 5 * n)).toBitVec.toNat % 32))] (hpA K S S th fo) cs sl R) : Ev l G m_L_law 33 [.retAddr 0, .ref 0, .ref 45, .ref 65, .int (nI (1 + 5 * n)), v5, v6] [] (hpA K S S th fo) cs sl R := by
  refine e_iload (pc := 33) d_L_law_33 rfl ?_
  refine e_aload_nS (pc := 35) d_L_law_35 rfl ?_
  refine e_slen (pc := 36) d_L_law_36 rfl ?_
  refine e_topi (y := nI G.2.2.2.2.1) rfl ?_
  refine e_iconst (pc := 37) (v := 5) d_L_law_37 (by decide) ?_
  refine e_isub (pc := 38) d_L_law_38 ?_
  refine e_icmp_gt (pc := 39) (tgt := 1255) d_L_law_39 (by decide) (fun zz => absurd zz (mt (gtL hL (by omega)).mp (by omega))) (fun _ => ?_)
  refine e_aload_nS (pc := 42) d_L_law_42 rfl ?_
  refine e_iload (pc := 43) d_L_law_43 rfl ?_
  refine e_sld (pc := 45) d_L_law_45 (vp_in_nI (by omega) (by omega)) (congrArg G.2.2.2.2.2.1 (nI_clamp (by omega))) ?_
  refine e_bipush (pc := 46) (v := 31) d_L_law_46 (by decide) ?_
  refine e_iand (pc := 48) d_L_law_48 ?_
  refine e_topi (y := nI ((G.2.2.2.2.2.1 (1 + 5 * n)).toBitVec.toNat % 32)) (pk_and _ 5 (by decide)) ?_
  exact kk
set_option maxHeartbeats 4000000 in
set_option maxRecDepth 100000 in
theorem lc_df {l : Launch} {G : zGP} {K n : Nat} {S : St} {th : Int32} {fo : Nat → Int64} {v5 v6 : Value} {cs sl : Nat} {R : zRes} (kk : Ev l G m_L_law 33 [.retAddr 0, .ref 0, .ref 45, .ref 65, .int (nI (1 + 5 * (n + 1))), v5, v6] [] (hpA K S S th fo) cs sl R) : Ev l G m_L_law 1249 [.retAddr 0, .ref 0, .ref 45, .ref 65, .int (nI (1 + 5 * n)), v5, v6] [] (hpA K S S th fo) cs sl R := by
  refine e_iinc (pc := 1249) d_L_law_1249 rfl (Nat.le_of_ble_eq_true rfl) ?_
  dsimp only [List.set]
  refine e_goto (pc := 1252) (tgt := 33) d_L_law_1252 (by decide) ?_
  exact (add5 n) ▸ kk
set_option maxHeartbeats 4000000 in
set_option maxRecDepth 100000 in
theorem law_loop {l : Launch} {G : zGP} {K : Nat} (hK4 : K ≤ 4) (hL : G.2.2.2.2.1 ≤ 2561) : ∀ (r n : Nat) (S : St) (m : Nat), G.2.2.2.2.1 < 1 + 5 * n + 5 * (r + 1) → 1 + 5 * n ≤ G.2.2.2.2.1 + 5 → m ≤ n → Inv K S m → lwK l G K n S := by
  intro r
  induction r with
  | zero =>
    intro n S m hr hb hmn hI th fo v5 v6 cs sl hcs hsl
    exact ⟨_, lc_end (by omega) hL (by omega) hcs hsl⟩
  | succ r ih =>
    intro n S m hr hb hmn hI th fo v5 v6 cs sl hcs hsl
    by_cases he : G.2.2.2.2.1 < 1 + 5 * n + 5
    · exact ⟨_, lc_end he hL (by omega) hcs hsl⟩
    have hn : 1 + 5 * n + 5 ≤ G.2.2.2.2.1 := by omega
    have kk : ∀ S' m', m' ≤ m + 1 → Inv K S' m' → lwK l G K (n + 1) S' := fun S' m' a b => ih (n + 1) S' m' (by omega) (by omega) (by omega) b
    have hm : m < 1024 := by omega
    have ho32 : (G.2.2.2.2.2.1 (1 + 5 * n)).toBitVec.toNat % 32 < 32 := Nat.mod_lt _ (by decide)
    rcases (show (G.2.2.2.2.2.1 (1 + 5 * n)).toBitVec.toNat % 32 = 0 ∨ (G.2.2.2.2.2.1 (1 + 5 * n)).toBitVec.toNat % 32 = 1 ∨ (G.2.2.2.2.2.1 (1 + 5 * n)).toBitVec.toNat % 32 = 2 ∨ (G.2.2.2.2.2.1 (1 + 5 * n)).toBitVec.toNat % 32 = 3 ∨ (G.2.2.2.2.2.1 (1 + 5 * n)).toBitVec.toNat % 32 = 4 ∨ (G.2.2.2.2.2.1 (1 + 5 * n)).toBitVec.toNat % 32 = 5 ∨ (G.2.2.2.2.2.1 (1 + 5 * n)).toBitVec.toNat % 32 = 6 ∨ (G.2.2.2.2.2.1 (1 + 5 * n)).toBitVec.toNat % 32 = 7 ∨ (G.2.2.2.2.2.1 (1 + 5 * n)).toBitVec.toNat % 32 = 8 ∨ (G.2.2.2.2.2.1 (1 + 5 * n)).toBitVec.toNat % 32 = 9 ∨ (G.2.2.2.2.2.1 (1 + 5 * n)).toBitVec.toNat % 32 = 10 ∨ (G.2.2.2.2.2.1 (1 + 5 * n)).toBitVec.toNat % 32 = 11 ∨ (G.2.2.2.2.2.1 (1 + 5 * n)).toBitVec.toNat % 32 = 12 ∨ (G.2.2.2.2.2.1 (1 + 5 * n)).toBitVec.toNat % 32 = 13 ∨ (G.2.2.2.2.2.1 (1 + 5 * n)).toBitVec.toNat % 32 = 14 ∨ (G.2.2.2.2.2.1 (1 + 5 * n)).toBitVec.toNat % 32 = 15 ∨ (G.2.2.2.2.2.1 (1 + 5 * n)).toBitVec.toNat % 32 = 16 ∨ (G.2.2.2.2.2.1 (1 + 5 * n)).toBitVec.toNat % 32 = 17 ∨ (G.2.2.2.2.2.1 (1 + 5 * n)).toBitVec.toNat % 32 = 18 ∨ 19 ≤ (G.2.2.2.2.2.1 (1 + 5 * n)).toBitVec.toNat % 32 by omega) with ho | ho | ho | ho | ho | ho | ho | ho | ho | ho | ho | ho | ho | ho | ho | ho | ho | ho | ho | ho
    · obtain ⟨hpF, E⟩ := lc_code (th := th) (fo := fo) (v5 := v5) (v6 := v6) hn hL hcs hsl (ag_code hI hK4 hm _ _ _ _) kk
      exact ⟨hpF, lc_hd hn hL (by rw [ho]; exact e_tswI (pc := 49) (off := 91) (tgt := 140) d_L_law_49 (by decide) (by decide) (by decide) (by decide) E)⟩
    · obtain ⟨hpF, E⟩ := lc_poke (th := th) (fo := fo) (v5 := v5) (v6 := v6) hn hL hcs hsl (ag_poke hI hK4 hm _ _) kk
      exact ⟨hpF, lc_hd hn hL (by rw [ho]; exact e_tswI (pc := 49) (off := 183) (tgt := 232) d_L_law_49 (by decide) (by decide) (by decide) (by decide) E)⟩
    · obtain ⟨hpF, E⟩ := lc_step (th := th) (fo := fo) (v5 := v5) (v6 := v6) hn hL hcs hsl (ag_step hI hK4 hm _) kk
      exact ⟨hpF, lc_hd hn hL (by rw [ho]; exact e_tswI (pc := 49) (off := 231) (tgt := 280) d_L_law_49 (by decide) (by decide) (by decide) (by decide) E)⟩
    · obtain ⟨hpF, E⟩ := lc_drain (th := th) (fo := fo) (v5 := v5) (v6 := v6) hn hL hcs hsl (ag_drain hI hK4 hm _) kk
      exact ⟨hpF, lc_hd hn hL (by rw [ho]; exact e_tswI (pc := 49) (off := 287) (tgt := 336) d_L_law_49 (by decide) (by decide) (by decide) (by decide) E)⟩
    · obtain ⟨hpF, E⟩ := lc_grant (th := th) (fo := fo) (v5 := v5) (v6 := v6) hn hL hcs hsl (ag_grant hI hK4 hm _) kk
      exact ⟨hpF, lc_hd hn hL (by rw [ho]; exact e_tswI (pc := 49) (off := 343) (tgt := 392) d_L_law_49 (by decide) (by decide) (by decide) (by decide) E)⟩
    · obtain ⟨hpF, E⟩ := lc_fill (th := th) (fo := fo) (v5 := v5) (v6 := v6) hn hL hcs hsl (ag_fill hI hK4 hm _) kk
      exact ⟨hpF, lc_hd hn hL (by rw [ho]; exact e_tswI (pc := 49) (off := 399) (tgt := 448) d_L_law_49 (by decide) (by decide) (by decide) (by decide) E)⟩
    · obtain ⟨hpF, E⟩ := lc_register (th := th) (fo := fo) (v5 := v5) (v6 := v6) hn hL hcs hsl (ag_register hI hK4 hm _ _) kk
      exact ⟨hpF, lc_hd hn hL (by rw [ho]; exact e_tswI (pc := 49) (off := 455) (tgt := 504) d_L_law_49 (by decide) (by decide) (by decide) (by decide) E)⟩
    · obtain ⟨hpF, E⟩ := lc_place (th := th) (fo := fo) (v5 := v5) (v6 := v6) hn hL hcs hsl (ag_place hI hK4 hm _) kk
      exact ⟨hpF, lc_hd hn hL (by rw [ho]; exact e_tswI (pc := 49) (off := 523) (tgt := 572) d_L_law_49 (by decide) (by decide) (by decide) (by decide) E)⟩
    · obtain ⟨hpF, E⟩ := lc_buffered (th := th) (fo := fo) (v5 := v5) (v6 := v6) hn hL hcs hsl (ag_buffered hI hK4 hm _) kk
      exact ⟨hpF, lc_hd hn hL (by rw [ho]; exact e_tswI (pc := 49) (off := 579) (tgt := 628) d_L_law_49 (by decide) (by decide) (by decide) (by decide) E)⟩
    · obtain ⟨hpF, E⟩ := lc_storeAddress (th := th) (fo := fo) (v5 := v5) (v6 := v6) hn hL hcs hsl (ag_storeAddress hI hK4 hm _ _) kk
      exact ⟨hpF, lc_hd hn hL (by rw [ho]; exact e_tswI (pc := 49) (off := 635) (tgt := 684) d_L_law_49 (by decide) (by decide) (by decide) (by decide) E)⟩
    · obtain ⟨hpF, E⟩ := lc_storeValue (th := th) (fo := fo) (v5 := v5) (v6 := v6) hn hL hcs hsl (ag_storeValue hI hK4 hm _ _) kk
      exact ⟨hpF, lc_hd hn hL (by rw [ho]; exact e_tswI (pc := 49) (off := 703) (tgt := 752) d_L_law_49 (by decide) (by decide) (by decide) (by decide) E)⟩
    · obtain ⟨hpF, E⟩ := lc_line (th := th) (fo := fo) (v5 := v5) (v6 := v6) hn hL hcs hsl (ag_line hI hK4 hm _ _) kk
      exact ⟨hpF, lc_hd hn hL (by rw [ho]; exact e_tswI (pc := 49) (off := 771) (tgt := 820) d_L_law_49 (by decide) (by decide) (by decide) (by decide) E)⟩
    · obtain ⟨hpF, E⟩ := lc_cached (th := th) (fo := fo) (v5 := v5) (v6 := v6) hn hL hcs hsl (ag_cached hI hK4 hm _ _) kk
      exact ⟨hpF, lc_hd hn hL (by rw [ho]; exact e_tswI (pc := 49) (off := 839) (tgt := 888) d_L_law_49 (by decide) (by decide) (by decide) (by decide) E)⟩
    · obtain ⟨hpF, E⟩ := lc_request (th := th) (fo := fo) (v5 := v5) (v6 := v6) hn hL hcs hsl (ag_request hI hK4 hm _) kk
      exact ⟨hpF, lc_hd hn hL (by rw [ho]; exact e_tswI (pc := 49) (off := 907) (tgt := 956) d_L_law_49 (by decide) (by decide) (by decide) (by decide) E)⟩
    · obtain ⟨hpF, E⟩ := lc_memory (th := th) (fo := fo) (v5 := v5) (v6 := v6) hn hL hcs hsl (ag_memory hI hK4 hm _) kk
      exact ⟨hpF, lc_hd hn hL (by rw [ho]; exact e_tswI (pc := 49) (off := 963) (tgt := 1012) d_L_law_49 (by decide) (by decide) (by decide) (by decide) E)⟩
    · obtain ⟨hpF, E⟩ := lc_word (th := th) (fo := fo) (v5 := v5) (v6 := v6) hn hL hcs hsl (ag_word hI hK4 hm _) kk
      exact ⟨hpF, lc_hd hn hL (by rw [ho]; exact e_tswI (pc := 49) (off := 1019) (tgt := 1068) d_L_law_49 (by decide) (by decide) (by decide) (by decide) E)⟩
    · obtain ⟨hpF, E⟩ := lc_events (th := th) (fo := fo) (v5 := v5) (v6 := v6) hn hL hcs hsl (kk S m (Nat.le_succ m) hI)
      exact ⟨hpF, lc_hd hn hL (by rw [ho]; exact e_tswI (pc := 49) (off := 1075) (tgt := 1124) d_L_law_49 (by decide) (by decide) (by decide) (by decide) E)⟩
    · obtain ⟨hpF, E⟩ := lc_event (th := th) (fo := fo) (v5 := v5) (v6 := v6) hn hL hcs hsl (ag_event hI hK4 hm _) kk
      exact ⟨hpF, lc_hd hn hL (by rw [ho]; exact e_tswI (pc := 49) (off := 1088) (tgt := 1137) d_L_law_49 (by decide) (by decide) (by decide) (by decide) E)⟩
    · obtain ⟨hpF, E⟩ := lc_eventValue (th := th) (fo := fo) (v5 := v5) (v6 := v6) hn hL hcs hsl (ag_eventValue hI hK4 hm _) kk
      exact ⟨hpF, lc_hd hn hL (by rw [ho]; exact e_tswI (pc := 49) (off := 1144) (tgt := 1193) d_L_law_49 (by decide) (by decide) (by decide) (by decide) E)⟩
    · obtain ⟨hpF, E⟩ := kk S m (Nat.le_succ m) hI th fo v5 v6 cs sl (by omega) (by omega)
      exact ⟨hpF, lc_hd hn hL (e_tswO (pc := 49) (tgt := 1249) d_L_law_49 (Or.inr (by rw [nI_toInt (by omega)]; omega)) (by decide) (lc_df E))⟩
