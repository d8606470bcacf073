/-! the law: write, erase, fault, take, item, bounds -/
theorem w_write {i N r k n : Nat} {sc : Nat → Int} {L : List Nat} {G : Nat → Nat → Int} (hN : N ≤ 2560) (hi : i + 5 ≤ N) (hsc : zSc sc) (inv : zInv L G) (bu : zBu (r + 1) L k n) (next : zNx i r N sc) : X (mL_law N sc) 10 600000 7302250 qT 164 [some (vR 0), some (vR 1), some (vR 127), some (vI i)] [] L G k n := by
  have inv0 := inv
  obtain ⟨⟨n0, b, hTc, hTm⟩, ⟨m, S, I, lo, hi, mk, hEc, hEm, hBc, hBm, hU, hC⟩, ⟨tw, tn, hHc, hHm⟩, ⟨dn, dl, hDc, hDm⟩, ⟨pn, pl, hPc, hPm⟩, ⟨s, sn, sl, hSc, hSm, hO⟩, hA, hF, hL⟩ := inv0
  refine x_aloadn (pc := 164) dL_law_164 rfl ?_
  refine x_aloadn (pc := 165) dL_law_165 rfl ?_
  refine x_iloadn (pc := 166) dL_law_166 rfl ?_
  refine x_iconst (pc := 167) dL_law_167 ?_
  refine x_iadd (pc := 168) dL_law_168 ?_
  refine x_sld (N := N) (i + 1) (pc := 169) dL_law_169 rfl ⟨by omega, by omega, by omega⟩ ?_
  refine x_i2l (pc := 170) dL_law_170 (hsc _) ?_
  refine x_bipush (pc := 171) dL_law_171 (by decide) ?_
  refine x_lshl (pc := 173) dL_law_173 32 (by decide) (by decide) ?_
  refine x_aloadn (pc := 174) dL_law_174 rfl ?_
  refine x_iloadn (pc := 175) dL_law_175 rfl ?_
  refine x_iconst (pc := 176) dL_law_176 ?_
  refine x_iadd (pc := 177) dL_law_177 ?_
  refine x_sld (N := N) (i + 2) (pc := 178) dL_law_178 rfl ⟨by omega, by omega, by omega⟩ ?_
  refine x_i2l (pc := 179) dL_law_179 (hsc _) ?_
  refine x_ldc2 (pc := 180) dL_law_180 co_L_13 ?_
  refine x_landm (pc := 183) dL_law_183 32 4294967296 (by decide) (by decide) (by decide) ?_
  refine x_lorD (pc := 184) dL_law_184 ?_
  refine x_aloadn (pc := 185) dL_law_185 rfl ?_
  refine x_iloadn (pc := 186) dL_law_186 rfl ?_
  refine x_iconst (pc := 187) dL_law_187 ?_
  refine x_iadd (pc := 188) dL_law_188 ?_
  refine x_sld (N := N) (i + 3) (pc := 189) dL_law_189 rfl ⟨by omega, by omega, by omega⟩ ?_
  refine x_cVI (pc := 190) dL_law_190 lk_L_15 (c_ts_write hL hF hTc (zlo_bd _ _) (hsc (i + 3))) k_1 ⟨by decide, rfl⟩ (hL 1 (by decide) (by decide)) ⟨by decide, by decide⟩ (Nat.le_of_ble_eq_true rfl) rfl ?_
  rintro x G1 h1
  rcases h1 with ⟨g1, hx, e1⟩ | ⟨g1, g2, hx, e1⟩ | ⟨g1, g2, hx, c1, k1, hF1⟩
  · skip
    obtain rfl := e1.symm
    refine x_aloadn (pc := 193) dL_law_193 rfl ?_
    refine x_aloadn (pc := 194) dL_law_194 rfl ?_
    refine x_iloadn (pc := 195) dL_law_195 rfl ?_
    refine x_iconst (pc := 196) dL_law_196 ?_
    refine x_iadd (pc := 197) dL_law_197 ?_
    refine x_sld (N := N) (i + 1) (pc := 198) dL_law_198 rfl ⟨by omega, by omega, by omega⟩ ?_
    refine x_i2l (pc := 199) dL_law_199 (hsc _) ?_
    refine x_bipush (pc := 200) dL_law_200 (by decide) ?_
    refine x_lshl (pc := 202) dL_law_202 32 (by decide) (by decide) ?_
    refine x_aloadn (pc := 203) dL_law_203 rfl ?_
    refine x_iloadn (pc := 204) dL_law_204 rfl ?_
    refine x_iconst (pc := 205) dL_law_205 ?_
    refine x_iadd (pc := 206) dL_law_206 ?_
    refine x_sld (N := N) (i + 2) (pc := 207) dL_law_207 rfl ⟨by omega, by omega, by omega⟩ ?_
    refine x_i2l (pc := 208) dL_law_208 (hsc _) ?_
    refine x_ldc2 (pc := 209) dL_law_209 co_L_13 ?_
    refine x_landm (pc := 212) dL_law_212 32 4294967296 (by decide) (by decide) (by decide) ?_
    refine x_lorD (pc := 213) dL_law_213 ?_
    refine x_aloadn (pc := 214) dL_law_214 rfl ?_
    refine x_iloadn (pc := 215) dL_law_215 rfl ?_
    refine x_iconst (pc := 216) dL_law_216 ?_
    refine x_iadd (pc := 217) dL_law_217 ?_
    refine x_sld (N := N) (i + 3) (pc := 218) dL_law_218 rfl ⟨by omega, by omega, by omega⟩ ?_
    refine x_cVI (pc := 219) dL_law_219 lk_L_19 (c_mo_write hL hF hTm (zlo_bd _ _) (hsc (i + 3))) k_127 ⟨by decide, rfl⟩ (hL 127 (by decide) (by decide)) ⟨by decide, by decide⟩ (Nat.le_of_ble_eq_true rfl) rfl ?_
    rintro y G2 h2
    rcases h2 with ⟨g3, hy, e2⟩ | ⟨g3, g4, hy, e2⟩ | ⟨g3, g4, hy, m1, k2, hF2⟩
    · skip
      obtain rfl := e2.symm
      refine x_ceqS (tgt := 1091) (pc := 222) dL_law_222 (by decide) (hx.trans hy.symm) ?_
      exact next _ _ _ _ inv bu.st
    · skip
      first | exact absurd g3 g1 | exact absurd g1 g3 | exact absurd g4 g2 | exact absurd g2 g4 | exact absurd g3 g1.1 | (exfalso; omega)
    · skip
      first | exact absurd g3 g1 | exact absurd g1 g3 | exact absurd g4 g2 | exact absurd g2 g4 | exact absurd g3 g1.1 | (exfalso; omega)
  · skip
    obtain rfl := e1.symm
    refine x_aloadn (pc := 193) dL_law_193 rfl ?_
    refine x_aloadn (pc := 194) dL_law_194 rfl ?_
    refine x_iloadn (pc := 195) dL_law_195 rfl ?_
    refine x_iconst (pc := 196) dL_law_196 ?_
    refine x_iadd (pc := 197) dL_law_197 ?_
    refine x_sld (N := N) (i + 1) (pc := 198) dL_law_198 rfl ⟨by omega, by omega, by omega⟩ ?_
    refine x_i2l (pc := 199) dL_law_199 (hsc _) ?_
    refine x_bipush (pc := 200) dL_law_200 (by decide) ?_
    refine x_lshl (pc := 202) dL_law_202 32 (by decide) (by decide) ?_
    refine x_aloadn (pc := 203) dL_law_203 rfl ?_
    refine x_iloadn (pc := 204) dL_law_204 rfl ?_
    refine x_iconst (pc := 205) dL_law_205 ?_
    refine x_iadd (pc := 206) dL_law_206 ?_
    refine x_sld (N := N) (i + 2) (pc := 207) dL_law_207 rfl ⟨by omega, by omega, by omega⟩ ?_
    refine x_i2l (pc := 208) dL_law_208 (hsc _) ?_
    refine x_ldc2 (pc := 209) dL_law_209 co_L_13 ?_
    refine x_landm (pc := 212) dL_law_212 32 4294967296 (by decide) (by decide) (by decide) ?_
    refine x_lorD (pc := 213) dL_law_213 ?_
    refine x_aloadn (pc := 214) dL_law_214 rfl ?_
    refine x_iloadn (pc := 215) dL_law_215 rfl ?_
    refine x_iconst (pc := 216) dL_law_216 ?_
    refine x_iadd (pc := 217) dL_law_217 ?_
    refine x_sld (N := N) (i + 3) (pc := 218) dL_law_218 rfl ⟨by omega, by omega, by omega⟩ ?_
    refine x_cVI (pc := 219) dL_law_219 lk_L_19 (c_mo_write hL hF hTm (zlo_bd _ _) (hsc (i + 3))) k_127 ⟨by decide, rfl⟩ (hL 127 (by decide) (by decide)) ⟨by decide, by decide⟩ (Nat.le_of_ble_eq_true rfl) rfl ?_
    rintro y G2 h2
    rcases h2 with ⟨g3, hy, e2⟩ | ⟨g3, g4, hy, e2⟩ | ⟨g3, g4, hy, m1, k2, hF2⟩
    · skip
      first | exact absurd g3 g1 | exact absurd g1 g3 | exact absurd g4 g2 | exact absurd g2 g4 | exact absurd g3 g1.1 | (exfalso; omega)
    · skip
      obtain rfl := e2.symm
      refine x_ceqS (tgt := 1091) (pc := 222) dL_law_222 (by decide) (hx.trans hy.symm) ?_
      exact next _ _ _ _ inv bu.st
    · skip
      first | exact absurd g3 g1 | exact absurd g1 g3 | exact absurd g4 g2 | exact absurd g2 g4 | exact absurd g3 g1.1 | (exfalso; omega)
  · skip
    have q1 := hTm.Fk (F := []) k1.fm (by decide) (by decide) (by decide)
    refine x_aloadn (pc := 193) dL_law_193 rfl ?_
    refine x_aloadn (pc := 194) dL_law_194 rfl ?_
    refine x_iloadn (pc := 195) dL_law_195 rfl ?_
    refine x_iconst (pc := 196) dL_law_196 ?_
    refine x_iadd (pc := 197) dL_law_197 ?_
    refine x_sld (N := N) (i + 1) (pc := 198) dL_law_198 rfl ⟨by omega, by omega, by omega⟩ ?_
    refine x_i2l (pc := 199) dL_law_199 (hsc _) ?_
    refine x_bipush (pc := 200) dL_law_200 (by decide) ?_
    refine x_lshl (pc := 202) dL_law_202 32 (by decide) (by decide) ?_
    refine x_aloadn (pc := 203) dL_law_203 rfl ?_
    refine x_iloadn (pc := 204) dL_law_204 rfl ?_
    refine x_iconst (pc := 205) dL_law_205 ?_
    refine x_iadd (pc := 206) dL_law_206 ?_
    refine x_sld (N := N) (i + 2) (pc := 207) dL_law_207 rfl ⟨by omega, by omega, by omega⟩ ?_
    refine x_i2l (pc := 208) dL_law_208 (hsc _) ?_
    refine x_ldc2 (pc := 209) dL_law_209 co_L_13 ?_
    refine x_landm (pc := 212) dL_law_212 32 4294967296 (by decide) (by decide) (by decide) ?_
    refine x_lorD (pc := 213) dL_law_213 ?_
    refine x_aloadn (pc := 214) dL_law_214 rfl ?_
    refine x_iloadn (pc := 215) dL_law_215 rfl ?_
    refine x_iconst (pc := 216) dL_law_216 ?_
    refine x_iadd (pc := 217) dL_law_217 ?_
    refine x_sld (N := N) (i + 3) (pc := 218) dL_law_218 rfl ⟨by omega, by omega, by omega⟩ ?_
    refine x_cVI (pc := 219) dL_law_219 lk_L_19 (c_mo_write hL hF1 q1 (zlo_bd _ _) (hsc (i + 3))) k_127 ⟨by decide, rfl⟩ (hL 127 (by decide) (by decide)) ⟨by decide, by decide⟩ (Nat.le_of_ble_eq_true rfl) rfl ?_
    rintro y G2 h2
    rcases h2 with ⟨g3, hy, e2⟩ | ⟨g3, g4, hy, e2⟩ | ⟨g3, g4, hy, m1, k2, hF2⟩
    · skip
      first | exact absurd g3 g1 | exact absurd g1 g3 | exact absurd g4 g2 | exact absurd g2 g4 | exact absurd g3 g1.1 | (exfalso; omega)
    · skip
      first | exact absurd g3 g1 | exact absurd g1 g3 | exact absurd g4 g2 | exact absurd g2 g4 | exact absurd g3 g1.1 | (exfalso; omega)
    · skip
      refine x_ceqS (tgt := 1091) (pc := 222) dL_law_222 (by decide) (hx.trans hy.symm) ?_
      have kk : FM ([2, 3] ++ [128]) [1] G G2 := (k1.fm.mono (fun i w => List.mem_append_left _ w) (fun _ w => w)).tr (k2.mono (fun i w => List.mem_append_right _ w) (fun _ w => w))
      exact next _ _ _ _ ⟨(⟨_, _, c1.FR k2.fr (by decide) (by decide), m1⟩), (inv.2.1.k kk (by decide +kernel) (by decide +kernel)), (inv.2.2.1.k kk (by decide +kernel)), (inv.2.2.2.1.k kk (by decide +kernel)), (inv.2.2.2.2.1.k kk (by decide +kernel)), (inv.2.2.2.2.2.1.k kk (by decide +kernel) (by decide +kernel)), (hA.FR kk.fr (by decide +kernel)), hF2, hL⟩ bu.st
theorem w_erase {i N r k n : Nat} {sc : Nat → Int} {L : List Nat} {G : Nat → Nat → Int} (hN : N ≤ 2560) (hi : i + 5 ≤ N) (hsc : zSc sc) (inv : zInv L G) (bu : zBu (r + 1) L k n) (next : zNx i r N sc) : X (mL_law N sc) 10 600000 7302250 qT 227 [some (vR 0), some (vR 1), some (vR 127), some (vI i)] [] L G k n := by
  have inv0 := inv
  obtain ⟨⟨n0, b, hTc, hTm⟩, ⟨m, S, I, lo, hi, mk, hEc, hEm, hBc, hBm, hU, hC⟩, ⟨tw, tn, hHc, hHm⟩, ⟨dn, dl, hDc, hDm⟩, ⟨pn, pl, hPc, hPm⟩, ⟨s, sn, sl, hSc, hSm, hO⟩, hA, hF, hL⟩ := inv0
  refine x_aloadn (pc := 227) dL_law_227 rfl ?_
  refine x_cVI (pc := 228) dL_law_228 lk_L_20 (c_ts_erase hL hF hTc) k_1 ⟨by decide, rfl⟩ (hL 1 (by decide) (by decide)) ⟨by decide, by decide⟩ (Nat.le_of_ble_eq_true rfl) rfl ?_
  rintro x G1 h1
  obtain ⟨hx, c1, k1, hF1⟩ := h1
  have q1 := hTm.Fk (F := []) k1.fm (by decide) (by decide) (by decide)
  refine x_aloadn (pc := 231) dL_law_231 rfl ?_
  refine x_cVI (pc := 232) dL_law_232 lk_L_24 (c_mo_erase hL hF1 q1) k_127 ⟨by decide, rfl⟩ (hL 127 (by decide) (by decide)) ⟨by decide, by decide⟩ (Nat.le_of_ble_eq_true rfl) rfl ?_
  rintro y G2 h2
  obtain ⟨hy, m1, k2, hF2⟩ := h2
  refine x_ceqS (tgt := 1091) (pc := 235) dL_law_235 (by decide) (hx.trans hy.symm) ?_
  have kk : FM ([2] ++ []) [1] G G2 := (k1.fm.mono (fun i w => List.mem_append_left _ w) (fun _ w => w)).tr (k2.mono (fun i w => List.mem_append_right _ w) (fun _ w => w))
  exact next _ _ _ _ ⟨(⟨0, _, c1.FR k2.fr (by decide) (by decide), m1⟩), (inv.2.1.k kk (by decide +kernel) (by decide +kernel)), (inv.2.2.1.k kk (by decide +kernel)), (inv.2.2.2.1.k kk (by decide +kernel)), (inv.2.2.2.2.1.k kk (by decide +kernel)), (inv.2.2.2.2.2.1.k kk (by decide +kernel) (by decide +kernel)), (hA.FR kk.fr (by decide +kernel)), hF2, hL⟩ bu.st
theorem w_fault {i N r k n : Nat} {sc : Nat → Int} {L : List Nat} {G : Nat → Nat → Int} (hN : N ≤ 2560) (hi : i + 5 ≤ N) (hsc : zSc sc) (inv : zInv L G) (bu : zBu (r + 1) L k n) (next : zNx i r N sc) : X (mL_law N sc) 10 600000 7302250 qT 240 [some (vR 0), some (vR 1), some (vR 127), some (vI i)] [] L G k n := by
  have inv0 := inv
  obtain ⟨⟨n0, b, hTc, hTm⟩, ⟨m, S, I, lo, hi, mk, hEc, hEm, hBc, hBm, hU, hC⟩, ⟨tw, tn, hHc, hHm⟩, ⟨dn, dl, hDc, hDm⟩, ⟨pn, pl, hPc, hPm⟩, ⟨s, sn, sl, hSc, hSm, hO⟩, hA, hF, hL⟩ := inv0
  refine x_aloadn (pc := 240) dL_law_240 rfl ?_
  refine x_cVI (pc := 241) dL_law_241 lk_L_25 (c_ts_fault hL hF hTc) k_1 ⟨by decide, rfl⟩ (hL 1 (by decide) (by decide)) ⟨by decide, by decide⟩ (Nat.le_of_ble_eq_true rfl) rfl ?_
  rintro x G1 h1
  obtain ⟨hx, e1⟩ := h1
  obtain rfl := e1.symm
  refine x_aloadn (pc := 244) dL_law_244 rfl ?_
  refine x_cVI (pc := 245) dL_law_245 lk_L_28 (c_mo_fault hL hF hTm) k_127 ⟨by decide, rfl⟩ (hL 127 (by decide) (by decide)) ⟨by decide, by decide⟩ (Nat.le_of_ble_eq_true rfl) rfl ?_
  rintro y G2 h2
  obtain ⟨hy, k2, hF2, _⟩ := h2
  refine x_ceqS (tgt := 1091) (pc := 248) dL_law_248 (by decide) (hx.trans hy.symm) ?_
  exact next _ _ _ _ (inv.k k2 hF2 (by decide +kernel) (by decide +kernel) (by decide +kernel) (by decide +kernel) (by decide +kernel) (by decide +kernel) (by decide +kernel)) bu.st
theorem w_take {i N r k n : Nat} {sc : Nat → Int} {L : List Nat} {G : Nat → Nat → Int} (hN : N ≤ 2560) (hi : i + 5 ≤ N) (hsc : zSc sc) (inv : zInv L G) (bu : zBu (r + 1) L k n) (next : zNx i r N sc) : X (mL_law N sc) 10 600000 7302250 qT 253 [some (vR 0), some (vR 1), some (vR 127), some (vI i)] [] L G k n := by
  have inv0 := inv
  obtain ⟨⟨n0, b, hTc, hTm⟩, ⟨m, S, I, lo, hi, mk, hEc, hEm, hBc, hBm, hU, hC⟩, ⟨tw, tn, hHc, hHm⟩, ⟨dn, dl, hDc, hDm⟩, ⟨pn, pl, hPc, hPm⟩, ⟨s, sn, sl, hSc, hSm, hO⟩, hA, hF, hL⟩ := inv0
  refine x_aloadn (pc := 253) dL_law_253 rfl ?_
  refine x_cVI (pc := 254) dL_law_254 lk_L_29 (c_ts_take hL hF hTc) k_1 ⟨by decide, rfl⟩ (hL 1 (by decide) (by decide)) ⟨by decide, by decide⟩ (Nat.le_of_ble_eq_true rfl) rfl ?_
  rintro x G1 h1
  rcases h1 with ⟨g1, hx, e1⟩ | ⟨g1, hx, c1, c2, c3, c4, c5, k0, hF1⟩
  · skip
    obtain rfl := e1.symm
    refine x_aloadn (pc := 257) dL_law_257 rfl ?_
    refine x_cVI (pc := 258) dL_law_258 lk_L_32 (c_mo_take hL hF hTm) k_127 ⟨by decide, rfl⟩ (hL 127 (by decide) (by decide)) ⟨by decide, by decide⟩ (Nat.le_of_ble_eq_true rfl) rfl ?_
    rintro y G2 h2
    rcases h2 with ⟨g3, hy, k2, hF2⟩ | ⟨g3, hy, m1, m2, k2, hF2⟩
    · skip
      refine x_ceqS (tgt := 1091) (pc := 261) dL_law_261 (by decide) (hx.trans hy.symm) ?_
      exact next _ _ _ _ (inv.k k2 hF2 (by decide +kernel) (by decide +kernel) (by decide +kernel) (by decide +kernel) (by decide +kernel) (by decide +kernel) (by decide +kernel)) bu.st
    · skip
      first | exact absurd g3 g1 | exact absurd g1 g3 | exact absurd g4 g2 | exact absurd g2 g4 | exact absurd g3 g1.1 | (exfalso; omega)
  · skip
    have k1 := k0.fr
    have q1 := hTm.Fk (F := []) k1.fm (by decide) (by decide) (by decide)
    refine x_aloadn (pc := 257) dL_law_257 rfl ?_
    refine x_cVI (pc := 258) dL_law_258 lk_L_32 (c_mo_take hL hF1 q1) k_127 ⟨by decide, rfl⟩ (hL 127 (by decide) (by decide)) ⟨by decide, by decide⟩ (Nat.le_of_ble_eq_true rfl) rfl ?_
    rintro y G2 h2
    rcases h2 with ⟨g3, hy, k2, hF2⟩ | ⟨g3, hy, m1, m2, k2, hF2⟩
    · skip
      first | exact absurd g3 g1 | exact absurd g1 g3 | exact absurd g4 g2 | exact absurd g2 g4 | exact absurd g3 g1.1 | (exfalso; omega)
    · skip
      refine x_ceqS (tgt := 1091) (pc := 261) dL_law_261 (by decide) (hx.trans hy.symm) ?_
      have kk : FM (([4, 2, 46, 67] ++ (List.range (46 - 6)).map fun j => 6 + j) ++ [142, 143, 130, 129]) [5, 4, 1] G G2 := (k1.fm.mono (fun i w => List.mem_append_left _ w) (fun _ w => w)).tr (k2.mono (fun i w => List.mem_append_right _ w) (fun _ w => w))
      have k46 : G2 46 = G1 46 := k2.cell (by decide) (by decide)
      have k67 : G2 67 = G1 67 := k2.cell (by decide) (by decide)
      exact next _ _ _ _ ⟨(⟨0, _, c2.FR k2.fr (by decide) (by decide), m2⟩), (⟨_, _, _, lo, hi, mk, cEq.FR c1 k2.fr (by decide), m1, cBd.FR hBc kk.fr (by decide +kernel) (by decide +kernel) (by decide +kernel), hBm.Fk kk (by decide +kernel) (by decide +kernel) (by decide +kernel), cSuv_0 (by rw [k46]; exact c3), cCh_tk hC (fun e he => by rw [k67]; exact c5 e he) kk.fr (by decide +kernel)⟩), (inv.2.2.1.k kk (by decide +kernel)), (inv.2.2.2.1.k kk (by decide +kernel)), (inv.2.2.2.2.1.k kk (by decide +kernel)), (inv.2.2.2.2.2.1.k kk (by decide +kernel) (by decide +kernel)), (hA.c13 (fun j hj => by rw [k46]; exact c4 j hj)), hF2, hL⟩ bu.st
theorem w_item {i N r k n : Nat} {sc : Nat → Int} {L : List Nat} {G : Nat → Nat → Int} (hN : N ≤ 2560) (hi : i + 5 ≤ N) (hsc : zSc sc) (inv : zInv L G) (bu : zBu (r + 1) L k n) (next : zNx i r N sc) : X (mL_law N sc) 10 600000 7302250 qT 266 [some (vR 0), some (vR 1), some (vR 127), some (vI i)] [] L G k n := by
  have inv0 := inv
  obtain ⟨⟨n0, b, hTc, hTm⟩, ⟨m, S, I, lo, hi, mk, hEc, hEm, hBc, hBm, hU, hC⟩, ⟨tw, tn, hHc, hHm⟩, ⟨dn, dl, hDc, hDm⟩, ⟨pn, pl, hPc, hPm⟩, ⟨s, sn, sl, hSc, hSm, hO⟩, hA, hF, hL⟩ := inv0
  refine x_aloadn (pc := 266) dL_law_266 rfl ?_
  refine x_aloadn (pc := 267) dL_law_267 rfl ?_
  refine x_iloadn (pc := 268) dL_law_268 rfl ?_
  refine x_iconst (pc := 269) dL_law_269 ?_
  refine x_iadd (pc := 270) dL_law_270 ?_
  refine x_sld (N := N) (i + 1) (pc := 271) dL_law_271 rfl ⟨by omega, by omega, by omega⟩ ?_
  refine x_aloadn (pc := 272) dL_law_272 rfl ?_
  refine x_iloadn (pc := 273) dL_law_273 rfl ?_
  refine x_iconst (pc := 274) dL_law_274 ?_
  refine x_iadd (pc := 275) dL_law_275 ?_
  refine x_sld (N := N) (i + 2) (pc := 276) dL_law_276 rfl ⟨by omega, by omega, by omega⟩ ?_
  refine x_aloadn (pc := 277) dL_law_277 rfl ?_
  refine x_iloadn (pc := 278) dL_law_278 rfl ?_
  refine x_iconst (pc := 279) dL_law_279 ?_
  refine x_iadd (pc := 280) dL_law_280 ?_
  refine x_sld (N := N) (i + 3) (pc := 281) dL_law_281 rfl ⟨by omega, by omega, by omega⟩ ?_
  refine x_cVI (pc := 282) dL_law_282 lk_L_33 (c_ts_item hL hF hEc (hsc (i + 1)) (hsc (i + 2)) (hsc (i + 3))) k_1 ⟨by decide, rfl⟩ (hL 1 (by decide) (by decide)) ⟨by decide, by decide⟩ (Nat.le_of_ble_eq_true rfl) rfl ?_
  rintro x G1 h1
  obtain ⟨hx, e1⟩ := h1
  obtain rfl := e1.symm
  refine x_aloadn (pc := 285) dL_law_285 rfl ?_
  refine x_aloadn (pc := 286) dL_law_286 rfl ?_
  refine x_iloadn (pc := 287) dL_law_287 rfl ?_
  refine x_iconst (pc := 288) dL_law_288 ?_
  refine x_iadd (pc := 289) dL_law_289 ?_
  refine x_sld (N := N) (i + 1) (pc := 290) dL_law_290 rfl ⟨by omega, by omega, by omega⟩ ?_
  refine x_aloadn (pc := 291) dL_law_291 rfl ?_
  refine x_iloadn (pc := 292) dL_law_292 rfl ?_
  refine x_iconst (pc := 293) dL_law_293 ?_
  refine x_iadd (pc := 294) dL_law_294 ?_
  refine x_sld (N := N) (i + 2) (pc := 295) dL_law_295 rfl ⟨by omega, by omega, by omega⟩ ?_
  refine x_aloadn (pc := 296) dL_law_296 rfl ?_
  refine x_iloadn (pc := 297) dL_law_297 rfl ?_
  refine x_iconst (pc := 298) dL_law_298 ?_
  refine x_iadd (pc := 299) dL_law_299 ?_
  refine x_sld (N := N) (i + 3) (pc := 300) dL_law_300 rfl ⟨by omega, by omega, by omega⟩ ?_
  refine x_cVI (pc := 301) dL_law_301 lk_L_37 (c_mo_item hL hF hEm (hsc (i + 1)) (hsc (i + 2)) (hsc (i + 3))) k_127 ⟨by decide, rfl⟩ (hL 127 (by decide) (by decide)) ⟨by decide, by decide⟩ (Nat.le_of_ble_eq_true rfl) rfl ?_
  rintro y G2 h2
  obtain ⟨hy, e2⟩ := h2
  obtain rfl := e2.symm
  refine x_ceqS (tgt := 1091) (pc := 304) dL_law_304 (by decide) (hx.trans hy.symm) ?_
  exact next _ _ _ _ inv bu.st
theorem w_bounds {i N r k n : Nat} {sc : Nat → Int} {L : List Nat} {G : Nat → Nat → Int} (hN : N ≤ 2560) (hi : i + 5 ≤ N) (hsc : zSc sc) (inv : zInv L G) (bu : zBu (r + 1) L k n) (next : zNx i r N sc) : X (mL_law N sc) 10 600000 7302250 qT 309 [some (vR 0), some (vR 1), some (vR 127), some (vI i)] [] L G k n := by
  have inv0 := inv
  obtain ⟨⟨n0, b, hTc, hTm⟩, ⟨m, S, I, lo, hi, mk, hEc, hEm, hBc, hBm, hU, hC⟩, ⟨tw, tn, hHc, hHm⟩, ⟨dn, dl, hDc, hDm⟩, ⟨pn, pl, hPc, hPm⟩, ⟨s, sn, sl, hSc, hSm, hO⟩, hA, hF, hL⟩ := inv0
  refine x_aloadn (pc := 309) dL_law_309 rfl ?_
  refine x_aloadn (pc := 310) dL_law_310 rfl ?_
  refine x_iloadn (pc := 311) dL_law_311 rfl ?_
  refine x_iconst (pc := 312) dL_law_312 ?_
  refine x_iadd (pc := 313) dL_law_313 ?_
  refine x_sld (N := N) (i + 1) (pc := 314) dL_law_314 rfl ⟨by omega, by omega, by omega⟩ ?_
  refine x_aloadn (pc := 315) dL_law_315 rfl ?_
  refine x_iloadn (pc := 316) dL_law_316 rfl ?_
  refine x_iconst (pc := 317) dL_law_317 ?_
  refine x_iadd (pc := 318) dL_law_318 ?_
  refine x_sld (N := N) (i + 2) (pc := 319) dL_law_319 rfl ⟨by omega, by omega, by omega⟩ ?_
  refine x_aloadn (pc := 320) dL_law_320 rfl ?_
  refine x_iloadn (pc := 321) dL_law_321 rfl ?_
  refine x_iconst (pc := 322) dL_law_322 ?_
  refine x_iadd (pc := 323) dL_law_323 ?_
  refine x_sld (N := N) (i + 3) (pc := 324) dL_law_324 rfl ⟨by omega, by omega, by omega⟩ ?_
  refine x_aloadn (pc := 325) dL_law_325 rfl ?_
  refine x_iloadn (pc := 326) dL_law_326 rfl ?_
  refine x_iconst (pc := 327) dL_law_327 ?_
  refine x_iadd (pc := 328) dL_law_328 ?_
  refine x_sld (N := N) (i + 4) (pc := 329) dL_law_329 rfl ⟨by omega, by omega, by omega⟩ ?_
  refine x_cVI (pc := 330) dL_law_330 lk_L_38 (c_ts_bounds hL hF hBc (hsc (i + 1)) (hsc (i + 2)) (hsc (i + 3)) (hsc (i + 4))) k_1 ⟨by decide, rfl⟩ (hL 1 (by decide) (by decide)) ⟨by decide, by decide⟩ (Nat.le_of_ble_eq_true rfl) rfl ?_
  rintro x G1 h1
  rcases h1 with ⟨g1, hx, e1⟩ | ⟨g1, g2, hx, e1⟩ | ⟨g1, g2, hx, c1, hF1, ⟨e1, z1, z2, z3⟩ | ⟨c3, c4, k1⟩⟩
  · skip
    obtain rfl := e1.symm
    refine x_aloadn (pc := 333) dL_law_333 rfl ?_
    refine x_aloadn (pc := 334) dL_law_334 rfl ?_
    refine x_iloadn (pc := 335) dL_law_335 rfl ?_
    refine x_iconst (pc := 336) dL_law_336 ?_
    refine x_iadd (pc := 337) dL_law_337 ?_
    refine x_sld (N := N) (i + 1) (pc := 338) dL_law_338 rfl ⟨by omega, by omega, by omega⟩ ?_
    refine x_aloadn (pc := 339) dL_law_339 rfl ?_
    refine x_iloadn (pc := 340) dL_law_340 rfl ?_
    refine x_iconst (pc := 341) dL_law_341 ?_
    refine x_iadd (pc := 342) dL_law_342 ?_
    refine x_sld (N := N) (i + 2) (pc := 343) dL_law_343 rfl ⟨by omega, by omega, by omega⟩ ?_
    refine x_aloadn (pc := 344) dL_law_344 rfl ?_
    refine x_iloadn (pc := 345) dL_law_345 rfl ?_
    refine x_iconst (pc := 346) dL_law_346 ?_
    refine x_iadd (pc := 347) dL_law_347 ?_
    refine x_sld (N := N) (i + 3) (pc := 348) dL_law_348 rfl ⟨by omega, by omega, by omega⟩ ?_
    refine x_aloadn (pc := 349) dL_law_349 rfl ?_
    refine x_iloadn (pc := 350) dL_law_350 rfl ?_
    refine x_iconst (pc := 351) dL_law_351 ?_
    refine x_iadd (pc := 352) dL_law_352 ?_
    refine x_sld (N := N) (i + 4) (pc := 353) dL_law_353 rfl ⟨by omega, by omega, by omega⟩ ?_
    refine x_cVI (pc := 354) dL_law_354 lk_L_42 (c_mo_bounds hL hF hBm (hsc (i + 1)) (hsc (i + 2)) (hsc (i + 3)) (hsc (i + 4))) k_127 ⟨by decide, rfl⟩ (hL 127 (by decide) (by decide)) ⟨by decide, by decide⟩ (Nat.le_of_ble_eq_true rfl) rfl ?_
    rintro y G2 h2
    rcases h2 with ⟨g3, hy, e2⟩ | ⟨g3, g4, hy, e2⟩ | ⟨g3, g4, hy, m1, k2, hF2⟩
    · skip
      obtain rfl := e2.symm
      refine x_ceqS (tgt := 1091) (pc := 357) dL_law_357 (by decide) (hx.trans hy.symm) ?_
      exact next _ _ _ _ inv bu.st
    · skip
      first | exact absurd g3 g1 | exact absurd g1 g3 | exact absurd g4 g2 | exact absurd g2 g4 | exact absurd g3 g1.1 | (exfalso; omega)
    · skip
      first | exact absurd g3 g1 | exact absurd g1 g3 | exact absurd g4 g2 | exact absurd g2 g4 | exact absurd g3 g1.1 | (exfalso; omega)
  · skip
    obtain rfl := e1.symm
    refine x_aloadn (pc := 333) dL_law_333 rfl ?_
    refine x_aloadn (pc := 334) dL_law_334 rfl ?_
    refine x_iloadn (pc := 335) dL_law_335 rfl ?_
    refine x_iconst (pc := 336) dL_law_336 ?_
    refine x_iadd (pc := 337) dL_law_337 ?_
    refine x_sld (N := N) (i + 1) (pc := 338) dL_law_338 rfl ⟨by omega, by omega, by omega⟩ ?_
    refine x_aloadn (pc := 339) dL_law_339 rfl ?_
    refine x_iloadn (pc := 340) dL_law_340 rfl ?_
    refine x_iconst (pc := 341) dL_law_341 ?_
    refine x_iadd (pc := 342) dL_law_342 ?_
    refine x_sld (N := N) (i + 2) (pc := 343) dL_law_343 rfl ⟨by omega, by omega, by omega⟩ ?_
    refine x_aloadn (pc := 344) dL_law_344 rfl ?_
    refine x_iloadn (pc := 345) dL_law_345 rfl ?_
    refine x_iconst (pc := 346) dL_law_346 ?_
    refine x_iadd (pc := 347) dL_law_347 ?_
    refine x_sld (N := N) (i + 3) (pc := 348) dL_law_348 rfl ⟨by omega, by omega, by omega⟩ ?_
    refine x_aloadn (pc := 349) dL_law_349 rfl ?_
    refine x_iloadn (pc := 350) dL_law_350 rfl ?_
    refine x_iconst (pc := 351) dL_law_351 ?_
    refine x_iadd (pc := 352) dL_law_352 ?_
    refine x_sld (N := N) (i + 4) (pc := 353) dL_law_353 rfl ⟨by omega, by omega, by omega⟩ ?_
    refine x_cVI (pc := 354) dL_law_354 lk_L_42 (c_mo_bounds hL hF hBm (hsc (i + 1)) (hsc (i + 2)) (hsc (i + 3)) (hsc (i + 4))) k_127 ⟨by decide, rfl⟩ (hL 127 (by decide) (by decide)) ⟨by decide, by decide⟩ (Nat.le_of_ble_eq_true rfl) rfl ?_
    rintro y G2 h2
    rcases h2 with ⟨g3, hy, e2⟩ | ⟨g3, g4, hy, e2⟩ | ⟨g3, g4, hy, m1, k2, hF2⟩
    · skip
      first | exact absurd g3 g1 | exact absurd g1 g3 | exact absurd g4 g2 | exact absurd g2 g4 | exact absurd g3 g1.1 | (exfalso; omega)
    · skip
      obtain rfl := e2.symm
      refine x_ceqS (tgt := 1091) (pc := 357) dL_law_357 (by decide) (hx.trans hy.symm) ?_
      exact next _ _ _ _ inv bu.st
    · skip
      first | exact absurd g3 g1 | exact absurd g1 g3 | exact absurd g4 g2 | exact absurd g2 g4 | exact absurd g3 g1.1 | (exfalso; omega)
  · skip
    obtain rfl := e1.symm
    refine x_aloadn (pc := 333) dL_law_333 rfl ?_
    refine x_aloadn (pc := 334) dL_law_334 rfl ?_
    refine x_iloadn (pc := 335) dL_law_335 rfl ?_
    refine x_iconst (pc := 336) dL_law_336 ?_
    refine x_iadd (pc := 337) dL_law_337 ?_
    refine x_sld (N := N) (i + 1) (pc := 338) dL_law_338 rfl ⟨by omega, by omega, by omega⟩ ?_
    refine x_aloadn (pc := 339) dL_law_339 rfl ?_
    refine x_iloadn (pc := 340) dL_law_340 rfl ?_
    refine x_iconst (pc := 341) dL_law_341 ?_
    refine x_iadd (pc := 342) dL_law_342 ?_
    refine x_sld (N := N) (i + 2) (pc := 343) dL_law_343 rfl ⟨by omega, by omega, by omega⟩ ?_
    refine x_aloadn (pc := 344) dL_law_344 rfl ?_
    refine x_iloadn (pc := 345) dL_law_345 rfl ?_
    refine x_iconst (pc := 346) dL_law_346 ?_
    refine x_iadd (pc := 347) dL_law_347 ?_
    refine x_sld (N := N) (i + 3) (pc := 348) dL_law_348 rfl ⟨by omega, by omega, by omega⟩ ?_
    refine x_aloadn (pc := 349) dL_law_349 rfl ?_
    refine x_iloadn (pc := 350) dL_law_350 rfl ?_
    refine x_iconst (pc := 351) dL_law_351 ?_
    refine x_iadd (pc := 352) dL_law_352 ?_
    refine x_sld (N := N) (i + 4) (pc := 353) dL_law_353 rfl ⟨by omega, by omega, by omega⟩ ?_
    refine x_cVI (pc := 354) dL_law_354 lk_L_42 (c_mo_bounds hL hF hBm (hsc (i + 1)) (hsc (i + 2)) (hsc (i + 3)) (hsc (i + 4))) k_127 ⟨by decide, rfl⟩ (hL 127 (by decide) (by decide)) ⟨by decide, by decide⟩ (Nat.le_of_ble_eq_true rfl) rfl ?_
    rintro y G2 h2
    rcases h2 with ⟨g3, hy, e2⟩ | ⟨g3, g4, hy, e2⟩ | ⟨g3, g4, hy, m1, k2, hF2⟩
    · skip
      first | exact absurd g3 g1 | exact absurd g1 g3 | exact absurd g4 g2 | exact absurd g2 g4 | exact absurd g3 g1.1 | (exfalso; omega)
    · skip
      first | exact absurd g3 g1 | exact absurd g1 g3 | exact absurd g4 g2 | exact absurd g2 g4 | exact absurd g3 g1.1 | (exfalso; omega)
    · skip
      refine x_ceqS (tgt := 1091) (pc := 357) dL_law_357 (by decide) (hx.trans hy.symm) ?_
      have k3 : FM [131, 132, 133] [] G G2 := k2
      exact next _ _ _ _ ⟨(inv.1.k k2 (by decide +kernel) (by decide +kernel)), (⟨m, S, I, _, _, _, cEq.FR hEc k2.fr (by decide), hEm.Fk k2 (by decide) (by decide) (by decide) (by decide), cBd.FR c1 k2.fr (by decide) (by decide) (by decide), m1, by rw [z1, z2, z3]; exact hU.FR k2.fr (by decide) (by decide) (by decide) (by decide), hC.FR (fun _ w => w) (fun _ w => Or.inl w) k2.fr (by decide)⟩), (inv.2.2.1.k k2 (by decide +kernel)), (inv.2.2.2.1.k k2 (by decide +kernel)), (inv.2.2.2.2.1.k k2 (by decide +kernel)), (inv.2.2.2.2.2.1.k k2 (by decide +kernel) (by decide +kernel)), (hA.FR k2.fr (by decide +kernel)), hF2, hL⟩ bu.st
  · skip
    have q1 := hBm.Fk (F := []) k1.fm (by decide) (by decide) (by decide)
    refine x_aloadn (pc := 333) dL_law_333 rfl ?_
    refine x_aloadn (pc := 334) dL_law_334 rfl ?_
    refine x_iloadn (pc := 335) dL_law_335 rfl ?_
    refine x_iconst (pc := 336) dL_law_336 ?_
    refine x_iadd (pc := 337) dL_law_337 ?_
    refine x_sld (N := N) (i + 1) (pc := 338) dL_law_338 rfl ⟨by omega, by omega, by omega⟩ ?_
    refine x_aloadn (pc := 339) dL_law_339 rfl ?_
    refine x_iloadn (pc := 340) dL_law_340 rfl ?_
    refine x_iconst (pc := 341) dL_law_341 ?_
    refine x_iadd (pc := 342) dL_law_342 ?_
    refine x_sld (N := N) (i + 2) (pc := 343) dL_law_343 rfl ⟨by omega, by omega, by omega⟩ ?_
    refine x_aloadn (pc := 344) dL_law_344 rfl ?_
    refine x_iloadn (pc := 345) dL_law_345 rfl ?_
    refine x_iconst (pc := 346) dL_law_346 ?_
    refine x_iadd (pc := 347) dL_law_347 ?_
    refine x_sld (N := N) (i + 3) (pc := 348) dL_law_348 rfl ⟨by omega, by omega, by omega⟩ ?_
    refine x_aloadn (pc := 349) dL_law_349 rfl ?_
    refine x_iloadn (pc := 350) dL_law_350 rfl ?_
    refine x_iconst (pc := 351) dL_law_351 ?_
    refine x_iadd (pc := 352) dL_law_352 ?_
    refine x_sld (N := N) (i + 4) (pc := 353) dL_law_353 rfl ⟨by omega, by omega, by omega⟩ ?_
    refine x_cVI (pc := 354) dL_law_354 lk_L_42 (c_mo_bounds hL hF1 q1 (hsc (i + 1)) (hsc (i + 2)) (hsc (i + 3)) (hsc (i + 4))) k_127 ⟨by decide, rfl⟩ (hL 127 (by decide) (by decide)) ⟨by decide, by decide⟩ (Nat.le_of_ble_eq_true rfl) rfl ?_
    rintro y G2 h2
    rcases h2 with ⟨g3, hy, e2⟩ | ⟨g3, g4, hy, e2⟩ | ⟨g3, g4, hy, m1, k2, hF2⟩
    · skip
      first | exact absurd g3 g1 | exact absurd g1 g3 | exact absurd g4 g2 | exact absurd g2 g4 | exact absurd g3 g1.1 | (exfalso; omega)
    · skip
      first | exact absurd g3 g1 | exact absurd g1 g3 | exact absurd g4 g2 | exact absurd g2 g4 | exact absurd g3 g1.1 | (exfalso; omega)
    · skip
      refine x_ceqS (tgt := 1091) (pc := 357) dL_law_357 (by decide) (hx.trans hy.symm) ?_
      have kk : FM ([46, 47, 48, 49] ++ [131, 132, 133]) [] G G2 := (k1.fm.mono (fun i w => List.mem_append_left _ w) (fun _ w => w)).tr (k2.mono (fun i w => List.mem_append_right _ w) (fun _ w => w))
      have k46 : G2 46 = G1 46 := k2.cell (by decide) (by decide)
      exact next _ _ _ _ ⟨(inv.1.k kk (by decide +kernel) (by decide +kernel)), (⟨m, S, I, _, _, _, cEq.FR hEc kk.fr (by decide), hEm.Fk kk (by decide) (by decide) (by decide) (by decide), cBd.FR c1 k2.fr (by decide) (by decide) (by decide), m1, cSuv_0 (by rw [k46]; exact c3), hC.FR (fun _ w => w) (fun _ w => Or.inl w) kk.fr (by decide)⟩), (inv.2.2.1.k kk (by decide +kernel)), (inv.2.2.2.1.k kk (by decide +kernel)), (inv.2.2.2.2.1.k kk (by decide +kernel)), (inv.2.2.2.2.2.1.k kk (by decide +kernel) (by decide +kernel)), (hA.c13 (fun j hj => by rw [k46]; exact c4 j hj)), hF2, hL⟩ bu.st

