/-! Play: run, answer, perform -/
def f_X3_answer (Rn : MemI → Int32 → Int32 → Int32 → Int32 → Int32 × MemI) (mi : MemI) (b ab x d : Int32) : Int32 × MemI :=
  if b = 10 then (x + (mi (3, 0, 0) 3), mi)
  else if b = 11 then (((Rn mi (mi (3, 0, 0) 2) 0 x d).1) * 2, (Rn mi (mi (3, 0, 0) 2) 0 x d).2)
    else if b = 12 then (((Rn mi (mi (3, 0, 0) 2) 1 x d).1) ^^^ ((Rn ((Rn mi (mi (3, 0, 0) 2) 1 x d).2) (((Rn mi (mi (3, 0, 0) 2) 1 x d).2) (3, 0, 0) 2) 0 (x - (((Rn mi (mi (3, 0, 0) 2) 1 x d).2) (3, 0, 0) 4)) d).1), (Rn ((Rn mi (mi (3, 0, 0) 2) 1 x d).2) (((Rn mi (mi (3, 0, 0) 2) 1 x d).2) (3, 0, 0) 2) 0 (x - (((Rn mi (mi (3, 0, 0) 2) 1 x d).2) (3, 0, 0) 4)) d).2)
      else if b = 20 then (((Rn mi ab 1 x d).1) + (((Rn mi ab 1 x d).2) (3, 0, 0) 4), (Rn mi ab 1 x d).2)
        else if b = 30 then (((Rn mi ab 0 x d).1) * 3, (Rn mi ab 0 x d).2)
          else if b = 40 then ((Rn mi ab 0 (x + 1) d).1, (Rn mi ab 0 (x + 1) d).2)
            else if b = 50 then (-((Rn mi ab 2 x d).1), (Rn mi ab 2 x d).2)
              else if b = 51 then (((Rn mi ab 0 x d).1) - (((Rn mi ab 0 x d).2) (3, 0, 0) 3), (Rn mi ab 0 x d).2)
                else if b = 60 then (((Rn mi ab 2 x d).1) ^^^ 5, (Rn mi ab 2 x d).2)
                  else if b = 70 then (((Rn mi ab 0 x d).1) * 2, (Rn mi ab 0 x d).2)
                    else if b = 71 then ((Rn mi ab 1 (x - (mi (3, 0, 0) 4)) d).1, (Rn mi ab 1 (x - (mi (3, 0, 0) 4)) d).2)
                      else (0, mi)
set_option maxRecDepth 100000 in
set_option maxHeartbeats 4000000 in
theorem ct_X3_answer {Rn : MemI → Int32 → Int32 → Int32 → Int32 → Int32 × MemI} {nr : Nat} {mi : MemI} {ml : MemL} {b ab x d : Int32} (hR : ∀ (mi : MemI) (ml : MemL) (kd mv x : Int32), k_Ct k_KS k_R0 Mt_X3_run nr [vR (3, 0, 0), vI kd, vI mv, vI x, vI d] mi ml (k_rt (some (vI (Rn mi kd mv x d).1)) (Rn mi kd mv x d).2 ml)) : k_Ct k_KS k_R0 Mt_X3_answer (nr + 1) [vR (3, 0, 0), vI b, vI ab, vI x, vI d] mi ml (k_rt (some (vI (f_X3_answer Rn mi b ab x d).1)) (f_X3_answer Rn mi b ab x d).2 ml) := by
  refine k_ofV (L0 := [vR (3, 0, 0), vI b, vI ab, vI x, vI d]) (by decide +kernel) (Nat.le_of_ble_eq_true rfl) rfl rfl ?_
  intro p l e s m args below meth c D cy ad bs C
  refine k_iload_n (pc := 0) C dX3_answer_0 rfl ?_
  by_cases c1_10 : b = 10
  · skip
    refine k_lkp (pc := 1) (v := 10) C 100 dX3_answer_1 c1_10 (by decide) rfl (by decide) ?_
    refine k_iload_n (pc := 100) C dX3_answer_100 rfl ?_
    refine k_aload_n (pc := 101) C dX3_answer_101 rfl ?_
    refine k_getI (pc := 102) C fl_X3_30 k_in3 rfl rfl dX3_answer_102 ?_
    refine k_iadd (pc := 105) C dX3_answer_105 ?_
    exact k_iret (pc := 106) C rfl (k_fIm (by unfold f_X3_answer; rw [if_pos c1_10]; try rfl)) dX3_answer_106
  by_cases c1_11 : b = 11
  · skip
    refine k_lkp (pc := 1) (v := 11) C 107 dX3_answer_1 c1_11 (by decide) rfl (by decide) ?_
    refine k_aload_n (pc := 107) C dX3_answer_107 rfl ?_
    refine k_aload_n (pc := 108) C dX3_answer_108 rfl ?_
    refine k_getI (pc := 109) C fl_X3_24 k_in3 rfl rfl dX3_answer_109 ?_
    refine k_iconst (pc := 112) (v := 0) C dX3_answer_112 (by decide) ?_
    refine k_iload_n (pc := 113) C dX3_answer_113 rfl ?_
    refine k_iload (pc := 114) C dX3_answer_114 rfl ?_
    refine k_call4 (pc := 116) C cv_X3_39 (hR _ _ _ _ _) k_in3 rfl (by omega) rfl (Nat.le_of_ble_eq_true rfl) dX3_answer_116 ?_
    refine k_iconst (pc := 119) (v := 2) C dX3_answer_119 (by decide) ?_
    refine k_imul (pc := 120) C dX3_answer_120 ?_
    exact k_iret (pc := 121) C rfl (k_fIm (by unfold f_X3_answer; rw [if_neg c1_10, if_pos c1_11]; try rfl)) dX3_answer_121
  by_cases c1_12 : b = 12
  · skip
    refine k_lkp (pc := 1) (v := 12) C 122 dX3_answer_1 c1_12 (by decide) rfl (by decide) ?_
    refine k_aload_n (pc := 122) C dX3_answer_122 rfl ?_
    refine k_aload_n (pc := 123) C dX3_answer_123 rfl ?_
    refine k_getI (pc := 124) C fl_X3_24 k_in3 rfl rfl dX3_answer_124 ?_
    refine k_iconst (pc := 127) (v := 1) C dX3_answer_127 (by decide) ?_
    refine k_iload_n (pc := 128) C dX3_answer_128 rfl ?_
    refine k_iload (pc := 129) C dX3_answer_129 rfl ?_
    refine k_call4 (pc := 131) C cv_X3_39 (hR _ _ _ _ _) k_in3 rfl (by omega) rfl (Nat.le_of_ble_eq_true rfl) dX3_answer_131 ?_
    refine k_aload_n (pc := 134) C dX3_answer_134 rfl ?_
    refine k_aload_n (pc := 135) C dX3_answer_135 rfl ?_
    refine k_getI (pc := 136) C fl_X3_24 k_in3 rfl rfl dX3_answer_136 ?_
    refine k_iconst (pc := 139) (v := 0) C dX3_answer_139 (by decide) ?_
    refine k_iload_n (pc := 140) C dX3_answer_140 rfl ?_
    refine k_aload_n (pc := 141) C dX3_answer_141 rfl ?_
    refine k_getI (pc := 142) C fl_X3_36 k_in3 rfl rfl dX3_answer_142 ?_
    refine k_isub (pc := 145) C dX3_answer_145 ?_
    refine k_iload (pc := 146) C dX3_answer_146 rfl ?_
    refine k_call4 (pc := 148) C cv_X3_39 (hR _ _ _ _ _) k_in3 rfl (by omega) rfl (Nat.le_of_ble_eq_true rfl) dX3_answer_148 ?_
    refine k_ixor (pc := 151) C dX3_answer_151 ?_
    exact k_iret (pc := 152) C rfl (k_fIm (by unfold f_X3_answer; rw [if_neg c1_10, if_neg c1_11, if_pos c1_12]; try rfl)) dX3_answer_152
  by_cases c1_20 : b = 20
  · skip
    refine k_lkp (pc := 1) (v := 20) C 153 dX3_answer_1 c1_20 (by decide) rfl (by decide) ?_
    refine k_aload_n (pc := 153) C dX3_answer_153 rfl ?_
    refine k_iload_n (pc := 154) C dX3_answer_154 rfl ?_
    refine k_iconst (pc := 155) (v := 1) C dX3_answer_155 (by decide) ?_
    refine k_iload_n (pc := 156) C dX3_answer_156 rfl ?_
    refine k_iload (pc := 157) C dX3_answer_157 rfl ?_
    refine k_call4 (pc := 159) C cv_X3_39 (hR _ _ _ _ _) k_in3 rfl (by omega) rfl (Nat.le_of_ble_eq_true rfl) dX3_answer_159 ?_
    refine k_aload_n (pc := 162) C dX3_answer_162 rfl ?_
    refine k_getI (pc := 163) C fl_X3_36 k_in3 rfl rfl dX3_answer_163 ?_
    refine k_iadd (pc := 166) C dX3_answer_166 ?_
    exact k_iret (pc := 167) C rfl (k_fIm (by unfold f_X3_answer; rw [if_neg c1_10, if_neg c1_11, if_neg c1_12, if_pos c1_20]; try rfl)) dX3_answer_167
  by_cases c1_30 : b = 30
  · skip
    refine k_lkp (pc := 1) (v := 30) C 168 dX3_answer_1 c1_30 (by decide) rfl (by decide) ?_
    refine k_aload_n (pc := 168) C dX3_answer_168 rfl ?_
    refine k_iload_n (pc := 169) C dX3_answer_169 rfl ?_
    refine k_iconst (pc := 170) (v := 0) C dX3_answer_170 (by decide) ?_
    refine k_iload_n (pc := 171) C dX3_answer_171 rfl ?_
    refine k_iload (pc := 172) C dX3_answer_172 rfl ?_
    refine k_call4 (pc := 174) C cv_X3_39 (hR _ _ _ _ _) k_in3 rfl (by omega) rfl (Nat.le_of_ble_eq_true rfl) dX3_answer_174 ?_
    refine k_iconst (pc := 177) (v := 3) C dX3_answer_177 (by decide) ?_
    refine k_imul (pc := 178) C dX3_answer_178 ?_
    exact k_iret (pc := 179) C rfl (k_fIm (by unfold f_X3_answer; rw [if_neg c1_10, if_neg c1_11, if_neg c1_12, if_neg c1_20, if_pos c1_30]; try rfl)) dX3_answer_179
  by_cases c1_40 : b = 40
  · skip
    refine k_lkp (pc := 1) (v := 40) C 180 dX3_answer_1 c1_40 (by decide) rfl (by decide) ?_
    refine k_aload_n (pc := 180) C dX3_answer_180 rfl ?_
    refine k_iload_n (pc := 181) C dX3_answer_181 rfl ?_
    refine k_iconst (pc := 182) (v := 0) C dX3_answer_182 (by decide) ?_
    refine k_iload_n (pc := 183) C dX3_answer_183 rfl ?_
    refine k_iconst (pc := 184) (v := 1) C dX3_answer_184 (by decide) ?_
    refine k_iadd (pc := 185) C dX3_answer_185 ?_
    refine k_iload (pc := 186) C dX3_answer_186 rfl ?_
    refine k_call4 (pc := 188) C cv_X3_39 (hR _ _ _ _ _) k_in3 rfl (by omega) rfl (Nat.le_of_ble_eq_true rfl) dX3_answer_188 ?_
    exact k_iret (pc := 191) C rfl (k_fIm (by unfold f_X3_answer; rw [if_neg c1_10, if_neg c1_11, if_neg c1_12, if_neg c1_20, if_neg c1_30, if_pos c1_40]; try rfl)) dX3_answer_191
  by_cases c1_50 : b = 50
  · skip
    refine k_lkp (pc := 1) (v := 50) C 192 dX3_answer_1 c1_50 (by decide) rfl (by decide) ?_
    refine k_aload_n (pc := 192) C dX3_answer_192 rfl ?_
    refine k_iload_n (pc := 193) C dX3_answer_193 rfl ?_
    refine k_iconst (pc := 194) (v := 2) C dX3_answer_194 (by decide) ?_
    refine k_iload_n (pc := 195) C dX3_answer_195 rfl ?_
    refine k_iload (pc := 196) C dX3_answer_196 rfl ?_
    refine k_call4 (pc := 198) C cv_X3_39 (hR _ _ _ _ _) k_in3 rfl (by omega) rfl (Nat.le_of_ble_eq_true rfl) dX3_answer_198 ?_
    refine k_ineg (pc := 201) C dX3_answer_201 ?_
    exact k_iret (pc := 202) C rfl (k_fIm (by unfold f_X3_answer; rw [if_neg c1_10, if_neg c1_11, if_neg c1_12, if_neg c1_20, if_neg c1_30, if_neg c1_40, if_pos c1_50]; try rfl)) dX3_answer_202
  by_cases c1_51 : b = 51
  · skip
    refine k_lkp (pc := 1) (v := 51) C 203 dX3_answer_1 c1_51 (by decide) rfl (by decide) ?_
    refine k_aload_n (pc := 203) C dX3_answer_203 rfl ?_
    refine k_iload_n (pc := 204) C dX3_answer_204 rfl ?_
    refine k_iconst (pc := 205) (v := 0) C dX3_answer_205 (by decide) ?_
    refine k_iload_n (pc := 206) C dX3_answer_206 rfl ?_
    refine k_iload (pc := 207) C dX3_answer_207 rfl ?_
    refine k_call4 (pc := 209) C cv_X3_39 (hR _ _ _ _ _) k_in3 rfl (by omega) rfl (Nat.le_of_ble_eq_true rfl) dX3_answer_209 ?_
    refine k_aload_n (pc := 212) C dX3_answer_212 rfl ?_
    refine k_getI (pc := 213) C fl_X3_30 k_in3 rfl rfl dX3_answer_213 ?_
    refine k_isub (pc := 216) C dX3_answer_216 ?_
    exact k_iret (pc := 217) C rfl (k_fIm (by unfold f_X3_answer; rw [if_neg c1_10, if_neg c1_11, if_neg c1_12, if_neg c1_20, if_neg c1_30, if_neg c1_40, if_neg c1_50, if_pos c1_51]; try rfl)) dX3_answer_217
  by_cases c1_60 : b = 60
  · skip
    refine k_lkp (pc := 1) (v := 60) C 218 dX3_answer_1 c1_60 (by decide) rfl (by decide) ?_
    refine k_aload_n (pc := 218) C dX3_answer_218 rfl ?_
    refine k_iload_n (pc := 219) C dX3_answer_219 rfl ?_
    refine k_iconst (pc := 220) (v := 2) C dX3_answer_220 (by decide) ?_
    refine k_iload_n (pc := 221) C dX3_answer_221 rfl ?_
    refine k_iload (pc := 222) C dX3_answer_222 rfl ?_
    refine k_call4 (pc := 224) C cv_X3_39 (hR _ _ _ _ _) k_in3 rfl (by omega) rfl (Nat.le_of_ble_eq_true rfl) dX3_answer_224 ?_
    refine k_iconst (pc := 227) (v := 5) C dX3_answer_227 (by decide) ?_
    refine k_ixor (pc := 228) C dX3_answer_228 ?_
    exact k_iret (pc := 229) C rfl (k_fIm (by unfold f_X3_answer; rw [if_neg c1_10, if_neg c1_11, if_neg c1_12, if_neg c1_20, if_neg c1_30, if_neg c1_40, if_neg c1_50, if_neg c1_51, if_pos c1_60]; try rfl)) dX3_answer_229
  by_cases c1_70 : b = 70
  · skip
    refine k_lkp (pc := 1) (v := 70) C 230 dX3_answer_1 c1_70 (by decide) rfl (by decide) ?_
    refine k_aload_n (pc := 230) C dX3_answer_230 rfl ?_
    refine k_iload_n (pc := 231) C dX3_answer_231 rfl ?_
    refine k_iconst (pc := 232) (v := 0) C dX3_answer_232 (by decide) ?_
    refine k_iload_n (pc := 233) C dX3_answer_233 rfl ?_
    refine k_iload (pc := 234) C dX3_answer_234 rfl ?_
    refine k_call4 (pc := 236) C cv_X3_39 (hR _ _ _ _ _) k_in3 rfl (by omega) rfl (Nat.le_of_ble_eq_true rfl) dX3_answer_236 ?_
    refine k_iconst (pc := 239) (v := 2) C dX3_answer_239 (by decide) ?_
    refine k_imul (pc := 240) C dX3_answer_240 ?_
    exact k_iret (pc := 241) C rfl (k_fIm (by unfold f_X3_answer; rw [if_neg c1_10, if_neg c1_11, if_neg c1_12, if_neg c1_20, if_neg c1_30, if_neg c1_40, if_neg c1_50, if_neg c1_51, if_neg c1_60, if_pos c1_70]; try rfl)) dX3_answer_241
  by_cases c1_71 : b = 71
  · skip
    refine k_lkp (pc := 1) (v := 71) C 242 dX3_answer_1 c1_71 (by decide) rfl (by decide) ?_
    refine k_aload_n (pc := 242) C dX3_answer_242 rfl ?_
    refine k_iload_n (pc := 243) C dX3_answer_243 rfl ?_
    refine k_iconst (pc := 244) (v := 1) C dX3_answer_244 (by decide) ?_
    refine k_iload_n (pc := 245) C dX3_answer_245 rfl ?_
    refine k_aload_n (pc := 246) C dX3_answer_246 rfl ?_
    refine k_getI (pc := 247) C fl_X3_36 k_in3 rfl rfl dX3_answer_247 ?_
    refine k_isub (pc := 250) C dX3_answer_250 ?_
    refine k_iload (pc := 251) C dX3_answer_251 rfl ?_
    refine k_call4 (pc := 253) C cv_X3_39 (hR _ _ _ _ _) k_in3 rfl (by omega) rfl (Nat.le_of_ble_eq_true rfl) dX3_answer_253 ?_
    exact k_iret (pc := 256) C rfl (k_fIm (by unfold f_X3_answer; rw [if_neg c1_10, if_neg c1_11, if_neg c1_12, if_neg c1_20, if_neg c1_30, if_neg c1_40, if_neg c1_50, if_neg c1_51, if_neg c1_60, if_neg c1_70, if_pos c1_71]; try rfl)) dX3_answer_256
  refine k_lkD (pc := 1) C 257 dX3_answer_1 (by decide) (by decide) (k_lkc (k_lkv c1_10 rfl) (k_lkc (k_lkv c1_11 rfl) (k_lkc (k_lkv c1_12 rfl) (k_lkc (k_lkv c1_20 rfl) (k_lkc (k_lkv c1_30 rfl) (k_lkc (k_lkv c1_40 rfl) (k_lkc (k_lkv c1_50 rfl) (k_lkc (k_lkv c1_51 rfl) (k_lkc (k_lkv c1_60 rfl) (k_lkc (k_lkv c1_70 rfl) (k_lkc (k_lkv c1_71 rfl) (fun q hq => absurd hq List.not_mem_nil)))))))))))) ?_
  refine k_iconst (pc := 257) (v := 0) C dX3_answer_257 (by decide) ?_
  exact k_iret (pc := 258) C rfl (k_fIm (by unfold f_X3_answer; rw [if_neg c1_10, if_neg c1_11, if_neg c1_12, if_neg c1_20, if_neg c1_30, if_neg c1_40, if_neg c1_50, if_neg c1_51, if_neg c1_60, if_neg c1_70, if_neg c1_71]; try rfl)) dX3_answer_258
def f_rn : Nat → MemI → Int32 → Int32 → Int32 → Int32 → Int32 × MemI
  | 0, mi, _, _, _, _ => (0, mi)
  | n + 1, mi, kd, mv, x, d => if d ≤ 40 then f_X3_answer (f_rn n) (f_X3_begin mi (f_X3_bodyOf (f_X3_ownerOf kd mv) mv)) (f_X3_bodyOf (f_X3_ownerOf kd mv) mv) (f_X6_kindAbove (f_X3_ownerOf kd mv)) x (d + 1) else (0, mi)
set_option maxRecDepth 100000 in
set_option maxHeartbeats 4000000 in
theorem ct_X3_run : ∀ (n dd : Nat) {mi : MemI} {ml : MemL} {kd mv x d : Int32}, d = nI dd → dd + n = 41 → k_Ct k_KS k_R0 Mt_X3_run (2 * n + 4) [vR (3, 0, 0), vI kd, vI mv, vI x, vI d] mi ml (k_rt (some (vI (f_rn n mi kd mv x d).1)) (f_rn n mi kd mv x d).2 ml) := by
  intro n
  induction n with
  | zero =>
    intro dd mi ml kd mv x d hd hn
    have hd40 : ¬ d ≤ 40 := by
      rw [hd, show dd = 41 by omega]
      decide
    refine k_ofV (L0 := [vR (3, 0, 0), vI kd, vI mv, vI x, vI d, vU, vU]) (by decide +kernel) (Nat.le_of_ble_eq_true rfl) rfl rfl ?_
    intro p l e s m args below meth c D cy ad bs C
    refine k_iload (pc := 0) C dX3_run_0 rfl ?_
    refine k_bipush (pc := 2) (v := 40) C dX3_run_2 (by decide) ?_
    refine k_icmp_leF (pc := 4) C 9 dX3_run_4 (by decide) hd40 ?_
    refine k_iconst (pc := 7) (v := 0) C dX3_run_7 (by decide) ?_
    exact k_iret (pc := 8) C rfl (k_fIm rfl) dX3_run_8
  | succ n ih =>
    intro dd mi ml kd mv x d hd hn
    have hrun : ∀ (mi : MemI) (ml : MemL) (kd mv x : Int32), k_Ct k_KS k_R0 Mt_X3_run (2 * n + 4) [vR (3, 0, 0), vI kd, vI mv, vI x, vI (d + 1)] mi ml (k_rt (some (vI (f_rn n mi kd mv x (d + 1)).1)) (f_rn n mi kd mv x (d + 1)).2 ml) := fun mi ml kd mv x => ih (dd + 1) (by rw [hd]; exact nI_1 dd) (by omega)
    refine k_ofV (L0 := [vR (3, 0, 0), vI kd, vI mv, vI x, vI d, vU, vU]) (by decide +kernel) (Nat.le_of_ble_eq_true rfl) rfl rfl ?_
    intro p l e s m args below meth c D cy ad bs C
    refine k_iload (pc := 0) C dX3_run_0 rfl ?_
    refine k_bipush (pc := 2) (v := 40) C dX3_run_2 (by decide) ?_
    refine k_icmp_le (pc := 4) C 9 dX3_run_4 (by decide) (fun c4 => ?_) (fun c4 => ?_)
    · skip
      refine k_iload_n (pc := 9) C dX3_run_9 rfl ?_
      refine k_iload_n (pc := 10) C dX3_run_10 rfl ?_
      refine k_calls2 (pc := 11) C cs_X3_43 ct_X3_ownerOf (by omega) rfl (Nat.le_of_ble_eq_true rfl) dX3_run_11 ?_
      refine k_istore_5 (pc := 14) C dX3_run_14 rfl ?_
      refine k_iload (pc := 16) C dX3_run_16 rfl ?_
      refine k_iload_n (pc := 18) C dX3_run_18 rfl ?_
      refine k_calls2 (pc := 19) C cs_X3_47 ct_X3_bodyOf (by omega) rfl (Nat.le_of_ble_eq_true rfl) dX3_run_19 ?_
      refine k_istore_6 (pc := 22) C dX3_run_22 rfl ?_
      refine k_aload_n (pc := 24) C dX3_run_24 rfl ?_
      refine k_iload (pc := 25) C dX3_run_25 rfl ?_
      refine k_callv1 (pc := 27) C cv_X3_50 ct_X3_begin k_in3 rfl (by omega) rfl (Nat.le_of_ble_eq_true rfl) dX3_run_27 ?_
      refine k_aload_n (pc := 30) C dX3_run_30 rfl ?_
      refine k_iload (pc := 31) C dX3_run_31 rfl ?_
      refine k_iload (pc := 33) C dX3_run_33 rfl ?_
      refine k_calls1 (pc := 35) C cs_X3_54 ct_X6_kindAbove (by omega) rfl (Nat.le_of_ble_eq_true rfl) dX3_run_35 ?_
      refine k_iload_n (pc := 38) C dX3_run_38 rfl ?_
      refine k_iload (pc := 39) C dX3_run_39 rfl ?_
      refine k_iconst (pc := 41) (v := 1) C dX3_run_41 (by decide) ?_
      refine k_iadd (pc := 42) C dX3_run_42 ?_
      refine k_call4 (pc := 43) C cv_X3_58 (ct_X3_answer (nr := 2 * n + 4) (Rn := f_rn n) (fun mi ml kd mv x => hrun mi ml kd mv x)) k_in3 rfl (by omega) rfl (Nat.le_of_ble_eq_true rfl) dX3_run_43 ?_
      exact k_iret (pc := 46) C rfl (k_fIm (by rw [show f_rn (n + 1) mi kd mv x d = _ from rfl, f_rn, if_pos c4]; try rfl)) dX3_run_46
    · skip
      refine k_iconst (pc := 7) (v := 0) C dX3_run_7 (by decide) ?_
      exact k_iret (pc := 8) C rfl (k_fIm (by rw [show f_rn (n + 1) mi kd mv x d = _ from rfl, f_rn, if_neg c4]; try rfl)) dX3_run_8
def f_X3_perform (mi : MemI) (g2 : Nat) (i2 : Nat) (mv : Int32) (x : Int32) : Int32 × MemI :=
  ((f_rn 41 (k_ui (k_ui (k_ui mi (3, 0, 0) 2 (mi (1, g2, i2) 3)) (3, 0, 0) 3 ((k_ui mi (3, 0, 0) 2 (mi (1, g2, i2) 3)) (1, g2, i2) 0)) (3, 0, 0) 4 ((k_ui (k_ui mi (3, 0, 0) 2 (mi (1, g2, i2) 3)) (3, 0, 0) 3 ((k_ui mi (3, 0, 0) 2 (mi (1, g2, i2) 3)) (1, g2, i2) 0)) (1, g2, i2) 4)) ((k_ui (k_ui (k_ui mi (3, 0, 0) 2 (mi (1, g2, i2) 3)) (3, 0, 0) 3 ((k_ui mi (3, 0, 0) 2 (mi (1, g2, i2) 3)) (1, g2, i2) 0)) (3, 0, 0) 4 ((k_ui (k_ui mi (3, 0, 0) 2 (mi (1, g2, i2) 3)) (3, 0, 0) 3 ((k_ui mi (3, 0, 0) 2 (mi (1, g2, i2) 3)) (1, g2, i2) 0)) (1, g2, i2) 4)) (3, 0, 0) 2) mv x 0).1, (f_rn 41 (k_ui (k_ui (k_ui mi (3, 0, 0) 2 (mi (1, g2, i2) 3)) (3, 0, 0) 3 ((k_ui mi (3, 0, 0) 2 (mi (1, g2, i2) 3)) (1, g2, i2) 0)) (3, 0, 0) 4 ((k_ui (k_ui mi (3, 0, 0) 2 (mi (1, g2, i2) 3)) (3, 0, 0) 3 ((k_ui mi (3, 0, 0) 2 (mi (1, g2, i2) 3)) (1, g2, i2) 0)) (1, g2, i2) 4)) ((k_ui (k_ui (k_ui mi (3, 0, 0) 2 (mi (1, g2, i2) 3)) (3, 0, 0) 3 ((k_ui mi (3, 0, 0) 2 (mi (1, g2, i2) 3)) (1, g2, i2) 0)) (3, 0, 0) 4 ((k_ui (k_ui mi (3, 0, 0) 2 (mi (1, g2, i2) 3)) (3, 0, 0) 3 ((k_ui mi (3, 0, 0) 2 (mi (1, g2, i2) 3)) (1, g2, i2) 0)) (1, g2, i2) 4)) (3, 0, 0) 2) mv x 0).2)
set_option maxRecDepth 100000 in
set_option maxHeartbeats 4000000 in
theorem ct_X3_perform {mi : MemI} {ml : MemL} {g2 : Nat} {i2 : Nat} {mv : Int32} {x : Int32} (hg2 : g2 < 3) (hi2 : i2 < 6) : k_Ct k_KS k_R0 Mt_X3_perform 87 [vR (3, 0, 0), vR (1, g2, i2), vI mv, vI x] mi ml (k_rt (some (vI (f_X3_perform mi g2 i2 mv x).1)) (f_X3_perform mi g2 i2 mv x).2 ml) := by
  refine k_ofV (L0 := [vR (3, 0, 0), vR (1, g2, i2), vI mv, vI x]) (by decide +kernel) (Nat.le_of_ble_eq_true rfl) rfl rfl ?_
  intro p l e s m args below meth c D cy ad bs C
  refine k_aload_n (pc := 0) C dX3_perform_0 rfl ?_
  refine k_aload_n (pc := 1) C dX3_perform_1 rfl ?_
  refine k_getI (pc := 2) C fl_X3_19 (k_in1 hg2 hi2) rfl rfl dX3_perform_2 ?_
  refine k_putI (pc := 5) C pl_X3_24 k_in3 rfl rfl dX3_perform_5 ?_
  refine k_aload_n (pc := 8) C dX3_perform_8 rfl ?_
  refine k_aload_n (pc := 9) C dX3_perform_9 rfl ?_
  refine k_getI (pc := 10) C fl_X3_27 (k_in1 hg2 hi2) rfl rfl dX3_perform_10 ?_
  refine k_putI (pc := 13) C pl_X3_30 k_in3 rfl rfl dX3_perform_13 ?_
  refine k_aload_n (pc := 16) C dX3_perform_16 rfl ?_
  refine k_aload_n (pc := 17) C dX3_perform_17 rfl ?_
  refine k_getI (pc := 18) C fl_X3_33 (k_in1 hg2 hi2) rfl rfl dX3_perform_18 ?_
  refine k_putI (pc := 21) C pl_X3_36 k_in3 rfl rfl dX3_perform_21 ?_
  refine k_aload_n (pc := 24) C dX3_perform_24 rfl ?_
  refine k_aload_n (pc := 25) C dX3_perform_25 rfl ?_
  refine k_getI (pc := 26) C fl_X3_24 k_in3 rfl rfl dX3_perform_26 ?_
  refine k_iload_n (pc := 29) C dX3_perform_29 rfl ?_
  refine k_iload_n (pc := 30) C dX3_perform_30 rfl ?_
  refine k_iconst (pc := 31) (v := 0) C dX3_perform_31 (by decide) ?_
  refine k_call4 (pc := 32) C cv_X3_39 (ct_X3_run 41 0 rfl rfl) k_in3 rfl (by decide) rfl (Nat.le_of_ble_eq_true rfl) dX3_perform_32 ?_
  exact k_iret (pc := 35) C rfl (k_fIm rfl) dX3_perform_35
