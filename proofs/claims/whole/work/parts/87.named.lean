def owL : List Int64 := [422775452260, 1919509107, 2053729891, 495873780078, 1684366704, 495875090022, 114784635872626, 7563630, 6644082, 7304564, 2003132786, 495556388196, 495740085349, 482804460403, 512736126322, 6582905, 2003133803, 7501154, 1651469925, 1667329381, 26982, 28530, 6385252, 7237492, 6384748, 7170414, 7168376]
theorem owL_1 : ∀ v ∈ owL, (List.range 27).any (fun k => decide (v = lN (n8 (OW k)))) = true := by decide +kernel
theorem owL_2 : ∀ k, k < 27 → lN (n8 (OW k)) ∈ owL := by decide +kernel
theorem owL_own {l : List Nat} (h : okN l) : lN (n8 l) ∈ owL ↔ ¬ ownW l = -1 := by
  refine ⟨fun q e => ?_, fun q => ?_⟩
  · obtain ⟨k, hk, e2⟩ := List.any_eq_true.mp (owL_1 _ q)
    have hk := List.mem_range.mp hk
    have := (own_8 h hk).mp (of_decide_eq_true e2)
    rw [e] at this
    exact absurd (show nI k < 0 by rw [← this]; decide) (nI_pos (by omega))
  · rcases own_c l with ⟨a, -⟩ | ⟨a, b⟩
    · exact absurd a q
    · rw [(own_8 h a).mpr b]; exact owL_2 _ a
set_option maxRecDepth 20000 in
theorem tm_isOwn {N : Nat} {I : aI} {L : aL} {v : Int64} : Run 0 0 0 mX10_isOwn [.ref 36, .long v] (St N I L) (RI (bI (decide (v ∈ owL))) (St N I L)) := by
  refine Run.of (ls := [some (.ref 36), some (.long _), none]) (by decide) (Nat.le_of_ble_eq_true rfl) rfl ?_
  refine Ex.lload_n (pc := 0) dX10_isOwn_0 rfl rfl ?_
  refine Ex.ldc2 (pc := 1) dX10_isOwn_1 kv_X10_250 ?_
  refine Ex.lcmp (pc := 4) dX10_isOwn_4 ?_
  refine Ex.if_eq (pc := 5) (tgt := 40) dX10_isOwn_5 (by decide) (fun c5 => ?_) (fun c5 => ?_)
  · skip
    refine Ex.iconst (pc := 40) (v := 1) dX10_isOwn_40 rfl ?_
    refine Ex.iret (pc := 41) rfl rfl rfl dX10_isOwn_41 (Nat.le_refl _) (Nat.le_refl _) ?_
    refine ⟨congrArg (fun z => some (Value.int z)) ?_, rfl⟩
    rw [decide_eq_true (by rw [(lg_cmp_eq _ _).mp c5]; decide)]; rfl
  · skip
    refine Ex.lload_n (pc := 8) dX10_isOwn_8 rfl rfl ?_
    refine Ex.ldc2 (pc := 9) dX10_isOwn_9 kv_X10_252 ?_
    refine Ex.lcmp (pc := 12) dX10_isOwn_12 ?_
    refine Ex.if_eq (pc := 13) (tgt := 40) dX10_isOwn_13 (by decide) (fun c13 => ?_) (fun c13 => ?_)
    · skip
      refine Ex.iconst (pc := 40) (v := 1) dX10_isOwn_40 rfl ?_
      refine Ex.iret (pc := 41) rfl rfl rfl dX10_isOwn_41 (Nat.le_refl _) (Nat.le_refl _) ?_
      refine ⟨congrArg (fun z => some (Value.int z)) ?_, rfl⟩
      rw [decide_eq_true (by rw [(lg_cmp_eq _ _).mp c13]; decide)]; rfl
    · skip
      refine Ex.lload_n (pc := 16) dX10_isOwn_16 rfl rfl ?_
      refine Ex.ldc2 (pc := 17) dX10_isOwn_17 kv_X10_254 ?_
      refine Ex.lcmp (pc := 20) dX10_isOwn_20 ?_
      refine Ex.if_eq (pc := 21) (tgt := 40) dX10_isOwn_21 (by decide) (fun c21 => ?_) (fun c21 => ?_)
      · skip
        refine Ex.iconst (pc := 40) (v := 1) dX10_isOwn_40 rfl ?_
        refine Ex.iret (pc := 41) rfl rfl rfl dX10_isOwn_41 (Nat.le_refl _) (Nat.le_refl _) ?_
        refine ⟨congrArg (fun z => some (Value.int z)) ?_, rfl⟩
        rw [decide_eq_true (by rw [(lg_cmp_eq _ _).mp c21]; decide)]; rfl
      · skip
        refine Ex.lload_n (pc := 24) dX10_isOwn_24 rfl rfl ?_
        refine Ex.ldc2 (pc := 25) dX10_isOwn_25 kv_X10_256 ?_
        refine Ex.lcmp (pc := 28) dX10_isOwn_28 ?_
        refine Ex.if_eq (pc := 29) (tgt := 40) dX10_isOwn_29 (by decide) (fun c29 => ?_) (fun c29 => ?_)
        · skip
          refine Ex.iconst (pc := 40) (v := 1) dX10_isOwn_40 rfl ?_
          refine Ex.iret (pc := 41) rfl rfl rfl dX10_isOwn_41 (Nat.le_refl _) (Nat.le_refl _) ?_
          refine ⟨congrArg (fun z => some (Value.int z)) ?_, rfl⟩
          rw [decide_eq_true (by rw [(lg_cmp_eq _ _).mp c29]; decide)]; rfl
        · skip
          refine Ex.lload_n (pc := 32) dX10_isOwn_32 rfl rfl ?_
          refine Ex.ldc2 (pc := 33) dX10_isOwn_33 kv_X10_258 ?_
          refine Ex.lcmp (pc := 36) dX10_isOwn_36 ?_
          refine Ex.if_ne (pc := 37) (tgt := 42) dX10_isOwn_37 (by decide) (fun c37 => ?_) (fun c37 => ?_)
          · skip
            refine Ex.lload_n (pc := 42) dX10_isOwn_42 rfl rfl ?_
            refine Ex.ldc2 (pc := 43) dX10_isOwn_43 kv_X10_260 ?_
            refine Ex.lcmp (pc := 46) dX10_isOwn_46 ?_
            refine Ex.if_eq (pc := 47) (tgt := 82) dX10_isOwn_47 (by decide) (fun c47 => ?_) (fun c47 => ?_)
            · skip
              refine Ex.iconst (pc := 82) (v := 1) dX10_isOwn_82 rfl ?_
              refine Ex.iret (pc := 83) rfl rfl rfl dX10_isOwn_83 (Nat.le_refl _) (Nat.le_refl _) ?_
              refine ⟨congrArg (fun z => some (Value.int z)) ?_, rfl⟩
              rw [decide_eq_true (by rw [(lg_cmp_eq _ _).mp c47]; decide)]; rfl
            · skip
              refine Ex.lload_n (pc := 50) dX10_isOwn_50 rfl rfl ?_
              refine Ex.ldc2 (pc := 51) dX10_isOwn_51 kv_X10_262 ?_
              refine Ex.lcmp (pc := 54) dX10_isOwn_54 ?_
              refine Ex.if_eq (pc := 55) (tgt := 82) dX10_isOwn_55 (by decide) (fun c55 => ?_) (fun c55 => ?_)
              · skip
                refine Ex.iconst (pc := 82) (v := 1) dX10_isOwn_82 rfl ?_
                refine Ex.iret (pc := 83) rfl rfl rfl dX10_isOwn_83 (Nat.le_refl _) (Nat.le_refl _) ?_
                refine ⟨congrArg (fun z => some (Value.int z)) ?_, rfl⟩
                rw [decide_eq_true (by rw [(lg_cmp_eq _ _).mp c55]; decide)]; rfl
              · skip
                refine Ex.lload_n (pc := 58) dX10_isOwn_58 rfl rfl ?_
                refine Ex.ldc2 (pc := 59) dX10_isOwn_59 kv_X10_264 ?_
                refine Ex.lcmp (pc := 62) dX10_isOwn_62 ?_
                refine Ex.if_eq (pc := 63) (tgt := 82) dX10_isOwn_63 (by decide) (fun c63 => ?_) (fun c63 => ?_)
                · skip
                  refine Ex.iconst (pc := 82) (v := 1) dX10_isOwn_82 rfl ?_
                  refine Ex.iret (pc := 83) rfl rfl rfl dX10_isOwn_83 (Nat.le_refl _) (Nat.le_refl _) ?_
                  refine ⟨congrArg (fun z => some (Value.int z)) ?_, rfl⟩
                  rw [decide_eq_true (by rw [(lg_cmp_eq _ _).mp c63]; decide)]; rfl
                · skip
                  refine Ex.lload_n (pc := 66) dX10_isOwn_66 rfl rfl ?_
                  refine Ex.ldc2 (pc := 67) dX10_isOwn_67 kv_X10_266 ?_
                  refine Ex.lcmp (pc := 70) dX10_isOwn_70 ?_
                  refine Ex.if_eq (pc := 71) (tgt := 82) dX10_isOwn_71 (by decide) (fun c71 => ?_) (fun c71 => ?_)
                  · skip
                    refine Ex.iconst (pc := 82) (v := 1) dX10_isOwn_82 rfl ?_
                    refine Ex.iret (pc := 83) rfl rfl rfl dX10_isOwn_83 (Nat.le_refl _) (Nat.le_refl _) ?_
                    refine ⟨congrArg (fun z => some (Value.int z)) ?_, rfl⟩
                    rw [decide_eq_true (by rw [(lg_cmp_eq _ _).mp c71]; decide)]; rfl
                  · skip
                    refine Ex.lload_n (pc := 74) dX10_isOwn_74 rfl rfl ?_
                    refine Ex.ldc2 (pc := 75) dX10_isOwn_75 kv_X10_268 ?_
                    refine Ex.lcmp (pc := 78) dX10_isOwn_78 ?_
                    refine Ex.if_ne (pc := 79) (tgt := 84) dX10_isOwn_79 (by decide) (fun c79 => ?_) (fun c79 => ?_)
                    · skip
                      refine Ex.lload_n (pc := 84) dX10_isOwn_84 rfl rfl ?_
                      refine Ex.ldc2 (pc := 85) dX10_isOwn_85 kv_X10_270 ?_
                      refine Ex.lcmp (pc := 88) dX10_isOwn_88 ?_
                      refine Ex.if_eq (pc := 89) (tgt := 124) dX10_isOwn_89 (by decide) (fun c89 => ?_) (fun c89 => ?_)
                      · skip
                        refine Ex.iconst (pc := 124) (v := 1) dX10_isOwn_124 rfl ?_
                        refine Ex.iret (pc := 125) rfl rfl rfl dX10_isOwn_125 (Nat.le_refl _) (Nat.le_refl _) ?_
                        refine ⟨congrArg (fun z => some (Value.int z)) ?_, rfl⟩
                        rw [decide_eq_true (by rw [(lg_cmp_eq _ _).mp c89]; decide)]; rfl
                      · skip
                        refine Ex.lload_n (pc := 92) dX10_isOwn_92 rfl rfl ?_
                        refine Ex.ldc2 (pc := 93) dX10_isOwn_93 kv_X10_272 ?_
                        refine Ex.lcmp (pc := 96) dX10_isOwn_96 ?_
                        refine Ex.if_eq (pc := 97) (tgt := 124) dX10_isOwn_97 (by decide) (fun c97 => ?_) (fun c97 => ?_)
                        · skip
                          refine Ex.iconst (pc := 124) (v := 1) dX10_isOwn_124 rfl ?_
                          refine Ex.iret (pc := 125) rfl rfl rfl dX10_isOwn_125 (Nat.le_refl _) (Nat.le_refl _) ?_
                          refine ⟨congrArg (fun z => some (Value.int z)) ?_, rfl⟩
                          rw [decide_eq_true (by rw [(lg_cmp_eq _ _).mp c97]; decide)]; rfl
                        · skip
                          refine Ex.lload_n (pc := 100) dX10_isOwn_100 rfl rfl ?_
                          refine Ex.ldc2 (pc := 101) dX10_isOwn_101 kv_X10_274 ?_
                          refine Ex.lcmp (pc := 104) dX10_isOwn_104 ?_
                          refine Ex.if_eq (pc := 105) (tgt := 124) dX10_isOwn_105 (by decide) (fun c105 => ?_) (fun c105 => ?_)
                          · skip
                            refine Ex.iconst (pc := 124) (v := 1) dX10_isOwn_124 rfl ?_
                            refine Ex.iret (pc := 125) rfl rfl rfl dX10_isOwn_125 (Nat.le_refl _) (Nat.le_refl _) ?_
                            refine ⟨congrArg (fun z => some (Value.int z)) ?_, rfl⟩
                            rw [decide_eq_true (by rw [(lg_cmp_eq _ _).mp c105]; decide)]; rfl
                          · skip
                            refine Ex.lload_n (pc := 108) dX10_isOwn_108 rfl rfl ?_
                            refine Ex.ldc2 (pc := 109) dX10_isOwn_109 kv_X10_276 ?_
                            refine Ex.lcmp (pc := 112) dX10_isOwn_112 ?_
                            refine Ex.if_eq (pc := 113) (tgt := 124) dX10_isOwn_113 (by decide) (fun c113 => ?_) (fun c113 => ?_)
                            · skip
                              refine Ex.iconst (pc := 124) (v := 1) dX10_isOwn_124 rfl ?_
                              refine Ex.iret (pc := 125) rfl rfl rfl dX10_isOwn_125 (Nat.le_refl _) (Nat.le_refl _) ?_
                              refine ⟨congrArg (fun z => some (Value.int z)) ?_, rfl⟩
                              rw [decide_eq_true (by rw [(lg_cmp_eq _ _).mp c113]; decide)]; rfl
                            · skip
                              refine Ex.lload_n (pc := 116) dX10_isOwn_116 rfl rfl ?_
                              refine Ex.ldc2 (pc := 117) dX10_isOwn_117 kv_X10_278 ?_
                              refine Ex.lcmp (pc := 120) dX10_isOwn_120 ?_
                              refine Ex.if_ne (pc := 121) (tgt := 126) dX10_isOwn_121 (by decide) (fun c121 => ?_) (fun c121 => ?_)
                              · skip
                                refine Ex.lload_n (pc := 126) dX10_isOwn_126 rfl rfl ?_
                                refine Ex.ldc2 (pc := 127) dX10_isOwn_127 kv_X10_280 ?_
                                refine Ex.lcmp (pc := 130) dX10_isOwn_130 ?_
                                refine Ex.if_eq (pc := 131) (tgt := 166) dX10_isOwn_131 (by decide) (fun c131 => ?_) (fun c131 => ?_)
                                · skip
                                  refine Ex.iconst (pc := 166) (v := 1) dX10_isOwn_166 rfl ?_
                                  refine Ex.iret (pc := 167) rfl rfl rfl dX10_isOwn_167 (Nat.le_refl _) (Nat.le_refl _) ?_
                                  refine ⟨congrArg (fun z => some (Value.int z)) ?_, rfl⟩
                                  rw [decide_eq_true (by rw [(lg_cmp_eq _ _).mp c131]; decide)]; rfl
                                · skip
                                  refine Ex.lload_n (pc := 134) dX10_isOwn_134 rfl rfl ?_
                                  refine Ex.ldc2 (pc := 135) dX10_isOwn_135 kv_X10_282 ?_
                                  refine Ex.lcmp (pc := 138) dX10_isOwn_138 ?_
                                  refine Ex.if_eq (pc := 139) (tgt := 166) dX10_isOwn_139 (by decide) (fun c139 => ?_) (fun c139 => ?_)
                                  · skip
                                    refine Ex.iconst (pc := 166) (v := 1) dX10_isOwn_166 rfl ?_
                                    refine Ex.iret (pc := 167) rfl rfl rfl dX10_isOwn_167 (Nat.le_refl _) (Nat.le_refl _) ?_
                                    refine ⟨congrArg (fun z => some (Value.int z)) ?_, rfl⟩
                                    rw [decide_eq_true (by rw [(lg_cmp_eq _ _).mp c139]; decide)]; rfl
                                  · skip
                                    refine Ex.lload_n (pc := 142) dX10_isOwn_142 rfl rfl ?_
                                    refine Ex.ldc2 (pc := 143) dX10_isOwn_143 kv_X10_284 ?_
                                    refine Ex.lcmp (pc := 146) dX10_isOwn_146 ?_
                                    refine Ex.if_eq (pc := 147) (tgt := 166) dX10_isOwn_147 (by decide) (fun c147 => ?_) (fun c147 => ?_)
                                    · skip
                                      refine Ex.iconst (pc := 166) (v := 1) dX10_isOwn_166 rfl ?_
                                      refine Ex.iret (pc := 167) rfl rfl rfl dX10_isOwn_167 (Nat.le_refl _) (Nat.le_refl _) ?_
                                      refine ⟨congrArg (fun z => some (Value.int z)) ?_, rfl⟩
                                      rw [decide_eq_true (by rw [(lg_cmp_eq _ _).mp c147]; decide)]; rfl
                                    · skip
                                      refine Ex.lload_n (pc := 150) dX10_isOwn_150 rfl rfl ?_
                                      refine Ex.ldc2 (pc := 151) dX10_isOwn_151 kv_X10_286 ?_
                                      refine Ex.lcmp (pc := 154) dX10_isOwn_154 ?_
                                      refine Ex.if_eq (pc := 155) (tgt := 166) dX10_isOwn_155 (by decide) (fun c155 => ?_) (fun c155 => ?_)
                                      · skip
                                        refine Ex.iconst (pc := 166) (v := 1) dX10_isOwn_166 rfl ?_
                                        refine Ex.iret (pc := 167) rfl rfl rfl dX10_isOwn_167 (Nat.le_refl _) (Nat.le_refl _) ?_
                                        refine ⟨congrArg (fun z => some (Value.int z)) ?_, rfl⟩
                                        rw [decide_eq_true (by rw [(lg_cmp_eq _ _).mp c155]; decide)]; rfl
                                      · skip
                                        refine Ex.lload_n (pc := 158) dX10_isOwn_158 rfl rfl ?_
                                        refine Ex.ldc2 (pc := 159) dX10_isOwn_159 kv_X10_288 ?_
                                        refine Ex.lcmp (pc := 162) dX10_isOwn_162 ?_
                                        refine Ex.if_ne (pc := 163) (tgt := 168) dX10_isOwn_163 (by decide) (fun c163 => ?_) (fun c163 => ?_)
                                        · skip
                                          refine Ex.lload_n (pc := 168) dX10_isOwn_168 rfl rfl ?_
                                          refine Ex.ldc2 (pc := 169) dX10_isOwn_169 kv_X10_290 ?_
                                          refine Ex.lcmp (pc := 172) dX10_isOwn_172 ?_
                                          refine Ex.if_eq (pc := 173) (tgt := 208) dX10_isOwn_173 (by decide) (fun c173 => ?_) (fun c173 => ?_)
                                          · skip
                                            refine Ex.iconst (pc := 208) (v := 1) dX10_isOwn_208 rfl ?_
                                            refine Ex.iret (pc := 209) rfl rfl rfl dX10_isOwn_209 (Nat.le_refl _) (Nat.le_refl _) ?_
                                            refine ⟨congrArg (fun z => some (Value.int z)) ?_, rfl⟩
                                            rw [decide_eq_true (by rw [(lg_cmp_eq _ _).mp c173]; decide)]; rfl
                                          · skip
                                            refine Ex.lload_n (pc := 176) dX10_isOwn_176 rfl rfl ?_
                                            refine Ex.ldc2 (pc := 177) dX10_isOwn_177 kv_X10_292 ?_
                                            refine Ex.lcmp (pc := 180) dX10_isOwn_180 ?_
                                            refine Ex.if_eq (pc := 181) (tgt := 208) dX10_isOwn_181 (by decide) (fun c181 => ?_) (fun c181 => ?_)
                                            · skip
                                              refine Ex.iconst (pc := 208) (v := 1) dX10_isOwn_208 rfl ?_
                                              refine Ex.iret (pc := 209) rfl rfl rfl dX10_isOwn_209 (Nat.le_refl _) (Nat.le_refl _) ?_
                                              refine ⟨congrArg (fun z => some (Value.int z)) ?_, rfl⟩
                                              rw [decide_eq_true (by rw [(lg_cmp_eq _ _).mp c181]; decide)]; rfl
                                            · skip
                                              refine Ex.lload_n (pc := 184) dX10_isOwn_184 rfl rfl ?_
                                              refine Ex.ldc2 (pc := 185) dX10_isOwn_185 kv_X10_294 ?_
                                              refine Ex.lcmp (pc := 188) dX10_isOwn_188 ?_
                                              refine Ex.if_eq (pc := 189) (tgt := 208) dX10_isOwn_189 (by decide) (fun c189 => ?_) (fun c189 => ?_)
                                              · skip
                                                refine Ex.iconst (pc := 208) (v := 1) dX10_isOwn_208 rfl ?_
                                                refine Ex.iret (pc := 209) rfl rfl rfl dX10_isOwn_209 (Nat.le_refl _) (Nat.le_refl _) ?_
                                                refine ⟨congrArg (fun z => some (Value.int z)) ?_, rfl⟩
                                                rw [decide_eq_true (by rw [(lg_cmp_eq _ _).mp c189]; decide)]; rfl
                                              · skip
                                                refine Ex.lload_n (pc := 192) dX10_isOwn_192 rfl rfl ?_
                                                refine Ex.ldc2 (pc := 193) dX10_isOwn_193 kv_X10_296 ?_
                                                refine Ex.lcmp (pc := 196) dX10_isOwn_196 ?_
                                                refine Ex.if_eq (pc := 197) (tgt := 208) dX10_isOwn_197 (by decide) (fun c197 => ?_) (fun c197 => ?_)
                                                · skip
                                                  refine Ex.iconst (pc := 208) (v := 1) dX10_isOwn_208 rfl ?_
                                                  refine Ex.iret (pc := 209) rfl rfl rfl dX10_isOwn_209 (Nat.le_refl _) (Nat.le_refl _) ?_
                                                  refine ⟨congrArg (fun z => some (Value.int z)) ?_, rfl⟩
                                                  rw [decide_eq_true (by rw [(lg_cmp_eq _ _).mp c197]; decide)]; rfl
                                                · skip
                                                  refine Ex.lload_n (pc := 200) dX10_isOwn_200 rfl rfl ?_
                                                  refine Ex.ldc2 (pc := 201) dX10_isOwn_201 kv_X10_298 ?_
                                                  refine Ex.lcmp (pc := 204) dX10_isOwn_204 ?_
                                                  refine Ex.if_ne (pc := 205) (tgt := 210) dX10_isOwn_205 (by decide) (fun c205 => ?_) (fun c205 => ?_)
                                                  · skip
                                                    refine Ex.lload_n (pc := 210) dX10_isOwn_210 rfl rfl ?_
                                                    refine Ex.ldc2 (pc := 211) dX10_isOwn_211 kv_X10_300 ?_
                                                    refine Ex.lcmp (pc := 214) dX10_isOwn_214 ?_
                                                    refine Ex.if_eq (pc := 215) (tgt := 226) dX10_isOwn_215 (by decide) (fun c215 => ?_) (fun c215 => ?_)
                                                    · skip
                                                      refine Ex.iconst (pc := 226) (v := 1) dX10_isOwn_226 rfl ?_
                                                      refine Ex.iret (pc := 227) rfl rfl rfl dX10_isOwn_227 (Nat.le_refl _) (Nat.le_refl _) ?_
                                                      refine ⟨congrArg (fun z => some (Value.int z)) ?_, rfl⟩
                                                      rw [decide_eq_true (by rw [(lg_cmp_eq _ _).mp c215]; decide)]; rfl
                                                    · skip
                                                      refine Ex.lload_n (pc := 218) dX10_isOwn_218 rfl rfl ?_
                                                      refine Ex.ldc2 (pc := 219) dX10_isOwn_219 kv_X10_302 ?_
                                                      refine Ex.lcmp (pc := 222) dX10_isOwn_222 ?_
                                                      refine Ex.if_ne (pc := 223) (tgt := 228) dX10_isOwn_223 (by decide) (fun c223 => ?_) (fun c223 => ?_)
                                                      · skip
                                                        refine Ex.iconst (pc := 228) (v := 0) dX10_isOwn_228 rfl ?_
                                                        refine Ex.iret (pc := 229) rfl rfl rfl dX10_isOwn_229 (Nat.le_refl _) (Nat.le_refl _) ?_
                                                        refine ⟨congrArg (fun z => some (Value.int z)) ?_, rfl⟩
                                                        rw [decide_eq_false (by
                                                          simp only [owL, List.mem_cons, List.not_mem_nil, or_false, not_or]
                                                          exact ⟨fun q => c5 ((lg_cmp_eq _ _).mpr q), fun q => c13 ((lg_cmp_eq _ _).mpr q), fun q => c21 ((lg_cmp_eq _ _).mpr q), fun q => c29 ((lg_cmp_eq _ _).mpr q), fun q => c37 ((lg_cmp_eq _ _).mpr q), fun q => c47 ((lg_cmp_eq _ _).mpr q), fun q => c55 ((lg_cmp_eq _ _).mpr q), fun q => c63 ((lg_cmp_eq _ _).mpr q), fun q => c71 ((lg_cmp_eq _ _).mpr q), fun q => c79 ((lg_cmp_eq _ _).mpr q), fun q => c89 ((lg_cmp_eq _ _).mpr q), fun q => c97 ((lg_cmp_eq _ _).mpr q), fun q => c105 ((lg_cmp_eq _ _).mpr q), fun q => c113 ((lg_cmp_eq _ _).mpr q), fun q => c121 ((lg_cmp_eq _ _).mpr q), fun q => c131 ((lg_cmp_eq _ _).mpr q), fun q => c139 ((lg_cmp_eq _ _).mpr q), fun q => c147 ((lg_cmp_eq _ _).mpr q), fun q => c155 ((lg_cmp_eq _ _).mpr q), fun q => c163 ((lg_cmp_eq _ _).mpr q), fun q => c173 ((lg_cmp_eq _ _).mpr q), fun q => c181 ((lg_cmp_eq _ _).mpr q), fun q => c189 ((lg_cmp_eq _ _).mpr q), fun q => c197 ((lg_cmp_eq _ _).mpr q), fun q => c205 ((lg_cmp_eq _ _).mpr q), fun q => c215 ((lg_cmp_eq _ _).mpr q), fun q => c223 ((lg_cmp_eq _ _).mpr q)⟩)]
                                                        rfl
                                                      · skip
                                                        refine Ex.iconst (pc := 226) (v := 1) dX10_isOwn_226 rfl ?_
                                                        refine Ex.iret (pc := 227) rfl rfl rfl dX10_isOwn_227 (Nat.le_refl _) (Nat.le_refl _) ?_
                                                        refine ⟨congrArg (fun z => some (Value.int z)) ?_, rfl⟩
                                                        rw [decide_eq_true (by rw [(lg_cmp_eq _ _).mp c223]; decide)]; rfl
                                                  · skip
                                                    refine Ex.iconst (pc := 208) (v := 1) dX10_isOwn_208 rfl ?_
                                                    refine Ex.iret (pc := 209) rfl rfl rfl dX10_isOwn_209 (Nat.le_refl _) (Nat.le_refl _) ?_
                                                    refine ⟨congrArg (fun z => some (Value.int z)) ?_, rfl⟩
                                                    rw [decide_eq_true (by rw [(lg_cmp_eq _ _).mp c205]; decide)]; rfl
                                        · skip
                                          refine Ex.iconst (pc := 166) (v := 1) dX10_isOwn_166 rfl ?_
                                          refine Ex.iret (pc := 167) rfl rfl rfl dX10_isOwn_167 (Nat.le_refl _) (Nat.le_refl _) ?_
                                          refine ⟨congrArg (fun z => some (Value.int z)) ?_, rfl⟩
                                          rw [decide_eq_true (by rw [(lg_cmp_eq _ _).mp c163]; decide)]; rfl
                              · skip
                                refine Ex.iconst (pc := 124) (v := 1) dX10_isOwn_124 rfl ?_
                                refine Ex.iret (pc := 125) rfl rfl rfl dX10_isOwn_125 (Nat.le_refl _) (Nat.le_refl _) ?_
                                refine ⟨congrArg (fun z => some (Value.int z)) ?_, rfl⟩
                                rw [decide_eq_true (by rw [(lg_cmp_eq _ _).mp c121]; decide)]; rfl
                    · skip
                      refine Ex.iconst (pc := 82) (v := 1) dX10_isOwn_82 rfl ?_
                      refine Ex.iret (pc := 83) rfl rfl rfl dX10_isOwn_83 (Nat.le_refl _) (Nat.le_refl _) ?_
                      refine ⟨congrArg (fun z => some (Value.int z)) ?_, rfl⟩
                      rw [decide_eq_true (by rw [(lg_cmp_eq _ _).mp c79]; decide)]; rfl
          · skip
            refine Ex.iconst (pc := 40) (v := 1) dX10_isOwn_40 rfl ?_
            refine Ex.iret (pc := 41) rfl rfl rfl dX10_isOwn_41 (Nat.le_refl _) (Nat.le_refl _) ?_
            refine ⟨congrArg (fun z => some (Value.int z)) ?_, rfl⟩
            rw [decide_eq_true (by rw [(lg_cmp_eq _ _).mp c37]; decide)]; rfl
set_option maxRecDepth 20000 in
theorem tm_named {N : Nat} {I : aI} {L : aL} {b q k : Nat} {w : Int64} (hb : b < 2) (hq : q < 3) (h33 : I 36 33 = nI b) (hc : (if q = 0 then I 38 b else if q = 1 then I 41 b else I 44 b) = nI k) (hk : k ≤ wd q) : Run 1 0 0 mX10_named [.ref 36, .int (nI q), .long w] (St N I L) (RX N (fun x I2 L2 => I2 = I ∧ L2 = L ∧ ((x = some (.int (-1)) ∧ ∀ j, j < k → ¬ L (53 + q) (wd q * b + j) = w) ∨ ∃ j, j < k ∧ x = some (.int (nI j)) ∧ L (53 + q) (wd q * b + j) = w))) := by
  refine Run.of (ls := [some (.ref 36), some (.int _), some (.long _), none, none]) (by decide) (Nat.le_of_ble_eq_true rfl) rfl ?_
  have hw6 : wd q ≤ 6 := by unfold wd; split <;> decide
  refine Ex.iconst (pc := 0) (v := 0) dX10_named_0 rfl ?_
  refine Ex.istore (pc := 1) (ls' := [some (.ref 36), some (.int _), some (.long _), none, some (.int 0)]) dX10_named_1 (by decide) rfl rfl ?_
  refine forUp (σ := Unit) (P := fun j _ => Ex 1 0 0 mX10_named 0 0 3 [some (.ref 36), some (.int (nI q)), some (.long w), none, some (.int (nI j))] [] (St N I L) _) (Inv := fun j _ => ∀ i, i < j → ¬ L (53 + q) (wd q * b + i) = w) k ?_ ?_ 0 () (Nat.zero_le _) (fun i hi => absurd hi (Nat.not_lt_zero _))
  · rintro - hi
    refine Ex.iload (pc := 3) dX10_named_3 rfl ?_
    refine Ex.aload_n (pc := 5) dX10_named_5 rfl rfl ?_
    refine Ex.aload_n (pc := 6) dX10_named_6 rfl rfl ?_
    refine Ex.getI (pc := 7) dX10_named_7 fX10_112 (sh36 _) ?_
    refine Ex.iload_n (pc := 10) dX10_named_10 rfl rfl ?_
    rw [h33]
    refine Ex.callV (pc := 11) (As := [.int _, .int _]) (rest := [.int _]) dX10_named_11 cX10_304 (tm_manyOf hb hq) (sh36 _) rfl rfl (by decide) (Nat.le_refl _) (Nat.le_refl _) (Nat.le_of_ble_eq_true rfl) (Or.inl (fun r S' h => by obtain ⟨_, h⟩ := h; subst h; rfl)) (fun r S' hq _ _ => ?_)
    obtain ⟨rfl, rfl⟩ := hq
    rw [hc]
    refine Ex.icmp_ge (pc := 14) (tgt := 42) dX10_named_14 (by decide) (fun _ => ?_) (fun c14 => absurd (nI_le (Nat.le_refl k) (by omega)) c14)
    refine Ex.iconst (pc := 42) (v := (-1)) dX10_named_42 rfl ?_
    refine Ex.iret (pc := 43) rfl rfl rfl dX10_named_43 (Nat.le_refl _) (Nat.le_refl _) ?_
    exact ⟨_, _, rfl, rfl, rfl, Or.inl ⟨rfl, hi⟩⟩
  · rintro j - hj hi ih
    refine Ex.iload (pc := 3) dX10_named_3 rfl ?_
    refine Ex.aload_n (pc := 5) dX10_named_5 rfl rfl ?_
    refine Ex.aload_n (pc := 6) dX10_named_6 rfl rfl ?_
    refine Ex.getI (pc := 7) dX10_named_7 fX10_112 (sh36 _) ?_
    refine Ex.iload_n (pc := 10) dX10_named_10 rfl rfl ?_
    rw [h33]
    refine Ex.callV (pc := 11) (As := [.int _, .int _]) (rest := [.int _]) dX10_named_11 cX10_304 (tm_manyOf hb hq) (sh36 _) rfl rfl (by decide) (Nat.le_refl _) (Nat.le_refl _) (Nat.le_of_ble_eq_true rfl) (Or.inl (fun r S' h => by obtain ⟨_, h⟩ := h; subst h; rfl)) (fun r S' hq _ _ => ?_)
    obtain ⟨rfl, rfl⟩ := hq
    rw [hc]
    refine Ex.icmp_ge (pc := 14) (tgt := 42) dX10_named_14 (by decide) (fun c14 => absurd c14 (nI_ge hj (by omega))) (fun _ => ?_)
    refine Ex.aload_n (pc := 17) dX10_named_17 rfl rfl ?_
    refine Ex.aload_n (pc := 18) dX10_named_18 rfl rfl ?_
    refine Ex.getI (pc := 19) dX10_named_19 fX10_112 (sh36 _) ?_
    refine Ex.iload_n (pc := 22) dX10_named_22 rfl rfl ?_
    refine Ex.iload (pc := 23) dX10_named_23 rfl ?_
    rw [h33]
    refine Ex.callV (pc := 25) (As := [.int _, .int _, .int _]) (rest := []) dX10_named_25 cX10_308 (tm_nameOf hb hq (by omega)) (sh36 _) rfl rfl (by decide) (Nat.le_refl _) (Nat.le_refl _) (Nat.le_of_ble_eq_true rfl) (Or.inl (fun r S' h => by obtain ⟨_, h⟩ := h; subst h; rfl)) (fun r S' hq _ _ => ?_)
    obtain ⟨rfl, rfl⟩ := hq
    refine Ex.lload_n (pc := 28) dX10_named_28 rfl rfl ?_
    refine Ex.lcmp (pc := 29) dX10_named_29 ?_
    refine Ex.if_ne (pc := 30) (tgt := 36) dX10_named_30 (by decide) (fun c30 => ?_) (fun c30 => ?_)
    · skip
      refine Ex.iinc (pc := 36) (ls' := [some (.ref 36), some (.int _), some (.long _), none, some (.int _)]) dX10_named_36 rfl rfl (by decide) rfl rfl ?_
      refine Ex.goto (pc := 39) (tgt := 3) dX10_named_39 (by decide) ?_
      rw [show nI j + Int32.ofInt 1 = nI (j + 1) from nI_1 j]
      rw [lg_cmp_eq] at c30
      refine ih () ?_
      intro i hi2
      by_cases e : i = j
      · rw [e]; exact c30
      · exact hi i (by omega)
    · skip
      refine Ex.iload (pc := 33) dX10_named_33 rfl ?_
      refine Ex.iret (pc := 35) rfl rfl rfl dX10_named_35 (Nat.le_refl _) (Nat.le_refl _) ?_
      rw [lg_cmp_eq] at c30
      exact ⟨_, _, rfl, rfl, rfl, Or.inr ⟨j, hj, rfl, c30⟩⟩
