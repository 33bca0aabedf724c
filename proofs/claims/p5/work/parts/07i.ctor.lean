set_option maxHeartbeats 4000000 in
set_option maxRecDepth 100000 in
theorem X7_init_86 {E : km_E} {l : Launch} {mi : km_I} {mr : km_R} {x1 : Int32} (hf : km_fresh 87 mi mr) : km_C E l yX7_init wsX7_init rmX7_init [.ref 86, .int x1] (SH.take 87) mi mr (fun r sh' mi' mr' => r = none ∧ sh' = SH.take 116 ∧ ∃ (w mk : Int32), ((¬ x1 &&& 1 = 1 ∧ w = 2 ∧ mk = 3) ∨ (x1 &&& 1 = 1 ∧ w = 3 ∧ mk = 7)) ∧ mi' = km_us mi [(86, 37, (-1)), (86, 38, (-1)), (86, 0, w), (86, 1, mk), (93, 0, 0), (93, 1, (0 + 1)), (93, 2, ((0 + 1) + 1)), (93, 3, (((0 + 1) + 1) + 1))] ∧ mr' = km_urs mr [(86, 2, 87), (86, 3, 88), (86, 4, 89), (86, 5, 90), (86, 6, 91), (86, 7, 92), (86, 8, 93), (86, 9, 94), (86, 11, 95), (86, 12, 96), (86, 14, 97), (86, 15, 98), (86, 16, 99), (86, 17, 100), (86, 22, 101), (86, 23, 102), (86, 24, 103), (86, 25, 104), (86, 26, 105), (86, 27, 106), (86, 28, 107), (86, 29, 108), (86, 30, 109), (86, 31, 110), (86, 32, 111), (86, 33, 112), (86, 34, 113), (86, 39, 114), (86, 40, 115)]) := by
  refine km_start (cc := cX7_init) (maxL := 3) (ret := none) (by decide) rfl (Nat.le_of_ble_eq_true rfl) ?_
  intro X hl hX hF hin
  subst hl
  refine km_aload_n hX dX7_init_0 rfl rfl ?_
  refine km_objinit hX dX7_init_1 oX7_init.1 oX7_init.2.1 oX7_init.2.2 (by decide) (by decide) ?_
  refine km_aload_n hX dX7_init_4 rfl rfl ?_
  refine km_iconst (v := 2) hX dX7_init_5 (by decide) ?_
  refine km_newa (N := 2) (q := 87) (sh' := SH.take 88) hX dX7_init_6 aX7_init (by decide) (by decide) (by decide) rfl rfl (km_zi hf (l := []) (q := 87) [] rfl (by decide) (by decide)) (by decide) (by decide) ?_
  refine km_putrF (q := 87) hX pX7_init_7 rfl rfl (fun _ => ⟨rfl, rfl⟩) (hin rfl) dX7_init_8 ?_
  refine km_aload_n hX dX7_init_11 rfl rfl ?_
  refine km_bipush (v := 12) hX dX7_init_12 (by decide) ?_
  refine km_newa (N := 12) (q := 88) (sh' := SH.take 89) hX dX7_init_14 aX7_init (by decide) (by decide) (by decide) rfl rfl (km_zi hf (l := []) (q := 88) [] rfl (by decide) (by decide)) (by decide) (by decide) ?_
  refine km_putrF (q := 88) hX pX7_init_13 rfl rfl (fun _ => ⟨rfl, rfl⟩) (hin rfl) dX7_init_16 ?_
  refine km_aload_n hX dX7_init_19 rfl rfl ?_
  refine km_sipush (v := 288) hX dX7_init_20 (by decide) ?_
  refine km_newa (N := 288) (q := 89) (sh' := SH.take 90) hX dX7_init_23 aX7_init (by decide) (by decide) (by decide) rfl rfl (km_zi hf (l := []) (q := 89) [] rfl (by decide) (by decide)) (by decide) (by decide) ?_
  refine km_putrF (q := 89) hX pX7_init_16 rfl rfl (fun _ => ⟨rfl, rfl⟩) (hin rfl) dX7_init_25 ?_
  refine km_aload_n hX dX7_init_28 rfl rfl ?_
  refine km_sipush (v := 288) hX dX7_init_29 (by decide) ?_
  refine km_newa (N := 288) (q := 90) (sh' := SH.take 91) hX dX7_init_32 aX7_init (by decide) (by decide) (by decide) rfl rfl (km_zi hf (l := []) (q := 90) [] rfl (by decide) (by decide)) (by decide) (by decide) ?_
  refine km_putrF (q := 90) hX pX7_init_19 rfl rfl (fun _ => ⟨rfl, rfl⟩) (hin rfl) dX7_init_34 ?_
  refine km_aload_n hX dX7_init_37 rfl rfl ?_
  refine km_sipush (v := 288) hX dX7_init_38 (by decide) ?_
  refine km_newa (N := 288) (q := 91) (sh' := SH.take 92) hX dX7_init_41 aX7_init (by decide) (by decide) (by decide) rfl rfl (km_zi hf (l := []) (q := 91) [] rfl (by decide) (by decide)) (by decide) (by decide) ?_
  refine km_putrF (q := 91) hX pX7_init_22 rfl rfl (fun _ => ⟨rfl, rfl⟩) (hin rfl) dX7_init_43 ?_
  refine km_aload_n hX dX7_init_46 rfl rfl ?_
  refine km_sipush (v := 288) hX dX7_init_47 (by decide) ?_
  refine km_newa (N := 288) (q := 92) (sh' := SH.take 93) hX dX7_init_50 aX7_init (by decide) (by decide) (by decide) rfl rfl (km_zi hf (l := []) (q := 92) [] rfl (by decide) (by decide)) (by decide) (by decide) ?_
  refine km_putrF (q := 92) hX pX7_init_25 rfl rfl (fun _ => ⟨rfl, rfl⟩) (hin rfl) dX7_init_52 ?_
  refine km_aload_n hX dX7_init_55 rfl rfl ?_
  refine km_iconst (v := 4) hX dX7_init_56 (by decide) ?_
  refine km_newa (N := 4) (q := 93) (sh' := SH.take 94) hX dX7_init_57 aX7_init (by decide) (by decide) (by decide) rfl rfl (km_zi hf (l := []) (q := 93) [] rfl (by decide) (by decide)) (by decide) (by decide) ?_
  refine km_putrF (q := 93) hX pX7_init_28 rfl rfl (fun _ => ⟨rfl, rfl⟩) (hin rfl) dX7_init_59 ?_
  refine km_aload_n hX dX7_init_62 rfl rfl ?_
  refine km_iconst (v := 4) hX dX7_init_63 (by decide) ?_
  refine km_newa (N := 4) (q := 94) (sh' := SH.take 95) hX dX7_init_64 aX7_init (by decide) (by decide) (by decide) rfl rfl (km_zi hf (l := []) (q := 94) [] rfl (by decide) (by decide)) (by decide) (by decide) ?_
  refine km_putrF (q := 94) hX pX7_init_31 rfl rfl (fun _ => ⟨rfl, rfl⟩) (hin rfl) dX7_init_66 ?_
  refine km_aload_n hX dX7_init_69 rfl rfl ?_
  refine km_bipush (v := 6) hX dX7_init_70 (by decide) ?_
  refine km_newa (N := 6) (q := 95) (sh' := SH.take 96) hX dX7_init_72 aX7_init (by decide) (by decide) (by decide) rfl rfl (km_zi hf (l := []) (q := 95) [] rfl (by decide) (by decide)) (by decide) (by decide) ?_
  refine km_putrF (q := 95) hX pX7_init_34 rfl rfl (fun _ => ⟨rfl, rfl⟩) (hin rfl) dX7_init_74 ?_
  refine km_aload_n hX dX7_init_77 rfl rfl ?_
  refine km_bipush (v := 6) hX dX7_init_78 (by decide) ?_
  refine km_newa (N := 6) (q := 96) (sh' := SH.take 97) hX dX7_init_80 aX7_init (by decide) (by decide) (by decide) rfl rfl (km_zi hf (l := []) (q := 96) [] rfl (by decide) (by decide)) (by decide) (by decide) ?_
  refine km_putrF (q := 96) hX pX7_init_37 rfl rfl (fun _ => ⟨rfl, rfl⟩) (hin rfl) dX7_init_82 ?_
  refine km_aload_n hX dX7_init_85 rfl rfl ?_
  refine km_bipush (v := 8) hX dX7_init_86 (by decide) ?_
  refine km_newa (N := 8) (q := 97) (sh' := SH.take 98) hX dX7_init_88 aX7_init (by decide) (by decide) (by decide) rfl rfl (km_zi hf (l := []) (q := 97) [] rfl (by decide) (by decide)) (by decide) (by decide) ?_
  refine km_putrF (q := 97) hX pX7_init_40 rfl rfl (fun _ => ⟨rfl, rfl⟩) (hin rfl) dX7_init_90 ?_
  refine km_aload_n hX dX7_init_93 rfl rfl ?_
  refine km_bipush (v := 8) hX dX7_init_94 (by decide) ?_
  refine km_newa (N := 8) (q := 98) (sh' := SH.take 99) hX dX7_init_96 aX7_init (by decide) (by decide) (by decide) rfl rfl (km_zi hf (l := []) (q := 98) [] rfl (by decide) (by decide)) (by decide) (by decide) ?_
  refine km_putrF (q := 98) hX pX7_init_43 rfl rfl (fun _ => ⟨rfl, rfl⟩) (hin rfl) dX7_init_98 ?_
  refine km_aload_n hX dX7_init_101 rfl rfl ?_
  refine km_bipush (v := 8) hX dX7_init_102 (by decide) ?_
  refine km_newa (N := 8) (q := 99) (sh' := SH.take 100) hX dX7_init_104 aX7_init (by decide) (by decide) (by decide) rfl rfl (km_zi hf (l := []) (q := 99) [] rfl (by decide) (by decide)) (by decide) (by decide) ?_
  refine km_putrF (q := 99) hX pX7_init_46 rfl rfl (fun _ => ⟨rfl, rfl⟩) (hin rfl) dX7_init_106 ?_
  refine km_aload_n hX dX7_init_109 rfl rfl ?_
  refine km_bipush (v := 48) hX dX7_init_110 (by decide) ?_
  refine km_newa (N := 48) (q := 100) (sh' := SH.take 101) hX dX7_init_112 aX7_init (by decide) (by decide) (by decide) rfl rfl (km_zi hf (l := []) (q := 100) [] rfl (by decide) (by decide)) (by decide) (by decide) ?_
  refine km_putrF (q := 100) hX pX7_init_49 rfl rfl (fun _ => ⟨rfl, rfl⟩) (hin rfl) dX7_init_114 ?_
  refine km_aload_n hX dX7_init_117 rfl rfl ?_
  refine km_iconst (v := 3) hX dX7_init_118 (by decide) ?_
  refine km_newa (N := 3) (q := 101) (sh' := SH.take 102) hX dX7_init_119 aX7_init (by decide) (by decide) (by decide) rfl rfl (km_zi hf (l := []) (q := 101) [] rfl (by decide) (by decide)) (by decide) (by decide) ?_
  refine km_putrF (q := 101) hX pX7_init_52 rfl rfl (fun _ => ⟨rfl, rfl⟩) (hin rfl) dX7_init_121 ?_
  refine km_aload_n hX dX7_init_124 rfl rfl ?_
  refine km_iconst (v := 3) hX dX7_init_125 (by decide) ?_
  refine km_newa (N := 3) (q := 102) (sh' := SH.take 103) hX dX7_init_126 aX7_init (by decide) (by decide) (by decide) rfl rfl (km_zi hf (l := []) (q := 102) [] rfl (by decide) (by decide)) (by decide) (by decide) ?_
  refine km_putrF (q := 102) hX pX7_init_55 rfl rfl (fun _ => ⟨rfl, rfl⟩) (hin rfl) dX7_init_128 ?_
  refine km_aload_n hX dX7_init_131 rfl rfl ?_
  refine km_iconst (v := 3) hX dX7_init_132 (by decide) ?_
  refine km_newa (N := 3) (q := 103) (sh' := SH.take 104) hX dX7_init_133 aX7_init (by decide) (by decide) (by decide) rfl rfl (km_zi hf (l := []) (q := 103) [] rfl (by decide) (by decide)) (by decide) (by decide) ?_
  refine km_putrF (q := 103) hX pX7_init_58 rfl rfl (fun _ => ⟨rfl, rfl⟩) (hin rfl) dX7_init_135 ?_
  refine km_aload_n hX dX7_init_138 rfl rfl ?_
  refine km_iconst (v := 3) hX dX7_init_139 (by decide) ?_
  refine km_newa (N := 3) (q := 104) (sh' := SH.take 105) hX dX7_init_140 aX7_init (by decide) (by decide) (by decide) rfl rfl (km_zi hf (l := []) (q := 104) [] rfl (by decide) (by decide)) (by decide) (by decide) ?_
  refine km_putrF (q := 104) hX pX7_init_61 rfl rfl (fun _ => ⟨rfl, rfl⟩) (hin rfl) dX7_init_142 ?_
  refine km_aload_n hX dX7_init_145 rfl rfl ?_
  refine km_iconst (v := 3) hX dX7_init_146 (by decide) ?_
  refine km_newa (N := 3) (q := 105) (sh' := SH.take 106) hX dX7_init_147 aX7_init (by decide) (by decide) (by decide) rfl rfl (km_zi hf (l := []) (q := 105) [] rfl (by decide) (by decide)) (by decide) (by decide) ?_
  refine km_putrF (q := 105) hX pX7_init_64 rfl rfl (fun _ => ⟨rfl, rfl⟩) (hin rfl) dX7_init_149 ?_
  refine km_aload_n hX dX7_init_152 rfl rfl ?_
  refine km_iconst (v := 3) hX dX7_init_153 (by decide) ?_
  refine km_newa (N := 3) (q := 106) (sh' := SH.take 107) hX dX7_init_154 aX7_init (by decide) (by decide) (by decide) rfl rfl (km_zi hf (l := []) (q := 106) [] rfl (by decide) (by decide)) (by decide) (by decide) ?_
  refine km_putrF (q := 106) hX pX7_init_67 rfl rfl (fun _ => ⟨rfl, rfl⟩) (hin rfl) dX7_init_156 ?_
  refine km_aload_n hX dX7_init_159 rfl rfl ?_
  refine km_bipush (v := 120) hX dX7_init_160 (by decide) ?_
  refine km_newa (N := 120) (q := 107) (sh' := SH.take 108) hX dX7_init_162 aX7_init (by decide) (by decide) (by decide) rfl rfl (km_zi hf (l := []) (q := 107) [] rfl (by decide) (by decide)) (by decide) (by decide) ?_
  refine km_putrF (q := 107) hX pX7_init_70 rfl rfl (fun _ => ⟨rfl, rfl⟩) (hin rfl) dX7_init_164 ?_
  refine km_aload_n hX dX7_init_167 rfl rfl ?_
  refine km_bipush (v := 120) hX dX7_init_168 (by decide) ?_
  refine km_newa (N := 120) (q := 108) (sh' := SH.take 109) hX dX7_init_170 aX7_init (by decide) (by decide) (by decide) rfl rfl (km_zi hf (l := []) (q := 108) [] rfl (by decide) (by decide)) (by decide) (by decide) ?_
  refine km_putrF (q := 108) hX pX7_init_73 rfl rfl (fun _ => ⟨rfl, rfl⟩) (hin rfl) dX7_init_172 ?_
  refine km_aload_n hX dX7_init_175 rfl rfl ?_
  refine km_bipush (v := 120) hX dX7_init_176 (by decide) ?_
  refine km_newa (N := 120) (q := 109) (sh' := SH.take 110) hX dX7_init_178 aX7_init (by decide) (by decide) (by decide) rfl rfl (km_zi hf (l := []) (q := 109) [] rfl (by decide) (by decide)) (by decide) (by decide) ?_
  refine km_putrF (q := 109) hX pX7_init_76 rfl rfl (fun _ => ⟨rfl, rfl⟩) (hin rfl) dX7_init_180 ?_
  refine km_aload_n hX dX7_init_183 rfl rfl ?_
  refine km_iconst (v := 3) hX dX7_init_184 (by decide) ?_
  refine km_newa (N := 3) (q := 110) (sh' := SH.take 111) hX dX7_init_185 aX7_init (by decide) (by decide) (by decide) rfl rfl (km_zi hf (l := []) (q := 110) [] rfl (by decide) (by decide)) (by decide) (by decide) ?_
  refine km_putrF (q := 110) hX pX7_init_79 rfl rfl (fun _ => ⟨rfl, rfl⟩) (hin rfl) dX7_init_187 ?_
  refine km_aload_n hX dX7_init_190 rfl rfl ?_
  refine km_bipush (v := 6) hX dX7_init_191 (by decide) ?_
  refine km_newa (N := 6) (q := 111) (sh' := SH.take 112) hX dX7_init_193 aX7_init (by decide) (by decide) (by decide) rfl rfl (km_zi hf (l := []) (q := 111) [] rfl (by decide) (by decide)) (by decide) (by decide) ?_
  refine km_putrF (q := 111) hX pX7_init_82 rfl rfl (fun _ => ⟨rfl, rfl⟩) (hin rfl) dX7_init_195 ?_
  refine km_aload_n hX dX7_init_198 rfl rfl ?_
  refine km_bipush (v := 6) hX dX7_init_199 (by decide) ?_
  refine km_newa (N := 6) (q := 112) (sh' := SH.take 113) hX dX7_init_201 aX7_init (by decide) (by decide) (by decide) rfl rfl (km_zi hf (l := []) (q := 112) [] rfl (by decide) (by decide)) (by decide) (by decide) ?_
  refine km_putrF (q := 112) hX pX7_init_85 rfl rfl (fun _ => ⟨rfl, rfl⟩) (hin rfl) dX7_init_203 ?_
  refine km_aload_n hX dX7_init_206 rfl rfl ?_
  refine km_bipush (v := 6) hX dX7_init_207 (by decide) ?_
  refine km_newa (N := 6) (q := 113) (sh' := SH.take 114) hX dX7_init_209 aX7_init (by decide) (by decide) (by decide) rfl rfl (km_zi hf (l := []) (q := 113) [] rfl (by decide) (by decide)) (by decide) (by decide) ?_
  refine km_putrF (q := 113) hX pX7_init_88 rfl rfl (fun _ => ⟨rfl, rfl⟩) (hin rfl) dX7_init_211 ?_
  refine km_aload_n hX dX7_init_214 rfl rfl ?_
  refine km_iconst (v := -1) hX dX7_init_215 (by decide) ?_
  refine km_puti hX pX7_init_91 rfl rfl dX7_init_216 ?_
  refine km_aload_n hX dX7_init_219 rfl rfl ?_
  refine km_iconst (v := -1) hX dX7_init_220 (by decide) ?_
  refine km_puti hX pX7_init_95 rfl rfl dX7_init_221 ?_
  refine km_aload_n hX dX7_init_224 rfl rfl ?_
  refine km_iconst (v := 4) hX dX7_init_225 (by decide) ?_
  refine km_newa (N := 4) (q := 114) (sh' := SH.take 115) hX dX7_init_226 aX7_init (by decide) (by decide) (by decide) rfl rfl (km_zi hf (l := [(86, 37, (-1)), (86, 38, (-1))]) (q := 114) [86, 86] rfl (by decide) (by decide)) (by decide) (by decide) ?_
  refine km_putrF (q := 114) hX pX7_init_98 rfl rfl (fun _ => ⟨rfl, rfl⟩) (hin rfl) dX7_init_228 ?_
  refine km_aload_n hX dX7_init_231 rfl rfl ?_
  refine km_iconst (v := 5) hX dX7_init_232 (by decide) ?_
  refine km_newa (N := 5) (q := 115) (sh' := SH.take 116) hX dX7_init_233 aX7_init (by decide) (by decide) (by decide) rfl rfl (km_zi hf (l := [(86, 37, (-1)), (86, 38, (-1))]) (q := 115) [86, 86] rfl (by decide) (by decide)) (by decide) (by decide) ?_
  refine km_putrF (q := 115) hX pX7_init_101 rfl rfl (fun _ => ⟨rfl, rfl⟩) (hin rfl) dX7_init_235 ?_
  refine km_aload_n hX dX7_init_238 rfl rfl ?_
  refine km_iload_n hX dX7_init_239 rfl ?_
  refine km_iconst (v := 1) hX dX7_init_240 (by decide) ?_
  refine km_iand hX dX7_init_241 ?_
  refine km_iconst (v := 1) hX dX7_init_242 (by decide) ?_
  refine km_icmp_ne (tgt := 250) hX dX7_init_243 (by decide) (fun cb => ?_) (fun cb => ?_)
  · refine km_iconst (v := 2) hX dX7_init_250 (by decide) ?_
    refine km_putiF hX pX7_init_104 rfl rfl (hin rfl) dX7_init_251 ?_
    refine km_aload_n hX dX7_init_254 rfl rfl ?_
    refine km_iconst (v := 1) hX dX7_init_255 (by decide) ?_
    refine km_aload_n hX dX7_init_256 rfl rfl ?_
    refine km_geti hX fX7_init_104 rfl rfl dX7_init_257 ?_
    refine km_topi (y := 2) (by simp [km_us, km_u]) ?_
    refine km_ishl hX dX7_init_260 ?_
    refine km_iconst (v := 1) hX dX7_init_261 (by decide) ?_
    refine km_isub hX dX7_init_262 ?_
    refine km_topi (y := 3) (by decide) ?_
    refine km_putiF hX pX7_init_107 rfl rfl (hin rfl) dX7_init_263 ?_
    refine km_iconst (v := 0) hX dX7_init_266 (by decide) ?_
    refine km_istore_n hX dX7_init_267 (by decide) ?_
    refine km_iload_n hX dX7_init_268 rfl ?_
    refine km_iconst (v := 4) hX dX7_init_269 (by decide) ?_
    refine km_icmp_ge (tgt := 286) hX dX7_init_270 (by decide) (fun c => absurd c (by decide)) (fun c => ?_)
    refine km_aload_n hX dX7_init_273 rfl rfl ?_
    refine km_getr (q := 93) hX fX7_init_28 rfl rfl dX7_init_274 (by simp [km_urs, km_ur]) ?_
    refine km_iload_n hX dX7_init_277 rfl ?_
    refine km_iload_n hX dX7_init_278 rfl ?_
    refine km_iastK (k := 0) (by decide) hX rfl (vp_in_iff.mpr (by decide)) dX7_init_279 ?_
    refine km_iinc (v := 1) hX dX7_init_280 (by decide) rfl (by decide) ?_
    refine km_goto (tgt := 268) hX dX7_init_283 (by decide) ?_
    refine km_iload_n hX dX7_init_268 rfl ?_
    refine km_iconst (v := 4) hX dX7_init_269 (by decide) ?_
    refine km_icmp_ge (tgt := 286) hX dX7_init_270 (by decide) (fun c => absurd c (by decide)) (fun c => ?_)
    refine km_aload_n hX dX7_init_273 rfl rfl ?_
    refine km_getr (q := 93) hX fX7_init_28 rfl rfl dX7_init_274 (by simp [km_urs, km_ur]) ?_
    refine km_iload_n hX dX7_init_277 rfl ?_
    refine km_iload_n hX dX7_init_278 rfl ?_
    refine km_iastK (k := 1) (by decide) hX rfl (vp_in_iff.mpr (by decide)) dX7_init_279 ?_
    refine km_iinc (v := 1) hX dX7_init_280 (by decide) rfl (by decide) ?_
    refine km_goto (tgt := 268) hX dX7_init_283 (by decide) ?_
    refine km_iload_n hX dX7_init_268 rfl ?_
    refine km_iconst (v := 4) hX dX7_init_269 (by decide) ?_
    refine km_icmp_ge (tgt := 286) hX dX7_init_270 (by decide) (fun c => absurd c (by decide)) (fun c => ?_)
    refine km_aload_n hX dX7_init_273 rfl rfl ?_
    refine km_getr (q := 93) hX fX7_init_28 rfl rfl dX7_init_274 (by simp [km_urs, km_ur]) ?_
    refine km_iload_n hX dX7_init_277 rfl ?_
    refine km_iload_n hX dX7_init_278 rfl ?_
    refine km_iastK (k := 2) (by decide) hX rfl (vp_in_iff.mpr (by decide)) dX7_init_279 ?_
    refine km_iinc (v := 1) hX dX7_init_280 (by decide) rfl (by decide) ?_
    refine km_goto (tgt := 268) hX dX7_init_283 (by decide) ?_
    refine km_iload_n hX dX7_init_268 rfl ?_
    refine km_iconst (v := 4) hX dX7_init_269 (by decide) ?_
    refine km_icmp_ge (tgt := 286) hX dX7_init_270 (by decide) (fun c => absurd c (by decide)) (fun c => ?_)
    refine km_aload_n hX dX7_init_273 rfl rfl ?_
    refine km_getr (q := 93) hX fX7_init_28 rfl rfl dX7_init_274 (by simp [km_urs, km_ur]) ?_
    refine km_iload_n hX dX7_init_277 rfl ?_
    refine km_iload_n hX dX7_init_278 rfl ?_
    refine km_iastK (k := 3) (by decide) hX rfl (vp_in_iff.mpr (by decide)) dX7_init_279 ?_
    refine km_iinc (v := 1) hX dX7_init_280 (by decide) rfl (by decide) ?_
    refine km_goto (tgt := 268) hX dX7_init_283 (by decide) ?_
    refine km_iload_n hX dX7_init_268 rfl ?_
    refine km_iconst (v := 4) hX dX7_init_269 (by decide) ?_
    refine km_icmp_ge (tgt := 286) hX dX7_init_270 (by decide) (fun c => ?_) (fun c => absurd c (by decide))
    exact km_vret hX hF rfl dX7_init_286 ⟨rfl, rfl, 2, 3, Or.inl ⟨cb, rfl, rfl⟩, rfl, rfl⟩ (by decide) (by decide)
  · refine km_iconst (v := 3) hX dX7_init_246 (by decide) ?_
    refine km_goto (tgt := 251) hX dX7_init_247 (by decide) ?_
    refine km_putiF hX pX7_init_104 rfl rfl (hin rfl) dX7_init_251 ?_
    refine km_aload_n hX dX7_init_254 rfl rfl ?_
    refine km_iconst (v := 1) hX dX7_init_255 (by decide) ?_
    refine km_aload_n hX dX7_init_256 rfl rfl ?_
    refine km_geti hX fX7_init_104 rfl rfl dX7_init_257 ?_
    refine km_topi (y := 3) (by simp [km_us, km_u]) ?_
    refine km_ishl hX dX7_init_260 ?_
    refine km_iconst (v := 1) hX dX7_init_261 (by decide) ?_
    refine km_isub hX dX7_init_262 ?_
    refine km_topi (y := 7) (by decide) ?_
    refine km_putiF hX pX7_init_107 rfl rfl (hin rfl) dX7_init_263 ?_
    refine km_iconst (v := 0) hX dX7_init_266 (by decide) ?_
    refine km_istore_n hX dX7_init_267 (by decide) ?_
    refine km_iload_n hX dX7_init_268 rfl ?_
    refine km_iconst (v := 4) hX dX7_init_269 (by decide) ?_
    refine km_icmp_ge (tgt := 286) hX dX7_init_270 (by decide) (fun c => absurd c (by decide)) (fun c => ?_)
    refine km_aload_n hX dX7_init_273 rfl rfl ?_
    refine km_getr (q := 93) hX fX7_init_28 rfl rfl dX7_init_274 (by simp [km_urs, km_ur]) ?_
    refine km_iload_n hX dX7_init_277 rfl ?_
    refine km_iload_n hX dX7_init_278 rfl ?_
    refine km_iastK (k := 0) (by decide) hX rfl (vp_in_iff.mpr (by decide)) dX7_init_279 ?_
    refine km_iinc (v := 1) hX dX7_init_280 (by decide) rfl (by decide) ?_
    refine km_goto (tgt := 268) hX dX7_init_283 (by decide) ?_
    refine km_iload_n hX dX7_init_268 rfl ?_
    refine km_iconst (v := 4) hX dX7_init_269 (by decide) ?_
    refine km_icmp_ge (tgt := 286) hX dX7_init_270 (by decide) (fun c => absurd c (by decide)) (fun c => ?_)
    refine km_aload_n hX dX7_init_273 rfl rfl ?_
    refine km_getr (q := 93) hX fX7_init_28 rfl rfl dX7_init_274 (by simp [km_urs, km_ur]) ?_
    refine km_iload_n hX dX7_init_277 rfl ?_
    refine km_iload_n hX dX7_init_278 rfl ?_
    refine km_iastK (k := 1) (by decide) hX rfl (vp_in_iff.mpr (by decide)) dX7_init_279 ?_
    refine km_iinc (v := 1) hX dX7_init_280 (by decide) rfl (by decide) ?_
    refine km_goto (tgt := 268) hX dX7_init_283 (by decide) ?_
    refine km_iload_n hX dX7_init_268 rfl ?_
    refine km_iconst (v := 4) hX dX7_init_269 (by decide) ?_
    refine km_icmp_ge (tgt := 286) hX dX7_init_270 (by decide) (fun c => absurd c (by decide)) (fun c => ?_)
    refine km_aload_n hX dX7_init_273 rfl rfl ?_
    refine km_getr (q := 93) hX fX7_init_28 rfl rfl dX7_init_274 (by simp [km_urs, km_ur]) ?_
    refine km_iload_n hX dX7_init_277 rfl ?_
    refine km_iload_n hX dX7_init_278 rfl ?_
    refine km_iastK (k := 2) (by decide) hX rfl (vp_in_iff.mpr (by decide)) dX7_init_279 ?_
    refine km_iinc (v := 1) hX dX7_init_280 (by decide) rfl (by decide) ?_
    refine km_goto (tgt := 268) hX dX7_init_283 (by decide) ?_
    refine km_iload_n hX dX7_init_268 rfl ?_
    refine km_iconst (v := 4) hX dX7_init_269 (by decide) ?_
    refine km_icmp_ge (tgt := 286) hX dX7_init_270 (by decide) (fun c => absurd c (by decide)) (fun c => ?_)
    refine km_aload_n hX dX7_init_273 rfl rfl ?_
    refine km_getr (q := 93) hX fX7_init_28 rfl rfl dX7_init_274 (by simp [km_urs, km_ur]) ?_
    refine km_iload_n hX dX7_init_277 rfl ?_
    refine km_iload_n hX dX7_init_278 rfl ?_
    refine km_iastK (k := 3) (by decide) hX rfl (vp_in_iff.mpr (by decide)) dX7_init_279 ?_
    refine km_iinc (v := 1) hX dX7_init_280 (by decide) rfl (by decide) ?_
    refine km_goto (tgt := 268) hX dX7_init_283 (by decide) ?_
    refine km_iload_n hX dX7_init_268 rfl ?_
    refine km_iconst (v := 4) hX dX7_init_269 (by decide) ?_
    refine km_icmp_ge (tgt := 286) hX dX7_init_270 (by decide) (fun c => ?_) (fun c => absurd c (by decide))
    exact km_vret hX hF rfl dX7_init_286 ⟨rfl, rfl, 3, 7, Or.inr ⟨cb, rfl, rfl⟩, rfl, rfl⟩ (by decide) (by decide)
