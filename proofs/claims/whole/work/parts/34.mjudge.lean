set_option maxRecDepth 100000 in
set_option maxHeartbeats 4000000 in
theorem ct_X11_tryThing {g : zt_G} {M : zm_M} {q : Int → zm_M → Prop} (hC : CW (cvG M 51 (14 * 1))) (hL : LW (lvM M)) (hcd : M 46 18 = 0) {w a b : Int} (hw : 0 ≤ w ∧ w ≤ 9) (ha : 0 ≤ a ∧ a ≤ 9) (hb : 0 ≤ b ∧ b ≤ 9) (hno : doT (lvM M) w a b (cvG M 51 (14 * 1)) = none → ∀ M2, frW 1 M M2 → (¬ w = 0 → cvG M2 51 (14 * 1) = cvG M 51 (14 * 1)) → q 0 M2) (hyes : ∀ D2, doT (lvM M) w a b (cvG M 51 (14 * 1)) = some D2 → ∀ M2, frW 1 M M2 → cvG M2 51 (14 * 1) = D2 → q 1 M2) : zc_K g yX11_tryThing mX11_tryThing [zv_r 46, zv_i w, zv_i a, zv_i b] M (zq_I q) := by
  refine zc_of (ls := [some (zv_r 46), some (zv_i w), some (zv_i a), some (zv_i b), none, none, none]) (by decide) rfl ⟨rfl, rfl⟩ (Nat.le_of_ble_eq_true rfl) rfl ?_
  have hw0 := wGt hC
  have hw3 := wGw hC
  have hct : ct (cvG M 51 (14 * 1)) = M 46 1 := rfl
  refine zr_iload_n (pc := 0) dX11_tryThing_0 rfl rfl ?_
  rcases (by omega : w = 0 ∨ w = 1 ∨ w = 2 ∨ w = 3 ∨ w = 4 ∨ w = 5 ∨ (w < 0 ∨ 5 < w)) with hsw1 | hsw1 | hsw1 | hsw1 | hsw1 | hsw1 | hsw1
  · refine zr_tab_in (pc := 1) (tgt := 40) dX11_tryThing_1 (by rw [hsw1]; decide) (by rw [hsw1]; decide) (off := 39) (by rw [hsw1]; decide +kernel) (by decide) ?_
    refine zr_aload_n (pc := 40) dX11_tryThing_40 rfl rfl ?_
    refine zr_iconst (pc := 41) dX11_tryThing_41 ?_
    refine zr_inv1V (pc := 42) rfl sX11_167 lo_46 rfl rfl rfl dX11_tryThing_42 ?_
    refine ct_X11_passOn (by decide) hC hL (by rw [hcd]; decide) (fun M2 hf2 hv2 => ?_)
    rw [hcd] at hv2
    refine zr_iload_n (pc := 45) dX11_tryThing_45 rfl rfl ?_
    refine zi_if_ne (pc := 46) (tgt := 57) dX11_tryThing_46 (by decide) (by omega) (fun h46 => ?_) (fun h46 => ?_)
    · refine zr_iconst (pc := 57) dX11_tryThing_57 ?_
      exact zr_zreturn (pc := 58) dX11_tryThing_58 rfl (by decide) (zq_eq (hno (by unfold doT; rw [hsw1, if_pos rfl, if_neg (fun y => h46 y.1)]) M2 hf2 (fun y => absurd hsw1 y)) rfl)
    · refine zr_iload_n (pc := 49) dX11_tryThing_49 rfl rfl ?_
      refine zi_if_ne (pc := 50) (tgt := 57) dX11_tryThing_50 (by decide) (by omega) (fun h50 => ?_) (fun h50 => ?_)
      · refine zr_iconst (pc := 57) dX11_tryThing_57 ?_
        exact zr_zreturn (pc := 58) dX11_tryThing_58 rfl (by decide) (zq_eq (hno (by unfold doT; rw [hsw1, if_pos rfl, if_neg (fun y => h50 y.2)]) M2 hf2 (fun y => absurd hsw1 y)) rfl)
      · refine zr_iconst (pc := 53) dX11_tryThing_53 ?_
        refine zr_goto (pc := 54) (tgt := 58) dX11_tryThing_54 (by decide) ?_
        exact zr_zreturn (pc := 58) dX11_tryThing_58 rfl (by decide) (zq_eq (hyes _ (by unfold doT; rw [hsw1, if_pos rfl, if_pos ⟨h46, h50⟩]) M2 hf2 hv2) rfl)
  · refine zr_tab_in (pc := 1) (tgt := 59) dX11_tryThing_1 (by rw [hsw1]; decide) (by rw [hsw1]; decide) (off := 58) (by rw [hsw1]; decide +kernel) (by decide) ?_
    refine zr_aload_n (pc := 59) dX11_tryThing_59 rfl rfl ?_
    refine zr_iconst (pc := 60) dX11_tryThing_60 ?_
    refine zr_iload_n (pc := 61) dX11_tryThing_61 rfl rfl ?_
    refine zr_iload_n (pc := 62) dX11_tryThing_62 rfl rfl ?_
    refine zr_inv3I (pc := 63) rfl sX11_176 lo_46 rfl rfl rfl dX11_tryThing_63 ?_
    refine ct_X11_canWalk (by decide) hC (by omega) (by omega) ?_
    refine zr_istore (pc := 66) dX11_tryThing_66 (Nat.le_of_ble_eq_true rfl) rfl ?_
    refine zr_iload (pc := 68) dX11_tryThing_68 rfl ?_
    refine zr_ifb_eq (pc := 70) (tgt := 80) dX11_tryThing_70 (by decide) (fun h70 => ?_) (fun h70 => ?_)
    · refine zr_iload (pc := 80) dX11_tryThing_80 rfl ?_
      exact zr_zreturn (pc := 82) dX11_tryThing_82 rfl zb_01 (zq_eq (hno (by unfold doT; rw [hsw1, if_neg (by decide), if_pos rfl, if_neg (h70)]) M frW.rf (fun _ => rfl)) (if_neg h70))
    · refine zr_aload_n (pc := 73) dX11_tryThing_73 rfl rfl ?_
      refine zr_iconst (pc := 74) dX11_tryThing_74 ?_
      refine zr_iload_n (pc := 75) dX11_tryThing_75 rfl rfl ?_
      refine zr_iload_n (pc := 76) dX11_tryThing_76 rfl rfl ?_
      refine zr_inv3V (pc := 77) rfl sX11_180 lo_46 rfl rfl rfl dX11_tryThing_77 ?_
      refine ct_X11_walkOn (by decide) hC h70.1 (fun M2 hf2 hv2 => ?_)
      refine zr_iload (pc := 80) dX11_tryThing_80 rfl ?_
      exact zr_zreturn (pc := 82) dX11_tryThing_82 rfl zb_01 (zq_eq (hyes _ (by unfold doT; rw [hsw1, if_neg (by decide), if_pos rfl, if_pos (h70)]) M2 hf2 hv2) (if_pos h70))
  · refine zr_tab_in (pc := 1) (tgt := 83) dX11_tryThing_1 (by rw [hsw1]; decide) (by rw [hsw1]; decide) (off := 82) (by rw [hsw1]; decide +kernel) (by decide) ?_
    refine zr_aload_n (pc := 83) dX11_tryThing_83 rfl rfl ?_
    refine zr_iconst (pc := 84) dX11_tryThing_84 ?_
    refine zr_iload_n (pc := 85) dX11_tryThing_85 rfl rfl ?_
    refine zr_iload_n (pc := 86) dX11_tryThing_86 rfl rfl ?_
    refine zr_inv3I (pc := 87) rfl sX11_184 lo_46 rfl rfl rfl dX11_tryThing_87 ?_
    refine ct_X11_canTell (by decide) hC (by omega) (by omega) ?_
    refine zr_istore (pc := 90) dX11_tryThing_90 (Nat.le_of_ble_eq_true rfl) rfl ?_
    refine zr_iload (pc := 92) dX11_tryThing_92 rfl ?_
    refine zr_ifb_eq (pc := 94) (tgt := 104) dX11_tryThing_94 (by decide) (fun h94 => ?_) (fun h94 => ?_)
    · refine zr_iload (pc := 104) dX11_tryThing_104 rfl ?_
      exact zr_zreturn (pc := 106) dX11_tryThing_106 rfl zb_01 (zq_eq (hno (by unfold doT; rw [hsw1, if_neg (by decide), if_neg (by decide), if_pos rfl, if_neg (h94)]) M frW.rf (fun _ => rfl)) (if_neg h94))
    · refine zr_aload_n (pc := 97) dX11_tryThing_97 rfl rfl ?_
      refine zr_iconst (pc := 98) dX11_tryThing_98 ?_
      refine zr_iload_n (pc := 99) dX11_tryThing_99 rfl rfl ?_
      refine zr_iload_n (pc := 100) dX11_tryThing_100 rfl rfl ?_
      refine zr_inv3V (pc := 101) rfl sX11_187 lo_46 rfl rfl rfl dX11_tryThing_101 ?_
      refine ct_X11_tellOn (by decide) hC h94.1 h94.2.1 (fun M2 hf2 hv2 => ?_)
      refine zr_iload (pc := 104) dX11_tryThing_104 rfl ?_
      exact zr_zreturn (pc := 106) dX11_tryThing_106 rfl zb_01 (zq_eq (hyes _ (by unfold doT; rw [hsw1, if_neg (by decide), if_neg (by decide), if_pos rfl, if_pos (h94)]) M2 hf2 hv2) (if_pos h94))
  · refine zr_tab_in (pc := 1) (tgt := 107) dX11_tryThing_1 (by rw [hsw1]; decide) (by rw [hsw1]; decide) (off := 106) (by rw [hsw1]; decide +kernel) (by decide) ?_
    refine zr_iload_n (pc := 107) dX11_tryThing_107 rfl rfl ?_
    refine zi_if_ne (pc := 108) (tgt := 132) dX11_tryThing_108 (by decide) (by omega) (fun h108 => ?_) (fun h108 => ?_)
    · refine zr_iconst (pc := 132) dX11_tryThing_132 ?_
      refine zr_istore (pc := 133) dX11_tryThing_133 (Nat.le_of_ble_eq_true rfl) rfl ?_
      refine zr_iload (pc := 135) dX11_tryThing_135 rfl ?_
      refine zi_if_eq (pc := 137) (tgt := 146) dX11_tryThing_137 (by decide) (by decide) (fun h137 => ?_) (fun h137 => ?_)
      · refine zr_iload (pc := 146) dX11_tryThing_146 rfl ?_
        exact zr_zreturn (pc := 148) dX11_tryThing_148 rfl (by decide) (zq_eq (hno (by unfold doT; rw [hsw1, if_neg (by decide), if_neg (by decide), if_neg (by decide), if_pos rfl, if_neg (fun y => h108 y.1)]) M frW.rf (fun _ => rfl)) rfl)
      · exact absurd h137 (by decide)
    · refine zr_aload_n (pc := 111) dX11_tryThing_111 rfl rfl ?_
      refine zr_iload_n (pc := 112) dX11_tryThing_112 rfl rfl ?_
      refine zr_inv1I (pc := 113) rfl sX11_136 lo_46 rfl rfl rfl dX11_tryThing_113 ?_
      refine ct_X11_isTramp hw0 (by omega) ?_
      refine zr_ifb_eq (pc := 116) (tgt := 132) dX11_tryThing_116 (by decide) (fun h116 => ?_) (fun h116 => ?_)
      · refine zr_iconst (pc := 132) dX11_tryThing_132 ?_
        refine zr_istore (pc := 133) dX11_tryThing_133 (Nat.le_of_ble_eq_true rfl) rfl ?_
        refine zr_iload (pc := 135) dX11_tryThing_135 rfl ?_
        refine zi_if_eq (pc := 137) (tgt := 146) dX11_tryThing_137 (by decide) (by decide) (fun h137 => ?_) (fun h137 => ?_)
        · refine zr_iload (pc := 146) dX11_tryThing_146 rfl ?_
          exact zr_zreturn (pc := 148) dX11_tryThing_148 rfl (by decide) (zq_eq (hno (by unfold doT; rw [hsw1, if_neg (by decide), if_neg (by decide), if_neg (by decide), if_pos rfl, if_neg (fun y => h116 y.2.1)]) M frW.rf (fun _ => rfl)) rfl)
        · exact absurd h137 (by decide)
      · refine zr_aload_n (pc := 119) dX11_tryThing_119 rfl rfl ?_
        refine zr_iconst (pc := 120) dX11_tryThing_120 ?_
        refine zr_iload_n (pc := 121) dX11_tryThing_121 rfl rfl ?_
        refine zr_inv2I (pc := 122) rfl sX11_122 lo_46 rfl rfl rfl dX11_tryThing_122 ?_
        refine ct_X11_isHummock (by decide) hC h116 ?_
        refine zr_ifb_ne (pc := 125) (tgt := 132) dX11_tryThing_125 (by decide) (fun h125 => ?_) (fun h125 => ?_)
        · refine zr_iconst (pc := 132) dX11_tryThing_132 ?_
          refine zr_istore (pc := 133) dX11_tryThing_133 (Nat.le_of_ble_eq_true rfl) rfl ?_
          refine zr_iload (pc := 135) dX11_tryThing_135 rfl ?_
          refine zi_if_eq (pc := 137) (tgt := 146) dX11_tryThing_137 (by decide) (by decide) (fun h137 => ?_) (fun h137 => ?_)
          · refine zr_iload (pc := 146) dX11_tryThing_146 rfl ?_
            exact zr_zreturn (pc := 148) dX11_tryThing_148 rfl (by decide) (zq_eq (hno (by unfold doT; rw [hsw1, if_neg (by decide), if_neg (by decide), if_neg (by decide), if_pos rfl, if_neg (fun y => y.2.2 h125)]) M frW.rf (fun _ => rfl)) rfl)
          · exact absurd h137 (by decide)
        · refine zr_iconst (pc := 128) dX11_tryThing_128 ?_
          refine zr_goto (pc := 129) (tgt := 133) dX11_tryThing_129 (by decide) ?_
          refine zr_istore (pc := 133) dX11_tryThing_133 (Nat.le_of_ble_eq_true rfl) rfl ?_
          refine zr_iload (pc := 135) dX11_tryThing_135 rfl ?_
          refine zi_if_eq (pc := 137) (tgt := 146) dX11_tryThing_137 (by decide) (by decide) (fun h137 => ?_) (fun h137 => ?_)
          · exact absurd h137 (by decide)
          · refine zr_aload_n (pc := 140) dX11_tryThing_140 rfl rfl ?_
            refine zr_iconst (pc := 141) dX11_tryThing_141 ?_
            refine zr_iload_n (pc := 142) dX11_tryThing_142 rfl rfl ?_
            refine zr_inv2V (pc := 143) rfl sX11_190 lo_46 rfl rfl rfl dX11_tryThing_143 ?_
            refine ct_X11_washOn (by decide) hC h116 (fun M2 hf2 hv2 => ?_)
            refine zr_iload (pc := 146) dX11_tryThing_146 rfl ?_
            exact zr_zreturn (pc := 148) dX11_tryThing_148 rfl (by decide) (zq_eq (hyes _ (by unfold doT; rw [hsw1, if_neg (by decide), if_neg (by decide), if_neg (by decide), if_pos rfl, if_pos (⟨h108, h116, h125⟩)]) M2 hf2 hv2) rfl)
  · refine zr_tab_in (pc := 1) (tgt := 149) dX11_tryThing_1 (by rw [hsw1]; decide) (by rw [hsw1]; decide) (off := 148) (by rw [hsw1]; decide +kernel) (by decide) ?_
    refine zr_aload_n (pc := 149) dX11_tryThing_149 rfl rfl ?_
    refine zr_iload_n (pc := 150) dX11_tryThing_150 rfl rfl ?_
    refine zr_inv1I (pc := 151) rfl sX11_136 lo_46 rfl rfl rfl dX11_tryThing_151 ?_
    refine ct_X11_isTramp hw0 (by omega) ?_
    refine zr_ifb_eq (pc := 154) (tgt := 191) dX11_tryThing_154 (by decide) (fun h154 => ?_) (fun h154 => ?_)
    · refine zr_iconst (pc := 191) dX11_tryThing_191 ?_
      exact zr_zreturn (pc := 192) dX11_tryThing_192 rfl (by decide) (zq_eq (hno (by unfold doT; rw [hsw1, if_neg (by decide), if_neg (by decide), if_neg (by decide), if_neg (by decide), if_pos rfl, if_neg (fun y => h154 y.1)]) M frW.rf (fun _ => rfl)) rfl)
    · refine zr_iload_n (pc := 157) dX11_tryThing_157 rfl rfl ?_
      refine zr_i2l (pc := 158) dX11_tryThing_158 ?_
      refine zr_lconst (pc := 159) (z := 1) dX11_tryThing_159 (by decide +kernel) ?_
      refine zr_ldc2 (pc := 160) (z := 6) rfl kX11_228 (by decide +kernel) dX11_tryThing_160 ?_
      refine zr_stat3I (pc := 163) rfl sX11_61 rfl rfl dX11_tryThing_163 ?_
      refine in_i (by omega) (by omega) (by omega) ?_
      refine zr_ifb_eq (pc := 166) (tgt := 191) dX11_tryThing_166 (by decide) (fun h166 => ?_) (fun h166 => ?_)
      · refine zr_iconst (pc := 191) dX11_tryThing_191 ?_
        exact zr_zreturn (pc := 192) dX11_tryThing_192 rfl (by decide) (zq_eq (hno (by unfold doT; rw [hsw1, if_neg (by decide), if_neg (by decide), if_neg (by decide), if_neg (by decide), if_pos rfl, if_neg (fun y => h166 y.2.1)]) M frW.rf (fun _ => rfl)) rfl)
      · have hwa := wG hC h154
        have hvn : cn (cvG M 51 (14 * 1)) a = M 51 (18 + a) := vG_n h154 (by omega)
        rw [← vG_n (M := M) (a := 51) (b := 14 * 1) h154 rfl, hvn] at hwa
        refine zr_aload_n (pc := 169) dX11_tryThing_169 rfl rfl ?_
        refine zr_getR (pc := 170) fX11_22 lo_46 rfl rfl dX11_tryThing_170 ?_
        refine zr_bipush (pc := 173) dX11_tryThing_173 (by decide) ?_
        refine zr_iload_n (pc := 175) dX11_tryThing_175 rfl rfl ?_
        refine zr_iadd (pc := 176) dX11_tryThing_176 ?_
        refine zr_iaload (pc := 177) lo_51 (by omega) dX11_tryThing_177 ?_
        refine zr_iload_n (pc := 178) dX11_tryThing_178 rfl rfl ?_
        refine zr_iconst (pc := 179) dX11_tryThing_179 ?_
        refine zr_isub (pc := 180) dX11_tryThing_180 ?_
        refine zr_stat2I (pc := 181) rfl sX11_75 rfl rfl dX11_tryThing_181 ?_
        refine ct_X11_has (by omega) (by omega) ?_
        refine zr_ifb_eq (pc := 184) (tgt := 191) dX11_tryThing_184 (by decide) (fun h184 => ?_) (fun h184 => ?_)
        · refine zr_iconst (pc := 191) dX11_tryThing_191 ?_
          exact zr_zreturn (pc := 192) dX11_tryThing_192 rfl (by decide) (zq_eq (hno (by unfold doT; rw [hsw1, if_neg (by decide), if_neg (by decide), if_neg (by decide), if_neg (by decide), if_pos rfl, if_neg (fun y => h184 (by rw [← hvn]; exact y.2.2))]) M frW.rf (fun _ => rfl)) rfl)
        · refine zr_iconst (pc := 187) dX11_tryThing_187 ?_
          refine zr_goto (pc := 188) (tgt := 192) dX11_tryThing_188 (by decide) ?_
          exact zr_zreturn (pc := 192) dX11_tryThing_192 rfl (by decide) (zq_eq (hyes _ (by unfold doT; rw [hsw1, if_neg (by decide), if_neg (by decide), if_neg (by decide), if_neg (by decide), if_pos rfl, if_pos (⟨h154, h166, by rw [hvn]; exact h184⟩)]) M frW.rf rfl) rfl)
  · refine zr_tab_in (pc := 1) (tgt := 193) dX11_tryThing_1 (by rw [hsw1]; decide) (by rw [hsw1]; decide) (off := 192) (by rw [hsw1]; decide +kernel) (by decide) ?_
    refine zr_aload_n (pc := 193) dX11_tryThing_193 rfl rfl ?_
    refine zr_iload_n (pc := 194) dX11_tryThing_194 rfl rfl ?_
    refine zr_inv1I (pc := 195) rfl sX11_136 lo_46 rfl rfl rfl dX11_tryThing_195 ?_
    refine ct_X11_isTramp hw0 (by omega) ?_
    refine zr_ifb_eq (pc := 198) (tgt := 218) dX11_tryThing_198 (by decide) (fun h198 => ?_) (fun h198 => ?_)
    · refine zr_iconst (pc := 218) dX11_tryThing_218 ?_
      exact zr_zreturn (pc := 219) dX11_tryThing_219 rfl (by decide) (zq_eq (hno (by unfold doT; rw [hsw1, if_neg (by decide), if_neg (by decide), if_neg (by decide), if_neg (by decide), if_neg (by decide), if_pos rfl, if_neg (fun y => h198 y.1)]) M frW.rf (fun _ => rfl)) rfl)
    · have hwa := wG hC h198
      have hvh : ch (cvG M 51 (14 * 1)) a = M 51 (22 + a) := vG_h h198 (by omega)
      rw [← vG_h (M := M) (a := 51) (b := 14 * 1) h198 rfl, hvh] at hwa
      refine zr_aload_n (pc := 201) dX11_tryThing_201 rfl rfl ?_
      refine zr_getR (pc := 202) fX11_22 lo_46 rfl rfl dX11_tryThing_202 ?_
      refine zr_bipush (pc := 205) dX11_tryThing_205 (by decide) ?_
      refine zr_iload_n (pc := 207) dX11_tryThing_207 rfl rfl ?_
      refine zr_iadd (pc := 208) dX11_tryThing_208 ?_
      refine zr_iaload (pc := 209) lo_51 (by omega) dX11_tryThing_209 ?_
      refine zr_iload_n (pc := 210) dX11_tryThing_210 rfl rfl ?_
      refine zi_icmp_lt (pc := 211) (tgt := 218) dX11_tryThing_211 (by decide) (by omega) (by omega) (fun h211 => ?_) (fun h211 => ?_)
      · refine zr_iconst (pc := 218) dX11_tryThing_218 ?_
        exact zr_zreturn (pc := 219) dX11_tryThing_219 rfl (by decide) (zq_eq (hno (by unfold doT; rw [hsw1, if_neg (by decide), if_neg (by decide), if_neg (by decide), if_neg (by decide), if_neg (by decide), if_pos rfl, if_neg (fun y => by have := y.2; rw [hvh] at this; omega)]) M frW.rf (fun _ => rfl)) rfl)
      · refine zr_iconst (pc := 214) dX11_tryThing_214 ?_
        refine zr_goto (pc := 215) (tgt := 219) dX11_tryThing_215 (by decide) ?_
        exact zr_zreturn (pc := 219) dX11_tryThing_219 rfl (by decide) (zq_eq (hyes _ (by unfold doT; rw [hsw1, if_neg (by decide), if_neg (by decide), if_neg (by decide), if_neg (by decide), if_neg (by decide), if_pos rfl, if_pos (⟨h198, by rw [hvh]; exact h211⟩)]) M frW.rf rfl) rfl)
  · refine zr_tab_out (pc := 1) (tgt := 220) dX11_tryThing_1 (by rw [zw_id (by omega) (by omega)]; exact hsw1) (by decide) ?_
    refine zr_iconst (pc := 220) dX11_tryThing_220 ?_
    exact zr_zreturn (pc := 221) dX11_tryThing_221 rfl (by decide) (zq_eq (hno (by unfold doT; rw [if_neg (by omega), if_neg (by omega), if_neg (by omega), if_neg (by omega), if_neg (by omega), if_neg (by omega)]) M frW.rf (fun _ => rfl)) rfl)

set_option maxRecDepth 100000 in
set_option maxHeartbeats 4000000 in
theorem lp_X11_thousandTo {g : zt_G} {M : zm_M} {q : Int → zm_M → Prop} {n : Int} (hn : 0 ≤ n ∧ n ≤ 4) (h : q (zk_row n) M) : ∀ (nn : Nat) (p k : Int), (n - k).toNat = nn → 0 ≤ k → k ≤ n → p = zk_row k → zc_Z g mX11_thousandTo 4 [some (zv_i n), some (zv_l p), none, some (zv_i k)] [] M (zq_L q) := by
  intro nn
  induction nn using Nat.strongRecOn with
  | ind nn ih =>
    intro p k hnn h0 h1 hp
    refine zr_iload_n (pc := 4) dX11_thousandTo_4 rfl rfl ?_
    refine zr_iload_n (pc := 5) dX11_thousandTo_5 rfl rfl ?_
    refine zi_icmp_ge (pc := 6) (tgt := 21) dX11_thousandTo_6 (by decide) (by omega) (by omega) (fun h6 => ?_) (fun h6 => ?_)
    · refine zr_lload_n (pc := 21) dX11_thousandTo_21 rfl rfl ?_
      exact zr_lreturn (pc := 22) dX11_thousandTo_22 rfl (by rw [hp, show k = n by omega]; exact h)
    · refine zr_lload_n (pc := 9) dX11_thousandTo_9 rfl rfl ?_
      refine zr_ldc2 (pc := 10) (z := 1000) rfl kX11_230 (by decide +kernel) dX11_thousandTo_10 ?_
      refine zr_lmul (pc := 13) dX11_thousandTo_13 ?_
      refine zr_lstore_n (pc := 14) dX11_thousandTo_14 rfl (Nat.le_of_ble_eq_true rfl) rfl ?_
      refine zr_iinc (pc := 15) dX11_thousandTo_15 rfl (Nat.le_of_ble_eq_true rfl) rfl ?_
      refine zr_goto (pc := 18) (tgt := 4) dX11_thousandTo_18 (by decide) ?_
      exact ih _ (by omega) _ _ rfl (by omega) (by omega) (by rw [hp]; rcases (by omega : k = 0 ∨ k = 1 ∨ k = 2 ∨ k = 3) with e | e | e | e <;> rw [e] <;> decide)

set_option maxRecDepth 100000 in
set_option maxHeartbeats 4000000 in
theorem ct_X11_thousandTo {g : zt_G} {M : zm_M} {q : Int → zm_M → Prop} {n : Int} (hn : 0 ≤ n ∧ n ≤ 4) (h : q (zk_row n) M) : zc_K g yX11_thousandTo mX11_thousandTo [zv_i n] M (zq_L q) := by
  refine zc_of (ls := [some (zv_i n), none, none, none]) (by decide) rfl ⟨rfl, rfl⟩ (Nat.le_of_ble_eq_true rfl) rfl ?_
  refine zr_lconst (pc := 0) (z := 1) dX11_thousandTo_0 (by decide +kernel) ?_
  refine zr_lstore_n (pc := 1) dX11_thousandTo_1 rfl (Nat.le_of_ble_eq_true rfl) rfl ?_
  refine zr_iconst (pc := 2) dX11_thousandTo_2 ?_
  refine zr_istore_n (pc := 3) dX11_thousandTo_3 rfl (Nat.le_of_ble_eq_true rfl) rfl ?_
  exact lp_X11_thousandTo hn h _ _ _ rfl (by omega) (by omega) rfl

set_option maxRecDepth 100000 in
set_option maxHeartbeats 4000000 in
theorem lp_X11_judge {g : zt_G} {M : zm_M} {σ : Sg} {q : Int → zm_M → Prop} (hR : RM σ M) (hW : SW σ) {n row : Int} (hn : 1 ≤ n ∧ n ≤ 4) (hr : 0 ≤ row ∧ row < 9223372036854775808) (h : ∀ M2, frM M M2 → RM σ M2 → q (jgL (sL σ) n row n.toNat 0 (sC σ)) M2) : ∀ (nn : Nat) (k : Int) (x5 : Option zv_A) (Mx : zm_M), (n - k).toNat = nn → 0 ≤ k → k ≤ n → frW 1 M Mx → CW (cvG Mx 51 (14 * 1)) → jgL (sL σ) n row (n - k).toNat k (cvG Mx 51 (14 * 1)) = jgL (sL σ) n row n.toNat 0 (sC σ) → zc_Z g mX11_judge 36 [some (zv_r 46), some (zv_i n), some (zv_l row), none, some (zv_i k), x5] [] Mx (zq_I q) := by
  intro nn
  induction nn using Nat.strongRecOn with
  | ind nn ih =>
    intro k x5 Mx hnn h0 h1 hfr hCx hJ
    obtain ⟨hT, hl, hcv, hA, hK, hS, hD, hcd⟩ := id hR
    obtain ⟨wT, wTx, wL, ⟨wC, wZ⟩, wA, wK, wS⟩ := id hW
    have hLw : LW (lvM M) := by rw [hl]; exact wL
    have hCw : CW (cvG M 51 (14 * 0)) := by rw [hcv]; exact wC
    have hw0 := wGt hCw
    have hL0 := yMk hLw
    have hk1 : M 46 0 = (sL σ).1 := by rw [← hl]; rfl
    have ht1 : M 46 1 = ct (sC σ) := by rw [← hcv]; rfl
    have hT1 := hT.1
    have hlx : lvM Mx = sL σ := by rw [lvM_fr (hfr _ _ (by omega)) (fun k i a b => hfr k i (by omega))]; exact hl
    have ecx : Mx 46 18 = 0 := by rw [hfr _ _ (by omega)]; exact hcd
    have e1x : Mx 46 1 = M 46 1 := hfr _ _ (by omega)
    refine zr_iload (pc := 36) dX11_judge_36 rfl ?_
    refine zr_iload_n (pc := 38) dX11_judge_38 rfl rfl ?_
    refine zi_icmp_ge (pc := 39) (tgt := 94) dX11_judge_39 (by decide) (by omega) (by omega) (fun h39 => ?_) (fun h39 => ?_)
    · refine zr_bipush (pc := 94) dX11_judge_94 (by decide) ?_
      exact zr_ireturn (pc := 96) dX11_judge_96 rfl (zq_eq (h Mx (fun k i a => hfr k i (by omega)) (RM_frs hR hW (fun k i a b => hfr k i (by unfold zsm at b; omega)))) (by rw [← hJ, show (n - k).toNat = 0 by omega]; rfl))
    · rw [show (n - k).toNat = (n - (k + 1)).toNat + 1 by omega, jgL_s] at hJ
      have hz := zk_in (a := n - 1 - k) (by omega)
      have hj := jg_in (n := n) (k := k) hr.1
      have hdv := Int.ediv_nonneg hr.1 (show 0 ≤ zk_row (n - 1 - k) by omega)
      have hdv2 := Int.ediv_le_self (zk_row (n - 1 - k)) hr.1
      refine zr_lload_n (pc := 42) dX11_judge_42 rfl rfl ?_
      refine zr_iload_n (pc := 43) dX11_judge_43 rfl rfl ?_
      refine zr_iconst (pc := 44) dX11_judge_44 ?_
      refine zr_isub (pc := 45) dX11_judge_45 ?_
      refine zr_iload (pc := 46) dX11_judge_46 rfl ?_
      refine zr_isub (pc := 48) dX11_judge_48 ?_
      refine zr_stat1L (pc := 49) rfl sX11_234 rfl rfl dX11_judge_49 ?_
      refine ct_X11_thousandTo (by omega) ?_
      refine zr_ldiv (pc := 52) (by omega) (by omega) dX11_judge_52 ?_
      refine zr_ldc2 (pc := 53) (z := 1000) rfl kX11_230 (by decide +kernel) dX11_judge_53 ?_
      refine zr_lrem (pc := 56) (by omega) (by omega) dX11_judge_56 ?_
      rw [show row / zk_row (n - 1 - k) % 1000 = jgD n k row from rfl]
      refine zr_l2i (pc := 57) dX11_judge_57 ?_
      refine zr_istore (pc := 58) dX11_judge_58 (Nat.le_of_ble_eq_true rfl) rfl ?_
      refine zr_aload_n (pc := 60) dX11_judge_60 rfl rfl ?_
      refine zr_iload (pc := 61) dX11_judge_61 rfl ?_
      refine zr_bipush (pc := 63) dX11_judge_63 (by decide) ?_
      refine zr_idiv (pc := 65) (by omega) (by omega) dX11_judge_65 ?_
      refine zr_iload (pc := 66) dX11_judge_66 rfl ?_
      refine zr_bipush (pc := 68) dX11_judge_68 (by decide) ?_
      refine zr_idiv (pc := 70) (by omega) (by omega) dX11_judge_70 ?_
      refine zr_bipush (pc := 71) dX11_judge_71 (by decide) ?_
      refine zr_irem (pc := 73) (by omega) (by omega) dX11_judge_73 ?_
      refine zr_iload (pc := 74) dX11_judge_74 rfl ?_
      refine zr_bipush (pc := 76) dX11_judge_76 (by decide) ?_
      refine zr_irem (pc := 78) (by omega) (by omega) dX11_judge_78 ?_
      refine zr_inv3I (pc := 79) rfl sX11_238 lo_46 rfl rfl rfl dX11_judge_79 ?_
      refine ct_X11_tryThing hCx (by rw [hlx]; exact wL) ecx (by omega) (by omega) (by omega) (fun hz M2 hf2 hv2 => ?_) (fun D2 hz M2 hf2 hv2 => ?_)
      · rw [hlx] at hz
        rw [hz] at hJ
        dsimp only at hJ
        have hfr2 := hfr.tr hf2
        refine zi_if_ne (pc := 82) (tgt := 88) dX11_judge_82 (by decide) (by decide) (fun h82 => ?_) (fun h82 => ?_)
        · exact absurd h82 (by decide)
        · refine zr_iload (pc := 85) dX11_judge_85 rfl ?_
          exact zr_ireturn (pc := 87) dX11_judge_87 rfl (zq_eq (h M2 (fun k i a => hfr2 k i (by omega)) (RM_frs hR hW (fun k i a b => hfr2 k i (by unfold zsm at b; omega)))) (by rw [← hJ]))
      · rw [hlx] at hz
        rw [hz] at hJ
        dsimp only at hJ
        refine zi_if_ne (pc := 82) (tgt := 88) dX11_judge_82 (by decide) (by decide) (fun h82 => ?_) (fun h82 => ?_)
        · refine zr_iinc (pc := 88) dX11_judge_88 rfl (Nat.le_of_ble_eq_true rfl) rfl ?_
          refine zr_goto (pc := 91) (tgt := 36) dX11_judge_91 (by decide) ?_
          exact ih _ (by omega) _ _ _ rfl (by omega) (by omega) (hfr.tr hf2) (by rw [hv2]; exact (CW_doT wL hCx hz).1) (by rw [hv2]; exact hJ)
        · exact absurd h82 (by decide)

set_option maxRecDepth 100000 in
set_option maxHeartbeats 4000000 in
theorem ct_X11_judge {g : zt_G} {M : zm_M} {σ : Sg} {q : Int → zm_M → Prop} (hR : RM σ M) (hW : SW σ) {n row : Int} (hn : zi n) (hr : -9223372036854775808 ≤ row ∧ row < 9223372036854775808) (h : ∀ M2, frM M M2 → RM σ M2 → q (aJudge n row (sL σ) (sC σ)) M2) : zc_K g yX11_judge mX11_judge [zv_r 46, zv_i n, zv_l row] M (zq_I q) := by
  refine zc_of (ls := [some (zv_r 46), some (zv_i n), some (zv_l row), none, none, none]) (by decide) rfl ⟨rfl, rfl⟩ (Nat.le_of_ble_eq_true rfl) rfl ?_
  obtain ⟨hT, hl, hcv, hA, hK, hS, hD, hcd⟩ := id hR
  obtain ⟨wT, wTx, wL, ⟨wC, wZ⟩, wA, wK, wS⟩ := id hW
  have hLw : LW (lvM M) := by rw [hl]; exact wL
  have hCw : CW (cvG M 51 (14 * 0)) := by rw [hcv]; exact wC
  have hw0 := wGt hCw
  have hL0 := yMk hLw
  have hk1 : M 46 0 = (sL σ).1 := by rw [← hl]; rfl
  have ht1 : M 46 1 = ct (sC σ) := by rw [← hcv]; rfl
  have hT1 := hT.1
  refine zr_iload_n (pc := 0) dX11_judge_0 rfl rfl ?_
  refine zr_i2l (pc := 1) dX11_judge_1 ?_
  refine zr_lconst (pc := 2) (z := 1) dX11_judge_2 (by decide +kernel) ?_
  refine zr_ldc2 (pc := 3) (z := 4) rfl kX11_232 (by decide +kernel) dX11_judge_3 ?_
  refine zr_stat3I (pc := 6) rfl sX11_61 rfl rfl dX11_judge_6 ?_
  refine in_i hn (by omega) (by omega) ?_
  refine zr_ifb_eq (pc := 9) (tgt := 26) dX11_judge_9 (by decide) (fun h9 => ?_) (fun h9 => ?_)
  · refine zr_bipush (pc := 26) dX11_judge_26 (by decide) ?_
    exact zr_ireturn (pc := 28) dX11_judge_28 rfl (zq_eq (h M (fun _ _ _ => rfl) hR) (by unfold aJudge; rw [if_pos (by omega)]))
  · refine zr_lload_n (pc := 12) dX11_judge_12 rfl rfl ?_
    refine zr_lconst (pc := 13) (z := 0) dX11_judge_13 (by decide +kernel) ?_
    refine zr_iload_n (pc := 14) dX11_judge_14 rfl rfl ?_
    refine zr_stat1L (pc := 15) rfl sX11_234 rfl rfl dX11_judge_15 ?_
    have hz := zk_in (a := n) (by omega)
    refine ct_X11_thousandTo (by omega) ?_
    refine zr_lconst (pc := 18) (z := 1) dX11_judge_18 (by decide +kernel) ?_
    refine zr_lsub (pc := 19) dX11_judge_19 ?_
    refine zr_stat3I (pc := 20) rfl sX11_61 rfl rfl dX11_judge_20 ?_
    refine ct_X11_in hr (by omega) (by omega) ?_
    refine zr_ifb_ne (pc := 23) (tgt := 29) dX11_judge_23 (by decide) (fun h23 => ?_) (fun h23 => ?_)
    · refine zr_aload_n (pc := 29) dX11_judge_29 rfl rfl ?_
      refine zr_inv0V (pc := 30) rfl sX11_195 lo_46 rfl rfl rfl dX11_judge_30 ?_
      refine ct_X11_layTrial hw0.2 (fun M1 hf1 hv1 => ?_)
      rw [hcv] at hv1
      refine zr_iconst (pc := 33) dX11_judge_33 ?_
      refine zr_istore (pc := 34) dX11_judge_34 (Nat.le_of_ble_eq_true rfl) rfl ?_
      refine lp_X11_judge (g := g) hR hW (by omega) ⟨by omega, hr.2⟩ (fun M2 a b => ?_) _ _ _ M1 rfl (by omega) (by omega) hf1 (by rw [hv1]; exact wC) (by rw [hv1, Int.sub_zero])
      have h9 := h M2 a b
      unfold aJudge at h9
      rw [if_neg (by omega)] at h9
      exact h9
    · refine zr_bipush (pc := 26) dX11_judge_26 (by decide) ?_
      exact zr_ireturn (pc := 28) dX11_judge_28 rfl (zq_eq (h M (fun _ _ _ => rfl) hR) (by unfold aJudge; rw [if_pos (by omega)]))

set_option maxRecDepth 100000 in
set_option maxHeartbeats 4000000 in
theorem lp_X11_knownOfAll {g : zt_G} {M : zm_M} {q : Int → zm_M → Prop} (hw : CW (cvG M 51 (14 * 1))) (h : q (allN (cvG M 51 (14 * 1))) M) : ∀ (nn : Nat) (b t : Int), (M 46 1 - t).toNat = nn → 0 ≤ t → t ≤ M 46 1 → b = fo (fun t b => b + on6 (cn (cvG M 51 (14 * 1)) t)) 0 t.toNat → zc_Z g mX11_knownOfAll 4 [some (zv_r 46), some (zv_i b), some (zv_i t)] [] M (zq_I q) := by
  intro nn
  induction nn using Nat.strongRecOn with
  | ind nn ih =>
    intro b t hn h0 h1 hb
    have hw1 := wGt hw
    refine zr_iload_n (pc := 4) dX11_knownOfAll_4 rfl rfl ?_
    refine zr_aload_n (pc := 5) dX11_knownOfAll_5 rfl rfl ?_
    refine zr_getI (pc := 6) (z := 1) fX11_110 lo_46 rfl rfl rfl dX11_knownOfAll_6 ?_
    refine zi_icmp_ge (pc := 9) (tgt := 33) dX11_knownOfAll_9 (by decide) (by omega) (by omega) (fun h9 => ?_) (fun h9 => ?_)
    · refine zr_iload_n (pc := 33) dX11_knownOfAll_33 rfl rfl ?_
      exact zr_ireturn (pc := 34) dX11_knownOfAll_34 rfl (zq_eq h (by unfold allN; rw [hb, show t = M 46 1 by omega]; rfl))
    · have hvn : cn (cvG M 51 (14 * 1)) t = M 51 (18 + t) := vG_n ⟨h0, h9⟩ (by omega)
      have hwi := (hw.2.2 t).2.2.1
      rw [hvn] at hwi
      refine zr_iload_n (pc := 12) dX11_knownOfAll_12 rfl rfl ?_
      refine zr_aload_n (pc := 13) dX11_knownOfAll_13 rfl rfl ?_
      refine zr_getR (pc := 14) fX11_22 lo_46 rfl rfl dX11_knownOfAll_14 ?_
      refine zr_bipush (pc := 17) dX11_knownOfAll_17 (by decide) ?_
      refine zr_iload_n (pc := 19) dX11_knownOfAll_19 rfl rfl ?_
      refine zr_iadd (pc := 20) dX11_knownOfAll_20 ?_
      refine zr_iaload (pc := 21) lo_51 (by omega) dX11_knownOfAll_21 ?_
      refine zr_stat1I (pc := 22) rfl sX11_173 rfl rfl dX11_knownOfAll_22 ?_
      refine ct_X11_ones (by omega) ?_
      refine zr_iadd (pc := 25) dX11_knownOfAll_25 ?_
      refine zr_istore_n (pc := 26) dX11_knownOfAll_26 rfl (Nat.le_of_ble_eq_true rfl) rfl ?_
      refine zr_iinc (pc := 27) dX11_knownOfAll_27 rfl (Nat.le_of_ble_eq_true rfl) rfl ?_
      refine zr_goto (pc := 30) (tgt := 4) dX11_knownOfAll_30 (by decide) ?_
      exact ih _ (by omega) _ _ rfl (by omega) (by omega) (by rw [fo_s h0, ← hb, hvn])

set_option maxRecDepth 100000 in
set_option maxHeartbeats 4000000 in
theorem ct_X11_knownOfAll {g : zt_G} {M : zm_M} {q : Int → zm_M → Prop} (hw : CW (cvG M 51 (14 * 1))) (h : q (allN (cvG M 51 (14 * 1))) M) : zc_K g yX11_knownOfAll mX11_knownOfAll [zv_r 46] M (zq_I q) := by
  refine zc_of (ls := [some (zv_r 46), none, none]) (by decide) rfl ⟨rfl, rfl⟩ (Nat.le_of_ble_eq_true rfl) rfl ?_
  refine zr_iconst (pc := 0) dX11_knownOfAll_0 ?_
  refine zr_istore_n (pc := 1) dX11_knownOfAll_1 rfl (Nat.le_of_ble_eq_true rfl) rfl ?_
  refine zr_iconst (pc := 2) dX11_knownOfAll_2 ?_
  refine zr_istore_n (pc := 3) dX11_knownOfAll_3 rfl (Nat.le_of_ble_eq_true rfl) rfl ?_
  exact lp_X11_knownOfAll hw h _ _ _ rfl (by omega) (wGt hw).1 rfl

theorem RM_D {σ : Sg} {M M2 : zm_M} {s : Int} (h : RM σ M) (hW : SW σ) (hf : ∀ (k : Nat) (i : Int), 46 ≤ k → ¬ zsm k i → ¬ (k = 46 ∧ i = 28) → M2 k i = M k i) (hs : zx (M2 46 28) = s) : RM (sT σ, sL σ, sC σ, sA σ, sK σ, sS σ, s) M2 := by
  have h4 := RM4 h hW
  obtain ⟨h1, h2, h3, h5, h6, h7, h8, h9⟩ := h
  have f : ∀ i, (i = 0 ∨ i = 1 ∨ i = 15 ∨ i = 18 ∨ i = 19 ∨ i = 20 ∨ i = 25) → M2 46 i = M 46 i := fun i hi => hf 46 i (by decide) (by unfold zsm; omega) (by omega)
  refine ⟨YT_fr h1 (f _ (by omega)) (fun i => hf 56 i (by decide) (by unfold zsm; omega) (by omega)), ?_, ?_, YA_fr h5 h4.2 (f _ (by omega)) (fun i => hf 50 i (by decide) (by unfold zsm; omega) (by omega)) (f _ (by omega)) (f _ (by omega)) (fun i => hf 57 i (by decide) (by unfold zsm; omega) (by omega)), YK_fr h6 h4.2 (f _ (by omega)) (fun i => hf 50 i (by decide) (by unfold zsm; omega) (by omega)) (fun i => hf 61 i (by decide) (by unfold zsm; omega) (by omega)) (fun i => hf 62 i (by decide) (by unfold zsm; omega) (by omega)), YS_fr h7 (f _ (by omega)) (fun i => hf 59 i (by decide) (by unfold zsm; omega) (by omega)) (fun i => hf 60 i (by decide) (by unfold zsm; omega) (by omega)), hs, by rw [f _ (by omega)]; exact h9⟩
  · rw [lvM_fr (f _ (by omega)) (fun k i a b => hf k i (by omega) (by unfold zsm; omega) (by omega))]
    exact h2
  · rw [cvG_fr (f _ (by omega)) (fun i => hf 50 i (by decide) (by unfold zsm; omega) (by omega)) (fun i a b => hf 51 i (by decide) (by unfold zsm; omega) (by omega)) h4.2]
    exact h3
set_option maxRecDepth 100000 in
set_option maxHeartbeats 4000000 in
theorem lp_X11_years {g : zt_G} {M : zm_M} {σ : Sg} {q : Int → zm_M → Prop} (hR : RM σ M) (hW : SW σ) {m : Int} (hm : 1 ≤ m ∧ m ≤ 30) (h : ∀ M2, frM M M2 → RM (oYears m σ).2 M2 → q (oYears m σ).1 M2) : ∀ (nn : Nat) (u k : Int) (x4 : Option zv_A) (Mx : zm_M), (m - k).toNat = nn → 0 ≤ k → k ≤ m → (∀ (k : Nat) (i : Int), (k ≠ 51 ∨ i < 14 ∨ 28 ≤ i) → (k ≠ 46 ∨ i ≠ 28) → Mx k i = M k i) → CW (cvG Mx 51 (14 * 1)) → yrL (sL σ) (m - k).toNat (zx (Mx 46 28)) (cvG Mx 51 (14 * 1)) u = yrL (sL σ) m.toNat (sD σ) (sC σ) 0 → zc_Z g mX11_years 23 [some (zv_r 46), some (zv_i m), some (zv_i u), some (zv_i k), x4] [] Mx (zq_I q) := by
  intro nn
  induction nn using Nat.strongRecOn with
  | ind nn ih =>
    intro u k x4 Mx hnn h0 h1 hfr hCx hY
    obtain ⟨hT, hl, hcv, hA, hK, hS, hD, hcd⟩ := id hR
    obtain ⟨wT, wTx, wL, ⟨wC, wZ⟩, wA, wK, wS⟩ := id hW
    have hLw : LW (lvM M) := by rw [hl]; exact wL
    have hCw : CW (cvG M 51 (14 * 0)) := by rw [hcv]; exact wC
    have hw0 := wGt hCw
    have hL0 := yMk hLw
    have hk1 : M 46 0 = (sL σ).1 := by rw [← hl]; rfl
    have ht1 : M 46 1 = ct (sC σ) := by rw [← hcv]; rfl
    have hT1 := hT.1
    have hlx : lvM Mx = sL σ := by rw [lvM_fr (hfr _ _ (by omega) (by omega)) (fun k i a b => hfr k i (by omega) (by omega))]; exact hl
    have ecx : Mx 46 18 = 0 := by rw [hfr _ _ (by omega) (by omega)]; exact hcd
    refine zr_iload_n (pc := 23) dX11_years_23 rfl rfl ?_
    refine zr_iload_n (pc := 24) dX11_years_24 rfl rfl ?_
    refine zi_icmp_ge (pc := 25) (tgt := 152) dX11_years_25 (by decide) (by omega) (by omega) (fun h25 => ?_) (fun h25 => ?_)
    · refine zr_iload_n (pc := 152) dX11_years_152 rfl rfl ?_
      exact zr_ireturn (pc := 153) dX11_years_153 rfl (zq_eq (h Mx (fun k i a => hfr k i (by omega) (by omega)) (by
          unfold oYears
          rw [if_neg (by omega), ← hY, show (m - k).toNat = 0 by omega]
          exact RM_D hR hW (fun k i a b c => hfr k i (by unfold zsm at b; omega) (by omega)) rfl)) (by unfold oYears; rw [if_neg (by omega), ← hY, show (m - k).toNat = 0 by omega]; rfl))
    · rw [show (m - k).toNat = (m - (k + 1)).toNat + 1 by omega, yrL_s] at hY
      obtain ⟨v, ev⟩ : ∃ v, v = Mx 46 28 * 6364136223846793005 + 1442695040888963407 := ⟨_, rfl⟩
      have hsd : zx v = sdN (zx (Mx 46 28)) := by rw [ev]; exact sd_c rfl
      have hus := ush_in v
      have hyd : zl_ushr v 33 % 64 = yrD (sdN (zx (Mx 46 28))) := by
        unfold yrD
        rw [ush_c (b := sdN (zx (Mx 46 28))) (by rw [hsd]; unfold sdN; rw [zx_zx])]
      have hc1 : cvG (zm_put Mx 46 28 v) 51 (14 * 1) = cvG Mx 51 (14 * 1) := cvG_fr (put_ni _ _ (by decide)) (fun t => put_nk _ _ _ _ (by decide)) (fun i a b => put_nk _ _ _ _ (by decide)) (wGt hCx).2
      have hl1 : lvM (zm_put Mx 46 28 v) = sL σ := by rw [lvM_fr (put_ni _ _ (by decide)) (fun k i a b => put_nk _ _ _ _ (by omega)), hlx]
      have hC1 : CW (cvG (zm_put Mx 46 28 v) 51 (14 * 1)) := by rw [hc1]; exact hCx
      have ecd1 : zm_put Mx 46 28 v 46 18 = 0 := by rw [put_ni _ _ (by decide)]; exact ecx
      have hyr : 0 ≤ yrD (sdN (zx (Mx 46 28))) ∧ yrD (sdN (zx (Mx 46 28))) < 64 := by rw [← hyd]; omega
      refine zr_aload_n (pc := 28) dX11_years_28 rfl rfl ?_
      refine zr_aload_n (pc := 29) dX11_years_29 rfl rfl ?_
      refine zr_getL (pc := 30) (z := 28) fX11_268 lo_46 rfl rfl rfl dX11_years_30 ?_
      refine zr_ldc2 (pc := 33) (z := 6364136223846793005) rfl kX11_274 (by decide +kernel) dX11_years_33 ?_
      refine zr_lmul (pc := 36) dX11_years_36 ?_
      refine zr_ldc2 (pc := 37) (z := 1442695040888963407) rfl kX11_276 (by decide +kernel) dX11_years_37 ?_
      refine zr_ladd (pc := 40) dX11_years_40 ?_
      rw [← ev]
      refine zr_putL (pc := 41) (z := 28) fX11_268 lo_46 rfl fwX11_28 rfl rfl dX11_years_41 ?_
      refine zr_aload_n (pc := 44) dX11_years_44 rfl rfl ?_
      refine zr_getL (pc := 45) (z := 28) fX11_268 lo_46 rfl rfl rfl dX11_years_45 ?_
      rw [put_at]
      refine zr_bipush (pc := 48) dX11_years_48 (by decide) ?_
      refine zr_lushr (pc := 50) dX11_years_50 ?_
      refine zr_ldc2 (pc := 51) (z := 64) rfl kX11_278 (by decide +kernel) dX11_years_51 ?_
      refine zr_lrem (pc := 54) (by omega) (by omega) dX11_years_54 ?_
      refine zr_l2i (pc := 55) dX11_years_55 ?_
      rw [hyd]
      refine zr_istore (pc := 56) dX11_years_56 (Nat.le_of_ble_eq_true rfl) rfl ?_
      refine zr_iload (pc := 58) dX11_years_58 rfl ?_
      refine zr_bipush (pc := 60) dX11_years_60 (by decide) ?_
      refine zi_icmp_le (pc := 62) (tgt := 73) dX11_years_62 (by decide) (by omega) (by omega) (fun h62 => ?_) (fun h62 => ?_)
      · refine zr_iload (pc := 73) dX11_years_73 rfl ?_
        refine zr_bipush (pc := 75) dX11_years_75 (by decide) ?_
        refine zi_icmp_le (pc := 77) (tgt := 101) dX11_years_77 (by decide) (by omega) (by omega) (fun h77 => ?_) (fun h77 => ?_)
        · refine zr_iload (pc := 101) dX11_years_101 rfl ?_
          refine zr_bipush (pc := 103) dX11_years_103 (by decide) ?_
          refine zi_icmp_le (pc := 105) (tgt := 123) dX11_years_105 (by decide) (by omega) (by omega) (fun h105 => ?_) (fun h105 => ?_)
          · refine zr_aload_n (pc := 123) dX11_years_123 rfl rfl ?_
            refine zr_iconst (pc := 124) dX11_years_124 ?_
            refine zr_iload (pc := 125) dX11_years_125 rfl ?_
            refine zr_bipush (pc := 127) dX11_years_127 (by decide) ?_
            refine zr_idiv (pc := 129) (by omega) (by omega) dX11_years_129 ?_
            refine zr_iload (pc := 130) dX11_years_130 rfl ?_
            refine zr_bipush (pc := 132) dX11_years_132 (by decide) ?_
            refine zr_irem (pc := 134) (by omega) (by omega) dX11_years_134 ?_
            refine zr_inv3I (pc := 135) rfl sX11_238 lo_46 rfl rfl rfl dX11_years_135 ?_
            refine ct_X11_tryThing hC1 (by rw [hl1]; exact wL) ecd1 (by omega) (by omega) (by omega) (fun hz M2 hf2 hv2 => ?_) (fun D2 hz M2 hf2 hv2 => ?_)
            · rw [hl1, hc1] at hz
              have hv3 : cvG M2 51 (14 * 1) = doY (sL σ) (yrD (sdN (zx (Mx 46 28)))) (cvG Mx 51 (14 * 1)) := by
                unfold doT at hz
                unfold doY
                rw [if_neg (by decide), if_pos rfl] at hz
                rw [if_pos (by omega)]
                split at hz
                · cases hz
                · rename_i hx
                  rw [if_neg (hx), hv2 (by decide), hc1]
              have hdo := CW_doY (d := yrD (sdN (zx (Mx 46 28)))) wL hCx
              have hcw2 : CW (cvG M2 51 (14 * 1)) := by rw [hv3]; exact hdo.1
              refine zr_pop_i (pc := 138) dX11_years_138 ?_
              refine zr_iload_n (pc := 139) dX11_years_139 rfl rfl ?_
              refine zr_aload_n (pc := 140) dX11_years_140 rfl rfl ?_
              refine zr_inv0I (pc := 141) rfl sX11_280 lo_46 rfl rfl rfl dX11_years_141 ?_
              refine ct_X11_knownOfAll hcw2 ?_
              refine zr_iadd (pc := 144) dX11_years_144 ?_
              refine zr_istore_n (pc := 145) dX11_years_145 rfl (Nat.le_of_ble_eq_true rfl) rfl ?_
              refine zr_iinc (pc := 146) dX11_years_146 rfl (Nat.le_of_ble_eq_true rfl) rfl ?_
              refine zr_goto (pc := 149) (tgt := 23) dX11_years_149 (by decide) ?_
              exact ih _ (by omega) _ _ _ _ rfl (by omega) (by omega) (fun k i a b => by rw [hf2 k i (by omega), show zm_put Mx 46 28 v k i = Mx k i from if_neg (by omega)]; exact hfr k i a b) hcw2 (by rw [hf2 46 28 (by omega), put_at, hsd, hv3]; exact hY)
            · rw [hl1, hc1] at hz
              have hv3 : cvG M2 51 (14 * 1) = doY (sL σ) (yrD (sdN (zx (Mx 46 28)))) (cvG Mx 51 (14 * 1)) := by
                unfold doT at hz
                unfold doY
                rw [if_neg (by decide), if_pos rfl] at hz
                rw [if_pos (by omega)]
                split at hz
                · rename_i hx
                  cases hz
                  rw [if_pos (hx), hv2]
                · cases hz
              have hdo := CW_doY (d := yrD (sdN (zx (Mx 46 28)))) wL hCx
              have hcw2 : CW (cvG M2 51 (14 * 1)) := by rw [hv3]; exact hdo.1
              refine zr_pop_i (pc := 138) dX11_years_138 ?_
              refine zr_iload_n (pc := 139) dX11_years_139 rfl rfl ?_
              refine zr_aload_n (pc := 140) dX11_years_140 rfl rfl ?_
              refine zr_inv0I (pc := 141) rfl sX11_280 lo_46 rfl rfl rfl dX11_years_141 ?_
              refine ct_X11_knownOfAll hcw2 ?_
              refine zr_iadd (pc := 144) dX11_years_144 ?_
              refine zr_istore_n (pc := 145) dX11_years_145 rfl (Nat.le_of_ble_eq_true rfl) rfl ?_
              refine zr_iinc (pc := 146) dX11_years_146 rfl (Nat.le_of_ble_eq_true rfl) rfl ?_
              refine zr_goto (pc := 149) (tgt := 23) dX11_years_149 (by decide) ?_
              exact ih _ (by omega) _ _ _ _ rfl (by omega) (by omega) (fun k i a b => by rw [hf2 k i (by omega), show zm_put Mx 46 28 v k i = Mx k i from if_neg (by omega)]; exact hfr k i a b) hcw2 (by rw [hf2 46 28 (by omega), put_at, hsd, hv3]; exact hY)
          · refine zr_aload_n (pc := 108) dX11_years_108 rfl rfl ?_
            refine zr_iconst (pc := 109) dX11_years_109 ?_
            refine zr_iconst (pc := 110) dX11_years_110 ?_
            refine zr_iload (pc := 111) dX11_years_111 rfl ?_
            refine zr_bipush (pc := 113) dX11_years_113 (by decide) ?_
            refine zr_isub (pc := 115) dX11_years_115 ?_
            refine zr_inv3I (pc := 116) rfl sX11_238 lo_46 rfl rfl rfl dX11_years_116 ?_
            refine ct_X11_tryThing hC1 (by rw [hl1]; exact wL) ecd1 (by omega) (by omega) (by omega) (fun hz M2 hf2 hv2 => ?_) (fun D2 hz M2 hf2 hv2 => ?_)
            · rw [hl1, hc1] at hz
              have hv3 : cvG M2 51 (14 * 1) = doY (sL σ) (yrD (sdN (zx (Mx 46 28)))) (cvG Mx 51 (14 * 1)) := by
                unfold doT at hz
                unfold doY
                rw [if_neg (by decide), if_neg (by decide), if_neg (by decide), if_pos rfl] at hz
                rw [if_neg (by omega), if_pos (by omega)]
                split at hz
                · cases hz
                · rename_i hx
                  rw [if_neg (fun y => hx ⟨rfl, y⟩), hv2 (by decide), hc1]
              have hdo := CW_doY (d := yrD (sdN (zx (Mx 46 28)))) wL hCx
              have hcw2 : CW (cvG M2 51 (14 * 1)) := by rw [hv3]; exact hdo.1
              refine zr_pop_i (pc := 119) dX11_years_119 ?_
              refine zr_goto (pc := 120) (tgt := 139) dX11_years_120 (by decide) ?_
              refine zr_iload_n (pc := 139) dX11_years_139 rfl rfl ?_
              refine zr_aload_n (pc := 140) dX11_years_140 rfl rfl ?_
              refine zr_inv0I (pc := 141) rfl sX11_280 lo_46 rfl rfl rfl dX11_years_141 ?_
              refine ct_X11_knownOfAll hcw2 ?_
              refine zr_iadd (pc := 144) dX11_years_144 ?_
              refine zr_istore_n (pc := 145) dX11_years_145 rfl (Nat.le_of_ble_eq_true rfl) rfl ?_
              refine zr_iinc (pc := 146) dX11_years_146 rfl (Nat.le_of_ble_eq_true rfl) rfl ?_
              refine zr_goto (pc := 149) (tgt := 23) dX11_years_149 (by decide) ?_
              exact ih _ (by omega) _ _ _ _ rfl (by omega) (by omega) (fun k i a b => by rw [hf2 k i (by omega), show zm_put Mx 46 28 v k i = Mx k i from if_neg (by omega)]; exact hfr k i a b) hcw2 (by rw [hf2 46 28 (by omega), put_at, hsd, hv3]; exact hY)
            · rw [hl1, hc1] at hz
              have hv3 : cvG M2 51 (14 * 1) = doY (sL σ) (yrD (sdN (zx (Mx 46 28)))) (cvG Mx 51 (14 * 1)) := by
                unfold doT at hz
                unfold doY
                rw [if_neg (by decide), if_neg (by decide), if_neg (by decide), if_pos rfl] at hz
                rw [if_neg (by omega), if_pos (by omega)]
                split at hz
                · rename_i hx
                  cases hz
                  rw [if_pos (hx.2), hv2]
                · cases hz
              have hdo := CW_doY (d := yrD (sdN (zx (Mx 46 28)))) wL hCx
              have hcw2 : CW (cvG M2 51 (14 * 1)) := by rw [hv3]; exact hdo.1
              refine zr_pop_i (pc := 119) dX11_years_119 ?_
              refine zr_goto (pc := 120) (tgt := 139) dX11_years_120 (by decide) ?_
              refine zr_iload_n (pc := 139) dX11_years_139 rfl rfl ?_
              refine zr_aload_n (pc := 140) dX11_years_140 rfl rfl ?_
              refine zr_inv0I (pc := 141) rfl sX11_280 lo_46 rfl rfl rfl dX11_years_141 ?_
              refine ct_X11_knownOfAll hcw2 ?_
              refine zr_iadd (pc := 144) dX11_years_144 ?_
              refine zr_istore_n (pc := 145) dX11_years_145 rfl (Nat.le_of_ble_eq_true rfl) rfl ?_
              refine zr_iinc (pc := 146) dX11_years_146 rfl (Nat.le_of_ble_eq_true rfl) rfl ?_
              refine zr_goto (pc := 149) (tgt := 23) dX11_years_149 (by decide) ?_
              exact ih _ (by omega) _ _ _ _ rfl (by omega) (by omega) (fun k i a b => by rw [hf2 k i (by omega), show zm_put Mx 46 28 v k i = Mx k i from if_neg (by omega)]; exact hfr k i a b) hcw2 (by rw [hf2 46 28 (by omega), put_at, hsd, hv3]; exact hY)
        · refine zr_aload_n (pc := 80) dX11_years_80 rfl rfl ?_
          refine zr_iconst (pc := 81) dX11_years_81 ?_
          refine zr_iload (pc := 82) dX11_years_82 rfl ?_
          refine zr_bipush (pc := 84) dX11_years_84 (by decide) ?_
          refine zr_isub (pc := 86) dX11_years_86 ?_
          refine zr_iload (pc := 87) dX11_years_87 rfl ?_
          refine zr_bipush (pc := 89) dX11_years_89 (by decide) ?_
          refine zr_isub (pc := 91) dX11_years_91 ?_
          refine zr_iconst (pc := 92) dX11_years_92 ?_
          refine zr_irem (pc := 93) (by omega) (by omega) dX11_years_93 ?_
          refine zr_inv3I (pc := 94) rfl sX11_238 lo_46 rfl rfl rfl dX11_years_94 ?_
          refine ct_X11_tryThing hC1 (by rw [hl1]; exact wL) ecd1 (by omega) (by omega) (by omega) (fun hz M2 hf2 hv2 => ?_) (fun D2 hz M2 hf2 hv2 => ?_)
          · rw [hl1, hc1] at hz
            have hv3 : cvG M2 51 (14 * 1) = doY (sL σ) (yrD (sdN (zx (Mx 46 28)))) (cvG Mx 51 (14 * 1)) := by
              unfold doT at hz
              unfold doY
              rw [if_neg (by decide), if_neg (by decide), if_pos rfl] at hz
              rw [if_neg (by omega), if_neg (by omega), if_pos (by omega), show yrD (sdN (zx (Mx 46 28))) - 44 + 1 = yrD (sdN (zx (Mx 46 28))) - 43 by omega]
              split at hz
              · cases hz
              · rename_i hx
                rw [if_neg (hx), hv2 (by decide), hc1]
            have hdo := CW_doY (d := yrD (sdN (zx (Mx 46 28)))) wL hCx
            have hcw2 : CW (cvG M2 51 (14 * 1)) := by rw [hv3]; exact hdo.1
            refine zr_pop_i (pc := 97) dX11_years_97 ?_
            refine zr_goto (pc := 98) (tgt := 139) dX11_years_98 (by decide) ?_
            refine zr_iload_n (pc := 139) dX11_years_139 rfl rfl ?_
            refine zr_aload_n (pc := 140) dX11_years_140 rfl rfl ?_
            refine zr_inv0I (pc := 141) rfl sX11_280 lo_46 rfl rfl rfl dX11_years_141 ?_
            refine ct_X11_knownOfAll hcw2 ?_
            refine zr_iadd (pc := 144) dX11_years_144 ?_
            refine zr_istore_n (pc := 145) dX11_years_145 rfl (Nat.le_of_ble_eq_true rfl) rfl ?_
            refine zr_iinc (pc := 146) dX11_years_146 rfl (Nat.le_of_ble_eq_true rfl) rfl ?_
            refine zr_goto (pc := 149) (tgt := 23) dX11_years_149 (by decide) ?_
            exact ih _ (by omega) _ _ _ _ rfl (by omega) (by omega) (fun k i a b => by rw [hf2 k i (by omega), show zm_put Mx 46 28 v k i = Mx k i from if_neg (by omega)]; exact hfr k i a b) hcw2 (by rw [hf2 46 28 (by omega), put_at, hsd, hv3]; exact hY)
          · rw [hl1, hc1] at hz
            have hv3 : cvG M2 51 (14 * 1) = doY (sL σ) (yrD (sdN (zx (Mx 46 28)))) (cvG Mx 51 (14 * 1)) := by
              unfold doT at hz
              unfold doY
              rw [if_neg (by decide), if_neg (by decide), if_pos rfl] at hz
              rw [if_neg (by omega), if_neg (by omega), if_pos (by omega), show yrD (sdN (zx (Mx 46 28))) - 44 + 1 = yrD (sdN (zx (Mx 46 28))) - 43 by omega]
              split at hz
              · rename_i hx
                cases hz
                rw [if_pos (hx), hv2]
              · cases hz
            have hdo := CW_doY (d := yrD (sdN (zx (Mx 46 28)))) wL hCx
            have hcw2 : CW (cvG M2 51 (14 * 1)) := by rw [hv3]; exact hdo.1
            refine zr_pop_i (pc := 97) dX11_years_97 ?_
            refine zr_goto (pc := 98) (tgt := 139) dX11_years_98 (by decide) ?_
            refine zr_iload_n (pc := 139) dX11_years_139 rfl rfl ?_
            refine zr_aload_n (pc := 140) dX11_years_140 rfl rfl ?_
            refine zr_inv0I (pc := 141) rfl sX11_280 lo_46 rfl rfl rfl dX11_years_141 ?_
            refine ct_X11_knownOfAll hcw2 ?_
            refine zr_iadd (pc := 144) dX11_years_144 ?_
            refine zr_istore_n (pc := 145) dX11_years_145 rfl (Nat.le_of_ble_eq_true rfl) rfl ?_
            refine zr_iinc (pc := 146) dX11_years_146 rfl (Nat.le_of_ble_eq_true rfl) rfl ?_
            refine zr_goto (pc := 149) (tgt := 23) dX11_years_149 (by decide) ?_
            exact ih _ (by omega) _ _ _ _ rfl (by omega) (by omega) (fun k i a b => by rw [hf2 k i (by omega), show zm_put Mx 46 28 v k i = Mx k i from if_neg (by omega)]; exact hfr k i a b) hcw2 (by rw [hf2 46 28 (by omega), put_at, hsd, hv3]; exact hY)
      · refine zr_aload_n (pc := 65) dX11_years_65 rfl rfl ?_
        refine zr_iconst (pc := 66) dX11_years_66 ?_
        refine zr_inv1V (pc := 67) rfl sX11_167 lo_46 rfl rfl rfl dX11_years_67 ?_
        refine ct_X11_passOn (by decide) hC1 (by rw [hl1]; exact wL) (by rw [ecd1]; decide) (fun M2 hf2 hv2 => ?_)
        rw [hc1, hl1, ecd1] at hv2
        have hv3 : cvG M2 51 (14 * 1) = doY (sL σ) (yrD (sdN (zx (Mx 46 28)))) (cvG Mx 51 (14 * 1)) := by
          rw [hv2]
          unfold doY
          rw [if_neg (by omega), if_neg (by omega), if_neg (by omega)]
        have hdo := CW_doY (d := yrD (sdN (zx (Mx 46 28)))) wL hCx
        have hcw2 : CW (cvG M2 51 (14 * 1)) := by rw [hv3]; exact hdo.1
        refine zr_goto (pc := 70) (tgt := 139) dX11_years_70 (by decide) ?_
        refine zr_iload_n (pc := 139) dX11_years_139 rfl rfl ?_
        refine zr_aload_n (pc := 140) dX11_years_140 rfl rfl ?_
        refine zr_inv0I (pc := 141) rfl sX11_280 lo_46 rfl rfl rfl dX11_years_141 ?_
        refine ct_X11_knownOfAll hcw2 ?_
        refine zr_iadd (pc := 144) dX11_years_144 ?_
        refine zr_istore_n (pc := 145) dX11_years_145 rfl (Nat.le_of_ble_eq_true rfl) rfl ?_
        refine zr_iinc (pc := 146) dX11_years_146 rfl (Nat.le_of_ble_eq_true rfl) rfl ?_
        refine zr_goto (pc := 149) (tgt := 23) dX11_years_149 (by decide) ?_
        exact ih _ (by omega) _ _ _ _ rfl (by omega) (by omega) (fun k i a b => by rw [hf2 k i (by omega), show zm_put Mx 46 28 v k i = Mx k i from if_neg (by omega)]; exact hfr k i a b) hcw2 (by rw [hf2 46 28 (by omega), put_at, hsd, hv3]; exact hY)

set_option maxRecDepth 100000 in
set_option maxHeartbeats 4000000 in
theorem ct_X11_years {g : zt_G} {M : zm_M} {σ : Sg} {q : Int → zm_M → Prop} (hR : RM σ M) (hW : SW σ) {m : Int} (hm : zi m) (h : ∀ M2, frM M M2 → RM (oYears m σ).2 M2 → q (oYears m σ).1 M2) : zc_K g yX11_years mX11_years [zv_r 46, zv_i m] M (zq_I q) := by
  refine zc_of (ls := [some (zv_r 46), some (zv_i m), none, none, none]) (by decide) rfl ⟨rfl, rfl⟩ (Nat.le_of_ble_eq_true rfl) rfl ?_
  obtain ⟨hT, hl, hcv, hA, hK, hS, hD, hcd⟩ := id hR
  obtain ⟨wT, wTx, wL, ⟨wC, wZ⟩, wA, wK, wS⟩ := id hW
  have hLw : LW (lvM M) := by rw [hl]; exact wL
  have hCw : CW (cvG M 51 (14 * 0)) := by rw [hcv]; exact wC
  have hw0 := wGt hCw
  have hL0 := yMk hLw
  have hk1 : M 46 0 = (sL σ).1 := by rw [← hl]; rfl
  have ht1 : M 46 1 = ct (sC σ) := by rw [← hcv]; rfl
  have hT1 := hT.1
  refine zr_iload_n (pc := 0) dX11_years_0 rfl rfl ?_
  refine zr_i2l (pc := 1) dX11_years_1 ?_
  refine zr_lconst (pc := 2) (z := 1) dX11_years_2 (by decide +kernel) ?_
  refine zr_ldc2 (pc := 3) (z := 30) rfl kX11_272 (by decide +kernel) dX11_years_3 ?_
  refine zr_stat3I (pc := 6) rfl sX11_61 rfl rfl dX11_years_6 ?_
  refine in_i hm (by omega) (by omega) ?_
  refine zr_ifb_ne (pc := 9) (tgt := 15) dX11_years_9 (by decide) (fun h9 => ?_) (fun h9 => ?_)
  · refine zr_aload_n (pc := 15) dX11_years_15 rfl rfl ?_
    refine zr_inv0V (pc := 16) rfl sX11_195 lo_46 rfl rfl rfl dX11_years_16 ?_
    refine ct_X11_layTrial hw0.2 (fun M1 hf1 hv1 => ?_)
    rw [hcv] at hv1
    refine zr_iconst (pc := 19) dX11_years_19 ?_
    refine zr_istore_n (pc := 20) dX11_years_20 rfl (Nat.le_of_ble_eq_true rfl) rfl ?_
    refine zr_iconst (pc := 21) dX11_years_21 ?_
    refine zr_istore_n (pc := 22) dX11_years_22 rfl (Nat.le_of_ble_eq_true rfl) rfl ?_
    exact lp_X11_years (g := g) hR hW (by omega) h _ _ _ _ M1 rfl (by omega) (by omega) (fun k i a b => hf1 k i (by omega)) (by rw [hv1]; exact wC) (by rw [hv1, hf1 46 28 (by omega), hD, Int.sub_zero])
  · refine zr_bipush (pc := 12) dX11_years_12 (by decide) ?_
    exact zr_ireturn (pc := 14) dX11_years_14 rfl (zq_eq (h M (fun _ _ _ => rfl) (by unfold oYears; rw [if_pos (by omega)]; exact hR)) (by unfold oYears; rw [if_pos (by omega)]))

