set_option maxRecDepth 100000 in
set_option maxHeartbeats 4000000 in
theorem lp_X11_takeOn2 {g : zt_G} {M : zm_M} {q : zm_M → Prop} {l : Int} (hl : 0 ≤ l ∧ l ≤ 1) (hw : CW (cvG M 51 (14 * l))) (hL : LW (lvM M)) {t : Int} (ht : 0 ≤ t ∧ t < M 46 1) {k : Int} (hk : 0 ≤ k ∧ k < M 46 0) (h : ∀ M2, frW l M M2 → cvG M2 51 (14 * l) = lie (lvM M) k t (cvG M 51 (14 * l)) → q M2) {s : Int} (hs : s = tkL ((lvM M).2.2.2 k) ((lvM M).2.2.1 k).toNat 0 (app (ck (cvG M 51 (14 * l)) t)) (cn (cvG M 51 (14 * l)) t)) {x5 x6 : Int} {x7 : Option zv_A} : zc_Z g mX11_takeOn 164 [some (zv_r 46), some (zv_i l), some (zv_i t), some (zv_i (14 * l)), some (zv_i k), some (zv_i x5), some (zv_i x6), x7] [] (zm_put M 51 (14 * l + 4 + t) s) (zq_V q) := by
  have hw1 := wGt hw
  have hw2 := wG hw ht
  refine zr_aload_n (pc := 164) dX11_takeOn_164 rfl rfl ?_
  refine zr_getR (pc := 165) fX11_22 lo_46 rfl rfl dX11_takeOn_165 ?_
  refine zr_iload_n (pc := 168) dX11_takeOn_168 rfl rfl ?_
  refine zr_bipush (pc := 169) dX11_takeOn_169 (by decide) ?_
  refine zr_iadd (pc := 171) dX11_takeOn_171 ?_
  refine zr_iload_n (pc := 172) dX11_takeOn_172 rfl rfl ?_
  refine zr_iadd (pc := 173) dX11_takeOn_173 ?_
  refine zr_iaload (pc := 174) lo_51 (by omega) dX11_takeOn_174 ?_
  refine zr_aload_n (pc := 175) dX11_takeOn_175 rfl rfl ?_
  refine zr_getR (pc := 176) fX11_19 lo_46 rfl rfl dX11_takeOn_176 ?_
  rw [put_ni M (k2 := 51) (j := 14 * l + 8 + t) s (by omega)]
  refine zr_iload_n (pc := 179) dX11_takeOn_179 rfl rfl ?_
  refine zr_iaload (pc := 180) lo_50 (by omega) dX11_takeOn_180 ?_
  rw [put_nk M (k2 := 50) _ _ _ (by decide)]
  refine zr_iconst (pc := 181) dX11_takeOn_181 ?_
  refine zi_icmp_ne (pc := 182) (tgt := 189) dX11_takeOn_182 (by decide) (by omega) (by omega) (fun h182 => ?_) (fun h182 => ?_)
  · refine zr_iconst (pc := 189) dX11_takeOn_189 ?_
    refine zr_iadd (pc := 190) dX11_takeOn_190 ?_
    refine zr_istore (pc := 191) dX11_takeOn_191 (Nat.le_of_ble_eq_true rfl) rfl ?_
    refine zr_aload_n (pc := 193) dX11_takeOn_193 rfl rfl ?_
    refine zr_getR (pc := 194) fX11_22 lo_46 rfl rfl dX11_takeOn_194 ?_
    refine zr_iload_n (pc := 197) dX11_takeOn_197 rfl rfl ?_
    refine zr_bipush (pc := 198) dX11_takeOn_198 (by decide) ?_
    refine zr_iadd (pc := 200) dX11_takeOn_200 ?_
    refine zr_iload_n (pc := 201) dX11_takeOn_201 rfl rfl ?_
    refine zr_iadd (pc := 202) dX11_takeOn_202 ?_
    refine zr_iload (pc := 203) dX11_takeOn_203 rfl ?_
    refine zr_bipush (pc := 205) dX11_takeOn_205 (by decide) ?_
    refine zi_icmp_le (pc := 207) (tgt := 215) dX11_takeOn_207 (by decide) (by omega) (by omega) (fun h207 => ?_) (fun h207 => ?_)
    · refine zr_iload (pc := 215) dX11_takeOn_215 rfl ?_
      refine zr_iastore (pc := 217) lo_51 (by omega) dX11_takeOn_217 ?_
      exact zr_return (pc := 218) dX11_takeOn_218 rfl (h _ ((frW.rf.put _ _ (by omega)).put _ _ (by omega)) (by
          rw [cvG_wh (t := t) (by rw [put_nk _ _ _ _ (by decide)]; exact ht) (by rw [put_nk _ _ _ _ (by decide)]; exact hw1.2) rfl, cvG_kn ht hw1.2 rfl]
          unfold lie
          rw [← hs, vG_h (M := M) ht rfl, vG_k (M := M) ht, if_neg h182, (show (if M 51 (14 * l + 8 + t) + 1 < 9 then M 51 (14 * l + 8 + t) + 1 else 9) = M 51 (14 * l + 8 + t) + 1 by split <;> omega)]))
    · refine zr_bipush (pc := 210) dX11_takeOn_210 (by decide) ?_
      refine zr_goto (pc := 212) (tgt := 217) dX11_takeOn_212 (by decide) ?_
      refine zr_iastore (pc := 217) lo_51 (by omega) dX11_takeOn_217 ?_
      exact zr_return (pc := 218) dX11_takeOn_218 rfl (h _ ((frW.rf.put _ _ (by omega)).put _ _ (by omega)) (by
          rw [cvG_wh (t := t) (by rw [put_nk _ _ _ _ (by decide)]; exact ht) (by rw [put_nk _ _ _ _ (by decide)]; exact hw1.2) rfl, cvG_kn ht hw1.2 rfl]
          unfold lie
          rw [← hs, vG_h (M := M) ht rfl, vG_k (M := M) ht, if_neg h182, (show (if M 51 (14 * l + 8 + t) + 1 < 9 then M 51 (14 * l + 8 + t) + 1 else 9) = 9 by split <;> omega)]))
  · refine zr_iconst (pc := 185) dX11_takeOn_185 ?_
    refine zr_goto (pc := 186) (tgt := 190) dX11_takeOn_186 (by decide) ?_
    refine zr_iadd (pc := 190) dX11_takeOn_190 ?_
    refine zr_istore (pc := 191) dX11_takeOn_191 (Nat.le_of_ble_eq_true rfl) rfl ?_
    refine zr_aload_n (pc := 193) dX11_takeOn_193 rfl rfl ?_
    refine zr_getR (pc := 194) fX11_22 lo_46 rfl rfl dX11_takeOn_194 ?_
    refine zr_iload_n (pc := 197) dX11_takeOn_197 rfl rfl ?_
    refine zr_bipush (pc := 198) dX11_takeOn_198 (by decide) ?_
    refine zr_iadd (pc := 200) dX11_takeOn_200 ?_
    refine zr_iload_n (pc := 201) dX11_takeOn_201 rfl rfl ?_
    refine zr_iadd (pc := 202) dX11_takeOn_202 ?_
    refine zr_iload (pc := 203) dX11_takeOn_203 rfl ?_
    refine zr_bipush (pc := 205) dX11_takeOn_205 (by decide) ?_
    refine zi_icmp_le (pc := 207) (tgt := 215) dX11_takeOn_207 (by decide) (by omega) (by omega) (fun h207 => ?_) (fun h207 => ?_)
    · refine zr_iload (pc := 215) dX11_takeOn_215 rfl ?_
      refine zr_iastore (pc := 217) lo_51 (by omega) dX11_takeOn_217 ?_
      exact zr_return (pc := 218) dX11_takeOn_218 rfl (h _ ((frW.rf.put _ _ (by omega)).put _ _ (by omega)) (by
          rw [cvG_wh (t := t) (by rw [put_nk _ _ _ _ (by decide)]; exact ht) (by rw [put_nk _ _ _ _ (by decide)]; exact hw1.2) rfl, cvG_kn ht hw1.2 rfl]
          unfold lie
          rw [← hs, vG_h (M := M) ht rfl, vG_k (M := M) ht, if_pos h182, (show (if M 51 (14 * l + 8 + t) + 2 < 9 then M 51 (14 * l + 8 + t) + 2 else 9) = M 51 (14 * l + 8 + t) + 2 by split <;> omega)]))
    · refine zr_bipush (pc := 210) dX11_takeOn_210 (by decide) ?_
      refine zr_goto (pc := 212) (tgt := 217) dX11_takeOn_212 (by decide) ?_
      refine zr_iastore (pc := 217) lo_51 (by omega) dX11_takeOn_217 ?_
      exact zr_return (pc := 218) dX11_takeOn_218 rfl (h _ ((frW.rf.put _ _ (by omega)).put _ _ (by omega)) (by
          rw [cvG_wh (t := t) (by rw [put_nk _ _ _ _ (by decide)]; exact ht) (by rw [put_nk _ _ _ _ (by decide)]; exact hw1.2) rfl, cvG_kn ht hw1.2 rfl]
          unfold lie
          rw [← hs, vG_h (M := M) ht rfl, vG_k (M := M) ht, if_pos h182, (show (if M 51 (14 * l + 8 + t) + 2 < 9 then M 51 (14 * l + 8 + t) + 2 else 9) = 9 by split <;> omega)]))

theorem tkL_s2 (ly : Int → Int) (n : Nat) (k left s : Int) (h : 0 < left) (hs : 0 ≤ s ∧ s < 64) (hl : 0 ≤ ly k ∧ ly k < 6) : tkL ly (n + 1) k left s = tkL ly n (k + 1) (left - (if bt s (ly k) = true then 0 else 1)) (zb_or s (zb_shl 1 (ly k))) := by
  rw [show tkL ly (n + 1) k left s = if 0 < left then (if bt s (ly k) = true then tkL ly n (k + 1) left s else tkL ly n (k + 1) (left - 1) (zb_or s (zb_shl 1 (ly k)))) else s from rfl, if_pos h]
  by_cases hb : bt s (ly k) = true
  · rw [if_pos hb, if_pos hb, orb hs hl hb, Int.sub_zero]
  · rw [if_neg hb, if_neg hb]
set_option maxRecDepth 100000 in
set_option maxHeartbeats 4000000 in
theorem lp_X11_takeOn {g : zt_G} {M : zm_M} {q : zm_M → Prop} {l : Int} (hl : 0 ≤ l ∧ l ≤ 1) (hw : CW (cvG M 51 (14 * l))) (hL : LW (lvM M)) {t : Int} (ht : 0 ≤ t ∧ t < M 46 1) {k : Int} (hk : 0 ≤ k ∧ k < M 46 0) (h : ∀ M2, frW l M M2 → cvG M2 51 (14 * l) = lie (lvM M) k t (cvG M 51 (14 * l)) → q M2) : ∀ (nn : Nat) (f d s : Int) (x7 : Option zv_A), (M 48 k - d).toNat = nn → 0 ≤ d → d ≤ M 48 k → 0 ≤ f → f ≤ 4 → (0 ≤ s ∧ s < 64) → tkL ((lvM M).2.2.2 k) (M 48 k - d).toNat d f s = tkL ((lvM M).2.2.2 k) ((lvM M).2.2.1 k).toNat 0 (app (ck (cvG M 51 (14 * l)) t)) (cn (cvG M 51 (14 * l)) t) → zc_Z g mX11_takeOn 82 [some (zv_r 46), some (zv_i l), some (zv_i t), some (zv_i (14 * l)), some (zv_i k), some (zv_i f), some (zv_i d), x7] [] (zm_put M 51 (14 * l + 4 + t) s) (zq_V q) := by
  intro nn
  induction nn using Nat.strongRecOn with
  | ind nn ih =>
    intro f d s x7 hn h0 h1 hf0 hf4 hs hT
    have hw1 := wGt hw
    have hw2 := wG hw ht
    have hk4 := yMk hL
    have hd := yM hL hk
    have e48 : zm_put M 51 (14 * l + 4 + t) s 48 k = M 48 k := put_nk _ _ _ _ (by decide)
    refine zr_iload (pc := 82) dX11_takeOn_82 rfl ?_
    refine zr_aload_n (pc := 84) dX11_takeOn_84 rfl rfl ?_
    refine zr_getR (pc := 85) fX11_13 lo_46 rfl rfl dX11_takeOn_85 ?_
    refine zr_iload (pc := 88) dX11_takeOn_88 rfl ?_
    refine zr_iaload (pc := 90) lo_48 (by omega) dX11_takeOn_90 ?_
    rw [e48]
    refine zi_icmp_ge (pc := 91) (tgt := 164) dX11_takeOn_91 (by decide) (by omega) (by omega) (fun h91 => ?_) (fun h91 => ?_)
    · exact lp_X11_takeOn2 (g := g) hl hw hL ht hk h (by rw [← hT, show (M 48 k - d).toNat = 0 by omega]; rfl)
    · refine zr_iload (pc := 94) dX11_takeOn_94 rfl ?_
      refine zi_if_le (pc := 96) (tgt := 164) dX11_takeOn_96 (by decide) (by omega) (fun h96 => ?_) (fun h96 => ?_)
      · exact lp_X11_takeOn2 (g := g) hl hw hL ht hk h (by rw [← hT, show (M 48 k - d).toNat = (M 48 k - (d + 1)).toNat + 1 by omega]; unfold tkL; rw [if_neg (by omega)])
      · have hy := yMl hL hk ⟨h0, h91⟩
        have hy2 : (lvM M).2.2.2 k d = M 49 (4 * k + d) := lM_y hk ⟨h0, h91⟩
        rw [show (M 48 k - d).toNat = (M 48 k - (d + 1)).toNat + 1 by omega, tkL_s2 _ _ _ _ _ h96 hs (by rw [hy2]; omega), hy2] at hT
        have e49 : zm_put M 51 (14 * l + 4 + t) s 49 (4 * k + d) = M 49 (4 * k + d) := put_nk _ _ _ _ (by decide)
        refine zr_aload_n (pc := 99) dX11_takeOn_99 rfl rfl ?_
        refine zr_getR (pc := 100) fX11_16 lo_46 rfl rfl dX11_takeOn_100 ?_
        refine zr_iconst (pc := 103) dX11_takeOn_103 ?_
        refine zr_iload (pc := 104) dX11_takeOn_104 rfl ?_
        refine zr_imul (pc := 106) dX11_takeOn_106 ?_
        refine zr_iload (pc := 107) dX11_takeOn_107 rfl ?_
        refine zr_iadd (pc := 109) dX11_takeOn_109 ?_
        refine zr_iaload (pc := 110) lo_49 (by omega) dX11_takeOn_110 ?_
        rw [e49]
        refine zr_istore (pc := 111) dX11_takeOn_111 (Nat.le_of_ble_eq_true rfl) rfl ?_
        refine zr_iload (pc := 113) dX11_takeOn_113 rfl ?_
        refine zr_aload_n (pc := 115) dX11_takeOn_115 rfl rfl ?_
        refine zr_getR (pc := 116) fX11_22 lo_46 rfl rfl dX11_takeOn_116 ?_
        refine zr_iload_n (pc := 119) dX11_takeOn_119 rfl rfl ?_
        refine zr_iconst (pc := 120) dX11_takeOn_120 ?_
        refine zr_iadd (pc := 121) dX11_takeOn_121 ?_
        refine zr_iload_n (pc := 122) dX11_takeOn_122 rfl rfl ?_
        refine zr_iadd (pc := 123) dX11_takeOn_123 ?_
        refine zr_iaload (pc := 124) lo_51 (by omega) dX11_takeOn_124 ?_
        rw [put_at]
        refine zr_iload (pc := 125) dX11_takeOn_125 rfl ?_
        refine zr_stat2I (pc := 127) rfl sX11_75 rfl rfl dX11_takeOn_127 ?_
        refine ct_X11_has (by omega) (by omega) ?_
        refine zr_ifb_eq (pc := 130) (tgt := 137) dX11_takeOn_130 (by decide) (fun h130 => ?_) (fun h130 => ?_)
        · rw [if_neg h130] at hT
          refine zr_iconst (pc := 137) dX11_takeOn_137 ?_
          refine zr_isub (pc := 138) dX11_takeOn_138 ?_
          refine zr_istore (pc := 139) dX11_takeOn_139 (Nat.le_of_ble_eq_true rfl) rfl ?_
          refine zr_aload_n (pc := 141) dX11_takeOn_141 rfl rfl ?_
          refine zr_getR (pc := 142) fX11_22 lo_46 rfl rfl dX11_takeOn_142 ?_
          refine zr_iload_n (pc := 145) dX11_takeOn_145 rfl rfl ?_
          refine zr_iconst (pc := 146) dX11_takeOn_146 ?_
          refine zr_iadd (pc := 147) dX11_takeOn_147 ?_
          refine zr_iload_n (pc := 148) dX11_takeOn_148 rfl rfl ?_
          refine zr_iadd (pc := 149) dX11_takeOn_149 ?_
          refine zr_dup2_ir (pc := 150) dX11_takeOn_150 ?_
          refine zr_iaload (pc := 151) lo_51 (by omega) dX11_takeOn_151 ?_
          rw [put_at]
          refine zr_iconst (pc := 152) dX11_takeOn_152 ?_
          refine zr_iload (pc := 153) dX11_takeOn_153 rfl ?_
          refine zr_ishl (pc := 155) dX11_takeOn_155 ?_
          refine zr_ior (pc := 156) dX11_takeOn_156 ?_
          refine zr_iastore (pc := 157) lo_51 (by omega) dX11_takeOn_157 ?_
          rw [put_put]
          refine zr_iinc (pc := 158) dX11_takeOn_158 rfl (Nat.le_of_ble_eq_true rfl) rfl ?_
          refine zr_goto (pc := 161) (tgt := 82) dX11_takeOn_161 (by decide) ?_
          exact ih _ (by omega) _ _ _ _ rfl (by omega) (by omega) (by omega) (by omega) (or6 hs (by omega)) hT
        · rw [if_pos h130] at hT
          refine zr_iconst (pc := 133) dX11_takeOn_133 ?_
          refine zr_goto (pc := 134) (tgt := 138) dX11_takeOn_134 (by decide) ?_
          refine zr_isub (pc := 138) dX11_takeOn_138 ?_
          refine zr_istore (pc := 139) dX11_takeOn_139 (Nat.le_of_ble_eq_true rfl) rfl ?_
          refine zr_aload_n (pc := 141) dX11_takeOn_141 rfl rfl ?_
          refine zr_getR (pc := 142) fX11_22 lo_46 rfl rfl dX11_takeOn_142 ?_
          refine zr_iload_n (pc := 145) dX11_takeOn_145 rfl rfl ?_
          refine zr_iconst (pc := 146) dX11_takeOn_146 ?_
          refine zr_iadd (pc := 147) dX11_takeOn_147 ?_
          refine zr_iload_n (pc := 148) dX11_takeOn_148 rfl rfl ?_
          refine zr_iadd (pc := 149) dX11_takeOn_149 ?_
          refine zr_dup2_ir (pc := 150) dX11_takeOn_150 ?_
          refine zr_iaload (pc := 151) lo_51 (by omega) dX11_takeOn_151 ?_
          rw [put_at]
          refine zr_iconst (pc := 152) dX11_takeOn_152 ?_
          refine zr_iload (pc := 153) dX11_takeOn_153 rfl ?_
          refine zr_ishl (pc := 155) dX11_takeOn_155 ?_
          refine zr_ior (pc := 156) dX11_takeOn_156 ?_
          refine zr_iastore (pc := 157) lo_51 (by omega) dX11_takeOn_157 ?_
          rw [put_put]
          refine zr_iinc (pc := 158) dX11_takeOn_158 rfl (Nat.le_of_ble_eq_true rfl) rfl ?_
          refine zr_goto (pc := 161) (tgt := 82) dX11_takeOn_161 (by decide) ?_
          exact ih _ (by omega) _ _ _ _ rfl (by omega) (by omega) (by omega) (by omega) (or6 hs (by omega)) hT

set_option maxRecDepth 100000 in
set_option maxHeartbeats 4000000 in
theorem ct_X11_takeOn {g : zt_G} {M : zm_M} {q : zm_M → Prop} {l : Int} (hl : 0 ≤ l ∧ l ≤ 1) (hw : CW (cvG M 51 (14 * l))) (hL : LW (lvM M)) {t : Int} (ht : 0 ≤ t ∧ t < M 46 1) (hcd : 0 ≤ M 46 18 ∧ M 46 18 < 16) (h : ∀ M2, frW l M M2 → cvG M2 51 (14 * l) = n1 (lvM M) (M 46 18) t (cvG M 51 (14 * l)) → q M2) : zc_K g yX11_takeOn mX11_takeOn [zv_r 46, zv_i l, zv_i t] M (zq_V q) := by
  refine zc_of (ls := [some (zv_r 46), some (zv_i l), some (zv_i t), none, none, none, none, none]) (by decide) rfl ⟨rfl, rfl⟩ (Nat.le_of_ble_eq_true rfl) rfl ?_
  have hw1 := wGt hw
  have hw2 := wG hw ht
  have hp := vG_p (M := M) (a := 51) (b := 14 * l) ht rfl
  have hki := kiA_in (lvM M) (M 51 (14 * l + t)) (yMk hL).1
  have hk4 := yMk hL
  have e0 : (lvM M).1 = M 46 0 := rfl
  refine zr_bipush (pc := 0) dX11_takeOn_0 (by decide) ?_
  refine zr_iload_n (pc := 2) dX11_takeOn_2 rfl rfl ?_
  refine zr_imul (pc := 3) dX11_takeOn_3 ?_
  refine zr_istore_n (pc := 4) dX11_takeOn_4 rfl (Nat.le_of_ble_eq_true rfl) rfl ?_
  refine zr_aload_n (pc := 5) dX11_takeOn_5 rfl rfl ?_
  refine zr_aload_n (pc := 6) dX11_takeOn_6 rfl rfl ?_
  refine zr_getR (pc := 7) fX11_22 lo_46 rfl rfl dX11_takeOn_7 ?_
  refine zr_iload_n (pc := 10) dX11_takeOn_10 rfl rfl ?_
  refine zr_iload_n (pc := 11) dX11_takeOn_11 rfl rfl ?_
  refine zr_iadd (pc := 12) dX11_takeOn_12 ?_
  refine zr_iaload (pc := 13) lo_51 (by omega) dX11_takeOn_13 ?_
  refine zr_inv1I (pc := 14) rfl sX11_118 lo_46 rfl rfl rfl dX11_takeOn_14 ?_
  refine ct_X11_kilnOf hL (by omega) ?_
  refine zr_istore (pc := 17) dX11_takeOn_17 (Nat.le_of_ble_eq_true rfl) rfl ?_
  refine zr_aload_n (pc := 19) dX11_takeOn_19 rfl rfl ?_
  refine zr_iload_n (pc := 20) dX11_takeOn_20 rfl rfl ?_
  refine zr_iload_n (pc := 21) dX11_takeOn_21 rfl rfl ?_
  refine zr_inv2I (pc := 22) rfl sX11_122 lo_46 rfl rfl rfl dX11_takeOn_22 ?_
  refine ct_X11_isHummock hl hw ht ?_
  refine zr_ifb_ne (pc := 25) (tgt := 47) dX11_takeOn_25 (by decide) (fun h25 => ?_) (fun h25 => ?_)
  · exact zr_return (pc := 47) dX11_takeOn_47 rfl (h M frW.rf (by unfold n1; rw [hp, if_pos (Or.inr (Or.inr h25))]))
  · refine zr_iload (pc := 28) dX11_takeOn_28 rfl ?_
    refine zr_bipush (pc := 30) dX11_takeOn_30 (by decide) ?_
    refine zi_icmp_eq (pc := 32) (tgt := 47) dX11_takeOn_32 (by decide) (by omega) (by omega) (fun h32 => ?_) (fun h32 => ?_)
    · exact zr_return (pc := 47) dX11_takeOn_47 rfl (h M frW.rf (by unfold n1; rw [hp, if_pos (Or.inl h32)]))
    · refine zr_aload_n (pc := 35) dX11_takeOn_35 rfl rfl ?_
      refine zr_getI (pc := 36) (z := 18) fX11_125 lo_46 rfl rfl rfl dX11_takeOn_36 ?_
      refine zr_iload (pc := 39) dX11_takeOn_39 rfl ?_
      refine zr_stat2I (pc := 41) rfl sX11_75 rfl rfl dX11_takeOn_41 ?_
      refine ct_X11_has (by omega) (by omega) ?_
      refine zr_ifb_eq (pc := 44) (tgt := 48) dX11_takeOn_44 (by decide) (fun h44 => ?_) (fun h44 => ?_)
      · have hk : 0 ≤ kiA (lvM M) (M 51 (14 * l + t)) ∧ kiA (lvM M) (M 51 (14 * l + t)) < M 46 0 := by omega
        have hdk := yM hL hk
        have hkk := vG_k (M := M) (a := 51) (b := 14 * l) ht
        have hkn := vG_n (M := M) (a := 51) (b := 14 * l) ht rfl
        have h2 : ∀ M2, frW l M M2 → cvG M2 51 (14 * l) = lie (lvM M) (kiA (lvM M) (M 51 (14 * l + t))) t (cvG M 51 (14 * l)) → q M2 := fun M2 f1 f2 => h M2 f1 (by
          rw [f2]
          unfold n1
          rw [hp, if_neg (by
            rintro (y | y | y)
            · exact h32 y
            · exact h44 y
            · exact h25 y)])
        refine zr_aload_n (pc := 48) dX11_takeOn_48 rfl rfl ?_
        refine zr_getR (pc := 49) fX11_19 lo_46 rfl rfl dX11_takeOn_49 ?_
        refine zr_iload_n (pc := 52) dX11_takeOn_52 rfl rfl ?_
        refine zr_iaload (pc := 53) lo_50 (by omega) dX11_takeOn_53 ?_
        refine zr_iconst (pc := 54) dX11_takeOn_54 ?_
        refine zi_icmp_ne (pc := 55) (tgt := 62) dX11_takeOn_55 (by decide) (by omega) (by omega) (fun h55 => ?_) (fun h55 => ?_)
        · refine zr_aload_n (pc := 62) dX11_takeOn_62 rfl rfl ?_
          refine zr_getR (pc := 63) fX11_19 lo_46 rfl rfl dX11_takeOn_63 ?_
          refine zr_iload_n (pc := 66) dX11_takeOn_66 rfl rfl ?_
          refine zr_iaload (pc := 67) lo_50 (by omega) dX11_takeOn_67 ?_
          refine zr_iconst (pc := 68) dX11_takeOn_68 ?_
          refine zi_icmp_ne (pc := 69) (tgt := 76) dX11_takeOn_69 (by decide) (by omega) (by omega) (fun h69 => ?_) (fun h69 => ?_)
          · refine zr_iconst (pc := 76) dX11_takeOn_76 ?_
            refine zr_istore (pc := 77) dX11_takeOn_77 (Nat.le_of_ble_eq_true rfl) rfl ?_
            refine zr_iconst (pc := 79) dX11_takeOn_79 ?_
            refine zr_istore (pc := 80) dX11_takeOn_80 (Nat.le_of_ble_eq_true rfl) rfl ?_
            have key := lp_X11_takeOn (g := g) hl hw hL ht hk h2 _ 1 0 (M 51 (14 * l + 4 + t)) none rfl (by omega) (by omega) (by omega) (by omega) (by omega) (by
              rw [lM_d hk, hkk, hkn, Int.sub_zero]
              unfold app
              rw [if_neg h69, if_neg h55])
            rw [put_self] at key
            exact key
          · refine zr_iconst (pc := 72) dX11_takeOn_72 ?_
            refine zr_goto (pc := 73) (tgt := 77) dX11_takeOn_73 (by decide) ?_
            refine zr_istore (pc := 77) dX11_takeOn_77 (Nat.le_of_ble_eq_true rfl) rfl ?_
            refine zr_iconst (pc := 79) dX11_takeOn_79 ?_
            refine zr_istore (pc := 80) dX11_takeOn_80 (Nat.le_of_ble_eq_true rfl) rfl ?_
            have key := lp_X11_takeOn (g := g) hl hw hL ht hk h2 _ 2 0 (M 51 (14 * l + 4 + t)) none rfl (by omega) (by omega) (by omega) (by omega) (by omega) (by
              rw [lM_d hk, hkk, hkn, Int.sub_zero]
              unfold app
              rw [if_pos h69])
            rw [put_self] at key
            exact key
        · refine zr_iconst (pc := 58) dX11_takeOn_58 ?_
          refine zr_goto (pc := 59) (tgt := 77) dX11_takeOn_59 (by decide) ?_
          refine zr_istore (pc := 77) dX11_takeOn_77 (Nat.le_of_ble_eq_true rfl) rfl ?_
          refine zr_iconst (pc := 79) dX11_takeOn_79 ?_
          refine zr_istore (pc := 80) dX11_takeOn_80 (Nat.le_of_ble_eq_true rfl) rfl ?_
          have key := lp_X11_takeOn (g := g) hl hw hL ht hk h2 _ 4 0 (M 51 (14 * l + 4 + t)) none rfl (by omega) (by omega) (by omega) (by omega) (by omega) (by
            rw [lM_d hk, hkk, hkn, Int.sub_zero]
            unfold app
            rw [if_neg (by omega), if_pos h55]; exact tkL_big _ _ _ _ _ (by omega) (by omega))
          rw [put_self] at key
          exact key
      · exact zr_return (pc := 47) dX11_takeOn_47 rfl (h M frW.rf (by unfold n1; rw [hp, if_pos (Or.inr (Or.inl h44))]))

set_option maxRecDepth 100000 in
set_option maxHeartbeats 4000000 in
theorem lp_X11_knownAt {g : zt_G} {M : zm_M} {q : Int → zm_M → Prop} {l : Int} (hl : 0 ≤ l ∧ l ≤ 1) (hw : CW (cvG M 51 (14 * l))) {p : Int} (hp : zi p) (h : q (kAt (cvG M 51 (14 * l)) p) M) : ∀ (nn : Nat) (b t : Int), (M 46 1 - t).toNat = nn → 0 ≤ t → t ≤ M 46 1 → b = fo (fun t b => if cp (cvG M 51 (14 * l)) t = p then zb_or b (cn (cvG M 51 (14 * l)) t) else b) 0 t.toNat → zc_Z g mX11_knownAt 5 [some (zv_r 46), some (zv_i l), some (zv_i p), some (zv_i b), some (zv_i t)] [] M (zq_I q) := by
  intro nn
  induction nn using Nat.strongRecOn with
  | ind nn ih =>
    intro b t hn h0 h1 hb
    have hw1 := wGt hw
    have hbi : 0 ≤ b ∧ b < 64 := by
      rw [hb]
      refine fo_p (P := fun b : Int => 0 ≤ b ∧ b < 64) ⟨by decide, by decide⟩ (fun i b _ _ hb => ?_)
      split
      · exact oo6 hb (hw.2.2 i).2.2.1
      · exact hb
    refine zr_iload (pc := 5) dX11_knownAt_5 rfl ?_
    refine zr_aload_n (pc := 7) dX11_knownAt_7 rfl rfl ?_
    refine zr_getI (pc := 8) (z := 1) fX11_110 lo_46 rfl rfl rfl dX11_knownAt_8 ?_
    refine zi_icmp_ge (pc := 11) (tgt := 57) dX11_knownAt_11 (by decide) (by omega) (by omega) (fun h11 => ?_) (fun h11 => ?_)
    · refine zr_iload_n (pc := 57) dX11_knownAt_57 rfl rfl ?_
      exact zr_ireturn (pc := 58) dX11_knownAt_58 rfl (zq_eq h (by unfold kAt; rw [hb, show t = M 46 1 by omega]; rfl))
    · have hw2 := wG hw (t := t) ⟨h0, h11⟩
      refine zr_iload_n (pc := 14) dX11_knownAt_14 rfl rfl ?_
      refine zr_aload_n (pc := 15) dX11_knownAt_15 rfl rfl ?_
      refine zr_getR (pc := 16) fX11_22 lo_46 rfl rfl dX11_knownAt_16 ?_
      refine zr_bipush (pc := 19) dX11_knownAt_19 (by decide) ?_
      refine zr_iload_n (pc := 21) dX11_knownAt_21 rfl rfl ?_
      refine zr_imul (pc := 22) dX11_knownAt_22 ?_
      refine zr_iload (pc := 23) dX11_knownAt_23 rfl ?_
      refine zr_iadd (pc := 25) dX11_knownAt_25 ?_
      refine zr_iaload (pc := 26) lo_51 (by omega) dX11_knownAt_26 ?_
      refine zr_iload_n (pc := 27) dX11_knownAt_27 rfl rfl ?_
      refine zi_icmp_ne (pc := 28) (tgt := 48) dX11_knownAt_28 (by decide) (by omega) (by omega) (fun h28 => ?_) (fun h28 => ?_)
      · refine zr_iconst (pc := 48) dX11_knownAt_48 ?_
        refine zr_ior (pc := 49) dX11_knownAt_49 ?_
        refine zr_istore_n (pc := 50) dX11_knownAt_50 rfl (Nat.le_of_ble_eq_true rfl) rfl ?_
        refine zr_iinc (pc := 51) dX11_knownAt_51 rfl (Nat.le_of_ble_eq_true rfl) rfl ?_
        refine zr_goto (pc := 54) (tgt := 5) dX11_knownAt_54 (by decide) ?_
        exact ih _ (by omega) _ _ rfl (by omega) (by omega) (by rw [fo_s h0, ← hb, vG_p (M := M) ⟨h0, h11⟩ rfl, if_neg h28, or0 hbi])
      · refine zr_aload_n (pc := 31) dX11_knownAt_31 rfl rfl ?_
        refine zr_getR (pc := 32) fX11_22 lo_46 rfl rfl dX11_knownAt_32 ?_
        refine zr_bipush (pc := 35) dX11_knownAt_35 (by decide) ?_
        refine zr_iload_n (pc := 37) dX11_knownAt_37 rfl rfl ?_
        refine zr_imul (pc := 38) dX11_knownAt_38 ?_
        refine zr_iconst (pc := 39) dX11_knownAt_39 ?_
        refine zr_iadd (pc := 40) dX11_knownAt_40 ?_
        refine zr_iload (pc := 41) dX11_knownAt_41 rfl ?_
        refine zr_iadd (pc := 43) dX11_knownAt_43 ?_
        refine zr_iaload (pc := 44) lo_51 (by omega) dX11_knownAt_44 ?_
        refine zr_goto (pc := 45) (tgt := 49) dX11_knownAt_45 (by decide) ?_
        refine zr_ior (pc := 49) dX11_knownAt_49 ?_
        refine zr_istore_n (pc := 50) dX11_knownAt_50 rfl (Nat.le_of_ble_eq_true rfl) rfl ?_
        refine zr_iinc (pc := 51) dX11_knownAt_51 rfl (Nat.le_of_ble_eq_true rfl) rfl ?_
        refine zr_goto (pc := 54) (tgt := 5) dX11_knownAt_54 (by decide) ?_
        exact ih _ (by omega) _ _ rfl (by omega) (by omega) (by rw [fo_s h0, ← hb, vG_p (M := M) ⟨h0, h11⟩ rfl, if_pos h28, vG_n (M := M) ⟨h0, h11⟩ rfl])

set_option maxRecDepth 100000 in
set_option maxHeartbeats 4000000 in
theorem ct_X11_knownAt {g : zt_G} {M : zm_M} {q : Int → zm_M → Prop} {l : Int} (hl : 0 ≤ l ∧ l ≤ 1) (hw : CW (cvG M 51 (14 * l))) {p : Int} (hp : zi p) (h : q (kAt (cvG M 51 (14 * l)) p) M) : zc_K g yX11_knownAt mX11_knownAt [zv_r 46, zv_i l, zv_i p] M (zq_I q) := by
  refine zc_of (ls := [some (zv_r 46), some (zv_i l), some (zv_i p), none, none]) (by decide) rfl ⟨rfl, rfl⟩ (Nat.le_of_ble_eq_true rfl) rfl ?_
  refine zr_iconst (pc := 0) dX11_knownAt_0 ?_
  refine zr_istore_n (pc := 1) dX11_knownAt_1 rfl (Nat.le_of_ble_eq_true rfl) rfl ?_
  refine zr_iconst (pc := 2) dX11_knownAt_2 ?_
  refine zr_istore (pc := 3) dX11_knownAt_3 (Nat.le_of_ble_eq_true rfl) rfl ?_
  exact lp_X11_knownAt hl hw hp h _ _ _ rfl (by omega) (wGt hw).1 rfl

set_option maxRecDepth 100000 in
set_option maxHeartbeats 4000000 in
theorem lp_X11_passOn2 {g : zt_G} {M : zm_M} {q : zm_M → Prop} {l : Int} (hl : 0 ≤ l ∧ l ≤ 1) (hw : CW (cvG M 51 (14 * l))) (hL : LW (lvM M)) (hcd : 0 ≤ M 46 18 ∧ M 46 18 < 16) (h : ∀ M2, frW l M M2 → cvG M2 51 (14 * l) = nit (lvM M) (M 46 18) (cvG M 51 (14 * l)) → q M2) : ∀ (nn : Nat) (t : Int) (Mx : zm_M), (M 46 1 - t).toNat = nn → 0 ≤ t → t ≤ M 46 1 → frW l M Mx → cvG Mx 51 (14 * l) = fo n2 (fo (n1 (lvM M) (M 46 18)) (cvG M 51 (14 * l)) (M 46 1).toNat) t.toNat → zc_Z g mX11_passOn 29 [some (zv_r 46), some (zv_i l), some (zv_i (14 * l)), some (zv_i t)] [] Mx (zq_V q) := by
  intro nn
  induction nn using Nat.strongRecOn with
  | ind nn ih =>
    intro t Mx hn h0 h1 hfr hv
    have hw1 := wGt hw
    have eT : Mx 46 1 = M 46 1 := hfr 46 1 (by omega)
    have hct : ct (cvG M 51 (14 * l)) = M 46 1 := rfl
    have hlx : lvM Mx = lvM M := lvM_fr (hfr 46 0 (by omega)) (fun k i a b => hfr k i (by omega))
    have ecd : Mx 46 18 = M 46 18 := hfr 46 18 (by omega)
    have hCx : CW (cvG Mx 51 (14 * l)) := by rw [hv]; exact CW_fo2 (CW_fo1 hL hw _) _
    refine zr_iload_n (pc := 29) dX11_passOn_29 rfl rfl ?_
    refine zr_aload_n (pc := 30) dX11_passOn_30 rfl rfl ?_
    refine zr_getI (pc := 31) (z := 1) fX11_110 lo_46 rfl rfl rfl dX11_passOn_31 ?_
    refine zi_icmp_ge (pc := 34) (tgt := 88) dX11_passOn_34 (by decide) (by omega) (by omega) (fun h34 => ?_) (fun h34 => ?_)
    · refine zr_aload_n (pc := 88) dX11_passOn_88 rfl rfl ?_
      refine zr_getR (pc := 89) fX11_22 lo_46 rfl rfl dX11_passOn_89 ?_
      refine zr_iload_n (pc := 92) dX11_passOn_92 rfl rfl ?_
      refine zr_bipush (pc := 93) dX11_passOn_93 (by decide) ?_
      refine zr_iadd (pc := 95) dX11_passOn_95 ?_
      refine zr_iconst (pc := 96) dX11_passOn_96 ?_
      refine zr_iastore (pc := 97) lo_51 (by omega) dX11_passOn_97 ?_
      refine zr_aload_n (pc := 98) dX11_passOn_98 rfl rfl ?_
      refine zr_getR (pc := 99) fX11_22 lo_46 rfl rfl dX11_passOn_99 ?_
      refine zr_iload_n (pc := 102) dX11_passOn_102 rfl rfl ?_
      refine zr_bipush (pc := 103) dX11_passOn_103 (by decide) ?_
      refine zr_iadd (pc := 105) dX11_passOn_105 ?_
      refine zr_dup2_ir (pc := 106) dX11_passOn_106 ?_
      refine zr_iaload (pc := 107) lo_51 (by omega) dX11_passOn_107 ?_
      refine zr_iconst (pc := 108) dX11_passOn_108 ?_
      refine zr_iadd (pc := 109) dX11_passOn_109 ?_
      refine zr_iastore (pc := 110) lo_51 (by omega) dX11_passOn_110 ?_
      exact zr_return (pc := 111) dX11_passOn_111 rfl (h _ ((hfr.put _ _ (by omega)).put _ _ (by omega)) (by
          rw [cvG_ni (by rw [put_nk _ _ _ _ (by decide)]; omega) rfl, cvG_wa (by omega) rfl, put_ni _ _ (by omega)]
          have e9 : Mx 51 (14 * l + 13) = cg (cvG Mx 51 (14 * l)) := rfl
          rw [e9, hv, show t = M 46 1 by omega]
          rfl))
    · have ht : 0 ≤ t ∧ t < Mx 46 1 := by omega
      have hwx := wG hCx ht
      have hn2 : fo n2 (fo (n1 (lvM M) (M 46 18)) (cvG M 51 (14 * l)) (M 46 1).toNat) (t + 1).toNat = n2 t (cvG Mx 51 (14 * l)) := by rw [fo_s h0, hv]
      refine zr_aload_n (pc := 37) dX11_passOn_37 rfl rfl ?_
      refine zr_getR (pc := 38) fX11_19 lo_46 rfl rfl dX11_passOn_38 ?_
      refine zr_iload_n (pc := 41) dX11_passOn_41 rfl rfl ?_
      refine zr_iaload (pc := 42) lo_50 (by omega) dX11_passOn_42 ?_
      refine zr_iconst (pc := 43) dX11_passOn_43 ?_
      refine zi_icmp_ne (pc := 44) (tgt := 82) dX11_passOn_44 (by decide) (by omega) (by omega) (fun h44 => ?_) (fun h44 => ?_)
      · refine zr_iinc (pc := 82) dX11_passOn_82 rfl (Nat.le_of_ble_eq_true rfl) rfl ?_
        refine zr_goto (pc := 85) (tgt := 29) dX11_passOn_85 (by decide) ?_
        exact ih _ (by omega) _ _ rfl (by omega) (by omega) hfr (by rw [hn2]; unfold n2; rw [if_neg (fun y => h44 (by rw [← y.1]; exact (vG_k ht).symm))])
      · refine zr_aload_n (pc := 47) dX11_passOn_47 rfl rfl ?_
        refine zr_iload_n (pc := 48) dX11_passOn_48 rfl rfl ?_
        refine zr_iload_n (pc := 49) dX11_passOn_49 rfl rfl ?_
        refine zr_inv2I (pc := 50) rfl sX11_122 lo_46 rfl rfl rfl dX11_passOn_50 ?_
        refine ct_X11_isHummock hl hCx ht ?_
        refine zr_ifb_ne (pc := 53) (tgt := 82) dX11_passOn_53 (by decide) (fun h53 => ?_) (fun h53 => ?_)
        · refine zr_iinc (pc := 82) dX11_passOn_82 rfl (Nat.le_of_ble_eq_true rfl) rfl ?_
          refine zr_goto (pc := 85) (tgt := 29) dX11_passOn_85 (by decide) ?_
          exact ih _ (by omega) _ _ rfl (by omega) (by omega) hfr (by rw [hn2]; unfold n2; rw [if_neg (fun y => y.2 h53)])
        · refine zr_aload_n (pc := 56) dX11_passOn_56 rfl rfl ?_
          refine zr_getR (pc := 57) fX11_22 lo_46 rfl rfl dX11_passOn_57 ?_
          refine zr_iload_n (pc := 60) dX11_passOn_60 rfl rfl ?_
          refine zr_iconst (pc := 61) dX11_passOn_61 ?_
          refine zr_iadd (pc := 62) dX11_passOn_62 ?_
          refine zr_iload_n (pc := 63) dX11_passOn_63 rfl rfl ?_
          refine zr_iadd (pc := 64) dX11_passOn_64 ?_
          refine zr_dup2_ir (pc := 65) dX11_passOn_65 ?_
          refine zr_iaload (pc := 66) lo_51 (by omega) dX11_passOn_66 ?_
          refine zr_aload_n (pc := 67) dX11_passOn_67 rfl rfl ?_
          refine zr_iload_n (pc := 68) dX11_passOn_68 rfl rfl ?_
          refine zr_aload_n (pc := 69) dX11_passOn_69 rfl rfl ?_
          refine zr_getR (pc := 70) fX11_22 lo_46 rfl rfl dX11_passOn_70 ?_
          refine zr_iload_n (pc := 73) dX11_passOn_73 rfl rfl ?_
          refine zr_iload_n (pc := 74) dX11_passOn_74 rfl rfl ?_
          refine zr_iadd (pc := 75) dX11_passOn_75 ?_
          refine zr_iaload (pc := 76) lo_51 (by omega) dX11_passOn_76 ?_
          refine zr_inv2I (pc := 77) rfl sX11_132 lo_46 rfl rfl rfl dX11_passOn_77 ?_
          refine ct_X11_knownAt hl hCx (by omega) ?_
          refine zr_ior (pc := 80) dX11_passOn_80 ?_
          refine zr_iastore (pc := 81) lo_51 (by omega) dX11_passOn_81 ?_
          refine zr_iinc (pc := 82) dX11_passOn_82 rfl (Nat.le_of_ble_eq_true rfl) rfl ?_
          refine zr_goto (pc := 85) (tgt := 29) dX11_passOn_85 (by decide) ?_
          exact ih _ (by omega) _ _ rfl (by omega) (by omega) (hfr.put _ _ (by omega)) (by rw [hn2, cvG_kn ht (by omega) rfl]; unfold n2; rw [if_pos ⟨by rw [vG_k ht]; exact h44, h53⟩, vG_n (M := Mx) ht rfl, vG_p (M := Mx) ht rfl])

set_option maxRecDepth 100000 in
set_option maxHeartbeats 4000000 in
theorem lp_X11_passOn1 {g : zt_G} {M : zm_M} {q : zm_M → Prop} {l : Int} (hl : 0 ≤ l ∧ l ≤ 1) (hw : CW (cvG M 51 (14 * l))) (hL : LW (lvM M)) (hcd : 0 ≤ M 46 18 ∧ M 46 18 < 16) (h : ∀ M2, frW l M M2 → cvG M2 51 (14 * l) = nit (lvM M) (M 46 18) (cvG M 51 (14 * l)) → q M2) : ∀ (nn : Nat) (t : Int) (Mx : zm_M), (M 46 1 - t).toNat = nn → 0 ≤ t → t ≤ M 46 1 → frW l M Mx → cvG Mx 51 (14 * l) = fo (n1 (lvM M) (M 46 18)) (cvG M 51 (14 * l)) t.toNat → zc_Z g mX11_passOn 7 [some (zv_r 46), some (zv_i l), some (zv_i (14 * l)), some (zv_i t)] [] Mx (zq_V q) := by
  intro nn
  induction nn using Nat.strongRecOn with
  | ind nn ih =>
    intro t Mx hn h0 h1 hfr hv
    have hw1 := wGt hw
    have eT : Mx 46 1 = M 46 1 := hfr 46 1 (by omega)
    have hct : ct (cvG M 51 (14 * l)) = M 46 1 := rfl
    have hlx : lvM Mx = lvM M := lvM_fr (hfr 46 0 (by omega)) (fun k i a b => hfr k i (by omega))
    have ecd : Mx 46 18 = M 46 18 := hfr 46 18 (by omega)
    have hCx : CW (cvG Mx 51 (14 * l)) := by rw [hv]; exact CW_fo1 hL hw _
    refine zr_iload_n (pc := 7) dX11_passOn_7 rfl rfl ?_
    refine zr_aload_n (pc := 8) dX11_passOn_8 rfl rfl ?_
    refine zr_getI (pc := 9) (z := 1) fX11_110 lo_46 rfl rfl rfl dX11_passOn_9 ?_
    refine zi_icmp_ge (pc := 12) (tgt := 27) dX11_passOn_12 (by decide) (by omega) (by omega) (fun h12 => ?_) (fun h12 => ?_)
    · refine zr_iconst (pc := 27) dX11_passOn_27 ?_
      refine zr_istore_n (pc := 28) dX11_passOn_28 rfl (Nat.le_of_ble_eq_true rfl) rfl ?_
      exact lp_X11_passOn2 (g := g) hl hw hL hcd h _ _ _ rfl (by omega) hw1.1 hfr (by rw [hv, show t = M 46 1 by omega]; rfl)
    · refine zr_aload_n (pc := 15) dX11_passOn_15 rfl rfl ?_
      refine zr_iload_n (pc := 16) dX11_passOn_16 rfl rfl ?_
      refine zr_iload_n (pc := 17) dX11_passOn_17 rfl rfl ?_
      refine zr_inv2V (pc := 18) rfl sX11_128 lo_46 rfl rfl rfl dX11_passOn_18 ?_
      refine ct_X11_takeOn hl hCx (by rw [hlx]; exact hL) ⟨h0, by omega⟩ (by rw [ecd]; exact hcd) (fun M2 f1 f2 => ?_)
      refine zr_iinc (pc := 21) dX11_passOn_21 rfl (Nat.le_of_ble_eq_true rfl) rfl ?_
      refine zr_goto (pc := 24) (tgt := 7) dX11_passOn_24 (by decide) ?_
      exact ih _ (by omega) _ _ rfl (by omega) (by omega) (hfr.tr f1) (by rw [f2, hlx, ecd, fo_s h0, hv])

set_option maxRecDepth 100000 in
set_option maxHeartbeats 4000000 in
theorem ct_X11_passOn {g : zt_G} {M : zm_M} {q : zm_M → Prop} {l : Int} (hl : 0 ≤ l ∧ l ≤ 1) (hw : CW (cvG M 51 (14 * l))) (hL : LW (lvM M)) (hcd : 0 ≤ M 46 18 ∧ M 46 18 < 16) (h : ∀ M2, frW l M M2 → cvG M2 51 (14 * l) = nit (lvM M) (M 46 18) (cvG M 51 (14 * l)) → q M2) : zc_K g yX11_passOn mX11_passOn [zv_r 46, zv_i l] M (zq_V q) := by
  refine zc_of (ls := [some (zv_r 46), some (zv_i l), none, none]) (by decide) rfl ⟨rfl, rfl⟩ (Nat.le_of_ble_eq_true rfl) rfl ?_
  refine zr_bipush (pc := 0) dX11_passOn_0 (by decide) ?_
  refine zr_iload_n (pc := 2) dX11_passOn_2 rfl rfl ?_
  refine zr_imul (pc := 3) dX11_passOn_3 ?_
  refine zr_istore_n (pc := 4) dX11_passOn_4 rfl (Nat.le_of_ble_eq_true rfl) rfl ?_
  refine zr_iconst (pc := 5) dX11_passOn_5 ?_
  refine zr_istore_n (pc := 6) dX11_passOn_6 rfl (Nat.le_of_ble_eq_true rfl) rfl ?_
  exact lp_X11_passOn1 (g := g) hl hw hL hcd h _ _ _ rfl (by omega) (wGt hw).1 frW.rf rfl

set_option maxRecDepth 100000 in
set_option maxHeartbeats 4000000 in
theorem ct_X11_far {g : zt_G} {M : zm_M} {q : Int → zm_M → Prop} {a b : Int} (ha : zi a) (hb : zi b) (h : q (if b ≤ a then a - b else b - a) M) : zc_K g yX11_far mX11_far [zv_i a, zv_i b] M (zq_I q) := by
  refine zc_of (ls := [some (zv_i a), some (zv_i b)]) (by decide) rfl ⟨rfl, rfl⟩ (Nat.le_of_ble_eq_true rfl) rfl ?_
  refine zr_iload_n (pc := 0) dX11_far_0 rfl rfl ?_
  refine zr_iload_n (pc := 1) dX11_far_1 rfl rfl ?_
  refine zi_icmp_le (pc := 2) (tgt := 11) dX11_far_2 (by decide) (by omega) (by omega) (fun h2 => ?_) (fun h2 => ?_)
  · refine zr_iload_n (pc := 11) dX11_far_11 rfl rfl ?_
    refine zr_iload_n (pc := 12) dX11_far_12 rfl rfl ?_
    refine zr_isub (pc := 13) dX11_far_13 ?_
    exact zr_ireturn (pc := 14) dX11_far_14 rfl (zq_eq h (by split <;> omega))
  · refine zr_iload_n (pc := 5) dX11_far_5 rfl rfl ?_
    refine zr_iload_n (pc := 6) dX11_far_6 rfl rfl ?_
    refine zr_isub (pc := 7) dX11_far_7 ?_
    refine zr_goto (pc := 8) (tgt := 14) dX11_far_8 (by decide) ?_
    exact zr_ireturn (pc := 14) dX11_far_14 rfl (zq_eq h (by split <;> omega))

set_option maxRecDepth 100000 in
set_option maxHeartbeats 4000000 in
theorem ct_X11_canWalk {g : zt_G} {M : zm_M} {q : Int → zm_M → Prop} {l : Int} (hl : 0 ≤ l ∧ l ≤ 1) (hw : CW (cvG M 51 (14 * l))) {t p : Int} (ht : zi t) (hp : zi p) (h : q (zb_B (cMay (cvG M 51 (14 * l)) t p)) M) : zc_K g yX11_canWalk mX11_canWalk [zv_r 46, zv_i l, zv_i t, zv_i p] M (zq_I q) := by
  refine zc_of (ls := [some (zv_r 46), some (zv_i l), some (zv_i t), some (zv_i p), none]) (by decide) rfl ⟨rfl, rfl⟩ (Nat.le_of_ble_eq_true rfl) rfl ?_
  have hw1 := wGt hw
  have hw3 := wGw hw
  have hct : ct (cvG M 51 (14 * l)) = M 46 1 := rfl
  have hcw : cw (cvG M 51 (14 * l)) = M 51 (14 * l + 12) := rfl
  refine zr_bipush (pc := 0) dX11_canWalk_0 (by decide) ?_
  refine zr_iload_n (pc := 2) dX11_canWalk_2 rfl rfl ?_
  refine zr_imul (pc := 3) dX11_canWalk_3 ?_
  refine zr_istore (pc := 4) dX11_canWalk_4 (Nat.le_of_ble_eq_true rfl) rfl ?_
  refine zr_aload_n (pc := 6) dX11_canWalk_6 rfl rfl ?_
  refine zr_iload_n (pc := 7) dX11_canWalk_7 rfl rfl ?_
  refine zr_inv1I (pc := 8) rfl sX11_136 lo_46 rfl rfl rfl dX11_canWalk_8 ?_
  refine ct_X11_isTramp hw1 ht ?_
  refine zr_ifb_eq (pc := 11) (tgt := 47) dX11_canWalk_11 (by decide) (fun h11 => ?_) (fun h11 => ?_)
  · refine zr_iconst (pc := 47) dX11_canWalk_47 ?_
    exact zr_zreturn (pc := 48) dX11_canWalk_48 rfl (by decide) (zq_eq h (zb_F (fun y => h11 y.1)))
  · refine zr_iload_n (pc := 14) dX11_canWalk_14 rfl rfl ?_
    refine zr_stat1I (pc := 15) rfl sX11_140 rfl rfl dX11_canWalk_15 ?_
    refine ct_X11_isPlace hp ?_
    refine zr_ifb_eq (pc := 18) (tgt := 47) dX11_canWalk_18 (by decide) (fun h18 => ?_) (fun h18 => ?_)
    · refine zr_iconst (pc := 47) dX11_canWalk_47 ?_
      exact zr_zreturn (pc := 48) dX11_canWalk_48 rfl (by decide) (zq_eq h (zb_F (fun y => h18 y.2.1)))
    · have hw2 := wG hw h11
      have hvp := vG_p (M := M) (a := 51) (b := 14 * l) h11 rfl
      have hvh := vG_h (M := M) (a := 51) (b := 14 * l) h11 rfl
      refine zr_aload_n (pc := 21) dX11_canWalk_21 rfl rfl ?_
      refine zr_getR (pc := 22) fX11_22 lo_46 rfl rfl dX11_canWalk_22 ?_
      refine zr_iload (pc := 25) dX11_canWalk_25 rfl ?_
      refine zr_bipush (pc := 27) dX11_canWalk_27 (by decide) ?_
      refine zr_iadd (pc := 29) dX11_canWalk_29 ?_
      refine zr_iaload (pc := 30) lo_51 (by omega) dX11_canWalk_30 ?_
      refine zr_iload_n (pc := 31) dX11_canWalk_31 rfl rfl ?_
      refine zr_stat2I (pc := 32) rfl sX11_75 rfl rfl dX11_canWalk_32 ?_
      refine ct_X11_has (by omega) (by omega) ?_
      refine zr_ifb_ne (pc := 35) (tgt := 47) dX11_canWalk_35 (by decide) (fun h35 => ?_) (fun h35 => ?_)
      · refine zr_iconst (pc := 47) dX11_canWalk_47 ?_
        exact zr_zreturn (pc := 48) dX11_canWalk_48 rfl (by decide) (zq_eq h (zb_F (fun y => y.2.2.2.1 h35)))
      · refine zr_aload_n (pc := 38) dX11_canWalk_38 rfl rfl ?_
        refine zr_iload_n (pc := 39) dX11_canWalk_39 rfl rfl ?_
        refine zr_iload_n (pc := 40) dX11_canWalk_40 rfl rfl ?_
        refine zr_inv2I (pc := 41) rfl sX11_122 lo_46 rfl rfl rfl dX11_canWalk_41 ?_
        refine ct_X11_isHummock hl hw h11 ?_
        refine zr_ifb_eq (pc := 44) (tgt := 49) dX11_canWalk_44 (by decide) (fun h44 => ?_) (fun h44 => ?_)
        · refine zr_aload_n (pc := 49) dX11_canWalk_49 rfl rfl ?_
          refine zr_getR (pc := 50) fX11_22 lo_46 rfl rfl dX11_canWalk_50 ?_
          refine zr_iload (pc := 53) dX11_canWalk_53 rfl ?_
          refine zr_iload_n (pc := 55) dX11_canWalk_55 rfl rfl ?_
          refine zr_iadd (pc := 56) dX11_canWalk_56 ?_
          refine zr_iaload (pc := 57) lo_51 (by omega) dX11_canWalk_57 ?_
          refine zr_iload_n (pc := 58) dX11_canWalk_58 rfl rfl ?_
          refine zi_icmp_eq (pc := 59) (tgt := 88) dX11_canWalk_59 (by decide) (by omega) (by omega) (fun h59 => ?_) (fun h59 => ?_)
          · refine zr_iconst (pc := 88) dX11_canWalk_88 ?_
            exact zr_zreturn (pc := 89) dX11_canWalk_89 rfl (by decide) (zq_eq h (zb_F (fun y => y.2.2.2.2.1 (by rw [hvp]; exact h59))))
          · refine zr_aload_n (pc := 62) dX11_canWalk_62 rfl rfl ?_
            refine zr_getR (pc := 63) fX11_22 lo_46 rfl rfl dX11_canWalk_63 ?_
            refine zr_iload (pc := 66) dX11_canWalk_66 rfl ?_
            refine zr_iload_n (pc := 68) dX11_canWalk_68 rfl rfl ?_
            refine zr_iadd (pc := 69) dX11_canWalk_69 ?_
            refine zr_iaload (pc := 70) lo_51 (by omega) dX11_canWalk_70 ?_
            refine zr_iload_n (pc := 71) dX11_canWalk_71 rfl rfl ?_
            refine zr_stat2I (pc := 72) rfl sX11_143 rfl rfl dX11_canWalk_72 ?_
            refine ct_X11_far (by omega) hp ?_
            refine zr_aload_n (pc := 75) dX11_canWalk_75 rfl rfl ?_
            refine zr_iload_n (pc := 76) dX11_canWalk_76 rfl rfl ?_
            refine zr_iload_n (pc := 77) dX11_canWalk_77 rfl rfl ?_
            refine zr_inv2I (pc := 78) rfl sX11_146 lo_46 rfl rfl rfl dX11_canWalk_78 ?_
            refine ct_X11_speedOf hl hw h11 ?_
            refine zi_icmp_gt (pc := 81) (tgt := 88) dX11_canWalk_81 (by decide) (by split <;> omega) (by omega) (fun h81 => ?_) (fun h81 => ?_)
            · refine zr_iconst (pc := 88) dX11_canWalk_88 ?_
              exact zr_zreturn (pc := 89) dX11_canWalk_89 rfl (by decide) (zq_eq h (zb_F (fun y => (by have := y.2.2.2.2.2; rw [hvp] at this; omega))))
            · refine zr_iconst (pc := 84) dX11_canWalk_84 ?_
              refine zr_goto (pc := 85) (tgt := 89) dX11_canWalk_85 (by decide) ?_
              exact zr_zreturn (pc := 89) dX11_canWalk_89 rfl (by decide) (zq_eq h (zb_T ⟨h11, h18, h44, h35, by rw [hvp]; exact h59, by rw [hvp]; exact h81⟩))
        · refine zr_iconst (pc := 47) dX11_canWalk_47 ?_
          exact zr_zreturn (pc := 48) dX11_canWalk_48 rfl (by decide) (zq_eq h (zb_F (fun y => y.2.2.1 h44)))

set_option maxRecDepth 100000 in
set_option maxHeartbeats 4000000 in
theorem ct_X11_walkOn {g : zt_G} {M : zm_M} {q : zm_M → Prop} {l : Int} (hl : 0 ≤ l ∧ l ≤ 1) (hw : CW (cvG M 51 (14 * l))) {t p : Int} (ht : 0 ≤ t ∧ t < M 46 1) (h : ∀ M2, frW l M M2 → cvG M2 51 (14 * l) = cgo t p (cvG M 51 (14 * l)) → q M2) : zc_K g yX11_walkOn mX11_walkOn [zv_r 46, zv_i l, zv_i t, zv_i p] M (zq_V q) := by
  refine zc_of (ls := [some (zv_r 46), some (zv_i l), some (zv_i t), some (zv_i p)]) (by decide) rfl ⟨rfl, rfl⟩ (Nat.le_of_ble_eq_true rfl) rfl ?_
  have hw1 := wGt hw
  refine zr_aload_n (pc := 0) dX11_walkOn_0 rfl rfl ?_
  refine zr_getR (pc := 1) fX11_22 lo_46 rfl rfl dX11_walkOn_1 ?_
  refine zr_bipush (pc := 4) dX11_walkOn_4 (by decide) ?_
  refine zr_iload_n (pc := 6) dX11_walkOn_6 rfl rfl ?_
  refine zr_imul (pc := 7) dX11_walkOn_7 ?_
  refine zr_iload_n (pc := 8) dX11_walkOn_8 rfl rfl ?_
  refine zr_iadd (pc := 9) dX11_walkOn_9 ?_
  refine zr_iload_n (pc := 10) dX11_walkOn_10 rfl rfl ?_
  refine zr_iastore (pc := 11) lo_51 (by omega) dX11_walkOn_11 ?_
  refine zr_aload_n (pc := 12) dX11_walkOn_12 rfl rfl ?_
  refine zr_getR (pc := 13) fX11_22 lo_46 rfl rfl dX11_walkOn_13 ?_
  refine zr_bipush (pc := 16) dX11_walkOn_16 (by decide) ?_
  refine zr_iload_n (pc := 18) dX11_walkOn_18 rfl rfl ?_
  refine zr_imul (pc := 19) dX11_walkOn_19 ?_
  refine zr_bipush (pc := 20) dX11_walkOn_20 (by decide) ?_
  refine zr_iadd (pc := 22) dX11_walkOn_22 ?_
  refine zr_dup2_ir (pc := 23) dX11_walkOn_23 ?_
  refine zr_iaload (pc := 24) lo_51 (by omega) dX11_walkOn_24 ?_
  refine zr_iconst (pc := 25) dX11_walkOn_25 ?_
  refine zr_iload_n (pc := 26) dX11_walkOn_26 rfl rfl ?_
  refine zr_ishl (pc := 27) dX11_walkOn_27 ?_
  refine zr_ior (pc := 28) dX11_walkOn_28 ?_
  refine zr_iastore (pc := 29) lo_51 (by omega) dX11_walkOn_29 ?_
  exact zr_return (pc := 30) dX11_walkOn_30 rfl (h _ ((frW.rf.put _ _ (by omega)).put _ _ (by omega)) (by
      rw [cvG_wa (by rw [put_nk _ _ _ _ (by decide)]; omega) rfl, cvG_pl ht (by omega) rfl, put_ni _ _ (by omega)]
      rfl))

set_option maxRecDepth 100000 in
set_option maxHeartbeats 4000000 in
theorem ct_X11_canTell {g : zt_G} {M : zm_M} {q : Int → zm_M → Prop} {l : Int} (hl : 0 ≤ l ∧ l ≤ 1) (hw : CW (cvG M 51 (14 * l))) {a b : Int} (ha : zi a) (hb : zi b) (h : q (zb_B (cHear (cvG M 51 (14 * l)) a b)) M) : zc_K g yX11_canTell mX11_canTell [zv_r 46, zv_i l, zv_i a, zv_i b] M (zq_I q) := by
  refine zc_of (ls := [some (zv_r 46), some (zv_i l), some (zv_i a), some (zv_i b)]) (by decide) rfl ⟨rfl, rfl⟩ (Nat.le_of_ble_eq_true rfl) rfl ?_
  have hw1 := wGt hw
  refine zr_aload_n (pc := 0) dX11_canTell_0 rfl rfl ?_
  refine zr_iload_n (pc := 1) dX11_canTell_1 rfl rfl ?_
  refine zr_inv1I (pc := 2) rfl sX11_136 lo_46 rfl rfl rfl dX11_canTell_2 ?_
  refine ct_X11_isTramp hw1 ha ?_
  refine zr_ifb_eq (pc := 5) (tgt := 59) dX11_canTell_5 (by decide) (fun h5 => ?_) (fun h5 => ?_)
  · refine zr_iconst (pc := 59) dX11_canTell_59 ?_
    exact zr_zreturn (pc := 60) dX11_canTell_60 rfl (by decide) (zq_eq h (zb_F (fun y => h5 y.1)))
  · refine zr_aload_n (pc := 8) dX11_canTell_8 rfl rfl ?_
    refine zr_iload_n (pc := 9) dX11_canTell_9 rfl rfl ?_
    refine zr_inv1I (pc := 10) rfl sX11_136 lo_46 rfl rfl rfl dX11_canTell_10 ?_
    refine ct_X11_isTramp hw1 hb ?_
    refine zr_ifb_eq (pc := 13) (tgt := 59) dX11_canTell_13 (by decide) (fun h13 => ?_) (fun h13 => ?_)
    · refine zr_iconst (pc := 59) dX11_canTell_59 ?_
      exact zr_zreturn (pc := 60) dX11_canTell_60 rfl (by decide) (zq_eq h (zb_F (fun y => h13 y.2.1)))
    · refine zr_iload_n (pc := 16) dX11_canTell_16 rfl rfl ?_
      refine zr_iload_n (pc := 17) dX11_canTell_17 rfl rfl ?_
      refine zi_icmp_eq (pc := 18) (tgt := 59) dX11_canTell_18 (by decide) (by omega) (by omega) (fun h18 => ?_) (fun h18 => ?_)
      · refine zr_iconst (pc := 59) dX11_canTell_59 ?_
        exact zr_zreturn (pc := 60) dX11_canTell_60 rfl (by decide) (zq_eq h (zb_F (fun y => y.2.2.1 h18)))
      · have hwa := wG hw h5
        have hwb := wG hw h13
        have hva := vG_p (M := M) (a := 51) (b := 14 * l) h5 rfl
        have hvb := vG_p (M := M) (a := 51) (b := 14 * l) h13 rfl
        refine zr_aload_n (pc := 21) dX11_canTell_21 rfl rfl ?_
        refine zr_getR (pc := 22) fX11_22 lo_46 rfl rfl dX11_canTell_22 ?_
        refine zr_bipush (pc := 25) dX11_canTell_25 (by decide) ?_
        refine zr_iload_n (pc := 27) dX11_canTell_27 rfl rfl ?_
        refine zr_imul (pc := 28) dX11_canTell_28 ?_
        refine zr_iload_n (pc := 29) dX11_canTell_29 rfl rfl ?_
        refine zr_iadd (pc := 30) dX11_canTell_30 ?_
        refine zr_iaload (pc := 31) lo_51 (by omega) dX11_canTell_31 ?_
        refine zr_aload_n (pc := 32) dX11_canTell_32 rfl rfl ?_
        refine zr_getR (pc := 33) fX11_22 lo_46 rfl rfl dX11_canTell_33 ?_
        refine zr_bipush (pc := 36) dX11_canTell_36 (by decide) ?_
        refine zr_iload_n (pc := 38) dX11_canTell_38 rfl rfl ?_
        refine zr_imul (pc := 39) dX11_canTell_39 ?_
        refine zr_iload_n (pc := 40) dX11_canTell_40 rfl rfl ?_
        refine zr_iadd (pc := 41) dX11_canTell_41 ?_
        refine zr_iaload (pc := 42) lo_51 (by omega) dX11_canTell_42 ?_
        refine zi_icmp_ne (pc := 43) (tgt := 59) dX11_canTell_43 (by decide) (by omega) (by omega) (fun h43 => ?_) (fun h43 => ?_)
        · refine zr_iconst (pc := 59) dX11_canTell_59 ?_
          exact zr_zreturn (pc := 60) dX11_canTell_60 rfl (by decide) (zq_eq h (zb_F (fun y => h43 (by rw [← hva, ← hvb]; exact y.2.2.2.1))))
        · refine zr_aload_n (pc := 46) dX11_canTell_46 rfl rfl ?_
          refine zr_iload_n (pc := 47) dX11_canTell_47 rfl rfl ?_
          refine zr_iload_n (pc := 48) dX11_canTell_48 rfl rfl ?_
          refine zr_inv2I (pc := 49) rfl sX11_122 lo_46 rfl rfl rfl dX11_canTell_49 ?_
          refine ct_X11_isHummock hl hw h13 ?_
          refine zr_ifb_ne (pc := 52) (tgt := 59) dX11_canTell_52 (by decide) (fun h52 => ?_) (fun h52 => ?_)
          · refine zr_iconst (pc := 59) dX11_canTell_59 ?_
            exact zr_zreturn (pc := 60) dX11_canTell_60 rfl (by decide) (zq_eq h (zb_F (fun y => y.2.2.2.2 h52)))
          · refine zr_iconst (pc := 55) dX11_canTell_55 ?_
            refine zr_goto (pc := 56) (tgt := 60) dX11_canTell_56 (by decide) ?_
            exact zr_zreturn (pc := 60) dX11_canTell_60 rfl (by decide) (zq_eq h (zb_T ⟨h5, h13, h18, by rw [hva, hvb]; exact h43, h52⟩))

set_option maxRecDepth 100000 in
set_option maxHeartbeats 4000000 in
theorem ct_X11_tellOn {g : zt_G} {M : zm_M} {q : zm_M → Prop} {l : Int} (hl : 0 ≤ l ∧ l ≤ 1) (hw : CW (cvG M 51 (14 * l))) {a b : Int} (ha : 0 ≤ a ∧ a < M 46 1) (hb : 0 ≤ b ∧ b < M 46 1) (h : ∀ M2, frW l M M2 → cvG M2 51 (14 * l) = chr a b (cvG M 51 (14 * l)) → q M2) : zc_K g yX11_tellOn mX11_tellOn [zv_r 46, zv_i l, zv_i a, zv_i b] M (zq_V q) := by
  refine zc_of (ls := [some (zv_r 46), some (zv_i l), some (zv_i a), some (zv_i b)]) (by decide) rfl ⟨rfl, rfl⟩ (Nat.le_of_ble_eq_true rfl) rfl ?_
  have hw1 := wGt hw
  refine zr_aload_n (pc := 0) dX11_tellOn_0 rfl rfl ?_
  refine zr_getR (pc := 1) fX11_22 lo_46 rfl rfl dX11_tellOn_1 ?_
  refine zr_bipush (pc := 4) dX11_tellOn_4 (by decide) ?_
  refine zr_iload_n (pc := 6) dX11_tellOn_6 rfl rfl ?_
  refine zr_imul (pc := 7) dX11_tellOn_7 ?_
  refine zr_iconst (pc := 8) dX11_tellOn_8 ?_
  refine zr_iadd (pc := 9) dX11_tellOn_9 ?_
  refine zr_iload_n (pc := 10) dX11_tellOn_10 rfl rfl ?_
  refine zr_iadd (pc := 11) dX11_tellOn_11 ?_
  refine zr_dup2_ir (pc := 12) dX11_tellOn_12 ?_
  refine zr_iaload (pc := 13) lo_51 (by omega) dX11_tellOn_13 ?_
  refine zr_aload_n (pc := 14) dX11_tellOn_14 rfl rfl ?_
  refine zr_getR (pc := 15) fX11_22 lo_46 rfl rfl dX11_tellOn_15 ?_
  refine zr_bipush (pc := 18) dX11_tellOn_18 (by decide) ?_
  refine zr_iload_n (pc := 20) dX11_tellOn_20 rfl rfl ?_
  refine zr_imul (pc := 21) dX11_tellOn_21 ?_
  refine zr_iconst (pc := 22) dX11_tellOn_22 ?_
  refine zr_iadd (pc := 23) dX11_tellOn_23 ?_
  refine zr_iload_n (pc := 24) dX11_tellOn_24 rfl rfl ?_
  refine zr_iadd (pc := 25) dX11_tellOn_25 ?_
  refine zr_iaload (pc := 26) lo_51 (by omega) dX11_tellOn_26 ?_
  refine zr_ior (pc := 27) dX11_tellOn_27 ?_
  refine zr_iastore (pc := 28) lo_51 (by omega) dX11_tellOn_28 ?_
  exact zr_return (pc := 29) dX11_tellOn_29 rfl (h _ (frW.rf.put _ _ (by omega)) (by
      rw [cvG_kn hb (by omega) rfl]
      unfold chr
      rw [vG_n (M := M) ha rfl, vG_n (M := M) hb rfl]))

set_option maxRecDepth 100000 in
set_option maxHeartbeats 4000000 in
theorem ct_X11_washOn {g : zt_G} {M : zm_M} {q : zm_M → Prop} {l : Int} (hl : 0 ≤ l ∧ l ≤ 1) (hw : CW (cvG M 51 (14 * l))) {t : Int} (ht : 0 ≤ t ∧ t < M 46 1) (h : ∀ M2, frW l M M2 → cvG M2 51 (14 * l) = cba t (cvG M 51 (14 * l)) → q M2) : zc_K g yX11_washOn mX11_washOn [zv_r 46, zv_i l, zv_i t] M (zq_V q) := by
  refine zc_of (ls := [some (zv_r 46), some (zv_i l), some (zv_i t)]) (by decide) rfl ⟨rfl, rfl⟩ (Nat.le_of_ble_eq_true rfl) rfl ?_
  have hw1 := wGt hw
  refine zr_aload_n (pc := 0) dX11_washOn_0 rfl rfl ?_
  refine zr_getR (pc := 1) fX11_22 lo_46 rfl rfl dX11_washOn_1 ?_
  refine zr_bipush (pc := 4) dX11_washOn_4 (by decide) ?_
  refine zr_iload_n (pc := 6) dX11_washOn_6 rfl rfl ?_
  refine zr_imul (pc := 7) dX11_washOn_7 ?_
  refine zr_iconst (pc := 8) dX11_washOn_8 ?_
  refine zr_iadd (pc := 9) dX11_washOn_9 ?_
  refine zr_iload_n (pc := 10) dX11_washOn_10 rfl rfl ?_
  refine zr_iadd (pc := 11) dX11_washOn_11 ?_
  refine zr_iconst (pc := 12) dX11_washOn_12 ?_
  refine zr_iastore (pc := 13) lo_51 (by omega) dX11_washOn_13 ?_
  refine zr_aload_n (pc := 14) dX11_washOn_14 rfl rfl ?_
  refine zr_getR (pc := 15) fX11_22 lo_46 rfl rfl dX11_washOn_15 ?_
  refine zr_bipush (pc := 18) dX11_washOn_18 (by decide) ?_
  refine zr_iload_n (pc := 20) dX11_washOn_20 rfl rfl ?_
  refine zr_imul (pc := 21) dX11_washOn_21 ?_
  refine zr_bipush (pc := 22) dX11_washOn_22 (by decide) ?_
  refine zr_iadd (pc := 24) dX11_washOn_24 ?_
  refine zr_iload_n (pc := 25) dX11_washOn_25 rfl rfl ?_
  refine zr_iadd (pc := 26) dX11_washOn_26 ?_
  refine zr_iconst (pc := 27) dX11_washOn_27 ?_
  refine zr_iastore (pc := 28) lo_51 (by omega) dX11_washOn_28 ?_
  exact zr_return (pc := 29) dX11_washOn_29 rfl (h _ ((frW.rf.put _ _ (by omega)).put _ _ (by omega)) (by
      rw [cvG_wh (t := t) (by rw [put_nk _ _ _ _ (by decide)]; exact ht) (by rw [put_nk _ _ _ _ (by decide)]; omega) rfl, cvG_kn ht (by omega) rfl]
      rfl))

theorem or0w {s : Int} (h : 0 ≤ s ∧ s < 16) : zb_or s 0 = s := or0 ⟨h.1, by omega⟩
theorem or4b_ok : ∀ s : Nat, s < 16 → ∀ t : Nat, t < 4 → 0 ≤ zb_or (s : Int) (zb_shl 1 (t : Int)) ∧ zb_or (s : Int) (zb_shl 1 (t : Int)) < 16 := by decide +kernel
theorem or4b {s t : Int} (hs : 0 ≤ s ∧ s < 16) (ht : 0 ≤ t ∧ t < 4) : 0 ≤ zb_or s (zb_shl 1 t) ∧ zb_or s (zb_shl 1 t) < 16 := by
  obtain ⟨s, rfl⟩ := Int.eq_ofNat_of_zero_le hs.1
  obtain ⟨t, rfl⟩ := Int.eq_ofNat_of_zero_le ht.1
  exact or4b_ok s (by omega) t (by omega)
theorem fo4 {P : Int → Prop} [DecidablePred P] {n : Nat} (hn : n ≤ 4) : 0 ≤ fo (fun t b => if P t then zb_or b (zb_shl 1 t) else b) 0 n ∧ fo (fun t b => if P t then zb_or b (zb_shl 1 t) else b) 0 n < 16 := by
  refine fo_p (P := fun b : Int => 0 ≤ b ∧ b < 16) ⟨by decide, by decide⟩ (fun i b h0 h1 hb => ?_)
  split
  · exact or4b hb ⟨h0, by omega⟩
  · exact hb
set_option maxRecDepth 100000 in
set_option maxHeartbeats 4000000 in
theorem lp_X11_hummocksOn {g : zt_G} {M : zm_M} {q : Int → zm_M → Prop} {l : Int} (hl : 0 ≤ l ∧ l ≤ 1) (hw : CW (cvG M 51 (14 * l))) (h : q (humB (cvG M 51 (14 * l))) M) : ∀ (nn : Nat) (b t : Int), (M 46 1 - t).toNat = nn → 0 ≤ t → t ≤ M 46 1 → b = fo (fun t b => if 9 ≤ ch (cvG M 51 (14 * l)) t then zb_or b (zb_shl 1 t) else b) 0 t.toNat → zc_Z g mX11_hummocksOn 4 [some (zv_r 46), some (zv_i l), some (zv_i b), some (zv_i t)] [] M (zq_I q) := by
  intro nn
  induction nn using Nat.strongRecOn with
  | ind nn ih =>
    intro b t hn h0 h1 hb
    have hw1 := wGt hw
    have hbi : 0 ≤ b ∧ b < 16 := by
      rw [hb]
      exact fo4 (by omega)
    refine zr_iload_n (pc := 4) dX11_hummocksOn_4 rfl rfl ?_
    refine zr_aload_n (pc := 5) dX11_hummocksOn_5 rfl rfl ?_
    refine zr_getI (pc := 6) (z := 1) fX11_110 lo_46 rfl rfl rfl dX11_hummocksOn_6 ?_
    refine zi_icmp_ge (pc := 9) (tgt := 37) dX11_hummocksOn_9 (by decide) (by omega) (by omega) (fun h9 => ?_) (fun h9 => ?_)
    · refine zr_iload_n (pc := 37) dX11_hummocksOn_37 rfl rfl ?_
      exact zr_ireturn (pc := 38) dX11_hummocksOn_38 rfl (zq_eq h (by unfold humB; rw [hb, show t = M 46 1 by omega]; rfl))
    · refine zr_iload_n (pc := 12) dX11_hummocksOn_12 rfl rfl ?_
      refine zr_aload_n (pc := 13) dX11_hummocksOn_13 rfl rfl ?_
      refine zr_iload_n (pc := 14) dX11_hummocksOn_14 rfl rfl ?_
      refine zr_iload_n (pc := 15) dX11_hummocksOn_15 rfl rfl ?_
      refine zr_inv2I (pc := 16) rfl sX11_122 lo_46 rfl rfl rfl dX11_hummocksOn_16 ?_
      refine ct_X11_isHummock hl hw ⟨h0, h9⟩ ?_
      refine zr_ifb_eq (pc := 19) (tgt := 28) dX11_hummocksOn_19 (by decide) (fun h19 => ?_) (fun h19 => ?_)
      · refine zr_iconst (pc := 28) dX11_hummocksOn_28 ?_
        refine zr_ior (pc := 29) dX11_hummocksOn_29 ?_
        refine zr_istore_n (pc := 30) dX11_hummocksOn_30 rfl (Nat.le_of_ble_eq_true rfl) rfl ?_
        refine zr_iinc (pc := 31) dX11_hummocksOn_31 rfl (Nat.le_of_ble_eq_true rfl) rfl ?_
        refine zr_goto (pc := 34) (tgt := 4) dX11_hummocksOn_34 (by decide) ?_
        exact ih _ (by omega) _ _ rfl (by omega) (by omega) (by rw [fo_s h0, ← hb, if_neg h19, or0w hbi])
      · refine zr_iconst (pc := 22) dX11_hummocksOn_22 ?_
        refine zr_iload_n (pc := 23) dX11_hummocksOn_23 rfl rfl ?_
        refine zr_ishl (pc := 24) dX11_hummocksOn_24 ?_
        refine zr_goto (pc := 25) (tgt := 29) dX11_hummocksOn_25 (by decide) ?_
        refine zr_ior (pc := 29) dX11_hummocksOn_29 ?_
        refine zr_istore_n (pc := 30) dX11_hummocksOn_30 rfl (Nat.le_of_ble_eq_true rfl) rfl ?_
        refine zr_iinc (pc := 31) dX11_hummocksOn_31 rfl (Nat.le_of_ble_eq_true rfl) rfl ?_
        refine zr_goto (pc := 34) (tgt := 4) dX11_hummocksOn_34 (by decide) ?_
        exact ih _ (by omega) _ _ rfl (by omega) (by omega) (by rw [fo_s h0, ← hb, if_pos h19])

set_option maxRecDepth 100000 in
set_option maxHeartbeats 4000000 in
theorem ct_X11_hummocksOn {g : zt_G} {M : zm_M} {q : Int → zm_M → Prop} {l : Int} (hl : 0 ≤ l ∧ l ≤ 1) (hw : CW (cvG M 51 (14 * l))) (h : q (humB (cvG M 51 (14 * l))) M) : zc_K g yX11_hummocksOn mX11_hummocksOn [zv_r 46, zv_i l] M (zq_I q) := by
  refine zc_of (ls := [some (zv_r 46), some (zv_i l), none, none]) (by decide) rfl ⟨rfl, rfl⟩ (Nat.le_of_ble_eq_true rfl) rfl ?_
  refine zr_iconst (pc := 0) dX11_hummocksOn_0 ?_
  refine zr_istore_n (pc := 1) dX11_hummocksOn_1 rfl (Nat.le_of_ble_eq_true rfl) rfl ?_
  refine zr_iconst (pc := 2) dX11_hummocksOn_2 ?_
  refine zr_istore_n (pc := 3) dX11_hummocksOn_3 rfl (Nat.le_of_ble_eq_true rfl) rfl ?_
  exact lp_X11_hummocksOn hl hw h _ _ _ rfl (by omega) (wGt hw).1 rfl

