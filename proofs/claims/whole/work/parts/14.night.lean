theorem put_put (M : zm_M) (k : Nat) (i a b : Int) : zm_put (zm_put M k i a) k i b = zm_put M k i b := by
  funext k2 i2
  unfold zm_put
  split <;> rfl
theorem put_self (M : zm_M) (k : Nat) (i : Int) : zm_put M k i (M k i) = M := by
  funext k2 i2
  unfold zm_put
  split
  · rename_i h
    rw [h.1, h.2]
  · rfl
theorem tkL_s (ly : Int → Int) (n : Nat) (k left s : Int) : tkL ly (n + 1) k left s = if 0 < left then (if bt s (ly k) = true then tkL ly n (k + 1) left s else tkL ly n (k + 1) (left - 1) (zb_or s (zb_shl 1 (ly k)))) else s := rfl
theorem put_at (M : zm_M) (k : Nat) (i v : Int) : zm_put M k i v k i = v := if_pos ⟨rfl, rfl⟩
theorem put_nk (M : zm_M) {k k2 : Nat} (i v j : Int) (h : k2 ≠ k) : zm_put M k i v k2 j = M k2 j := if_neg (fun x => h x.1)
theorem put_ni (M : zm_M) {k k2 : Nat} {i j : Int} (v : Int) (h : j ≠ i) : zm_put M k i v k2 j = M k2 j := if_neg (fun x => h x.2)
set_option maxRecDepth 100000 in
set_option maxHeartbeats 4000000 in
theorem lp_X1_lieUp {g : zt_G} {M : zm_M} {c l : Nat} {q : zm_M → Prop} (hc : zp_camp c) (hl : zp_land l) (hsep : l + 3 < c ∨ c + 4 < l) (hw : CW (cvX M c)) (hL : LW (lvX M l)) {t k : Int} (ht : 0 ≤ t ∧ t < M c 5) (hk : 0 ≤ k ∧ k < M l 3) (h : ∀ M2, frC c M M2 → cvX M2 c = lie (lvX M l) k t (cvX M c) → q M2) : ∀ (nn : Nat) (f d s : Int) (x6 : Option zv_A), (M (l + 2) k - d).toNat = nn → 0 ≤ d → d ≤ M (l + 2) k → (0 ≤ f ∧ f ≤ 6) → (0 ≤ s ∧ s < 64) → tkL ((lvX M l).2.2.2 k) (M (l + 2) k - d).toNat d f s = tkL ((lvX M l).2.2.2 k) (M (l + 2) k).toNat 0 (app (M (c + 2) t)) (M (c + 3) t) → zc_Z g mX1_lieUp 14 [some (zv_r c), some (zv_i t), some (zv_r l), some (zv_i k), some (zv_i f), some (zv_i d), x6] [] (zm_put M (c + 3) t s) (zq_V q) := by
  intro nn
  induction nn using Nat.strongRecOn with
  | ind nn ih =>
    intro f d s x6 hn h0 h1 hf hs hT
    have hw0 := wXt hw
    have hw1 := wX hw ht
    have hL0 := yXk hL
    have hL1 := yX hL hk
    have r1 : ∀ i, zm_put M (c + 3) t s (l + 2) i = M (l + 2) i := fun i => put_nk M t s i (by omega)
    have r2 : ∀ i, zm_put M (c + 3) t s (l + 3) i = M (l + 3) i := fun i => put_nk M t s i (by omega)
    have r3 : zm_put M (c + 3) t s (c + 3) t = s := put_at M (c + 3) t s
    have r4 : ∀ i, zm_put M (c + 3) t s (c + 4) i = M (c + 4) i := fun i => put_nk M t s i (by omega)
    have r5 : ∀ i, zm_put M (c + 3) t s (c + 2) i = M (c + 2) i := fun i => put_nk M t s i (by omega)
    have r6 : ∀ i, zm_put M (c + 3) t s c i = M c i := fun i => put_nk M t s i (by omega)
    have r1k := r1 k
    have r4t := r4 t
    have r5t := r5 t
    refine zr_iload (pc := 14) dX1_lieUp_14 rfl ?_
    refine zr_aload_n (pc := 16) dX1_lieUp_16 rfl rfl ?_
    refine zr_getR (pc := 17) fX1_62 hl.1 rfl rfl dX1_lieUp_17 ?_
    refine zr_iload_n (pc := 20) dX1_lieUp_20 rfl rfl ?_
    refine zr_iaload (pc := 21) hl.2.2.1 (by omega) dX1_lieUp_21 ?_
    refine zi_icmp_ge (pc := 22) (tgt := 73) dX1_lieUp_22 (by decide) (by omega) (by omega) (fun h22 => ?_) (fun h22 => ?_)
    · have hsf : s = tkL ((lvX M l).2.2.2 k) (M (l + 2) k).toNat 0 (app (M (c + 2) t)) (M (c + 3) t) := by
        rw [← hT]
        rw [show (M (l + 2) k - d).toNat = 0 by omega]
        rfl
      refine zr_aload_n (pc := 73) dX1_lieUp_73 rfl rfl ?_
      refine zr_getR (pc := 74) fX1_15 hc.1 rfl rfl dX1_lieUp_74 ?_
      refine zr_iload_n (pc := 77) dX1_lieUp_77 rfl rfl ?_
      refine zr_iaload (pc := 78) hc.2.2.1 (by omega) dX1_lieUp_78 ?_
      refine zr_iconst (pc := 79) dX1_lieUp_79 ?_
      refine zi_icmp_ne (pc := 80) (tgt := 87) dX1_lieUp_80 (by decide) (by omega) (by omega) (fun h80 => ?_) (fun h80 => ?_)
      · refine zr_iconst (pc := 87) dX1_lieUp_87 ?_
        refine zr_istore (pc := 88) dX1_lieUp_88 (Nat.le_of_ble_eq_true rfl) rfl ?_
        refine zr_aload_n (pc := 90) dX1_lieUp_90 rfl rfl ?_
        refine zr_getR (pc := 91) fX1_21 hc.1 rfl rfl dX1_lieUp_91 ?_
        refine zr_iload_n (pc := 94) dX1_lieUp_94 rfl rfl ?_
        refine zr_bipush (pc := 95) dX1_lieUp_95 (by decide) ?_
        refine zr_aload_n (pc := 97) dX1_lieUp_97 rfl rfl ?_
        refine zr_getR (pc := 98) fX1_21 hc.1 rfl rfl dX1_lieUp_98 ?_
        refine zr_iload_n (pc := 101) dX1_lieUp_101 rfl rfl ?_
        refine zr_iaload (pc := 102) hc.2.2.2.2 (by omega) dX1_lieUp_102 ?_
        refine zr_iload (pc := 103) dX1_lieUp_103 rfl ?_
        refine zr_iadd (pc := 105) dX1_lieUp_105 ?_
        refine zr_mmin (pc := 106) rfl sX1_69 rfl dX1_lieUp_106 ?_
        refine zr_iastore (pc := 109) hc.2.2.2.2 (by omega) dX1_lieUp_109 ?_
        exact zr_return (pc := 110) dX1_lieUp_110 rfl (h _ ((frC.rf.put (c + 3) t _ (by omega)).put (c + 4) t _ (by omega)) (by
            rw [cvX_wh ht.1 (by rw [r6]; exact ht.2), cvX_kn ht.1 ht.2]
            unfold lie
            rw [lX_d hk, vX_k ht, vX_n ht, vX_h ht, ← hsf, r4t]
            rw [zw_id (z := 9) (by omega) (by omega), zw_id (z := M (c + 4) t + 1) (by omega) (by omega)]
            rw [show (if M (c + 2) t = 2 then (2 : Int) else 1) = 1 from if_neg (by omega)]))
      · refine zr_iconst (pc := 83) dX1_lieUp_83 ?_
        refine zr_goto (pc := 84) (tgt := 88) dX1_lieUp_84 (by decide) ?_
        refine zr_istore (pc := 88) dX1_lieUp_88 (Nat.le_of_ble_eq_true rfl) rfl ?_
        refine zr_aload_n (pc := 90) dX1_lieUp_90 rfl rfl ?_
        refine zr_getR (pc := 91) fX1_21 hc.1 rfl rfl dX1_lieUp_91 ?_
        refine zr_iload_n (pc := 94) dX1_lieUp_94 rfl rfl ?_
        refine zr_bipush (pc := 95) dX1_lieUp_95 (by decide) ?_
        refine zr_aload_n (pc := 97) dX1_lieUp_97 rfl rfl ?_
        refine zr_getR (pc := 98) fX1_21 hc.1 rfl rfl dX1_lieUp_98 ?_
        refine zr_iload_n (pc := 101) dX1_lieUp_101 rfl rfl ?_
        refine zr_iaload (pc := 102) hc.2.2.2.2 (by omega) dX1_lieUp_102 ?_
        refine zr_iload (pc := 103) dX1_lieUp_103 rfl ?_
        refine zr_iadd (pc := 105) dX1_lieUp_105 ?_
        refine zr_mmin (pc := 106) rfl sX1_69 rfl dX1_lieUp_106 ?_
        refine zr_iastore (pc := 109) hc.2.2.2.2 (by omega) dX1_lieUp_109 ?_
        exact zr_return (pc := 110) dX1_lieUp_110 rfl (h _ ((frC.rf.put (c + 3) t _ (by omega)).put (c + 4) t _ (by omega)) (by
            rw [cvX_wh ht.1 (by rw [r6]; exact ht.2), cvX_kn ht.1 ht.2]
            unfold lie
            rw [lX_d hk, vX_k ht, vX_n ht, vX_h ht, ← hsf, r4t]
            rw [zw_id (z := 9) (by omega) (by omega), zw_id (z := M (c + 4) t + 2) (by omega) (by omega)]
            rw [show (if M (c + 2) t = 2 then (2 : Int) else 1) = 2 from if_pos (by omega)]))
    · refine zr_iload (pc := 25) dX1_lieUp_25 rfl ?_
      refine zi_if_le (pc := 27) (tgt := 73) dX1_lieUp_27 (by decide) (by omega) (fun h27 => ?_) (fun h27 => ?_)
      · have hsf : s = tkL ((lvX M l).2.2.2 k) (M (l + 2) k).toNat 0 (app (M (c + 2) t)) (M (c + 3) t) := by
          rw [← hT]
          rw [show (M (l + 2) k - d).toNat = (M (l + 2) k - (d + 1)).toNat + 1 by omega]
          unfold tkL
          rw [if_neg (by omega)]
        refine zr_aload_n (pc := 73) dX1_lieUp_73 rfl rfl ?_
        refine zr_getR (pc := 74) fX1_15 hc.1 rfl rfl dX1_lieUp_74 ?_
        refine zr_iload_n (pc := 77) dX1_lieUp_77 rfl rfl ?_
        refine zr_iaload (pc := 78) hc.2.2.1 (by omega) dX1_lieUp_78 ?_
        refine zr_iconst (pc := 79) dX1_lieUp_79 ?_
        refine zi_icmp_ne (pc := 80) (tgt := 87) dX1_lieUp_80 (by decide) (by omega) (by omega) (fun h80 => ?_) (fun h80 => ?_)
        · refine zr_iconst (pc := 87) dX1_lieUp_87 ?_
          refine zr_istore (pc := 88) dX1_lieUp_88 (Nat.le_of_ble_eq_true rfl) rfl ?_
          refine zr_aload_n (pc := 90) dX1_lieUp_90 rfl rfl ?_
          refine zr_getR (pc := 91) fX1_21 hc.1 rfl rfl dX1_lieUp_91 ?_
          refine zr_iload_n (pc := 94) dX1_lieUp_94 rfl rfl ?_
          refine zr_bipush (pc := 95) dX1_lieUp_95 (by decide) ?_
          refine zr_aload_n (pc := 97) dX1_lieUp_97 rfl rfl ?_
          refine zr_getR (pc := 98) fX1_21 hc.1 rfl rfl dX1_lieUp_98 ?_
          refine zr_iload_n (pc := 101) dX1_lieUp_101 rfl rfl ?_
          refine zr_iaload (pc := 102) hc.2.2.2.2 (by omega) dX1_lieUp_102 ?_
          refine zr_iload (pc := 103) dX1_lieUp_103 rfl ?_
          refine zr_iadd (pc := 105) dX1_lieUp_105 ?_
          refine zr_mmin (pc := 106) rfl sX1_69 rfl dX1_lieUp_106 ?_
          refine zr_iastore (pc := 109) hc.2.2.2.2 (by omega) dX1_lieUp_109 ?_
          exact zr_return (pc := 110) dX1_lieUp_110 rfl (h _ ((frC.rf.put (c + 3) t _ (by omega)).put (c + 4) t _ (by omega)) (by
              rw [cvX_wh ht.1 (by rw [r6]; exact ht.2), cvX_kn ht.1 ht.2]
              unfold lie
              rw [lX_d hk, vX_k ht, vX_n ht, vX_h ht, ← hsf, r4t]
              rw [zw_id (z := 9) (by omega) (by omega), zw_id (z := M (c + 4) t + 1) (by omega) (by omega)]
              rw [show (if M (c + 2) t = 2 then (2 : Int) else 1) = 1 from if_neg (by omega)]))
        · refine zr_iconst (pc := 83) dX1_lieUp_83 ?_
          refine zr_goto (pc := 84) (tgt := 88) dX1_lieUp_84 (by decide) ?_
          refine zr_istore (pc := 88) dX1_lieUp_88 (Nat.le_of_ble_eq_true rfl) rfl ?_
          refine zr_aload_n (pc := 90) dX1_lieUp_90 rfl rfl ?_
          refine zr_getR (pc := 91) fX1_21 hc.1 rfl rfl dX1_lieUp_91 ?_
          refine zr_iload_n (pc := 94) dX1_lieUp_94 rfl rfl ?_
          refine zr_bipush (pc := 95) dX1_lieUp_95 (by decide) ?_
          refine zr_aload_n (pc := 97) dX1_lieUp_97 rfl rfl ?_
          refine zr_getR (pc := 98) fX1_21 hc.1 rfl rfl dX1_lieUp_98 ?_
          refine zr_iload_n (pc := 101) dX1_lieUp_101 rfl rfl ?_
          refine zr_iaload (pc := 102) hc.2.2.2.2 (by omega) dX1_lieUp_102 ?_
          refine zr_iload (pc := 103) dX1_lieUp_103 rfl ?_
          refine zr_iadd (pc := 105) dX1_lieUp_105 ?_
          refine zr_mmin (pc := 106) rfl sX1_69 rfl dX1_lieUp_106 ?_
          refine zr_iastore (pc := 109) hc.2.2.2.2 (by omega) dX1_lieUp_109 ?_
          exact zr_return (pc := 110) dX1_lieUp_110 rfl (h _ ((frC.rf.put (c + 3) t _ (by omega)).put (c + 4) t _ (by omega)) (by
              rw [cvX_wh ht.1 (by rw [r6]; exact ht.2), cvX_kn ht.1 ht.2]
              unfold lie
              rw [lX_d hk, vX_k ht, vX_n ht, vX_h ht, ← hsf, r4t]
              rw [zw_id (z := 9) (by omega) (by omega), zw_id (z := M (c + 4) t + 2) (by omega) (by omega)]
              rw [show (if M (c + 2) t = 2 then (2 : Int) else 1) = 2 from if_pos (by omega)]))
      · have hy := yXl hL hk (k := d) ⟨h0, by omega⟩
        have e1 : (M (l + 2) k - d).toNat = (M (l + 2) k - (d + 1)).toNat + 1 := by omega
        rw [e1, tkL_s, if_pos h27, lX_y hk ⟨h0, by omega⟩] at hT
        refine zr_iconst (pc := 30) dX1_lieUp_30 ?_
        refine zr_aload_n (pc := 31) dX1_lieUp_31 rfl rfl ?_
        refine zr_iload_n (pc := 32) dX1_lieUp_32 rfl rfl ?_
        refine zr_iload (pc := 33) dX1_lieUp_33 rfl ?_
        refine zr_inv2I (pc := 35) rfl sX1_65 hl.1 rfl rfl rfl dX1_lieUp_35 ?_
        refine ct_X3_layerOf hl (by omega) (by omega) ?_
        rw [r2]
        refine zr_ishl (pc := 38) dX1_lieUp_38 ?_
        refine zr_istore (pc := 39) dX1_lieUp_39 (Nat.le_of_ble_eq_true rfl) rfl ?_
        refine zr_aload_n (pc := 41) dX1_lieUp_41 rfl rfl ?_
        refine zr_getR (pc := 42) fX1_18 hc.1 rfl rfl dX1_lieUp_42 ?_
        refine zr_iload_n (pc := 45) dX1_lieUp_45 rfl rfl ?_
        refine zr_iaload (pc := 46) hc.2.2.2.1 (by omega) dX1_lieUp_46 ?_
        refine zr_iload (pc := 47) dX1_lieUp_47 rfl ?_
        rw [r3]
        have hb6 := and6 hs (l := M (l + 3) (k * 4 + d)) ⟨hy.1, by omega⟩
        refine zr_iand (pc := 49) dX1_lieUp_49 ?_
        refine zi_if_ne (pc := 50) (tgt := 67) dX1_lieUp_50 (by decide) (by omega) (fun h50 => ?_) (fun h50 => ?_)
        · rw [if_pos (btT hb6.1 h50)] at hT
          refine zr_iinc (pc := 67) dX1_lieUp_67 rfl (Nat.le_of_ble_eq_true rfl) rfl ?_
          refine zr_goto (pc := 70) (tgt := 14) dX1_lieUp_70 (by decide) ?_
          exact ih _ (by omega) _ _ _ _ rfl (by omega) (by omega) (by omega) (by omega) hT
        · refine zr_aload_n (pc := 53) dX1_lieUp_53 rfl rfl ?_
          refine zr_getR (pc := 54) fX1_18 hc.1 rfl rfl dX1_lieUp_54 ?_
          refine zr_iload_n (pc := 57) dX1_lieUp_57 rfl rfl ?_
          refine zr_dup2_ir (pc := 58) dX1_lieUp_58 ?_
          refine zr_iaload (pc := 59) hc.2.2.2.1 (by omega) dX1_lieUp_59 ?_
          rw [r3]
          rw [if_neg (btF hb6.1 h50)] at hT
          have ho6 := or6 hs (l := M (l + 3) (k * 4 + d)) ⟨hy.1, by omega⟩
          refine zr_iload (pc := 60) dX1_lieUp_60 rfl ?_
          refine zr_ior (pc := 62) dX1_lieUp_62 ?_
          refine zr_iastore (pc := 63) hc.2.2.2.1 (by omega) dX1_lieUp_63 ?_
          rw [put_put]
          refine zr_iinc (pc := 64) dX1_lieUp_64 rfl (Nat.le_of_ble_eq_true rfl) rfl ?_
          refine zr_iinc (pc := 67) dX1_lieUp_67 rfl (Nat.le_of_ble_eq_true rfl) rfl ?_
          refine zr_goto (pc := 70) (tgt := 14) dX1_lieUp_70 (by decide) ?_
          exact ih _ (by omega) _ _ _ _ rfl (by omega) (by omega) (by omega) (by omega) hT

set_option maxRecDepth 100000 in
set_option maxHeartbeats 4000000 in
theorem ct_X1_lieUp {g : zt_G} {M : zm_M} {c l : Nat} {q : zm_M → Prop} (hc : zp_camp c) (hl : zp_land l) (hsep : l + 3 < c ∨ c + 4 < l) (hw : CW (cvX M c)) (hL : LW (lvX M l)) {t k : Int} (ht : 0 ≤ t ∧ t < M c 5) (hk : 0 ≤ k ∧ k < M l 3) (h : ∀ M2, frC c M M2 → cvX M2 c = lie (lvX M l) k t (cvX M c) → q M2) : zc_K g yX1_lieUp mX1_lieUp [zv_r c, zv_i t, zv_r l, zv_i k] M (zq_V q) := by
  refine zc_of (ls := [some (zv_r c), some (zv_i t), some (zv_r l), some (zv_i k), none, none, none]) (by decide) rfl ⟨rfl, rfl⟩ (Nat.le_of_ble_eq_true rfl) rfl ?_
  have hw0 := wXt hw
  have hw1 := wX hw ht
  have hL0 := yXk hL
  have hL1 := yX hL hk
  have ha : 0 ≤ app (M (c + 2) t) ∧ app (M (c + 2) t) ≤ 6 := by unfold app; split; omega; split <;> omega
  refine zr_aload_n (pc := 0) dX1_lieUp_0 rfl rfl ?_
  refine zr_getR (pc := 1) fX1_15 hc.1 rfl rfl dX1_lieUp_1 ?_
  refine zr_iload_n (pc := 4) dX1_lieUp_4 rfl rfl ?_
  refine zr_iaload (pc := 5) hc.2.2.1 (by omega) dX1_lieUp_5 ?_
  refine zr_nest1I (pc := 6) rfl sX1_59 rfl rfl dX1_lieUp_6 ?_
  refine ct_X10_appetiteOf (by omega) ?_
  refine zr_istore (pc := 9) dX1_lieUp_9 (Nat.le_of_ble_eq_true rfl) rfl ?_
  refine zr_iconst (pc := 11) dX1_lieUp_11 ?_
  refine zr_istore (pc := 12) dX1_lieUp_12 (Nat.le_of_ble_eq_true rfl) rfl ?_
  have hz := lp_X1_lieUp (g := g) hc hl hsep hw hL ht hk h _ (app (M (c + 2) t)) 0 (M (c + 3) t) none rfl (by omega) (by omega) ha (by omega) (by rw [Int.sub_zero])
  rw [put_self] at hz
  exact hz

set_option maxRecDepth 100000 in
set_option maxHeartbeats 4000000 in
theorem lp_X1_passNight2 {g : zt_G} {M : zm_M} {c l : Nat} {q : zm_M → Prop} (hc : zp_camp c) (hl : zp_land l) (hsep : l + 3 < c ∨ c + 4 < l) (hw : CW (cvX M c)) (hL : LW (lvX M l)) {cd : Int} (hcd : 0 ≤ cd ∧ cd < 16) (h : ∀ M2, frC c M M2 → cvX M2 c = nit (lvX M l) cd (cvX M c) → q M2) : ∀ (nn : Nat) (t : Int) (x4 : Option zv_A) (Mx : zm_M), (M c 5 - t).toNat = nn → 0 ≤ t → t ≤ M c 5 → frC c M Mx → cvX Mx c = fo n2 (fo (n1 (lvX M l) cd) (cvX M c) (M c 5).toNat) t.toNat → zc_Z g mX1_passNight 64 [some (zv_r c), some (zv_r l), some (zv_i cd), some (zv_i t), x4] [] Mx (zq_V q) := by
  intro nn
  induction nn using Nat.strongRecOn with
  | ind nn ih =>
    intro t x4 Mx hn h0 h1 hfr hv
    have hwx : CW (cvX Mx c) := by rw [hv]; exact CW_fo2 (CW_fo1 hL hw _) _
    have hLx : lvX Mx l = lvX M l := lvX_fr (fun k i h2 h3 => hfr k i (by omega))
    have hLw : LW (lvX Mx l) := by rw [hLx]; exact hL
    have hw0 := wXt hwx
    have hL0 := yXk hLw
    have htt : Mx c 5 = M c 5 := by
      have e1 : ct (cvX Mx c) = ct (cvX M c) := by rw [hv]; exact (ct_fo2 _).trans (ct_fo1 _)
      exact e1
    refine zr_iload_n (pc := 64) dX1_passNight_64 rfl rfl ?_
    refine zr_aload_n (pc := 65) dX1_passNight_65 rfl rfl ?_
    refine zr_getI (pc := 66) (z := 5) fX1_28 hc.1 rfl rfl rfl dX1_passNight_66 ?_
    refine zi_icmp_ge (pc := 69) (tgt := 115) dX1_passNight_69 (by decide) (by omega) (by omega) (fun h69 => ?_) (fun h69 => ?_)
    · refine zr_aload_n (pc := 115) dX1_passNight_115 rfl rfl ?_
      refine zr_iconst (pc := 116) dX1_passNight_116 ?_
      refine zr_putI (pc := 117) (z := 4) fX1_24 hc.1 rfl fwX1_4 rfl rfl dX1_passNight_117 ?_
      refine zr_aload_n (pc := 120) dX1_passNight_120 rfl rfl ?_
      refine zr_dup_r (pc := 121) dX1_passNight_121 ?_
      refine zr_getI (pc := 122) (z := 6) fX1_31 hc.1 rfl rfl rfl dX1_passNight_122 ?_
      refine zr_iconst (pc := 125) dX1_passNight_125 ?_
      refine zr_iadd (pc := 126) dX1_passNight_126 ?_
      refine zr_putI (pc := 127) (z := 6) fX1_31 hc.1 rfl fwX1_6 rfl rfl dX1_passNight_127 ?_
      exact zr_return (pc := 130) dX1_passNight_130 rfl (h _ ((hfr.put c 4 0 (by omega)).put c 6 _ (by omega)) (by
          rw [cvX_ni, cvX_wa, hv, show t.toNat = (M c 5).toNat by omega]
          rw [put_ni Mx (k := c) (k2 := c) (i := 4) (j := 6) 0 (by decide), show Mx c 6 = cg (cvX Mx c) from rfl, hv, show t.toNat = (M c 5).toNat by omega]
          rfl))
    · have ht : 0 ≤ t ∧ t < Mx c 5 := ⟨h0, h69⟩
      have hw1 := wX hwx ht
      refine zr_aload_n (pc := 72) dX1_passNight_72 rfl rfl ?_
      refine zr_getR (pc := 73) fX1_15 hc.1 rfl rfl dX1_passNight_73 ?_
      refine zr_iload_n (pc := 76) dX1_passNight_76 rfl rfl ?_
      refine zr_iaload (pc := 77) hc.2.2.1 (by omega) dX1_passNight_77 ?_
      refine zr_iconst (pc := 78) dX1_passNight_78 ?_
      refine zi_icmp_ne (pc := 79) (tgt := 109) dX1_passNight_79 (by decide) (by omega) (by omega) (fun h79 => ?_) (fun h79 => ?_)
      · have hstep : cvX Mx c = n2 t (cvX Mx c) := by
          unfold n2
          rw [if_neg (fun x => h79 (by have h8 := x.1; rw [vX_k ht] at h8; exact h8))]
        refine zr_iinc (pc := 109) dX1_passNight_109 rfl (Nat.le_of_ble_eq_true rfl) rfl ?_
        refine zr_goto (pc := 112) (tgt := 64) dX1_passNight_112 (by decide) ?_
        exact ih _ (by omega) _ _ _ rfl (by omega) (by omega) hfr (by rw [fo_s h0, ← hv]; exact hstep)
      · refine zr_aload_n (pc := 82) dX1_passNight_82 rfl rfl ?_
        refine zr_iload_n (pc := 83) dX1_passNight_83 rfl rfl ?_
        refine zr_inv1I (pc := 84) rfl sX1_34 hc.1 rfl rfl rfl dX1_passNight_84 ?_
        refine ct_X1_isHummock hc hwx ht ?_
        refine zr_ifb_ne (pc := 87) (tgt := 109) dX1_passNight_87 (by decide) (fun h87 => ?_) (fun h87 => ?_)
        · have hstep : cvX Mx c = n2 t (cvX Mx c) := by
            unfold n2
            rw [if_neg (fun x => x.2 h87)]
          refine zr_iinc (pc := 109) dX1_passNight_109 rfl (Nat.le_of_ble_eq_true rfl) rfl ?_
          refine zr_goto (pc := 112) (tgt := 64) dX1_passNight_112 (by decide) ?_
          exact ih _ (by omega) _ _ _ rfl (by omega) (by omega) hfr (by rw [fo_s h0, ← hv]; exact hstep)
        · refine zr_aload_n (pc := 90) dX1_passNight_90 rfl rfl ?_
          refine zr_getR (pc := 91) fX1_18 hc.1 rfl rfl dX1_passNight_91 ?_
          refine zr_iload_n (pc := 94) dX1_passNight_94 rfl rfl ?_
          refine zr_dup2_ir (pc := 95) dX1_passNight_95 ?_
          refine zr_iaload (pc := 96) hc.2.2.2.1 (by omega) dX1_passNight_96 ?_
          refine zr_aload_n (pc := 97) dX1_passNight_97 rfl rfl ?_
          refine zr_aload_n (pc := 98) dX1_passNight_98 rfl rfl ?_
          refine zr_getR (pc := 99) fX1_9 hc.1 rfl rfl dX1_passNight_99 ?_
          refine zr_iload_n (pc := 102) dX1_passNight_102 rfl rfl ?_
          refine zr_iaload (pc := 103) hc.2.1 (by omega) dX1_passNight_103 ?_
          refine zr_inv1I (pc := 104) rfl sX1_56 hc.1 rfl rfl rfl dX1_passNight_104 ?_
          refine ct_X1_knownAt hc hwx (by omega) ?_
          refine zr_ior (pc := 107) dX1_passNight_107 ?_
          refine zr_iastore (pc := 108) hc.2.2.2.1 (by omega) dX1_passNight_108 ?_
          refine zr_iinc (pc := 109) dX1_passNight_109 rfl (Nat.le_of_ble_eq_true rfl) rfl ?_
          refine zr_goto (pc := 112) (tgt := 64) dX1_passNight_112 (by decide) ?_
          exact ih _ (by omega) _ _ _ rfl (by omega) (by omega) (hfr.put (c + 3) t _ (by omega)) (by
            rw [fo_s h0, ← hv, cvX_kn h0 ht.2]
            unfold n2
            rw [if_pos ⟨by rw [vX_k ht]; exact h79, h87⟩, vX_p ht, vX_n ht])

set_option maxRecDepth 100000 in
set_option maxHeartbeats 4000000 in
theorem lp_X1_passNight1 {g : zt_G} {M : zm_M} {c l : Nat} {q : zm_M → Prop} (hc : zp_camp c) (hl : zp_land l) (hsep : l + 3 < c ∨ c + 4 < l) (hw : CW (cvX M c)) (hL : LW (lvX M l)) {cd : Int} (hcd : 0 ≤ cd ∧ cd < 16) (h : ∀ M2, frC c M M2 → cvX M2 c = nit (lvX M l) cd (cvX M c) → q M2) : ∀ (nn : Nat) (t : Int) (x4 : Option zv_A) (Mx : zm_M), (M c 5 - t).toNat = nn → 0 ≤ t → t ≤ M c 5 → frC c M Mx → cvX Mx c = fo (n1 (lvX M l) cd) (cvX M c) t.toNat → zc_Z g mX1_passNight 2 [some (zv_r c), some (zv_r l), some (zv_i cd), some (zv_i t), x4] [] Mx (zq_V q) := by
  intro nn
  induction nn using Nat.strongRecOn with
  | ind nn ih =>
    intro t x4 Mx hn h0 h1 hfr hv
    have hwx : CW (cvX Mx c) := by rw [hv]; exact CW_fo1 hL hw _
    have hLx : lvX Mx l = lvX M l := lvX_fr (fun k i h2 h3 => hfr k i (by omega))
    have hLw : LW (lvX Mx l) := by rw [hLx]; exact hL
    have hw0 := wXt hwx
    have hL0 := yXk hLw
    have htt : Mx c 5 = M c 5 := by
      have e1 : ct (cvX Mx c) = ct (cvX M c) := by rw [hv]; exact ct_fo1 _
      exact e1
    refine zr_iload_n (pc := 2) dX1_passNight_2 rfl rfl ?_
    refine zr_aload_n (pc := 3) dX1_passNight_3 rfl rfl ?_
    refine zr_getI (pc := 4) (z := 5) fX1_28 hc.1 rfl rfl rfl dX1_passNight_4 ?_
    refine zi_icmp_ge (pc := 7) (tgt := 62) dX1_passNight_7 (by decide) (by omega) (by omega) (fun h7 => ?_) (fun h7 => ?_)
    · refine zr_iconst (pc := 62) dX1_passNight_62 ?_
      refine zr_istore_n (pc := 63) dX1_passNight_63 rfl (Nat.le_of_ble_eq_true rfl) rfl ?_
      exact lp_X1_passNight2 hc hl hsep hw hL hcd h _ _ _ _ rfl (by omega) (by omega) hfr (by rw [show t = M c 5 by omega] at hv; exact hv)
    · have ht : 0 ≤ t ∧ t < Mx c 5 := ⟨h0, h7⟩
      have hw1 := wX hwx ht
      refine zr_aload_n (pc := 10) dX1_passNight_10 rfl rfl ?_
      refine zr_aload_n (pc := 11) dX1_passNight_11 rfl rfl ?_
      refine zr_getR (pc := 12) fX1_9 hc.1 rfl rfl dX1_passNight_12 ?_
      refine zr_iload_n (pc := 15) dX1_passNight_15 rfl rfl ?_
      refine zr_iaload (pc := 16) hc.2.1 (by omega) dX1_passNight_16 ?_
      refine zr_inv1I (pc := 17) rfl sX1_44 hl.1 rfl rfl rfl dX1_passNight_17 ?_
      refine ct_X3_kilnAt hl hLw (by omega) ?_
      rw [← vX_p ht, hLx]
      have hki := kiA_in (lvX M l) (cp (cvX Mx c) t) hL.1.1
      have hL3 : Mx l 3 = (lvX M l).1 := by rw [← hLx]; rfl
      have hL4 := hL.1
      refine zr_istore (pc := 20) dX1_passNight_20 (Nat.le_of_ble_eq_true rfl) rfl ?_
      refine zr_aload_n (pc := 22) dX1_passNight_22 rfl rfl ?_
      refine zr_iload (pc := 23) dX1_passNight_23 rfl ?_
      refine zr_inv1I (pc := 25) rfl sX1_49 hl.1 rfl rfl rfl dX1_passNight_25 ?_
      refine ct_X3_has hl hLw (by omega) ?_
      refine zr_ifb_eq (pc := 28) (tgt := 56) dX1_passNight_28 (by decide) (fun h28 => ?_) (fun h28 => ?_)
      · have hstep : cvX Mx c = n1 (lvX M l) cd t (cvX Mx c) := by
          unfold n1
          rw [if_pos (Or.inl (by omega))]
        refine zr_iinc (pc := 56) dX1_passNight_56 rfl (Nat.le_of_ble_eq_true rfl) rfl ?_
        refine zr_goto (pc := 59) (tgt := 2) dX1_passNight_59 (by decide) ?_
        exact ih _ (by omega) _ _ _ rfl (by omega) (by omega) hfr (by rw [fo_s h0, ← hv]; exact hstep)
      · have hk4 : 0 ≤ kiA (lvX M l) (cp (cvX Mx c) t) ∧ kiA (lvX M l) (cp (cvX Mx c) t) < 4 := by omega
        have hb4 := and4 hcd hk4
        refine zr_iload_n (pc := 31) dX1_passNight_31 rfl rfl ?_
        refine zr_iconst (pc := 32) dX1_passNight_32 ?_
        refine zr_iload (pc := 33) dX1_passNight_33 rfl ?_
        refine zr_ishl (pc := 35) dX1_passNight_35 ?_
        refine zr_iand (pc := 36) dX1_passNight_36 ?_
        refine zi_if_ne (pc := 37) (tgt := 56) dX1_passNight_37 (by decide) (by omega) (fun h37 => ?_) (fun h37 => ?_)
        · have hstep : cvX Mx c = n1 (lvX M l) cd t (cvX Mx c) := by
            unfold n1
            rw [if_pos (Or.inr (Or.inl (btT hb4.1 h37)))]
          refine zr_iinc (pc := 56) dX1_passNight_56 rfl (Nat.le_of_ble_eq_true rfl) rfl ?_
          refine zr_goto (pc := 59) (tgt := 2) dX1_passNight_59 (by decide) ?_
          exact ih _ (by omega) _ _ _ rfl (by omega) (by omega) hfr (by rw [fo_s h0, ← hv]; exact hstep)
        · refine zr_aload_n (pc := 40) dX1_passNight_40 rfl rfl ?_
          refine zr_iload_n (pc := 41) dX1_passNight_41 rfl rfl ?_
          refine zr_inv1I (pc := 42) rfl sX1_34 hc.1 rfl rfl rfl dX1_passNight_42 ?_
          refine ct_X1_isHummock hc hwx ht ?_
          refine zr_ifb_ne (pc := 45) (tgt := 56) dX1_passNight_45 (by decide) (fun h45 => ?_) (fun h45 => ?_)
          · have hstep : cvX Mx c = n1 (lvX M l) cd t (cvX Mx c) := by
              unfold n1
              rw [if_pos (Or.inr (Or.inr h45))]
            refine zr_iinc (pc := 56) dX1_passNight_56 rfl (Nat.le_of_ble_eq_true rfl) rfl ?_
            refine zr_goto (pc := 59) (tgt := 2) dX1_passNight_59 (by decide) ?_
            exact ih _ (by omega) _ _ _ rfl (by omega) (by omega) hfr (by rw [fo_s h0, ← hv]; exact hstep)
          · refine zr_aload_n (pc := 48) dX1_passNight_48 rfl rfl ?_
            refine zr_iload_n (pc := 49) dX1_passNight_49 rfl rfl ?_
            refine zr_aload_n (pc := 50) dX1_passNight_50 rfl rfl ?_
            refine zr_iload (pc := 51) dX1_passNight_51 rfl ?_
            refine zr_inv3V (pc := 53) rfl sX1_52 hc.1 rfl rfl rfl dX1_passNight_53 ?_
            refine ct_X1_lieUp hc hl hsep hwx hLw ht h28 (fun M2 hfr2 hv2 => ?_)
            refine zr_iinc (pc := 56) dX1_passNight_56 rfl (Nat.le_of_ble_eq_true rfl) rfl ?_
            refine zr_goto (pc := 59) (tgt := 2) dX1_passNight_59 (by decide) ?_
            exact ih _ (by omega) _ _ _ rfl (by omega) (by omega) (hfr.tr hfr2) (by
              rw [fo_s h0, ← hv, hv2, hLx]
              unfold n1
              rw [if_neg (fun x => x.elim (fun y => by omega) (fun y => y.elim (btF hb4.1 h37) h45))])

set_option maxRecDepth 100000 in
set_option maxHeartbeats 4000000 in
theorem ct_X1_passNight {g : zt_G} {M : zm_M} {c l : Nat} {q : zm_M → Prop} (hc : zp_camp c) (hl : zp_land l) (hsep : l + 3 < c ∨ c + 4 < l) (hw : CW (cvX M c)) (hL : LW (lvX M l)) {cd : Int} (hcd : 0 ≤ cd ∧ cd < 16) (h : ∀ M2, frC c M M2 → cvX M2 c = nit (lvX M l) cd (cvX M c) → q M2) : zc_K g yX1_passNight mX1_passNight [zv_r c, zv_r l, zv_i cd] M (zq_V q) := by
  refine zc_of (ls := [some (zv_r c), some (zv_r l), some (zv_i cd), none, none]) (by decide) rfl ⟨rfl, rfl⟩ (Nat.le_of_ble_eq_true rfl) rfl ?_
  have hw0 := wXt hw
  refine zr_iconst (pc := 0) dX1_passNight_0 ?_
  refine zr_istore_n (pc := 1) dX1_passNight_1 rfl (Nat.le_of_ble_eq_true rfl) rfl ?_
  exact lp_X1_passNight1 hc hl hsep hw hL hcd h _ _ _ _ rfl (by omega) (by omega) frC.rf rfl

theorem cvX_cpy {M M2 : zm_M} {c d : Nat} (h4 : M2 c 4 = M d 4) (h5 : M2 c 5 = M d 5) (h6 : M2 c 6 = M d 6) (ha : ∀ i, 0 ≤ i → i < M d 5 → M2 (c + 1) i = M (d + 1) i ∧ M2 (c + 2) i = M (d + 2) i ∧ M2 (c + 3) i = M (d + 3) i ∧ M2 (c + 4) i = M (d + 4) i) : cvX M2 c = cvX M d := by
  have e : ∀ (a b : Nat), (∀ i, 0 ≤ i → i < M d 5 → M2 a i = M b i) → msk (M d 5) (M2 a) = msk (M d 5) (M b) := by
    intro a b hab
    funext i
    unfold msk
    split
    · rename_i hx
      exact hab i hx.1 hx.2
    · rfl
  unfold cvX
  rw [h4, h5, h6, e (c + 1) (d + 1) (fun i x y => (ha i x y).1), e (c + 2) (d + 2) (fun i x y => (ha i x y).2.1), e (c + 3) (d + 3) (fun i x y => (ha i x y).2.2.1), e (c + 4) (d + 4) (fun i x y => (ha i x y).2.2.2)]
set_option maxRecDepth 100000 in
set_option maxHeartbeats 4000000 in
theorem lp_X1_copyFrom {g : zt_G} {M : zm_M} {c d : Nat} {q : zm_M → Prop} (hc : zp_camp c) (hd : zp_camp d) (hsep : d + 4 < c ∨ c + 4 < d) (hw : CW (cvX M d)) (h : ∀ M2, frC c M M2 → cvX M2 c = cvX M d → q M2) : ∀ (nn : Nat) (t : Int) (Mx : zm_M), (M d 5 - t).toNat = nn → 0 ≤ t → t ≤ M d 5 → frC c M Mx → (∀ i, 0 ≤ i → i < t → Mx (c + 1) i = M (d + 1) i ∧ Mx (c + 2) i = M (d + 2) i ∧ Mx (c + 3) i = M (d + 3) i ∧ Mx (c + 4) i = M (d + 4) i) → zc_Z g mX1_copyFrom 2 [some (zv_r c), some (zv_r d), some (zv_i t)] [] Mx (zq_V q) := by
  intro nn
  induction nn using Nat.strongRecOn with
  | ind nn ih =>
    intro t Mx hn h0 h1 hfr hv
    have hw0 := wXt hw
    have r0 : ∀ i, Mx d i = M d i := fun i => hfr d i (by omega)
    have r1 : ∀ i, Mx (d + 1) i = M (d + 1) i := fun i => hfr (d + 1) i (by omega)
    have r2 : ∀ i, Mx (d + 2) i = M (d + 2) i := fun i => hfr (d + 2) i (by omega)
    have r3 : ∀ i, Mx (d + 3) i = M (d + 3) i := fun i => hfr (d + 3) i (by omega)
    have r4 : ∀ i, Mx (d + 4) i = M (d + 4) i := fun i => hfr (d + 4) i (by omega)
    have r05 := r0 5
    refine zr_iload_n (pc := 2) dX1_copyFrom_2 rfl rfl ?_
    refine zr_aload_n (pc := 3) dX1_copyFrom_3 rfl rfl ?_
    refine zr_getI (pc := 4) (z := 5) fX1_28 hd.1 rfl rfl rfl dX1_copyFrom_4 ?_
    refine zi_icmp_ge (pc := 7) (tgt := 64) dX1_copyFrom_7 (by decide) (by omega) (by omega) (fun h7 => ?_) (fun h7 => ?_)
    · refine zr_aload_n (pc := 64) dX1_copyFrom_64 rfl rfl ?_
      refine zr_aload_n (pc := 65) dX1_copyFrom_65 rfl rfl ?_
      refine zr_getI (pc := 66) (z := 4) fX1_24 hd.1 rfl rfl rfl dX1_copyFrom_66 ?_
      refine zr_putI (pc := 69) (z := 4) fX1_24 hc.1 rfl fwX1_4 rfl rfl dX1_copyFrom_69 ?_
      refine zr_aload_n (pc := 72) dX1_copyFrom_72 rfl rfl ?_
      refine zr_aload_n (pc := 73) dX1_copyFrom_73 rfl rfl ?_
      refine zr_getI (pc := 74) (z := 5) fX1_28 hd.1 rfl rfl rfl dX1_copyFrom_74 ?_
      refine zr_putI (pc := 77) (z := 5) fX1_28 hc.1 rfl fwX1_5 rfl rfl dX1_copyFrom_77 ?_
      refine zr_aload_n (pc := 80) dX1_copyFrom_80 rfl rfl ?_
      refine zr_aload_n (pc := 81) dX1_copyFrom_81 rfl rfl ?_
      refine zr_getI (pc := 82) (z := 6) fX1_31 hd.1 rfl rfl rfl dX1_copyFrom_82 ?_
      refine zr_putI (pc := 85) (z := 6) fX1_31 hc.1 rfl fwX1_6 rfl rfl dX1_copyFrom_85 ?_
      exact zr_return (pc := 88) dX1_copyFrom_88 rfl (h _ (((hfr.put c 4 _ (by omega)).put c 5 _ (by omega)).put c 6 _ (by omega)) (cvX_cpy (by
          rw [put_ni _ _ (show (4 : Int) ≠ 6 by decide), put_ni _ _ (show (4 : Int) ≠ 5 by decide), put_at, r0]) (by
          rw [put_ni _ _ (show (5 : Int) ≠ 6 by decide), put_at, put_nk _ _ _ _ (show d ≠ c by omega), r0]) (by
          rw [put_at, put_nk _ _ _ _ (show d ≠ c by omega), put_nk _ _ _ _ (show d ≠ c by omega), r0]) (fun i g0 g1 => by
          rw [put_nk _ _ _ _ (show c + 1 ≠ c by omega), put_nk _ _ _ _ (show c + 1 ≠ c by omega), put_nk _ _ _ _ (show c + 1 ≠ c by omega), put_nk _ _ _ _ (show c + 2 ≠ c by omega), put_nk _ _ _ _ (show c + 2 ≠ c by omega), put_nk _ _ _ _ (show c + 2 ≠ c by omega), put_nk _ _ _ _ (show c + 3 ≠ c by omega), put_nk _ _ _ _ (show c + 3 ≠ c by omega), put_nk _ _ _ _ (show c + 3 ≠ c by omega), put_nk _ _ _ _ (show c + 4 ≠ c by omega), put_nk _ _ _ _ (show c + 4 ≠ c by omega), put_nk _ _ _ _ (show c + 4 ≠ c by omega)]
          exact hv i g0 (by omega))))
    · refine zr_aload_n (pc := 10) dX1_copyFrom_10 rfl rfl ?_
      refine zr_getR (pc := 11) fX1_9 hc.1 rfl rfl dX1_copyFrom_11 ?_
      refine zr_iload_n (pc := 14) dX1_copyFrom_14 rfl rfl ?_
      refine zr_aload_n (pc := 15) dX1_copyFrom_15 rfl rfl ?_
      refine zr_getR (pc := 16) fX1_9 hd.1 rfl rfl dX1_copyFrom_16 ?_
      refine zr_iload_n (pc := 19) dX1_copyFrom_19 rfl rfl ?_
      refine zr_iaload (pc := 20) hd.2.1 (by omega) dX1_copyFrom_20 ?_
      refine zr_iastore (pc := 21) hc.2.1 (by omega) dX1_copyFrom_21 ?_
      refine zr_aload_n (pc := 22) dX1_copyFrom_22 rfl rfl ?_
      refine zr_getR (pc := 23) fX1_15 hc.1 rfl rfl dX1_copyFrom_23 ?_
      refine zr_iload_n (pc := 26) dX1_copyFrom_26 rfl rfl ?_
      refine zr_aload_n (pc := 27) dX1_copyFrom_27 rfl rfl ?_
      refine zr_getR (pc := 28) fX1_15 hd.1 rfl rfl dX1_copyFrom_28 ?_
      refine zr_iload_n (pc := 31) dX1_copyFrom_31 rfl rfl ?_
      refine zr_iaload (pc := 32) hd.2.2.1 (by omega) dX1_copyFrom_32 ?_
      refine zr_iastore (pc := 33) hc.2.2.1 (by omega) dX1_copyFrom_33 ?_
      refine zr_aload_n (pc := 34) dX1_copyFrom_34 rfl rfl ?_
      refine zr_getR (pc := 35) fX1_18 hc.1 rfl rfl dX1_copyFrom_35 ?_
      refine zr_iload_n (pc := 38) dX1_copyFrom_38 rfl rfl ?_
      refine zr_aload_n (pc := 39) dX1_copyFrom_39 rfl rfl ?_
      refine zr_getR (pc := 40) fX1_18 hd.1 rfl rfl dX1_copyFrom_40 ?_
      refine zr_iload_n (pc := 43) dX1_copyFrom_43 rfl rfl ?_
      refine zr_iaload (pc := 44) hd.2.2.2.1 (by omega) dX1_copyFrom_44 ?_
      refine zr_iastore (pc := 45) hc.2.2.2.1 (by omega) dX1_copyFrom_45 ?_
      refine zr_aload_n (pc := 46) dX1_copyFrom_46 rfl rfl ?_
      refine zr_getR (pc := 47) fX1_21 hc.1 rfl rfl dX1_copyFrom_47 ?_
      refine zr_iload_n (pc := 50) dX1_copyFrom_50 rfl rfl ?_
      refine zr_aload_n (pc := 51) dX1_copyFrom_51 rfl rfl ?_
      refine zr_getR (pc := 52) fX1_21 hd.1 rfl rfl dX1_copyFrom_52 ?_
      refine zr_iload_n (pc := 55) dX1_copyFrom_55 rfl rfl ?_
      refine zr_iaload (pc := 56) hd.2.2.2.2 (by omega) dX1_copyFrom_56 ?_
      refine zr_iastore (pc := 57) hc.2.2.2.2 (by omega) dX1_copyFrom_57 ?_
      refine zr_iinc (pc := 58) dX1_copyFrom_58 rfl (Nat.le_of_ble_eq_true rfl) rfl ?_
      refine zr_goto (pc := 61) (tgt := 2) dX1_copyFrom_61 (by decide) ?_
      refine ih _ (by omega) _ _ rfl (by omega) (by omega) ((((hfr.put (c + 1) t _ (by omega)).put (c + 2) t _ (by omega)).put (c + 3) t _ (by omega)).put (c + 4) t _ (by omega)) (fun i g0 g1 => ?_)
      have d1 : d + 1 ≠ c + 1 ∧ d + 2 ≠ c + 1 ∧ d + 3 ≠ c + 1 ∧ d + 4 ≠ c + 1 := by omega
      have d2 : d + 2 ≠ c + 2 ∧ d + 3 ≠ c + 2 ∧ d + 4 ≠ c + 2 := by omega
      have d3 : d + 3 ≠ c + 3 ∧ d + 4 ≠ c + 3 := by omega
      by_cases hi : i = t
      · subst hi
        refine ⟨?_, ?_, ?_, ?_⟩
        · rw [put_nk _ _ _ _ (show c + 1 ≠ c + 4 by omega), put_nk _ _ _ _ (show c + 1 ≠ c + 3 by omega), put_nk _ _ _ _ (show c + 1 ≠ c + 2 by omega), put_at, r1]
        · rw [put_nk _ _ _ _ (show c + 2 ≠ c + 4 by omega), put_nk _ _ _ _ (show c + 2 ≠ c + 3 by omega), put_at, put_nk _ _ _ _ d1.2.1, r2]
        · rw [put_nk _ _ _ _ (show c + 3 ≠ c + 4 by omega), put_at, put_nk _ _ _ _ d2.2.1, put_nk _ _ _ _ d1.2.2.1, r3]
        · rw [put_at, put_nk _ _ _ _ d3.2, put_nk _ _ _ _ d2.2.2, put_nk _ _ _ _ d1.2.2.2, r4]
      · have h5 := hv i g0 (by omega)
        rw [put_ni _ _ hi, put_ni _ _ hi, put_ni _ _ hi, put_ni _ _ hi, put_ni _ _ hi, put_ni _ _ hi, put_ni _ _ hi, put_ni _ _ hi, put_ni _ _ hi, put_ni _ _ hi, put_ni _ _ hi, put_ni _ _ hi, put_ni _ _ hi, put_ni _ _ hi, put_ni _ _ hi, put_ni _ _ hi]
        exact h5

set_option maxRecDepth 100000 in
set_option maxHeartbeats 4000000 in
theorem ct_X1_copyFrom {g : zt_G} {M : zm_M} {c d : Nat} {q : zm_M → Prop} (hc : zp_camp c) (hd : zp_camp d) (hsep : d + 4 < c ∨ c + 4 < d) (hw : CW (cvX M d)) (h : ∀ M2, frC c M M2 → cvX M2 c = cvX M d → q M2) : zc_K g yX1_copyFrom mX1_copyFrom [zv_r c, zv_r d] M (zq_V q) := by
  refine zc_of (ls := [some (zv_r c), some (zv_r d), none]) (by decide) rfl ⟨rfl, rfl⟩ (Nat.le_of_ble_eq_true rfl) rfl ?_
  have hw0 := wXt hw
  refine zr_iconst (pc := 0) dX1_copyFrom_0 ?_
  refine zr_istore_n (pc := 1) dX1_copyFrom_1 rfl (Nat.le_of_ble_eq_true rfl) rfl ?_
  exact lp_X1_copyFrom hc hd hsep hw h _ _ _ rfl (by omega) (by omega) frC.rf (fun i g0 g1 => by omega)

