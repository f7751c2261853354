set_option maxRecDepth 100000 in
set_option maxHeartbeats 4000000 in
theorem ct_X11_goTo {g : zt_G} {M : zm_M} {q : zm_M → Prop} (hC : CW (cvG M 51 (14 * 1))) (hL : LW (lvM M)) {t k : Int} (ht : zi t) (hk : zi k) (h : ∀ M2, frW 1 M M2 → cvG M2 51 (14 * 1) = goK (lvM M) t k (cvG M 51 (14 * 1)) → q M2) : zc_K g yX11_goTo mX11_goTo [zv_r 46, zv_i t, zv_i k] M (zq_V q) := by
  refine zc_of (ls := [some (zv_r 46), some (zv_i t), some (zv_i k)]) (by decide) rfl ⟨rfl, rfl⟩ (Nat.le_of_ble_eq_true rfl) rfl ?_
  have hw0 := wGt hC
  have hk0 := yMk hL
  have e0 : (lvM M).1 = M 46 0 := rfl
  refine zr_aload_n (pc := 0) dX11_goTo_0 rfl rfl ?_
  refine zr_iload_n (pc := 1) dX11_goTo_1 rfl rfl ?_
  refine zr_inv1I (pc := 2) rfl sX11_149 lo_46 rfl rfl rfl dX11_goTo_2 ?_
  refine ct_X11_isKiln hk0 hk ?_
  refine zr_ifb_eq (pc := 5) (tgt := 35) dX11_goTo_5 (by decide) (fun h5 => ?_) (fun h5 => ?_)
  · exact zr_return (pc := 35) dX11_goTo_35 rfl (h M frW.rf (by unfold goK; rw [if_neg (fun y => h5 y.1)]))
  · have hy := yM hL h5
    have hyp := lM_p h5
    refine zr_aload_n (pc := 8) dX11_goTo_8 rfl rfl ?_
    refine zr_iconst (pc := 9) dX11_goTo_9 ?_
    refine zr_iload_n (pc := 10) dX11_goTo_10 rfl rfl ?_
    refine zr_aload_n (pc := 11) dX11_goTo_11 rfl rfl ?_
    refine zr_getR (pc := 12) fX11_7 lo_46 rfl rfl dX11_goTo_12 ?_
    refine zr_iload_n (pc := 15) dX11_goTo_15 rfl rfl ?_
    refine zr_iaload (pc := 16) lo_47 (by omega) dX11_goTo_16 ?_
    refine zr_inv3I (pc := 17) rfl sX11_176 lo_46 rfl rfl rfl dX11_goTo_17 ?_
    refine ct_X11_canWalk (by decide) hC ht (by omega) ?_
    refine zr_ifb_eq (pc := 20) (tgt := 35) dX11_goTo_20 (by decide) (fun h20 => ?_) (fun h20 => ?_)
    · exact zr_return (pc := 35) dX11_goTo_35 rfl (h M frW.rf (by unfold goK; rw [if_neg (fun y => h20 (by rw [← hyp]; exact y.2))]))
    · refine zr_aload_n (pc := 23) dX11_goTo_23 rfl rfl ?_
      refine zr_iconst (pc := 24) dX11_goTo_24 ?_
      refine zr_iload_n (pc := 25) dX11_goTo_25 rfl rfl ?_
      refine zr_aload_n (pc := 26) dX11_goTo_26 rfl rfl ?_
      refine zr_getR (pc := 27) fX11_7 lo_46 rfl rfl dX11_goTo_27 ?_
      refine zr_iload_n (pc := 30) dX11_goTo_30 rfl rfl ?_
      refine zr_iaload (pc := 31) lo_47 (by omega) dX11_goTo_31 ?_
      refine zr_inv3V (pc := 32) rfl sX11_180 lo_46 rfl rfl rfl dX11_goTo_32 ?_
      refine ct_X11_walkOn (by decide) hC h20.1 (fun M2 hf2 hv2 => ?_)
      exact zr_return (pc := 35) dX11_goTo_35 rfl (h M2 hf2 (by unfold goK; rw [if_pos ⟨h5, by rw [hyp]; exact h20⟩, hyp]; exact hv2))

set_option maxRecDepth 100000 in
set_option maxHeartbeats 4000000 in
theorem ct_X11_gain {g : zt_G} {M : zm_M} {q : Int → zm_M → Prop} {C : Cm} {L : Ln} (hc0 : cvG M 51 (14 * 0) = C) (hC : CW C) (hl0 : lvM M = L) (hL : LW L) (hcd : M 46 18 = 0) {p r a b t : Int} (hp : cHas C p) (hr : cHas C r) (ht : cHas C t) (ha : zi a) (hb : zi b) (h : ∀ M2, frW 1 M M2 → q (2 * on6 (cn (rsD L C p r a b) t) - (if cp (rsD L C p r a b) p = cp (rsD L C p r a b) r then 3 else 0)) M2) : zc_K g yX11_gain mX11_gain [zv_r 46, zv_i p, zv_i r, zv_i a, zv_i b, zv_i t] M (zq_I q) := by
  refine zc_of (ls := [some (zv_r 46), some (zv_i p), some (zv_i r), some (zv_i a), some (zv_i b), some (zv_i t)]) (by decide) rfl ⟨rfl, rfl⟩ (Nat.le_of_ble_eq_true rfl) rfl ?_
  have hT : M 46 1 = ct C := by rw [← hc0]; rfl
  have hT4 := hC.1
  have hp2 : 0 ≤ p ∧ p < ct C := hp
  have hr2 : 0 ≤ r ∧ r < ct C := hr
  have ht2 : 0 ≤ t ∧ t < ct C := ht
  refine zr_aload_n (pc := 0) dX11_gain_0 rfl rfl ?_
  refine zr_inv0V (pc := 1) rfl sX11_195 lo_46 rfl rfl rfl dX11_gain_1 ?_
  refine ct_X11_layTrial (by omega) (fun M1 hf1 hv1 => ?_)
  rw [hc0] at hv1
  have hl1 : lvM M1 = L := by rw [lvM_fr (hf1 _ _ (by omega)) (fun k i a b => hf1 k i (by omega)), hl0]
  refine zr_aload_n (pc := 4) dX11_gain_4 rfl rfl ?_
  refine zr_iload_n (pc := 5) dX11_gain_5 rfl rfl ?_
  refine zr_iload_n (pc := 6) dX11_gain_6 rfl rfl ?_
  refine zr_inv2V (pc := 7) rfl sX11_256 lo_46 rfl rfl rfl dX11_gain_7 ?_
  refine ct_X11_goTo (by rw [hv1]; exact hC) (by rw [hl1]; exact hL) (by omega) ha (fun M2 hf2 hv2 => ?_)
  rw [hv1, hl1] at hv2
  have hl2 : lvM M2 = L := by rw [lvM_fr (hf2 _ _ (by omega)) (fun k i a b => hf2 k i (by omega)), hl1]
  have hC2 := CW_goK (t := p) (g := a) hL hC
  refine zr_aload_n (pc := 10) dX11_gain_10 rfl rfl ?_
  refine zr_iload_n (pc := 11) dX11_gain_11 rfl rfl ?_
  refine zr_iload (pc := 12) dX11_gain_12 rfl ?_
  refine zr_inv2V (pc := 14) rfl sX11_256 lo_46 rfl rfl rfl dX11_gain_14 ?_
  refine ct_X11_goTo (by rw [hv2]; exact hC2.1) (by rw [hl2]; exact hL) (by omega) hb (fun M3 hf3 hv3 => ?_)
  rw [hv2, hl2] at hv3
  have hl3 : lvM M3 = L := by rw [lvM_fr (hf3 _ _ (by omega)) (fun k i a b => hf3 k i (by omega)), hl2]
  have hC3 := CW_goK (t := r) (g := b) hL hC2.1
  have hf13 := (hf1.tr hf2).tr hf3
  have ec3 : M3 46 18 = 0 := by rw [hf13 _ _ (by omega)]; exact hcd
  refine zr_aload_n (pc := 17) dX11_gain_17 rfl rfl ?_
  refine zr_iconst (pc := 18) dX11_gain_18 ?_
  refine zr_inv1V (pc := 19) rfl sX11_167 lo_46 rfl rfl rfl dX11_gain_19 ?_
  refine ct_X11_passOn (by decide) (by rw [hv3]; exact hC3.1) (by rw [hl3]; exact hL) (by rw [ec3]; decide) (fun M4 hf4 hv4 => ?_)
  rw [hv3, hl3, ec3] at hv4
  have hv5 : cvG M4 51 (14 * 1) = rsD L C p r a b := hv4
  have hf14 := hf13.tr hf4
  have hT4x : M4 46 1 = ct C := by rw [hf14 _ _ (by omega)]; exact hT
  have hC4 : CW (rsD L C p r a b) := (CW_rsD hL hC).1
  have en : cn (rsD L C p r a b) t = M4 51 (18 + t) := by rw [← hv5]; exact vG_n (by omega) (by omega)
  have ep : cp (rsD L C p r a b) p = M4 51 (14 + p) := by rw [← hv5]; exact vG_p (by omega) (by omega)
  have er : cp (rsD L C p r a b) r = M4 51 (14 + r) := by rw [← hv5]; exact vG_p (by omega) (by omega)
  have hni := (hC4.2.2 t).2.2.1
  have hpi := (hC4.2.2 p).1
  have hri := (hC4.2.2 r).1
  rw [en] at hni
  rw [ep] at hpi
  rw [er] at hri
  refine zr_iconst (pc := 22) dX11_gain_22 ?_
  refine zr_aload_n (pc := 23) dX11_gain_23 rfl rfl ?_
  refine zr_getR (pc := 24) fX11_22 lo_46 rfl rfl dX11_gain_24 ?_
  refine zr_bipush (pc := 27) dX11_gain_27 (by decide) ?_
  refine zr_iload (pc := 29) dX11_gain_29 rfl ?_
  refine zr_iadd (pc := 31) dX11_gain_31 ?_
  refine zr_iaload (pc := 32) lo_51 (by omega) dX11_gain_32 ?_
  refine zr_stat1I (pc := 33) rfl sX11_173 rfl rfl dX11_gain_33 ?_
  refine ct_X11_ones (by omega) ?_
  refine zr_imul (pc := 36) dX11_gain_36 ?_
  refine zr_aload_n (pc := 37) dX11_gain_37 rfl rfl ?_
  refine zr_getR (pc := 38) fX11_22 lo_46 rfl rfl dX11_gain_38 ?_
  refine zr_bipush (pc := 41) dX11_gain_41 (by decide) ?_
  refine zr_iload_n (pc := 43) dX11_gain_43 rfl rfl ?_
  refine zr_iadd (pc := 44) dX11_gain_44 ?_
  refine zr_iaload (pc := 45) lo_51 (by omega) dX11_gain_45 ?_
  refine zr_aload_n (pc := 46) dX11_gain_46 rfl rfl ?_
  refine zr_getR (pc := 47) fX11_22 lo_46 rfl rfl dX11_gain_47 ?_
  refine zr_bipush (pc := 50) dX11_gain_50 (by decide) ?_
  refine zr_iload_n (pc := 52) dX11_gain_52 rfl rfl ?_
  refine zr_iadd (pc := 53) dX11_gain_53 ?_
  refine zr_iaload (pc := 54) lo_51 (by omega) dX11_gain_54 ?_
  refine zi_icmp_ne (pc := 55) (tgt := 62) dX11_gain_55 (by decide) (by omega) (by omega) (fun h55 => ?_) (fun h55 => ?_)
  · refine zr_iconst (pc := 62) dX11_gain_62 ?_
    refine zr_isub (pc := 63) dX11_gain_63 ?_
    exact zr_ireturn (pc := 64) dX11_gain_64 rfl (zq_eq (h M4 hf14) (by rw [en, ep, er, if_neg h55]))
  · refine zr_iconst (pc := 58) dX11_gain_58 ?_
    refine zr_goto (pc := 59) (tgt := 63) dX11_gain_59 (by decide) ?_
    refine zr_isub (pc := 63) dX11_gain_63 ?_
    exact zr_ireturn (pc := 64) dX11_gain_64 rfl (zq_eq (h M4 hf14) (by rw [en, ep, er, if_pos h55]))

theorem gn_a (D : Cm) (p r : Int) : 2 * on6 (cn D p) - (if cp D p = cp D r then 3 else 0) = gnO D p r := rfl
theorem gn_b (D : Cm) (p r : Int) : 2 * on6 (cn D r) - (if cp D p = cp D r then 3 else 0) = gnO D r p := by
  unfold gnO
  by_cases h : cp D p = cp D r
  · rw [if_pos h, if_pos h.symm]
  · rw [if_neg h, if_neg (fun y => h y.symm)]
theorem gn_i {D : Cm} (h : CW D) (p r : Int) : zi (gnO D p r) := by
  have h1 := on6_i (h.2.2 p).2.2.1
  unfold gnO
  split <;> omega
set_option maxRecDepth 100000 in
set_option maxHeartbeats 4000000 in
theorem lp_X11_isRest {g : zt_G} {M : zm_M} {q : Int → zm_M → Prop} {C : Cm} {L : Ln} (hc0 : cvG M 51 (14 * 0) = C) (hC : CW C) (hl0 : lvM M = L) (hL : LW L) (hcd : M 46 18 = 0) {p r a b : Int} (hp : cHas C p) (hr : cHas C r) (ha : zi a) (hb : zi b) (h : ∀ M2, frW 1 M M2 → q (zb_B (rsR L C p r a b = true)) M2) : ∀ (nn : Nat) (x k : Int) (Mx : zm_M), (4 - k).toNat = nn → 0 ≤ k → k ≤ 4 → frW 1 M Mx → x = zb_B (fo (fun g x => x && decide (gnO (rsD L C p r g b) p r ≤ gnO (rsD L C p r a b) p r ∧ gnO (rsD L C p r a g) r p ≤ gnO (rsD L C p r a b) r p)) true k.toNat = true) → zc_Z g mX11_isRest 6 [some (zv_r 46), some (zv_i p), some (zv_i r), some (zv_i a), some (zv_i b), some (zv_i x), some (zv_i k)] [] Mx (zq_I q) := by
  intro nn
  induction nn using Nat.strongRecOn with
  | ind nn ih =>
    intro x k Mx hnn h0 h1 hfr hx
    have hT : M 46 1 = ct C := by rw [← hc0]; rfl
    have hT4 : M 46 1 ≤ 4 := by rw [hT]; exact hC.1.2
    have hx1 : x = 0 ∨ x = 1 := by rw [hx]; exact zb_01
    have hD : ∀ c d, CW (rsD L C p r c d) := fun c d => (CW_rsD hL hC).1
    have hz1 := gn_i (hD k b) p r
    have hz2 := gn_i (hD a b) p r
    have hz3 := gn_i (hD a k) r p
    have hz4 := gn_i (hD a b) r p
    refine zr_iload (pc := 6) dX11_isRest_6 rfl ?_
    refine zr_iconst (pc := 8) dX11_isRest_8 ?_
    refine zi_icmp_ge (pc := 9) (tgt := 77) dX11_isRest_9 (by decide) (by omega) (by omega) (fun h9 => ?_) (fun h9 => ?_)
    · subst hx
      refine zr_iload (pc := 77) dX11_isRest_77 rfl ?_
      exact zr_zreturn (pc := 79) dX11_isRest_79 rfl zb_01 (zq_eq (h Mx hfr) (by rw [show k = 4 by omega]; rfl))
    · refine zr_iload (pc := 12) dX11_isRest_12 rfl ?_
      refine zi_if_eq (pc := 14) (tgt := 68) dX11_isRest_14 (by decide) (by omega) (fun h14 => ?_) (fun h14 => ?_)
      · refine zr_iconst (pc := 68) dX11_isRest_68 ?_
        refine zr_istore (pc := 69) dX11_isRest_69 (Nat.le_of_ble_eq_true rfl) rfl ?_
        refine zr_iinc (pc := 71) dX11_isRest_71 rfl (Nat.le_of_ble_eq_true rfl) rfl ?_
        refine zr_goto (pc := 74) (tgt := 6) dX11_isRest_74 (by decide) ?_
        exact ih _ (by omega) _ _ _ rfl (by omega) (by omega) hfr (by
          rw [fo_s h0]
          refine zb_F (fun y => ?_)
          have y2 := (Bool.and_eq_true _ _).mp y
          rw [zb_B, if_pos y2.1] at hx
          omega)
      · refine zr_aload_n (pc := 17) dX11_isRest_17 rfl rfl ?_
        refine zr_iload_n (pc := 18) dX11_isRest_18 rfl rfl ?_
        refine zr_iload_n (pc := 19) dX11_isRest_19 rfl rfl ?_
        refine zr_iload (pc := 20) dX11_isRest_20 rfl ?_
        refine zr_iload (pc := 22) dX11_isRest_22 rfl ?_
        refine zr_iload_n (pc := 24) dX11_isRest_24 rfl rfl ?_
        refine zr_inv5I (pc := 25) rfl sX11_259 lo_46 rfl rfl rfl dX11_isRest_25 ?_
        refine ct_X11_gain (M := Mx) (by rw [cvG_fr (hfr _ _ (by omega)) (fun t => hfr _ _ (by omega)) (fun i _ _ => hfr _ _ (by omega)) hT4]; exact hc0) hC (by rw [lvM_fr (hfr _ _ (by omega)) (fun k i a b => hfr k i (by omega))]; exact hl0) hL (by rw [hfr _ _ (by omega)]; exact hcd) hp hr hp (by omega) hb (fun M1 hg1 => ?_)
        rw [gn_a]
        have hf1 := hfr.tr hg1
        refine zr_aload_n (pc := 28) dX11_isRest_28 rfl rfl ?_
        refine zr_iload_n (pc := 29) dX11_isRest_29 rfl rfl ?_
        refine zr_iload_n (pc := 30) dX11_isRest_30 rfl rfl ?_
        refine zr_iload_n (pc := 31) dX11_isRest_31 rfl rfl ?_
        refine zr_iload (pc := 32) dX11_isRest_32 rfl ?_
        refine zr_iload_n (pc := 34) dX11_isRest_34 rfl rfl ?_
        refine zr_inv5I (pc := 35) rfl sX11_259 lo_46 rfl rfl rfl dX11_isRest_35 ?_
        refine ct_X11_gain (M := M1) (by rw [cvG_fr (hf1 _ _ (by omega)) (fun t => hf1 _ _ (by omega)) (fun i _ _ => hf1 _ _ (by omega)) hT4]; exact hc0) hC (by rw [lvM_fr (hf1 _ _ (by omega)) (fun k i a b => hf1 k i (by omega))]; exact hl0) hL (by rw [hf1 _ _ (by omega)]; exact hcd) hp hr hp ha hb (fun M2 hg2 => ?_)
        rw [gn_a]
        have hf2 := hf1.tr hg2
        refine zi_icmp_gt (pc := 38) (tgt := 68) dX11_isRest_38 (by decide) hz1 hz2 (fun h38 => ?_) (fun h38 => ?_)
        · refine zr_iconst (pc := 68) dX11_isRest_68 ?_
          refine zr_istore (pc := 69) dX11_isRest_69 (Nat.le_of_ble_eq_true rfl) rfl ?_
          refine zr_iinc (pc := 71) dX11_isRest_71 rfl (Nat.le_of_ble_eq_true rfl) rfl ?_
          refine zr_goto (pc := 74) (tgt := 6) dX11_isRest_74 (by decide) ?_
          exact ih _ (by omega) _ _ _ rfl (by omega) (by omega) hf2 (by
            rw [fo_s h0]
            refine zb_F (fun y => ?_)
            have y2 := of_decide_eq_true ((Bool.and_eq_true _ _).mp y).2
            omega)
        · refine zr_aload_n (pc := 41) dX11_isRest_41 rfl rfl ?_
          refine zr_iload_n (pc := 42) dX11_isRest_42 rfl rfl ?_
          refine zr_iload_n (pc := 43) dX11_isRest_43 rfl rfl ?_
          refine zr_iload_n (pc := 44) dX11_isRest_44 rfl rfl ?_
          refine zr_iload (pc := 45) dX11_isRest_45 rfl ?_
          refine zr_iload_n (pc := 47) dX11_isRest_47 rfl rfl ?_
          refine zr_inv5I (pc := 48) rfl sX11_259 lo_46 rfl rfl rfl dX11_isRest_48 ?_
          refine ct_X11_gain (M := M2) (by rw [cvG_fr (hf2 _ _ (by omega)) (fun t => hf2 _ _ (by omega)) (fun i _ _ => hf2 _ _ (by omega)) hT4]; exact hc0) hC (by rw [lvM_fr (hf2 _ _ (by omega)) (fun k i a b => hf2 k i (by omega))]; exact hl0) hL (by rw [hf2 _ _ (by omega)]; exact hcd) hp hr hr ha (by omega) (fun M3 hg3 => ?_)
          rw [gn_b]
          have hf3 := hf2.tr hg3
          refine zr_aload_n (pc := 51) dX11_isRest_51 rfl rfl ?_
          refine zr_iload_n (pc := 52) dX11_isRest_52 rfl rfl ?_
          refine zr_iload_n (pc := 53) dX11_isRest_53 rfl rfl ?_
          refine zr_iload_n (pc := 54) dX11_isRest_54 rfl rfl ?_
          refine zr_iload (pc := 55) dX11_isRest_55 rfl ?_
          refine zr_iload_n (pc := 57) dX11_isRest_57 rfl rfl ?_
          refine zr_inv5I (pc := 58) rfl sX11_259 lo_46 rfl rfl rfl dX11_isRest_58 ?_
          refine ct_X11_gain (M := M3) (by rw [cvG_fr (hf3 _ _ (by omega)) (fun t => hf3 _ _ (by omega)) (fun i _ _ => hf3 _ _ (by omega)) hT4]; exact hc0) hC (by rw [lvM_fr (hf3 _ _ (by omega)) (fun k i a b => hf3 k i (by omega))]; exact hl0) hL (by rw [hf3 _ _ (by omega)]; exact hcd) hp hr hr ha hb (fun M4 hg4 => ?_)
          rw [gn_b]
          have hf4 := hf3.tr hg4
          refine zi_icmp_gt (pc := 61) (tgt := 68) dX11_isRest_61 (by decide) hz3 hz4 (fun h61 => ?_) (fun h61 => ?_)
          · refine zr_iconst (pc := 68) dX11_isRest_68 ?_
            refine zr_istore (pc := 69) dX11_isRest_69 (Nat.le_of_ble_eq_true rfl) rfl ?_
            refine zr_iinc (pc := 71) dX11_isRest_71 rfl (Nat.le_of_ble_eq_true rfl) rfl ?_
            refine zr_goto (pc := 74) (tgt := 6) dX11_isRest_74 (by decide) ?_
            exact ih _ (by omega) _ _ _ rfl (by omega) (by omega) hf4 (by
              rw [fo_s h0]
              refine zb_F (fun y => ?_)
              have y2 := of_decide_eq_true ((Bool.and_eq_true _ _).mp y).2
              omega)
          · refine zr_iconst (pc := 64) dX11_isRest_64 ?_
            refine zr_goto (pc := 65) (tgt := 69) dX11_isRest_65 (by decide) ?_
            refine zr_istore (pc := 69) dX11_isRest_69 (Nat.le_of_ble_eq_true rfl) rfl ?_
            refine zr_iinc (pc := 71) dX11_isRest_71 rfl (Nat.le_of_ble_eq_true rfl) rfl ?_
            refine zr_goto (pc := 74) (tgt := 6) dX11_isRest_74 (by decide) ?_
            exact ih _ (by omega) _ _ _ rfl (by omega) (by omega) hf4 (by
              rw [fo_s h0]
              refine zb_T ((Bool.and_eq_true _ _).mpr ⟨?_, decide_eq_true ⟨h38, h61⟩⟩)
              unfold zb_B at hx
              split at hx
              · assumption
              · omega)

set_option maxRecDepth 100000 in
set_option maxHeartbeats 4000000 in
theorem ct_X11_isRest {g : zt_G} {M : zm_M} {q : Int → zm_M → Prop} {C : Cm} {L : Ln} (hc0 : cvG M 51 (14 * 0) = C) (hC : CW C) (hl0 : lvM M = L) (hL : LW L) (hcd : M 46 18 = 0) {p r a b : Int} (hp : cHas C p) (hr : cHas C r) (ha : zi a) (hb : zi b) (h : ∀ M2, frW 1 M M2 → q (zb_B (rsR L C p r a b = true)) M2) : zc_K g yX11_isRest mX11_isRest [zv_r 46, zv_i p, zv_i r, zv_i a, zv_i b] M (zq_I q) := by
  refine zc_of (ls := [some (zv_r 46), some (zv_i p), some (zv_i r), some (zv_i a), some (zv_i b), none, none]) (by decide) rfl ⟨rfl, rfl⟩ (Nat.le_of_ble_eq_true rfl) rfl ?_
  refine zr_iconst (pc := 0) dX11_isRest_0 ?_
  refine zr_istore (pc := 1) dX11_isRest_1 (Nat.le_of_ble_eq_true rfl) rfl ?_
  refine zr_iconst (pc := 3) dX11_isRest_3 ?_
  refine zr_istore (pc := 4) dX11_isRest_4 (Nat.le_of_ble_eq_true rfl) rfl ?_
  exact lp_X11_isRest (g := g) hc0 hC hl0 hL hcd hp hr ha hb h _ _ _ _ rfl (by omega) (by omega) frW.rf rfl

theorem rsP_s (L : Ln) (C : Cm) (p r : Int) {k : Int} (h : 0 ≤ k) : rsP L C p r (k + 1).toNat = rsF L C p r k (rsP L C p r k.toNat) := fo_s h
theorem rsP_i {L : Ln} {C : Cm} {p r : Int} : ∀ n : Nat, 0 ≤ (rsP L C p r n).1 ∧ (rsP L C p r n).1 ≤ n
  | 0 => ⟨Int.le_refl 0, Int.le_refl 0⟩
  | n + 1 => by
    have ih := rsP_i (L := L) (C := C) (p := p) (r := r) n
    show 0 ≤ (rsF L C p r (n : Int) (rsP L C p r n)).1 ∧ (rsF L C p r (n : Int) (rsP L C p r n)).1 ≤ ((n + 1 : Nat) : Int)
    unfold rsF
    split
    · show 0 ≤ (rsP L C p r n).1 + 1 ∧ (rsP L C p r n).1 + 1 ≤ ((n + 1 : Nat) : Int)
      omega
    · omega
set_option maxRecDepth 100000 in
set_option maxHeartbeats 4000000 in
theorem lp_X11_rests {g : zt_G} {M : zm_M} {σ : Sg} {q : Int → zm_M → Prop} (hR : RM σ M) (hW : SW σ) {p r v : Int} (hp : cHas (sC σ) p) (hr : cHas (sC σ) r) (hpr : ¬ p = r) (hv : v = 0 ∨ v = 1) (h : ∀ M2, frM M M2 → RM σ M2 → q (aRests p r v (sL σ) (sC σ)) M2) : ∀ (nn : Nat) (n f k : Int) (Mx : zm_M), (16 - k).toNat = nn → 0 ≤ k → k ≤ 16 → frW 1 M Mx → (n, f) = rsP (sL σ) (sC σ) p r k.toNat → zc_Z g mX11_rests 46 [some (zv_r 46), some (zv_i p), some (zv_i r), some (zv_i v), some (zv_i n), some (zv_i f), some (zv_i k)] [] Mx (zq_I q) := by
  intro nn
  induction nn using Nat.strongRecOn with
  | ind nn ih =>
    intro n f k Mx hnn h0 h1 hfr hnf
    obtain ⟨hT, hl, hcv, hA, hK, hS, hD, hcd⟩ := id hR
    obtain ⟨wT, wTx, wL, ⟨wC, wZ⟩, wA, wK, wS⟩ := id hW
    have hLw : LW (lvM M) := by rw [hl]; exact wL
    have hCw : CW (cvG M 51 (14 * 0)) := by rw [hcv]; exact wC
    have hw0 := wGt hCw
    have hL0 := yMk hLw
    have hk1 : M 46 0 = (sL σ).1 := by rw [← hl]; rfl
    have ht1 : M 46 1 = ct (sC σ) := by rw [← hcv]; rfl
    have hT1 := hT.1
    have hlx : lvM Mx = sL σ := by rw [lvM_fr (hfr _ _ (by omega)) (fun k i a b => hfr k i (by omega))]; exact hl
    have ecx : Mx 46 18 = 0 := by rw [hfr _ _ (by omega)]; exact hcd
    have e1x : Mx 46 1 = M 46 1 := hfr _ _ (by omega)
    have hcx : cvG Mx 51 (14 * 0) = sC σ := by rw [cvG_fr (hfr _ _ (by omega)) (fun t => hfr _ _ (by omega)) (fun i _ _ => hfr _ _ (by omega)) hw0.2]; exact hcv
    have hni := rsP_i (L := sL σ) (C := sC σ) (p := p) (r := r) k.toNat
    rw [← hnf] at hni
    dsimp only at hni
    refine zr_iload (pc := 46) dX11_rests_46 rfl ?_
    refine zr_bipush (pc := 48) dX11_rests_48 (by decide) ?_
    refine zi_icmp_ge (pc := 50) (tgt := 103) dX11_rests_50 (by decide) (by omega) (by omega) (fun h50 => ?_) (fun h50 => ?_)
    · refine zr_iload_n (pc := 103) dX11_rests_103 rfl rfl ?_
      refine zi_if_ne (pc := 104) (tgt := 112) dX11_rests_104 (by decide) (by omega) (fun h104 => ?_) (fun h104 => ?_)
      · refine zr_iload (pc := 112) dX11_rests_112 rfl ?_
        exact zr_ireturn (pc := 114) dX11_rests_114 rfl (zq_eq (h Mx (fun k i a => hfr k i (by omega)) (RM_frs hR hW (fun k i a b => hfr k i (by unfold zsm at b; omega)))) (by
            unfold aRests
            have hc1 : ¬ (¬ cHas (sC σ) p ∨ ¬ cHas (sC σ) r) := fun y => y.elim (fun z => z hp) (fun z => z hr)
            rw [if_neg hc1, if_neg (by omega), if_neg h104]
            rw [show k = 16 by omega] at hnf
            exact congrArg Prod.snd hnf))
      · refine zr_iload (pc := 107) dX11_rests_107 rfl ?_
        refine zr_goto (pc := 109) (tgt := 114) dX11_rests_109 (by decide) ?_
        exact zr_ireturn (pc := 114) dX11_rests_114 rfl (zq_eq (h Mx (fun k i a => hfr k i (by omega)) (RM_frs hR hW (fun k i a b => hfr k i (by unfold zsm at b; omega)))) (by
            unfold aRests
            have hc1 : ¬ (¬ cHas (sC σ) p ∨ ¬ cHas (sC σ) r) := fun y => y.elim (fun z => z hp) (fun z => z hr)
            rw [if_neg hc1, if_neg (by omega), if_pos h104]
            rw [show k = 16 by omega] at hnf
            exact congrArg Prod.fst hnf))
    · refine zr_aload_n (pc := 53) dX11_rests_53 rfl rfl ?_
      refine zr_iload_n (pc := 54) dX11_rests_54 rfl rfl ?_
      refine zr_iload_n (pc := 55) dX11_rests_55 rfl rfl ?_
      refine zr_iload (pc := 56) dX11_rests_56 rfl ?_
      refine zr_iconst (pc := 58) dX11_rests_58 ?_
      refine zr_idiv (pc := 59) (by omega) (by omega) dX11_rests_59 ?_
      refine zr_iload (pc := 60) dX11_rests_60 rfl ?_
      refine zr_iconst (pc := 62) dX11_rests_62 ?_
      refine zr_irem (pc := 63) (by omega) (by omega) dX11_rests_63 ?_
      refine zr_inv4I (pc := 64) rfl sX11_263 lo_46 rfl rfl rfl dX11_rests_64 ?_
      refine ct_X11_isRest hcx wC hlx wL ecx hp hr (by omega) (by omega) (fun M2 hf2 => ?_)
      refine zr_ifb_eq (pc := 67) (tgt := 97) dX11_rests_67 (by decide) (fun h67 => ?_) (fun h67 => ?_)
      · refine zr_iinc (pc := 97) dX11_rests_97 rfl (Nat.le_of_ble_eq_true rfl) rfl ?_
        refine zr_goto (pc := 100) (tgt := 46) dX11_rests_100 (by decide) ?_
        exact ih _ (by omega) _ _ _ _ rfl (by omega) (by omega) (hfr.tr hf2) (by
          rw [rsP_s _ _ _ _ h0, ← hnf]
          unfold rsF
          rw [if_neg h67])
      · refine zr_iload (pc := 70) dX11_rests_70 rfl ?_
        refine zi_if_ne (pc := 72) (tgt := 90) dX11_rests_72 (by decide) (by omega) (fun h72 => ?_) (fun h72 => ?_)
        · refine zr_iload (pc := 90) dX11_rests_90 rfl ?_
          refine zr_istore (pc := 92) dX11_rests_92 (Nat.le_of_ble_eq_true rfl) rfl ?_
          refine zr_iinc (pc := 94) dX11_rests_94 rfl (Nat.le_of_ble_eq_true rfl) rfl ?_
          refine zr_iinc (pc := 97) dX11_rests_97 rfl (Nat.le_of_ble_eq_true rfl) rfl ?_
          refine zr_goto (pc := 100) (tgt := 46) dX11_rests_100 (by decide) ?_
          exact ih _ (by omega) _ _ _ _ rfl (by omega) (by omega) (hfr.tr hf2) (by
            rw [rsP_s _ _ _ _ h0, ← hnf]
            unfold rsF
            rw [if_pos h67]
            dsimp only
            rw [if_neg h72])
        · refine zr_bipush (pc := 75) dX11_rests_75 (by decide) ?_
          refine zr_iload (pc := 77) dX11_rests_77 rfl ?_
          refine zr_iconst (pc := 79) dX11_rests_79 ?_
          refine zr_idiv (pc := 80) (by omega) (by omega) dX11_rests_80 ?_
          refine zr_imul (pc := 81) dX11_rests_81 ?_
          refine zr_iload (pc := 82) dX11_rests_82 rfl ?_
          refine zr_iconst (pc := 84) dX11_rests_84 ?_
          refine zr_irem (pc := 85) (by omega) (by omega) dX11_rests_85 ?_
          refine zr_iadd (pc := 86) dX11_rests_86 ?_
          refine zr_goto (pc := 87) (tgt := 92) dX11_rests_87 (by decide) ?_
          refine zr_istore (pc := 92) dX11_rests_92 (Nat.le_of_ble_eq_true rfl) rfl ?_
          refine zr_iinc (pc := 94) dX11_rests_94 rfl (Nat.le_of_ble_eq_true rfl) rfl ?_
          refine zr_iinc (pc := 97) dX11_rests_97 rfl (Nat.le_of_ble_eq_true rfl) rfl ?_
          refine zr_goto (pc := 100) (tgt := 46) dX11_rests_100 (by decide) ?_
          exact ih _ (by omega) _ _ _ _ rfl (by omega) (by omega) (hfr.tr hf2) (by
            rw [rsP_s _ _ _ _ h0, ← hnf]
            unfold rsF
            rw [if_pos h67]
            dsimp only
            rw [if_pos h72])

set_option maxRecDepth 100000 in
set_option maxHeartbeats 4000000 in
theorem ct_X11_rests {g : zt_G} {M : zm_M} {σ : Sg} {q : Int → zm_M → Prop} (hR : RM σ M) (hW : SW σ) {p r v : Int} (hp : zi p) (hr : zi r) (hv : zi v) (h : ∀ M2, frM M M2 → RM σ M2 → q (aRests p r v (sL σ) (sC σ)) M2) : zc_K g yX11_rests mX11_rests [zv_r 46, zv_i p, zv_i r, zv_i v] M (zq_I q) := by
  refine zc_of (ls := [some (zv_r 46), some (zv_i p), some (zv_i r), some (zv_i v), none, none, none]) (by decide) rfl ⟨rfl, rfl⟩ (Nat.le_of_ble_eq_true rfl) rfl ?_
  obtain ⟨hT, hl, hcv, hA, hK, hS, hD, hcd⟩ := id hR
  obtain ⟨wT, wTx, wL, ⟨wC, wZ⟩, wA, wK, wS⟩ := id hW
  have hLw : LW (lvM M) := by rw [hl]; exact wL
  have hCw : CW (cvG M 51 (14 * 0)) := by rw [hcv]; exact wC
  have hw0 := wGt hCw
  have hL0 := yMk hLw
  have hk1 : M 46 0 = (sL σ).1 := by rw [← hl]; rfl
  have ht1 : M 46 1 = ct (sC σ) := by rw [← hcv]; rfl
  have hT1 := hT.1
  refine zr_aload_n (pc := 0) dX11_rests_0 rfl rfl ?_
  refine zr_iload_n (pc := 1) dX11_rests_1 rfl rfl ?_
  refine zr_inv1I (pc := 2) rfl sX11_136 lo_46 rfl rfl rfl dX11_rests_2 ?_
  refine ct_X11_isTramp hw0 hp ?_
  refine zr_ifb_eq (pc := 5) (tgt := 16) dX11_rests_5 (by decide) (fun h5 => ?_) (fun h5 => ?_)
  · refine zr_iconst (pc := 16) dX11_rests_16 ?_
    exact zr_ireturn (pc := 17) dX11_rests_17 rfl (zq_eq (h M (fun _ _ _ => rfl) hR) (by unfold aRests; rw [if_pos (Or.inl (by show ¬ (0 ≤ p ∧ p < ct (sC σ)); omega))]))
  · refine zr_aload_n (pc := 8) dX11_rests_8 rfl rfl ?_
    refine zr_iload_n (pc := 9) dX11_rests_9 rfl rfl ?_
    refine zr_inv1I (pc := 10) rfl sX11_136 lo_46 rfl rfl rfl dX11_rests_10 ?_
    refine ct_X11_isTramp hw0 hr ?_
    refine zr_ifb_ne (pc := 13) (tgt := 18) dX11_rests_13 (by decide) (fun h13 => ?_) (fun h13 => ?_)
    · have hcp : cHas (sC σ) p := by show 0 ≤ p ∧ p < ct (sC σ); omega
      have hcr : cHas (sC σ) r := by show 0 ≤ r ∧ r < ct (sC σ); omega
      refine zr_iload_n (pc := 18) dX11_rests_18 rfl rfl ?_
      refine zr_iload_n (pc := 19) dX11_rests_19 rfl rfl ?_
      refine zi_icmp_eq (pc := 20) (tgt := 33) dX11_rests_20 (by decide) (by omega) (by omega) (fun h20 => ?_) (fun h20 => ?_)
      · refine zr_bipush (pc := 33) dX11_rests_33 (by decide) ?_
        exact zr_ireturn (pc := 35) dX11_rests_35 rfl (zq_eq (h M (fun _ _ _ => rfl) hR) (by unfold aRests; rw [if_neg (fun y => y.elim (fun z => z hcp) (fun z => z hcr)), if_pos (by omega)]))
      · refine zr_iload_n (pc := 23) dX11_rests_23 rfl rfl ?_
        refine zr_i2l (pc := 24) dX11_rests_24 ?_
        refine zr_lconst (pc := 25) (z := 0) dX11_rests_25 (by decide +kernel) ?_
        refine zr_lconst (pc := 26) (z := 1) dX11_rests_26 (by decide +kernel) ?_
        refine zr_stat3I (pc := 27) rfl sX11_61 rfl rfl dX11_rests_27 ?_
        refine in_i hv (by omega) (by omega) ?_
        refine zr_ifb_ne (pc := 30) (tgt := 36) dX11_rests_30 (by decide) (fun h30 => ?_) (fun h30 => ?_)
        · refine zr_iconst (pc := 36) dX11_rests_36 ?_
          refine zr_istore (pc := 37) dX11_rests_37 (Nat.le_of_ble_eq_true rfl) rfl ?_
          refine zr_bipush (pc := 39) dX11_rests_39 (by decide) ?_
          refine zr_istore (pc := 41) dX11_rests_41 (Nat.le_of_ble_eq_true rfl) rfl ?_
          refine zr_iconst (pc := 43) dX11_rests_43 ?_
          refine zr_istore (pc := 44) dX11_rests_44 (Nat.le_of_ble_eq_true rfl) rfl ?_
          exact lp_X11_rests (g := g) hR hW hcp hcr h20 (by omega) h _ _ _ _ _ rfl (by omega) (by omega) frW.rf rfl
        · refine zr_bipush (pc := 33) dX11_rests_33 (by decide) ?_
          exact zr_ireturn (pc := 35) dX11_rests_35 rfl (zq_eq (h M (fun _ _ _ => rfl) hR) (by unfold aRests; rw [if_neg (fun y => y.elim (fun z => z hcp) (fun z => z hcr)), if_pos (by omega)]))
    · refine zr_iconst (pc := 16) dX11_rests_16 ?_
      exact zr_ireturn (pc := 17) dX11_rests_17 rfl (zq_eq (h M (fun _ _ _ => rfl) hR) (by unfold aRests; rw [if_pos (Or.inr (by show ¬ (0 ≤ r ∧ r < ct (sC σ)); omega))]))

set_option maxRecDepth 100000 in
set_option maxHeartbeats 4000000 in
theorem lp_X11_common {g : zt_G} {M : zm_M} {q : Int → zm_M → Prop} {a b : Int} (ha : 0 ≤ a ∧ a < 2147483648) (hb : 0 ≤ b ∧ b < 2147483648) (h : q (gcI a b) M) : ∀ (nn : Nat) (x y : Int) (x4 : Option zv_A), y.toNat = nn → (0 ≤ x ∧ x < 2147483648) → (0 ≤ y ∧ y < 2147483648) → gcI x y = gcI a b → zc_Z g mX11_common 13 [some (zv_i a), some (zv_i b), some (zv_i x), some (zv_i y), x4] [] M (zq_I q) := by
  intro nn
  induction nn using Nat.strongRecOn with
  | ind nn ih =>
    intro x y x4 hnn hx hy hG
    refine zr_iload_n (pc := 13) dX11_common_13 rfl rfl ?_
    refine zi_if_eq (pc := 14) (tgt := 30) dX11_common_14 (by decide) (by omega) (fun h14 => ?_) (fun h14 => ?_)
    · refine zr_iload_n (pc := 30) dX11_common_30 rfl rfl ?_
      exact zr_ireturn (pc := 31) dX11_common_31 rfl (zq_eq h (by rw [← hG, h14, gcI_0 hx.1]))
    · have hm1 := Int.emod_nonneg x h14
      have hm2 := Int.emod_lt_of_pos x (show 0 < y by omega)
      refine zr_iload_n (pc := 17) dX11_common_17 rfl rfl ?_
      refine zr_iload_n (pc := 18) dX11_common_18 rfl rfl ?_
      refine zr_irem (pc := 19) (by omega) (by omega) dX11_common_19 ?_
      refine zr_istore (pc := 20) dX11_common_20 (Nat.le_of_ble_eq_true rfl) rfl ?_
      refine zr_iload_n (pc := 22) dX11_common_22 rfl rfl ?_
      refine zr_istore_n (pc := 23) dX11_common_23 rfl (Nat.le_of_ble_eq_true rfl) rfl ?_
      refine zr_iload (pc := 24) dX11_common_24 rfl ?_
      refine zr_istore_n (pc := 26) dX11_common_26 rfl (Nat.le_of_ble_eq_true rfl) rfl ?_
      refine zr_goto (pc := 27) (tgt := 13) dX11_common_27 (by decide) ?_
      exact ih _ (by omega) _ _ _ rfl (by omega) (by omega) (by rw [← hG, ← gcI_s hx.1 (by omega)])

set_option maxRecDepth 100000 in
set_option maxHeartbeats 4000000 in
theorem ct_X11_common {g : zt_G} {M : zm_M} {q : Int → zm_M → Prop} {a b : Int} (ha : 0 ≤ a ∧ a < 2147483648) (hb : 0 ≤ b ∧ b < 2147483648) (h : q (gcI a b) M) : zc_K g yX11_common mX11_common [zv_i a, zv_i b] M (zq_I q) := by
  refine zc_of (ls := [some (zv_i a), some (zv_i b), none, none, none]) (by decide) rfl ⟨rfl, rfl⟩ (Nat.le_of_ble_eq_true rfl) rfl ?_
  refine zr_iload_n (pc := 0) dX11_common_0 rfl rfl ?_
  refine zi_if_ge (pc := 1) (tgt := 9) dX11_common_1 (by decide) (by omega) (fun h1 => ?_) (fun h1 => ?_)
  · refine zr_iload_n (pc := 9) dX11_common_9 rfl rfl ?_
    refine zr_istore_n (pc := 10) dX11_common_10 rfl (Nat.le_of_ble_eq_true rfl) rfl ?_
    refine zr_iload_n (pc := 11) dX11_common_11 rfl rfl ?_
    refine zr_istore_n (pc := 12) dX11_common_12 rfl (Nat.le_of_ble_eq_true rfl) rfl ?_
    exact lp_X11_common ha hb h _ _ _ _ rfl ha hb rfl
  · refine zr_iload_n (pc := 4) dX11_common_4 rfl rfl ?_
    refine zr_ineg (pc := 5) dX11_common_5 ?_
    refine zr_goto (pc := 6) (tgt := 10) dX11_common_6 (by decide) ?_
    refine zr_istore_n (pc := 10) dX11_common_10 rfl (Nat.le_of_ble_eq_true rfl) rfl ?_
    refine zr_iload_n (pc := 11) dX11_common_11 rfl rfl ?_
    refine zr_istore_n (pc := 12) dX11_common_12 rfl (Nat.le_of_ble_eq_true rfl) rfl ?_
    exact absurd h1 (by omega)

set_option maxRecDepth 100000 in
set_option maxHeartbeats 4000000 in
theorem lp_X11_coldW {g : zt_G} {M : zm_M} {q : Int → zm_M → Prop} {L : Ln} (hl : lvM M = L) (hL : LW L) {t m x u a b k : Int} (hk : 0 ≤ k ∧ k < 16) (ho : ∀ x9 : Option zv_A, zc_Z g mX11_cold 101 [some (zv_r 46), some (zv_i t), some (zv_i m), some (zv_i x), some (zv_i u), some (zv_i a), some (zv_i b), some (zv_i k), some (zv_i (wgt L k x)), x9] [] M (zq_I q)) : ∀ (nn : Nat) (w d : Int), (M 46 0 - d).toNat = nn → 0 ≤ d → d ≤ M 46 0 → w = fo (fun g w => w * (if bt k g = true then x else 10 - x)) 1 d.toNat → zc_Z g mX11_cold 63 [some (zv_r 46), some (zv_i t), some (zv_i m), some (zv_i x), some (zv_i u), some (zv_i a), some (zv_i b), some (zv_i k), some (zv_i w), some (zv_i d)] [] M (zq_I q) := by
  intro nn
  induction nn using Nat.strongRecOn with
  | ind nn ih =>
    intro w d hnn h0 h1 hw
    have hL0 : L.1 = M 46 0 := by rw [← hl]; rfl
    have hk4 := hL.1
    refine zr_iload (pc := 63) dX11_cold_63 rfl ?_
    refine zr_aload_n (pc := 65) dX11_cold_65 rfl rfl ?_
    refine zr_getI (pc := 66) (z := 0) fX11_107 lo_46 rfl rfl rfl dX11_cold_66 ?_
    refine zi_icmp_ge (pc := 69) (tgt := 101) dX11_cold_69 (by decide) (by omega) (by omega) (fun h69 => ?_) (fun h69 => ?_)
    · have e9 : w = wgt L k x := by
        rw [hw]
        unfold wgt
        rw [hL0, show d = M 46 0 by omega]
      rw [e9]
      exact ho _
    · refine zr_iload (pc := 72) dX11_cold_72 rfl ?_
      refine zr_iload (pc := 74) dX11_cold_74 rfl ?_
      refine zr_iload (pc := 76) dX11_cold_76 rfl ?_
      refine zr_stat2I (pc := 78) rfl sX11_75 rfl rfl dX11_cold_78 ?_
      refine ct_X11_has (by omega) (by omega) ?_
      refine zr_ifb_eq (pc := 81) (tgt := 88) dX11_cold_81 (by decide) (fun h81 => ?_) (fun h81 => ?_)
      · refine zr_bipush (pc := 88) dX11_cold_88 (by decide) ?_
        refine zr_iload_n (pc := 90) dX11_cold_90 rfl rfl ?_
        refine zr_isub (pc := 91) dX11_cold_91 ?_
        refine zr_imul (pc := 92) dX11_cold_92 ?_
        refine zr_istore (pc := 93) dX11_cold_93 (Nat.le_of_ble_eq_true rfl) rfl ?_
        refine zr_iinc (pc := 95) dX11_cold_95 rfl (Nat.le_of_ble_eq_true rfl) rfl ?_
        refine zr_goto (pc := 98) (tgt := 63) dX11_cold_98 (by decide) ?_
        exact ih _ (by omega) _ _ rfl (by omega) (by omega) (by rw [fo_s h0, ← hw, if_neg h81])
      · refine zr_iload_n (pc := 84) dX11_cold_84 rfl rfl ?_
        refine zr_goto (pc := 85) (tgt := 92) dX11_cold_85 (by decide) ?_
        refine zr_imul (pc := 92) dX11_cold_92 ?_
        refine zr_istore (pc := 93) dX11_cold_93 (Nat.le_of_ble_eq_true rfl) rfl ?_
        refine zr_iinc (pc := 95) dX11_cold_95 rfl (Nat.le_of_ble_eq_true rfl) rfl ?_
        refine zr_goto (pc := 98) (tgt := 63) dX11_cold_98 (by decide) ?_
        exact ih _ (by omega) _ _ rfl (by omega) (by omega) (by rw [fo_s h0, ← hw, if_pos h81])

set_option maxRecDepth 100000 in
set_option maxHeartbeats 4000000 in
theorem lp_X11_coldN {g : zt_G} {M : zm_M} {σ : Sg} {q : Int → zm_M → Prop} (hR : RM σ M) (hW : SW σ) {Mx : zm_M} (hfr : frW 1 M Mx) {t m x u a b k : Int} (ht : cHas (sC σ) t) (hm : 0 ≤ m ∧ m ≤ 6) (hk : 0 ≤ k ∧ k < 16) {x9 : Option zv_A} (ho : ∀ (x8 x9 : Option zv_A) (M2 : zm_M), frW 1 M M2 → zc_Z g mX11_cold 46 [some (zv_r 46), some (zv_i t), some (zv_i m), some (zv_i x), some (zv_i u), some (zv_i (if m ≤ on6 (cn (nit (sL σ) k (sC σ)) t) then a + wgt (sL σ) k x else a)), some (zv_i (b + wgt (sL σ) k x)), some (zv_i (k + 1)), x8, x9] [] M2 (zq_I q)) : zc_Z g mX11_cold 101 [some (zv_r 46), some (zv_i t), some (zv_i m), some (zv_i x), some (zv_i u), some (zv_i a), some (zv_i b), some (zv_i k), some (zv_i (wgt (sL σ) k x)), x9] [] Mx (zq_I q) := by
  obtain ⟨hT, hl, hcv, hA, hK, hS, hD, hcd⟩ := id hR
  obtain ⟨wT, wTx, wL, ⟨wC, wZ⟩, wA, wK, wS⟩ := id hW
  have hLw : LW (lvM M) := by rw [hl]; exact wL
  have hCw : CW (cvG M 51 (14 * 0)) := by rw [hcv]; exact wC
  have hw0 := wGt hCw
  have hL0 := yMk hLw
  have hk1 : M 46 0 = (sL σ).1 := by rw [← hl]; rfl
  have ht1 : M 46 1 = ct (sC σ) := by rw [← hcv]; rfl
  have hT1 := hT.1
  have hlx : lvM Mx = sL σ := by rw [lvM_fr (hfr _ _ (by omega)) (fun k i a b => hfr k i (by omega))]; exact hl
  have ecx : Mx 46 18 = 0 := by rw [hfr _ _ (by omega)]; exact hcd
  have e1x : Mx 46 1 = M 46 1 := hfr _ _ (by omega)
  have hcx : cvG Mx 51 (14 * 0) = sC σ := by rw [cvG_fr (hfr _ _ (by omega)) (fun t => hfr _ _ (by omega)) (fun i _ _ => hfr _ _ (by omega)) hw0.2]; exact hcv
  refine zr_aload_n (pc := 101) dX11_cold_101 rfl rfl ?_
  refine zr_inv0V (pc := 102) rfl sX11_195 lo_46 rfl rfl rfl dX11_cold_102 ?_
  refine ct_X11_layTrial (by rw [e1x]; exact hw0.2) (fun M1 hf1 hv1 => ?_)
  rw [hcx] at hv1
  obtain ⟨M2, eM2⟩ : ∃ M2, M2 = zm_put M1 46 18 k := ⟨_, rfl⟩
  have f2 : ∀ (k2 : Nat) (i : Int), (k2 ≠ 46 ∨ i ≠ 18) → M2 k2 i = M1 k2 i := fun k2 i a => by rw [eM2]; exact if_neg (by omega)
  have hv2 : cvG M2 51 (14 * 1) = sC σ := by rw [cvG_fr (f2 _ _ (by omega)) (fun t => f2 _ _ (by omega)) (fun i _ _ => f2 _ _ (by omega)) (by rw [hf1 _ _ (by omega), e1x]; exact hw0.2)]; exact hv1
  have hl2 : lvM M2 = sL σ := by rw [lvM_fr (f2 _ _ (by omega)) (fun k i a b => f2 k i (by omega)), lvM_fr (hf1 _ _ (by omega)) (fun k i a b => hf1 k i (by omega)), hlx]
  have e18 : M2 46 18 = k := by rw [eM2, put_at]
  refine zr_aload_n (pc := 105) dX11_cold_105 rfl rfl ?_
  refine zr_iload (pc := 106) dX11_cold_106 rfl ?_
  refine zr_putI (pc := 108) (z := 18) fX11_125 lo_46 rfl fwX11_18 rfl rfl dX11_cold_108 ?_
  refine zr_aload_n (pc := 111) dX11_cold_111 rfl rfl ?_
  refine zr_iconst (pc := 112) dX11_cold_112 ?_
  refine zr_inv1V (pc := 113) rfl sX11_167 lo_46 rfl rfl rfl dX11_cold_113 ?_
  rw [← eM2]
  refine ct_X11_passOn (by decide) (by rw [hv2]; exact wC) (by rw [hl2]; exact wL) (by rw [e18]; exact hk) (fun M3 hf3 hv3 => ?_)
  rw [hv2, hl2, e18] at hv3
  obtain ⟨M4, eM4⟩ : ∃ M4, M4 = zm_put M3 46 18 0 := ⟨_, rfl⟩
  have f4 : ∀ (k2 : Nat) (i : Int), (k2 ≠ 46 ∨ i ≠ 18) → M4 k2 i = M3 k2 i := fun k2 i a => by rw [eM4]; exact if_neg (by omega)
  have hT3 : M3 46 1 = M 46 1 := by rw [hf3 _ _ (by omega), f2 _ _ (by omega), hf1 _ _ (by omega), e1x]
  have ht2 : 0 ≤ t ∧ t < M3 46 1 := by rw [hT3, ht1]; exact ht
  have en : cn (nit (sL σ) k (sC σ)) t = M4 51 (18 + t) := by
    rw [← hv3, f4 _ _ (by omega)]
    exact vG_n ht2 (by omega)
  have hni := ((CW_nit (cold := k) wL wC).2.2 t).2.2.1
  have hon := on6_i hni
  rw [en] at hni hon
  have hfr4 : frW 1 M M4 := fun k2 i a => by
    by_cases h9 : k2 = 46 ∧ i = 18
    · rw [h9.1, h9.2, eM4, put_at]
      exact hcd.symm
    · rw [f4 k2 i (by omega), hf3 k2 i a, f2 k2 i (by omega), hf1 k2 i a]
      exact hfr k2 i a
  rw [en] at ho
  refine zr_aload_n (pc := 116) dX11_cold_116 rfl rfl ?_
  refine zr_iconst (pc := 117) dX11_cold_117 ?_
  refine zr_putI (pc := 118) (z := 18) fX11_125 lo_46 rfl fwX11_18 rfl rfl dX11_cold_118 ?_
  rw [← eM4]
  refine zr_iload (pc := 121) dX11_cold_121 rfl ?_
  refine zr_iload (pc := 123) dX11_cold_123 rfl ?_
  refine zr_iadd (pc := 125) dX11_cold_125 ?_
  refine zr_istore (pc := 126) dX11_cold_126 (Nat.le_of_ble_eq_true rfl) rfl ?_
  refine zr_iload (pc := 128) dX11_cold_128 rfl ?_
  refine zr_aload_n (pc := 130) dX11_cold_130 rfl rfl ?_
  refine zr_getR (pc := 131) fX11_22 lo_46 rfl rfl dX11_cold_131 ?_
  refine zr_bipush (pc := 134) dX11_cold_134 (by decide) ?_
  refine zr_iload_n (pc := 136) dX11_cold_136 rfl rfl ?_
  refine zr_iadd (pc := 137) dX11_cold_137 ?_
  refine zr_iaload (pc := 138) lo_51 (by omega) dX11_cold_138 ?_
  refine zr_stat1I (pc := 139) rfl sX11_173 rfl rfl dX11_cold_139 ?_
  refine ct_X11_ones (by omega) ?_
  refine zr_iload_n (pc := 142) dX11_cold_142 rfl rfl ?_
  refine zi_icmp_lt (pc := 143) (tgt := 151) dX11_cold_143 (by decide) (by omega) (by omega) (fun h143 => ?_) (fun h143 => ?_)
  · refine zr_iconst (pc := 151) dX11_cold_151 ?_
    refine zr_iadd (pc := 152) dX11_cold_152 ?_
    refine zr_istore (pc := 153) dX11_cold_153 (Nat.le_of_ble_eq_true rfl) rfl ?_
    refine zr_iinc (pc := 155) dX11_cold_155 rfl (Nat.le_of_ble_eq_true rfl) rfl ?_
    refine zr_goto (pc := 158) (tgt := 46) dX11_cold_158 (by decide) ?_
    have h9 := ho (some (zv_i (wgt (sL σ) k x))) x9 M4 hfr4
    rw [if_neg (by omega), ← Int.add_zero a] at h9
    exact h9
  · refine zr_iload (pc := 146) dX11_cold_146 rfl ?_
    refine zr_goto (pc := 148) (tgt := 152) dX11_cold_148 (by decide) ?_
    refine zr_iadd (pc := 152) dX11_cold_152 ?_
    refine zr_istore (pc := 153) dX11_cold_153 (Nat.le_of_ble_eq_true rfl) rfl ?_
    refine zr_iinc (pc := 155) dX11_cold_155 rfl (Nat.le_of_ble_eq_true rfl) rfl ?_
    refine zr_goto (pc := 158) (tgt := 46) dX11_cold_158 (by decide) ?_
    have h9 := ho (some (zv_i (wgt (sL σ) k x))) x9 M4 hfr4
    rw [if_pos (by omega)] at h9
    exact h9

set_option maxRecDepth 100000 in
set_option maxHeartbeats 4000000 in
theorem lp_X11_cold {g : zt_G} {M : zm_M} {σ : Sg} {q : Int → zm_M → Prop} (hR : RM σ M) (hW : SW σ) {t m x u : Int} (ht : cHas (sC σ) t) (hm : 0 ≤ m ∧ m ≤ 6) (hx : 0 ≤ x ∧ x ≤ 10) (hu : zi u) (h : ∀ M2, frM M M2 → RM σ M2 → q (aCold t m x u (sL σ) (sC σ)) M2) : ∀ (nn : Nat) (a b k : Int) (x8 x9 : Option zv_A) (Mx : zm_M), ((2 ^ (sL σ).1.toNat : Nat) - k).toNat = nn → 0 ≤ k → k ≤ ((2 ^ (sL σ).1.toNat : Nat) : Int) → (a, b) = cdP (sL σ) (sC σ) t m x k.toNat → frW 1 M Mx → zc_Z g mX11_cold 46 [some (zv_r 46), some (zv_i t), some (zv_i m), some (zv_i x), some (zv_i u), some (zv_i a), some (zv_i b), some (zv_i k), x8, x9] [] Mx (zq_I q) := by
  intro nn
  induction nn using Nat.strongRecOn with
  | ind nn ih =>
    intro a b k x8 x9 Mx hnn h0 h1 hab hfr
    obtain ⟨hT, hl, hcv, hA, hK, hS, hD, hcd⟩ := id hR
    obtain ⟨wT, wTx, wL, ⟨wC, wZ⟩, wA, wK, wS⟩ := id hW
    have hLw : LW (lvM M) := by rw [hl]; exact wL
    have hCw : CW (cvG M 51 (14 * 0)) := by rw [hcv]; exact wC
    have hw0 := wGt hCw
    have hL0 := yMk hLw
    have hk1 : M 46 0 = (sL σ).1 := by rw [← hl]; rfl
    have ht1 : M 46 1 = ct (sC σ) := by rw [← hcv]; rfl
    have hT1 := hT.1
    have hlx : lvM Mx = sL σ := by rw [lvM_fr (hfr _ _ (by omega)) (fun k i a b => hfr k i (by omega))]; exact hl
    have ecx : Mx 46 18 = 0 := by rw [hfr _ _ (by omega)]; exact hcd
    have e1x : Mx 46 1 = M 46 1 := hfr _ _ (by omega)
    have hk4 := wL.1
    have hp2 := p2 (n := (sL σ).1.toNat) (by omega)
    have hp10 := p10 (n := (sL σ).1.toNat) (by omega)
    have hsh : zb_shl 1 (Mx 46 0) = ((2 ^ (sL σ).1.toNat : Nat) : Int) := by
      have e9 : Mx 46 0 = (((sL σ).1.toNat : Nat) : Int) := by
        rw [hfr _ _ (by omega)]
        omega
      rw [e9]
      exact sh1 _ (by omega)
    have hi1 := cdP_in (L := sL σ) (C := sC σ) (t := t) (m := m) hx k.toNat
    have hi2 := cdP_m (L := sL σ) (C := sC σ) (t := t) (m := m) hx (2 ^ (sL σ).1.toNat - k.toNat) k.toNat
    rw [show k.toNat + (2 ^ (sL σ).1.toNat - k.toNat) = 2 ^ (sL σ).1.toNat by omega, cd_all wL hx] at hi2
    rw [← hab] at hi1 hi2
    dsimp only at hi1 hi2
    refine zr_iload (pc := 46) dX11_cold_46 rfl ?_
    refine zr_iconst (pc := 48) dX11_cold_48 ?_
    refine zr_aload_n (pc := 49) dX11_cold_49 rfl rfl ?_
    refine zr_getI (pc := 50) (z := 0) fX11_107 lo_46 rfl rfl rfl dX11_cold_50 ?_
    refine zr_ishl (pc := 53) dX11_cold_53 ?_
    rw [hsh]
    refine zi_icmp_ge (pc := 54) (tgt := 161) dX11_cold_54 (by decide) (by omega) (by omega) (fun h54 => ?_) (fun h54 => ?_)
    · have hke : k.toNat = 2 ^ (sL σ).1.toNat := by omega
      have hb10 : b = ((10 ^ (sL σ).1.toNat : Nat) : Int) := by
        rw [← cd_all (C := sC σ) (t := t) (m := m) wL hx, ← hke, ← hab]
      have hgc := gcI_in (a := a) (b := b) hi1.1 (by omega)
      refine zr_iload (pc := 161) dX11_cold_161 rfl ?_
      refine zr_iload (pc := 163) dX11_cold_163 rfl ?_
      refine zr_stat2I (pc := 165) rfl sX11_253 rfl rfl dX11_cold_165 ?_
      refine ct_X11_common (by omega) (by omega) ?_
      refine zr_istore (pc := 168) dX11_cold_168 (Nat.le_of_ble_eq_true rfl) rfl ?_
      refine zr_iload (pc := 170) dX11_cold_170 rfl ?_
      refine zi_if_eq (pc := 172) (tgt := 183) dX11_cold_172 (by decide) (by omega) (fun h172 => ?_) (fun h172 => ?_)
      · refine zr_iload (pc := 183) dX11_cold_183 rfl ?_
        refine zr_iload (pc := 185) dX11_cold_185 rfl ?_
        refine zr_idiv (pc := 187) (by omega) (by omega) dX11_cold_187 ?_
        exact zr_ireturn (pc := 188) dX11_cold_188 rfl (zq_eq (h Mx (fun k i a => hfr k i (by omega)) (RM_frs hR hW (fun k i a b => hfr k i (by unfold zsm at b; omega)))) (by
            unfold aCold
            rw [if_neg (fun y => y ht), if_neg (by omega), ← hke, ← hab]
            unfold frc
            rw [if_pos h172]))
      · refine zr_iload (pc := 175) dX11_cold_175 rfl ?_
        refine zr_iload (pc := 177) dX11_cold_177 rfl ?_
        refine zr_idiv (pc := 179) (by omega) (by omega) dX11_cold_179 ?_
        refine zr_goto (pc := 180) (tgt := 188) dX11_cold_180 (by decide) ?_
        exact zr_ireturn (pc := 188) dX11_cold_188 rfl (zq_eq (h Mx (fun k i a => hfr k i (by omega)) (RM_frs hR hW (fun k i a b => hfr k i (by unfold zsm at b; omega)))) (by
            unfold aCold
            rw [if_neg (fun y => y ht), if_neg (by omega), ← hke, ← hab]
            unfold frc
            rw [if_neg h172]))
    · refine zr_iconst (pc := 57) dX11_cold_57 ?_
      refine zr_istore (pc := 58) dX11_cold_58 (Nat.le_of_ble_eq_true rfl) rfl ?_
      refine zr_iconst (pc := 60) dX11_cold_60 ?_
      refine zr_istore (pc := 61) dX11_cold_61 (Nat.le_of_ble_eq_true rfl) rfl ?_
      refine lp_X11_coldW (g := g) hlx wL (by omega) (fun x9 => ?_) _ _ _ rfl (by decide) (by rw [hfr _ _ (by omega)]; omega) rfl
      refine lp_X11_coldN (g := g) hR hW hfr ht hm (by omega) (fun y8 y9 M2 hf2 => ?_)
      refine ih _ (by omega) _ _ _ _ _ _ rfl (by omega) (by omega) ?_ hf2
      unfold cdP
      rw [fo_s h0]
      show _ = cdF (sL σ) (sC σ) t m x k (cdP (sL σ) (sC σ) t m x k.toNat)
      rw [← hab]
      rfl

set_option maxRecDepth 100000 in
set_option maxHeartbeats 4000000 in
theorem ct_X11_cold {g : zt_G} {M : zm_M} {σ : Sg} {q : Int → zm_M → Prop} (hR : RM σ M) (hW : SW σ) {t m x u : Int} (ht : zi t) (hm : zi m) (hx : zi x) (hu : zi u) (h : ∀ M2, frM M M2 → RM σ M2 → q (aCold t m x u (sL σ) (sC σ)) M2) : zc_K g yX11_cold mX11_cold [zv_r 46, zv_i t, zv_i m, zv_i x, zv_i u] M (zq_I q) := by
  refine zc_of (ls := [some (zv_r 46), some (zv_i t), some (zv_i m), some (zv_i x), some (zv_i u), none, none, none, none, none]) (by decide) rfl ⟨rfl, rfl⟩ (Nat.le_of_ble_eq_true rfl) rfl ?_
  obtain ⟨hT, hl, hcv, hA, hK, hS, hD, hcd⟩ := id hR
  obtain ⟨wT, wTx, wL, ⟨wC, wZ⟩, wA, wK, wS⟩ := id hW
  have hLw : LW (lvM M) := by rw [hl]; exact wL
  have hCw : CW (cvG M 51 (14 * 0)) := by rw [hcv]; exact wC
  have hw0 := wGt hCw
  have hL0 := yMk hLw
  have hk1 : M 46 0 = (sL σ).1 := by rw [← hl]; rfl
  have ht1 : M 46 1 = ct (sC σ) := by rw [← hcv]; rfl
  have hT1 := hT.1
  refine zr_aload_n (pc := 0) dX11_cold_0 rfl rfl ?_
  refine zr_iload_n (pc := 1) dX11_cold_1 rfl rfl ?_
  refine zr_inv1I (pc := 2) rfl sX11_136 lo_46 rfl rfl rfl dX11_cold_2 ?_
  refine ct_X11_isTramp hw0 ht ?_
  refine zr_ifb_ne (pc := 5) (tgt := 10) dX11_cold_5 (by decide) (fun h5 => ?_) (fun h5 => ?_)
  · refine zr_iload_n (pc := 10) dX11_cold_10 rfl rfl ?_
    refine zr_i2l (pc := 11) dX11_cold_11 ?_
    refine zr_lconst (pc := 12) (z := 0) dX11_cold_12 (by decide +kernel) ?_
    refine zr_ldc2 (pc := 13) (z := 6) rfl kX11_228 (by decide +kernel) dX11_cold_13 ?_
    refine zr_stat3I (pc := 16) rfl sX11_61 rfl rfl dX11_cold_16 ?_
    refine in_i hm (by omega) (by omega) ?_
    refine zr_ifb_eq (pc := 19) (tgt := 34) dX11_cold_19 (by decide) (fun h19 => ?_) (fun h19 => ?_)
    · refine zr_bipush (pc := 34) dX11_cold_34 (by decide) ?_
      exact zr_ireturn (pc := 36) dX11_cold_36 rfl (zq_eq (h M (fun _ _ _ => rfl) hR) (by unfold aCold; rw [if_neg (fun y => y (by show 0 ≤ t ∧ t < ct (sC σ); omega)), if_pos (by omega)]))
    · refine zr_iload_n (pc := 22) dX11_cold_22 rfl rfl ?_
      refine zr_i2l (pc := 23) dX11_cold_23 ?_
      refine zr_lconst (pc := 24) (z := 0) dX11_cold_24 (by decide +kernel) ?_
      refine zr_ldc2 (pc := 25) (z := 10) rfl kX11_266 (by decide +kernel) dX11_cold_25 ?_
      refine zr_stat3I (pc := 28) rfl sX11_61 rfl rfl dX11_cold_28 ?_
      refine in_i hx (by omega) (by omega) ?_
      refine zr_ifb_ne (pc := 31) (tgt := 37) dX11_cold_31 (by decide) (fun h31 => ?_) (fun h31 => ?_)
      · refine zr_iconst (pc := 37) dX11_cold_37 ?_
        refine zr_istore (pc := 38) dX11_cold_38 (Nat.le_of_ble_eq_true rfl) rfl ?_
        refine zr_iconst (pc := 40) dX11_cold_40 ?_
        refine zr_istore (pc := 41) dX11_cold_41 (Nat.le_of_ble_eq_true rfl) rfl ?_
        refine zr_iconst (pc := 43) dX11_cold_43 ?_
        refine zr_istore (pc := 44) dX11_cold_44 (Nat.le_of_ble_eq_true rfl) rfl ?_
        exact lp_X11_cold (g := g) hR hW (by show 0 ≤ t ∧ t < ct (sC σ); omega) (by omega) (by omega) hu h _ _ _ _ _ _ _ rfl (by omega) (Int.natCast_nonneg _) rfl frW.rf
      · refine zr_bipush (pc := 34) dX11_cold_34 (by decide) ?_
        exact zr_ireturn (pc := 36) dX11_cold_36 rfl (zq_eq (h M (fun _ _ _ => rfl) hR) (by unfold aCold; rw [if_neg (fun y => y (by show 0 ≤ t ∧ t < ct (sC σ); omega)), if_pos (by omega)]))
  · refine zr_iconst (pc := 8) dX11_cold_8 ?_
    exact zr_ireturn (pc := 9) dX11_cold_9 rfl (zq_eq (h M (fun _ _ _ => rfl) hR) (by unfold aCold; rw [if_pos (by show ¬ (0 ≤ t ∧ t < ct (sC σ)); omega)]))

