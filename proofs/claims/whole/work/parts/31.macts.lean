set_option maxRecDepth 100000 in
set_option maxHeartbeats 4000000 in
theorem lp_X11_layTrial {g : zt_G} {M : zm_M} {q : zm_M → Prop} (h4 : M 46 1 ≤ 4) (h : ∀ M2, frW 1 M M2 → cvG M2 51 (14 * 1) = cvG M 51 (14 * 0) → q M2) : ∀ (nn : Nat) (k : Int) (Mx : zm_M), (14 - k).toNat = nn → 0 ≤ k → k ≤ 14 → (∀ (k2 : Nat) (i : Int), ¬ (k2 = 51 ∧ 14 ≤ i ∧ i < 14 + 14) → Mx k2 i = M k2 i) → (∀ j, 0 ≤ j → j < k → Mx 51 (14 + j) = M 51 (j)) → zc_Z g mX11_layTrial 2 [some (zv_r 46), some (zv_i k)] [] Mx (zq_V q) := by
  intro nn
  induction nn using Nat.strongRecOn with
  | ind nn ih =>
    intro k Mx hnn h0 h1 hfr hcp
    refine zr_iload_n (pc := 2) dX11_layTrial_2 rfl rfl ?_
    refine zr_bipush (pc := 3) dX11_layTrial_3 (by decide) ?_
    refine zi_icmp_ge (pc := 5) (tgt := 29) dX11_layTrial_5 (by decide) (by omega) (by omega) (fun h5 => ?_) (fun h5 => ?_)
    · exact zr_return (pc := 29) dX11_layTrial_29 rfl (h Mx (fun k2 i a => hfr k2 i (by omega)) (cvG_cp (hfr _ _ (by omega)) (fun t => hfr _ _ (by omega)) (fun k a b => by
          have := hcp k a (by omega)
          rw [show 14 * 1 + k = 14 + k by omega, show 14 * 0 + k = k by omega]
          exact this) h4))
    · refine zr_aload_n (pc := 8) dX11_layTrial_8 rfl rfl ?_
      refine zr_getR (pc := 9) fX11_22 lo_46 rfl rfl dX11_layTrial_9 ?_
      refine zr_bipush (pc := 12) dX11_layTrial_12 (by decide) ?_
      refine zr_iload_n (pc := 14) dX11_layTrial_14 rfl rfl ?_
      refine zr_iadd (pc := 15) dX11_layTrial_15 ?_
      refine zr_aload_n (pc := 16) dX11_layTrial_16 rfl rfl ?_
      refine zr_getR (pc := 17) fX11_22 lo_46 rfl rfl dX11_layTrial_17 ?_
      refine zr_iload_n (pc := 20) dX11_layTrial_20 rfl rfl ?_
      refine zr_iaload (pc := 21) lo_51 (by omega) dX11_layTrial_21 ?_
      refine zr_iastore (pc := 22) lo_51 (by omega) dX11_layTrial_22 ?_
      refine zr_iinc (pc := 23) dX11_layTrial_23 rfl (Nat.le_of_ble_eq_true rfl) rfl ?_
      refine zr_goto (pc := 26) (tgt := 2) dX11_layTrial_26 (by decide) ?_
      exact ih _ (by omega) _ _ rfl (by omega) (by omega) (fun k2 i a => by
        rw [show zm_put Mx 51 _ _ k2 i = Mx k2 i from if_neg (by omega)]
        exact hfr k2 i a) (fun j a b => by
        by_cases e : j = k
        · rw [e, put_at]
          exact hfr _ _ (by omega)
        · rw [put_ni _ _ (by omega)]
          exact hcp j a (by omega))

set_option maxRecDepth 100000 in
set_option maxHeartbeats 4000000 in
theorem ct_X11_layTrial {g : zt_G} {M : zm_M} {q : zm_M → Prop} (h4 : M 46 1 ≤ 4) (h : ∀ M2, frW 1 M M2 → cvG M2 51 (14 * 1) = cvG M 51 (14 * 0) → q M2) : zc_K g yX11_layTrial mX11_layTrial [zv_r 46] M (zq_V q) := by
  refine zc_of (ls := [some (zv_r 46), none]) (by decide) rfl ⟨rfl, rfl⟩ (Nat.le_of_ble_eq_true rfl) rfl ?_
  refine zr_iconst (pc := 0) dX11_layTrial_0 ?_
  refine zr_istore_n (pc := 1) dX11_layTrial_1 rfl (Nat.le_of_ble_eq_true rfl) rfl ?_
  exact lp_X11_layTrial (g := g) h4 h _ _ _ rfl (by omega) (by omega) (fun _ _ _ => rfl) (fun j a b => by omega)

set_option maxRecDepth 100000 in
set_option maxHeartbeats 4000000 in
theorem lp_X11_keepAct {g : zt_G} {M : zm_M} {q : zm_M → Prop} {σ : Sg} (hA : YA σ M) (hn : 0 ≤ (sA σ).1 ∧ (sA σ).1 ≤ 14) (h4 : M 46 1 ≤ 4) (h : ∀ M2, (∀ (k : Nat) (i : Int), k ≠ 57 → ¬ (k = 46 ∧ (i = 19 ∨ i = 20)) → M2 k i = M k i) → YA (SgA (psA (cvG M 51 (14 * 0)) (sA σ)) σ) M2 → q M2) : ∀ (nn : Nat) (k : Int) (Mx : zm_M), (14 - k).toNat = nn → 0 ≤ k → k ≤ 14 → (∀ (k2 : Nat) (i : Int), ¬ (k2 = 57 ∧ 14 * M 46 20 ≤ i ∧ i < 14 * M 46 20 + 14) → Mx k2 i = M k2 i) → (∀ j, 0 ≤ j → j < k → Mx 57 (14 * M 46 20 + j) = M 51 (j)) → zc_Z g mX11_keepAct 2 [some (zv_r 46), some (zv_i k)] [] Mx (zq_V q) := by
  intro nn
  induction nn using Nat.strongRecOn with
  | ind nn ih =>
    intro k Mx hnn h0 h1 hfr hcp
    have hA1 := hA.1
    have hA2 := hA.2.1
    have e20 : Mx 46 20 = M 46 20 := hfr _ _ (by omega)
    have e19 : Mx 46 19 = M 46 19 := hfr _ _ (by omega)
    refine zr_iload_n (pc := 2) dX11_keepAct_2 rfl rfl ?_
    refine zr_bipush (pc := 3) dX11_keepAct_3 (by decide) ?_
    refine zi_icmp_ge (pc := 5) (tgt := 34) dX11_keepAct_5 (by decide) (by omega) (by omega) (fun h5 => ?_) (fun h5 => ?_)
    · refine zr_aload_n (pc := 34) dX11_keepAct_34 rfl rfl ?_
      refine zr_aload_n (pc := 35) dX11_keepAct_35 rfl rfl ?_
      refine zr_getI (pc := 36) (z := 20) fX11_161 lo_46 rfl rfl rfl dX11_keepAct_36 ?_
      refine zr_iconst (pc := 39) dX11_keepAct_39 ?_
      refine zr_iadd (pc := 40) dX11_keepAct_40 ?_
      refine zr_bipush (pc := 41) dX11_keepAct_41 (by decide) ?_
      refine zr_irem (pc := 43) (by omega) (by omega) dX11_keepAct_43 ?_
      refine zr_putI (pc := 44) (z := 20) fX11_161 lo_46 rfl fwX11_20 rfl rfl dX11_keepAct_44 ?_
      refine zr_aload_n (pc := 47) dX11_keepAct_47 rfl rfl ?_
      refine zr_aload_n (pc := 48) dX11_keepAct_48 rfl rfl ?_
      have e19b : zm_put Mx 46 20 ((Mx 46 20 + 1) % 14) 46 19 = M 46 19 := by rw [put_ni _ _ (by decide), e19]
      refine zr_getI (pc := 49) (z := 19) fX11_113 lo_46 rfl rfl rfl dX11_keepAct_49 ?_
      rw [e19b]
      refine zr_bipush (pc := 52) dX11_keepAct_52 (by decide) ?_
      refine zi_icmp_ge (pc := 54) (tgt := 66) dX11_keepAct_54 (by decide) (by omega) (by omega) (fun h54 => ?_) (fun h54 => ?_)
      · refine zr_bipush (pc := 66) dX11_keepAct_66 (by decide) ?_
        refine zr_putI (pc := 68) (z := 19) fX11_113 lo_46 rfl fwX11_19 rfl rfl dX11_keepAct_68 ?_
        exact zr_return (pc := 71) dX11_keepAct_71 rfl (h _ (fun k2 i a b => by
            rw [show zm_put _ 46 19 _ k2 i = _ from if_neg (by omega), show zm_put _ 46 20 _ k2 i = _ from if_neg (by omega)]
            exact hfr k2 i (by omega)) (by
            obtain ⟨M3, e3⟩ : ∃ M3, M3 = zm_put (zm_put Mx 46 20 ((Mx 46 20 + 1) % 14)) 46 19 (14) := ⟨_, rfl⟩
            have z19 : M3 46 19 = 14 := by rw [e3, put_at]
            have z20 : M3 46 20 = (M 46 20 + 1) % 14 := by rw [e3, put_ni _ _ (by decide), put_at, e20]
            have z57 : ∀ i, M3 57 i = Mx 57 i := fun i => by rw [e3, put_nk _ _ _ _ (by decide), put_nk _ _ _ _ (by decide)]
            have z1 : M3 46 1 = M 46 1 := by rw [e3, put_ni _ _ (by decide), put_ni _ _ (by decide)]; exact hfr _ _ (by omega)
            have z50 : ∀ i, M3 50 i = M 50 i := fun i => by rw [e3, put_nk _ _ _ _ (by decide), put_nk _ _ _ _ (by decide)]; exact hfr _ _ (by omega)
            have zn : cvG M3 57 (14 * M 46 20) = cvG M 51 (14 * 0) := cvG_cp z1 z50 (fun k a b => by
              rw [z57, show 14 * 0 + k = k by omega]
              exact hcp k a (by omega)) h4
            have zo : ∀ x, 0 ≤ x → x < 14 → x ≠ M 46 20 → cvG M3 57 (14 * x) = cvG M 57 (14 * x) := fun x a b c => cvG_fr z1 z50 (fun i a2 b2 => by
              rw [z57]
              exact hfr _ _ (by omega)) h4
            rw [← e3]
            unfold SgA psA
            rw [if_pos (by omega)]
            refine ⟨z19, by rw [z20]; omega, fun j a b => ?_⟩
            dsimp only at b ⊢
            rw [z20]
            by_cases hj : j = 13
            · rw [if_pos hj, ← zn]
              congr 1
              omega
            · rw [if_neg hj, ← hA.2.2 _ (by omega) (by omega)]
              rw [zo _ (by omega) (by omega) (by omega)]
              congr 1
              omega))
      · refine zr_aload_n (pc := 57) dX11_keepAct_57 rfl rfl ?_
        refine zr_getI (pc := 58) (z := 19) fX11_113 lo_46 rfl rfl rfl dX11_keepAct_58 ?_
        rw [e19b]
        refine zr_iconst (pc := 61) dX11_keepAct_61 ?_
        refine zr_iadd (pc := 62) dX11_keepAct_62 ?_
        refine zr_goto (pc := 63) (tgt := 68) dX11_keepAct_63 (by decide) ?_
        refine zr_putI (pc := 68) (z := 19) fX11_113 lo_46 rfl fwX11_19 rfl rfl dX11_keepAct_68 ?_
        exact zr_return (pc := 71) dX11_keepAct_71 rfl (h _ (fun k2 i a b => by
            rw [show zm_put _ 46 19 _ k2 i = _ from if_neg (by omega), show zm_put _ 46 20 _ k2 i = _ from if_neg (by omega)]
            exact hfr k2 i (by omega)) (by
            obtain ⟨M3, e3⟩ : ∃ M3, M3 = zm_put (zm_put Mx 46 20 ((Mx 46 20 + 1) % 14)) 46 19 (M 46 19 + 1) := ⟨_, rfl⟩
            have z19 : M3 46 19 = (sA σ).1 + 1 := by rw [e3, put_at, hA1]
            have z20 : M3 46 20 = (M 46 20 + 1) % 14 := by rw [e3, put_ni _ _ (by decide), put_at, e20]
            have z57 : ∀ i, M3 57 i = Mx 57 i := fun i => by rw [e3, put_nk _ _ _ _ (by decide), put_nk _ _ _ _ (by decide)]
            have z1 : M3 46 1 = M 46 1 := by rw [e3, put_ni _ _ (by decide), put_ni _ _ (by decide)]; exact hfr _ _ (by omega)
            have z50 : ∀ i, M3 50 i = M 50 i := fun i => by rw [e3, put_nk _ _ _ _ (by decide), put_nk _ _ _ _ (by decide)]; exact hfr _ _ (by omega)
            have zn : cvG M3 57 (14 * M 46 20) = cvG M 51 (14 * 0) := cvG_cp z1 z50 (fun k a b => by
              rw [z57, show 14 * 0 + k = k by omega]
              exact hcp k a (by omega)) h4
            have zo : ∀ x, 0 ≤ x → x < 14 → x ≠ M 46 20 → cvG M3 57 (14 * x) = cvG M 57 (14 * x) := fun x a b c => cvG_fr z1 z50 (fun i a2 b2 => by
              rw [z57]
              exact hfr _ _ (by omega)) h4
            rw [← e3]
            unfold SgA psA
            rw [if_neg (by omega)]
            refine ⟨z19, by rw [z20]; omega, fun j a b => ?_⟩
            dsimp only at b ⊢
            rw [z20]
            by_cases hj : j = (sA σ).1
            · rw [if_pos hj, ← zn]
              congr 1
              omega
            · rw [if_neg hj, ← hA.2.2 _ (by omega) (by omega)]
              rw [zo _ (by omega) (by omega) (by omega)]
              congr 1
              omega))
    · refine zr_aload_n (pc := 8) dX11_keepAct_8 rfl rfl ?_
      refine zr_getR (pc := 9) fX11_40 lo_46 rfl rfl dX11_keepAct_9 ?_
      refine zr_bipush (pc := 12) dX11_keepAct_12 (by decide) ?_
      refine zr_aload_n (pc := 14) dX11_keepAct_14 rfl rfl ?_
      refine zr_getI (pc := 15) (z := 20) fX11_161 lo_46 rfl rfl rfl dX11_keepAct_15 ?_
      refine zr_imul (pc := 18) dX11_keepAct_18 ?_
      refine zr_iload_n (pc := 19) dX11_keepAct_19 rfl rfl ?_
      refine zr_iadd (pc := 20) dX11_keepAct_20 ?_
      refine zr_aload_n (pc := 21) dX11_keepAct_21 rfl rfl ?_
      refine zr_getR (pc := 22) fX11_22 lo_46 rfl rfl dX11_keepAct_22 ?_
      refine zr_iload_n (pc := 25) dX11_keepAct_25 rfl rfl ?_
      refine zr_iaload (pc := 26) lo_51 (by omega) dX11_keepAct_26 ?_
      refine zr_iastore (pc := 27) lo_57 (by omega) dX11_keepAct_27 ?_
      rw [e20]
      refine zr_iinc (pc := 28) dX11_keepAct_28 rfl (Nat.le_of_ble_eq_true rfl) rfl ?_
      refine zr_goto (pc := 31) (tgt := 2) dX11_keepAct_31 (by decide) ?_
      exact ih _ (by omega) _ _ rfl (by omega) (by omega) (fun k2 i a => by
        rw [show zm_put Mx 57 _ _ k2 i = Mx k2 i from if_neg (by omega)]
        exact hfr k2 i a) (fun j a b => by
        by_cases e : j = k
        · rw [e, put_at]
          exact hfr _ _ (by omega)
        · rw [put_ni _ _ (by omega)]
          exact hcp j a (by omega))

set_option maxRecDepth 100000 in
set_option maxHeartbeats 4000000 in
theorem ct_X11_keepAct {g : zt_G} {M : zm_M} {q : zm_M → Prop} {σ : Sg} (hA : YA σ M) (hn : 0 ≤ (sA σ).1 ∧ (sA σ).1 ≤ 14) (h4 : M 46 1 ≤ 4) (h : ∀ M2, (∀ (k : Nat) (i : Int), k ≠ 57 → ¬ (k = 46 ∧ (i = 19 ∨ i = 20)) → M2 k i = M k i) → YA (SgA (psA (cvG M 51 (14 * 0)) (sA σ)) σ) M2 → q M2) : zc_K g yX11_keepAct mX11_keepAct [zv_r 46] M (zq_V q) := by
  refine zc_of (ls := [some (zv_r 46), none]) (by decide) rfl ⟨rfl, rfl⟩ (Nat.le_of_ble_eq_true rfl) rfl ?_
  refine zr_iconst (pc := 0) dX11_keepAct_0 ?_
  refine zr_istore_n (pc := 1) dX11_keepAct_1 rfl (Nat.le_of_ble_eq_true rfl) rfl ?_
  exact lp_X11_keepAct (g := g) hA hn h4 h _ _ _ rfl (by omega) (by omega) (fun _ _ _ => rfl) (fun j a b => by omega)

set_option maxRecDepth 100000 in
set_option maxHeartbeats 4000000 in
theorem ct_X11_night {g : zt_G} {M : zm_M} {σ : Sg} {q : Int → zm_M → Prop} (hR : RM σ M) (hW : SW σ) (h : ∀ M2, frM M M2 → RM (oNight σ).2 M2 → q (oNight σ).1 M2) : zc_K g yX11_night mX11_night [zv_r 46] M (zq_I q) := by
  refine zc_of (ls := [some (zv_r 46)]) (by decide) rfl ⟨rfl, rfl⟩ (Nat.le_of_ble_eq_true rfl) rfl ?_
  obtain ⟨hT, hl, hcv, hA, hK, hS, hD, hcd⟩ := id hR
  obtain ⟨wT, wTx, wL, ⟨wC, wZ⟩, wA, wK, wS⟩ := id hW
  have hLw : LW (lvM M) := by rw [hl]; exact wL
  have hCw : CW (cvG M 51 (14 * 0)) := by rw [hcv]; exact wC
  have hw0 := wGt hCw
  have hL0 := yMk hLw
  have hk1 : M 46 0 = (sL σ).1 := by rw [← hl]; rfl
  have ht1 : M 46 1 = ct (sC σ) := by rw [← hcv]; rfl
  have hT1 := hT.1
  refine zr_aload_n (pc := 0) dX11_night_0 rfl rfl ?_
  refine zr_inv0V (pc := 1) rfl sX11_164 lo_46 rfl rfl rfl dX11_night_1 ?_
  refine ct_X11_keepAct hA wA.1 hw0.2 (fun M1 hf1 hA1 => ?_)
  have hc1 : cvG M1 51 (14 * 0) = sC σ := by rw [cvG_fr (hf1 _ _ (by decide) (by decide)) (fun t => hf1 _ _ (by decide) (by omega)) (fun i _ _ => hf1 _ _ (by decide) (by omega)) hw0.2]; exact hcv
  have hC1 : CW (cvG M1 51 (14 * 0)) := by rw [hc1]; exact wC
  have hl1 : lvM M1 = sL σ := by rw [lvM_fr (hf1 _ _ (by decide) (by decide)) (fun k i a b => hf1 k i (by omega) (by omega))]; exact hl
  have e11 : M1 46 1 = M 46 1 := hf1 _ _ (by decide) (by decide)
  rw [hcv] at hA1
  refine zr_aload_n (pc := 4) dX11_night_4 rfl rfl ?_
  refine zr_iconst (pc := 5) dX11_night_5 ?_
  refine zr_inv1V (pc := 6) rfl sX11_167 lo_46 rfl rfl rfl dX11_night_6 ?_
  have ecd : M1 46 18 = 0 := by rw [hf1 _ _ (by decide) (by decide)]; exact hcd
  refine ct_X11_passOn (by decide) hC1 (by rw [hl1]; exact wL) (by rw [ecd]; decide) (fun M2 hf2 hv2 => ?_)
  rw [hc1, hl1, ecd] at hv2
  have hC2 : CW (cvG M2 51 (14 * 0)) := by rw [hv2]; exact CW_nit wL wC
  refine zr_aload_n (pc := 9) dX11_night_9 rfl rfl ?_
  refine zr_iconst (pc := 10) dX11_night_10 ?_
  refine zr_inv1I (pc := 11) rfl sX11_170 lo_46 rfl rfl rfl dX11_night_11 ?_
  refine ct_X11_hummocksOn (by decide) hC2 ?_
  rw [hv2]
  refine zr_stat1I (pc := 14) rfl sX11_173 rfl rfl dX11_night_14 ?_
  have hhb : 0 ≤ humB (nit (sL σ) 0 (sC σ)) ∧ humB (nit (sL σ) 0 (sC σ)) < 16 := by
    unfold humB
    exact fo4 (by rw [nit_ct]; omega)
  refine ct_X11_ones (by omega) ?_
  exact zr_ireturn (pc := 17) dX11_night_17 rfl (zq_eq (h M2 (fun k i a => by rw [hf2 k i (by omega), hf1 k i (by omega) (by omega)]) (by
      unfold oNight
      skip
      exact RM_act hR hW (fun k i a b c d => by rw [hf2 k i (by omega), hf1 k i (by omega) d]) hv2 (YA_fr hA1 (by rw [e11]; exact hw0.2) (hf2 _ _ (by omega)) (fun t => hf2 _ _ (by omega)) (hf2 _ _ (by omega)) (hf2 _ _ (by omega)) (fun i => hf2 _ _ (by omega))))) (by unfold oNight; rfl))

set_option maxRecDepth 100000 in
set_option maxHeartbeats 4000000 in
theorem ct_X11_walk {g : zt_G} {M : zm_M} {σ : Sg} {q : Int → zm_M → Prop} (hR : RM σ M) (hW : SW σ) {t p : Int} (ht : zi t) (hp : zi p) (h : ∀ M2, frM M M2 → RM (oWalk t p σ).2 M2 → q (oWalk t p σ).1 M2) : zc_K g yX11_walk mX11_walk [zv_r 46, zv_i t, zv_i p] M (zq_I q) := by
  refine zc_of (ls := [some (zv_r 46), some (zv_i t), some (zv_i p), none]) (by decide) rfl ⟨rfl, rfl⟩ (Nat.le_of_ble_eq_true rfl) rfl ?_
  obtain ⟨hT, hl, hcv, hA, hK, hS, hD, hcd⟩ := id hR
  obtain ⟨wT, wTx, wL, ⟨wC, wZ⟩, wA, wK, wS⟩ := id hW
  have hLw : LW (lvM M) := by rw [hl]; exact wL
  have hCw : CW (cvG M 51 (14 * 0)) := by rw [hcv]; exact wC
  have hw0 := wGt hCw
  have hL0 := yMk hLw
  have hk1 : M 46 0 = (sL σ).1 := by rw [← hl]; rfl
  have ht1 : M 46 1 = ct (sC σ) := by rw [← hcv]; rfl
  have hT1 := hT.1
  refine zr_aload_n (pc := 0) dX11_walk_0 rfl rfl ?_
  refine zr_iload_n (pc := 1) dX11_walk_1 rfl rfl ?_
  refine zr_inv1I (pc := 2) rfl sX11_136 lo_46 rfl rfl rfl dX11_walk_2 ?_
  refine ct_X11_isTramp hw0 ht ?_
  refine zr_ifb_eq (pc := 5) (tgt := 15) dX11_walk_5 (by decide) (fun h5 => ?_) (fun h5 => ?_)
  · refine zr_iconst (pc := 15) dX11_walk_15 ?_
    exact zr_ireturn (pc := 16) dX11_walk_16 rfl (zq_eq (h M (fun _ _ _ => rfl) (by unfold oWalk; rw [if_pos (Or.inl (by show ¬ (0 ≤ t ∧ t < ct (sC σ)); omega))]; exact hR)) (by unfold oWalk; rw [if_pos (Or.inl (by show ¬ (0 ≤ t ∧ t < ct (sC σ)); omega))]))
  · refine zr_iload_n (pc := 8) dX11_walk_8 rfl rfl ?_
    refine zr_stat1I (pc := 9) rfl sX11_140 rfl rfl dX11_walk_9 ?_
    refine ct_X11_isPlace hp ?_
    refine zr_ifb_ne (pc := 12) (tgt := 17) dX11_walk_12 (by decide) (fun h12 => ?_) (fun h12 => ?_)
    · refine zr_aload_n (pc := 17) dX11_walk_17 rfl rfl ?_
      refine zr_iconst (pc := 18) dX11_walk_18 ?_
      refine zr_iload_n (pc := 19) dX11_walk_19 rfl rfl ?_
      refine zr_iload_n (pc := 20) dX11_walk_20 rfl rfl ?_
      refine zr_inv3I (pc := 21) rfl sX11_176 lo_46 rfl rfl rfl dX11_walk_21 ?_
      refine ct_X11_canWalk (by decide) hCw ht hp ?_
      rw [hcv]
      refine zr_ifb_ne (pc := 24) (tgt := 30) dX11_walk_24 (by decide) (fun h24 => ?_) (fun h24 => ?_)
      · refine zr_aload_n (pc := 30) dX11_walk_30 rfl rfl ?_
        refine zr_inv0V (pc := 31) rfl sX11_164 lo_46 rfl rfl rfl dX11_walk_31 ?_
        refine ct_X11_keepAct hA wA.1 hw0.2 (fun M1 hf1 hA1 => ?_)
        have hc1 : cvG M1 51 (14 * 0) = sC σ := by rw [cvG_fr (hf1 _ _ (by decide) (by decide)) (fun t => hf1 _ _ (by decide) (by omega)) (fun i _ _ => hf1 _ _ (by decide) (by omega)) hw0.2]; exact hcv
        have hC1 : CW (cvG M1 51 (14 * 0)) := by rw [hc1]; exact wC
        have hl1 : lvM M1 = sL σ := by rw [lvM_fr (hf1 _ _ (by decide) (by decide)) (fun k i a b => hf1 k i (by omega) (by omega))]; exact hl
        have e11 : M1 46 1 = M 46 1 := hf1 _ _ (by decide) (by decide)
        rw [hcv] at hA1
        have hvp : cp (sC σ) t = M1 51 t := by
          rw [← hc1]
          exact vG_p (by rw [e11]; exact h5) (by omega)
        have hvi := (wC.2.2 t).1
        have hcz : cHas (sC σ) t := by show 0 ≤ t ∧ t < ct (sC σ); omega
        refine zr_aload_n (pc := 34) dX11_walk_34 rfl rfl ?_
        refine zr_getR (pc := 35) fX11_22 lo_46 rfl rfl dX11_walk_35 ?_
        refine zr_iload_n (pc := 38) dX11_walk_38 rfl rfl ?_
        refine zr_iaload (pc := 39) lo_51 (by omega) dX11_walk_39 ?_
        refine zr_iload_n (pc := 40) dX11_walk_40 rfl rfl ?_
        refine zr_stat2I (pc := 41) rfl sX11_143 rfl rfl dX11_walk_41 ?_
        rw [← hvp]
        refine ct_X11_far (by omega) hp ?_
        refine zr_istore_n (pc := 44) dX11_walk_44 rfl (Nat.le_of_ble_eq_true rfl) rfl ?_
        refine zr_aload_n (pc := 45) dX11_walk_45 rfl rfl ?_
        refine zr_iconst (pc := 46) dX11_walk_46 ?_
        refine zr_iload_n (pc := 47) dX11_walk_47 rfl rfl ?_
        refine zr_iload_n (pc := 48) dX11_walk_48 rfl rfl ?_
        refine zr_inv3V (pc := 49) rfl sX11_180 lo_46 rfl rfl rfl dX11_walk_49 ?_
        refine ct_X11_walkOn (by decide) hC1 (by rw [e11]; exact h5) (fun M2 hf2 hv2 => ?_)
        rw [hc1] at hv2
        refine zr_iload_n (pc := 52) dX11_walk_52 rfl rfl ?_
        exact zr_ireturn (pc := 53) dX11_walk_53 rfl (zq_eq (h M2 (fun k i a => by rw [hf2 k i (by omega), hf1 k i (by omega) (by omega)]) (by
            unfold oWalk
            rw [if_neg (show ¬ (¬ cHas (sC σ) t ∨ ¬ (0 ≤ p ∧ p < 10)) by rintro (y | y); exact y hcz; exact y h12), if_neg (show ¬ ¬ cMay (sC σ) t p from fun y => y h24)]
            exact RM_act hR hW (fun k i a b c d => by rw [hf2 k i (by omega), hf1 k i (by omega) d]) hv2 (YA_fr hA1 (by rw [e11]; exact hw0.2) (hf2 _ _ (by omega)) (fun t => hf2 _ _ (by omega)) (hf2 _ _ (by omega)) (hf2 _ _ (by omega)) (fun i => hf2 _ _ (by omega))))) (by unfold oWalk; rw [if_neg (show ¬ (¬ cHas (sC σ) t ∨ ¬ (0 ≤ p ∧ p < 10)) by rintro (y | y); exact y hcz; exact y h12), if_neg (show ¬ ¬ cMay (sC σ) t p from fun y => y h24)]))
      · refine zr_bipush (pc := 27) dX11_walk_27 (by decide) ?_
        exact zr_ireturn (pc := 29) dX11_walk_29 rfl (zq_eq (h M (fun _ _ _ => rfl) (by unfold oWalk; rw [if_neg (by rintro (y | y); exact y (by show 0 ≤ t ∧ t < ct (sC σ); omega); exact y h12), if_pos h24]; exact hR)) (by unfold oWalk; rw [if_neg (by rintro (y | y); exact y (by show 0 ≤ t ∧ t < ct (sC σ); omega); exact y h12), if_pos h24]))
    · refine zr_iconst (pc := 15) dX11_walk_15 ?_
      exact zr_ireturn (pc := 16) dX11_walk_16 rfl (zq_eq (h M (fun _ _ _ => rfl) (by unfold oWalk; rw [if_pos (Or.inr h12)]; exact hR)) (by unfold oWalk; rw [if_pos (Or.inr h12)]))

set_option maxRecDepth 100000 in
set_option maxHeartbeats 4000000 in
theorem ct_X11_tell {g : zt_G} {M : zm_M} {σ : Sg} {q : Int → zm_M → Prop} (hR : RM σ M) (hW : SW σ) {a b : Int} (ha : zi a) (hb : zi b) (h : ∀ M2, frM M M2 → RM (oTell a b σ).2 M2 → q (oTell a b σ).1 M2) : zc_K g yX11_tell mX11_tell [zv_r 46, zv_i a, zv_i b] M (zq_I q) := by
  refine zc_of (ls := [some (zv_r 46), some (zv_i a), some (zv_i b)]) (by decide) rfl ⟨rfl, rfl⟩ (Nat.le_of_ble_eq_true rfl) rfl ?_
  obtain ⟨hT, hl, hcv, hA, hK, hS, hD, hcd⟩ := id hR
  obtain ⟨wT, wTx, wL, ⟨wC, wZ⟩, wA, wK, wS⟩ := id hW
  have hLw : LW (lvM M) := by rw [hl]; exact wL
  have hCw : CW (cvG M 51 (14 * 0)) := by rw [hcv]; exact wC
  have hw0 := wGt hCw
  have hL0 := yMk hLw
  have hk1 : M 46 0 = (sL σ).1 := by rw [← hl]; rfl
  have ht1 : M 46 1 = ct (sC σ) := by rw [← hcv]; rfl
  have hT1 := hT.1
  refine zr_aload_n (pc := 0) dX11_tell_0 rfl rfl ?_
  refine zr_iload_n (pc := 1) dX11_tell_1 rfl rfl ?_
  refine zr_inv1I (pc := 2) rfl sX11_136 lo_46 rfl rfl rfl dX11_tell_2 ?_
  refine ct_X11_isTramp hw0 ha ?_
  refine zr_ifb_eq (pc := 5) (tgt := 16) dX11_tell_5 (by decide) (fun h5 => ?_) (fun h5 => ?_)
  · refine zr_iconst (pc := 16) dX11_tell_16 ?_
    exact zr_ireturn (pc := 17) dX11_tell_17 rfl (zq_eq (h M (fun _ _ _ => rfl) (by unfold oTell; rw [if_pos (Or.inl (by show ¬ (0 ≤ a ∧ a < ct (sC σ)); omega))]; exact hR)) (by unfold oTell; rw [if_pos (Or.inl (by show ¬ (0 ≤ a ∧ a < ct (sC σ)); omega))]))
  · refine zr_aload_n (pc := 8) dX11_tell_8 rfl rfl ?_
    refine zr_iload_n (pc := 9) dX11_tell_9 rfl rfl ?_
    refine zr_inv1I (pc := 10) rfl sX11_136 lo_46 rfl rfl rfl dX11_tell_10 ?_
    refine ct_X11_isTramp hw0 hb ?_
    refine zr_ifb_ne (pc := 13) (tgt := 18) dX11_tell_13 (by decide) (fun h13 => ?_) (fun h13 => ?_)
    · have hca : cHas (sC σ) a := by show 0 ≤ a ∧ a < ct (sC σ); omega
      have hcb : cHas (sC σ) b := by show 0 ≤ b ∧ b < ct (sC σ); omega
      refine zr_iload_n (pc := 18) dX11_tell_18 rfl rfl ?_
      refine zr_iload_n (pc := 19) dX11_tell_19 rfl rfl ?_
      refine zi_icmp_ne (pc := 20) (tgt := 26) dX11_tell_20 (by decide) (by omega) (by omega) (fun h20 => ?_) (fun h20 => ?_)
      · refine zr_aload_n (pc := 26) dX11_tell_26 rfl rfl ?_
        refine zr_iconst (pc := 27) dX11_tell_27 ?_
        refine zr_iload_n (pc := 28) dX11_tell_28 rfl rfl ?_
        refine zr_iload_n (pc := 29) dX11_tell_29 rfl rfl ?_
        refine zr_inv3I (pc := 30) rfl sX11_184 lo_46 rfl rfl rfl dX11_tell_30 ?_
        refine ct_X11_canTell (by decide) hCw ha hb ?_
        rw [hcv]
        refine zr_ifb_ne (pc := 33) (tgt := 39) dX11_tell_33 (by decide) (fun h33 => ?_) (fun h33 => ?_)
        · refine zr_aload_n (pc := 39) dX11_tell_39 rfl rfl ?_
          refine zr_inv0V (pc := 40) rfl sX11_164 lo_46 rfl rfl rfl dX11_tell_40 ?_
          refine ct_X11_keepAct hA wA.1 hw0.2 (fun M1 hf1 hA1 => ?_)
          have hc1 : cvG M1 51 (14 * 0) = sC σ := by rw [cvG_fr (hf1 _ _ (by decide) (by decide)) (fun t => hf1 _ _ (by decide) (by omega)) (fun i _ _ => hf1 _ _ (by decide) (by omega)) hw0.2]; exact hcv
          have hC1 : CW (cvG M1 51 (14 * 0)) := by rw [hc1]; exact wC
          have hl1 : lvM M1 = sL σ := by rw [lvM_fr (hf1 _ _ (by decide) (by decide)) (fun k i a b => hf1 k i (by omega) (by omega))]; exact hl
          have e11 : M1 46 1 = M 46 1 := hf1 _ _ (by decide) (by decide)
          rw [hcv] at hA1
          refine zr_aload_n (pc := 43) dX11_tell_43 rfl rfl ?_
          refine zr_iconst (pc := 44) dX11_tell_44 ?_
          refine zr_iload_n (pc := 45) dX11_tell_45 rfl rfl ?_
          refine zr_iload_n (pc := 46) dX11_tell_46 rfl rfl ?_
          refine zr_inv3V (pc := 47) rfl sX11_187 lo_46 rfl rfl rfl dX11_tell_47 ?_
          refine ct_X11_tellOn (by decide) hC1 (by rw [e11]; exact h5) (by rw [e11]; exact h13) (fun M2 hf2 hv2 => ?_)
          rw [hc1] at hv2
          refine zr_aload_n (pc := 50) dX11_tell_50 rfl rfl ?_
          refine zr_getR (pc := 51) fX11_22 lo_46 rfl rfl dX11_tell_51 ?_
          refine zr_iconst (pc := 54) dX11_tell_54 ?_
          refine zr_iload_n (pc := 55) dX11_tell_55 rfl rfl ?_
          refine zr_iadd (pc := 56) dX11_tell_56 ?_
          have hvn : cn (chr a b (sC σ)) b = M2 51 (4 + b) := by
            rw [← hv2]
            exact vG_n (by rw [hf2 46 1 (by omega), e11]; exact h13) (by omega)
          have hvi := ((CW_chr (a := a) (b := b) wC).2.2 b).2.2.1
          refine zr_iaload (pc := 57) lo_51 (by omega) dX11_tell_57 ?_
          refine zr_stat1I (pc := 58) rfl sX11_173 rfl rfl dX11_tell_58 ?_
          rw [← hvn]
          refine ct_X11_ones (by omega) ?_
          exact zr_ireturn (pc := 61) dX11_tell_61 rfl (zq_eq (h M2 (fun k i a => by rw [hf2 k i (by omega), hf1 k i (by omega) (by omega)]) (by
              unfold oTell
              rw [if_neg (by rintro (y | y); exact y hca; exact y hcb), if_neg h20, if_neg (fun y => y h33)]
              exact RM_act hR hW (fun k i a b c d => by rw [hf2 k i (by omega), hf1 k i (by omega) d]) hv2 (YA_fr hA1 (by rw [e11]; exact hw0.2) (hf2 _ _ (by omega)) (fun t => hf2 _ _ (by omega)) (hf2 _ _ (by omega)) (hf2 _ _ (by omega)) (fun i => hf2 _ _ (by omega))))) (by unfold oTell; rw [if_neg (by rintro (y | y); exact y hca; exact y hcb), if_neg h20, if_neg (fun y => y h33)]))
        · refine zr_bipush (pc := 36) dX11_tell_36 (by decide) ?_
          exact zr_ireturn (pc := 38) dX11_tell_38 rfl (zq_eq (h M (fun _ _ _ => rfl) (by unfold oTell; rw [if_neg (by rintro (y | y); exact y hca; exact y hcb), if_neg h20, if_pos h33]; exact hR)) (by unfold oTell; rw [if_neg (by rintro (y | y); exact y hca; exact y hcb), if_neg h20, if_pos h33]))
      · refine zr_bipush (pc := 23) dX11_tell_23 (by decide) ?_
        exact zr_ireturn (pc := 25) dX11_tell_25 rfl (zq_eq (h M (fun _ _ _ => rfl) (by unfold oTell; rw [if_neg (by rintro (y | y); exact y hca; exact y hcb), if_pos h20]; exact hR)) (by unfold oTell; rw [if_neg (by rintro (y | y); exact y hca; exact y hcb), if_pos h20]))
    · refine zr_iconst (pc := 16) dX11_tell_16 ?_
      exact zr_ireturn (pc := 17) dX11_tell_17 rfl (zq_eq (h M (fun _ _ _ => rfl) (by unfold oTell; rw [if_pos (Or.inr (by show ¬ (0 ≤ b ∧ b < ct (sC σ)); omega))]; exact hR)) (by unfold oTell; rw [if_pos (Or.inr (by show ¬ (0 ≤ b ∧ b < ct (sC σ)); omega))]))

set_option maxRecDepth 100000 in
set_option maxHeartbeats 4000000 in
theorem ct_X11_wash {g : zt_G} {M : zm_M} {σ : Sg} {q : Int → zm_M → Prop} (hR : RM σ M) (hW : SW σ) {t : Int} (ht : zi t) (h : ∀ M2, frM M M2 → RM (oWash t σ).2 M2 → q (oWash t σ).1 M2) : zc_K g yX11_wash mX11_wash [zv_r 46, zv_i t] M (zq_I q) := by
  refine zc_of (ls := [some (zv_r 46), some (zv_i t), none]) (by decide) rfl ⟨rfl, rfl⟩ (Nat.le_of_ble_eq_true rfl) rfl ?_
  obtain ⟨hT, hl, hcv, hA, hK, hS, hD, hcd⟩ := id hR
  obtain ⟨wT, wTx, wL, ⟨wC, wZ⟩, wA, wK, wS⟩ := id hW
  have hLw : LW (lvM M) := by rw [hl]; exact wL
  have hCw : CW (cvG M 51 (14 * 0)) := by rw [hcv]; exact wC
  have hw0 := wGt hCw
  have hL0 := yMk hLw
  have hk1 : M 46 0 = (sL σ).1 := by rw [← hl]; rfl
  have ht1 : M 46 1 = ct (sC σ) := by rw [← hcv]; rfl
  have hT1 := hT.1
  refine zr_aload_n (pc := 0) dX11_wash_0 rfl rfl ?_
  refine zr_iload_n (pc := 1) dX11_wash_1 rfl rfl ?_
  refine zr_inv1I (pc := 2) rfl sX11_136 lo_46 rfl rfl rfl dX11_wash_2 ?_
  refine ct_X11_isTramp hw0 ht ?_
  refine zr_ifb_ne (pc := 5) (tgt := 10) dX11_wash_5 (by decide) (fun h5 => ?_) (fun h5 => ?_)
  · refine zr_aload_n (pc := 10) dX11_wash_10 rfl rfl ?_
    refine zr_iconst (pc := 11) dX11_wash_11 ?_
    refine zr_iload_n (pc := 12) dX11_wash_12 rfl rfl ?_
    refine zr_inv2I (pc := 13) rfl sX11_122 lo_46 rfl rfl rfl dX11_wash_13 ?_
    refine ct_X11_isHummock (by decide) hCw h5 ?_
    rw [hcv]
    have hct : cHas (sC σ) t := by show 0 ≤ t ∧ t < ct (sC σ); omega
    refine zr_ifb_eq (pc := 16) (tgt := 22) dX11_wash_16 (by decide) (fun h16 => ?_) (fun h16 => ?_)
    · refine zr_aload_n (pc := 22) dX11_wash_22 rfl rfl ?_
      refine zr_inv0V (pc := 23) rfl sX11_164 lo_46 rfl rfl rfl dX11_wash_23 ?_
      refine ct_X11_keepAct hA wA.1 hw0.2 (fun M1 hf1 hA1 => ?_)
      have hc1 : cvG M1 51 (14 * 0) = sC σ := by rw [cvG_fr (hf1 _ _ (by decide) (by decide)) (fun t => hf1 _ _ (by decide) (by omega)) (fun i _ _ => hf1 _ _ (by decide) (by omega)) hw0.2]; exact hcv
      have hC1 : CW (cvG M1 51 (14 * 0)) := by rw [hc1]; exact wC
      have hl1 : lvM M1 = sL σ := by rw [lvM_fr (hf1 _ _ (by decide) (by decide)) (fun k i a b => hf1 k i (by omega) (by omega))]; exact hl
      have e11 : M1 46 1 = M 46 1 := hf1 _ _ (by decide) (by decide)
      rw [hcv] at hA1
      have hvn : cn (sC σ) t = M1 51 (4 + t) := by
        rw [← hc1]
        exact vG_n (by rw [e11]; exact h5) (by omega)
      have hvi := (wC.2.2 t).2.2.1
      refine zr_aload_n (pc := 26) dX11_wash_26 rfl rfl ?_
      refine zr_getR (pc := 27) fX11_22 lo_46 rfl rfl dX11_wash_27 ?_
      refine zr_iconst (pc := 30) dX11_wash_30 ?_
      refine zr_iload_n (pc := 31) dX11_wash_31 rfl rfl ?_
      refine zr_iadd (pc := 32) dX11_wash_32 ?_
      refine zr_iaload (pc := 33) lo_51 (by omega) dX11_wash_33 ?_
      refine zr_stat1I (pc := 34) rfl sX11_173 rfl rfl dX11_wash_34 ?_
      rw [← hvn]
      refine ct_X11_ones (by omega) ?_
      refine zr_istore_n (pc := 37) dX11_wash_37 rfl (Nat.le_of_ble_eq_true rfl) rfl ?_
      refine zr_aload_n (pc := 38) dX11_wash_38 rfl rfl ?_
      refine zr_iconst (pc := 39) dX11_wash_39 ?_
      refine zr_iload_n (pc := 40) dX11_wash_40 rfl rfl ?_
      refine zr_inv2V (pc := 41) rfl sX11_190 lo_46 rfl rfl rfl dX11_wash_41 ?_
      refine ct_X11_washOn (by decide) hC1 (by rw [e11]; exact h5) (fun M2 hf2 hv2 => ?_)
      rw [hc1] at hv2
      refine zr_iload_n (pc := 44) dX11_wash_44 rfl rfl ?_
      exact zr_ireturn (pc := 45) dX11_wash_45 rfl (zq_eq (h M2 (fun k i a => by rw [hf2 k i (by omega), hf1 k i (by omega) (by omega)]) (by
          unfold oWash
          rw [if_neg (fun y => y hct), if_neg (fun y => y ⟨hct, h16⟩)]
          exact RM_act hR hW (fun k i a b c d => by rw [hf2 k i (by omega), hf1 k i (by omega) d]) hv2 (YA_fr hA1 (by rw [e11]; exact hw0.2) (hf2 _ _ (by omega)) (fun t => hf2 _ _ (by omega)) (hf2 _ _ (by omega)) (hf2 _ _ (by omega)) (fun i => hf2 _ _ (by omega))))) (by unfold oWash; rw [if_neg (fun y => y hct), if_neg (fun y => y ⟨hct, h16⟩)]))
    · refine zr_bipush (pc := 19) dX11_wash_19 (by decide) ?_
      exact zr_ireturn (pc := 21) dX11_wash_21 rfl (zq_eq (h M (fun _ _ _ => rfl) (by unfold oWash; rw [if_neg (fun y => y hct), if_pos (fun y => y.2 h16)]; exact hR)) (by unfold oWash; rw [if_neg (fun y => y hct), if_pos (fun y => y.2 h16)]))
  · refine zr_iconst (pc := 8) dX11_wash_8 ?_
    exact zr_ireturn (pc := 9) dX11_wash_9 rfl (zq_eq (h M (fun _ _ _ => rfl) (by unfold oWash; rw [if_pos (by show ¬ (0 ≤ t ∧ t < ct (sC σ)); omega)]; exact hR)) (by unfold oWash; rw [if_pos (by show ¬ (0 ≤ t ∧ t < ct (sC σ)); omega)]))

set_option maxRecDepth 100000 in
set_option maxHeartbeats 4000000 in
theorem lp_X11_undo {g : zt_G} {M : zm_M} {σ : Sg} {q : Int → zm_M → Prop} (hR : RM σ M) (hW : SW σ) (hne : ¬ (sA σ).1 = 0) (h : ∀ M2, frM M M2 → RM (oUndo σ).2 M2 → q (oUndo σ).1 M2) {M0 : zm_M} (e0 : M0 = zm_put (zm_put M 46 19 (M 46 19 - 1)) 46 20 ((M 46 20 + 13) % 14)) : ∀ (nn : Nat) (k : Int) (Mx : zm_M), (14 - k).toNat = nn → 0 ≤ k → k ≤ 14 → (∀ (k2 : Nat) (i : Int), ¬ (k2 = 51 ∧ 0 ≤ i ∧ i < 14) → Mx k2 i = M0 k2 i) → (∀ j, 0 ≤ j → j < k → Mx 51 j = M 57 (14 * ((M 46 20 + 13) % 14) + j)) → zc_Z g mX11_undo 36 [some (zv_r 46), some (zv_i k)] [] Mx (zq_I q) := by
  intro nn
  induction nn using Nat.strongRecOn with
  | ind nn ih =>
    intro k Mx hnn h0 h1 hfr hcp
    obtain ⟨hT, hl, hcv, hA, hK, hS, hD, hcd⟩ := id hR
    obtain ⟨wT, wTx, wL, ⟨wC, wZ⟩, wA, wK, wS⟩ := id hW
    have hLw : LW (lvM M) := by rw [hl]; exact wL
    have hCw : CW (cvG M 51 (14 * 0)) := by rw [hcv]; exact wC
    have hw0 := wGt hCw
    have hL0 := yMk hLw
    have hk1 : M 46 0 = (sL σ).1 := by rw [← hl]; rfl
    have ht1 : M 46 1 = ct (sC σ) := by rw [← hcv]; rfl
    have hT1 := hT.1
    have hA1 := hA.1
    have hA2 := hA.2.1
    have z20 : M0 46 20 = (M 46 20 + 13) % 14 := by rw [e0, put_at]
    have z19 : M0 46 19 = M 46 19 - 1 := by rw [e0, put_ni _ _ (by decide), put_at]
    have zz : ∀ (k : Nat) (i : Int), ¬ (k = 46 ∧ (i = 19 ∨ i = 20)) → M0 k i = M k i := fun k i a => by
      rw [e0, show zm_put _ 46 20 _ k i = _ from if_neg (by omega), show zm_put _ 46 19 _ k i = _ from if_neg (by omega)]
    have e20 : Mx 46 20 = (M 46 20 + 13) % 14 := by rw [hfr _ _ (by omega), z20]
    have e19 : Mx 46 19 = M 46 19 - 1 := by rw [hfr _ _ (by omega), z19]
    refine zr_iload_n (pc := 36) dX11_undo_36 rfl rfl ?_
    refine zr_bipush (pc := 37) dX11_undo_37 (by decide) ?_
    refine zi_icmp_ge (pc := 39) (tgt := 68) dX11_undo_39 (by decide) (by omega) (by omega) (fun h39 => ?_) (fun h39 => ?_)
    · refine zr_aload_n (pc := 68) dX11_undo_68 rfl rfl ?_
      refine zr_getI (pc := 69) (z := 19) fX11_113 lo_46 rfl rfl rfl dX11_undo_69 ?_
      exact zr_ireturn (pc := 72) dX11_undo_72 rfl (zq_eq (h Mx (fun k i a => by rw [hfr k i (by omega), zz k i (by omega)]) (by
          unfold oUndo
          rw [if_neg hne]
          have f : ∀ (k : Nat) (i : Int), ¬ (k = 46 ∧ (i = 19 ∨ i = 20)) → k ≠ 51 → Mx k i = M k i := fun k i a b => by rw [hfr k i (by omega), zz k i a]
          refine RM_act hR hW (fun k i a b c d => f k i d c) ?_ ⟨by rw [e19, hA1]; rfl, by rw [e20]; omega, fun j a b => ?_⟩
          · rw [← hA.2.2 ((sA σ).1 - 1) (by omega) (by omega)]
            refine cvG_cp (f _ _ (by decide) (by decide)) (fun t => f _ _ (by omega) (by decide)) (fun k a b => ?_) hw0.2
            rw [show 14 * 0 + k = k by omega, hcp k a (by omega)]
            congr 1
            omega
          · have b2 : j < (sA σ).1 - 1 := b
            show cvG Mx 57 (14 * ((Mx 46 20 - ((sA σ).1 - 1) + j) % 14)) = (sA σ).2 j
            rw [← hA.2.2 j a (by omega), cvG_fr (M2 := Mx) (f _ _ (by decide) (by decide)) (fun t => f _ _ (by omega) (by decide)) (fun i _ _ => f _ _ (by omega) (by decide)) hw0.2, e20]
            congr 1
            omega)) (by unfold oUndo; rw [if_neg hne, e19, hA1]))
    · refine zr_aload_n (pc := 42) dX11_undo_42 rfl rfl ?_
      refine zr_getR (pc := 43) fX11_22 lo_46 rfl rfl dX11_undo_43 ?_
      refine zr_iload_n (pc := 46) dX11_undo_46 rfl rfl ?_
      refine zr_aload_n (pc := 47) dX11_undo_47 rfl rfl ?_
      refine zr_getR (pc := 48) fX11_40 lo_46 rfl rfl dX11_undo_48 ?_
      refine zr_bipush (pc := 51) dX11_undo_51 (by decide) ?_
      refine zr_aload_n (pc := 53) dX11_undo_53 rfl rfl ?_
      refine zr_getI (pc := 54) (z := 20) fX11_161 lo_46 rfl rfl rfl dX11_undo_54 ?_
      rw [e20]
      refine zr_imul (pc := 57) dX11_undo_57 ?_
      refine zr_iload_n (pc := 58) dX11_undo_58 rfl rfl ?_
      refine zr_iadd (pc := 59) dX11_undo_59 ?_
      refine zr_iaload (pc := 60) lo_57 (by omega) dX11_undo_60 ?_
      rw [show Mx 57 (14 * ((M 46 20 + 13) % 14) + k) = M 57 (14 * ((M 46 20 + 13) % 14) + k) by rw [hfr _ _ (by omega), zz _ _ (by omega)]]
      refine zr_iastore (pc := 61) lo_51 (by omega) dX11_undo_61 ?_
      refine zr_iinc (pc := 62) dX11_undo_62 rfl (Nat.le_of_ble_eq_true rfl) rfl ?_
      refine zr_goto (pc := 65) (tgt := 36) dX11_undo_65 (by decide) ?_
      exact ih _ (by omega) _ _ rfl (by omega) (by omega) (fun k2 i a => by
        rw [show zm_put Mx 51 _ _ k2 i = Mx k2 i from if_neg (by omega)]
        exact hfr k2 i a) (fun j a b => by
        by_cases e : j = k
        · rw [e, put_at]
        · rw [put_ni _ _ e]
          exact hcp j a (by omega))

set_option maxRecDepth 100000 in
set_option maxHeartbeats 4000000 in
theorem ct_X11_undo {g : zt_G} {M : zm_M} {σ : Sg} {q : Int → zm_M → Prop} (hR : RM σ M) (hW : SW σ) (h : ∀ M2, frM M M2 → RM (oUndo σ).2 M2 → q (oUndo σ).1 M2) : zc_K g yX11_undo mX11_undo [zv_r 46] M (zq_I q) := by
  refine zc_of (ls := [some (zv_r 46), none]) (by decide) rfl ⟨rfl, rfl⟩ (Nat.le_of_ble_eq_true rfl) rfl ?_
  obtain ⟨hT, hl, hcv, hA, hK, hS, hD, hcd⟩ := id hR
  obtain ⟨wT, wTx, wL, ⟨wC, wZ⟩, wA, wK, wS⟩ := id hW
  have hLw : LW (lvM M) := by rw [hl]; exact wL
  have hCw : CW (cvG M 51 (14 * 0)) := by rw [hcv]; exact wC
  have hw0 := wGt hCw
  have hL0 := yMk hLw
  have hk1 : M 46 0 = (sL σ).1 := by rw [← hl]; rfl
  have ht1 : M 46 1 = ct (sC σ) := by rw [← hcv]; rfl
  have hT1 := hT.1
  have hA1 := hA.1
  have hA2 := hA.2.1
  have wA1 := wA.1
  refine zr_aload_n (pc := 0) dX11_undo_0 rfl rfl ?_
  refine zr_getI (pc := 1) (z := 19) fX11_113 lo_46 rfl rfl rfl dX11_undo_1 ?_
  refine zi_if_ne (pc := 4) (tgt := 10) dX11_undo_4 (by decide) (by omega) (fun h4 => ?_) (fun h4 => ?_)
  · refine zr_aload_n (pc := 10) dX11_undo_10 rfl rfl ?_
    refine zr_dup_r (pc := 11) dX11_undo_11 ?_
    refine zr_getI (pc := 12) (z := 19) fX11_113 lo_46 rfl rfl rfl dX11_undo_12 ?_
    refine zr_iconst (pc := 15) dX11_undo_15 ?_
    refine zr_isub (pc := 16) dX11_undo_16 ?_
    refine zr_putI (pc := 17) (z := 19) fX11_113 lo_46 rfl fwX11_19 rfl rfl dX11_undo_17 ?_
    refine zr_aload_n (pc := 20) dX11_undo_20 rfl rfl ?_
    refine zr_aload_n (pc := 21) dX11_undo_21 rfl rfl ?_
    refine zr_getI (pc := 22) (z := 20) fX11_161 lo_46 rfl rfl rfl dX11_undo_22 ?_
    rw [put_ni M (k2 := 46) (j := 20) _ (by decide)]
    refine zr_bipush (pc := 25) dX11_undo_25 (by decide) ?_
    refine zr_iadd (pc := 27) dX11_undo_27 ?_
    refine zr_bipush (pc := 28) dX11_undo_28 (by decide) ?_
    refine zr_irem (pc := 30) (by omega) (by omega) dX11_undo_30 ?_
    refine zr_putI (pc := 31) (z := 20) fX11_161 lo_46 rfl fwX11_20 rfl rfl dX11_undo_31 ?_
    refine zr_iconst (pc := 34) dX11_undo_34 ?_
    refine zr_istore_n (pc := 35) dX11_undo_35 rfl (Nat.le_of_ble_eq_true rfl) rfl ?_
    exact lp_X11_undo (g := g) hR hW (by omega) h rfl _ _ _ rfl (by omega) (by omega) (fun _ _ _ => rfl) (fun j a b => by omega)
  · refine zr_bipush (pc := 7) dX11_undo_7 (by decide) ?_
    exact zr_ireturn (pc := 9) dX11_undo_9 rfl (zq_eq (h M (fun _ _ _ => rfl) (by unfold oUndo; rw [if_pos (by omega)]; exact hR)) (by unfold oUndo; rw [if_pos (by omega)]))

set_option maxRecDepth 100000 in
set_option maxHeartbeats 4000000 in
theorem lp_X11_keep {g : zt_G} {M M0 : zm_M} {σ : Sg} {q : Int → zm_M → Prop} (hR : RM σ M0) (hW : SW σ) {s : Int} (hs : 0 ≤ s ∧ s < 2) (e0 : M = zm_put M0 61 s 1) (h : ∀ M2, frM M0 M2 → RM (oKeep s σ).2 M2 → q (oKeep s σ).1 M2) : ∀ (nn : Nat) (k : Int) (Mx : zm_M), (14 - k).toNat = nn → 0 ≤ k → k ≤ 14 → (∀ (k2 : Nat) (i : Int), ¬ (k2 = 62 ∧ 14 * s ≤ i ∧ i < 14 * s + 14) → Mx k2 i = M k2 i) → (∀ j, 0 ≤ j → j < k → Mx 62 (14 * s + j) = M 51 (j)) → zc_Z g mX11_keep 21 [some (zv_r 46), some (zv_i s), some (zv_i k)] [] Mx (zq_I q) := by
  intro nn
  induction nn using Nat.strongRecOn with
  | ind nn ih =>
    intro k Mx hnn h0 h1 hfr hcp
    obtain ⟨hT, hl, hcv, hA, hK, hS, hD, hcd⟩ := id hR
    obtain ⟨wT, wTx, wL, ⟨wC, wZ⟩, wA, wK, wS⟩ := id hW
    have hLw : LW (lvM M0) := by rw [hl]; exact wL
    have hCw : CW (cvG M0 51 (14 * 0)) := by rw [hcv]; exact wC
    have hw0 := wGt hCw
    have hL0 := yMk hLw
    have hk1 : M0 46 0 = (sL σ).1 := by rw [← hl]; rfl
    have ht1 : M0 46 1 = ct (sC σ) := by rw [← hcv]; rfl
    have hT1 := hT.1
    refine zr_iload_n (pc := 21) dX11_keep_21 rfl rfl ?_
    refine zr_bipush (pc := 22) dX11_keep_22 (by decide) ?_
    refine zi_icmp_ge (pc := 24) (tgt := 50) dX11_keep_24 (by decide) (by omega) (by omega) (fun h24 => ?_) (fun h24 => ?_)
    · refine zr_aload_n (pc := 50) dX11_keep_50 rfl rfl ?_
      refine zr_getR (pc := 51) fX11_22 lo_46 rfl rfl dX11_keep_51 ?_
      refine zr_bipush (pc := 54) dX11_keep_54 (by decide) ?_
      refine zr_iaload (pc := 56) lo_51 (by omega) dX11_keep_56 ?_
      exact zr_ireturn (pc := 57) dX11_keep_57 rfl (zq_eq (h Mx (fun k i a => by rw [hfr k i (by omega), e0, put_nk _ _ _ _ (by omega)]) (by
          unfold oKeep
          rw [if_neg (fun y => y hs)]
          have f : ∀ (k : Nat) (i : Int), k ≠ 61 → k ≠ 62 → Mx k i = M0 k i := fun k i a b => by rw [hfr k i (by omega), e0, put_nk _ _ _ _ a]
          refine ⟨YT_fr hT (f _ _ (by decide) (by decide)) (fun i => f _ _ (by decide) (by decide)), ?_, ?_, YA_fr hA hw0.2 (f _ _ (by decide) (by decide)) (fun t => f _ _ (by decide) (by decide)) (f _ _ (by decide) (by decide)) (f _ _ (by decide) (by decide)) (fun i => f _ _ (by decide) (by decide)), fun s2 a b => ?_, YS_fr hS (f _ _ (by decide) (by decide)) (fun i => f _ _ (by decide) (by decide)) (fun i => f _ _ (by decide) (by decide)), by rw [f _ _ (by decide) (by decide)]; exact hD, by rw [f _ _ (by decide) (by decide)]; exact hcd⟩
          · rw [lvM_fr (f _ _ (by decide) (by decide)) (fun k i a b => f _ _ (by omega) (by omega))]
            exact hl
          · rw [cvG_fr (f _ _ (by decide) (by decide)) (fun t => f _ _ (by decide) (by decide)) (fun i _ _ => f _ _ (by decide) (by decide)) hw0.2]
            exact hcv
          · show Mx 61 s2 = upI (sK σ).1 s 1 s2 ∧ (upI (sK σ).1 s 1 s2 = 1 → cvG Mx 62 (14 * s2) = if s2 = s then sC σ else (sK σ).2 s2)
            rw [hfr 61 s2 (by omega), e0]
            by_cases hss : s2 = s
            · rw [hss, put_at, upI_s, if_pos rfl]
              refine ⟨rfl, fun _ => ?_⟩
              rw [← hcv]
              refine cvG_cp (f _ _ (by decide) (by decide)) (fun t => f _ _ (by decide) (by decide)) (fun k a b => ?_) hw0.2
              rw [hcp k a (by omega), show 14 * 0 + k = k by omega, e0, put_nk _ _ _ _ (by decide)]
            · rw [put_ni _ _ hss, upI_n hss, if_neg hss]
              refine ⟨(hK s2 a b).1, fun c => ?_⟩
              rw [← (hK s2 a b).2 c]
              exact cvG_fr (f _ _ (by decide) (by decide)) (fun t => f _ _ (by decide) (by decide)) (fun i a3 b3 => by rw [hfr 62 i (by omega), e0, put_nk _ _ _ _ (by decide)]) hw0.2)) (by unfold oKeep; rw [if_neg (fun y => y hs), hfr 51 13 (by omega), e0, put_nk _ _ _ _ (by decide), ← hcv]; rfl))
    · refine zr_aload_n (pc := 27) dX11_keep_27 rfl rfl ?_
      refine zr_getR (pc := 28) fX11_56 lo_46 rfl rfl dX11_keep_28 ?_
      refine zr_bipush (pc := 31) dX11_keep_31 (by decide) ?_
      refine zr_iload_n (pc := 33) dX11_keep_33 rfl rfl ?_
      refine zr_imul (pc := 34) dX11_keep_34 ?_
      refine zr_iload_n (pc := 35) dX11_keep_35 rfl rfl ?_
      refine zr_iadd (pc := 36) dX11_keep_36 ?_
      refine zr_aload_n (pc := 37) dX11_keep_37 rfl rfl ?_
      refine zr_getR (pc := 38) fX11_22 lo_46 rfl rfl dX11_keep_38 ?_
      refine zr_iload_n (pc := 41) dX11_keep_41 rfl rfl ?_
      refine zr_iaload (pc := 42) lo_51 (by omega) dX11_keep_42 ?_
      refine zr_iastore (pc := 43) lo_62 (by omega) dX11_keep_43 ?_
      refine zr_iinc (pc := 44) dX11_keep_44 rfl (Nat.le_of_ble_eq_true rfl) rfl ?_
      refine zr_goto (pc := 47) (tgt := 21) dX11_keep_47 (by decide) ?_
      exact ih _ (by omega) _ _ rfl (by omega) (by omega) (fun k2 i a => by
        rw [show zm_put Mx 62 _ _ k2 i = Mx k2 i from if_neg (by omega)]
        exact hfr k2 i a) (fun j a b => by
        by_cases e : j = k
        · rw [e, put_at]
          exact hfr _ _ (by omega)
        · rw [put_ni _ _ (by omega)]
          exact hcp j a (by omega))

set_option maxRecDepth 100000 in
set_option maxHeartbeats 4000000 in
theorem ct_X11_keep {g : zt_G} {M : zm_M} {σ : Sg} {q : Int → zm_M → Prop} (hR : RM σ M) (hW : SW σ) {s : Int} (hs : zi s) (h : ∀ M2, frM M M2 → RM (oKeep s σ).2 M2 → q (oKeep s σ).1 M2) : zc_K g yX11_keep mX11_keep [zv_r 46, zv_i s] M (zq_I q) := by
  refine zc_of (ls := [some (zv_r 46), some (zv_i s), none]) (by decide) rfl ⟨rfl, rfl⟩ (Nat.le_of_ble_eq_true rfl) rfl ?_
  refine zr_iload_n (pc := 0) dX11_keep_0 rfl rfl ?_
  refine zr_i2l (pc := 1) dX11_keep_1 ?_
  refine zr_lconst (pc := 2) (z := 0) dX11_keep_2 (by decide +kernel) ?_
  refine zr_lconst (pc := 3) (z := 1) dX11_keep_3 (by decide +kernel) ?_
  refine zr_stat3I (pc := 4) rfl sX11_61 rfl rfl dX11_keep_4 ?_
  refine in_i hs (by omega) (by omega) ?_
  refine zr_ifb_ne (pc := 7) (tgt := 12) dX11_keep_7 (by decide) (fun h7 => ?_) (fun h7 => ?_)
  · refine zr_aload_n (pc := 12) dX11_keep_12 rfl rfl ?_
    refine zr_getR (pc := 13) fX11_52 lo_46 rfl rfl dX11_keep_13 ?_
    refine zr_iload_n (pc := 16) dX11_keep_16 rfl rfl ?_
    refine zr_iconst (pc := 17) dX11_keep_17 ?_
    refine zr_zastore (pc := 18) (by decide) lo_61 (by omega) dX11_keep_18 ?_
    refine zr_iconst (pc := 19) dX11_keep_19 ?_
    refine zr_istore_n (pc := 20) dX11_keep_20 rfl (Nat.le_of_ble_eq_true rfl) rfl ?_
    exact lp_X11_keep (g := g) (M0 := M) hR hW (by omega) rfl h _ _ _ rfl (by omega) (by omega) (fun _ _ _ => rfl) (fun j a b => by omega)
  · refine zr_iconst (pc := 10) dX11_keep_10 ?_
    exact zr_ireturn (pc := 11) dX11_keep_11 rfl (zq_eq (h M (fun _ _ _ => rfl) (by unfold oKeep; rw [if_pos (by omega)]; exact hR)) (by unfold oKeep; rw [if_pos (by omega)]))

set_option maxRecDepth 100000 in
set_option maxHeartbeats 4000000 in
theorem lp_X11_again {g : zt_G} {M : zm_M} {σ : Sg} {q : Int → zm_M → Prop} (hR : RM σ M) (hW : SW σ) {s : Int} (hs : 0 ≤ s ∧ s < 2) (hk1 : (sK σ).1 s = 1) (h : ∀ M2, frM M M2 → RM (oAgain s σ).2 M2 → q (oAgain s σ).1 M2) : ∀ (nn : Nat) (k : Int) (Mx : zm_M), (14 - k).toNat = nn → 0 ≤ k → k ≤ 14 → (∀ (k2 : Nat) (i : Int), ¬ (k2 = 51 ∧ 0 ≤ i ∧ i < 0 + 14) → Mx k2 i = M k2 i) → (∀ j, 0 ≤ j → j < k → Mx 51 (j) = M 62 (14 * s + j)) → zc_Z g mX11_again 26 [some (zv_r 46), some (zv_i s), some (zv_i k)] [] Mx (zq_I q) := by
  intro nn
  induction nn using Nat.strongRecOn with
  | ind nn ih =>
    intro k Mx hnn h0 h1 hfr hcp
    obtain ⟨hT, hl, hcv, hA, hK, hS, hD, hcd⟩ := id hR
    obtain ⟨wT, wTx, wL, ⟨wC, wZ⟩, wA, wK, wS⟩ := id hW
    have hLw : LW (lvM M) := by rw [hl]; exact wL
    have hCw : CW (cvG M 51 (14 * 0)) := by rw [hcv]; exact wC
    have hw0 := wGt hCw
    have hL0 := yMk hLw
    have hk1x : M 46 0 = (sL σ).1 := by rw [← hl]; rfl
    have ht1 : M 46 1 = ct (sC σ) := by rw [← hcv]; rfl
    have hT1 := hT.1
    refine zr_iload_n (pc := 26) dX11_again_26 rfl rfl ?_
    refine zr_bipush (pc := 27) dX11_again_27 (by decide) ?_
    refine zi_icmp_ge (pc := 29) (tgt := 55) dX11_again_29 (by decide) (by omega) (by omega) (fun h29 => ?_) (fun h29 => ?_)
    · refine zr_aload_n (pc := 55) dX11_again_55 rfl rfl ?_
      refine zr_iconst (pc := 56) dX11_again_56 ?_
      refine zr_putI (pc := 57) (z := 19) fX11_113 lo_46 rfl fwX11_19 rfl rfl dX11_again_57 ?_
      refine zr_aload_n (pc := 60) dX11_again_60 rfl rfl ?_
      refine zr_getR (pc := 61) fX11_22 lo_46 rfl rfl dX11_again_61 ?_
      refine zr_bipush (pc := 64) dX11_again_64 (by decide) ?_
      refine zr_iaload (pc := 66) lo_51 (by omega) dX11_again_66 ?_
      exact zr_ireturn (pc := 67) dX11_again_67 rfl (zq_eq (h _ (fun k i a => by rw [put_nk _ _ _ _ (by omega), hfr k i (by omega)]) (by
          unfold oAgain
          rw [if_neg (fun y => y hs), if_neg (fun y => y hk1)]
          have f : ∀ (k : Nat) (i : Int), ¬ (k = 46 ∧ i = 19) → k ≠ 51 → zm_put Mx 46 19 0 k i = M k i := fun k i a b => by
            rw [show zm_put _ 46 19 _ k i = _ from if_neg a]
            exact hfr k i (by omega)
          refine RM_act hR hW (fun k i a b c d => f k i (by omega) c) ?_ ⟨put_at _ _ _ _, by rw [f _ _ (by decide) (by decide)]; exact hA.2.1, fun j a b => absurd b (by show ¬ j < 0; omega)⟩
          rw [← (hK s hs.1 hs.2).2 hk1]
          refine cvG_cp (f _ _ (by decide) (by decide)) (fun t => f _ _ (by omega) (by decide)) (fun k a b => ?_) hw0.2
          rw [show 14 * 0 + k = k by omega, put_nk _ _ _ _ (by decide), hcp k a (by omega)])) (by
          unfold oAgain
          rw [if_neg (fun y => y hs), if_neg (fun y => y hk1), put_nk _ _ _ _ (by decide), hcp 13 (by decide) (by omega), ← (hK s hs.1 hs.2).2 hk1]
          rfl))
    · refine zr_aload_n (pc := 32) dX11_again_32 rfl rfl ?_
      refine zr_getR (pc := 33) fX11_22 lo_46 rfl rfl dX11_again_33 ?_
      refine zr_iload_n (pc := 36) dX11_again_36 rfl rfl ?_
      refine zr_aload_n (pc := 37) dX11_again_37 rfl rfl ?_
      refine zr_getR (pc := 38) fX11_56 lo_46 rfl rfl dX11_again_38 ?_
      refine zr_bipush (pc := 41) dX11_again_41 (by decide) ?_
      refine zr_iload_n (pc := 43) dX11_again_43 rfl rfl ?_
      refine zr_imul (pc := 44) dX11_again_44 ?_
      refine zr_iload_n (pc := 45) dX11_again_45 rfl rfl ?_
      refine zr_iadd (pc := 46) dX11_again_46 ?_
      refine zr_iaload (pc := 47) lo_62 (by omega) dX11_again_47 ?_
      refine zr_iastore (pc := 48) lo_51 (by omega) dX11_again_48 ?_
      refine zr_iinc (pc := 49) dX11_again_49 rfl (Nat.le_of_ble_eq_true rfl) rfl ?_
      refine zr_goto (pc := 52) (tgt := 26) dX11_again_52 (by decide) ?_
      exact ih _ (by omega) _ _ rfl (by omega) (by omega) (fun k2 i a => by
        rw [show zm_put Mx 51 _ _ k2 i = Mx k2 i from if_neg (by omega)]
        exact hfr k2 i a) (fun j a b => by
        by_cases e : j = k
        · rw [e, put_at]
          exact hfr _ _ (by omega)
        · rw [put_ni _ _ (by omega)]
          exact hcp j a (by omega))

set_option maxRecDepth 100000 in
set_option maxHeartbeats 4000000 in
theorem ct_X11_again {g : zt_G} {M : zm_M} {σ : Sg} {q : Int → zm_M → Prop} (hR : RM σ M) (hW : SW σ) {s : Int} (hs : zi s) (h : ∀ M2, frM M M2 → RM (oAgain s σ).2 M2 → q (oAgain s σ).1 M2) : zc_K g yX11_again mX11_again [zv_r 46, zv_i s] M (zq_I q) := by
  refine zc_of (ls := [some (zv_r 46), some (zv_i s), none]) (by decide) rfl ⟨rfl, rfl⟩ (Nat.le_of_ble_eq_true rfl) rfl ?_
  obtain ⟨hT, hl, hcv, hA, hK, hS, hD, hcd⟩ := id hR
  obtain ⟨wT, wTx, wL, ⟨wC, wZ⟩, wA, wK, wS⟩ := id hW
  have hLw : LW (lvM M) := by rw [hl]; exact wL
  have hCw : CW (cvG M 51 (14 * 0)) := by rw [hcv]; exact wC
  have hw0 := wGt hCw
  have hL0 := yMk hLw
  have hk1 : M 46 0 = (sL σ).1 := by rw [← hl]; rfl
  have ht1 : M 46 1 = ct (sC σ) := by rw [← hcv]; rfl
  have hT1 := hT.1
  refine zr_iload_n (pc := 0) dX11_again_0 rfl rfl ?_
  refine zr_i2l (pc := 1) dX11_again_1 ?_
  refine zr_lconst (pc := 2) (z := 0) dX11_again_2 (by decide +kernel) ?_
  refine zr_lconst (pc := 3) (z := 1) dX11_again_3 (by decide +kernel) ?_
  refine zr_stat3I (pc := 4) rfl sX11_61 rfl rfl dX11_again_4 ?_
  refine in_i hs (by omega) (by omega) ?_
  refine zr_ifb_ne (pc := 7) (tgt := 12) dX11_again_7 (by decide) (fun h7 => ?_) (fun h7 => ?_)
  · have hks := hK s (by omega) (by omega)
    have wks := (wK s (by omega) (by omega)).1
    refine zr_aload_n (pc := 12) dX11_again_12 rfl rfl ?_
    refine zr_getR (pc := 13) fX11_52 lo_46 rfl rfl dX11_again_13 ?_
    refine zr_iload_n (pc := 16) dX11_again_16 rfl rfl ?_
    refine zr_zaload (pc := 17) lo_61 (by omega) dX11_again_17 ?_
    refine zi_if_ne (pc := 18) (tgt := 24) dX11_again_18 (by decide) (by omega) (fun h18 => ?_) (fun h18 => ?_)
    · refine zr_iconst (pc := 24) dX11_again_24 ?_
      refine zr_istore_n (pc := 25) dX11_again_25 rfl (Nat.le_of_ble_eq_true rfl) rfl ?_
      exact lp_X11_again (g := g) hR hW (by omega) (by omega) h _ _ _ rfl (by omega) (by omega) (fun _ _ _ => rfl) (fun j a b => by omega)
    · refine zr_bipush (pc := 21) dX11_again_21 (by decide) ?_
      exact zr_ireturn (pc := 23) dX11_again_23 rfl (zq_eq (h M (fun _ _ _ => rfl) (by unfold oAgain; rw [if_neg (by omega), if_pos (by omega)]; exact hR)) (by unfold oAgain; rw [if_neg (by omega), if_pos (by omega)]))
  · refine zr_iconst (pc := 10) dX11_again_10 ?_
    exact zr_ireturn (pc := 11) dX11_again_11 rfl (zq_eq (h M (fun _ _ _ => rfl) (by unfold oAgain; rw [if_pos (by omega)]; exact hR)) (by unfold oAgain; rw [if_pos (by omega)]))

set_option maxRecDepth 100000 in
set_option maxHeartbeats 4000000 in
theorem lp_X11_later {g : zt_G} {M : zm_M} {σ : Sg} {q : Int → zm_M → Prop} (hR : RM σ M) (hW : SW σ) {t n v : Int} (ht : cHas (sC σ) t) (hn : 0 ≤ n ∧ n ≤ 20) (hv : v = 0 ∨ v = 1) (h : ∀ M2, frM M M2 → RM σ M2 → q (aLater t n v (sL σ) (sC σ)) M2) : ∀ (nn : Nat) (k : Int) (Mx : zm_M), (n - k).toNat = nn → 0 ≤ k → k ≤ n → frW 1 M Mx → cvG Mx 51 (14 * 1) = ntN (sL σ) (sC σ) k.toNat → zc_Z g mX11_later 42 [some (zv_r 46), some (zv_i t), some (zv_i n), some (zv_i v), some (zv_i k)] [] Mx (zq_I q) := by
  intro nn
  induction nn using Nat.strongRecOn with
  | ind nn ih =>
    intro k Mx hnn h0 h1 hfr hvx
    obtain ⟨hT, hl, hcv, hA, hK, hS, hD, hcd⟩ := id hR
    obtain ⟨wT, wTx, wL, ⟨wC, wZ⟩, wA, wK, wS⟩ := id hW
    have hLw : LW (lvM M) := by rw [hl]; exact wL
    have hCw : CW (cvG M 51 (14 * 0)) := by rw [hcv]; exact wC
    have hw0 := wGt hCw
    have hL0 := yMk hLw
    have hk1 : M 46 0 = (sL σ).1 := by rw [← hl]; rfl
    have ht1 : M 46 1 = ct (sC σ) := by rw [← hcv]; rfl
    have hT1 := hT.1
    have hlx : lvM Mx = sL σ := by rw [lvM_fr (hfr _ _ (by omega)) (fun k i a b => hfr k i (by omega))]; exact hl
    have ecx : Mx 46 18 = 0 := by rw [hfr _ _ (by omega)]; exact hcd
    have e1x : Mx 46 1 = M 46 1 := hfr _ _ (by omega)
    have hCx : CW (cvG Mx 51 (14 * 1)) := by rw [hvx]; exact CW_ntN wL wC _
    have ht2 : 0 ≤ t ∧ t < Mx 46 1 := by rw [e1x, ht1]; exact ht
    refine zr_iload (pc := 42) dX11_later_42 rfl ?_
    refine zr_iload_n (pc := 44) dX11_later_44 rfl rfl ?_
    refine zi_icmp_ge (pc := 45) (tgt := 59) dX11_later_45 (by decide) (by omega) (by omega) (fun h45 => ?_) (fun h45 => ?_)
    · refine zr_aload_n (pc := 59) dX11_later_59 rfl rfl ?_
      refine zr_getR (pc := 60) fX11_22 lo_46 rfl rfl dX11_later_60 ?_
      refine zr_bipush (pc := 63) dX11_later_63 (by decide) ?_
      refine zr_iload_n (pc := 65) dX11_later_65 rfl rfl ?_
      refine zi_if_ne (pc := 66) (tgt := 73) dX11_later_66 (by decide) (by omega) (fun h66 => ?_) (fun h66 => ?_)
      · refine zr_bipush (pc := 73) dX11_later_73 (by decide) ?_
        refine zr_iadd (pc := 75) dX11_later_75 ?_
        refine zr_iload_n (pc := 76) dX11_later_76 rfl rfl ?_
        refine zr_iadd (pc := 77) dX11_later_77 ?_
        refine zr_iaload (pc := 78) lo_51 (by omega) dX11_later_78 ?_
        exact zr_ireturn (pc := 79) dX11_later_79 rfl (zq_eq (h Mx (fun k i a => hfr k i (by omega)) (RM_frs hR hW (fun k i a b => hfr k i (by unfold zsm at b; omega)))) (by
            unfold aLater
            rw [if_neg (fun y => y ht), if_neg (by omega), if_neg h66, ← show k = n by omega, ← hvx]
            exact (vG_h ht2 (by omega)).symm))
      · refine zr_iconst (pc := 69) dX11_later_69 ?_
        refine zr_goto (pc := 70) (tgt := 75) dX11_later_70 (by decide) ?_
        refine zr_iadd (pc := 75) dX11_later_75 ?_
        refine zr_iload_n (pc := 76) dX11_later_76 rfl rfl ?_
        refine zr_iadd (pc := 77) dX11_later_77 ?_
        refine zr_iaload (pc := 78) lo_51 (by omega) dX11_later_78 ?_
        exact zr_ireturn (pc := 79) dX11_later_79 rfl (zq_eq (h Mx (fun k i a => hfr k i (by omega)) (RM_frs hR hW (fun k i a b => hfr k i (by unfold zsm at b; omega)))) (by
            unfold aLater
            rw [if_neg (fun y => y ht), if_neg (by omega), if_pos h66, ← show k = n by omega, ← hvx]
            exact (vG_n ht2 (by omega)).symm))
    · refine zr_aload_n (pc := 48) dX11_later_48 rfl rfl ?_
      refine zr_iconst (pc := 49) dX11_later_49 ?_
      refine zr_inv1V (pc := 50) rfl sX11_167 lo_46 rfl rfl rfl dX11_later_50 ?_
      refine ct_X11_passOn (by decide) hCx (by rw [hlx]; exact wL) (by rw [ecx]; decide) (fun M2 hf2 hv2 => ?_)
      rw [hlx, ecx] at hv2
      refine zr_iinc (pc := 53) dX11_later_53 rfl (Nat.le_of_ble_eq_true rfl) rfl ?_
      refine zr_goto (pc := 56) (tgt := 42) dX11_later_56 (by decide) ?_
      exact ih _ (by omega) _ _ rfl (by omega) (by omega) (hfr.tr hf2) (by rw [hv2, hvx]; unfold ntN; rw [fo_s h0])

set_option maxRecDepth 100000 in
set_option maxHeartbeats 4000000 in
theorem ct_X11_later {g : zt_G} {M : zm_M} {σ : Sg} {q : Int → zm_M → Prop} (hR : RM σ M) (hW : SW σ) {t n v : Int} (ht : zi t) (hn : zi n) (hv : zi v) (h : ∀ M2, frM M M2 → RM σ M2 → q (aLater t n v (sL σ) (sC σ)) M2) : zc_K g yX11_later mX11_later [zv_r 46, zv_i t, zv_i n, zv_i v] M (zq_I q) := by
  refine zc_of (ls := [some (zv_r 46), some (zv_i t), some (zv_i n), some (zv_i v), none]) (by decide) rfl ⟨rfl, rfl⟩ (Nat.le_of_ble_eq_true rfl) rfl ?_
  obtain ⟨hT, hl, hcv, hA, hK, hS, hD, hcd⟩ := id hR
  obtain ⟨wT, wTx, wL, ⟨wC, wZ⟩, wA, wK, wS⟩ := id hW
  have hLw : LW (lvM M) := by rw [hl]; exact wL
  have hCw : CW (cvG M 51 (14 * 0)) := by rw [hcv]; exact wC
  have hw0 := wGt hCw
  have hL0 := yMk hLw
  have hk1 : M 46 0 = (sL σ).1 := by rw [← hl]; rfl
  have ht1 : M 46 1 = ct (sC σ) := by rw [← hcv]; rfl
  have hT1 := hT.1
  refine zr_aload_n (pc := 0) dX11_later_0 rfl rfl ?_
  refine zr_iload_n (pc := 1) dX11_later_1 rfl rfl ?_
  refine zr_inv1I (pc := 2) rfl sX11_136 lo_46 rfl rfl rfl dX11_later_2 ?_
  refine ct_X11_isTramp hw0 ht ?_
  refine zr_ifb_ne (pc := 5) (tgt := 10) dX11_later_5 (by decide) (fun h5 => ?_) (fun h5 => ?_)
  · refine zr_iload_n (pc := 10) dX11_later_10 rfl rfl ?_
    refine zr_i2l (pc := 11) dX11_later_11 ?_
    refine zr_lconst (pc := 12) (z := 0) dX11_later_12 (by decide +kernel) ?_
    refine zr_ldc2 (pc := 13) (z := 20) rfl kX11_193 (by decide +kernel) dX11_later_13 ?_
    refine zr_stat3I (pc := 16) rfl sX11_61 rfl rfl dX11_later_16 ?_
    refine in_i hn (by omega) (by omega) ?_
    refine zr_ifb_eq (pc := 19) (tgt := 32) dX11_later_19 (by decide) (fun h19 => ?_) (fun h19 => ?_)
    · refine zr_bipush (pc := 32) dX11_later_32 (by decide) ?_
      exact zr_ireturn (pc := 34) dX11_later_34 rfl (zq_eq (h M (fun _ _ _ => rfl) hR) (by unfold aLater; rw [if_neg (fun y => y (by show 0 ≤ t ∧ t < ct (sC σ); omega)), if_pos (by omega)]))
    · refine zr_iload_n (pc := 22) dX11_later_22 rfl rfl ?_
      refine zr_i2l (pc := 23) dX11_later_23 ?_
      refine zr_lconst (pc := 24) (z := 0) dX11_later_24 (by decide +kernel) ?_
      refine zr_lconst (pc := 25) (z := 1) dX11_later_25 (by decide +kernel) ?_
      refine zr_stat3I (pc := 26) rfl sX11_61 rfl rfl dX11_later_26 ?_
      refine in_i hv (by omega) (by omega) ?_
      refine zr_ifb_ne (pc := 29) (tgt := 35) dX11_later_29 (by decide) (fun h29 => ?_) (fun h29 => ?_)
      · refine zr_aload_n (pc := 35) dX11_later_35 rfl rfl ?_
        refine zr_inv0V (pc := 36) rfl sX11_195 lo_46 rfl rfl rfl dX11_later_36 ?_
        refine ct_X11_layTrial hw0.2 (fun M1 hf1 hv1 => ?_)
        rw [hcv] at hv1
        refine zr_iconst (pc := 39) dX11_later_39 ?_
        refine zr_istore (pc := 40) dX11_later_40 (Nat.le_of_ble_eq_true rfl) rfl ?_
        exact lp_X11_later (g := g) hR hW (by show 0 ≤ t ∧ t < ct (sC σ); omega) (by omega) (by omega) h _ _ M1 rfl (by omega) (by omega) hf1 (by rw [hv1]; rfl)
      · refine zr_bipush (pc := 32) dX11_later_32 (by decide) ?_
        exact zr_ireturn (pc := 34) dX11_later_34 rfl (zq_eq (h M (fun _ _ _ => rfl) hR) (by unfold aLater; rw [if_neg (fun y => y (by show 0 ≤ t ∧ t < ct (sC σ); omega)), if_pos (by omega)]))
  · refine zr_iconst (pc := 8) dX11_later_8 ?_
    exact zr_ireturn (pc := 9) dX11_later_9 rfl (zq_eq (h M (fun _ _ _ => rfl) hR) (by unfold aLater; rw [if_pos (by show ¬ (0 ≤ t ∧ t < ct (sC σ)); omega)]))

set_option maxRecDepth 100000 in
set_option maxHeartbeats 4000000 in
theorem lp_X11_hummock {g : zt_G} {M : zm_M} {σ : Sg} {q : Int → zm_M → Prop} (hR : RM σ M) (hW : SW σ) {t : Int} (ht : cHas (sC σ) t) (h : ∀ M2, frM M M2 → RM σ M2 → q (aHum t (sL σ) (sC σ)) M2) : ∀ (nn : Nat) (k : Int) (Mx : zm_M), (21 - k).toNat = nn → 0 ≤ k → k ≤ 21 → frW 1 M Mx → CW (cvG Mx 51 (14 * 1)) → humL (sL σ) t (21 - k).toNat k (cvG Mx 51 (14 * 1)) = humL (sL σ) t 21 0 (sC σ) → zc_Z g mX11_hummock 16 [some (zv_r 46), some (zv_i t), some (zv_i k)] [] Mx (zq_I q) := by
  intro nn
  induction nn using Nat.strongRecOn with
  | ind nn ih =>
    intro k Mx hnn h0 h1 hfr hCx hvx
    obtain ⟨hT, hl, hcv, hA, hK, hS, hD, hcd⟩ := id hR
    obtain ⟨wT, wTx, wL, ⟨wC, wZ⟩, wA, wK, wS⟩ := id hW
    have hLw : LW (lvM M) := by rw [hl]; exact wL
    have hCw : CW (cvG M 51 (14 * 0)) := by rw [hcv]; exact wC
    have hw0 := wGt hCw
    have hL0 := yMk hLw
    have hk1 : M 46 0 = (sL σ).1 := by rw [← hl]; rfl
    have ht1 : M 46 1 = ct (sC σ) := by rw [← hcv]; rfl
    have hT1 := hT.1
    have hlx : lvM Mx = sL σ := by rw [lvM_fr (hfr _ _ (by omega)) (fun k i a b => hfr k i (by omega))]; exact hl
    have ecx : Mx 46 18 = 0 := by rw [hfr _ _ (by omega)]; exact hcd
    have e1x : Mx 46 1 = M 46 1 := hfr _ _ (by omega)
    have ht2 : 0 ≤ t ∧ t < Mx 46 1 := by rw [e1x, ht1]; exact ht
    refine zr_iload_n (pc := 16) dX11_hummock_16 rfl rfl ?_
    refine zr_bipush (pc := 17) dX11_hummock_17 (by decide) ?_
    refine zi_icmp_ge (pc := 19) (tgt := 44) dX11_hummock_19 (by decide) (by omega) (by omega) (fun h19 => ?_) (fun h19 => ?_)
    · refine zr_bipush (pc := 44) dX11_hummock_44 (by decide) ?_
      exact zr_ireturn (pc := 46) dX11_hummock_46 rfl (zq_eq (h Mx (fun k i a => hfr k i (by omega)) (RM_frs hR hW (fun k i a b => hfr k i (by unfold zsm at b; omega)))) (by unfold aHum; rw [if_neg (fun y => y ht), ← hvx, show (21 - k).toNat = 0 by omega]; rfl))
    · rw [show (21 - k).toNat = (21 - (k + 1)).toNat + 1 by omega] at hvx
      unfold humL at hvx
      refine zr_aload_n (pc := 22) dX11_hummock_22 rfl rfl ?_
      refine zr_iconst (pc := 23) dX11_hummock_23 ?_
      refine zr_iload_n (pc := 24) dX11_hummock_24 rfl rfl ?_
      refine zr_inv2I (pc := 25) rfl sX11_122 lo_46 rfl rfl rfl dX11_hummock_25 ?_
      refine ct_X11_isHummock (by decide) hCx ht2 ?_
      refine zr_ifb_eq (pc := 28) (tgt := 33) dX11_hummock_28 (by decide) (fun h28 => ?_) (fun h28 => ?_)
      · refine zr_aload_n (pc := 33) dX11_hummock_33 rfl rfl ?_
        refine zr_iconst (pc := 34) dX11_hummock_34 ?_
        refine zr_inv1V (pc := 35) rfl sX11_167 lo_46 rfl rfl rfl dX11_hummock_35 ?_
        refine ct_X11_passOn (by decide) hCx (by rw [hlx]; exact wL) (by rw [ecx]; decide) (fun M2 hf2 hv2 => ?_)
        rw [hlx, ecx] at hv2
        refine zr_iinc (pc := 38) dX11_hummock_38 rfl (Nat.le_of_ble_eq_true rfl) rfl ?_
        refine zr_goto (pc := 41) (tgt := 16) dX11_hummock_41 (by decide) ?_
        rw [if_neg h28] at hvx
        exact ih _ (by omega) _ _ rfl (by omega) (by omega) (hfr.tr hf2) (by rw [hv2]; exact CW_nit wL hCx) (by rw [hv2]; exact hvx)
      · refine zr_iload_n (pc := 31) dX11_hummock_31 rfl rfl ?_
        exact zr_ireturn (pc := 32) dX11_hummock_32 rfl (zq_eq (h Mx (fun k i a => hfr k i (by omega)) (RM_frs hR hW (fun k i a b => hfr k i (by unfold zsm at b; omega)))) (by unfold aHum; rw [if_neg (fun y => y ht)]; rw [if_pos h28] at hvx; exact hvx))

set_option maxRecDepth 100000 in
set_option maxHeartbeats 4000000 in
theorem ct_X11_hummock {g : zt_G} {M : zm_M} {σ : Sg} {q : Int → zm_M → Prop} (hR : RM σ M) (hW : SW σ) {t : Int} (ht : zi t) (h : ∀ M2, frM M M2 → RM σ M2 → q (aHum t (sL σ) (sC σ)) M2) : zc_K g yX11_hummock mX11_hummock [zv_r 46, zv_i t] M (zq_I q) := by
  refine zc_of (ls := [some (zv_r 46), some (zv_i t), none]) (by decide) rfl ⟨rfl, rfl⟩ (Nat.le_of_ble_eq_true rfl) rfl ?_
  obtain ⟨hT, hl, hcv, hA, hK, hS, hD, hcd⟩ := id hR
  obtain ⟨wT, wTx, wL, ⟨wC, wZ⟩, wA, wK, wS⟩ := id hW
  have hLw : LW (lvM M) := by rw [hl]; exact wL
  have hCw : CW (cvG M 51 (14 * 0)) := by rw [hcv]; exact wC
  have hw0 := wGt hCw
  have hL0 := yMk hLw
  have hk1 : M 46 0 = (sL σ).1 := by rw [← hl]; rfl
  have ht1 : M 46 1 = ct (sC σ) := by rw [← hcv]; rfl
  have hT1 := hT.1
  refine zr_aload_n (pc := 0) dX11_hummock_0 rfl rfl ?_
  refine zr_iload_n (pc := 1) dX11_hummock_1 rfl rfl ?_
  refine zr_inv1I (pc := 2) rfl sX11_136 lo_46 rfl rfl rfl dX11_hummock_2 ?_
  refine ct_X11_isTramp hw0 ht ?_
  refine zr_ifb_ne (pc := 5) (tgt := 10) dX11_hummock_5 (by decide) (fun h5 => ?_) (fun h5 => ?_)
  · refine zr_aload_n (pc := 10) dX11_hummock_10 rfl rfl ?_
    refine zr_inv0V (pc := 11) rfl sX11_195 lo_46 rfl rfl rfl dX11_hummock_11 ?_
    refine ct_X11_layTrial hw0.2 (fun M1 hf1 hv1 => ?_)
    rw [hcv] at hv1
    refine zr_iconst (pc := 14) dX11_hummock_14 ?_
    refine zr_istore_n (pc := 15) dX11_hummock_15 rfl (Nat.le_of_ble_eq_true rfl) rfl ?_
    exact lp_X11_hummock (g := g) hR hW (by show 0 ≤ t ∧ t < ct (sC σ); omega) h _ _ M1 rfl (by omega) (by omega) hf1 (by rw [hv1]; exact wC) (by rw [hv1]; rfl)
  · refine zr_iconst (pc := 8) dX11_hummock_8 ?_
    exact zr_ireturn (pc := 9) dX11_hummock_9 rfl (zq_eq (h M (fun _ _ _ => rfl) hR) (by unfold aHum; rw [if_pos (by show ¬ (0 ≤ t ∧ t < ct (sC σ)); omega)]))

set_option maxRecDepth 100000 in
set_option maxHeartbeats 4000000 in
theorem ct_X11_knew {g : zt_G} {M : zm_M} {σ : Sg} {q : Int → zm_M → Prop} (hR : RM σ M) (hW : SW σ) {l k : Int} (hl0 : zi l) (hk0 : zi k) (h : ∀ M2, frM M M2 → RM (oKnew l k σ).2 M2 → q (oKnew l k σ).1 M2) : zc_K g yX11_knew mX11_knew [zv_r 46, zv_i l, zv_i k] M (zq_I q) := by
  refine zc_of (ls := [some (zv_r 46), some (zv_i l), some (zv_i k)]) (by decide) rfl ⟨rfl, rfl⟩ (Nat.le_of_ble_eq_true rfl) rfl ?_
  obtain ⟨hT, hl, hcv, hA, hK, hS, hD, hcd⟩ := id hR
  obtain ⟨wT, wTx, wL, ⟨wC, wZ⟩, wA, wK, wS⟩ := id hW
  have hLw : LW (lvM M) := by rw [hl]; exact wL
  have hCw : CW (cvG M 51 (14 * 0)) := by rw [hcv]; exact wC
  have hw0 := wGt hCw
  have hL0 := yMk hLw
  have hk1 : M 46 0 = (sL σ).1 := by rw [← hl]; rfl
  have ht1 : M 46 1 = ct (sC σ) := by rw [← hcv]; rfl
  have hT1 := hT.1
  have hS1 := hS.1
  have wS1 := wS.1
  refine zr_iload_n (pc := 0) dX11_knew_0 rfl rfl ?_
  refine zr_i2l (pc := 1) dX11_knew_1 ?_
  refine zr_lconst (pc := 2) (z := 1) dX11_knew_2 (by decide +kernel) ?_
  refine zr_ldc2 (pc := 3) (z := 6) rfl kX11_228 (by decide +kernel) dX11_knew_3 ?_
  refine zr_stat3I (pc := 6) rfl sX11_61 rfl rfl dX11_knew_6 ?_
  refine in_i hl0 (by omega) (by omega) ?_
  refine zr_ifb_eq (pc := 9) (tgt := 22) dX11_knew_9 (by decide) (fun h9 => ?_) (fun h9 => ?_)
  · refine zr_bipush (pc := 22) dX11_knew_22 (by decide) ?_
    exact zr_ireturn (pc := 24) dX11_knew_24 rfl (zq_eq (h M (fun _ _ _ => rfl) (by unfold oKnew; rw [if_pos (by omega)]; exact hR)) (by unfold oKnew; rw [if_pos (by omega)]))
  · refine zr_iload_n (pc := 12) dX11_knew_12 rfl rfl ?_
    refine zr_i2l (pc := 13) dX11_knew_13 ?_
    refine zr_lconst (pc := 14) (z := 0) dX11_knew_14 (by decide +kernel) ?_
    refine zr_lconst (pc := 15) (z := 1) dX11_knew_15 (by decide +kernel) ?_
    refine zr_stat3I (pc := 16) rfl sX11_61 rfl rfl dX11_knew_16 ?_
    refine in_i hk0 (by omega) (by omega) ?_
    refine zr_ifb_ne (pc := 19) (tgt := 25) dX11_knew_19 (by decide) (fun h19 => ?_) (fun h19 => ?_)
    · refine zr_aload_n (pc := 25) dX11_knew_25 rfl rfl ?_
      refine zr_getI (pc := 26) (z := 25) fX11_241 lo_46 rfl rfl rfl dX11_knew_26 ?_
      refine zr_bipush (pc := 29) dX11_knew_29 (by decide) ?_
      refine zi_icmp_ne (pc := 31) (tgt := 37) dX11_knew_31 (by decide) (by omega) (by omega) (fun h31 => ?_) (fun h31 => ?_)
      · refine zr_aload_n (pc := 37) dX11_knew_37 rfl rfl ?_
        refine zr_getR (pc := 38) fX11_46 lo_46 rfl rfl dX11_knew_38 ?_
        refine zr_aload_n (pc := 41) dX11_knew_41 rfl rfl ?_
        refine zr_getI (pc := 42) (z := 25) fX11_241 lo_46 rfl rfl rfl dX11_knew_42 ?_
        refine zr_iload_n (pc := 45) dX11_knew_45 rfl rfl ?_
        refine zr_iastore (pc := 46) lo_59 (by omega) dX11_knew_46 ?_
        refine zr_aload_n (pc := 47) dX11_knew_47 rfl rfl ?_
        refine zr_getR (pc := 48) fX11_49 lo_46 rfl rfl dX11_knew_48 ?_
        refine zr_aload_n (pc := 51) dX11_knew_51 rfl rfl ?_
        refine zr_getI (pc := 52) (z := 25) fX11_241 lo_46 rfl rfl rfl dX11_knew_52 ?_
        rw [put_nk M (k := 59) (k2 := 46) _ _ _ (by decide)]
        refine zr_iload_n (pc := 55) dX11_knew_55 rfl rfl ?_
        refine zr_iastore (pc := 56) lo_60 (by omega) dX11_knew_56 ?_
        refine zr_aload_n (pc := 57) dX11_knew_57 rfl rfl ?_
        refine zr_dup_r (pc := 58) dX11_knew_58 ?_
        refine zr_getI (pc := 59) (z := 25) fX11_241 lo_46 rfl rfl rfl dX11_knew_59 ?_
        rw [put_nk _ (k := 60) (k2 := 46) _ _ _ (by decide), put_nk M (k := 59) (k2 := 46) _ _ _ (by decide)]
        refine zr_iconst (pc := 62) dX11_knew_62 ?_
        refine zr_iadd (pc := 63) dX11_knew_63 ?_
        refine zr_putI (pc := 64) (z := 25) fX11_241 lo_46 rfl fwX11_25 rfl rfl dX11_knew_64 ?_
        refine zr_aload_n (pc := 67) dX11_knew_67 rfl rfl ?_
        refine zr_getI (pc := 68) (z := 25) fX11_241 lo_46 rfl rfl rfl dX11_knew_68 ?_
        rw [put_at]
        exact zr_ireturn (pc := 71) dX11_knew_71 rfl (zq_eq (h _ (fun k i a => by rw [put_nk _ _ _ _ (by omega), put_nk _ _ _ _ (by omega), put_nk _ _ _ _ (by omega)]) (by
            unfold oKnew
            rw [if_neg (by omega), if_neg (by omega)]
            have f : ∀ (k2 : Nat) (i : Int), (k2 ≠ 59 ∧ k2 ≠ 60 ∧ (k2 ≠ 46 ∨ i ≠ 25)) → zm_put (zm_put (zm_put M 59 (M 46 25) l) 60 (M 46 25) k) 46 25 (M 46 25 + 1) k2 i = M k2 i := fun k2 i a => by
              rw [show zm_put _ 46 25 _ k2 i = _ from if_neg (by omega), put_nk _ _ _ _ a.2.1, put_nk _ _ _ _ a.1]
            refine ⟨YT_fr hT (f _ _ (by omega)) (fun i => f _ _ (by omega)), ?_, ?_, YA_fr hA hw0.2 (f _ _ (by omega)) (fun t => f _ _ (by omega)) (f _ _ (by omega)) (f _ _ (by omega)) (fun i => f _ _ (by omega)), YK_fr hK hw0.2 (f _ _ (by omega)) (fun t => f _ _ (by omega)) (fun i => f _ _ (by omega)) (fun i => f _ _ (by omega)), ⟨by rw [put_at, hS1], fun e a b => ?_⟩, by rw [f _ _ (by omega)]; exact hD, by rw [f _ _ (by omega)]; exact hcd⟩
            · rw [lvM_fr (f _ _ (by omega)) (fun k i a b => f _ _ (by omega))]
              exact hl
            · rw [cvG_fr (f _ _ (by omega)) (fun t => f _ _ (by omega)) (fun i _ _ => f _ _ (by omega)) hw0.2]
              exact hcv
            · dsimp only at b ⊢
              rw [put_nk _ _ _ _ (show 59 ≠ 46 by decide), put_nk _ _ _ _ (show 60 ≠ 46 by decide), put_nk _ _ _ _ (show 59 ≠ 60 by decide), hS1]
              by_cases he : e = (sS σ).1
              · rw [he, put_at, put_at, upI_s, upI_s]
                exact ⟨rfl, rfl⟩
              · rw [put_ni _ _ he, put_ni _ _ he, put_nk _ _ _ _ (show 60 ≠ 59 by decide), upI_n he, upI_n he]
                exact hS.2 e a (by omega))) (by unfold oKnew; rw [if_neg (by omega), if_neg (by omega), hS1]))
      · refine zr_bipush (pc := 34) dX11_knew_34 (by decide) ?_
        exact zr_ireturn (pc := 36) dX11_knew_36 rfl (zq_eq (h M (fun _ _ _ => rfl) (by unfold oKnew; rw [if_neg (by omega), if_pos (by omega)]; exact hR)) (by unfold oKnew; rw [if_neg (by omega), if_pos (by omega)]))
    · refine zr_bipush (pc := 22) dX11_knew_22 (by decide) ?_
      exact zr_ireturn (pc := 24) dX11_knew_24 rfl (zq_eq (h M (fun _ _ _ => rfl) (by unfold oKnew; rw [if_pos (by omega)]; exact hR)) (by unfold oKnew; rw [if_pos (by omega)]))

set_option maxRecDepth 100000 in
set_option maxHeartbeats 4000000 in
theorem ct_X11_unknew {g : zt_G} {M : zm_M} {σ : Sg} {q : Int → zm_M → Prop} (hR : RM σ M) (hW : SW σ) (h : ∀ M2, frM M M2 → RM (oUnknew σ).2 M2 → q (oUnknew σ).1 M2) : zc_K g yX11_unknew mX11_unknew [zv_r 46] M (zq_I q) := by
  refine zc_of (ls := [some (zv_r 46), none]) (by decide) rfl ⟨rfl, rfl⟩ (Nat.le_of_ble_eq_true rfl) rfl ?_
  obtain ⟨hT, hl, hcv, hA, hK, hS, hD, hcd⟩ := id hR
  obtain ⟨wT, wTx, wL, ⟨wC, wZ⟩, wA, wK, wS⟩ := id hW
  have hLw : LW (lvM M) := by rw [hl]; exact wL
  have hCw : CW (cvG M 51 (14 * 0)) := by rw [hcv]; exact wC
  have hw0 := wGt hCw
  have hL0 := yMk hLw
  have hk1 : M 46 0 = (sL σ).1 := by rw [← hl]; rfl
  have ht1 : M 46 1 = ct (sC σ) := by rw [← hcv]; rfl
  have hT1 := hT.1
  have hS1 := hS.1
  refine zr_aload_n (pc := 0) dX11_unknew_0 rfl rfl ?_
  refine zr_getI (pc := 1) (z := 25) fX11_241 lo_46 rfl rfl rfl dX11_unknew_1 ?_
  refine zr_istore_n (pc := 4) dX11_unknew_4 rfl (Nat.le_of_ble_eq_true rfl) rfl ?_
  refine zr_aload_n (pc := 5) dX11_unknew_5 rfl rfl ?_
  refine zr_iconst (pc := 6) dX11_unknew_6 ?_
  refine zr_putI (pc := 7) (z := 25) fX11_241 lo_46 rfl fwX11_25 rfl rfl dX11_unknew_7 ?_
  refine zr_iload_n (pc := 10) dX11_unknew_10 rfl rfl ?_
  exact zr_ireturn (pc := 11) dX11_unknew_11 rfl (zq_eq (h _ (fun k i a => by rw [put_nk _ _ _ _ (by omega)]) (by
      have f : ∀ (k2 : Nat) (i : Int), (k2 ≠ 46 ∨ i ≠ 25) → zm_put M 46 25 0 k2 i = M k2 i := fun k2 i a => if_neg (by omega)
      refine ⟨YT_fr hT (f _ _ (by omega)) (fun i => f _ _ (by omega)), ?_, ?_, YA_fr hA hw0.2 (f _ _ (by omega)) (fun t => f _ _ (by omega)) (f _ _ (by omega)) (f _ _ (by omega)) (fun i => f _ _ (by omega)), YK_fr hK hw0.2 (f _ _ (by omega)) (fun t => f _ _ (by omega)) (fun i => f _ _ (by omega)) (fun i => f _ _ (by omega)), ⟨put_at _ _ _ _, fun e a b => absurd b (by show ¬ e < 0; omega)⟩, by rw [f _ _ (by omega)]; exact hD, by rw [f _ _ (by omega)]; exact hcd⟩
      · rw [lvM_fr (f _ _ (by omega)) (fun k i a b => f _ _ (by omega))]
        exact hl
      · rw [cvG_fr (f _ _ (by omega)) (fun t => f _ _ (by omega)) (fun i _ _ => f _ _ (by omega)) hw0.2]
        exact hcv)) hS1)

set_option maxRecDepth 100000 in
set_option maxHeartbeats 4000000 in
theorem ct_X11_seed {g : zt_G} {M : zm_M} {σ : Sg} {q : Int → zm_M → Prop} (hR : RM σ M) (hW : SW σ) {v : Int} (h : ∀ r M2, frM M M2 → RM (oSeed v σ).2 M2 → zx r = (oSeed v σ).1 → q r M2) : zc_K g yX11_seed mX11_seed [zv_r 46, zv_l v] M (zq_L q) := by
  refine zc_of (ls := [some (zv_r 46), some (zv_l v), none, none, none]) (by decide) rfl ⟨rfl, rfl⟩ (Nat.le_of_ble_eq_true rfl) rfl ?_
  obtain ⟨hT, hl, hcv, hA, hK, hS, hD, hcd⟩ := id hR
  obtain ⟨wT, wTx, wL, ⟨wC, wZ⟩, wA, wK, wS⟩ := id hW
  have hLw : LW (lvM M) := by rw [hl]; exact wL
  have hCw : CW (cvG M 51 (14 * 0)) := by rw [hcv]; exact wC
  have hw0 := wGt hCw
  have hL0 := yMk hLw
  have hk1 : M 46 0 = (sL σ).1 := by rw [← hl]; rfl
  have ht1 : M 46 1 = ct (sC σ) := by rw [← hcv]; rfl
  have hT1 := hT.1
  refine zr_aload_n (pc := 0) dX11_seed_0 rfl rfl ?_
  refine zr_getL (pc := 1) (z := 28) fX11_268 lo_46 rfl rfl rfl dX11_seed_1 ?_
  refine zr_lstore_n (pc := 4) dX11_seed_4 rfl (Nat.le_of_ble_eq_true rfl) rfl ?_
  refine zr_aload_n (pc := 5) dX11_seed_5 rfl rfl ?_
  refine zr_lload_n (pc := 6) dX11_seed_6 rfl rfl ?_
  refine zr_putL (pc := 7) (z := 28) fX11_268 lo_46 rfl fwX11_28 rfl rfl dX11_seed_7 ?_
  refine zr_lload_n (pc := 10) dX11_seed_10 rfl rfl ?_
  exact zr_lreturn (pc := 11) dX11_seed_11 rfl (h _ _ (fun k i a => by rw [put_nk _ _ _ _ (by omega)]) (by
      have f : ∀ (k2 : Nat) (i : Int), (k2 ≠ 46 ∨ i ≠ 28) → zm_put M 46 28 v k2 i = M k2 i := fun k2 i a => if_neg (by omega)
      refine ⟨YT_fr hT (f _ _ (by omega)) (fun i => f _ _ (by omega)), ?_, ?_, YA_fr hA hw0.2 (f _ _ (by omega)) (fun t => f _ _ (by omega)) (f _ _ (by omega)) (f _ _ (by omega)) (fun i => f _ _ (by omega)), YK_fr hK hw0.2 (f _ _ (by omega)) (fun t => f _ _ (by omega)) (fun i => f _ _ (by omega)) (fun i => f _ _ (by omega)), YS_fr hS (f _ _ (by omega)) (fun i => f _ _ (by omega)) (fun i => f _ _ (by omega)), by rw [put_at]; rfl, by rw [f _ _ (by omega)]; exact hcd⟩
      · rw [lvM_fr (f _ _ (by omega)) (fun k i a b => f _ _ (by omega))]
        exact hl
      · rw [cvG_fr (f _ _ (by omega)) (fun t => f _ _ (by omega)) (fun i _ _ => f _ _ (by omega)) hw0.2]
        exact hcv) hD)

