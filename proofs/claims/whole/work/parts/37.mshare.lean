theorem zb_1 {P : Prop} [Decidable P] : zb_B P = 1 ↔ P := by
  unfold zb_B
  split <;> simp [*]
theorem zb_zi {P : Prop} [Decidable P] : zi (zb_B P) := by
  unfold zb_B
  split <;> omega
set_option maxRecDepth 100000 in
set_option maxHeartbeats 4000000 in
theorem lp_X11_factorial {g : zt_G} {M : zm_M} {q : Int → zm_M → Prop} {n : Int} (hn : 0 ≤ n ∧ n ≤ 4) (h : q (fcI n) M) : ∀ (nn : Nat) (v k : Int), (n + 1 - k).toNat = nn → 2 ≤ k → (k ≤ n + 1 ∨ k = 2) → v = fcI (k - 1) → zc_Z g mX11_factorial 4 [some (zv_i n), some (zv_i v), some (zv_i k)] [] M (zq_I q) := by
  intro nn
  induction nn using Nat.strongRecOn with
  | ind nn ih =>
    intro v k hnn h0 h1 hv
    refine zr_iload_n (pc := 4) dX11_factorial_4 rfl rfl ?_
    refine zr_iload_n (pc := 5) dX11_factorial_5 rfl rfl ?_
    refine zi_icmp_gt (pc := 6) (tgt := 19) dX11_factorial_6 (by decide) (by omega) (by omega) (fun h6 => ?_) (fun h6 => ?_)
    · refine zr_iload_n (pc := 19) dX11_factorial_19 rfl rfl ?_
      exact zr_ireturn (pc := 20) dX11_factorial_20 rfl (zq_eq h (by
          rw [hv]
          rcases (by omega : k - 1 = n ∨ (k = 2 ∧ (n = 0 ∨ n = 1))) with e | ⟨e, e2 | e2⟩
          · rw [e]
          · rw [e, e2]
            decide
          · rw [e, e2]
            decide))
    · refine zr_iload_n (pc := 9) dX11_factorial_9 rfl rfl ?_
      refine zr_iload_n (pc := 10) dX11_factorial_10 rfl rfl ?_
      refine zr_imul (pc := 11) dX11_factorial_11 ?_
      refine zr_istore_n (pc := 12) dX11_factorial_12 rfl (Nat.le_of_ble_eq_true rfl) rfl ?_
      refine zr_iinc (pc := 13) dX11_factorial_13 rfl (Nat.le_of_ble_eq_true rfl) rfl ?_
      refine zr_goto (pc := 16) (tgt := 4) dX11_factorial_16 (by decide) ?_
      exact ih _ (by omega) _ _ rfl (by omega) (by omega) (by rw [hv]; rcases (by omega : k = 2 ∨ k = 3 ∨ k = 4) with e | e | e <;> rw [e] <;> decide)

set_option maxRecDepth 100000 in
set_option maxHeartbeats 4000000 in
theorem ct_X11_factorial {g : zt_G} {M : zm_M} {q : Int → zm_M → Prop} {n : Int} (hn : 0 ≤ n ∧ n ≤ 4) (h : q (fcI n) M) : zc_K g yX11_factorial mX11_factorial [zv_i n] M (zq_I q) := by
  refine zc_of (ls := [some (zv_i n), none, none]) (by decide) rfl ⟨rfl, rfl⟩ (Nat.le_of_ble_eq_true rfl) rfl ?_
  refine zr_iconst (pc := 0) dX11_factorial_0 ?_
  refine zr_istore_n (pc := 1) dX11_factorial_1 rfl (Nat.le_of_ble_eq_true rfl) rfl ?_
  refine zr_iconst (pc := 2) dX11_factorial_2 ?_
  refine zr_istore_n (pc := 3) dX11_factorial_3 rfl (Nat.le_of_ble_eq_true rfl) rfl ?_
  exact lp_X11_factorial hn h _ _ _ rfl (by omega) (by omega) rfl

theorem on4a : ∀ T : Nat, T ≤ 4 → ∀ s : Nat, s < 2 ^ T → 0 ≤ on6 (s : Int) ∧ on6 (s : Int) ≤ (T : Int) := by decide +kernel
theorem on4b : ∀ T : Nat, T ≤ 4 → ∀ s : Nat, s < 2 ^ T → ∀ t : Nat, t < T → bt (s : Int) (t : Int) = false → on6 (s : Int) < (T : Int) := by decide +kernel
theorem fcI_in {n : Int} : 1 ≤ fcI n ∧ fcI n ≤ 24 := by
  unfold fcI
  split
  · omega
  split
  · omega
  split <;> omega
theorem tw_ix {C : Cm} (t : Int) : 0 ≤ tw C t ∧ tw C t ≤ 72 := by
  rw [tw_sm]
  have key : ∀ n : Nat, 0 ≤ sm (fun l => if bt (cn C t) l = true ∧ 0 < howN C l then 12 / howN C l else 0) n ∧ sm (fun l => if bt (cn C t) l = true ∧ 0 < howN C l then 12 / howN C l else 0) n ≤ 12 * n := by
    intro n
    induction n with
    | zero => exact ⟨Int.le_refl 0, Int.le_refl 0⟩
    | succ n ih =>
      rw [sm_s]
      have h1 : 0 ≤ (if bt (cn C t) (n : Int) = true ∧ 0 < howN C (n : Int) then 12 / howN C (n : Int) else 0) ∧ (if bt (cn C t) (n : Int) = true ∧ 0 < howN C (n : Int) then 12 / howN C (n : Int) else 0) ≤ 12 := by
        split
        · rename_i h
          exact ⟨Int.ediv_nonneg (by decide) (by omega), Int.ediv_le_self _ (by decide)⟩
        · omega
      omega
  exact key 6
set_option maxRecDepth 100000 in
set_option maxHeartbeats 4000000 in
theorem lp_X11_share {g : zt_G} {M : zm_M} {σ : Sg} {q : Int → zm_M → Prop} (hR : RM σ M) (hW : SW σ) {t u : Int} (ht : cHas (sC σ) t) (hu : zi u) (h : ∀ M2, frM M M2 → RM σ M2 → q (aShare t u (sC σ)) M2) : ∀ (nn : Nat) (s k : Int) (x5 : Option zv_A), ((2 ^ (ct (sC σ)).toNat : Nat) - k).toNat = nn → 0 ≤ k → k ≤ ((2 ^ (ct (sC σ)).toNat : Nat) : Int) → s = sm (shT (sC σ) t) k.toNat → zc_Z g mX11_share 15 [some (zv_r 46), some (zv_i t), some (zv_i u), some (zv_i s), some (zv_i k), x5] [] M (zq_I q) := by
  intro nn
  induction nn using Nat.strongRecOn with
  | ind nn ih =>
    intro s k x5 hnn h0 h1 hs
    obtain ⟨hT, hl, hcv, hA, hK, hS, hD, hcd⟩ := id hR
    obtain ⟨wT, wTx, wL, ⟨wC, wZ⟩, wA, wK, wS⟩ := id hW
    have hLw : LW (lvM M) := by rw [hl]; exact wL
    have hCw : CW (cvG M 51 (14 * 0)) := by rw [hcv]; exact wC
    have hw0 := wGt hCw
    have hL0 := yMk hLw
    have hk1 : M 46 0 = (sL σ).1 := by rw [← hl]; rfl
    have ht1 : M 46 1 = ct (sC σ) := by rw [← hcv]; rfl
    have hT1 := hT.1
    have htt : 0 ≤ t ∧ t < ct (sC σ) := ht
    have hp := p2 (n := (ct (sC σ)).toNat) (by omega)
    have hsh : zb_shl 1 (M 46 1) = ((2 ^ (ct (sC σ)).toNat : Nat) : Int) := by
      have e9 : M 46 1 = (((ct (sC σ)).toNat : Nat) : Int) := by omega
      rw [e9]
      exact sh1 _ (by omega)
    refine zr_iload (pc := 15) dX11_share_15 rfl ?_
    refine zr_iconst (pc := 17) dX11_share_17 ?_
    refine zr_aload_n (pc := 18) dX11_share_18 rfl rfl ?_
    refine zr_getI (pc := 19) (z := 1) fX11_110 lo_46 rfl rfl rfl dX11_share_19 ?_
    refine zr_ishl (pc := 22) dX11_share_22 ?_
    rw [hsh]
    refine zi_icmp_ge (pc := 23) (tgt := 96) dX11_share_23 (by decide) (by omega) (by omega) (fun h23 => ?_) (fun h23 => ?_)
    · have hke : k.toNat = 2 ^ (ct (sC σ)).toNat := by omega
      have hseq := sh_eq wC ht
      rw [← hke, ← hs] at hseq
      have hfc := fcI_in (n := ct (sC σ))
      have htw := tw_ix (C := sC σ) t
      have hprod : 0 ≤ tw (sC σ) t * fcI (ct (sC σ)) ∧ tw (sC σ) t * fcI (ct (sC σ)) ≤ 72 * 24 := ⟨Int.mul_nonneg htw.1 (by omega), Int.mul_le_mul htw.2 hfc.2 (by omega) (by decide)⟩
      have hgc := gcI_in (a := s) (b := fcI (ct (sC σ))) (by omega) (by omega)
      refine zr_iload_n (pc := 96) dX11_share_96 rfl rfl ?_
      refine zr_aload_n (pc := 97) dX11_share_97 rfl rfl ?_
      refine zr_getI (pc := 98) (z := 1) fX11_110 lo_46 rfl rfl rfl dX11_share_98 ?_
      refine zr_stat1I (pc := 101) rfl sX11_247 rfl rfl dX11_share_101 ?_
      rw [ht1]
      refine ct_X11_factorial (by omega) ?_
      refine zr_stat2I (pc := 104) rfl sX11_253 rfl rfl dX11_share_104 ?_
      refine ct_X11_common (by omega) (by omega) ?_
      refine zr_istore (pc := 107) dX11_share_107 (Nat.le_of_ble_eq_true rfl) rfl ?_
      refine zr_iload_n (pc := 109) dX11_share_109 rfl rfl ?_
      refine zi_if_eq (pc := 110) (tgt := 120) dX11_share_110 (by decide) (by omega) (fun h110 => ?_) (fun h110 => ?_)
      · refine zr_aload_n (pc := 120) dX11_share_120 rfl rfl ?_
        refine zr_getI (pc := 121) (z := 1) fX11_110 lo_46 rfl rfl rfl dX11_share_121 ?_
        refine zr_stat1I (pc := 124) rfl sX11_247 rfl rfl dX11_share_124 ?_
        rw [ht1]
        refine ct_X11_factorial (by omega) ?_
        refine zr_iload (pc := 127) dX11_share_127 rfl ?_
        refine zr_idiv (pc := 129) (by omega) (by omega) dX11_share_129 ?_
        exact zr_ireturn (pc := 130) dX11_share_130 rfl (zq_eq (h M (fun _ _ _ => rfl) hR) (by
            unfold aShare
            rw [if_neg (fun y => y ht), ← frc_eq (a := s) (b := fcI (ct (sC σ))) (c := tw (sC σ) t) (d := 12) (by omega) (by omega) htw.1 (by decide) (by omega)]
            unfold frc
            rw [if_pos h110]))
      · refine zr_iload_n (pc := 113) dX11_share_113 rfl rfl ?_
        refine zr_iload (pc := 114) dX11_share_114 rfl ?_
        refine zr_idiv (pc := 116) (by omega) (by omega) dX11_share_116 ?_
        refine zr_goto (pc := 117) (tgt := 130) dX11_share_117 (by decide) ?_
        exact zr_ireturn (pc := 130) dX11_share_130 rfl (zq_eq (h M (fun _ _ _ => rfl) hR) (by
            unfold aShare
            rw [if_neg (fun y => y ht), ← frc_eq (a := s) (b := fcI (ct (sC σ))) (c := tw (sC σ) t) (d := 12) (by omega) (by omega) htw.1 (by decide) (by omega)]
            unfold frc
            rw [if_neg h110]))
    · have hon := on4a (ct (sC σ)).toNat (by omega) k.toNat (by omega)
      have honb := on4b (ct (sC σ)).toNat (by omega) k.toNat (by omega) t.toNat (by omega)
      rw [show ((k.toNat : Nat) : Int) = k by omega, show (((ct (sC σ)).toNat : Nat) : Int) = ct (sC σ) by omega] at hon honb
      rw [show ((t.toNat : Nat) : Int) = t by omega] at honb
      have hks := fun s => knS_in wC s
      have ek : ((k.toNat : Nat) : Int) = k := by omega
      refine zr_iload (pc := 26) dX11_share_26 rfl ?_
      refine zr_iload_n (pc := 28) dX11_share_28 rfl rfl ?_
      refine zr_stat2I (pc := 29) rfl sX11_75 rfl rfl dX11_share_29 ?_
      refine ct_X11_has (by omega) (by omega) ?_
      refine zr_ifb_ne (pc := 32) (tgt := 90) dX11_share_32 (by decide) (fun h32 => ?_) (fun h32 => ?_)
      · refine zr_iinc (pc := 90) dX11_share_90 rfl (Nat.le_of_ble_eq_true rfl) rfl ?_
        refine zr_goto (pc := 93) (tgt := 15) dX11_share_93 (by decide) ?_
        exact ih _ (by omega) _ _ _ rfl (by omega) (by omega) (by
          rw [show (k + 1).toNat = k.toNat + 1 by omega, sm_s, ← hs, ek]
          unfold shT
          rw [if_pos h32, Int.add_zero])
      · refine zr_iload (pc := 35) dX11_share_35 rfl ?_
        refine zr_stat1I (pc := 37) rfl sX11_173 rfl rfl dX11_share_37 ?_
        refine ct_X11_ones (by omega) ?_
        refine zr_stat1I (pc := 40) rfl sX11_247 rfl rfl dX11_share_40 ?_
        have hon2 := honb (Bool.eq_false_iff.mpr h32)
        refine ct_X11_factorial (by omega) ?_
        refine zr_aload_n (pc := 43) dX11_share_43 rfl rfl ?_
        refine zr_getI (pc := 44) (z := 1) fX11_110 lo_46 rfl rfl rfl dX11_share_44 ?_
        refine zr_iconst (pc := 47) dX11_share_47 ?_
        refine zr_isub (pc := 48) dX11_share_48 ?_
        refine zr_iload (pc := 49) dX11_share_49 rfl ?_
        refine zr_stat1I (pc := 51) rfl sX11_173 rfl rfl dX11_share_51 ?_
        refine ct_X11_ones (by omega) ?_
        refine zr_isub (pc := 54) dX11_share_54 ?_
        refine zr_stat1I (pc := 55) rfl sX11_247 rfl rfl dX11_share_55 ?_
        refine ct_X11_factorial (by omega) ?_
        refine zr_imul (pc := 58) dX11_share_58 ?_
        refine zr_istore (pc := 59) dX11_share_59 (Nat.le_of_ble_eq_true rfl) rfl ?_
        have hor := or_rng 4 (a := k) (b := zb_shl 1 t) (by decide) (by show 0 ≤ k ∧ k < 16; omega) (s1_rng 4 (by decide) (by omega))
        refine zr_iload_n (pc := 61) dX11_share_61 rfl rfl ?_
        refine zr_iload (pc := 62) dX11_share_62 rfl ?_
        refine zr_aload_n (pc := 64) dX11_share_64 rfl rfl ?_
        refine zr_iload (pc := 65) dX11_share_65 rfl ?_
        refine zr_iconst (pc := 67) dX11_share_67 ?_
        refine zr_iload_n (pc := 68) dX11_share_68 rfl rfl ?_
        refine zr_ishl (pc := 69) dX11_share_69 ?_
        refine zr_ior (pc := 70) dX11_share_70 ?_
        refine zr_inv1I (pc := 71) rfl sX11_250 lo_46 rfl rfl rfl dX11_share_71 ?_
        refine ct_X11_knownBy hCw ⟨hor.1, by have := hor.2; have e16 : (2 : Int) ^ 4 = 16 := rfl; omega⟩ ?_
        rw [hcv]
        refine zr_stat1I (pc := 74) rfl sX11_173 rfl rfl dX11_share_74 ?_
        have := hks (zb_or k (zb_shl 1 t))
        refine ct_X11_ones (by omega) ?_
        refine zr_aload_n (pc := 77) dX11_share_77 rfl rfl ?_
        refine zr_iload (pc := 78) dX11_share_78 rfl ?_
        refine zr_inv1I (pc := 80) rfl sX11_250 lo_46 rfl rfl rfl dX11_share_80 ?_
        refine ct_X11_knownBy hCw (by omega) ?_
        rw [hcv]
        refine zr_stat1I (pc := 83) rfl sX11_173 rfl rfl dX11_share_83 ?_
        have := hks k
        refine ct_X11_ones (by omega) ?_
        refine zr_isub (pc := 86) dX11_share_86 ?_
        refine zr_imul (pc := 87) dX11_share_87 ?_
        refine zr_iadd (pc := 88) dX11_share_88 ?_
        refine zr_istore_n (pc := 89) dX11_share_89 rfl (Nat.le_of_ble_eq_true rfl) rfl ?_
        refine zr_iinc (pc := 90) dX11_share_90 rfl (Nat.le_of_ble_eq_true rfl) rfl ?_
        refine zr_goto (pc := 93) (tgt := 15) dX11_share_93 (by decide) ?_
        exact ih _ (by omega) _ _ _ rfl (by omega) (by omega) (by
          rw [show (k + 1).toNat = k.toNat + 1 by omega, sm_s, ← hs, ek]
          unfold shT
          rw [if_neg h32, ht1, Int.mul_comm (on6 (knS (sC σ) (zb_or k (zb_shl 1 t))) - on6 (knS (sC σ) k))])

set_option maxRecDepth 100000 in
set_option maxHeartbeats 4000000 in
theorem ct_X11_share {g : zt_G} {M : zm_M} {σ : Sg} {q : Int → zm_M → Prop} (hR : RM σ M) (hW : SW σ) {t u : Int} (ht : zi t) (hu : zi u) (h : ∀ M2, frM M M2 → RM σ M2 → q (aShare t u (sC σ)) M2) : zc_K g yX11_share mX11_share [zv_r 46, zv_i t, zv_i u] M (zq_I q) := by
  refine zc_of (ls := [some (zv_r 46), some (zv_i t), some (zv_i u), none, none, none]) (by decide) rfl ⟨rfl, rfl⟩ (Nat.le_of_ble_eq_true rfl) rfl ?_
  obtain ⟨hT, hl, hcv, hA, hK, hS, hD, hcd⟩ := id hR
  obtain ⟨wT, wTx, wL, ⟨wC, wZ⟩, wA, wK, wS⟩ := id hW
  have hLw : LW (lvM M) := by rw [hl]; exact wL
  have hCw : CW (cvG M 51 (14 * 0)) := by rw [hcv]; exact wC
  have hw0 := wGt hCw
  have hL0 := yMk hLw
  have hk1 : M 46 0 = (sL σ).1 := by rw [← hl]; rfl
  have ht1 : M 46 1 = ct (sC σ) := by rw [← hcv]; rfl
  have hT1 := hT.1
  refine zr_aload_n (pc := 0) dX11_share_0 rfl rfl ?_
  refine zr_iload_n (pc := 1) dX11_share_1 rfl rfl ?_
  refine zr_inv1I (pc := 2) rfl sX11_136 lo_46 rfl rfl rfl dX11_share_2 ?_
  refine ct_X11_isTramp hw0 ht ?_
  refine zr_ifb_ne (pc := 5) (tgt := 10) dX11_share_5 (by decide) (fun h5 => ?_) (fun h5 => ?_)
  · refine zr_iconst (pc := 10) dX11_share_10 ?_
    refine zr_istore_n (pc := 11) dX11_share_11 rfl (Nat.le_of_ble_eq_true rfl) rfl ?_
    refine zr_iconst (pc := 12) dX11_share_12 ?_
    refine zr_istore (pc := 13) dX11_share_13 (Nat.le_of_ble_eq_true rfl) rfl ?_
    exact lp_X11_share (g := g) hR hW (by show 0 ≤ t ∧ t < ct (sC σ); omega) hu h _ _ _ _ rfl (by omega) (Int.natCast_nonneg _) rfl
  · refine zr_iconst (pc := 8) dX11_share_8 ?_
    exact zr_ireturn (pc := 9) dX11_share_9 rfl (zq_eq (h M (fun _ _ _ => rfl) hR) (by unfold aShare; rw [if_pos (by show ¬ (0 ≤ t ∧ t < ct (sC σ)); omega)]))

set_option maxRecDepth 100000 in
set_option maxHeartbeats 4000000 in
theorem lp_X11_upperOf {g : zt_G} {M : zm_M} {q : Int → zm_M → Prop} (hw : LW (lvM M)) {t m : Int} (ht : 0 ≤ t ∧ t < M 46 0) (hm : 0 ≤ m ∧ m ≤ 100) (h : q (tkn (lvM M) t m) M) : ∀ (nn : Nat) (b k : Int), (M 48 t - k).toNat = nn → 0 ≤ k → k ≤ M 48 t → k ≤ m → b = fo (fun k b => zb_or b (zb_shl 1 ((lvM M).2.2.2 t k))) 0 k.toNat → zc_Z g mX11_upperOf 5 [some (zv_r 46), some (zv_i t), some (zv_i m), some (zv_i b), some (zv_i k)] [] M (zq_I q) := by
  intro nn
  induction nn using Nat.strongRecOn with
  | ind nn ih =>
    intro b k hn h0 h1 h2 hb
    have hw1 := yMk hw
    have hw2 := yM hw ht
    refine zr_iload (pc := 5) dX11_upperOf_5 rfl ?_
    refine zr_aload_n (pc := 7) dX11_upperOf_7 rfl rfl ?_
    refine zr_getR (pc := 8) fX11_13 lo_46 rfl rfl dX11_upperOf_8 ?_
    refine zr_iload_n (pc := 11) dX11_upperOf_11 rfl rfl ?_
    refine zr_iaload (pc := 12) lo_48 (by omega) dX11_upperOf_12 ?_
    refine zi_icmp_ge (pc := 13) (tgt := 44) dX11_upperOf_13 (by decide) (by omega) (by omega) (fun h13 => ?_) (fun h13 => ?_)
    · refine zr_iload_n (pc := 44) dX11_upperOf_44 rfl rfl ?_
      exact zr_ireturn (pc := 45) dX11_upperOf_45 rfl (zq_eq h (by unfold tkn; rw [hb, lM_d ht, show (if m < M 48 t then m else M 48 t) = k by split <;> omega]))
    · refine zr_iload (pc := 16) dX11_upperOf_16 rfl ?_
      refine zr_iload_n (pc := 18) dX11_upperOf_18 rfl rfl ?_
      refine zi_icmp_ge (pc := 19) (tgt := 44) dX11_upperOf_19 (by decide) (by omega) (by omega) (fun h19 => ?_) (fun h19 => ?_)
      · refine zr_iload_n (pc := 44) dX11_upperOf_44 rfl rfl ?_
        exact zr_ireturn (pc := 45) dX11_upperOf_45 rfl (zq_eq h (by unfold tkn; rw [hb, lM_d ht, show (if m < M 48 t then m else M 48 t) = k by split <;> omega]))
      · refine zr_iload_n (pc := 22) dX11_upperOf_22 rfl rfl ?_
        refine zr_iconst (pc := 23) dX11_upperOf_23 ?_
        refine zr_aload_n (pc := 24) dX11_upperOf_24 rfl rfl ?_
        refine zr_getR (pc := 25) fX11_16 lo_46 rfl rfl dX11_upperOf_25 ?_
        refine zr_iconst (pc := 28) dX11_upperOf_28 ?_
        refine zr_iload_n (pc := 29) dX11_upperOf_29 rfl rfl ?_
        refine zr_imul (pc := 30) dX11_upperOf_30 ?_
        refine zr_iload (pc := 31) dX11_upperOf_31 rfl ?_
        refine zr_iadd (pc := 33) dX11_upperOf_33 ?_
        refine zr_iaload (pc := 34) lo_49 (by omega) dX11_upperOf_34 ?_
        refine zr_ishl (pc := 35) dX11_upperOf_35 ?_
        refine zr_ior (pc := 36) dX11_upperOf_36 ?_
        refine zr_istore_n (pc := 37) dX11_upperOf_37 rfl (Nat.le_of_ble_eq_true rfl) rfl ?_
        refine zr_iinc (pc := 38) dX11_upperOf_38 rfl (Nat.le_of_ble_eq_true rfl) rfl ?_
        refine zr_goto (pc := 41) (tgt := 5) dX11_upperOf_41 (by decide) ?_
        exact ih _ (by omega) _ _ rfl (by omega) (by omega) (by omega) (by rw [fo_s h0, ← hb, lM_y ht ⟨h0, by omega⟩])

set_option maxRecDepth 100000 in
set_option maxHeartbeats 4000000 in
theorem ct_X11_upperOf {g : zt_G} {M : zm_M} {q : Int → zm_M → Prop} (hw : LW (lvM M)) {t m : Int} (ht : 0 ≤ t ∧ t < M 46 0) (hm : 0 ≤ m ∧ m ≤ 100) (h : q (tkn (lvM M) t m) M) : zc_K g yX11_upperOf mX11_upperOf [zv_r 46, zv_i t, zv_i m] M (zq_I q) := by
  refine zc_of (ls := [some (zv_r 46), some (zv_i t), some (zv_i m), none, none]) (by decide) rfl ⟨rfl, rfl⟩ (Nat.le_of_ble_eq_true rfl) rfl ?_
  have hw2 := yM hw ht
  refine zr_iconst (pc := 0) dX11_upperOf_0 ?_
  refine zr_istore_n (pc := 1) dX11_upperOf_1 rfl (Nat.le_of_ble_eq_true rfl) rfl ?_
  refine zr_iconst (pc := 2) dX11_upperOf_2 ?_
  refine zr_istore (pc := 3) dX11_upperOf_3 (Nat.le_of_ble_eq_true rfl) rfl ?_
  exact lp_X11_upperOf hw ht hm h _ _ _ rfl (by omega) (by omega) (by omega) rfl

theorem lyP_s (kn nk : Int) (L : Ln) {k : Int} (h : 0 ≤ k) : lyP kn nk L (k + 1).toNat = lyF L.1 kn nk L k (lyP kn nk L k.toNat) := fo_s h
theorem lyP_i {kn nk : Int} {L : Ln} : ∀ n : Nat, 0 ≤ (lyP kn nk L n).1 ∧ (lyP kn nk L n).1 ≤ n
  | 0 => ⟨Int.le_refl 0, Int.le_refl 0⟩
  | n + 1 => by
    have ih := lyP_i (kn := kn) (nk := nk) (L := L) n
    show 0 ≤ (lyF L.1 kn nk L (n : Int) (lyP kn nk L n)).1 ∧ (lyF L.1 kn nk L (n : Int) (lyP kn nk L n)).1 ≤ ((n + 1 : Nat) : Int)
    unfold lyF
    split
    · show 0 ≤ (lyP kn nk L n).1 + 1 ∧ (lyP kn nk L n).1 + 1 ≤ ((n + 1 : Nat) : Int)
      omega
    · omega
theorem dm4 {k K : Int} (hK : 1 ≤ K ∧ K ≤ 4) (hk : 0 ≤ k ∧ k < 8 * K) : (0 ≤ k / (4 * K) ∧ k / (4 * K) ≤ 1) ∧ (0 ≤ k / 4 % K ∧ k / 4 % K < K) := by
  rcases (by omega : K = 1 ∨ K = 2 ∨ K = 3 ∨ K = 4) with rfl | rfl | rfl | rfl <;> omega
theorem mu1 {a b : Int} (ha : 0 ≤ a ∧ a ≤ 3) (hb : 0 ≤ b ∧ b ≤ 1) : 0 ≤ a * (b + 1) ∧ a * (b + 1) ≤ 100 := by
  rcases (by omega : b = 0 ∨ b = 1) with rfl | rfl <;> omega
set_option maxRecDepth 100000 in
set_option maxHeartbeats 4000000 in
theorem lp_X11_layE {g : zt_G} {M : zm_M} {σ : Sg} {q : Int → zm_M → Prop} (hR : RM σ M) (hW : SW σ) {v n f k a b c : Int} (hc : 0 ≤ c ∧ c < 64) (ho : ∀ (x : Int) (x9 : Option zv_A), x = zb_B (fitL c (sS σ) (sS σ).1.toNat = true) → zc_Z g mX11_lay 138 [some (zv_r 46), some (zv_i v), some (zv_i n), some (zv_i f), some (zv_i k), some (zv_i a), some (zv_i b), some (zv_i c), some (zv_i x), x9] [] M (zq_I q)) : ∀ (nn : Nat) (x e : Int), ((sS σ).1 - e).toNat = nn → 0 ≤ e → e ≤ (sS σ).1 → x = zb_B (fitL c (sS σ) e.toNat = true) → zc_Z g mX11_lay 78 [some (zv_r 46), some (zv_i v), some (zv_i n), some (zv_i f), some (zv_i k), some (zv_i a), some (zv_i b), some (zv_i c), some (zv_i x), some (zv_i e)] [] M (zq_I q) := by
  intro nn
  induction nn using Nat.strongRecOn with
  | ind nn ih =>
    intro x e hnn h0 h1 hx
    obtain ⟨hT, hl, hcv, hA, hK, hS, hD, hcd⟩ := id hR
    obtain ⟨wT, wTx, wL, ⟨wC, wZ⟩, wA, wK, wS⟩ := id hW
    have hLw : LW (lvM M) := by rw [hl]; exact wL
    have hCw : CW (cvG M 51 (14 * 0)) := by rw [hcv]; exact wC
    have hw0 := wGt hCw
    have hL0 := yMk hLw
    have hk1 : M 46 0 = (sL σ).1 := by rw [← hl]; rfl
    have ht1 : M 46 1 = ct (sC σ) := by rw [← hcv]; rfl
    have hT1 := hT.1
    have hS1 := hS.1
    have wS1 := wS.1
    have hx1 : x = 0 ∨ x = 1 := by rw [hx]; exact zb_01
    refine zr_iload (pc := 78) dX11_lay_78 rfl ?_
    refine zr_aload_n (pc := 80) dX11_lay_80 rfl rfl ?_
    refine zr_getI (pc := 81) (z := 25) fX11_241 lo_46 rfl rfl rfl dX11_lay_81 ?_
    refine zi_icmp_ge (pc := 84) (tgt := 138) dX11_lay_84 (by decide) (by omega) (by omega) (fun h84 => ?_) (fun h84 => ?_)
    · exact ho _ _ (by rw [hx, show e = (sS σ).1 by omega])
    · have hst := wS.2 e h0 (by omega)
      have hsm := hS.2 e h0 (by omega)
      have hfs : fitL c (sS σ) (e + 1).toNat = (fitL c (sS σ) e.toNat && decide (bt c ((sS σ).2.1 e - 1) = true ↔ (sS σ).2.2 e = 1)) := by
        unfold fitL
        rw [fo_s h0]
      refine zr_iload (pc := 87) dX11_lay_87 rfl ?_
      refine zi_if_eq (pc := 89) (tgt := 129) dX11_lay_89 (by decide) (by omega) (fun h89 => ?_) (fun h89 => ?_)
      · refine zr_iconst (pc := 129) dX11_lay_129 ?_
        refine zr_istore (pc := 130) dX11_lay_130 (Nat.le_of_ble_eq_true rfl) rfl ?_
        refine zr_iinc (pc := 132) dX11_lay_132 rfl (Nat.le_of_ble_eq_true rfl) rfl ?_
        refine zr_goto (pc := 135) (tgt := 78) dX11_lay_135 (by decide) ?_
        exact ih _ (by omega) _ _ rfl (by omega) (by omega) (by
          rw [hfs]
          refine zb_F (fun y => ?_)
          have y2 := (Bool.and_eq_true _ _).mp y
          rw [zb_B, if_pos y2.1] at hx
          omega)
      · refine zr_iload (pc := 92) dX11_lay_92 rfl ?_
        refine zr_aload_n (pc := 94) dX11_lay_94 rfl rfl ?_
        refine zr_getR (pc := 95) fX11_46 lo_46 rfl rfl dX11_lay_95 ?_
        refine zr_iload (pc := 98) dX11_lay_98 rfl ?_
        refine zr_iaload (pc := 100) lo_59 (by omega) dX11_lay_100 ?_
        refine zr_iconst (pc := 101) dX11_lay_101 ?_
        refine zr_isub (pc := 102) dX11_lay_102 ?_
        refine zr_stat2I (pc := 103) rfl sX11_75 rfl rfl dX11_lay_103 ?_
        rw [hsm.1]
        refine ct_X11_has (by omega) (by omega) ?_
        refine zr_aload_n (pc := 106) dX11_lay_106 rfl rfl ?_
        refine zr_getR (pc := 107) fX11_49 lo_46 rfl rfl dX11_lay_107 ?_
        refine zr_iload (pc := 110) dX11_lay_110 rfl ?_
        refine zr_iaload (pc := 112) lo_60 (by omega) dX11_lay_112 ?_
        refine zr_iconst (pc := 113) dX11_lay_113 ?_
        refine zi_icmp_ne (pc := 114) (tgt := 121) dX11_lay_114 (by decide) (by omega) (by omega) (fun h114 => ?_) (fun h114 => ?_)
        · refine zr_iconst (pc := 121) dX11_lay_121 ?_
          refine zi_icmp_ne (pc := 122) (tgt := 129) dX11_lay_122 (by decide) zb_zi (by omega) (fun h122 => ?_) (fun h122 => ?_)
          · refine zr_iconst (pc := 129) dX11_lay_129 ?_
            refine zr_istore (pc := 130) dX11_lay_130 (Nat.le_of_ble_eq_true rfl) rfl ?_
            refine zr_iinc (pc := 132) dX11_lay_132 rfl (Nat.le_of_ble_eq_true rfl) rfl ?_
            refine zr_goto (pc := 135) (tgt := 78) dX11_lay_135 (by decide) ?_
            exact ih _ (by omega) _ _ rfl (by omega) (by omega) (by
              rw [hfs]
              refine zb_F (fun y => ?_)
              have y2 := of_decide_eq_true ((Bool.and_eq_true _ _).mp y).2
              exact h122 (zb_F (fun z => h114 (by rw [hsm.2]; exact y2.mp z))).symm)
          · refine zr_iconst (pc := 125) dX11_lay_125 ?_
            refine zr_goto (pc := 126) (tgt := 130) dX11_lay_126 (by decide) ?_
            refine zr_istore (pc := 130) dX11_lay_130 (Nat.le_of_ble_eq_true rfl) rfl ?_
            refine zr_iinc (pc := 132) dX11_lay_132 rfl (Nat.le_of_ble_eq_true rfl) rfl ?_
            refine zr_goto (pc := 135) (tgt := 78) dX11_lay_135 (by decide) ?_
            exact ih _ (by omega) _ _ rfl (by omega) (by omega) (by
              rw [hfs]
              refine zb_T ((Bool.and_eq_true _ _).mpr ⟨?_, decide_eq_true ?_⟩)
              · rw [hx] at h89
                unfold zb_B at h89
                split at h89
                · assumption
                · exact absurd rfl h89
              · rw [← hsm.2]
                constructor
                · intro y
                  rw [zb_B, if_pos y] at h122
                  omega
                · intro y
                  exact absurd y h114)
        · refine zr_iconst (pc := 117) dX11_lay_117 ?_
          refine zr_goto (pc := 118) (tgt := 122) dX11_lay_118 (by decide) ?_
          refine zi_icmp_ne (pc := 122) (tgt := 129) dX11_lay_122 (by decide) zb_zi (by omega) (fun h122 => ?_) (fun h122 => ?_)
          · refine zr_iconst (pc := 129) dX11_lay_129 ?_
            refine zr_istore (pc := 130) dX11_lay_130 (Nat.le_of_ble_eq_true rfl) rfl ?_
            refine zr_iinc (pc := 132) dX11_lay_132 rfl (Nat.le_of_ble_eq_true rfl) rfl ?_
            refine zr_goto (pc := 135) (tgt := 78) dX11_lay_135 (by decide) ?_
            exact ih _ (by omega) _ _ rfl (by omega) (by omega) (by
              rw [hfs]
              refine zb_F (fun y => ?_)
              have y2 := of_decide_eq_true ((Bool.and_eq_true _ _).mp y).2
              exact h122 (zb_1.mpr (y2.mpr (by rw [← hsm.2]; exact h114))))
          · refine zr_iconst (pc := 125) dX11_lay_125 ?_
            refine zr_goto (pc := 126) (tgt := 130) dX11_lay_126 (by decide) ?_
            refine zr_istore (pc := 130) dX11_lay_130 (Nat.le_of_ble_eq_true rfl) rfl ?_
            refine zr_iinc (pc := 132) dX11_lay_132 rfl (Nat.le_of_ble_eq_true rfl) rfl ?_
            refine zr_goto (pc := 135) (tgt := 78) dX11_lay_135 (by decide) ?_
            exact ih _ (by omega) _ _ rfl (by omega) (by omega) (by
              rw [hfs]
              refine zb_T ((Bool.and_eq_true _ _).mpr ⟨?_, decide_eq_true ?_⟩)
              · rw [hx] at h89
                unfold zb_B at h89
                split at h89
                · assumption
                · exact absurd rfl h89
              · rw [← hsm.2]
                exact ⟨fun _ => h114, fun _ => zb_1.mp h122⟩)

set_option maxRecDepth 100000 in
set_option maxHeartbeats 4000000 in
theorem lp_X11_lay {g : zt_G} {M : zm_M} {σ : Sg} {q : Int → zm_M → Prop} (hR : RM σ M) (hW : SW σ) {v : Int} (hv : v = 0 ∨ v = 1) (h : ∀ M2, frM M M2 → RM σ M2 → q (aLay v (knB 1 (sS σ)) (knB 0 (sS σ)) (sL σ)) M2) : ∀ (nn : Nat) (n f k : Int) (x5 x6 x7 x8 x9 : Option zv_A), (8 * (sL σ).1 - k).toNat = nn → 0 ≤ k → k ≤ 8 * (sL σ).1 → (n, f) = lyP (knB 1 (sS σ)) (knB 0 (sS σ)) (sL σ) k.toNat → zc_Z g mX11_lay 21 [some (zv_r 46), some (zv_i v), some (zv_i n), some (zv_i f), some (zv_i k), x5, x6, x7, x8, x9] [] M (zq_I q) := by
  intro nn
  induction nn using Nat.strongRecOn with
  | ind nn ih =>
    intro n f k x5 x6 x7 x8 x9 hnn h0 h1 hnf
    obtain ⟨hT, hl, hcv, hA, hK, hS, hD, hcd⟩ := id hR
    obtain ⟨wT, wTx, wL, ⟨wC, wZ⟩, wA, wK, wS⟩ := id hW
    have hLw : LW (lvM M) := by rw [hl]; exact wL
    have hCw : CW (cvG M 51 (14 * 0)) := by rw [hcv]; exact wC
    have hw0 := wGt hCw
    have hL0 := yMk hLw
    have hk1 : M 46 0 = (sL σ).1 := by rw [← hl]; rfl
    have ht1 : M 46 1 = ct (sC σ) := by rw [← hcv]; rfl
    have hT1 := hT.1
    have hS1 := hS.1
    have wS1 := wS.1
    have hni := lyP_i (kn := knB 1 (sS σ)) (nk := knB 0 (sS σ)) (L := sL σ) k.toNat
    rw [← hnf] at hni
    dsimp only at hni
    refine zr_iload (pc := 21) dX11_lay_21 rfl ?_
    refine zr_bipush (pc := 23) dX11_lay_23 (by decide) ?_
    refine zr_aload_n (pc := 25) dX11_lay_25 rfl rfl ?_
    refine zr_getI (pc := 26) (z := 0) fX11_107 lo_46 rfl rfl rfl dX11_lay_26 ?_
    refine zr_imul (pc := 29) dX11_lay_29 ?_
    refine zi_icmp_ge (pc := 30) (tgt := 187) dX11_lay_30 (by decide) (by omega) (by omega) (fun h30 => ?_) (fun h30 => ?_)
    · refine zr_iload_n (pc := 187) dX11_lay_187 rfl rfl ?_
      refine zi_if_ne (pc := 188) (tgt := 195) dX11_lay_188 (by decide) (by omega) (fun h188 => ?_) (fun h188 => ?_)
      · refine zr_iload_n (pc := 195) dX11_lay_195 rfl rfl ?_
        exact zr_ireturn (pc := 196) dX11_lay_196 rfl (zq_eq (h M (fun _ _ _ => rfl) hR) (by
            unfold aLay
            rw [if_neg (fun y => y hv), if_neg h188]
            rw [show k = 8 * (sL σ).1 by omega] at hnf
            exact congrArg Prod.snd hnf))
      · refine zr_iload_n (pc := 191) dX11_lay_191 rfl rfl ?_
        refine zr_goto (pc := 192) (tgt := 196) dX11_lay_192 (by decide) ?_
        exact zr_ireturn (pc := 196) dX11_lay_196 rfl (zq_eq (h M (fun _ _ _ => rfl) hR) (by
            unfold aLay
            rw [if_neg (fun y => y hv), if_pos h188]
            rw [show k = 8 * (sL σ).1 by omega] at hnf
            exact congrArg Prod.fst hnf))
    · have hdm := dm4 (k := k) (K := M 46 0) (by omega) (by omega)
      have hmu := mu1 (a := k % 4) (b := k / (4 * M 46 0)) (by omega) hdm.1
      have htk := tkn_in (L := lvM M) hLw (k / 4 % M 46 0) (k % 4 * (k / (4 * M 46 0) + 1))
      refine zr_iload (pc := 33) dX11_lay_33 rfl ?_
      refine zr_iconst (pc := 35) dX11_lay_35 ?_
      refine zr_aload_n (pc := 36) dX11_lay_36 rfl rfl ?_
      refine zr_getI (pc := 37) (z := 0) fX11_107 lo_46 rfl rfl rfl dX11_lay_37 ?_
      refine zr_imul (pc := 40) dX11_lay_40 ?_
      refine zr_idiv (pc := 41) (by omega) (by omega) dX11_lay_41 ?_
      refine zr_istore (pc := 42) dX11_lay_42 (Nat.le_of_ble_eq_true rfl) rfl ?_
      refine zr_iload (pc := 44) dX11_lay_44 rfl ?_
      refine zr_iconst (pc := 46) dX11_lay_46 ?_
      refine zr_idiv (pc := 47) (by omega) (by omega) dX11_lay_47 ?_
      refine zr_aload_n (pc := 48) dX11_lay_48 rfl rfl ?_
      refine zr_getI (pc := 49) (z := 0) fX11_107 lo_46 rfl rfl rfl dX11_lay_49 ?_
      refine zr_irem (pc := 52) (by omega) (by omega) dX11_lay_52 ?_
      refine zr_istore (pc := 53) dX11_lay_53 (Nat.le_of_ble_eq_true rfl) rfl ?_
      refine zr_aload_n (pc := 55) dX11_lay_55 rfl rfl ?_
      refine zr_iload (pc := 56) dX11_lay_56 rfl ?_
      refine zr_iload (pc := 58) dX11_lay_58 rfl ?_
      refine zr_iconst (pc := 60) dX11_lay_60 ?_
      refine zr_irem (pc := 61) (by omega) (by omega) dX11_lay_61 ?_
      refine zr_iload (pc := 62) dX11_lay_62 rfl ?_
      refine zr_iconst (pc := 64) dX11_lay_64 ?_
      refine zr_iadd (pc := 65) dX11_lay_65 ?_
      refine zr_imul (pc := 66) dX11_lay_66 ?_
      refine zr_inv2I (pc := 67) rfl sX11_244 lo_46 rfl rfl rfl dX11_lay_67 ?_
      refine ct_X11_upperOf hLw hdm.2 hmu ?_
      refine zr_istore (pc := 70) dX11_lay_70 (Nat.le_of_ble_eq_true rfl) rfl ?_
      refine zr_iconst (pc := 72) dX11_lay_72 ?_
      refine zr_istore (pc := 73) dX11_lay_73 (Nat.le_of_ble_eq_true rfl) rfl ?_
      refine zr_iconst (pc := 75) dX11_lay_75 ?_
      refine zr_istore (pc := 76) dX11_lay_76 (Nat.le_of_ble_eq_true rfl) rfl ?_
      refine lp_X11_layE (g := g) hR hW htk (fun x x9 hx => ?_) _ _ _ rfl (by decide) wS1.1 rfl
      have hfe := fit_eq (S := sS σ) htk wS1.1 (fun e a b => wS.2 e a b)
      have hxx : x = 0 ∨ x = 1 := by rw [hx]; exact zb_01
      have hly : lyP (knB 1 (sS σ)) (knB 0 (sS σ)) (sL σ) (k + 1).toNat = if x = 1 then (n + 1, if n = 0 then 100 * (k / (4 * M 46 0)) + 10 * (k / 4 % M 46 0) + k % 4 else f) else (n, f) := by
        rw [lyP_s _ _ _ h0, ← hnf]
        unfold lyF
        rw [hl] at hfe hx
        rw [← hk1]
        by_cases hc : fitL (tkn (sL σ) (k / 4 % M 46 0) (k % 4 * (k / (4 * M 46 0) + 1))) (sS σ) (sS σ).1.toNat = true
        · rw [if_pos (hfe.mpr hc), if_pos (show x = 1 by rw [hx]; exact zb_1.mpr hc)]
        · rw [if_neg (fun y => hc (hfe.mp y)), if_neg (show ¬ x = 1 by rw [hx]; exact fun y => hc (zb_1.mp y))]
      refine zr_iload (pc := 138) dX11_lay_138 rfl ?_
      refine zi_if_eq (pc := 140) (tgt := 166) dX11_lay_140 (by decide) (by omega) (fun h140 => ?_) (fun h140 => ?_)
      · refine zr_iload_n (pc := 166) dX11_lay_166 rfl rfl ?_
        refine zr_istore_n (pc := 167) dX11_lay_167 rfl (Nat.le_of_ble_eq_true rfl) rfl ?_
        refine zr_iload_n (pc := 168) dX11_lay_168 rfl rfl ?_
        refine zr_iload (pc := 169) dX11_lay_169 rfl ?_
        refine zi_if_eq (pc := 171) (tgt := 178) dX11_lay_171 (by decide) (by omega) (fun h171 => ?_) (fun h171 => ?_)
        · refine zr_iconst (pc := 178) dX11_lay_178 ?_
          refine zr_iadd (pc := 179) dX11_lay_179 ?_
          refine zr_istore_n (pc := 180) dX11_lay_180 rfl (Nat.le_of_ble_eq_true rfl) rfl ?_
          refine zr_iinc (pc := 181) dX11_lay_181 rfl (Nat.le_of_ble_eq_true rfl) rfl ?_
          refine zr_goto (pc := 184) (tgt := 21) dX11_lay_184 (by decide) ?_
          exact ih _ (by omega) _ _ _ _ _ _ _ _ rfl (by omega) (by omega) (by rw [hly, if_neg (show ¬ x = 1 by omega), Int.add_zero])
        · refine zr_iconst (pc := 174) dX11_lay_174 ?_
          refine zr_goto (pc := 175) (tgt := 179) dX11_lay_175 (by decide) ?_
          refine zr_iadd (pc := 179) dX11_lay_179 ?_
          refine zr_istore_n (pc := 180) dX11_lay_180 rfl (Nat.le_of_ble_eq_true rfl) rfl ?_
          refine zr_iinc (pc := 181) dX11_lay_181 rfl (Nat.le_of_ble_eq_true rfl) rfl ?_
          refine zr_goto (pc := 184) (tgt := 21) dX11_lay_184 (by decide) ?_
          exact absurd h171 (by omega)
      · refine zr_iload_n (pc := 143) dX11_lay_143 rfl rfl ?_
        refine zi_if_ne (pc := 144) (tgt := 166) dX11_lay_144 (by decide) (by omega) (fun h144 => ?_) (fun h144 => ?_)
        · refine zr_iload_n (pc := 166) dX11_lay_166 rfl rfl ?_
          refine zr_istore_n (pc := 167) dX11_lay_167 rfl (Nat.le_of_ble_eq_true rfl) rfl ?_
          refine zr_iload_n (pc := 168) dX11_lay_168 rfl rfl ?_
          refine zr_iload (pc := 169) dX11_lay_169 rfl ?_
          refine zi_if_eq (pc := 171) (tgt := 178) dX11_lay_171 (by decide) (by omega) (fun h171 => ?_) (fun h171 => ?_)
          · refine zr_iconst (pc := 178) dX11_lay_178 ?_
            refine zr_iadd (pc := 179) dX11_lay_179 ?_
            refine zr_istore_n (pc := 180) dX11_lay_180 rfl (Nat.le_of_ble_eq_true rfl) rfl ?_
            refine zr_iinc (pc := 181) dX11_lay_181 rfl (Nat.le_of_ble_eq_true rfl) rfl ?_
            refine zr_goto (pc := 184) (tgt := 21) dX11_lay_184 (by decide) ?_
            exact absurd h171 (by omega)
          · refine zr_iconst (pc := 174) dX11_lay_174 ?_
            refine zr_goto (pc := 175) (tgt := 179) dX11_lay_175 (by decide) ?_
            refine zr_iadd (pc := 179) dX11_lay_179 ?_
            refine zr_istore_n (pc := 180) dX11_lay_180 rfl (Nat.le_of_ble_eq_true rfl) rfl ?_
            refine zr_iinc (pc := 181) dX11_lay_181 rfl (Nat.le_of_ble_eq_true rfl) rfl ?_
            refine zr_goto (pc := 184) (tgt := 21) dX11_lay_184 (by decide) ?_
            exact ih _ (by omega) _ _ _ _ _ _ _ _ rfl (by omega) (by omega) (by rw [hly, if_pos (show x = 1 by omega), if_neg h144])
        · refine zr_bipush (pc := 147) dX11_lay_147 (by decide) ?_
          refine zr_iload (pc := 149) dX11_lay_149 rfl ?_
          refine zr_imul (pc := 151) dX11_lay_151 ?_
          refine zr_bipush (pc := 152) dX11_lay_152 (by decide) ?_
          refine zr_iload (pc := 154) dX11_lay_154 rfl ?_
          refine zr_imul (pc := 156) dX11_lay_156 ?_
          refine zr_iadd (pc := 157) dX11_lay_157 ?_
          refine zr_iload (pc := 158) dX11_lay_158 rfl ?_
          refine zr_iconst (pc := 160) dX11_lay_160 ?_
          refine zr_irem (pc := 161) (by omega) (by omega) dX11_lay_161 ?_
          refine zr_iadd (pc := 162) dX11_lay_162 ?_
          refine zr_goto (pc := 163) (tgt := 167) dX11_lay_163 (by decide) ?_
          refine zr_istore_n (pc := 167) dX11_lay_167 rfl (Nat.le_of_ble_eq_true rfl) rfl ?_
          refine zr_iload_n (pc := 168) dX11_lay_168 rfl rfl ?_
          refine zr_iload (pc := 169) dX11_lay_169 rfl ?_
          refine zi_if_eq (pc := 171) (tgt := 178) dX11_lay_171 (by decide) (by omega) (fun h171 => ?_) (fun h171 => ?_)
          · refine zr_iconst (pc := 178) dX11_lay_178 ?_
            refine zr_iadd (pc := 179) dX11_lay_179 ?_
            refine zr_istore_n (pc := 180) dX11_lay_180 rfl (Nat.le_of_ble_eq_true rfl) rfl ?_
            refine zr_iinc (pc := 181) dX11_lay_181 rfl (Nat.le_of_ble_eq_true rfl) rfl ?_
            refine zr_goto (pc := 184) (tgt := 21) dX11_lay_184 (by decide) ?_
            exact absurd h171 (by omega)
          · refine zr_iconst (pc := 174) dX11_lay_174 ?_
            refine zr_goto (pc := 175) (tgt := 179) dX11_lay_175 (by decide) ?_
            refine zr_iadd (pc := 179) dX11_lay_179 ?_
            refine zr_istore_n (pc := 180) dX11_lay_180 rfl (Nat.le_of_ble_eq_true rfl) rfl ?_
            refine zr_iinc (pc := 181) dX11_lay_181 rfl (Nat.le_of_ble_eq_true rfl) rfl ?_
            refine zr_goto (pc := 184) (tgt := 21) dX11_lay_184 (by decide) ?_
            exact ih _ (by omega) _ _ _ _ _ _ _ _ rfl (by omega) (by omega) (by rw [hly, if_pos (show x = 1 by omega), if_pos h144])

set_option maxRecDepth 100000 in
set_option maxHeartbeats 4000000 in
theorem ct_X11_lay {g : zt_G} {M : zm_M} {σ : Sg} {q : Int → zm_M → Prop} (hR : RM σ M) (hW : SW σ) {v : Int} (hv : zi v) (h : ∀ M2, frM M M2 → RM σ M2 → q (aLay v (knB 1 (sS σ)) (knB 0 (sS σ)) (sL σ)) M2) : zc_K g yX11_lay mX11_lay [zv_r 46, zv_i v] M (zq_I q) := by
  refine zc_of (ls := [some (zv_r 46), some (zv_i v), none, none, none, none, none, none, none, none]) (by decide) rfl ⟨rfl, rfl⟩ (Nat.le_of_ble_eq_true rfl) rfl ?_
  obtain ⟨hT, hl, hcv, hA, hK, hS, hD, hcd⟩ := id hR
  obtain ⟨wT, wTx, wL, ⟨wC, wZ⟩, wA, wK, wS⟩ := id hW
  have hLw : LW (lvM M) := by rw [hl]; exact wL
  have hCw : CW (cvG M 51 (14 * 0)) := by rw [hcv]; exact wC
  have hw0 := wGt hCw
  have hL0 := yMk hLw
  have hk1 : M 46 0 = (sL σ).1 := by rw [← hl]; rfl
  have ht1 : M 46 1 = ct (sC σ) := by rw [← hcv]; rfl
  have hT1 := hT.1
  refine zr_iload_n (pc := 0) dX11_lay_0 rfl rfl ?_
  refine zr_i2l (pc := 1) dX11_lay_1 ?_
  refine zr_lconst (pc := 2) (z := 0) dX11_lay_2 (by decide +kernel) ?_
  refine zr_lconst (pc := 3) (z := 1) dX11_lay_3 (by decide +kernel) ?_
  refine zr_stat3I (pc := 4) rfl sX11_61 rfl rfl dX11_lay_4 ?_
  refine in_i hv (by omega) (by omega) ?_
  refine zr_ifb_ne (pc := 7) (tgt := 13) dX11_lay_7 (by decide) (fun h7 => ?_) (fun h7 => ?_)
  · refine zr_iconst (pc := 13) dX11_lay_13 ?_
    refine zr_istore_n (pc := 14) dX11_lay_14 rfl (Nat.le_of_ble_eq_true rfl) rfl ?_
    refine zr_bipush (pc := 15) dX11_lay_15 (by decide) ?_
    refine zr_istore_n (pc := 17) dX11_lay_17 rfl (Nat.le_of_ble_eq_true rfl) rfl ?_
    refine zr_iconst (pc := 18) dX11_lay_18 ?_
    refine zr_istore (pc := 19) dX11_lay_19 (Nat.le_of_ble_eq_true rfl) rfl ?_
    exact lp_X11_lay (g := g) hR hW (by omega) h _ _ _ _ _ _ _ _ _ rfl (by omega) (by omega) rfl
  · refine zr_bipush (pc := 10) dX11_lay_10 (by decide) ?_
    exact zr_ireturn (pc := 12) dX11_lay_12 rfl (zq_eq (h M (fun _ _ _ => rfl) hR) (by unfold aLay; rw [if_pos (by omega)]))

