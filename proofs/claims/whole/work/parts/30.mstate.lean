/-! THE STATE in the reference's cells -/
def YT (σ : Sg) (M : zm_M) : Prop := M 46 15 = (sT σ).1 ∧ ∀ i, 0 ≤ i → i < (sT σ).1 → M 56 i = (sT σ).2 i
def YA (σ : Sg) (M : zm_M) : Prop := M 46 19 = (sA σ).1 ∧ (0 ≤ M 46 20 ∧ M 46 20 < 14) ∧ ∀ j, 0 ≤ j → j < (sA σ).1 → cvG M 57 (14 * ((M 46 20 - (sA σ).1 + j) % 14)) = (sA σ).2 j
def YK (σ : Sg) (M : zm_M) : Prop := ∀ s, 0 ≤ s → s < 2 → M 61 s = (sK σ).1 s ∧ ((sK σ).1 s = 1 → cvG M 62 (14 * s) = (sK σ).2 s)
def YS (σ : Sg) (M : zm_M) : Prop := M 46 25 = (sS σ).1 ∧ ∀ e, 0 ≤ e → e < (sS σ).1 → M 59 e = (sS σ).2.1 e ∧ M 60 e = (sS σ).2.2 e
def RM (σ : Sg) (M : zm_M) : Prop := YT σ M ∧ lvM M = sL σ ∧ cvG M 51 (14 * 0) = sC σ ∧ YA σ M ∧ YK σ M ∧ YS σ M ∧ zx (M 46 28) = sD σ ∧ M 46 18 = 0
/-- what holds nothing of the state -/
def zsm (k : Nat) (i : Int) : Prop := (k = 51 ∧ 14 ≤ i) ∨ (52 ≤ k ∧ k ≤ 55) ∨ k = 58 ∨ (k = 46 ∧ (i = 11 ∨ i = 12 ∨ i = 13 ∨ i = 16 ∨ i = 17 ∨ i = 23 ∨ i = 24))
theorem YA_fr {σ : Sg} {M M2 : zm_M} (h : YA σ M) (h4 : M 46 1 ≤ 4) (hT : M2 46 1 = M 46 1) (hk : ∀ t, M2 50 t = M 50 t) (h19 : M2 46 19 = M 46 19) (h20 : M2 46 20 = M 46 20) (h57 : ∀ i, M2 57 i = M 57 i) : YA σ M2 := by
  refine ⟨h19.trans h.1, by rw [h20]; exact h.2.1, fun j a b => ?_⟩
  rw [h20, cvG_fr hT hk (fun i _ _ => h57 i) h4]
  exact h.2.2 j a b
theorem YK_fr {σ : Sg} {M M2 : zm_M} (h : YK σ M) (h4 : M 46 1 ≤ 4) (hT : M2 46 1 = M 46 1) (hk : ∀ t, M2 50 t = M 50 t) (h61 : ∀ i, M2 61 i = M 61 i) (h62 : ∀ i, M2 62 i = M 62 i) : YK σ M2 := by
  intro s a b
  rw [h61, cvG_fr hT hk (fun i _ _ => h62 i) h4]
  exact h s a b
theorem YT_fr {σ : Sg} {M M2 : zm_M} (h : YT σ M) (h15 : M2 46 15 = M 46 15) (h56 : ∀ i, M2 56 i = M 56 i) : YT σ M2 := ⟨h15.trans h.1, fun i a b => (h56 i).trans (h.2 i a b)⟩
theorem YS_fr {σ : Sg} {M M2 : zm_M} (h : YS σ M) (h25 : M2 46 25 = M 46 25) (h59 : ∀ i, M2 59 i = M 59 i) (h60 : ∀ i, M2 60 i = M 60 i) : YS σ M2 := ⟨h25.trans h.1, fun i a b => by rw [h59, h60]; exact h.2 i a b⟩
theorem RM4 {σ : Sg} {M : zm_M} (h : RM σ M) (hW : SW σ) : 0 ≤ M 46 1 ∧ M 46 1 ≤ 4 := by
  have h1 := hW.2.2.2.1.1.1
  rw [← h.2.2.1] at h1
  exact h1
theorem RM_frs {σ : Sg} {M M2 : zm_M} (h : RM σ M) (hW : SW σ) (hf : ∀ (k : Nat) (i : Int), 46 ≤ k → ¬ zsm k i → M2 k i = M k i) : RM σ M2 := by
  have h4 := RM4 h hW
  obtain ⟨h1, h2, h3, h5, h6, h7, h8, h9⟩ := h
  have f : ∀ i, (i = 0 ∨ i = 1 ∨ i = 15 ∨ i = 18 ∨ i = 19 ∨ i = 20 ∨ i = 25 ∨ i = 28) → M2 46 i = M 46 i := fun i hi => hf 46 i (by decide) (by unfold zsm; omega)
  refine ⟨YT_fr h1 (f _ (by omega)) (fun i => hf 56 i (by decide) (by unfold zsm; omega)), ?_, ?_, YA_fr h5 h4.2 (f _ (by omega)) (fun i => hf 50 i (by decide) (by unfold zsm; omega)) (f _ (by omega)) (f _ (by omega)) (fun i => hf 57 i (by decide) (by unfold zsm; omega)), YK_fr h6 h4.2 (f _ (by omega)) (fun i => hf 50 i (by decide) (by unfold zsm; omega)) (fun i => hf 61 i (by decide) (by unfold zsm; omega)) (fun i => hf 62 i (by decide) (by unfold zsm; omega)), YS_fr h7 (f _ (by omega)) (fun i => hf 59 i (by decide) (by unfold zsm; omega)) (fun i => hf 60 i (by decide) (by unfold zsm; omega)), by rw [f _ (by omega)]; exact h8, by rw [f _ (by omega)]; exact h9⟩
  · rw [lvM_fr (f _ (by omega)) (fun k i a b => hf k i (by omega) (by unfold zsm; omega))]
    exact h2
  · rw [cvG_fr (f _ (by omega)) (fun i => hf 50 i (by decide) (by unfold zsm; omega)) (fun i a b => hf 51 i (by decide) (by unfold zsm; omega)) h4.2]
    exact h3
theorem RM_act {σ : Sg} {M M2 : zm_M} {C' : Cm} {A' : Int × (Int → Cm)} (h : RM σ M) (hW : SW σ) (hf : ∀ (k : Nat) (i : Int), 46 ≤ k → k ≠ 57 → k ≠ 51 → ¬ (k = 46 ∧ (i = 19 ∨ i = 20)) → M2 k i = M k i) (hC : cvG M2 51 (14 * 0) = C') (hA : YA (SgA A' σ) M2) : RM (SgC C' (SgA A' σ)) M2 := by
  have h4 := RM4 h hW
  obtain ⟨h1, h2, h3, h5, h6, h7, h8, h9⟩ := h
  have f : ∀ i, (i ≠ 19 ∧ i ≠ 20) → M2 46 i = M 46 i := fun i hi => hf 46 i (by decide) (by decide) (by decide) (by omega)
  refine ⟨YT_fr h1 (f _ (by decide)) (fun i => hf 56 i (by decide) (by decide) (by decide) (by omega)), ?_, hC, hA, YK_fr h6 h4.2 (f _ (by decide)) (fun i => hf 50 i (by decide) (by decide) (by decide) (by omega)) (fun i => hf 61 i (by decide) (by decide) (by decide) (by omega)) (fun i => hf 62 i (by decide) (by decide) (by decide) (by omega)), YS_fr h7 (f _ (by decide)) (fun i => hf 59 i (by decide) (by decide) (by decide) (by omega)) (fun i => hf 60 i (by decide) (by decide) (by decide) (by omega)), by rw [f _ (by decide)]; exact h8, by rw [f _ (by decide)]; exact h9⟩
  rw [lvM_fr (f _ (by decide)) (fun k i a b => hf k i (by omega) (by omega) (by omega) (by omega))]
  exact h2
set_option maxRecDepth 100000 in
set_option maxHeartbeats 4000000 in
theorem ct_X11_write {g : zt_G} {M : zm_M} {σ : Sg} {q : Int → zm_M → Prop} (hR : RM σ M) (hW : SW σ) {x : Int} (hx : zi x) (h : ∀ M2, frM M M2 → RM (oWrite x σ).2 M2 → q (oWrite x σ).1 M2) : zc_K g yX11_write mX11_write [zv_r 46, zv_i x] M (zq_I q) := by
  refine zc_of (ls := [some (zv_r 46), some (zv_i x)]) (by decide) rfl ⟨rfl, rfl⟩ (Nat.le_of_ble_eq_true rfl) rfl ?_
  obtain ⟨hT, hl, hcv, hA, hK, hS, hD, hcd⟩ := id hR
  obtain ⟨wT, wTx, wL, ⟨wC, wZ⟩, wA, wK, wS⟩ := id hW
  have hLw : LW (lvM M) := by rw [hl]; exact wL
  have hCw : CW (cvG M 51 (14 * 0)) := by rw [hcv]; exact wC
  have hw0 := wGt hCw
  have hL0 := yMk hLw
  have hk1 : M 46 0 = (sL σ).1 := by rw [← hl]; rfl
  have ht1 : M 46 1 = ct (sC σ) := by rw [← hcv]; rfl
  have hT1 := hT.1
  refine zr_iload_n (pc := 0) dX11_write_0 rfl rfl ?_
  refine zr_i2l (pc := 1) dX11_write_1 ?_
  refine zr_lconst (pc := 2) (z := 0) dX11_write_2 (by decide +kernel) ?_
  refine zr_ldc2 (pc := 3) (z := 255) rfl kX11_59 (by decide +kernel) dX11_write_3 ?_
  refine zr_stat3I (pc := 6) rfl sX11_61 rfl rfl dX11_write_6 ?_
  refine in_i hx (by omega) (by omega) ?_
  refine zr_ifb_ne (pc := 9) (tgt := 15) dX11_write_9 (by decide) (fun h9 => ?_) (fun h9 => ?_)
  · refine zr_aload_n (pc := 15) dX11_write_15 rfl rfl ?_
    refine zr_getI (pc := 16) (z := 15) fX11_65 lo_46 rfl rfl rfl dX11_write_16 ?_
    refine zr_bipush (pc := 19) dX11_write_19 (by decide) ?_
    refine zi_icmp_ne (pc := 21) (tgt := 27) dX11_write_21 (by decide) (by omega) (by omega) (fun h21 => ?_) (fun h21 => ?_)
    · refine zr_aload_n (pc := 27) dX11_write_27 rfl rfl ?_
      refine zr_getR (pc := 28) fX11_37 lo_46 rfl rfl dX11_write_28 ?_
      refine zr_aload_n (pc := 31) dX11_write_31 rfl rfl ?_
      refine zr_getI (pc := 32) (z := 15) fX11_65 lo_46 rfl rfl rfl dX11_write_32 ?_
      refine zr_iload_n (pc := 35) dX11_write_35 rfl rfl ?_
      refine zr_iastore (pc := 36) lo_56 (by omega) dX11_write_36 ?_
      refine zr_aload_n (pc := 37) dX11_write_37 rfl rfl ?_
      refine zr_dup_r (pc := 38) dX11_write_38 ?_
      refine zr_getI (pc := 39) (z := 15) fX11_65 lo_46 rfl rfl rfl dX11_write_39 ?_
      rw [put_nk M (k := 56) (k2 := 46) _ _ _ (by decide)]
      refine zr_iconst (pc := 42) dX11_write_42 ?_
      refine zr_iadd (pc := 43) dX11_write_43 ?_
      refine zr_putI (pc := 44) (z := 15) fX11_65 lo_46 rfl fwX11_15 rfl rfl dX11_write_44 ?_
      refine zr_aload_n (pc := 47) dX11_write_47 rfl rfl ?_
      refine zr_getI (pc := 48) (z := 15) fX11_65 lo_46 rfl rfl rfl dX11_write_48 ?_
      rw [put_at]
      exact zr_ireturn (pc := 51) dX11_write_51 rfl (zq_eq (h _ (fun k i a => by rw [put_nk _ _ _ _ (by omega), put_nk _ _ _ _ (by omega)]) (by
          unfold oWrite
          rw [if_neg (by omega), if_neg (by omega)]
          have f : ∀ (k : Nat) (i : Int), k ≠ 56 → (k ≠ 46 ∨ i ≠ 15) → zm_put (zm_put M 56 (M 46 15) x) 46 15 (M 46 15 + 1) k i = M k i := fun k i a b => by
            rw [show zm_put _ 46 15 _ k i = _ from if_neg (by omega), put_nk _ _ _ _ a]
          refine ⟨⟨by rw [put_at, hT1], fun i a b => ?_⟩, ?_, ?_, YA_fr hA hw0.2 (f _ _ (by omega) (by omega)) (fun t => f _ _ (by omega) (by omega)) (f _ _ (by omega) (by omega)) (f _ _ (by omega) (by omega)) (fun i => f _ _ (by omega) (by omega)), YK_fr hK hw0.2 (f _ _ (by omega) (by omega)) (fun t => f _ _ (by omega) (by omega)) (fun i => f _ _ (by omega) (by omega)) (fun i => f _ _ (by omega) (by omega)), YS_fr hS (f _ _ (by omega) (by omega)) (fun i => f _ _ (by omega) (by omega)) (fun i => f _ _ (by omega) (by omega)), by rw [f _ _ (by omega) (by omega)]; exact hD, by rw [f _ _ (by omega) (by omega)]; exact hcd⟩
          · dsimp only at b ⊢
            rw [put_nk _ _ _ _ (show 56 ≠ 46 by decide), put_up, hT1]
            by_cases e : i = (sT σ).1
            · rw [e, upI_s, upI_s]
            · rw [upI_n e, upI_n e]
              exact hT.2 i a (by omega)
          · rw [lvM_fr (f _ _ (by omega) (by omega)) (fun k i a b => f _ _ (by omega) (by omega))]
            exact hl
          · rw [cvG_fr (f _ _ (by omega) (by omega)) (fun t => f _ _ (by omega) (by omega)) (fun i _ _ => f _ _ (by omega) (by omega)) hw0.2]
            exact hcv)) (by unfold oWrite; rw [if_neg (by omega), if_neg (by omega), hT1]))
    · refine zr_bipush (pc := 24) dX11_write_24 (by decide) ?_
      exact zr_ireturn (pc := 26) dX11_write_26 rfl (zq_eq (h M (fun _ _ _ => rfl) (by unfold oWrite; rw [if_neg (by omega), if_pos (by omega)]; exact hR)) (by unfold oWrite; rw [if_neg (by omega), if_pos (by omega)]))
  · refine zr_bipush (pc := 12) dX11_write_12 (by decide) ?_
    exact zr_ireturn (pc := 14) dX11_write_14 rfl (zq_eq (h M (fun _ _ _ => rfl) (by unfold oWrite; rw [if_pos (by omega)]; exact hR)) (by unfold oWrite; rw [if_pos (by omega)]))

set_option maxRecDepth 100000 in
set_option maxHeartbeats 4000000 in
theorem ct_X11_wipe {g : zt_G} {M : zm_M} {σ : Sg} {q : Int → zm_M → Prop} (hR : RM σ M) (hW : SW σ) (h : ∀ M2, frM M M2 → RM (oWipe σ).2 M2 → q (oWipe σ).1 M2) : zc_K g yX11_wipe mX11_wipe [zv_r 46] M (zq_I q) := by
  refine zc_of (ls := [some (zv_r 46), none]) (by decide) rfl ⟨rfl, rfl⟩ (Nat.le_of_ble_eq_true rfl) rfl ?_
  obtain ⟨hT, hl, hcv, hA, hK, hS, hD, hcd⟩ := id hR
  obtain ⟨wT, wTx, wL, ⟨wC, wZ⟩, wA, wK, wS⟩ := id hW
  have hLw : LW (lvM M) := by rw [hl]; exact wL
  have hCw : CW (cvG M 51 (14 * 0)) := by rw [hcv]; exact wC
  have hw0 := wGt hCw
  have hL0 := yMk hLw
  have hk1 : M 46 0 = (sL σ).1 := by rw [← hl]; rfl
  have ht1 : M 46 1 = ct (sC σ) := by rw [← hcv]; rfl
  have hT1 := hT.1
  refine zr_aload_n (pc := 0) dX11_wipe_0 rfl rfl ?_
  refine zr_getI (pc := 1) (z := 15) fX11_65 lo_46 rfl rfl rfl dX11_wipe_1 ?_
  refine zr_istore_n (pc := 4) dX11_wipe_4 rfl (Nat.le_of_ble_eq_true rfl) rfl ?_
  refine zr_aload_n (pc := 5) dX11_wipe_5 rfl rfl ?_
  refine zr_iconst (pc := 6) dX11_wipe_6 ?_
  refine zr_putI (pc := 7) (z := 15) fX11_65 lo_46 rfl fwX11_15 rfl rfl dX11_wipe_7 ?_
  refine zr_iload_n (pc := 10) dX11_wipe_10 rfl rfl ?_
  exact zr_ireturn (pc := 11) dX11_wipe_11 rfl (zq_eq (h _ (fun k i a => by rw [put_nk _ _ _ _ (by omega)]) (by
      have f : ∀ (k : Nat) (i : Int), (k ≠ 46 ∨ i ≠ 15) → zm_put M 46 15 0 k i = M k i := fun k i b => if_neg (by omega)
      refine ⟨⟨put_at _ _ _ _, fun i a b => absurd b (by show ¬ i < 0; omega)⟩, ?_, ?_, YA_fr hA hw0.2 (f _ _ (by omega)) (fun t => f _ _ (by omega)) (f _ _ (by omega)) (f _ _ (by omega)) (fun i => f _ _ (by omega)), YK_fr hK hw0.2 (f _ _ (by omega)) (fun t => f _ _ (by omega)) (fun i => f _ _ (by omega)) (fun i => f _ _ (by omega)), YS_fr hS (f _ _ (by omega)) (fun i => f _ _ (by omega)) (fun i => f _ _ (by omega)), by rw [f _ _ (by omega)]; exact hD, by rw [f _ _ (by omega)]; exact hcd⟩
      · rw [lvM_fr (f _ _ (by omega)) (fun k i a b => f _ _ (by omega))]
        exact hl
      · rw [cvG_fr (f _ _ (by omega)) (fun t => f _ _ (by omega)) (fun i _ _ => f _ _ (by omega)) hw0.2]
        exact hcv)) hT1)

set_option maxRecDepth 100000 in
set_option maxHeartbeats 4000000 in
theorem lp_X11_trampsAt {g : zt_G} {M : zm_M} {q : Int → zm_M → Prop} (hw : CW (cvG M 51 (14 * 0))) {p : Int} (hp : zi p) (h : q (atB (cvG M 51 (14 * 0)) p) M) : ∀ (nn : Nat) (b t : Int), (M 46 1 - t).toNat = nn → 0 ≤ t → t ≤ M 46 1 → b = fo (fun t b => if cp (cvG M 51 (14 * 0)) t = p then zb_or b (zb_shl 1 t) else b) 0 t.toNat → zc_Z g mX11_trampsAt 4 [some (zv_r 46), some (zv_i p), some (zv_i b), some (zv_i t)] [] M (zq_I q) := by
  intro nn
  induction nn using Nat.strongRecOn with
  | ind nn ih =>
    intro b t hn h0 h1 hb
    have hw1 := wGt hw
    have hbi : 0 ≤ b ∧ b < 16 := by
      rw [hb]
      exact fo4 (by omega)
    refine zr_iload_n (pc := 4) dX11_trampsAt_4 rfl rfl ?_
    refine zr_aload_n (pc := 5) dX11_trampsAt_5 rfl rfl ?_
    refine zr_getI (pc := 6) (z := 1) fX11_110 lo_46 rfl rfl rfl dX11_trampsAt_6 ?_
    refine zi_icmp_ge (pc := 9) (tgt := 38) dX11_trampsAt_9 (by decide) (by omega) (by omega) (fun h9 => ?_) (fun h9 => ?_)
    · refine zr_iload_n (pc := 38) dX11_trampsAt_38 rfl rfl ?_
      exact zr_ireturn (pc := 39) dX11_trampsAt_39 rfl (zq_eq h (by unfold atB; rw [hb, show t = M 46 1 by omega]; rfl))
    · have hw2 := wG hw (t := t) ⟨h0, h9⟩
      have hvp : cp (cvG M 51 (14 * 0)) t = M 51 t := vG_p ⟨h0, h9⟩ (by omega)
      rw [← vG_p (M := M) (a := 51) (b := 14 * 0) ⟨h0, h9⟩ rfl] at hw2
      refine zr_iload_n (pc := 12) dX11_trampsAt_12 rfl rfl ?_
      refine zr_aload_n (pc := 13) dX11_trampsAt_13 rfl rfl ?_
      refine zr_getR (pc := 14) fX11_22 lo_46 rfl rfl dX11_trampsAt_14 ?_
      refine zr_iload_n (pc := 17) dX11_trampsAt_17 rfl rfl ?_
      refine zr_iaload (pc := 18) lo_51 (by omega) dX11_trampsAt_18 ?_
      refine zr_iload_n (pc := 19) dX11_trampsAt_19 rfl rfl ?_
      refine zi_icmp_ne (pc := 20) (tgt := 29) dX11_trampsAt_20 (by decide) (by rw [← hvp]; omega) (by omega) (fun h20 => ?_) (fun h20 => ?_)
      · refine zr_iconst (pc := 29) dX11_trampsAt_29 ?_
        refine zr_ior (pc := 30) dX11_trampsAt_30 ?_
        refine zr_istore_n (pc := 31) dX11_trampsAt_31 rfl (Nat.le_of_ble_eq_true rfl) rfl ?_
        refine zr_iinc (pc := 32) dX11_trampsAt_32 rfl (Nat.le_of_ble_eq_true rfl) rfl ?_
        refine zr_goto (pc := 35) (tgt := 4) dX11_trampsAt_35 (by decide) ?_
        exact ih _ (by omega) _ _ rfl (by omega) (by omega) (by rw [fo_s h0, ← hb, hvp, if_neg h20, or0w hbi])
      · refine zr_iconst (pc := 23) dX11_trampsAt_23 ?_
        refine zr_iload_n (pc := 24) dX11_trampsAt_24 rfl rfl ?_
        refine zr_ishl (pc := 25) dX11_trampsAt_25 ?_
        refine zr_goto (pc := 26) (tgt := 30) dX11_trampsAt_26 (by decide) ?_
        refine zr_ior (pc := 30) dX11_trampsAt_30 ?_
        refine zr_istore_n (pc := 31) dX11_trampsAt_31 rfl (Nat.le_of_ble_eq_true rfl) rfl ?_
        refine zr_iinc (pc := 32) dX11_trampsAt_32 rfl (Nat.le_of_ble_eq_true rfl) rfl ?_
        refine zr_goto (pc := 35) (tgt := 4) dX11_trampsAt_35 (by decide) ?_
        exact ih _ (by omega) _ _ rfl (by omega) (by omega) (by rw [fo_s h0, ← hb, hvp, if_pos h20])

set_option maxRecDepth 100000 in
set_option maxHeartbeats 4000000 in
theorem ct_X11_trampsAt {g : zt_G} {M : zm_M} {q : Int → zm_M → Prop} (hw : CW (cvG M 51 (14 * 0))) {p : Int} (hp : zi p) (h : q (atB (cvG M 51 (14 * 0)) p) M) : zc_K g yX11_trampsAt mX11_trampsAt [zv_r 46, zv_i p] M (zq_I q) := by
  refine zc_of (ls := [some (zv_r 46), some (zv_i p), none, none]) (by decide) rfl ⟨rfl, rfl⟩ (Nat.le_of_ble_eq_true rfl) rfl ?_
  refine zr_iconst (pc := 0) dX11_trampsAt_0 ?_
  refine zr_istore_n (pc := 1) dX11_trampsAt_1 rfl (Nat.le_of_ble_eq_true rfl) rfl ?_
  refine zr_iconst (pc := 2) dX11_trampsAt_2 ?_
  refine zr_istore_n (pc := 3) dX11_trampsAt_3 rfl (Nat.le_of_ble_eq_true rfl) rfl ?_
  exact lp_X11_trampsAt hw hp h _ _ _ rfl (by omega) (wGt hw).1 rfl

def knS (C : Cm) (s : Int) : Int := fo (fun t b => if bt s t = true then zb_or b (cn C t) else b) 0 (ct C).toNat
theorem fo64 {C : Cm} (hw : CW C) {s : Int} (n : Nat) : 0 ≤ fo (fun t b => if bt s t = true then zb_or b (cn C t) else b) 0 n ∧ fo (fun t b => if bt s t = true then zb_or b (cn C t) else b) 0 n < 64 := by
  refine fo_p (P := fun b : Int => 0 ≤ b ∧ b < 64) ⟨by decide, by decide⟩ (fun i b _ _ hb => ?_)
  split
  · exact oo6 hb (hw.2.2 i).2.2.1
  · exact hb
set_option maxRecDepth 100000 in
set_option maxHeartbeats 4000000 in
theorem lp_X11_knownBy {g : zt_G} {M : zm_M} {q : Int → zm_M → Prop} (hw : CW (cvG M 51 (14 * 0))) {s : Int} (hs : 0 ≤ s ∧ s < 2147483648) (h : q (knS (cvG M 51 (14 * 0)) s) M) : ∀ (nn : Nat) (b t : Int), (M 46 1 - t).toNat = nn → 0 ≤ t → t ≤ M 46 1 → b = fo (fun t b => if bt s t = true then zb_or b (cn (cvG M 51 (14 * 0)) t) else b) 0 t.toNat → zc_Z g mX11_knownBy 4 [some (zv_r 46), some (zv_i s), some (zv_i b), some (zv_i t)] [] M (zq_I q) := by
  intro nn
  induction nn using Nat.strongRecOn with
  | ind nn ih =>
    intro b t hn h0 h1 hb
    have hw1 := wGt hw
    have hbi : 0 ≤ b ∧ b < 64 := by
      rw [hb]
      exact fo64 hw _
    refine zr_iload_n (pc := 4) dX11_knownBy_4 rfl rfl ?_
    refine zr_aload_n (pc := 5) dX11_knownBy_5 rfl rfl ?_
    refine zr_getI (pc := 6) (z := 1) fX11_110 lo_46 rfl rfl rfl dX11_knownBy_6 ?_
    refine zi_icmp_ge (pc := 9) (tgt := 41) dX11_knownBy_9 (by decide) (by omega) (by omega) (fun h9 => ?_) (fun h9 => ?_)
    · refine zr_iload_n (pc := 41) dX11_knownBy_41 rfl rfl ?_
      exact zr_ireturn (pc := 42) dX11_knownBy_42 rfl (zq_eq h (by unfold knS; rw [hb, show t = M 46 1 by omega]; rfl))
    · have hvp : cn (cvG M 51 (14 * 0)) t = M 51 (4 + t) := vG_n ⟨h0, h9⟩ (by omega)
      refine zr_iload_n (pc := 12) dX11_knownBy_12 rfl rfl ?_
      refine zr_iload_n (pc := 13) dX11_knownBy_13 rfl rfl ?_
      refine zr_iload_n (pc := 14) dX11_knownBy_14 rfl rfl ?_
      refine zr_stat2I (pc := 15) rfl sX11_75 rfl rfl dX11_knownBy_15 ?_
      refine ct_X11_has hs (by omega) ?_
      refine zr_ifb_eq (pc := 18) (tgt := 32) dX11_knownBy_18 (by decide) (fun h18 => ?_) (fun h18 => ?_)
      · refine zr_iconst (pc := 32) dX11_knownBy_32 ?_
        refine zr_ior (pc := 33) dX11_knownBy_33 ?_
        refine zr_istore_n (pc := 34) dX11_knownBy_34 rfl (Nat.le_of_ble_eq_true rfl) rfl ?_
        refine zr_iinc (pc := 35) dX11_knownBy_35 rfl (Nat.le_of_ble_eq_true rfl) rfl ?_
        refine zr_goto (pc := 38) (tgt := 4) dX11_knownBy_38 (by decide) ?_
        exact ih _ (by omega) _ _ rfl (by omega) (by omega) (by rw [fo_s h0, ← hb, hvp, if_neg h18, or0 hbi])
      · refine zr_aload_n (pc := 21) dX11_knownBy_21 rfl rfl ?_
        refine zr_getR (pc := 22) fX11_22 lo_46 rfl rfl dX11_knownBy_22 ?_
        refine zr_iconst (pc := 25) dX11_knownBy_25 ?_
        refine zr_iload_n (pc := 26) dX11_knownBy_26 rfl rfl ?_
        refine zr_iadd (pc := 27) dX11_knownBy_27 ?_
        refine zr_iaload (pc := 28) lo_51 (by omega) dX11_knownBy_28 ?_
        refine zr_goto (pc := 29) (tgt := 33) dX11_knownBy_29 (by decide) ?_
        refine zr_ior (pc := 33) dX11_knownBy_33 ?_
        refine zr_istore_n (pc := 34) dX11_knownBy_34 rfl (Nat.le_of_ble_eq_true rfl) rfl ?_
        refine zr_iinc (pc := 35) dX11_knownBy_35 rfl (Nat.le_of_ble_eq_true rfl) rfl ?_
        refine zr_goto (pc := 38) (tgt := 4) dX11_knownBy_38 (by decide) ?_
        exact ih _ (by omega) _ _ rfl (by omega) (by omega) (by rw [fo_s h0, ← hb, hvp, if_pos h18])

set_option maxRecDepth 100000 in
set_option maxHeartbeats 4000000 in
theorem ct_X11_knownBy {g : zt_G} {M : zm_M} {q : Int → zm_M → Prop} (hw : CW (cvG M 51 (14 * 0))) {s : Int} (hs : 0 ≤ s ∧ s < 2147483648) (h : q (knS (cvG M 51 (14 * 0)) s) M) : zc_K g yX11_knownBy mX11_knownBy [zv_r 46, zv_i s] M (zq_I q) := by
  refine zc_of (ls := [some (zv_r 46), some (zv_i s), none, none]) (by decide) rfl ⟨rfl, rfl⟩ (Nat.le_of_ble_eq_true rfl) rfl ?_
  refine zr_iconst (pc := 0) dX11_knownBy_0 ?_
  refine zr_istore_n (pc := 1) dX11_knownBy_1 rfl (Nat.le_of_ble_eq_true rfl) rfl ?_
  refine zr_iconst (pc := 2) dX11_knownBy_2 ?_
  refine zr_istore_n (pc := 3) dX11_knownBy_3 rfl (Nat.le_of_ble_eq_true rfl) rfl ?_
  exact lp_X11_knownBy hw hs h _ _ _ rfl (by omega) (wGt hw).1 rfl

theorem bt15 : ∀ t : Nat, t < 4 → bt 15 (t : Int) = true := by decide
theorem knS15 {C : Cm} (h : CW C) : knS C 15 = anyB C := by
  unfold knS anyB
  refine fo_c (fun i b h0 h1 => ?_)
  have h2 := h.1
  obtain ⟨i, rfl⟩ := Int.eq_ofNat_of_zero_le h0
  rw [if_pos (bt15 i (by omega))]
set_option maxRecDepth 100000 in
set_option maxHeartbeats 4000000 in
theorem ct_X11_kiln {g : zt_G} {M : zm_M} {σ : Sg} {q : Int → zm_M → Prop} (hR : RM σ M) (hW : SW σ) {k v : Int} (hk : zi k) (hv : zi v) (h : ∀ M2, frM M M2 → RM σ M2 → q (aKiln k v (sL σ) (sC σ)) M2) : zc_K g yX11_kiln mX11_kiln [zv_r 46, zv_i k, zv_i v] M (zq_I q) := by
  refine zc_of (ls := [some (zv_r 46), some (zv_i k), some (zv_i v)]) (by decide) rfl ⟨rfl, rfl⟩ (Nat.le_of_ble_eq_true rfl) rfl ?_
  obtain ⟨hT, hl, hcv, hA, hK, hS, hD, hcd⟩ := id hR
  obtain ⟨wT, wTx, wL, ⟨wC, wZ⟩, wA, wK, wS⟩ := id hW
  have hLw : LW (lvM M) := by rw [hl]; exact wL
  have hCw : CW (cvG M 51 (14 * 0)) := by rw [hcv]; exact wC
  have hw0 := wGt hCw
  have hL0 := yMk hLw
  have hk1 : M 46 0 = (sL σ).1 := by rw [← hl]; rfl
  have ht1 : M 46 1 = ct (sC σ) := by rw [← hcv]; rfl
  have hT1 := hT.1
  unfold aKiln at h
  rw [← hl, ← hcv] at h
  have e1 : (lvM M).1 = M 46 0 := rfl
  refine zr_aload_n (pc := 0) dX11_kiln_0 rfl rfl ?_
  refine zr_iload_n (pc := 1) dX11_kiln_1 rfl rfl ?_
  refine zr_inv1I (pc := 2) rfl sX11_149 lo_46 rfl rfl rfl dX11_kiln_2 ?_
  refine ct_X11_isKiln hL0 hk ?_
  refine zr_ifb_ne (pc := 5) (tgt := 10) dX11_kiln_5 (by decide) (fun h5 => ?_) (fun h5 => ?_)
  · rw [if_neg (fun y => y h5)] at h
    refine zr_iload_n (pc := 10) dX11_kiln_10 rfl rfl ?_
    rcases (by omega : v = 0 ∨ v = 1 ∨ v = 2 ∨ v = 3 ∨ v = 4 ∨ (v < 0 ∨ 4 < v)) with hsw11 | hsw11 | hsw11 | hsw11 | hsw11 | hsw11
    · refine zr_tab_in (pc := 11) (tgt := 44) dX11_kiln_11 (by rw [hsw11]; decide) (by rw [hsw11]; decide) (off := 33) (by rw [hsw11]; decide +kernel) (by decide) ?_
      refine zr_aload_n (pc := 44) dX11_kiln_44 rfl rfl ?_
      refine zr_getR (pc := 45) fX11_7 lo_46 rfl rfl dX11_kiln_45 ?_
      refine zr_iload_n (pc := 48) dX11_kiln_48 rfl rfl ?_
      refine zr_iaload (pc := 49) lo_47 (by omega) dX11_kiln_49 ?_
      exact zr_ireturn (pc := 50) dX11_kiln_50 rfl (zq_eq (h M (fun _ _ _ => rfl) hR) (by rw [hsw11, if_pos rfl, lM_p h5]))
    · refine zr_tab_in (pc := 11) (tgt := 51) dX11_kiln_11 (by rw [hsw11]; decide) (by rw [hsw11]; decide) (off := 40) (by rw [hsw11]; decide +kernel) (by decide) ?_
      refine zr_aload_n (pc := 51) dX11_kiln_51 rfl rfl ?_
      refine zr_getR (pc := 52) fX11_13 lo_46 rfl rfl dX11_kiln_52 ?_
      refine zr_iload_n (pc := 55) dX11_kiln_55 rfl rfl ?_
      refine zr_iaload (pc := 56) lo_48 (by omega) dX11_kiln_56 ?_
      exact zr_ireturn (pc := 57) dX11_kiln_57 rfl (zq_eq (h M (fun _ _ _ => rfl) hR) (by rw [hsw11, if_neg (by decide), if_pos rfl, lM_d h5]))
    · refine zr_tab_in (pc := 11) (tgt := 58) dX11_kiln_11 (by rw [hsw11]; decide) (by rw [hsw11]; decide) (off := 47) (by rw [hsw11]; decide +kernel) (by decide) ?_
      refine zr_aload_n (pc := 58) dX11_kiln_58 rfl rfl ?_
      refine zr_iload_n (pc := 59) dX11_kiln_59 rfl rfl ?_
      refine zr_inv1I (pc := 60) rfl sX11_152 lo_46 rfl rfl rfl dX11_kiln_60 ?_
      refine ct_X11_setOf hLw h5 ?_
      exact zr_ireturn (pc := 63) dX11_kiln_63 rfl (zq_eq (h M (fun _ _ _ => rfl) hR) (by rw [hsw11, if_neg (by decide), if_neg (by decide), if_pos rfl]))
    · refine zr_tab_in (pc := 11) (tgt := 64) dX11_kiln_11 (by rw [hsw11]; decide) (by rw [hsw11]; decide) (off := 53) (by rw [hsw11]; decide +kernel) (by decide) ?_
      refine zr_aload_n (pc := 64) dX11_kiln_64 rfl rfl ?_
      refine zr_iload_n (pc := 65) dX11_kiln_65 rfl rfl ?_
      refine zr_inv1I (pc := 66) rfl sX11_155 lo_46 rfl rfl rfl dX11_kiln_66 ?_
      refine ct_X11_figuresOf hLw h5 ?_
      exact zr_ireturn (pc := 69) dX11_kiln_69 rfl (zq_eq (h M (fun _ _ _ => rfl) hR) (by rw [hsw11, if_neg (by decide), if_neg (by decide), if_neg (by decide), if_pos rfl]))
    · refine zr_tab_in (pc := 11) (tgt := 70) dX11_kiln_11 (by rw [hsw11]; decide) (by rw [hsw11]; decide) (off := 59) (by rw [hsw11]; decide +kernel) (by decide) ?_
      refine zr_aload_n (pc := 70) dX11_kiln_70 rfl rfl ?_
      refine zr_aload_n (pc := 71) dX11_kiln_71 rfl rfl ?_
      refine zr_getR (pc := 72) fX11_7 lo_46 rfl rfl dX11_kiln_72 ?_
      refine zr_iload_n (pc := 75) dX11_kiln_75 rfl rfl ?_
      refine zr_iaload (pc := 76) lo_47 (by omega) dX11_kiln_76 ?_
      refine zr_inv1I (pc := 77) rfl sX11_158 lo_46 rfl rfl rfl dX11_kiln_77 ?_
      refine ct_X11_trampsAt hCw (by have := yM hLw h5; omega) ?_
      exact zr_ireturn (pc := 80) dX11_kiln_80 rfl (zq_eq (h M (fun _ _ _ => rfl) hR) (by rw [hsw11, if_neg (by decide), if_neg (by decide), if_neg (by decide), if_neg (by decide), if_pos rfl, lM_p h5]))
    · refine zr_tab_out (pc := 11) (tgt := 81) dX11_kiln_11 (by rw [zw_id (by omega) (by omega)]; exact hsw11) (by decide) ?_
      refine zr_bipush (pc := 81) dX11_kiln_81 (by decide) ?_
      exact zr_ireturn (pc := 83) dX11_kiln_83 rfl (zq_eq (h M (fun _ _ _ => rfl) hR) (by rw [if_neg (by omega), if_neg (by omega), if_neg (by omega), if_neg (by omega), if_neg (by omega)]))
  · refine zr_iconst (pc := 8) dX11_kiln_8 ?_
    exact zr_ireturn (pc := 9) dX11_kiln_9 rfl (zq_eq (h M (fun _ _ _ => rfl) hR) (by rw [if_pos (by rw [e1]; exact h5)]))

set_option maxRecDepth 100000 in
set_option maxHeartbeats 4000000 in
theorem ct_X11_tramp {g : zt_G} {M : zm_M} {σ : Sg} {q : Int → zm_M → Prop} (hR : RM σ M) (hW : SW σ) {t v : Int} (ht : zi t) (hv : zi v) (h : ∀ M2, frM M M2 → RM σ M2 → q (aTramp t v (sC σ)) M2) : zc_K g yX11_tramp mX11_tramp [zv_r 46, zv_i t, zv_i v] M (zq_I q) := by
  refine zc_of (ls := [some (zv_r 46), some (zv_i t), some (zv_i v)]) (by decide) rfl ⟨rfl, rfl⟩ (Nat.le_of_ble_eq_true rfl) rfl ?_
  obtain ⟨hT, hl, hcv, hA, hK, hS, hD, hcd⟩ := id hR
  obtain ⟨wT, wTx, wL, ⟨wC, wZ⟩, wA, wK, wS⟩ := id hW
  have hLw : LW (lvM M) := by rw [hl]; exact wL
  have hCw : CW (cvG M 51 (14 * 0)) := by rw [hcv]; exact wC
  have hw0 := wGt hCw
  have hL0 := yMk hLw
  have hk1 : M 46 0 = (sL σ).1 := by rw [← hl]; rfl
  have ht1 : M 46 1 = ct (sC σ) := by rw [← hcv]; rfl
  have hT1 := hT.1
  unfold aTramp at h
  rw [← hcv] at h
  have hww : 0 ≤ M 51 12 ∧ M 51 12 < 16 := wGw hCw
  refine zr_aload_n (pc := 0) dX11_tramp_0 rfl rfl ?_
  refine zr_iload_n (pc := 1) dX11_tramp_1 rfl rfl ?_
  refine zr_inv1I (pc := 2) rfl sX11_136 lo_46 rfl rfl rfl dX11_tramp_2 ?_
  refine ct_X11_isTramp hw0 ht ?_
  refine zr_ifb_ne (pc := 5) (tgt := 10) dX11_tramp_5 (by decide) (fun h5 => ?_) (fun h5 => ?_)
  · rw [if_neg (fun y => y h5)] at h
    refine zr_iload_n (pc := 10) dX11_tramp_10 rfl rfl ?_
    rcases (by omega : v = 0 ∨ v = 1 ∨ v = 2 ∨ v = 3 ∨ v = 4 ∨ v = 5 ∨ v = 6 ∨ (v < 0 ∨ 6 < v)) with hsw11 | hsw11 | hsw11 | hsw11 | hsw11 | hsw11 | hsw11 | hsw11
    · refine zr_tab_in (pc := 11) (tgt := 52) dX11_tramp_11 (by rw [hsw11]; decide) (by rw [hsw11]; decide) (off := 41) (by rw [hsw11]; decide +kernel) (by decide) ?_
      refine zr_aload_n (pc := 52) dX11_tramp_52 rfl rfl ?_
      refine zr_getR (pc := 53) fX11_22 lo_46 rfl rfl dX11_tramp_53 ?_
      refine zr_iload_n (pc := 56) dX11_tramp_56 rfl rfl ?_
      refine zr_iaload (pc := 57) lo_51 (by omega) dX11_tramp_57 ?_
      exact zr_ireturn (pc := 58) dX11_tramp_58 rfl (zq_eq (h M (fun _ _ _ => rfl) hR) (by rw [hsw11, if_pos rfl]; exact (vG_p h5 (by omega)).symm))
    · refine zr_tab_in (pc := 11) (tgt := 59) dX11_tramp_11 (by rw [hsw11]; decide) (by rw [hsw11]; decide) (off := 48) (by rw [hsw11]; decide +kernel) (by decide) ?_
      refine zr_aload_n (pc := 59) dX11_tramp_59 rfl rfl ?_
      refine zr_getR (pc := 60) fX11_19 lo_46 rfl rfl dX11_tramp_60 ?_
      refine zr_iload_n (pc := 63) dX11_tramp_63 rfl rfl ?_
      refine zr_iaload (pc := 64) lo_50 (by omega) dX11_tramp_64 ?_
      exact zr_ireturn (pc := 65) dX11_tramp_65 rfl (zq_eq (h M (fun _ _ _ => rfl) hR) (by rw [hsw11, if_neg (by decide), if_pos rfl, vG_k h5]))
    · refine zr_tab_in (pc := 11) (tgt := 66) dX11_tramp_11 (by rw [hsw11]; decide) (by rw [hsw11]; decide) (off := 55) (by rw [hsw11]; decide +kernel) (by decide) ?_
      refine zr_aload_n (pc := 66) dX11_tramp_66 rfl rfl ?_
      refine zr_getR (pc := 67) fX11_22 lo_46 rfl rfl dX11_tramp_67 ?_
      refine zr_iconst (pc := 70) dX11_tramp_70 ?_
      refine zr_iload_n (pc := 71) dX11_tramp_71 rfl rfl ?_
      refine zr_iadd (pc := 72) dX11_tramp_72 ?_
      refine zr_iaload (pc := 73) lo_51 (by omega) dX11_tramp_73 ?_
      exact zr_ireturn (pc := 74) dX11_tramp_74 rfl (zq_eq (h M (fun _ _ _ => rfl) hR) (by rw [hsw11, if_neg (by decide), if_neg (by decide), if_pos rfl]; exact (vG_n h5 (by omega)).symm))
    · refine zr_tab_in (pc := 11) (tgt := 75) dX11_tramp_11 (by rw [hsw11]; decide) (by rw [hsw11]; decide) (off := 64) (by rw [hsw11]; decide +kernel) (by decide) ?_
      refine zr_aload_n (pc := 75) dX11_tramp_75 rfl rfl ?_
      refine zr_getR (pc := 76) fX11_22 lo_46 rfl rfl dX11_tramp_76 ?_
      refine zr_bipush (pc := 79) dX11_tramp_79 (by decide) ?_
      refine zr_iload_n (pc := 81) dX11_tramp_81 rfl rfl ?_
      refine zr_iadd (pc := 82) dX11_tramp_82 ?_
      refine zr_iaload (pc := 83) lo_51 (by omega) dX11_tramp_83 ?_
      exact zr_ireturn (pc := 84) dX11_tramp_84 rfl (zq_eq (h M (fun _ _ _ => rfl) hR) (by rw [hsw11, if_neg (by decide), if_neg (by decide), if_neg (by decide), if_pos rfl]; exact (vG_h h5 (by omega)).symm))
    · refine zr_tab_in (pc := 11) (tgt := 85) dX11_tramp_11 (by rw [hsw11]; decide) (by rw [hsw11]; decide) (off := 74) (by rw [hsw11]; decide +kernel) (by decide) ?_
      refine zr_aload_n (pc := 85) dX11_tramp_85 rfl rfl ?_
      refine zr_iconst (pc := 86) dX11_tramp_86 ?_
      refine zr_iload_n (pc := 87) dX11_tramp_87 rfl rfl ?_
      refine zr_inv2I (pc := 88) rfl sX11_146 lo_46 rfl rfl rfl dX11_tramp_88 ?_
      refine ct_X11_speedOf (by decide) hCw h5 ?_
      exact zr_ireturn (pc := 91) dX11_tramp_91 rfl (zq_eq (h M (fun _ _ _ => rfl) hR) (by rw [hsw11, if_neg (by decide), if_neg (by decide), if_neg (by decide), if_neg (by decide), if_pos rfl]))
    · refine zr_tab_in (pc := 11) (tgt := 92) dX11_tramp_11 (by rw [hsw11]; decide) (by rw [hsw11]; decide) (off := 81) (by rw [hsw11]; decide +kernel) (by decide) ?_
      refine zr_aload_n (pc := 92) dX11_tramp_92 rfl rfl ?_
      refine zr_getR (pc := 93) fX11_22 lo_46 rfl rfl dX11_tramp_93 ?_
      refine zr_bipush (pc := 96) dX11_tramp_96 (by decide) ?_
      refine zr_iaload (pc := 98) lo_51 (by omega) dX11_tramp_98 ?_
      refine zr_iload_n (pc := 99) dX11_tramp_99 rfl rfl ?_
      refine zr_ishr (pc := 100) dX11_tramp_100 ?_
      refine zr_iconst (pc := 101) dX11_tramp_101 ?_
      refine zr_iand (pc := 102) dX11_tramp_102 ?_
      exact zr_ireturn (pc := 103) dX11_tramp_103 rfl (zq_eq (h M (fun _ _ _ => rfl) hR) (by rw [hsw11, if_neg (by decide), if_neg (by decide), if_neg (by decide), if_neg (by decide), if_neg (by decide), if_pos rfl]; exact hs1 ⟨hww.1, by have := hww.2; omega⟩ (by omega)))
    · refine zr_tab_in (pc := 11) (tgt := 104) dX11_tramp_11 (by rw [hsw11]; decide) (by rw [hsw11]; decide) (off := 93) (by rw [hsw11]; decide +kernel) (by decide) ?_
      refine zr_aload_n (pc := 104) dX11_tramp_104 rfl rfl ?_
      refine zr_iconst (pc := 105) dX11_tramp_105 ?_
      refine zr_iload_n (pc := 106) dX11_tramp_106 rfl rfl ?_
      refine zr_inv2I (pc := 107) rfl sX11_122 lo_46 rfl rfl rfl dX11_tramp_107 ?_
      refine ct_X11_isHummock (by decide) hCw h5 ?_
      refine zr_ifb_eq (pc := 110) (tgt := 117) dX11_tramp_110 (by decide) (fun h110 => ?_) (fun h110 => ?_)
      · refine zr_iconst (pc := 117) dX11_tramp_117 ?_
        exact zr_ireturn (pc := 118) dX11_tramp_118 rfl (zq_eq (h M (fun _ _ _ => rfl) hR) (by rw [hsw11, if_neg (by decide), if_neg (by decide), if_neg (by decide), if_neg (by decide), if_neg (by decide), if_neg (by decide), if_pos rfl]; exact zb_F h110))
      · refine zr_iconst (pc := 113) dX11_tramp_113 ?_
        refine zr_goto (pc := 114) (tgt := 118) dX11_tramp_114 (by decide) ?_
        exact zr_ireturn (pc := 118) dX11_tramp_118 rfl (zq_eq (h M (fun _ _ _ => rfl) hR) (by rw [hsw11, if_neg (by decide), if_neg (by decide), if_neg (by decide), if_neg (by decide), if_neg (by decide), if_neg (by decide), if_pos rfl]; exact zb_T h110))
    · refine zr_tab_out (pc := 11) (tgt := 119) dX11_tramp_11 (by rw [zw_id (by omega) (by omega)]; exact hsw11) (by decide) ?_
      refine zr_bipush (pc := 119) dX11_tramp_119 (by decide) ?_
      exact zr_ireturn (pc := 121) dX11_tramp_121 rfl (zq_eq (h M (fun _ _ _ => rfl) hR) (by rw [if_neg (by omega), if_neg (by omega), if_neg (by omega), if_neg (by omega), if_neg (by omega), if_neg (by omega), if_neg (by omega)]))
  · refine zr_iconst (pc := 8) dX11_tramp_8 ?_
    exact zr_ireturn (pc := 9) dX11_tramp_9 rfl (zq_eq (h M (fun _ _ _ => rfl) hR) (if_pos h5).symm)

set_option maxRecDepth 100000 in
set_option maxHeartbeats 4000000 in
theorem ct_X11_at {g : zt_G} {M : zm_M} {σ : Sg} {q : Int → zm_M → Prop} (hR : RM σ M) (hW : SW σ) {p : Int} (hp : zi p) (h : ∀ M2, frM M M2 → RM σ M2 → q (aAt p (sL σ)) M2) : zc_K g yX11_at mX11_at [zv_r 46, zv_i p] M (zq_I q) := by
  refine zc_of (ls := [some (zv_r 46), some (zv_i p)]) (by decide) rfl ⟨rfl, rfl⟩ (Nat.le_of_ble_eq_true rfl) rfl ?_
  obtain ⟨hT, hl, hcv, hA, hK, hS, hD, hcd⟩ := id hR
  obtain ⟨wT, wTx, wL, ⟨wC, wZ⟩, wA, wK, wS⟩ := id hW
  have hLw : LW (lvM M) := by rw [hl]; exact wL
  have hCw : CW (cvG M 51 (14 * 0)) := by rw [hcv]; exact wC
  have hw0 := wGt hCw
  have hL0 := yMk hLw
  have hk1 : M 46 0 = (sL σ).1 := by rw [← hl]; rfl
  have ht1 : M 46 1 = ct (sC σ) := by rw [← hcv]; rfl
  have hT1 := hT.1
  unfold aAt at h
  rw [← hl] at h
  refine zr_iload_n (pc := 0) dX11_at_0 rfl rfl ?_
  refine zr_stat1I (pc := 1) rfl sX11_140 rfl rfl dX11_at_1 ?_
  refine ct_X11_isPlace hp ?_
  refine zr_ifb_eq (pc := 4) (tgt := 15) dX11_at_4 (by decide) (fun h4 => ?_) (fun h4 => ?_)
  · refine zr_iconst (pc := 15) dX11_at_15 ?_
    exact zr_ireturn (pc := 16) dX11_at_16 rfl (zq_eq (h M (fun _ _ _ => rfl) hR) (by rw [if_pos h4]))
  · refine zr_aload_n (pc := 7) dX11_at_7 rfl rfl ?_
    refine zr_iload_n (pc := 8) dX11_at_8 rfl rfl ?_
    refine zr_inv1I (pc := 9) rfl sX11_118 lo_46 rfl rfl rfl dX11_at_9 ?_
    refine ct_X11_kilnOf hLw hp ?_
    refine zr_goto (pc := 12) (tgt := 16) dX11_at_12 (by decide) ?_
    exact zr_ireturn (pc := 16) dX11_at_16 rfl (zq_eq (h M (fun _ _ _ => rfl) hR) (by rw [if_neg (fun y => y h4)]))

set_option maxRecDepth 100000 in
set_option maxHeartbeats 4000000 in
theorem ct_X11_count {g : zt_G} {M : zm_M} {σ : Sg} {q : Int → zm_M → Prop} (hR : RM σ M) (hW : SW σ) {v : Int} (hv : zi v) (h : ∀ M2, frM M M2 → RM σ M2 → q (aCount v σ) M2) : zc_K g yX11_count mX11_count [zv_r 46, zv_i v] M (zq_I q) := by
  refine zc_of (ls := [some (zv_r 46), some (zv_i v)]) (by decide) rfl ⟨rfl, rfl⟩ (Nat.le_of_ble_eq_true rfl) rfl ?_
  obtain ⟨hT, hl, hcv, hA, hK, hS, hD, hcd⟩ := id hR
  obtain ⟨wT, wTx, wL, ⟨wC, wZ⟩, wA, wK, wS⟩ := id hW
  have hLw : LW (lvM M) := by rw [hl]; exact wL
  have hCw : CW (cvG M 51 (14 * 0)) := by rw [hcv]; exact wC
  have hw0 := wGt hCw
  have hL0 := yMk hLw
  have hk1 : M 46 0 = (sL σ).1 := by rw [← hl]; rfl
  have ht1 : M 46 1 = ct (sC σ) := by rw [← hcv]; rfl
  have hT1 := hT.1
  unfold aCount at h
  refine zr_iload_n (pc := 0) dX11_count_0 rfl rfl ?_
  rcases (by omega : v = 0 ∨ v = 1 ∨ v = 2 ∨ v = 3 ∨ v = 4 ∨ v = 5 ∨ v = 6 ∨ v = 7 ∨ v = 8 ∨ v = 9 ∨ (v < 0 ∨ 9 < v)) with hsw1 | hsw1 | hsw1 | hsw1 | hsw1 | hsw1 | hsw1 | hsw1 | hsw1 | hsw1 | hsw1
  · refine zr_tab_in (pc := 1) (tgt := 56) dX11_count_1 (by rw [hsw1]; decide) (by rw [hsw1]; decide) (off := 55) (by rw [hsw1]; decide +kernel) (by decide) ?_
    refine zr_aload_n (pc := 56) dX11_count_56 rfl rfl ?_
    refine zr_getI (pc := 57) (z := 15) fX11_65 lo_46 rfl rfl rfl dX11_count_57 ?_
    exact zr_ireturn (pc := 60) dX11_count_60 rfl (zq_eq (h M (fun _ _ _ => rfl) hR) (by rw [hsw1, if_pos rfl]; exact hT1))
  · refine zr_tab_in (pc := 1) (tgt := 61) dX11_count_1 (by rw [hsw1]; decide) (by rw [hsw1]; decide) (off := 60) (by rw [hsw1]; decide +kernel) (by decide) ?_
    refine zr_aload_n (pc := 61) dX11_count_61 rfl rfl ?_
    refine zr_getI (pc := 62) (z := 0) fX11_107 lo_46 rfl rfl rfl dX11_count_62 ?_
    exact zr_ireturn (pc := 65) dX11_count_65 rfl (zq_eq (h M (fun _ _ _ => rfl) hR) (by rw [hsw1, if_neg (by decide), if_pos rfl]; exact hk1))
  · refine zr_tab_in (pc := 1) (tgt := 66) dX11_count_1 (by rw [hsw1]; decide) (by rw [hsw1]; decide) (off := 65) (by rw [hsw1]; decide +kernel) (by decide) ?_
    refine zr_aload_n (pc := 66) dX11_count_66 rfl rfl ?_
    refine zr_getI (pc := 67) (z := 1) fX11_110 lo_46 rfl rfl rfl dX11_count_67 ?_
    exact zr_ireturn (pc := 70) dX11_count_70 rfl (zq_eq (h M (fun _ _ _ => rfl) hR) (by rw [hsw1, if_neg (by decide), if_neg (by decide), if_pos rfl]; exact ht1))
  · refine zr_tab_in (pc := 1) (tgt := 71) dX11_count_1 (by rw [hsw1]; decide) (by rw [hsw1]; decide) (off := 70) (by rw [hsw1]; decide +kernel) (by decide) ?_
    refine zr_aload_n (pc := 71) dX11_count_71 rfl rfl ?_
    refine zr_getR (pc := 72) fX11_22 lo_46 rfl rfl dX11_count_72 ?_
    refine zr_bipush (pc := 75) dX11_count_75 (by decide) ?_
    refine zr_iaload (pc := 77) lo_51 (by omega) dX11_count_77 ?_
    exact zr_ireturn (pc := 78) dX11_count_78 rfl (zq_eq (h M (fun _ _ _ => rfl) hR) (by rw [hsw1, if_neg (by decide), if_neg (by decide), if_neg (by decide), if_pos rfl]; exact (by rw [← hcv]; rfl)))
  · refine zr_tab_in (pc := 1) (tgt := 79) dX11_count_1 (by rw [hsw1]; decide) (by rw [hsw1]; decide) (off := 78) (by rw [hsw1]; decide +kernel) (by decide) ?_
    refine zr_aload_n (pc := 79) dX11_count_79 rfl rfl ?_
    refine zr_iconst (pc := 80) dX11_count_80 ?_
    refine zr_inv1I (pc := 81) rfl sX11_170 lo_46 rfl rfl rfl dX11_count_81 ?_
    refine ct_X11_hummocksOn (by decide) hCw ?_
    exact zr_ireturn (pc := 84) dX11_count_84 rfl (zq_eq (h M (fun _ _ _ => rfl) hR) (by rw [hsw1, if_neg (by decide), if_neg (by decide), if_neg (by decide), if_neg (by decide), if_pos rfl]; exact (by rw [hcv])))
  · refine zr_tab_in (pc := 1) (tgt := 85) dX11_count_1 (by rw [hsw1]; decide) (by rw [hsw1]; decide) (off := 84) (by rw [hsw1]; decide +kernel) (by decide) ?_
    refine zr_aload_n (pc := 85) dX11_count_85 rfl rfl ?_
    refine zr_getR (pc := 86) fX11_22 lo_46 rfl rfl dX11_count_86 ?_
    refine zr_bipush (pc := 89) dX11_count_89 (by decide) ?_
    refine zr_iaload (pc := 91) lo_51 (by omega) dX11_count_91 ?_
    exact zr_ireturn (pc := 92) dX11_count_92 rfl (zq_eq (h M (fun _ _ _ => rfl) hR) (by rw [hsw1, if_neg (by decide), if_neg (by decide), if_neg (by decide), if_neg (by decide), if_neg (by decide), if_pos rfl]; exact (by rw [← hcv]; rfl)))
  · refine zr_tab_in (pc := 1) (tgt := 93) dX11_count_1 (by rw [hsw1]; decide) (by rw [hsw1]; decide) (off := 92) (by rw [hsw1]; decide +kernel) (by decide) ?_
    refine zr_aload_n (pc := 93) dX11_count_93 rfl rfl ?_
    refine zr_bipush (pc := 94) dX11_count_94 (by decide) ?_
    refine zr_inv1I (pc := 96) rfl sX11_250 lo_46 rfl rfl rfl dX11_count_96 ?_
    refine ct_X11_knownBy hCw (by decide) ?_
    exact zr_ireturn (pc := 99) dX11_count_99 rfl (zq_eq (h M (fun _ _ _ => rfl) hR) (by rw [hsw1, if_neg (by decide), if_neg (by decide), if_neg (by decide), if_neg (by decide), if_neg (by decide), if_neg (by decide), if_pos rfl]; exact (by rw [knS15 hCw, hcv])))
  · refine zr_tab_in (pc := 1) (tgt := 100) dX11_count_1 (by rw [hsw1]; decide) (by rw [hsw1]; decide) (off := 99) (by rw [hsw1]; decide +kernel) (by decide) ?_
    refine zr_aload_n (pc := 100) dX11_count_100 rfl rfl ?_
    refine zr_inv0I (pc := 101) rfl sX11_207 lo_46 rfl rfl rfl dX11_count_101 ?_
    refine ct_X11_allLayers hLw ?_
    exact zr_ireturn (pc := 104) dX11_count_104 rfl (zq_eq (h M (fun _ _ _ => rfl) hR) (by rw [hsw1, if_neg (by decide), if_neg (by decide), if_neg (by decide), if_neg (by decide), if_neg (by decide), if_neg (by decide), if_neg (by decide), if_pos rfl]; exact (by rw [hl])))
  · refine zr_tab_in (pc := 1) (tgt := 105) dX11_count_1 (by rw [hsw1]; decide) (by rw [hsw1]; decide) (off := 104) (by rw [hsw1]; decide +kernel) (by decide) ?_
    refine zr_aload_n (pc := 105) dX11_count_105 rfl rfl ?_
    refine zr_getI (pc := 106) (z := 19) fX11_113 lo_46 rfl rfl rfl dX11_count_106 ?_
    exact zr_ireturn (pc := 109) dX11_count_109 rfl (zq_eq (h M (fun _ _ _ => rfl) hR) (by rw [hsw1, if_neg (by decide), if_neg (by decide), if_neg (by decide), if_neg (by decide), if_neg (by decide), if_neg (by decide), if_neg (by decide), if_neg (by decide), if_pos rfl]; exact hA.1))
  · refine zr_tab_in (pc := 1) (tgt := 110) dX11_count_1 (by rw [hsw1]; decide) (by rw [hsw1]; decide) (off := 109) (by rw [hsw1]; decide +kernel) (by decide) ?_
    refine zr_aload_n (pc := 110) dX11_count_110 rfl rfl ?_
    refine zr_getI (pc := 111) (z := 25) fX11_241 lo_46 rfl rfl rfl dX11_count_111 ?_
    exact zr_ireturn (pc := 114) dX11_count_114 rfl (zq_eq (h M (fun _ _ _ => rfl) hR) (by rw [hsw1, if_neg (by decide), if_neg (by decide), if_neg (by decide), if_neg (by decide), if_neg (by decide), if_neg (by decide), if_neg (by decide), if_neg (by decide), if_neg (by decide), if_pos rfl]; exact hS.1))
  · refine zr_tab_out (pc := 1) (tgt := 115) dX11_count_1 (by rw [zw_id (by omega) (by omega)]; exact hsw1) (by decide) ?_
    refine zr_bipush (pc := 115) dX11_count_115 (by decide) ?_
    exact zr_ireturn (pc := 117) dX11_count_117 rfl (zq_eq (h M (fun _ _ _ => rfl) hR) (by rw [if_neg (by omega), if_neg (by omega), if_neg (by omega), if_neg (by omega), if_neg (by omega), if_neg (by omega), if_neg (by omega), if_neg (by omega), if_neg (by omega), if_neg (by omega)]))

