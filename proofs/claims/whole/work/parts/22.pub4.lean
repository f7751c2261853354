/-! shares -/
def tw (C : Cm) (t : Int) : Int := fo (fun l s => if bt (cn C t) l = true ∧ 0 < howN C l then s + 12 / howN C l else s) 0 6
def aShare (t u : Int) (C : Cm) : Int := if ¬ cHas C t then -1 else frc u (tw C t) 12
theorem howN_in {C : Cm} (h : CW C) (l : Int) : 0 ≤ howN C l ∧ howN C l ≤ 4 := by
  have key : ∀ n : Nat, 0 ≤ fo (fun t b => if bt (cn C t) l = true then b + 1 else b) (0 : Int) n ∧ fo (fun t b => if bt (cn C t) l = true then b + 1 else b) (0 : Int) n ≤ n := by
    intro n
    induction n with
    | zero => exact ⟨Int.le_refl 0, Int.le_refl 0⟩
    | succ n ih =>
      have e : fo (fun t b => if bt (cn C t) l = true then b + 1 else b) (0 : Int) (n + 1) = (if bt (cn C (n : Int)) l = true then fo (fun t b => if bt (cn C t) l = true then b + 1 else b) (0 : Int) n + 1 else fo (fun t b => if bt (cn C t) l = true then b + 1 else b) (0 : Int) n) := rfl
      rw [e]
      split
      · omega
      · omega
  have h1 := key (ct C).toNat
  have h2 := h.1
  unfold howN
  omega
theorem tw_in {C : Cm} (h : CW C) (t : Int) : ∀ n : Nat, n ≤ 6 → 0 ≤ fo (fun l s => if bt (cn C t) l = true ∧ 0 < howN C l then s + 12 / howN C l else s) (0 : Int) n ∧ fo (fun l s => if bt (cn C t) l = true ∧ 0 < howN C l then s + 12 / howN C l else s) (0 : Int) n ≤ 12 * n
  | 0, _ => ⟨Int.le_refl 0, Int.le_refl 0⟩
  | n + 1, hn => by
    have h1 := tw_in h t n (by omega)
    have h2 := howN_in h (n : Int)
    have e : fo (fun l s => if bt (cn C t) l = true ∧ 0 < howN C l then s + 12 / howN C l else s) (0 : Int) (n + 1) = (if bt (cn C t) (n : Int) = true ∧ 0 < howN C (n : Int) then fo (fun l s => if bt (cn C t) l = true ∧ 0 < howN C l then s + 12 / howN C l else s) (0 : Int) n + 12 / howN C (n : Int) else fo (fun l s => if bt (cn C t) l = true ∧ 0 < howN C l then s + 12 / howN C l else s) (0 : Int) n) := rfl
    rw [e]
    split
    · rename_i hx
      have h3 : 0 ≤ 12 / howN C (n : Int) := Int.ediv_nonneg (by decide) h2.1
      have h4 : 12 / howN C (n : Int) ≤ 12 := Int.ediv_le_self _ (by decide)
      omega
    · omega
set_option maxRecDepth 100000 in
set_option maxHeartbeats 4000000 in
theorem lp_X10_share {g : zt_G} {M : zm_M} {σ : Sg} {q : Int → zm_M → Prop} (hR : RX σ M) (hW : SW σ) {t u : Int} (ht : cHas (sC σ) t) (hu : zi u) (h : ∀ M2, frX M M2 → RX σ M2 → q (aShare t u (sC σ)) M2) : ∀ (nn : Nat) (s k : Int) (x5 : Option zv_A), (6 - k).toNat = nn → 0 ≤ k → k ≤ 6 → s = fo (fun l s => if bt (cn (sC σ) t) l = true ∧ 0 < howN (sC σ) l then s + 12 / howN (sC σ) l else s) 0 k.toNat → zc_Z g mX10_share 18 [some (zv_r 0), some (zv_i t), some (zv_i u), some (zv_i s), some (zv_i k), x5] [] M (zq_I q) := by
  intro nn
  induction nn using Nat.strongRecOn with
  | ind nn ih =>
    intro s k x5 hn h0 h1 hs
    obtain ⟨hT, hl, hcv, hA, hK, hS, hD⟩ := id hR
    obtain ⟨wT, wTx, wL, ⟨wC, wZ⟩, wA, wK, wS⟩ := id hW
    have hLw : LW (lvX M 13) := by rw [hl]; exact wL
    have hCw : CW (cvX M 17) := by rw [hcv]; exact wC
    have hw0 := wXt hCw
    have hL0 := yXk hLw
    have hk1 : M 13 3 = (sL σ).1 := by rw [← hl]; rfl
    have ht1 : M 17 5 = ct (sC σ) := by rw [← hcv]; rfl
    have hT1 := hT.1
    have ht2 : 0 ≤ t ∧ t < M 17 5 := by rw [ht1]; exact ht
    have hy : (0 ≤ M 18 t ∧ M 18 t ≤ 9) ∧ (0 ≤ M 19 t ∧ M 19 t ≤ 3) ∧ (0 ≤ M 20 t ∧ M 20 t < 64) ∧ (0 ≤ M 21 t ∧ M 21 t ≤ 9) := wX hCw ht2
    have en : cn (sC σ) t = M 20 t := by rw [← hcv]; exact vX_n ht2
    have hti := tw_in wC t k.toNat (by omega)
    rw [← hs] at hti
    refine zr_iload (pc := 18) dX10_share_18 rfl ?_
    refine zr_bipush (pc := 20) dX10_share_20 (by decide) ?_
    refine zi_icmp_ge (pc := 22) (tgt := 74) dX10_share_22 (by decide) (by omega) (by omega) (fun h22 => ?_) (fun h22 => ?_)
    · refine zr_iload_n (pc := 74) dX10_share_74 rfl rfl ?_
      refine zr_bipush (pc := 75) dX10_share_75 (by decide) ?_
      refine zr_iload_n (pc := 77) dX10_share_77 rfl rfl ?_
      refine zr_stat3I (pc := 78) rfl sX10_270 rfl rfl dX10_share_78 ?_
      refine ct_X10_fractionPart (by omega) (by decide) hu ?_
      exact zr_ireturn (pc := 81) dX10_share_81 rfl (zq_eq (h M (fun _ _ _ => rfl) hR) (by unfold aShare tw; rw [if_neg (fun y => y ht), hs, show k = 6 by omega]; rfl))
    · refine zr_aload_n (pc := 25) dX10_share_25 rfl rfl ?_
      refine zr_getR (pc := 26) fX10_33 lo_0 rfl rfl dX10_share_26 ?_
      refine zr_iconst (pc := 29) dX10_share_29 ?_
      refine zr_iload (pc := 30) dX10_share_30 rfl ?_
      refine zr_ishl (pc := 32) dX10_share_32 ?_
      refine zr_inv1I (pc := 33) rfl sX10_267 lo_17 rfl rfl rfl dX10_share_33 ?_
      refine ct_X1_howManyKnow zp_c17 hCw ⟨h0, by omega⟩ ?_
      rw [hcv]
      have hh := howN_in wC k
      have hb6 := and6 hy.2.2.1 (l := k) ⟨h0, by omega⟩
      refine zr_istore (pc := 36) dX10_share_36 (Nat.le_of_ble_eq_true rfl) rfl ?_
      refine zr_aload_n (pc := 38) dX10_share_38 rfl rfl ?_
      refine zr_getR (pc := 39) fX10_33 lo_0 rfl rfl dX10_share_39 ?_
      refine zr_getR (pc := 42) fX10_143 lo_17 rfl rfl dX10_share_42 ?_
      refine zr_iload_n (pc := 45) dX10_share_45 rfl rfl ?_
      refine zr_iaload (pc := 46) lo_20 (by omega) dX10_share_46 ?_
      refine zr_iconst (pc := 47) dX10_share_47 ?_
      refine zr_iload (pc := 48) dX10_share_48 rfl ?_
      refine zr_ishl (pc := 50) dX10_share_50 ?_
      refine zr_iand (pc := 51) dX10_share_51 ?_
      refine zi_if_eq (pc := 52) (tgt := 68) dX10_share_52 (by decide) (by omega) (fun h52 => ?_) (fun h52 => ?_)
      · refine zr_iinc (pc := 68) dX10_share_68 rfl (Nat.le_of_ble_eq_true rfl) rfl ?_
        refine zr_goto (pc := 71) (tgt := 18) dX10_share_71 (by decide) ?_
        exact ih _ (by omega) _ _ _ rfl (by omega) (by omega) (by rw [fo_s h0, ← hs, en, if_neg (fun y => btF hb6.1 h52 y.1)])
      · refine zr_iload (pc := 55) dX10_share_55 rfl ?_
        refine zi_if_le (pc := 57) (tgt := 68) dX10_share_57 (by decide) (by omega) (fun h57 => ?_) (fun h57 => ?_)
        · refine zr_iinc (pc := 68) dX10_share_68 rfl (Nat.le_of_ble_eq_true rfl) rfl ?_
          refine zr_goto (pc := 71) (tgt := 18) dX10_share_71 (by decide) ?_
          exact ih _ (by omega) _ _ _ rfl (by omega) (by omega) (by rw [fo_s h0, ← hs, en, if_neg (fun y => absurd y.2 (by omega))])
        · refine zr_iload_n (pc := 60) dX10_share_60 rfl rfl ?_
          refine zr_bipush (pc := 61) dX10_share_61 (by decide) ?_
          refine zr_iload (pc := 63) dX10_share_63 rfl ?_
          refine zr_idiv (pc := 65) (by omega) (by omega) dX10_share_65 ?_
          refine zr_iadd (pc := 66) dX10_share_66 ?_
          refine zr_istore_n (pc := 67) dX10_share_67 rfl (Nat.le_of_ble_eq_true rfl) rfl ?_
          refine zr_iinc (pc := 68) dX10_share_68 rfl (Nat.le_of_ble_eq_true rfl) rfl ?_
          refine zr_goto (pc := 71) (tgt := 18) dX10_share_71 (by decide) ?_
          exact ih _ (by omega) _ _ _ rfl (by omega) (by omega) (by rw [fo_s h0, ← hs, en, if_pos ⟨btT hb6.1 h52, h57⟩])

set_option maxRecDepth 100000 in
set_option maxHeartbeats 4000000 in
theorem ct_X10_share {g : zt_G} {M : zm_M} {σ : Sg} {q : Int → zm_M → Prop} (hR : RX σ M) (hW : SW σ) {t u : Int} (ht : zi t) (hu : zi u) (h : ∀ M2, frX M M2 → RX σ M2 → q (aShare t u (sC σ)) M2) : zc_K g yX10_share mX10_share [zv_r 0, zv_i t, zv_i u] M (zq_I q) := by
  refine zc_of (ls := [some (zv_r 0), some (zv_i t), some (zv_i u), none, none, none]) (by decide) rfl ⟨rfl, rfl⟩ (Nat.le_of_ble_eq_true rfl) rfl ?_
  obtain ⟨hT, hl, hcv, hA, hK, hS, hD⟩ := id hR
  obtain ⟨wT, wTx, wL, ⟨wC, wZ⟩, wA, wK, wS⟩ := id hW
  have hLw : LW (lvX M 13) := by rw [hl]; exact wL
  have hCw : CW (cvX M 17) := by rw [hcv]; exact wC
  have hw0 := wXt hCw
  have hL0 := yXk hLw
  have hk1 : M 13 3 = (sL σ).1 := by rw [← hl]; rfl
  have ht1 : M 17 5 = ct (sC σ) := by rw [← hcv]; rfl
  have hT1 := hT.1
  refine zr_aload_n (pc := 0) dX10_share_0 rfl rfl ?_
  refine zr_getR (pc := 1) fX10_33 lo_0 rfl rfl dX10_share_1 ?_
  refine zr_iload_n (pc := 4) dX10_share_4 rfl rfl ?_
  refine zr_inv1I (pc := 5) rfl sX10_138 lo_17 rfl rfl rfl dX10_share_5 ?_
  refine ct_X1_has zp_c17 hCw ht ?_
  rw [hcv]
  refine zr_ifb_ne (pc := 8) (tgt := 13) dX10_share_8 (by decide) (fun h8 => ?_) (fun h8 => ?_)
  · refine zr_iconst (pc := 13) dX10_share_13 ?_
    refine zr_istore_n (pc := 14) dX10_share_14 rfl (Nat.le_of_ble_eq_true rfl) rfl ?_
    refine zr_iconst (pc := 15) dX10_share_15 ?_
    refine zr_istore (pc := 16) dX10_share_16 (Nat.le_of_ble_eq_true rfl) rfl ?_
    exact lp_X10_share (g := g) hR hW h8 hu h _ _ _ _ rfl (by omega) (by omega) rfl
  · refine zr_iconst (pc := 11) dX10_share_11 ?_
    exact zr_ireturn (pc := 12) dX10_share_12 rfl (zq_eq (h M (fun _ _ _ => rfl) hR) (by unfold aShare; rw [if_pos h8]))

/-! cold kilns -/
def wgK (n : Nat) (cold x : Int) : Int := fo (fun g w => w * (if bt cold g = true then x else 10 - x)) 1 n
theorem wgt_K (L : Ln) (cold x : Int) : wgt L cold x = wgK L.1.toNat cold x := rfl
theorem wgK_in {n : Nat} {cold x : Int} (hx : 0 ≤ x ∧ x ≤ 10) : 0 ≤ wgK n cold x ∧ wgK n cold x ≤ 10 ^ n := by
  induction n with
  | zero => exact ⟨show (0 : Int) ≤ 1 by decide, show (1 : Int) ≤ 1 by decide⟩
  | succ n ih =>
    have e : wgK (n + 1) cold x = wgK n cold x * (if bt cold (n : Int) = true then x else 10 - x) := rfl
    have e2 : (10 : Int) ^ (n + 1) = 10 ^ n * 10 := Int.pow_succ _ _
    have h1 : 0 ≤ (if bt cold (n : Int) = true then x else 10 - x) ∧ (if bt cold (n : Int) = true then x else 10 - x) ≤ 10 := by split <;> omega
    rw [e, e2]
    exact ⟨Int.mul_nonneg ih.1 h1.1, Int.mul_le_mul ih.2 h1.2 h1.1 (Int.le_trans ih.1 ih.2)⟩
theorem wg_sum : ∀ n : Nat, n ≤ 4 → ∀ x : Nat, x ≤ 10 → fo (fun st b => b + wgK n st (x : Int)) 0 (2 ^ n) = ((10 ^ n : Nat) : Int) := by decide +kernel
def cdF (L : Ln) (C : Cm) (t m x : Int) : Int → Int × Int → Int × Int := fun st p => (if m ≤ on6 (cn (nit L st C) t) then p.1 + wgt L st x else p.1, p.2 + wgt L st x)
def cdP (L : Ln) (C : Cm) (t m x : Int) (n : Nat) : Int × Int := fo (cdF L C t m x) (0, 0) n
def aCold (t m x u : Int) (L : Ln) (C : Cm) : Int := if ¬ cHas C t then -1 else if m < 0 ∨ 6 < m ∨ x < 0 ∨ 10 < x then -2 else frc u (cdP L C t m x (2 ^ L.1.toNat)).1 (cdP L C t m x (2 ^ L.1.toNat)).2
theorem cdP_2 (L : Ln) (C : Cm) (t m x : Int) : ∀ n : Nat, (cdP L C t m x n).2 = fo (fun st b => b + wgK L.1.toNat st x) 0 n
  | 0 => rfl
  | n + 1 => by
    show (cdP L C t m x n).2 + wgt L (n : Int) x = fo (fun st b => b + wgK L.1.toNat st x) 0 n + wgK L.1.toNat (n : Int) x
    rw [cdP_2 L C t m x n]
    rfl
theorem cdP_in {L : Ln} {C : Cm} {t m x : Int} (hx : 0 ≤ x ∧ x ≤ 10) : ∀ n : Nat, 0 ≤ (cdP L C t m x n).1 ∧ (cdP L C t m x n).1 ≤ (cdP L C t m x n).2
  | 0 => ⟨Int.le_refl 0, Int.le_refl 0⟩
  | n + 1 => by
    have h1 := cdP_in (L := L) (C := C) (t := t) (m := m) hx n
    have h2 := wgK_in (n := L.1.toNat) (cold := (n : Int)) hx
    have e1 : (cdP L C t m x (n + 1)).1 = if m ≤ on6 (cn (nit L (n : Int) C) t) then (cdP L C t m x n).1 + wgt L (n : Int) x else (cdP L C t m x n).1 := rfl
    have e2 : (cdP L C t m x (n + 1)).2 = (cdP L C t m x n).2 + wgt L (n : Int) x := rfl
    have e3 : wgt L (n : Int) x = wgK L.1.toNat (n : Int) x := rfl
    rw [e1, e2, e3]
    split <;> omega
theorem cd_all {L : Ln} (hL : LW L) {C : Cm} {t m x : Int} (hx : 0 ≤ x ∧ x ≤ 10) : (cdP L C t m x (2 ^ L.1.toNat)).2 = ((10 ^ L.1.toNat : Nat) : Int) := by
  rw [cdP_2]
  obtain ⟨x, rfl⟩ := Int.eq_ofNat_of_zero_le hx.1
  exact wg_sum _ (by have := hL.1; omega) x (by omega)
theorem p10 {n : Nat} (h : n ≤ 4) : 1 ≤ 10 ^ n ∧ 10 ^ n ≤ 10000 := by
  rcases (by omega : n = 0 ∨ n = 1 ∨ n = 2 ∨ n = 3 ∨ n = 4) with rfl | rfl | rfl | rfl | rfl <;> decide
theorem cdP_m {L : Ln} {C : Cm} {t m x : Int} (hx : 0 ≤ x ∧ x ≤ 10) : ∀ (k n : Nat), (cdP L C t m x n).2 ≤ (cdP L C t m x (n + k)).2
  | 0, n => Int.le_refl _
  | k + 1, n => by
    have h1 := cdP_m (L := L) (C := C) (t := t) (m := m) hx k n
    have h2 := wgK_in (n := L.1.toNat) (cold := ((n + k : Nat) : Int)) hx
    have e2 : (cdP L C t m x (n + (k + 1))).2 = (cdP L C t m x (n + k)).2 + wgK L.1.toNat ((n + k : Nat) : Int) x := rfl
    omega
theorem sh1 : ∀ n : Nat, n ≤ 4 → zb_shl 1 (n : Int) = ((2 ^ n : Nat) : Int) := by decide +kernel
theorem p2 {n : Nat} (h : n ≤ 4) : 1 ≤ 2 ^ n ∧ 2 ^ n ≤ 16 := by
  rcases (by omega : n = 0 ∨ n = 1 ∨ n = 2 ∨ n = 3 ∨ n = 4) with rfl | rfl | rfl | rfl | rfl <;> decide
theorem fo_s2 {α : Type} {f : Int → α → α} {a : α} {i : Int} (h : 0 ≤ i) : fo f a (i + 1).toNat = f i (fo f a i.toNat) := fo_s h
set_option maxRecDepth 100000 in
set_option maxHeartbeats 4000000 in
theorem lp_X10_cold {g : zt_G} {M : zm_M} {σ : Sg} {q : Int → zm_M → Prop} (hR : RX σ M) (hW : SW σ) {t m x u : Int} (ht : cHas (sC σ) t) (hm : 0 ≤ m ∧ m ≤ 6) (hx : 0 ≤ x ∧ x ≤ 10) (hu : zi u) (h : ∀ M2, frX M M2 → RX σ M2 → q (aCold t m x u (sL σ) (sC σ)) M2) : ∀ (nn : Nat) (a b k : Int) (x8 : Option zv_A) (Mx : zm_M), ((2 ^ (sL σ).1.toNat : Nat) - k).toNat = nn → 0 ≤ k → k ≤ ((2 ^ (sL σ).1.toNat : Nat) : Int) → (a, b) = cdP (sL σ) (sC σ) t m x k.toNat → (∀ (k : Nat) (i : Int), (k < 22 ∨ 26 < k) → Mx k i = M k i) → zc_Z g mX10_cold 45 [some (zv_r 0), some (zv_i t), some (zv_i m), some (zv_i x), some (zv_i u), some (zv_i a), some (zv_i b), some (zv_i k), x8] [] Mx (zq_I q) := by
  intro nn
  induction nn using Nat.strongRecOn with
  | ind nn ih =>
    intro a b k x8 Mx hnn h0 h1 hab hfr
    obtain ⟨hT, hl, hcv, hA, hK, hS, hD⟩ := id hR
    obtain ⟨wT, wTx, wL, ⟨wC, wZ⟩, wA, wK, wS⟩ := id hW
    have hLw : LW (lvX M 13) := by rw [hl]; exact wL
    have hCw : CW (cvX M 17) := by rw [hcv]; exact wC
    have hw0 := wXt hCw
    have hL0 := yXk hLw
    have hk1 : M 13 3 = (sL σ).1 := by rw [← hl]; rfl
    have ht1 : M 17 5 = ct (sC σ) := by rw [← hcv]; rfl
    have hT1 := hT.1
    have hLx : lvX Mx 13 = sL σ := by rw [lvX_fr (fun k i a b => hfr k i (by omega)), hl]
    have hLwx : LW (lvX Mx 13) := by rw [hLx]; exact wL
    have hk4 := wL.1
    have hp2 := p2 (n := (sL σ).1.toNat) (by omega)
    have hp10 := p10 (n := (sL σ).1.toNat) (by omega)
    have hsh : zb_shl 1 (Mx 13 3) = ((2 ^ (sL σ).1.toNat : Nat) : Int) := by
      have e9 : Mx 13 3 = (((sL σ).1.toNat : Nat) : Int) := by
        rw [hfr 13 3 (by decide)]
        omega
      rw [e9]
      exact sh1 _ (by omega)
    have hcx : cvX Mx 17 = sC σ := by rw [cvX_fr (fun k i a b => hfr k i (by omega)), hcv]
    have hCx : CW (cvX Mx 17) := by rw [hcx]; exact wC
    have hi1 := cdP_in (L := sL σ) (C := sC σ) (t := t) (m := m) hx k.toNat
    have hi2 := cdP_m (L := sL σ) (C := sC σ) (t := t) (m := m) hx (2 ^ (sL σ).1.toNat - k.toNat) k.toNat
    rw [show k.toNat + (2 ^ (sL σ).1.toNat - k.toNat) = 2 ^ (sL σ).1.toNat by omega, cd_all wL hx] at hi2
    rw [← hab] at hi1 hi2
    dsimp only at hi1 hi2
    refine zr_iload (pc := 45) dX10_cold_45 rfl ?_
    refine zr_iconst (pc := 47) dX10_cold_47 ?_
    refine zr_aload_n (pc := 48) dX10_cold_48 rfl rfl ?_
    refine zr_getR (pc := 49) fX10_26 lo_0 rfl rfl dX10_cold_49 ?_
    refine zr_getI (pc := 52) (z := 3) fX10_111 lo_13 rfl rfl rfl dX10_cold_52 ?_
    refine zr_ishl (pc := 55) dX10_cold_55 ?_
    rw [hsh]
    refine zi_icmp_ge (pc := 56) (tgt := 131) dX10_cold_56 (by decide) (by omega) (by omega) (fun h56 => ?_) (fun h56 => ?_)
    · have hke : k.toNat = 2 ^ (sL σ).1.toNat := by omega
      have hb10 : b = ((10 ^ (sL σ).1.toNat : Nat) : Int) := by
        rw [← cd_all (C := sC σ) (t := t) (m := m) wL hx, ← hke, ← hab]
      refine zr_iload (pc := 131) dX10_cold_131 rfl ?_
      refine zr_iload (pc := 133) dX10_cold_133 rfl ?_
      refine zr_iload (pc := 135) dX10_cold_135 rfl ?_
      refine zr_stat3I (pc := 137) rfl sX10_270 rfl rfl dX10_cold_137 ?_
      refine ct_X10_fractionPart (by omega) (by omega) hu ?_
      exact zr_ireturn (pc := 140) dX10_cold_140 rfl (zq_eq (h Mx (fun k i a => hfr k i (by omega)) (RX_frs hR (fun k i a b => hfr k i (by unfold zsc at b; omega)))) (by
          unfold aCold
          rw [if_neg (fun y => y ht), if_neg (by omega), ← hke, ← hab]))
    · refine zr_aload_n (pc := 59) dX10_cold_59 rfl rfl ?_
      refine zr_getR (pc := 60) fX10_26 lo_0 rfl rfl dX10_cold_60 ?_
      refine zr_iload (pc := 63) dX10_cold_63 rfl ?_
      refine zr_iload_n (pc := 65) dX10_cold_65 rfl rfl ?_
      refine zr_inv2I (pc := 66) rfl sX10_280 lo_13 rfl rfl rfl dX10_cold_66 ?_
      refine ct_X3_weightOf zp_l13 hLwx (by omega) ?_
      rw [hLx]
      have hwg := wgK_in (n := (sL σ).1.toNat) (cold := k) hx
      rw [← wgt_K] at hwg
      refine zr_istore (pc := 69) dX10_cold_69 (Nat.le_of_ble_eq_true rfl) rfl ?_
      refine zr_aload_n (pc := 71) dX10_cold_71 rfl rfl ?_
      refine zr_getR (pc := 72) fX10_37 lo_0 rfl rfl dX10_cold_72 ?_
      refine zr_aload_n (pc := 75) dX10_cold_75 rfl rfl ?_
      refine zr_getR (pc := 76) fX10_33 lo_0 rfl rfl dX10_cold_76 ?_
      refine zr_inv1V (pc := 79) rfl sX10_104 lo_22 rfl rfl rfl dX10_cold_79 ?_
      refine ct_X1_copyFrom zp_c22 zp_c17 (Or.inl (by decide)) hCx (fun M1 hf1 hv1 => ?_)
      rw [hcx] at hv1
      have hl1 : lvX M1 13 = sL σ := by rw [lvX_fr (fun k i a b => hf1 k i (by omega)), hLx]
      have hlw1 : LW (lvX M1 13) := by rw [hl1]; exact wL
      have hcw1 : CW (cvX M1 22) := by rw [hv1]; exact wC
      refine zr_aload_n (pc := 82) dX10_cold_82 rfl rfl ?_
      refine zr_getR (pc := 83) fX10_37 lo_0 rfl rfl dX10_cold_83 ?_
      refine zr_aload_n (pc := 86) dX10_cold_86 rfl rfl ?_
      refine zr_getR (pc := 87) fX10_26 lo_0 rfl rfl dX10_cold_87 ?_
      refine zr_iload (pc := 90) dX10_cold_90 rfl ?_
      refine zr_inv2V (pc := 92) rfl sX10_167 lo_22 rfl rfl rfl dX10_cold_92 ?_
      refine ct_X1_passNight zp_c22 zp_l13 (Or.inl (by decide)) hcw1 hlw1 (by omega) (fun M2 hf2 hv2 => ?_)
      rw [hl1, hv1] at hv2
      have hcw2 : CW (cvX M2 22) := by rw [hv2]; exact CW_nit wL wC
      have ht2 : 0 ≤ t ∧ t < M2 22 5 := by
        have e9 : M2 22 5 = ct (sC σ) := by
          rw [← nit_ct (L := sL σ) (cold := k) (C := sC σ), ← hv2]
          rfl
        rw [e9]
        exact ht
      have hc22 : 0 ≤ M2 22 5 ∧ M2 22 5 ≤ 4 := wXt hcw2
      have hy : (0 ≤ M2 23 t ∧ M2 23 t ≤ 9) ∧ (0 ≤ M2 24 t ∧ M2 24 t ≤ 3) ∧ (0 ≤ M2 25 t ∧ M2 25 t < 64) ∧ (0 ≤ M2 26 t ∧ M2 26 t ≤ 9) := wX hcw2 ht2
      have en : cn (nit (sL σ) k (sC σ)) t = M2 25 t := by rw [← hv2]; exact vX_n ht2
      have hon := on6_i hy.2.2.1
      refine zr_aload_n (pc := 95) dX10_cold_95 rfl rfl ?_
      refine zr_getR (pc := 96) fX10_37 lo_0 rfl rfl dX10_cold_96 ?_
      refine zr_getR (pc := 99) fX10_143 lo_22 rfl rfl dX10_cold_99 ?_
      refine zr_iload_n (pc := 102) dX10_cold_102 rfl rfl ?_
      refine zr_iaload (pc := 103) lo_25 (by omega) dX10_cold_103 ?_
      refine zr_stat1I (pc := 104) rfl sX10_175 rfl rfl dX10_cold_104 ?_
      refine ct_bitCount hy.2.2.1 ?_
      refine zr_iload_n (pc := 107) dX10_cold_107 rfl rfl ?_
      refine zi_icmp_lt (pc := 108) (tgt := 118) dX10_cold_108 (by decide) (by omega) (by omega) (fun h108 => ?_) (fun h108 => ?_)
      · refine zr_iload (pc := 118) dX10_cold_118 rfl ?_
        refine zr_iload (pc := 120) dX10_cold_120 rfl ?_
        refine zr_iadd (pc := 122) dX10_cold_122 ?_
        refine zr_istore (pc := 123) dX10_cold_123 (Nat.le_of_ble_eq_true rfl) rfl ?_
        refine zr_iinc (pc := 125) dX10_cold_125 rfl (Nat.le_of_ble_eq_true rfl) rfl ?_
        refine zr_goto (pc := 128) (tgt := 45) dX10_cold_128 (by decide) ?_
        exact ih _ (by omega) _ _ _ _ _ rfl (by omega) (by omega) (by unfold cdP; rw [fo_s2 h0]; show _ = cdF _ _ _ _ _ _ (cdP (sL σ) (sC σ) t m x k.toNat); rw [← hab]; unfold cdF; dsimp only; rw [en, if_neg (by omega)]) (fun k i a => by rw [hf2 k i a, hf1 k i a, hfr k i a])
      · refine zr_iload (pc := 111) dX10_cold_111 rfl ?_
        refine zr_iload (pc := 113) dX10_cold_113 rfl ?_
        refine zr_iadd (pc := 115) dX10_cold_115 ?_
        refine zr_istore (pc := 116) dX10_cold_116 (Nat.le_of_ble_eq_true rfl) rfl ?_
        refine zr_iload (pc := 118) dX10_cold_118 rfl ?_
        refine zr_iload (pc := 120) dX10_cold_120 rfl ?_
        refine zr_iadd (pc := 122) dX10_cold_122 ?_
        refine zr_istore (pc := 123) dX10_cold_123 (Nat.le_of_ble_eq_true rfl) rfl ?_
        refine zr_iinc (pc := 125) dX10_cold_125 rfl (Nat.le_of_ble_eq_true rfl) rfl ?_
        refine zr_goto (pc := 128) (tgt := 45) dX10_cold_128 (by decide) ?_
        exact ih _ (by omega) _ _ _ _ _ rfl (by omega) (by omega) (by unfold cdP; rw [fo_s2 h0]; show _ = cdF _ _ _ _ _ _ (cdP (sL σ) (sC σ) t m x k.toNat); rw [← hab]; unfold cdF; dsimp only; rw [en, if_pos h108]) (fun k i a => by rw [hf2 k i a, hf1 k i a, hfr k i a])

set_option maxRecDepth 100000 in
set_option maxHeartbeats 4000000 in
theorem ct_X10_cold {g : zt_G} {M : zm_M} {σ : Sg} {q : Int → zm_M → Prop} (hR : RX σ M) (hW : SW σ) {t m x u : Int} (ht : zi t) (hm : zi m) (hx : zi x) (hu : zi u) (h : ∀ M2, frX M M2 → RX σ M2 → q (aCold t m x u (sL σ) (sC σ)) M2) : zc_K g yX10_cold mX10_cold [zv_r 0, zv_i t, zv_i m, zv_i x, zv_i u] M (zq_I q) := by
  refine zc_of (ls := [some (zv_r 0), some (zv_i t), some (zv_i m), some (zv_i x), some (zv_i u), none, none, none, none]) (by decide) rfl ⟨rfl, rfl⟩ (Nat.le_of_ble_eq_true rfl) rfl ?_
  obtain ⟨hT, hl, hcv, hA, hK, hS, hD⟩ := id hR
  obtain ⟨wT, wTx, wL, ⟨wC, wZ⟩, wA, wK, wS⟩ := id hW
  have hLw : LW (lvX M 13) := by rw [hl]; exact wL
  have hCw : CW (cvX M 17) := by rw [hcv]; exact wC
  have hw0 := wXt hCw
  have hL0 := yXk hLw
  have hk1 : M 13 3 = (sL σ).1 := by rw [← hl]; rfl
  have ht1 : M 17 5 = ct (sC σ) := by rw [← hcv]; rfl
  have hT1 := hT.1
  refine zr_aload_n (pc := 0) dX10_cold_0 rfl rfl ?_
  refine zr_getR (pc := 1) fX10_33 lo_0 rfl rfl dX10_cold_1 ?_
  refine zr_iload_n (pc := 4) dX10_cold_4 rfl rfl ?_
  refine zr_inv1I (pc := 5) rfl sX10_138 lo_17 rfl rfl rfl dX10_cold_5 ?_
  refine ct_X1_has zp_c17 hCw ht ?_
  rw [hcv]
  refine zr_ifb_ne (pc := 8) (tgt := 13) dX10_cold_8 (by decide) (fun h8 => ?_) (fun h8 => ?_)
  · refine zr_iload_n (pc := 13) dX10_cold_13 rfl rfl ?_
    refine zi_if_lt (pc := 14) (tgt := 33) dX10_cold_14 (by decide) (by omega) (fun h14 => ?_) (fun h14 => ?_)
    · refine zr_bipush (pc := 33) dX10_cold_33 (by decide) ?_
      exact zr_ireturn (pc := 35) dX10_cold_35 rfl (zq_eq (h M (fun _ _ _ => rfl) hR) (by unfold aCold; rw [if_neg (fun y => y h8), if_pos (by omega)]))
    · refine zr_iload_n (pc := 17) dX10_cold_17 rfl rfl ?_
      refine zr_bipush (pc := 18) dX10_cold_18 (by decide) ?_
      refine zi_icmp_gt (pc := 20) (tgt := 33) dX10_cold_20 (by decide) (by omega) (by omega) (fun h20 => ?_) (fun h20 => ?_)
      · refine zr_bipush (pc := 33) dX10_cold_33 (by decide) ?_
        exact zr_ireturn (pc := 35) dX10_cold_35 rfl (zq_eq (h M (fun _ _ _ => rfl) hR) (by unfold aCold; rw [if_neg (fun y => y h8), if_pos (by omega)]))
      · refine zr_iload_n (pc := 23) dX10_cold_23 rfl rfl ?_
        refine zi_if_lt (pc := 24) (tgt := 33) dX10_cold_24 (by decide) (by omega) (fun h24 => ?_) (fun h24 => ?_)
        · refine zr_bipush (pc := 33) dX10_cold_33 (by decide) ?_
          exact zr_ireturn (pc := 35) dX10_cold_35 rfl (zq_eq (h M (fun _ _ _ => rfl) hR) (by unfold aCold; rw [if_neg (fun y => y h8), if_pos (by omega)]))
        · refine zr_iload_n (pc := 27) dX10_cold_27 rfl rfl ?_
          refine zr_bipush (pc := 28) dX10_cold_28 (by decide) ?_
          refine zi_icmp_le (pc := 30) (tgt := 36) dX10_cold_30 (by decide) (by omega) (by omega) (fun h30 => ?_) (fun h30 => ?_)
          · refine zr_iconst (pc := 36) dX10_cold_36 ?_
            refine zr_istore (pc := 37) dX10_cold_37 (Nat.le_of_ble_eq_true rfl) rfl ?_
            refine zr_iconst (pc := 39) dX10_cold_39 ?_
            refine zr_istore (pc := 40) dX10_cold_40 (Nat.le_of_ble_eq_true rfl) rfl ?_
            refine zr_iconst (pc := 42) dX10_cold_42 ?_
            refine zr_istore (pc := 43) dX10_cold_43 (Nat.le_of_ble_eq_true rfl) rfl ?_
            exact lp_X10_cold (g := g) hR hW h8 (by omega) (by omega) hu h _ _ _ _ _ M rfl (by omega) (by have := p2 (n := (sL σ).1.toNat) (by have := wL.1; omega); omega) rfl (fun _ _ _ => rfl)
          · refine zr_bipush (pc := 33) dX10_cold_33 (by decide) ?_
            exact zr_ireturn (pc := 35) dX10_cold_35 rfl (zq_eq (h M (fun _ _ _ => rfl) hR) (by unfold aCold; rw [if_neg (fun y => y h8), if_pos (by omega)]))
  · refine zr_iconst (pc := 11) dX10_cold_11 ?_
    exact zr_ireturn (pc := 12) dX10_cold_12 rfl (zq_eq (h M (fun _ _ _ => rfl) hR) (by unfold aCold; rw [if_pos h8]))

