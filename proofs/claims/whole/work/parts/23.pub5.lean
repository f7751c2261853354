/-! years -/
theorem zx_zx (a : Int) : zx (zx a) = zx a := by unfold zx; omega
theorem zx_of {a b : Int} (h : zx a = zx b) : Int64.ofInt a = Int64.ofInt b := (zx_ee a b).mpr h
theorem ush_c {a b s : Int} (h : zx a = zx b) : zl_ushr a s = zl_ushr b s := by
  unfold zl_ushr
  rw [zx_of h]
theorem ush_in (a : Int) : 0 ≤ zl_ushr a 33 ∧ zl_ushr a 33 < 2147483648 := by
  unfold zl_ushr
  have e : (Int32.ofInt 33).toInt64.toUInt64 &&& Int64.toUInt64 63 = 33 := by decide +kernel
  rw [e]
  generalize (Int64.ofInt a).toUInt64 = u
  have h1 : (u >>> 33).toNat < 2147483648 := by
    rw [UInt64.toNat_shiftRight]
    have h2 := u.toNat_lt
    rw [show (33 : UInt64).toNat % 64 = 33 from rfl, Nat.shiftRight_eq_div_pow]
    omega
  generalize u >>> 33 = v at h1
  show 0 ≤ v.toBitVec.toInt ∧ v.toBitVec.toInt < 2147483648
  have h3 : v.toBitVec.toNat < 2147483648 := h1
  rw [BitVec.toInt_eq_toNat_of_lt (by omega)]
  omega
def sdN (s : Int) : Int := zx (s * 6364136223846793005 + 1442695040888963407)
def yrD (s : Int) : Int := zl_ushr s 33 % 64
theorem sd_c {a s : Int} (h : zx a = s) : zx (a * 6364136223846793005 + 1442695040888963407) = sdN s := by
  unfold sdN
  rw [← zx_eq, ← zx_eq, Int64.ofInt_add, Int64.ofInt_add, Int64.ofInt_mul, Int64.ofInt_mul, zx_of (a := a) (b := s) (by rw [← h, zx_zx])]
def yrL (L : Ln) : Nat → Int → Cm → Int → Int × Int
  | 0, s, _, u => (u, s)
  | n + 1, s, D, u => yrL L n (sdN s) (doY L (yrD (sdN s)) D) (u + allN (doY L (yrD (sdN s)) D))
def oYears (m : Int) (σ : Sg) : Int × Sg := if m < 1 ∨ 30 < m then (-2, σ) else ((yrL (sL σ) m.toNat (sD σ) (sC σ) 0).1, (sT σ, sL σ, sC σ, sA σ, sK σ, sS σ, (yrL (sL σ) m.toNat (sD σ) (sC σ) 0).2))
theorem yrL_s (L : Ln) (n : Nat) (s : Int) (D : Cm) (u : Int) : yrL L (n + 1) s D u = yrL L n (sdN s) (doY L (yrD (sdN s)) D) (u + allN (doY L (yrD (sdN s)) D)) := rfl
theorem RX_D {σ : Sg} {M M2 : zm_M} {s : Int} (h : RX σ M) (hfr : ∀ (k : Nat) (i : Int), k < 46 → ¬ zsc k → k ≠ 0 → M2 k i = M k i) (hs : zx (M2 0 11) = s) : RX (sT σ, sL σ, sC σ, sA σ, sK σ, sS σ, s) M2 := by
  obtain ⟨h1, h2, h3, h4, h5, h6, h7⟩ := h
  refine ⟨⟨?_, fun i a b => ?_⟩, ?_, ?_, ⟨?_, fun j a b => ?_⟩, fun s a b => ?_, ⟨?_, ?_, ?_⟩, hs⟩
  · rw [hfr 1 1 (by decide) (by unfold zsc; omega) (by decide)]
    exact h1.1
  · rw [hfr 2 i (by decide) (by unfold zsc; omega) (by decide)]
    exact h1.2 i a b
  · rw [lvX_fr (fun k i a b => hfr k i (by omega) (by unfold zsc; omega) (by omega))]
    exact h2
  · rw [cvX_fr (fun k i a b => hfr k i (by omega) (by unfold zsc; omega) (by omega))]
    exact h3
  · rw [hfr 27 2 (by decide) (by unfold zsc; omega) (by decide)]
    exact h4.1
  · rw [hfr 28 j (by decide) (by unfold zsc; omega) (by decide), hfr 29 j (by decide) (by unfold zsc; omega) (by decide)]
    exact h4.2 j a b
  · rw [hfr 33 s (by decide) (by unfold zsc; omega) (by decide), hfr 31 s (by decide) (by unfold zsc; omega) (by decide), hfr 32 s (by decide) (by unfold zsc; omega) (by decide)]
    exact h5 s a b
  · rw [hfr 42 2 (by decide) (by unfold zsc; omega) (by decide)]
    exact h6.1
  · rw [hfr 42 0 (by decide) (by unfold zsc; omega) (by decide)]
    exact h6.2.1
  · rw [hfr 42 1 (by decide) (by unfold zsc; omega) (by decide)]
    exact h6.2.2
set_option maxRecDepth 100000 in
set_option maxHeartbeats 4000000 in
theorem ct_X10_passYear {g : zt_G} {M : zm_M} {q : zm_M → Prop} (hC : CW (cvX M 22)) (hL : LW (lvX M 13)) {d : Int} (hd : 0 ≤ d ∧ d < 64) (h : ∀ M2, frC 22 M M2 → cvX M2 22 = doY (lvX M 13) d (cvX M 22) → q M2) : zc_K g yX10_passYear mX10_passYear [zv_r 0, zv_i d] M (zq_V q) := by
  refine zc_of (ls := [some (zv_r 0), some (zv_i d)]) (by decide) rfl ⟨rfl, rfl⟩ (Nat.le_of_ble_eq_true rfl) rfl ?_
  refine zr_iload_n (pc := 0) dX10_passYear_0 rfl rfl ?_
  refine zr_bipush (pc := 1) dX10_passYear_1 (by decide) ?_
  refine zi_icmp_ge (pc := 3) (tgt := 25) dX10_passYear_3 (by decide) (by omega) (by omega) (fun h3 => ?_) (fun h3 => ?_)
  · refine zr_iload_n (pc := 25) dX10_passYear_25 rfl rfl ?_
    refine zr_bipush (pc := 26) dX10_passYear_26 (by decide) ?_
    refine zi_icmp_ge (pc := 28) (tgt := 46) dX10_passYear_28 (by decide) (by omega) (by omega) (fun h28 => ?_) (fun h28 => ?_)
    · refine zr_iload_n (pc := 46) dX10_passYear_46 rfl rfl ?_
      refine zr_bipush (pc := 47) dX10_passYear_47 (by decide) ?_
      refine zi_icmp_ge (pc := 49) (tgt := 75) dX10_passYear_49 (by decide) (by omega) (by omega) (fun h49 => ?_) (fun h49 => ?_)
      · refine zr_aload_n (pc := 75) dX10_passYear_75 rfl rfl ?_
        refine zr_getR (pc := 76) fX10_37 lo_0 rfl rfl dX10_passYear_76 ?_
        refine zr_aload_n (pc := 79) dX10_passYear_79 rfl rfl ?_
        refine zr_getR (pc := 80) fX10_26 lo_0 rfl rfl dX10_passYear_80 ?_
        refine zr_iconst (pc := 83) dX10_passYear_83 ?_
        refine zr_inv2V (pc := 84) rfl sX10_167 lo_22 rfl rfl rfl dX10_passYear_84 ?_
        refine ct_X1_passNight zp_c22 zp_l13 (Or.inl (by decide)) hC hL ⟨by decide, by decide⟩ (fun M2 hf2 hv2 => ?_)
        exact zr_return (pc := 87) dX10_passYear_87 rfl (h _ hf2 (by unfold doY; rw [if_neg (by omega), if_neg (by omega), if_neg (by omega), hv2]))
      · refine zr_aload_n (pc := 52) dX10_passYear_52 rfl rfl ?_
        refine zr_getR (pc := 53) fX10_37 lo_0 rfl rfl dX10_passYear_53 ?_
        refine zr_iload_n (pc := 56) dX10_passYear_56 rfl rfl ?_
        refine zr_bipush (pc := 57) dX10_passYear_57 (by decide) ?_
        refine zr_isub (pc := 59) dX10_passYear_59 ?_
        refine zr_iload_n (pc := 60) dX10_passYear_60 rfl rfl ?_
        refine zr_bipush (pc := 61) dX10_passYear_61 (by decide) ?_
        refine zr_isub (pc := 63) dX10_passYear_63 ?_
        refine zr_iconst (pc := 64) dX10_passYear_64 ?_
        refine zr_iadd (pc := 65) dX10_passYear_65 ?_
        refine zr_iconst (pc := 66) dX10_passYear_66 ?_
        refine zr_irem (pc := 67) (by omega) (by omega) dX10_passYear_67 ?_
        refine zr_inv2I (pc := 68) rfl sX10_246 lo_22 rfl rfl rfl dX10_passYear_68 ?_
        refine ct_X1_hearsIfItMay zp_c22 hC (by omega) (by omega) (fun hz => ?_) (fun hz M2 hf2 hv2 => ?_)
        · refine zr_pop_i (pc := 71) dX10_passYear_71 ?_
          refine zr_goto (pc := 72) (tgt := 87) dX10_passYear_72 (by decide) ?_
          exact zr_return (pc := 87) dX10_passYear_87 rfl (h _ frC.rf (by unfold doY; rw [if_neg (by omega), if_neg (by omega), if_pos h49, if_neg hz]))
        · refine zr_pop_i (pc := 71) dX10_passYear_71 ?_
          refine zr_goto (pc := 72) (tgt := 87) dX10_passYear_72 (by decide) ?_
          exact zr_return (pc := 87) dX10_passYear_87 rfl (h _ hf2 (by unfold doY; rw [if_neg (by omega), if_neg (by omega), if_pos h49, if_pos hz, hv2]))
    · refine zr_aload_n (pc := 31) dX10_passYear_31 rfl rfl ?_
      refine zr_getR (pc := 32) fX10_37 lo_0 rfl rfl dX10_passYear_32 ?_
      refine zr_iload_n (pc := 35) dX10_passYear_35 rfl rfl ?_
      refine zr_bipush (pc := 36) dX10_passYear_36 (by decide) ?_
      refine zr_isub (pc := 38) dX10_passYear_38 ?_
      refine zr_inv1I (pc := 39) rfl sX10_249 lo_22 rfl rfl rfl dX10_passYear_39 ?_
      refine ct_X1_bathesIfItMay zp_c22 hC (by omega) (fun hz => ?_) (fun hz M2 hf2 hv2 => ?_)
      · refine zr_pop_i (pc := 42) dX10_passYear_42 ?_
        refine zr_goto (pc := 43) (tgt := 87) dX10_passYear_43 (by decide) ?_
        exact zr_return (pc := 87) dX10_passYear_87 rfl (h _ frC.rf (by unfold doY; rw [if_neg (by omega), if_pos h28, if_neg hz]))
      · refine zr_pop_i (pc := 42) dX10_passYear_42 ?_
        refine zr_goto (pc := 43) (tgt := 87) dX10_passYear_43 (by decide) ?_
        exact zr_return (pc := 87) dX10_passYear_87 rfl (h _ hf2 (by unfold doY; rw [if_neg (by omega), if_pos h28, if_pos hz, hv2]))
  · refine zr_aload_n (pc := 6) dX10_passYear_6 rfl rfl ?_
    refine zr_getR (pc := 7) fX10_37 lo_0 rfl rfl dX10_passYear_7 ?_
    refine zr_iload_n (pc := 10) dX10_passYear_10 rfl rfl ?_
    refine zr_bipush (pc := 11) dX10_passYear_11 (by decide) ?_
    refine zr_idiv (pc := 13) (by omega) (by omega) dX10_passYear_13 ?_
    refine zr_iload_n (pc := 14) dX10_passYear_14 rfl rfl ?_
    refine zr_bipush (pc := 15) dX10_passYear_15 (by decide) ?_
    refine zr_irem (pc := 17) (by omega) (by omega) dX10_passYear_17 ?_
    refine zr_inv2I (pc := 18) rfl sX10_243 lo_22 rfl rfl rfl dX10_passYear_18 ?_
    refine ct_X1_goesIfItMay zp_c22 hC (by omega) (by omega) (fun hz => ?_) (fun hz M2 hf2 hv2 => ?_)
    · refine zr_pop_i (pc := 21) dX10_passYear_21 ?_
      refine zr_goto (pc := 22) (tgt := 87) dX10_passYear_22 (by decide) ?_
      exact zr_return (pc := 87) dX10_passYear_87 rfl (h _ frC.rf (by unfold doY; rw [if_pos h3, if_neg hz]))
    · refine zr_pop_i (pc := 21) dX10_passYear_21 ?_
      refine zr_goto (pc := 22) (tgt := 87) dX10_passYear_22 (by decide) ?_
      exact zr_return (pc := 87) dX10_passYear_87 rfl (h _ hf2 (by unfold doY; rw [if_pos h3, if_pos hz, hv2]))

set_option maxRecDepth 100000 in
set_option maxHeartbeats 4000000 in
theorem lp_X10_years {g : zt_G} {M : zm_M} {σ : Sg} {q : Int → zm_M → Prop} (hR : RX σ M) (hW : SW σ) {m : Int} (hm : 1 ≤ m ∧ m ≤ 30) (h : ∀ M2, frX M M2 → RX (oYears m σ).2 M2 → q (oYears m σ).1 M2) : ∀ (nn : Nat) (u k : Int) (Mx : zm_M), (m - k).toNat = nn → 0 ≤ k → k ≤ m → (∀ (k : Nat) (i : Int), k ≠ 0 → (k < 22 ∨ 26 < k) → Mx k i = M k i) → CW (cvX Mx 22) → yrL (sL σ) (m - k).toNat (zx (Mx 0 11)) (cvX Mx 22) u = yrL (sL σ) m.toNat (sD σ) (sC σ) 0 → zc_Z g mX10_years 29 [some (zv_r 0), some (zv_i m), some (zv_i u), some (zv_i k)] [] Mx (zq_I q) := by
  intro nn
  induction nn using Nat.strongRecOn with
  | ind nn ih =>
    intro u k Mx hnn h0 h1 hfr hCx hY
    obtain ⟨hT, hl, hcv, hA, hK, hS, hD⟩ := id hR
    obtain ⟨wT, wTx, wL, ⟨wC, wZ⟩, wA, wK, wS⟩ := id hW
    have hLw : LW (lvX M 13) := by rw [hl]; exact wL
    have hCw : CW (cvX M 17) := by rw [hcv]; exact wC
    have hw0 := wXt hCw
    have hL0 := yXk hLw
    have hk1 : M 13 3 = (sL σ).1 := by rw [← hl]; rfl
    have ht1 : M 17 5 = ct (sC σ) := by rw [← hcv]; rfl
    have hT1 := hT.1
    have hLx : lvX Mx 13 = sL σ := by rw [lvX_fr (fun k i a b => hfr k i (by omega) (by omega)), hl]
    have hLwx : LW (lvX Mx 13) := by rw [hLx]; exact wL
    refine zr_iload_n (pc := 29) dX10_years_29 rfl rfl ?_
    refine zr_iload_n (pc := 30) dX10_years_30 rfl rfl ?_
    refine zi_icmp_ge (pc := 31) (tgt := 82) dX10_years_31 (by decide) (by omega) (by omega) (fun h31 => ?_) (fun h31 => ?_)
    · refine zr_iload_n (pc := 82) dX10_years_82 rfl rfl ?_
      exact zr_ireturn (pc := 83) dX10_years_83 rfl (zq_eq (h Mx (fun k i a => hfr k i (by omega) (by omega)) (by
          unfold oYears
          rw [if_neg (by omega), ← hY, show (m - k).toNat = 0 by omega]
          exact RX_D hR (fun k i a b c => hfr k i c (by unfold zsc at b; omega)) rfl)) (by unfold oYears; rw [if_neg (by omega), ← hY, show (m - k).toNat = 0 by omega]; rfl))
    · rw [show (m - k).toNat = (m - (k + 1)).toNat + 1 by omega, yrL_s] at hY
      obtain ⟨v, ev⟩ : ∃ v, v = Mx 0 11 * 6364136223846793005 + 1442695040888963407 := ⟨_, rfl⟩
      have hsd : zx v = sdN (zx (Mx 0 11)) := by rw [ev]; exact sd_c rfl
      have hus := ush_in v
      have hyd : zl_ushr v 33 % 64 = yrD (sdN (zx (Mx 0 11))) := by
        unfold yrD
        rw [ush_c (b := sdN (zx (Mx 0 11))) (by rw [hsd]; unfold sdN; rw [zx_zx])]
      have hcx1 : cvX (zm_put Mx 0 11 v) 22 = cvX Mx 22 := cvX_fr (fun k i a b => put_nk _ _ _ _ (by omega))
      have hlx1 : lvX (zm_put Mx 0 11 v) 13 = lvX Mx 13 := lvX_fr (fun k i a b => put_nk _ _ _ _ (by omega))
      refine zr_aload_n (pc := 34) dX10_years_34 rfl rfl ?_
      refine zr_aload_n (pc := 35) dX10_years_35 rfl rfl ?_
      refine zr_getL (pc := 36) (z := 11) fX10_82 lo_0 rfl rfl rfl dX10_years_36 ?_
      refine zr_ldc2 (pc := 39) (z := 6364136223846793005) rfl kX10_284 (by decide +kernel) dX10_years_39 ?_
      refine zr_lmul (pc := 42) dX10_years_42 ?_
      refine zr_ldc2 (pc := 43) (z := 1442695040888963407) rfl kX10_286 (by decide +kernel) dX10_years_43 ?_
      refine zr_ladd (pc := 46) dX10_years_46 ?_
      rw [← ev]
      refine zr_putL (pc := 47) (z := 11) fX10_82 lo_0 rfl fwX10_11 rfl rfl dX10_years_47 ?_
      refine zr_aload_n (pc := 50) dX10_years_50 rfl rfl ?_
      refine zr_aload_n (pc := 51) dX10_years_51 rfl rfl ?_
      refine zr_getL (pc := 52) (z := 11) fX10_82 lo_0 rfl rfl rfl dX10_years_52 ?_
      rw [put_at]
      refine zr_bipush (pc := 55) dX10_years_55 (by decide) ?_
      refine zr_lushr (pc := 57) dX10_years_57 ?_
      refine zr_ldc2 (pc := 58) (z := 64) rfl kX10_288 (by decide +kernel) dX10_years_58 ?_
      refine zr_lrem (pc := 61) (by omega) (by omega) dX10_years_61 ?_
      refine zr_l2i (pc := 62) dX10_years_62 ?_
      rw [hyd]
      refine zr_inv1V (pc := 63) rfl sX10_290 lo_0 rfl rfl rfl dX10_years_63 ?_
      refine ct_X10_passYear (by rw [hcx1]; exact hCx) (by rw [hlx1]; exact hLwx) (by omega) (fun M2 hf2 hv2 => ?_)
      rw [hcx1, hlx1, hLx] at hv2
      have hdo := CW_doY (d := yrD (sdN (zx (Mx 0 11)))) wL hCx
      have hcw2 : CW (cvX M2 22) := by rw [hv2]; exact hdo.1
      refine zr_iload_n (pc := 66) dX10_years_66 rfl rfl ?_
      refine zr_aload_n (pc := 67) dX10_years_67 rfl rfl ?_
      refine zr_getR (pc := 68) fX10_37 lo_0 rfl rfl dX10_years_68 ?_
      refine zr_inv0I (pc := 71) rfl sX10_293 lo_22 rfl rfl rfl dX10_years_71 ?_
      refine ct_X1_allThatIsKnown zp_c22 hcw2 ?_
      refine zr_iadd (pc := 74) dX10_years_74 ?_
      refine zr_istore_n (pc := 75) dX10_years_75 rfl (Nat.le_of_ble_eq_true rfl) rfl ?_
      refine zr_iinc (pc := 76) dX10_years_76 rfl (Nat.le_of_ble_eq_true rfl) rfl ?_
      refine zr_goto (pc := 79) (tgt := 29) dX10_years_79 (by decide) ?_
      exact ih _ (by omega) _ _ _ rfl (by omega) (by omega) (fun k i a b => by rw [hf2 k i b, put_nk _ _ _ _ a, hfr k i a b]) hcw2 (by rw [hf2 0 11 (by decide), put_at, hsd, hv2]; exact hY)

set_option maxRecDepth 100000 in
set_option maxHeartbeats 4000000 in
theorem ct_X10_years {g : zt_G} {M : zm_M} {σ : Sg} {q : Int → zm_M → Prop} (hR : RX σ M) (hW : SW σ) {m : Int} (hm : zi m) (h : ∀ M2, frX M M2 → RX (oYears m σ).2 M2 → q (oYears m σ).1 M2) : zc_K g yX10_years mX10_years [zv_r 0, zv_i m] M (zq_I q) := by
  refine zc_of (ls := [some (zv_r 0), some (zv_i m), none, none]) (by decide) rfl ⟨rfl, rfl⟩ (Nat.le_of_ble_eq_true rfl) rfl ?_
  obtain ⟨hT, hl, hcv, hA, hK, hS, hD⟩ := id hR
  obtain ⟨wT, wTx, wL, ⟨wC, wZ⟩, wA, wK, wS⟩ := id hW
  have hLw : LW (lvX M 13) := by rw [hl]; exact wL
  have hCw : CW (cvX M 17) := by rw [hcv]; exact wC
  have hw0 := wXt hCw
  have hL0 := yXk hLw
  have hk1 : M 13 3 = (sL σ).1 := by rw [← hl]; rfl
  have ht1 : M 17 5 = ct (sC σ) := by rw [← hcv]; rfl
  have hT1 := hT.1
  refine zr_iload_n (pc := 0) dX10_years_0 rfl rfl ?_
  refine zr_iconst (pc := 1) dX10_years_1 ?_
  refine zi_icmp_lt (pc := 2) (tgt := 11) dX10_years_2 (by decide) (by omega) (by omega) (fun h2 => ?_) (fun h2 => ?_)
  · refine zr_bipush (pc := 11) dX10_years_11 (by decide) ?_
    exact zr_ireturn (pc := 13) dX10_years_13 rfl (zq_eq (h M (fun _ _ _ => rfl) (by unfold oYears; rw [if_pos (by omega)]; exact hR)) (by unfold oYears; rw [if_pos (by omega)]))
  · refine zr_iload_n (pc := 5) dX10_years_5 rfl rfl ?_
    refine zr_bipush (pc := 6) dX10_years_6 (by decide) ?_
    refine zi_icmp_le (pc := 8) (tgt := 14) dX10_years_8 (by decide) (by omega) (by omega) (fun h8 => ?_) (fun h8 => ?_)
    · refine zr_aload_n (pc := 14) dX10_years_14 rfl rfl ?_
      refine zr_getR (pc := 15) fX10_37 lo_0 rfl rfl dX10_years_15 ?_
      refine zr_aload_n (pc := 18) dX10_years_18 rfl rfl ?_
      refine zr_getR (pc := 19) fX10_33 lo_0 rfl rfl dX10_years_19 ?_
      refine zr_inv1V (pc := 22) rfl sX10_104 lo_22 rfl rfl rfl dX10_years_22 ?_
      refine ct_X1_copyFrom zp_c22 zp_c17 (Or.inl (by decide)) hCw (fun M1 hf1 hv1 => ?_)
      rw [hcv] at hv1
      refine zr_iconst (pc := 25) dX10_years_25 ?_
      refine zr_istore_n (pc := 26) dX10_years_26 rfl (Nat.le_of_ble_eq_true rfl) rfl ?_
      refine zr_iconst (pc := 27) dX10_years_27 ?_
      refine zr_istore_n (pc := 28) dX10_years_28 rfl (Nat.le_of_ble_eq_true rfl) rfl ?_
      exact lp_X10_years (g := g) hR hW (by omega) h _ _ _ M1 rfl (by omega) (by omega) (fun k i a b => hf1 k i b) (by rw [hv1]; exact wC) (by rw [hv1, hf1 0 11 (by decide), hD, Int.sub_zero])
    · refine zr_bipush (pc := 11) dX10_years_11 (by decide) ?_
      exact zr_ireturn (pc := 13) dX10_years_13 rfl (zq_eq (h M (fun _ _ _ => rfl) (by unfold oYears; rw [if_pos (by omega)]; exact hR)) (by unfold oYears; rw [if_pos (by omega)]))

/-! where one lay -/
def tkn (L : Ln) (g m : Int) : Int := fo (fun k b => zb_or b (zb_shl 1 (L.2.2.2 g k))) 0 (if m < L.2.2.1 g then m else L.2.2.1 g).toNat
theorem tkn_in {L : Ln} (h : LW L) (g m : Int) : 0 ≤ tkn L g m ∧ tkn L g m < 64 := by
  unfold tkn
  refine fo_p (P := fun b : Int => 0 ≤ b ∧ b < 64) ⟨by decide, by decide⟩ (fun i b _ _ hb => ?_)
  have := h.2.2 g i
  exact or6 hb ⟨this.1, by omega⟩
abbrev fitM (tk K N : Int) : Prop := zb_and tk K = K ∧ zb_and tk N = 0
def lyF (K kn nk : Int) (L : Ln) : Int → Int × Int → Int × Int := fun e p => if fitM (tkn L (e / 4 % K) (e % 4 * (e / (4 * K) + 1))) kn nk then (p.1 + 1, if p.1 = 0 then 100 * (e / (4 * K)) + 10 * (e / 4 % K) + e % 4 else p.2) else p
def lyP (kn nk : Int) (L : Ln) (n : Nat) : Int × Int := fo (lyF L.1 kn nk L) (0, -9) n
def aLay (v : Int) (kn nk : Int) (L : Ln) : Int := if ¬ (v = 0 ∨ v = 1) then -2 else if v = 0 then (lyP kn nk L (8 * L.1).toNat).1 else (lyP kn nk L (8 * L.1).toNat).2
theorem ly_ix {K c k n : Int} (hK : 1 ≤ K ∧ K ≤ 4) (hc : 0 ≤ c ∧ c ≤ 1) (hk : 0 ≤ k ∧ k < K) (hn : 0 ≤ n ∧ n ≤ 3) : ((c * K + k) * 4 + n) / (4 * K) = c ∧ ((c * K + k) * 4 + n) / 4 % K = k ∧ ((c * K + k) * 4 + n) % 4 = n := by
  rcases (by omega : K = 1 ∨ K = 2 ∨ K = 3 ∨ K = 4) with rfl | rfl | rfl | rfl <;> omega
theorem bnd_and : ∀ a : Nat, a < 64 → ∀ b : Nat, b < 64 → 0 ≤ zb_and (a : Int) (b : Int) ∧ zb_and (a : Int) (b : Int) < 64 := by
  intro a ha b hb
  rw [zb_and_n a b (by omega) (by omega)]
  have h2 := Nat.and_le_left (n := a) (m := b)
  exact ⟨Int.natCast_nonneg _, Int.ofNat_lt.mpr (Nat.lt_of_le_of_lt h2 ha)⟩
theorem aa6 {a b : Int} (ha : 0 ≤ a ∧ a < 64) (hb : 0 ≤ b ∧ b < 64) : 0 ≤ zb_and a b ∧ zb_and a b < 64 := by
  obtain ⟨a, rfl⟩ := Int.eq_ofNat_of_zero_le ha.1
  obtain ⟨b, rfl⟩ := Int.eq_ofNat_of_zero_le hb.1
  exact bnd_and a (by omega) b (by omega)
set_option maxRecDepth 100000 in
set_option maxHeartbeats 4000000 in
theorem lp_X9_takenIn {g : zt_G} {M : zm_M} {q : Int → zm_M → Prop} {l : Nat} (hl : zp_land l) (hw : LW (lvX M l)) {k m : Int} (hk : 0 ≤ k ∧ k < M l 3) (hm : 0 ≤ m ∧ m ≤ 100) (h : q (tkn (lvX M l) k m) M) : ∀ (nn : Nat) (b d : Int), (M (l + 2) k - d).toNat = nn → 0 ≤ d → d ≤ M (l + 2) k → d ≤ m → b = fo (fun j b => zb_or b (zb_shl 1 ((lvX M l).2.2.2 k j))) 0 d.toNat → zc_Z g mX9_takenIn 5 [some (zv_r l), some (zv_i k), some (zv_i m), some (zv_i b), some (zv_i d)] [] M (zq_I q) := by
  intro nn
  induction nn using Nat.strongRecOn with
  | ind nn ih =>
    intro b d hn h0 h1 h2 hb
    have hy := yX hw hk
    have hk4 := yXk hw
    have ed : (lvX M l).2.2.1 k = M (l + 2) k := lX_d hk
    refine zr_iload (pc := 5) dX9_takenIn_5 rfl ?_
    refine zr_aload_n (pc := 7) dX9_takenIn_7 rfl rfl ?_
    refine zr_getR (pc := 8) fX9_48 hl.1 rfl rfl dX9_takenIn_8 ?_
    refine zr_iload_n (pc := 11) dX9_takenIn_11 rfl rfl ?_
    refine zr_iaload (pc := 12) hl.2.2.1 (by omega) dX9_takenIn_12 ?_
    refine zi_icmp_ge (pc := 13) (tgt := 40) dX9_takenIn_13 (by decide) (by omega) (by omega) (fun h13 => ?_) (fun h13 => ?_)
    · refine zr_iload_n (pc := 40) dX9_takenIn_40 rfl rfl ?_
      exact zr_ireturn (pc := 41) dX9_takenIn_41 rfl (zq_eq h (by unfold tkn; rw [hb, ed, show (if m < M (l + 2) k then m else M (l + 2) k) = d from by split <;> omega]))
    · refine zr_iload (pc := 16) dX9_takenIn_16 rfl ?_
      refine zr_iload_n (pc := 18) dX9_takenIn_18 rfl rfl ?_
      refine zi_icmp_ge (pc := 19) (tgt := 40) dX9_takenIn_19 (by decide) (by omega) (by omega) (fun h19 => ?_) (fun h19 => ?_)
      · refine zr_iload_n (pc := 40) dX9_takenIn_40 rfl rfl ?_
        exact zr_ireturn (pc := 41) dX9_takenIn_41 rfl (zq_eq h (by unfold tkn; rw [hb, ed, show (if m < M (l + 2) k then m else M (l + 2) k) = d from by split <;> omega]))
      · refine zr_iload_n (pc := 22) dX9_takenIn_22 rfl rfl ?_
        refine zr_iconst (pc := 23) dX9_takenIn_23 ?_
        refine zr_aload_n (pc := 24) dX9_takenIn_24 rfl rfl ?_
        refine zr_iload_n (pc := 25) dX9_takenIn_25 rfl rfl ?_
        refine zr_iload (pc := 26) dX9_takenIn_26 rfl ?_
        refine zr_inv2I (pc := 28) rfl sX9_52 hl.1 rfl rfl rfl dX9_takenIn_28 ?_
        refine ct_X3_layerOf hl (by omega) (by omega) ?_
        refine zr_ishl (pc := 31) dX9_takenIn_31 ?_
        refine zr_ior (pc := 32) dX9_takenIn_32 ?_
        refine zr_istore_n (pc := 33) dX9_takenIn_33 rfl (Nat.le_of_ble_eq_true rfl) rfl ?_
        refine zr_iinc (pc := 34) dX9_takenIn_34 rfl (Nat.le_of_ble_eq_true rfl) rfl ?_
        refine zr_goto (pc := 37) (tgt := 5) dX9_takenIn_37 (by decide) ?_
        exact ih _ (by omega) _ _ rfl (by omega) (by omega) (by omega) (by rw [fo_s h0, ← hb, lX_y hk ⟨h0, by omega⟩])

set_option maxRecDepth 100000 in
set_option maxHeartbeats 4000000 in
theorem ct_X9_takenIn {g : zt_G} {M : zm_M} {q : Int → zm_M → Prop} {l : Nat} (hl : zp_land l) (hw : LW (lvX M l)) {k m : Int} (hk : 0 ≤ k ∧ k < M l 3) (hm : 0 ≤ m ∧ m ≤ 100) (h : q (tkn (lvX M l) k m) M) : zc_K g yX9_takenIn mX9_takenIn [zv_r l, zv_i k, zv_i m] M (zq_I q) := by
  refine zc_of (ls := [some (zv_r l), some (zv_i k), some (zv_i m), none, none]) (by decide) rfl ⟨rfl, rfl⟩ (Nat.le_of_ble_eq_true rfl) rfl ?_
  have hy := yX hw hk
  refine zr_iconst (pc := 0) dX9_takenIn_0 ?_
  refine zr_istore_n (pc := 1) dX9_takenIn_1 rfl (Nat.le_of_ble_eq_true rfl) rfl ?_
  refine zr_iconst (pc := 2) dX9_takenIn_2 ?_
  refine zr_istore (pc := 3) dX9_takenIn_3 (Nat.le_of_ble_eq_true rfl) rfl ?_
  exact lp_X9_takenIn hl hw hk hm h _ _ _ rfl (by omega) (by omega) (by omega) rfl

set_option maxRecDepth 100000 in
set_option maxHeartbeats 4000000 in
theorem ct_X9_fits {g : zt_G} {M : zm_M} {q : Int → zm_M → Prop} {a : Int} (ha : 0 ≤ a ∧ a < 64) (hkn : 0 ≤ M 42 0 ∧ M 42 0 < 64) (hnk : 0 ≤ M 42 1 ∧ M 42 1 < 64) (h : q (zb_B (fitM a (M 42 0) (M 42 1))) M) : zc_K g yX9_fits mX9_fits [zv_r 42, zv_i a] M (zq_I q) := by
  refine zc_of (ls := [some (zv_r 42), some (zv_i a)]) (by decide) rfl ⟨rfl, rfl⟩ (Nat.le_of_ble_eq_true rfl) rfl ?_
  have h1a := aa6 ha hkn
  have h2a := aa6 ha hnk
  refine zr_iload_n (pc := 0) dX9_fits_0 rfl rfl ?_
  refine zr_aload_n (pc := 1) dX9_fits_1 rfl rfl ?_
  refine zr_getI (pc := 2) (z := 0) fX9_9 lo_42 rfl rfl rfl dX9_fits_2 ?_
  refine zr_iand (pc := 5) dX9_fits_5 ?_
  refine zr_aload_n (pc := 6) dX9_fits_6 rfl rfl ?_
  refine zr_getI (pc := 7) (z := 0) fX9_9 lo_42 rfl rfl rfl dX9_fits_7 ?_
  refine zi_icmp_ne (pc := 10) (tgt := 26) dX9_fits_10 (by decide) (by omega) (by omega) (fun h10 => ?_) (fun h10 => ?_)
  · refine zr_iconst (pc := 26) dX9_fits_26 ?_
    exact zr_zreturn (pc := 27) dX9_fits_27 rfl (by decide) (zq_eq h (zb_F (fun y => h10 y.1)))
  · refine zr_iload_n (pc := 13) dX9_fits_13 rfl rfl ?_
    refine zr_aload_n (pc := 14) dX9_fits_14 rfl rfl ?_
    refine zr_getI (pc := 15) (z := 1) fX9_15 lo_42 rfl rfl rfl dX9_fits_15 ?_
    refine zr_iand (pc := 18) dX9_fits_18 ?_
    refine zi_if_ne (pc := 19) (tgt := 26) dX9_fits_19 (by decide) (by omega) (fun h19 => ?_) (fun h19 => ?_)
    · refine zr_iconst (pc := 26) dX9_fits_26 ?_
      exact zr_zreturn (pc := 27) dX9_fits_27 rfl (by decide) (zq_eq h (zb_F (fun y => h19 y.2)))
    · refine zr_iconst (pc := 22) dX9_fits_22 ?_
      refine zr_goto (pc := 23) (tgt := 27) dX9_fits_23 (by decide) ?_
      exact zr_zreturn (pc := 27) dX9_fits_27 rfl (by decide) (zq_eq h (zb_T ⟨h10, h19⟩))

set_option maxRecDepth 100000 in
set_option maxHeartbeats 4000000 in
theorem ct_X9_noteFound {g : zt_G} {M : zm_M} {q : zm_M → Prop} {a : Int} (hf : zi (M 42 3)) (h : q (zm_put (zm_put M 42 4 (if M 42 3 = 0 then a else M 42 4)) 42 3 (M 42 3 + 1))) : zc_K g yX9_noteFound mX9_noteFound [zv_r 42, zv_i a] M (zq_V q) := by
  refine zc_of (ls := [some (zv_r 42), some (zv_i a)]) (by decide) rfl ⟨rfl, rfl⟩ (Nat.le_of_ble_eq_true rfl) rfl ?_
  refine zr_aload_n (pc := 0) dX9_noteFound_0 rfl rfl ?_
  refine zr_getI (pc := 1) (z := 3) fX9_21 lo_42 rfl rfl rfl dX9_noteFound_1 ?_
  refine zi_if_ne (pc := 4) (tgt := 12) dX9_noteFound_4 (by decide) (by omega) (fun h4 => ?_) (fun h4 => ?_)
  · refine zr_aload_n (pc := 12) dX9_noteFound_12 rfl rfl ?_
    refine zr_dup_r (pc := 13) dX9_noteFound_13 ?_
    refine zr_getI (pc := 14) (z := 3) fX9_21 lo_42 rfl rfl rfl dX9_noteFound_14 ?_
    refine zr_iconst (pc := 17) dX9_noteFound_17 ?_
    refine zr_iadd (pc := 18) dX9_noteFound_18 ?_
    refine zr_putI (pc := 19) (z := 3) fX9_21 lo_42 rfl fwX9_3 rfl rfl dX9_noteFound_19 ?_
    exact zr_return (pc := 22) dX9_noteFound_22 rfl (show q _ by rw [if_neg h4, put_self] at h; exact h)
  · refine zr_aload_n (pc := 7) dX9_noteFound_7 rfl rfl ?_
    refine zr_iload_n (pc := 8) dX9_noteFound_8 rfl rfl ?_
    refine zr_putI (pc := 9) (z := 4) fX9_24 lo_42 rfl fwX9_4 rfl rfl dX9_noteFound_9 ?_
    refine zr_aload_n (pc := 12) dX9_noteFound_12 rfl rfl ?_
    refine zr_dup_r (pc := 13) dX9_noteFound_13 ?_
    refine zr_getI (pc := 14) (z := 3) fX9_21 lo_42 rfl rfl rfl dX9_noteFound_14 ?_
    rw [put_ni _ _ (by decide)]
    refine zr_iconst (pc := 17) dX9_noteFound_17 ?_
    refine zr_iadd (pc := 18) dX9_noteFound_18 ?_
    refine zr_putI (pc := 19) (z := 3) fX9_21 lo_42 rfl fwX9_3 rfl rfl dX9_noteFound_19 ?_
    exact zr_return (pc := 22) dX9_noteFound_22 rfl (show q _ by rw [if_pos h4] at h; exact h)

theorem lyP_in (kn nk : Int) (L : Ln) : ∀ n : Nat, 0 ≤ (lyP kn nk L n).1 ∧ (lyP kn nk L n).1 ≤ n
  | 0 => ⟨Int.le_refl 0, Int.le_refl 0⟩
  | n + 1 => by
    have h := lyP_in kn nk L n
    have e : (lyP kn nk L (n + 1)) = lyF L.1 kn nk L (n : Int) (lyP kn nk L n) := rfl
    rw [e]
    unfold lyF
    split
    · dsimp only
      omega
    · omega
set_option maxRecDepth 100000 in
set_option maxHeartbeats 4000000 in
theorem lp_X9_look3 {g : zt_G} {M : zm_M} {q : zm_M → Prop} (hw : LW (lvX M 13)) (hkn : 0 ≤ M 42 0 ∧ M 42 0 < 64) (hnk : 0 ≤ M 42 1 ∧ M 42 1 < 64) (h : ∀ M2, (∀ (k : Nat) (i : Int), (k ≠ 42 ∨ (i = 0 ∨ i = 1 ∨ i = 2)) → M2 k i = M k i) → (M2 42 3, M2 42 4) = lyP (M 42 0) (M 42 1) (lvX M 13) (8 * M 13 3).toNat → q M2) {c k : Int} (hc : 0 ≤ c ∧ c ≤ 1) (hk : 0 ≤ k ∧ k < M 13 3) (ho : ∀ (n5 : Option zv_A) (Mx : zm_M), (∀ (k : Nat) (i : Int), (k ≠ 42 ∨ (i = 0 ∨ i = 1 ∨ i = 2)) → Mx k i = M k i) → (Mx 42 3, Mx 42 4) = lyP (M 42 0) (M 42 1) (lvX M 13) ((c * M 13 3 + (k + 1)) * 4).toNat → zc_Z g mX9_look 20 [some (zv_r 42), some (zv_r 13), some (zv_i c), some (zv_i (k + 1)), n5] [] Mx (zq_V q)) : ∀ (nn : Nat) (n : Int) (Mx : zm_M), (4 - n).toNat = nn → 0 ≤ n → n ≤ 4 → (∀ (k : Nat) (i : Int), (k ≠ 42 ∨ (i = 0 ∨ i = 1 ∨ i = 2)) → Mx k i = M k i) → (Mx 42 3, Mx 42 4) = lyP (M 42 0) (M 42 1) (lvX M 13) ((c * M 13 3 + k) * 4 + n).toNat → zc_Z g mX9_look 31 [some (zv_r 42), some (zv_r 13), some (zv_i c), some (zv_i k), some (zv_i n)] [] Mx (zq_V q) := by
  intro nn
  induction nn using Nat.strongRecOn with
  | ind nn ih =>
    intro n Mx hnn h0 h1 hfr hP
    have hLx : lvX Mx 13 = lvX M 13 := lvX_fr (fun k i a b => hfr k i (by omega))
    have hwx : LW (lvX Mx 13) := by rw [hLx]; exact hw
    have hk0 := yXk hw
    have e3 : Mx 13 3 = M 13 3 := hfr 13 3 (by decide)
    have ek : Mx 42 0 = M 42 0 := hfr 42 0 (by decide)
    have en : Mx 42 1 = M 42 1 := hfr 42 1 (by decide)
    have hcm : 0 ≤ c * M 13 3 := Int.mul_nonneg hc.1 hk0.1
    have hcm2 : c * M 13 3 ≤ M 13 3 := by rcases (by omega : c = 0 ∨ c = 1) with rfl | rfl <;> omega
    have hin := lyP_in (M 42 0) (M 42 1) (lvX M 13) ((c * M 13 3 + k) * 4 + n).toNat
    rw [← hP] at hin
    dsimp only at hin
    refine zr_iload (pc := 31) dX9_look_31 rfl ?_
    refine zr_iconst (pc := 33) dX9_look_33 ?_
    refine zi_icmp_gt (pc := 34) (tgt := 78) dX9_look_34 (by decide) (by omega) (by omega) (fun h34 => ?_) (fun h34 => ?_)
    · refine zr_iinc (pc := 78) dX9_look_78 rfl (Nat.le_of_ble_eq_true rfl) rfl ?_
      refine zr_goto (pc := 81) (tgt := 20) dX9_look_81 (by decide) ?_
      exact ho _ _ hfr (by rw [hP, show n = 4 by omega, show (c * M 13 3 + k) * 4 + 4 = (c * M 13 3 + (k + 1)) * 4 by omega])
    · have hix := ly_ix (K := M 13 3) (c := c) (k := k) (n := n) (by omega) hc hk (by omega)
      have hnm : 0 ≤ n * app c ∧ n * app c ≤ 100 := by
        unfold app
        rcases (by omega : c = 0 ∨ c = 1) with rfl | rfl <;> simp <;> omega
      have hap : app c = c + 1 := by
        unfold app
        rcases (by omega : c = 0 ∨ c = 1) with rfl | rfl <;> rfl
      have hst : lyP (M 42 0) (M 42 1) (lvX M 13) ((c * M 13 3 + k) * 4 + (n + 1)).toNat = lyF (M 13 3) (M 42 0) (M 42 1) (lvX M 13) ((c * M 13 3 + k) * 4 + n) (Mx 42 3, Mx 42 4) := by
        rw [hP, show (c * M 13 3 + k) * 4 + (n + 1) = ((c * M 13 3 + k) * 4 + n) + 1 by omega]
        unfold lyP
        rw [fo_s (by omega)]
        rfl
      unfold lyF at hst
      rw [hix.1, hix.2.1, hix.2.2, ← hap] at hst
      dsimp only at hst
      have htk := tkn_in hw k (n * app c)
      refine zr_aload_n (pc := 37) dX9_look_37 rfl rfl ?_
      refine zr_aload_n (pc := 38) dX9_look_38 rfl rfl ?_
      refine zr_iload_n (pc := 39) dX9_look_39 rfl rfl ?_
      refine zr_iload (pc := 40) dX9_look_40 rfl ?_
      refine zr_iload_n (pc := 42) dX9_look_42 rfl rfl ?_
      refine zr_nest1I (pc := 43) rfl sX9_32 rfl rfl dX9_look_43 ?_
      refine ct_X10_appetiteOf (by omega) ?_
      refine zr_imul (pc := 46) dX9_look_46 ?_
      refine zr_stat3I (pc := 47) rfl sX9_36 rfl rfl dX9_look_47 ?_
      refine ct_X9_takenIn zp_l13 hwx (by omega) hnm ?_
      rw [hLx]
      refine zr_inv1I (pc := 50) rfl sX9_40 lo_42 rfl rfl rfl dX9_look_50 ?_
      refine ct_X9_fits htk (by omega) (by omega) ?_
      rw [ek, en]
      refine zr_ifb_eq (pc := 53) (tgt := 72) dX9_look_53 (by decide) (fun h53 => ?_) (fun h53 => ?_)
      · refine zr_iinc (pc := 72) dX9_look_72 rfl (Nat.le_of_ble_eq_true rfl) rfl ?_
        refine zr_goto (pc := 75) (tgt := 31) dX9_look_75 (by decide) ?_
        rw [if_neg h53] at hst
        exact ih _ (by omega) _ _ rfl (by omega) (by omega) hfr hst.symm
      · refine zr_aload_n (pc := 56) dX9_look_56 rfl rfl ?_
        refine zr_bipush (pc := 57) dX9_look_57 (by decide) ?_
        refine zr_iload_n (pc := 59) dX9_look_59 rfl rfl ?_
        refine zr_imul (pc := 60) dX9_look_60 ?_
        refine zr_bipush (pc := 61) dX9_look_61 (by decide) ?_
        refine zr_iload_n (pc := 63) dX9_look_63 rfl rfl ?_
        refine zr_imul (pc := 64) dX9_look_64 ?_
        refine zr_iadd (pc := 65) dX9_look_65 ?_
        refine zr_iload (pc := 66) dX9_look_66 rfl ?_
        refine zr_iadd (pc := 68) dX9_look_68 ?_
        refine zr_inv1V (pc := 69) rfl sX9_44 lo_42 rfl rfl rfl dX9_look_69 ?_
        refine ct_X9_noteFound (by omega) ?_
        refine zr_iinc (pc := 72) dX9_look_72 rfl (Nat.le_of_ble_eq_true rfl) rfl ?_
        refine zr_goto (pc := 75) (tgt := 31) dX9_look_75 (by decide) ?_
        rw [if_pos h53] at hst
        exact ih _ (by omega) _ _ rfl (by omega) (by omega) (fun k i a => by rw [show zm_put (zm_put Mx 42 4 _) 42 3 _ k i = Mx k i from by unfold zm_put; rw [if_neg (by omega), if_neg (by omega)]]; exact hfr k i a) (by rw [hst, put_at, put_ni _ _ (show (4 : Int) ≠ 3 by decide), put_at])

set_option maxRecDepth 100000 in
set_option maxHeartbeats 4000000 in
theorem lp_X9_look2 {g : zt_G} {M : zm_M} {q : zm_M → Prop} (hw : LW (lvX M 13)) (hkn : 0 ≤ M 42 0 ∧ M 42 0 < 64) (hnk : 0 ≤ M 42 1 ∧ M 42 1 < 64) (h : ∀ M2, (∀ (k : Nat) (i : Int), (k ≠ 42 ∨ (i = 0 ∨ i = 1 ∨ i = 2)) → M2 k i = M k i) → (M2 42 3, M2 42 4) = lyP (M 42 0) (M 42 1) (lvX M 13) (8 * M 13 3).toNat → q M2) {c : Int} (hc : 0 ≤ c ∧ c ≤ 1) (ho : ∀ (k4 n5 : Option zv_A) (Mx : zm_M), (∀ (k : Nat) (i : Int), (k ≠ 42 ∨ (i = 0 ∨ i = 1 ∨ i = 2)) → Mx k i = M k i) → (Mx 42 3, Mx 42 4) = lyP (M 42 0) (M 42 1) (lvX M 13) ((c + 1) * M 13 3 * 4).toNat → zc_Z g mX9_look 13 [some (zv_r 42), some (zv_r 13), some (zv_i (c + 1)), k4, n5] [] Mx (zq_V q)) : ∀ (nn : Nat) (k : Int) (n5 : Option zv_A) (Mx : zm_M), (M 13 3 - k).toNat = nn → 0 ≤ k → k ≤ M 13 3 → (∀ (k : Nat) (i : Int), (k ≠ 42 ∨ (i = 0 ∨ i = 1 ∨ i = 2)) → Mx k i = M k i) → (Mx 42 3, Mx 42 4) = lyP (M 42 0) (M 42 1) (lvX M 13) ((c * M 13 3 + k) * 4).toNat → zc_Z g mX9_look 20 [some (zv_r 42), some (zv_r 13), some (zv_i c), some (zv_i k), n5] [] Mx (zq_V q) := by
  intro nn
  induction nn using Nat.strongRecOn with
  | ind nn ih =>
    intro k n5 Mx hnn h0 h1 hfr hP
    have hLx : lvX Mx 13 = lvX M 13 := lvX_fr (fun k i a b => hfr k i (by omega))
    have hwx : LW (lvX Mx 13) := by rw [hLx]; exact hw
    have hk0 := yXk hw
    have e3 : Mx 13 3 = M 13 3 := hfr 13 3 (by decide)
    have ek : Mx 42 0 = M 42 0 := hfr 42 0 (by decide)
    have en : Mx 42 1 = M 42 1 := hfr 42 1 (by decide)
    refine zr_iload_n (pc := 20) dX9_look_20 rfl rfl ?_
    refine zr_aload_n (pc := 21) dX9_look_21 rfl rfl ?_
    refine zr_getI (pc := 22) (z := 3) fX9_27 zp_l13.1 rfl rfl rfl dX9_look_22 ?_
    refine zi_icmp_ge (pc := 25) (tgt := 84) dX9_look_25 (by decide) (by omega) (by omega) (fun h25 => ?_) (fun h25 => ?_)
    · refine zr_iinc (pc := 84) dX9_look_84 rfl (Nat.le_of_ble_eq_true rfl) rfl ?_
      refine zr_goto (pc := 87) (tgt := 13) dX9_look_87 (by decide) ?_
      exact ho _ _ _ hfr (by rw [hP, show k = M 13 3 by omega, show c * M 13 3 + M 13 3 = (c + 1) * M 13 3 from (by rw [Int.add_mul, Int.one_mul])])
    · refine zr_iconst (pc := 28) dX9_look_28 ?_
      refine zr_istore (pc := 29) dX9_look_29 (Nat.le_of_ble_eq_true rfl) rfl ?_
      exact lp_X9_look3 (g := g) hw hkn hnk h hc ⟨h0, by omega⟩ (fun m5 My hfy hPy => ih _ (by omega) _ m5 My rfl (by omega) (by omega) hfy hPy) _ _ _ rfl (by omega) (by omega) hfr (by rw [Int.add_zero]; exact hP)

set_option maxRecDepth 100000 in
set_option maxHeartbeats 4000000 in
theorem lp_X9_look1 {g : zt_G} {M : zm_M} {q : zm_M → Prop} (hw : LW (lvX M 13)) (hkn : 0 ≤ M 42 0 ∧ M 42 0 < 64) (hnk : 0 ≤ M 42 1 ∧ M 42 1 < 64) (h : ∀ M2, (∀ (k : Nat) (i : Int), (k ≠ 42 ∨ (i = 0 ∨ i = 1 ∨ i = 2)) → M2 k i = M k i) → (M2 42 3, M2 42 4) = lyP (M 42 0) (M 42 1) (lvX M 13) (8 * M 13 3).toNat → q M2) : ∀ (nn : Nat) (c : Int) (k4 n5 : Option zv_A) (Mx : zm_M), (2 - c).toNat = nn → 0 ≤ c → c ≤ 2 → (∀ (k : Nat) (i : Int), (k ≠ 42 ∨ (i = 0 ∨ i = 1 ∨ i = 2)) → Mx k i = M k i) → (Mx 42 3, Mx 42 4) = lyP (M 42 0) (M 42 1) (lvX M 13) (c * M 13 3 * 4).toNat → zc_Z g mX9_look 13 [some (zv_r 42), some (zv_r 13), some (zv_i c), k4, n5] [] Mx (zq_V q) := by
  intro nn
  induction nn using Nat.strongRecOn with
  | ind nn ih =>
    intro c k4 n5 Mx hnn h0 h1 hfr hP
    have hLx : lvX Mx 13 = lvX M 13 := lvX_fr (fun k i a b => hfr k i (by omega))
    have hwx : LW (lvX Mx 13) := by rw [hLx]; exact hw
    have hk0 := yXk hw
    have e3 : Mx 13 3 = M 13 3 := hfr 13 3 (by decide)
    have ek : Mx 42 0 = M 42 0 := hfr 42 0 (by decide)
    have en : Mx 42 1 = M 42 1 := hfr 42 1 (by decide)
    refine zr_iload_n (pc := 13) dX9_look_13 rfl rfl ?_
    refine zr_iconst (pc := 14) dX9_look_14 ?_
    refine zi_icmp_gt (pc := 15) (tgt := 90) dX9_look_15 (by decide) (by omega) (by omega) (fun h15 => ?_) (fun h15 => ?_)
    · exact zr_return (pc := 90) dX9_look_90 rfl (h _ hfr (by rw [hP, show c = 2 by omega]; congr 1; omega))
    · refine zr_iconst (pc := 18) dX9_look_18 ?_
      refine zr_istore_n (pc := 19) dX9_look_19 rfl (Nat.le_of_ble_eq_true rfl) rfl ?_
      exact lp_X9_look2 (g := g) hw hkn hnk h ⟨h0, by omega⟩ (fun m4 m5 My hfy hPy => ih _ (by omega) _ m4 m5 My rfl (by omega) (by omega) hfy hPy) _ _ _ _ rfl (by omega) (by omega) hfr (by rw [Int.add_zero]; exact hP)

set_option maxRecDepth 100000 in
set_option maxHeartbeats 4000000 in
theorem ct_X9_look {g : zt_G} {M : zm_M} {q : zm_M → Prop} (hw : LW (lvX M 13)) (hkn : 0 ≤ M 42 0 ∧ M 42 0 < 64) (hnk : 0 ≤ M 42 1 ∧ M 42 1 < 64) (h : ∀ M2, (∀ (k : Nat) (i : Int), (k ≠ 42 ∨ (i = 0 ∨ i = 1 ∨ i = 2)) → M2 k i = M k i) → (M2 42 3, M2 42 4) = lyP (M 42 0) (M 42 1) (lvX M 13) (8 * M 13 3).toNat → q M2) : zc_K g yX9_look mX9_look [zv_r 42, zv_r 13] M (zq_V q) := by
  refine zc_of (ls := [some (zv_r 42), some (zv_r 13), none, none, none]) (by decide) rfl ⟨rfl, rfl⟩ (Nat.le_of_ble_eq_true rfl) rfl ?_
  refine zr_aload_n (pc := 0) dX9_look_0 rfl rfl ?_
  refine zr_iconst (pc := 1) dX9_look_1 ?_
  refine zr_putI (pc := 2) (z := 3) fX9_21 lo_42 rfl fwX9_3 rfl rfl dX9_look_2 ?_
  refine zr_aload_n (pc := 5) dX9_look_5 rfl rfl ?_
  refine zr_bipush (pc := 6) dX9_look_6 (by decide) ?_
  refine zr_putI (pc := 8) (z := 4) fX9_24 lo_42 rfl fwX9_4 rfl rfl dX9_look_8 ?_
  refine zr_iconst (pc := 11) dX9_look_11 ?_
  refine zr_istore_n (pc := 12) dX9_look_12 rfl (Nat.le_of_ble_eq_true rfl) rfl ?_
  exact lp_X9_look1 (g := g) hw hkn hnk h _ _ _ _ _ rfl (by omega) (by omega) (fun k i a => by unfold zm_put; rw [if_neg (by omega), if_neg (by omega)]) (by rw [put_at, put_ni _ _ (show (3 : Int) ≠ 4 by decide), put_at, show (0 * M 13 3 * 4).toNat = 0 by omega]; rfl)

theorem knB_in {v : Int} {S : Int × (Int → Int) × (Int → Int)} (h : ∀ e, 0 ≤ e → e < S.1 → 1 ≤ S.2.1 e ∧ S.2.1 e ≤ 6) (h0 : 0 ≤ S.1) : 0 ≤ knB v S ∧ knB v S < 64 := by
  unfold knB
  refine fo_p (P := fun b : Int => 0 ≤ b ∧ b < 64) ⟨by decide, by decide⟩ (fun i b g0 g1 hb => ?_)
  have h1 := h i g0 (by omega)
  show 0 ≤ (if S.2.2 i = v then zb_or b (zb_shl 1 (S.2.1 i - 1)) else b) ∧ (if S.2.2 i = v then zb_or b (zb_shl 1 (S.2.1 i - 1)) else b) < 64
  split
  · exact or6 hb ⟨by omega, by omega⟩
  · exact hb
set_option maxRecDepth 100000 in
set_option maxHeartbeats 4000000 in
theorem ct_X10_lay {g : zt_G} {M : zm_M} {σ : Sg} {q : Int → zm_M → Prop} (hR : RX σ M) (hW : SW σ) {v : Int} (hv : zi v) (h : ∀ M2, frX M M2 → RX σ M2 → q (aLay v (knB 1 (sS σ)) (knB 0 (sS σ)) (sL σ)) M2) : zc_K g yX10_lay mX10_lay [zv_r 0, zv_i v] M (zq_I q) := by
  refine zc_of (ls := [some (zv_r 0), some (zv_i v)]) (by decide) rfl ⟨rfl, rfl⟩ (Nat.le_of_ble_eq_true rfl) rfl ?_
  obtain ⟨hT, hl, hcv, hA, hK, hS, hD⟩ := id hR
  obtain ⟨wT, wTx, wL, ⟨wC, wZ⟩, wA, wK, wS⟩ := id hW
  have hLw : LW (lvX M 13) := by rw [hl]; exact wL
  have hCw : CW (cvX M 17) := by rw [hcv]; exact wC
  have hw0 := wXt hCw
  have hL0 := yXk hLw
  have hk1 : M 13 3 = (sL σ).1 := by rw [← hl]; rfl
  have ht1 : M 17 5 = ct (sC σ) := by rw [← hcv]; rfl
  have hT1 := hT.1
  have hb1 := knB_in (v := 1) (S := sS σ) (fun e a b => (wS.2 e a b).1) wS.1.1
  have hb0 := knB_in (v := 0) (S := sS σ) (fun e a b => (wS.2 e a b).1) wS.1.1
  refine zr_iload_n (pc := 0) dX10_lay_0 rfl rfl ?_
  refine zr_stat1I (pc := 1) rfl sX10_211 rfl rfl dX10_lay_1 ?_
  refine ct_X10_isFirstOrSecond hv ?_
  refine zr_ifb_ne (pc := 4) (tgt := 10) dX10_lay_4 (by decide) (fun h4 => ?_) (fun h4 => ?_)
  · refine zr_aload_n (pc := 10) dX10_lay_10 rfl rfl ?_
    refine zr_getR (pc := 11) fX10_71 lo_0 rfl rfl dX10_lay_11 ?_
    refine zr_aload_n (pc := 14) dX10_lay_14 rfl rfl ?_
    refine zr_getR (pc := 15) fX10_26 lo_0 rfl rfl dX10_lay_15 ?_
    refine zr_inv1V (pc := 18) rfl sX10_260 lo_42 rfl rfl rfl dX10_lay_18 ?_
    refine ct_X9_look hLw (by rw [hS.2.1]; exact hb1) (by rw [hS.2.2]; exact hb0) (fun M2 hf2 hv2 => ?_)
    rw [hS.2.1, hS.2.2, hl, hk1] at hv2
    refine zr_iload_n (pc := 21) dX10_lay_21 rfl rfl ?_
    refine zi_if_ne (pc := 22) (tgt := 35) dX10_lay_22 (by decide) (by omega) (fun h22 => ?_) (fun h22 => ?_)
    · refine zr_aload_n (pc := 35) dX10_lay_35 rfl rfl ?_
      refine zr_getR (pc := 36) fX10_71 lo_0 rfl rfl dX10_lay_36 ?_
      refine zr_getI (pc := 39) (z := 4) fX10_264 lo_42 rfl rfl rfl dX10_lay_39 ?_
      exact zr_ireturn (pc := 42) dX10_lay_42 rfl (zq_eq (h M2 (fun k i a => hf2 k i (by omega)) (RX_fr hR (fun k i a b c d => hf2 k i (Or.inr d)) (fun k i a b c => hf2 k i (Or.inl c)))) (by unfold aLay; rw [if_neg (fun y => y h4), if_neg h22, ← hv2]))
    · refine zr_aload_n (pc := 25) dX10_lay_25 rfl rfl ?_
      refine zr_getR (pc := 26) fX10_71 lo_0 rfl rfl dX10_lay_26 ?_
      refine zr_getI (pc := 29) (z := 3) fX10_261 lo_42 rfl rfl rfl dX10_lay_29 ?_
      refine zr_goto (pc := 32) (tgt := 42) dX10_lay_32 (by decide) ?_
      exact zr_ireturn (pc := 42) dX10_lay_42 rfl (zq_eq (h M2 (fun k i a => hf2 k i (by omega)) (RX_fr hR (fun k i a b c d => hf2 k i (Or.inr d)) (fun k i a b c => hf2 k i (Or.inl c)))) (by unfold aLay; rw [if_neg (fun y => y h4), if_pos h22, ← hv2]))
  · refine zr_bipush (pc := 7) dX10_lay_7 (by decide) ?_
    exact zr_ireturn (pc := 9) dX10_lay_9 rfl (zq_eq (h M (fun _ _ _ => rfl) hR) (by unfold aLay; rw [if_pos h4]))

