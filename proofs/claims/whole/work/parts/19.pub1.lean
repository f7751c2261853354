/-! THE ANSWERS in numbers (one for both sides) -/
def oWrite (x : Int) (σ : Sg) : Int × Sg := if x < 0 ∨ 255 < x then (-2, σ) else if 48 ≤ (sT σ).1 then (-4, σ) else ((sT σ).1 + 1, (((sT σ).1 + 1, upI (sT σ).2 (sT σ).1 x), σ.2))
def oWipe (σ : Sg) : Int × Sg := ((sT σ).1, ((0, (sT σ).2), σ.2))
def aKiln (g w : Int) (L : Ln) (C : Cm) : Int := if ¬ (0 ≤ g ∧ g < L.1) then -1 else if w = 0 then L.2.1 g else if w = 1 then L.2.2.1 g else if w = 2 then bitG L g else if w = 3 then figG L g else if w = 4 then atB C (L.2.1 g) else -2
def aTramp (t w : Int) (C : Cm) : Int := if ¬ cHas C t then -1 else if w = 0 then cp C t else if w = 1 then ck C t else if w = 2 then cn C t else if w = 3 then ch C t else if w = 4 then 3 - ch C t / 3 else if w = 5 then zb_B (bt (cw C) t = true) else if w = 6 then zb_B (9 ≤ ch C t) else -2
def aAt (p : Int) (L : Ln) : Int := if ¬ (0 ≤ p ∧ p < 10) then -1 else kiA L p
def SgP (σ : Sg) : Sg := SgA (psA (sC σ) (sA σ)) σ
def oNight (σ : Sg) : Int × Sg := (on6 (humB (nit (sL σ) 0 (sC σ))), SgC (nit (sL σ) 0 (sC σ)) (SgP σ))
def oWalk (t p : Int) (σ : Sg) : Int × Sg := if ¬ cHas (sC σ) t ∨ ¬ (0 ≤ p ∧ p < 10) then (-1, σ) else if ¬ cMay (sC σ) t p then (-3, σ) else ((if p ≤ cp (sC σ) t then cp (sC σ) t - p else p - cp (sC σ) t), SgC (cgo t p (sC σ)) (SgP σ))
def oTell (a b : Int) (σ : Sg) : Int × Sg := if ¬ cHas (sC σ) a ∨ ¬ cHas (sC σ) b then (-1, σ) else if a = b then (-2, σ) else if ¬ cHear (sC σ) a b then (-3, σ) else (on6 (cn (chr a b (sC σ)) b), SgC (chr a b (sC σ)) (SgP σ))
def oWash (t : Int) (σ : Sg) : Int × Sg := if ¬ cHas (sC σ) t then (-1, σ) else if ¬ cBat (sC σ) t then (-3, σ) else (on6 (cn (sC σ) t), SgC (cba t (sC σ)) (SgP σ))
def oUndo (σ : Sg) : Int × Sg := if (sA σ).1 = 0 then (-3, σ) else ((sA σ).1 - 1, SgC ((sA σ).2 ((sA σ).1 - 1)) (SgA ((sA σ).1 - 1, (sA σ).2) σ))
def ntN (L : Ln) (C : Cm) (n : Nat) : Cm := fo (fun _ D => nit L 0 D) C n
def aLater (t n w : Int) (L : Ln) (C : Cm) : Int := if ¬ cHas C t then -1 else if n < 0 ∨ 20 < n ∨ ¬ (w = 0 ∨ w = 1) then -2 else if w = 0 then cn (ntN L C n.toNat) t else ch (ntN L C n.toNat) t
def humL (L : Ln) (t : Int) : Nat → Int → Cm → Int
  | 0, _, _ => -9
  | k + 1, n, D => if 9 ≤ ch D t then n else humL L t k (n + 1) (nit L 0 D)
def aHum (t : Int) (L : Ln) (C : Cm) : Int := if ¬ cHas C t then -1 else humL L t 21 0 C
def aCount (w : Int) (σ : Sg) : Int := if w = 0 then (sT σ).1 else if w = 1 then (sL σ).1 else if w = 2 then ct (sC σ) else if w = 3 then cg (sC σ) else if w = 4 then humB (sC σ) else if w = 5 then cw (sC σ) else if w = 6 then anyB (sC σ) else if w = 7 then bitL (sL σ) else if w = 8 then (sA σ).1 else if w = 9 then (sS σ).1 else -2
def oKeep (s : Int) (σ : Sg) : Int × Sg := if ¬ (0 ≤ s ∧ s < 2) then (-1, σ) else (cg (sC σ), (sT σ, sL σ, sC σ, sA σ, (upI (sK σ).1 s 1, fun j => if j = s then sC σ else (sK σ).2 j), σ.2.2.2.2.2))
def oAgain (s : Int) (σ : Sg) : Int × Sg := if ¬ (0 ≤ s ∧ s < 2) then (-1, σ) else if ¬ (sK σ).1 s = 1 then (-3, σ) else (cg ((sK σ).2 s), SgC ((sK σ).2 s) (SgA (0, (sA σ).2) σ))
def oKnew (l k : Int) (σ : Sg) : Int × Sg := if ¬ (1 ≤ l ∧ l ≤ 6) ∨ k < 0 ∨ 1 < k then (-2, σ) else if 6 ≤ (sS σ).1 then (-4, σ) else ((sS σ).1 + 1, (sT σ, sL σ, sC σ, sA σ, sK σ, ((sS σ).1 + 1, upI (sS σ).2.1 (sS σ).1 l, upI (sS σ).2.2 (sS σ).1 k), sD σ))
def oUnknew (σ : Sg) : Int × Sg := ((sS σ).1, (sT σ, sL σ, sC σ, sA σ, sK σ, (0, (sS σ).2), sD σ))
def oSeed (v : Int) (σ : Sg) : Int × Sg := (sD σ, (sT σ, sL σ, sC σ, sA σ, sK σ, sS σ, zx v))
theorem nit_ck {L : Ln} {cold : Int} {C : Cm} : ck (nit L cold C) = ck C := by
  have h1 : ∀ (D : Cm) (n : Nat), ck (fo (n1 L cold) D n) = ck D := fun D n => fo_p (P := fun E => ck E = ck D) rfl (fun i b _ _ hb => by
    show ck (n1 L cold i b) = ck D
    unfold n1
    split
    · exact hb
    · exact hb)
  have h2 : ∀ (D : Cm) (n : Nat), ck (fo n2 D n) = ck D := fun D n => fo_p (P := fun E => ck E = ck D) rfl (fun i b _ _ hb => by
    show ck (n2 i b) = ck D
    unfold n2
    split
    · exact hb
    · exact hb)
  exact (h2 _ _).trans (h1 _ _)
theorem CW_ntN {L : Ln} {C : Cm} (hL : LW L) (h : CW C) (n : Nat) : CW (ntN L C n) := fo_p (P := CW) h (fun _ _ _ _ hb => CW_nit hL hb)
theorem ct_ntN {L : Ln} {C : Cm} (n : Nat) : ct (ntN L C n) = ct C := fo_p (P := fun D => ct D = ct C) rfl (fun _ _ _ _ hb => nit_ct.trans hb)
theorem RX_act {σ : Sg} {M M2 : zm_M} {C' : Cm} {A' : Int × (Int → Cm)} (h : RX σ M) (hfr : ∀ (k : Nat) (i : Int), (k < 17 ∨ 21 < k) → (k < 27 ∨ 29 < k) → k < 46 → M2 k i = M k i) (hC : cvX M2 17 = C') (hA : XA (SgA A' σ) M2) : RX (SgC C' (SgA A' σ)) M2 := by
  obtain ⟨h1, h2, h3, h4, h5, h6, h7⟩ := h
  refine ⟨⟨?_, fun i a b => ?_⟩, ?_, hC, hA, fun s a b => ?_, ⟨?_, ?_, ?_⟩, ?_⟩
  · rw [hfr 1 1 (by omega) (by omega) (by omega)]
    exact h1.1
  · rw [hfr 2 i (by omega) (by omega) (by omega)]
    exact h1.2 i a b
  · rw [lvX_fr (fun k i a b => hfr k i (by omega) (by omega) (by omega))]
    exact h2
  · rw [hfr 33 s (by omega) (by omega) (by omega), hfr 31 s (by omega) (by omega) (by omega), hfr 32 s (by omega) (by omega) (by omega)]
    exact h5 s a b
  · rw [hfr 42 2 (by omega) (by omega) (by omega)]
    exact h6.1
  · rw [hfr 42 0 (by omega) (by omega) (by omega)]
    exact h6.2.1
  · rw [hfr 42 1 (by omega) (by omega) (by omega)]
    exact h6.2.2
  · rw [hfr 0 11 (by omega) (by omega) (by omega)]
    exact h7
set_option maxRecDepth 100000 in
set_option maxHeartbeats 4000000 in
theorem ct_X10_write {g : zt_G} {M : zm_M} {σ : Sg} {q : Int → zm_M → Prop} (hR : RX σ M) (hW : SW σ) {x : Int} (hx : zi x) (h : ∀ M2, frX M M2 → RX (oWrite x σ).2 M2 → q (oWrite x σ).1 M2) : zc_K g yX10_write mX10_write [zv_r 0, zv_i x] M (zq_I q) := by
  refine zc_of (ls := [some (zv_r 0), some (zv_i x)]) (by decide) rfl ⟨rfl, rfl⟩ (Nat.le_of_ble_eq_true rfl) rfl ?_
  obtain ⟨hT, hl, hcv, hA, hK, hS, hD⟩ := id hR
  obtain ⟨wT, wTx, wL, ⟨wC, wZ⟩, wA, wK, wS⟩ := id hW
  have hLw : LW (lvX M 13) := by rw [hl]; exact wL
  have hCw : CW (cvX M 17) := by rw [hcv]; exact wC
  have hw0 := wXt hCw
  have hL0 := yXk hLw
  have hk1 : M 13 3 = (sL σ).1 := by rw [← hl]; rfl
  have ht1 : M 17 5 = ct (sC σ) := by rw [← hcv]; rfl
  have hT1 := hT.1
  refine zr_iload_n (pc := 0) dX10_write_0 rfl rfl ?_
  refine zi_if_lt (pc := 1) (tgt := 11) dX10_write_1 (by decide) (by omega) (fun h1 => ?_) (fun h1 => ?_)
  · refine zr_bipush (pc := 11) dX10_write_11 (by decide) ?_
    exact zr_ireturn (pc := 13) dX10_write_13 rfl (zq_eq (h M (fun _ _ _ => rfl) (by unfold oWrite; rw [if_pos (by omega)]; exact hR)) (by unfold oWrite; rw [if_pos (by omega)]))
  · refine zr_iload_n (pc := 4) dX10_write_4 rfl rfl ?_
    refine zr_sipush (pc := 5) dX10_write_5 (by decide) ?_
    refine zi_icmp_le (pc := 8) (tgt := 14) dX10_write_8 (by decide) (by omega) (by omega) (fun h8 => ?_) (fun h8 => ?_)
    · refine zr_aload_n (pc := 14) dX10_write_14 rfl rfl ?_
      refine zr_getR (pc := 15) fX10_10 lo_0 rfl rfl dX10_write_15 ?_
      refine zr_getI (pc := 18) (z := 1) fX10_86 lo_1 rfl rfl rfl dX10_write_18 ?_
      refine zr_bipush (pc := 21) dX10_write_21 (by decide) ?_
      refine zi_icmp_lt (pc := 23) (tgt := 29) dX10_write_23 (by decide) (by omega) (by omega) (fun h23 => ?_) (fun h23 => ?_)
      · refine zr_aload_n (pc := 29) dX10_write_29 rfl rfl ?_
        refine zr_getR (pc := 30) fX10_10 lo_0 rfl rfl dX10_write_30 ?_
        refine zr_iload_n (pc := 33) dX10_write_33 rfl rfl ?_
        refine zr_inv1V (pc := 34) rfl sX10_90 lo_1 rfl rfl rfl dX10_write_34 ?_
        refine ct_X6_add (by omega) ?_
        refine zr_aload_n (pc := 37) dX10_write_37 rfl rfl ?_
        refine zr_getR (pc := 38) fX10_10 lo_0 rfl rfl dX10_write_38 ?_
        refine zr_getI (pc := 41) (z := 1) fX10_86 lo_1 rfl rfl rfl dX10_write_41 ?_
        rw [put_at]
        exact zr_ireturn (pc := 44) dX10_write_44 rfl (zq_eq (h _ (fun k i a => by rw [put_nk _ _ _ _ (by omega), put_nk _ _ _ _ (by omega)]) (by
            unfold oWrite
            rw [if_neg (by omega), if_neg (by omega)]
            refine ⟨⟨by rw [put_at, hT1], fun i a b => ?_⟩, ?_, ?_, ?_, ?_, ?_, ?_⟩
            · have b2 : i < (sT σ).1 + 1 := b
              rw [put_nk _ _ _ _ (show 2 ≠ 1 by decide), hT1]
              show _ = upI (sT σ).2 (sT σ).1 x i
              unfold upI
              by_cases hi : i = (sT σ).1
              · rw [if_pos hi, hi, put_at]
              · rw [if_neg hi, put_ni _ _ hi]
                exact hT.2 i a (by omega)
            · rw [lvX_fr (fun k i a b => by rw [put_nk _ _ _ _ (by omega), put_nk _ _ _ _ (by omega)])]
              exact hl
            · rw [cvX_fr (fun k i a b => by rw [put_nk _ _ _ _ (by omega), put_nk _ _ _ _ (by omega)])]
              exact hcv
            · exact hA
            · exact hK
            · exact hS
            · exact hD)) (by unfold oWrite; rw [if_neg (by omega), if_neg (by omega), hT1]))
      · refine zr_bipush (pc := 26) dX10_write_26 (by decide) ?_
        exact zr_ireturn (pc := 28) dX10_write_28 rfl (zq_eq (h M (fun _ _ _ => rfl) (by unfold oWrite; rw [if_neg (by omega), if_pos (by omega)]; exact hR)) (by unfold oWrite; rw [if_neg (by omega), if_pos (by omega)]))
    · refine zr_bipush (pc := 11) dX10_write_11 (by decide) ?_
      exact zr_ireturn (pc := 13) dX10_write_13 rfl (zq_eq (h M (fun _ _ _ => rfl) (by unfold oWrite; rw [if_pos (by omega)]; exact hR)) (by unfold oWrite; rw [if_pos (by omega)]))

theorem RX_T {σ : Sg} {M M2 : zm_M} {T' : Int × (Int → Int)} (h : RX σ M) (hfr : ∀ (k : Nat) (i : Int), k ≠ 1 → k ≠ 2 → k < 46 → M2 k i = M k i) (hT : M2 1 1 = T'.1 ∧ ∀ i, 0 ≤ i → i < T'.1 → M2 2 i = T'.2 i) : RX (T', σ.2) M2 := by
  obtain ⟨h1, h2, h3, h4, h5, h6, h7⟩ := h
  refine ⟨hT, ?_, ?_, ⟨?_, fun j a b => ?_⟩, fun s a b => ?_, ⟨?_, ?_, ?_⟩, ?_⟩
  · rw [lvX_fr (fun k i a b => hfr k i (by omega) (by omega) (by omega))]
    exact h2
  · rw [cvX_fr (fun k i a b => hfr k i (by omega) (by omega) (by omega))]
    exact h3
  · rw [hfr 27 2 (by omega) (by omega) (by omega)]
    exact h4.1
  · rw [hfr 28 j (by omega) (by omega) (by omega), hfr 29 j (by omega) (by omega) (by omega)]
    exact h4.2 j a b
  · rw [hfr 33 s (by omega) (by omega) (by omega), hfr 31 s (by omega) (by omega) (by omega), hfr 32 s (by omega) (by omega) (by omega)]
    exact h5 s a b
  · rw [hfr 42 2 (by omega) (by omega) (by omega)]
    exact h6.1
  · rw [hfr 42 0 (by omega) (by omega) (by omega)]
    exact h6.2.1
  · rw [hfr 42 1 (by omega) (by omega) (by omega)]
    exact h6.2.2
  · rw [hfr 0 11 (by omega) (by omega) (by omega)]
    exact h7
set_option maxRecDepth 100000 in
set_option maxHeartbeats 4000000 in
theorem ct_X10_wipe {g : zt_G} {M : zm_M} {σ : Sg} {q : Int → zm_M → Prop} (hR : RX σ M) (hW : SW σ) (h : ∀ M2, frX M M2 → RX (oWipe σ).2 M2 → q (oWipe σ).1 M2) : zc_K g yX10_wipe mX10_wipe [zv_r 0] M (zq_I q) := by
  refine zc_of (ls := [some (zv_r 0), none]) (by decide) rfl ⟨rfl, rfl⟩ (Nat.le_of_ble_eq_true rfl) rfl ?_
  obtain ⟨hT, hl, hcv, hA, hK, hS, hD⟩ := id hR
  obtain ⟨wT, wTx, wL, ⟨wC, wZ⟩, wA, wK, wS⟩ := id hW
  have hLw : LW (lvX M 13) := by rw [hl]; exact wL
  have hCw : CW (cvX M 17) := by rw [hcv]; exact wC
  have hw0 := wXt hCw
  have hL0 := yXk hLw
  have hk1 : M 13 3 = (sL σ).1 := by rw [← hl]; rfl
  have ht1 : M 17 5 = ct (sC σ) := by rw [← hcv]; rfl
  have hT1 := hT.1
  refine zr_aload_n (pc := 0) dX10_wipe_0 rfl rfl ?_
  refine zr_getR (pc := 1) fX10_10 lo_0 rfl rfl dX10_wipe_1 ?_
  refine zr_getI (pc := 4) (z := 1) fX10_86 lo_1 rfl rfl rfl dX10_wipe_4 ?_
  refine zr_istore_n (pc := 7) dX10_wipe_7 rfl (Nat.le_of_ble_eq_true rfl) rfl ?_
  refine zr_aload_n (pc := 8) dX10_wipe_8 rfl rfl ?_
  refine zr_getR (pc := 9) fX10_10 lo_0 rfl rfl dX10_wipe_9 ?_
  refine zr_iconst (pc := 12) dX10_wipe_12 ?_
  refine zr_putI (pc := 13) (z := 1) fX10_86 lo_1 rfl fwX6_1 rfl rfl dX10_wipe_13 ?_
  refine zr_iload_n (pc := 16) dX10_wipe_16 rfl rfl ?_
  exact zr_ireturn (pc := 17) dX10_wipe_17 rfl (zq_eq (h _ (fun k i a => by rw [put_nk _ _ _ _ (by omega)]) (RX_T hR (fun k i a b c => put_nk _ _ _ _ a) ⟨put_at _ _ _ _, fun i a b => absurd b (by show ¬ i < 0; omega)⟩)) hT1)

set_option maxRecDepth 100000 in
set_option maxHeartbeats 4000000 in
theorem ct_X10_kiln {g : zt_G} {M : zm_M} {σ : Sg} {q : Int → zm_M → Prop} (hR : RX σ M) (hW : SW σ) {t v : Int} (ht : zi t) (hv : zi v) (h : ∀ M2, frX M M2 → RX σ M2 → q (aKiln t v (sL σ) (sC σ)) M2) : zc_K g yX10_kiln mX10_kiln [zv_r 0, zv_i t, zv_i v] M (zq_I q) := by
  refine zc_of (ls := [some (zv_r 0), some (zv_i t), some (zv_i v)]) (by decide) rfl ⟨rfl, rfl⟩ (Nat.le_of_ble_eq_true rfl) rfl ?_
  obtain ⟨hT, hl, hcv, hA, hK, hS, hD⟩ := id hR
  obtain ⟨wT, wTx, wL, ⟨wC, wZ⟩, wA, wK, wS⟩ := id hW
  have hLw : LW (lvX M 13) := by rw [hl]; exact wL
  have hCw : CW (cvX M 17) := by rw [hcv]; exact wC
  have hw0 := wXt hCw
  have hL0 := yXk hLw
  have hk1 : M 13 3 = (sL σ).1 := by rw [← hl]; rfl
  have ht1 : M 17 5 = ct (sC σ) := by rw [← hcv]; rfl
  have hT1 := hT.1
  refine zr_aload_n (pc := 0) dX10_kiln_0 rfl rfl ?_
  refine zr_getR (pc := 1) fX10_26 lo_0 rfl rfl dX10_kiln_1 ?_
  refine zr_iload_n (pc := 4) dX10_kiln_4 rfl rfl ?_
  refine zr_inv1I (pc := 5) rfl sX10_117 lo_13 rfl rfl rfl dX10_kiln_5 ?_
  refine ct_X3_has zp_l13 hLw ht ?_
  refine zr_ifb_ne (pc := 8) (tgt := 13) dX10_kiln_8 (by decide) (fun h8 => ?_) (fun h8 => ?_)
  · have hy : (0 ≤ M 14 t ∧ M 14 t ≤ 9) ∧ (0 ≤ M 15 t ∧ M 15 t ≤ 4) := yX hLw h8
    have ek := h M (fun _ _ _ => rfl) hR
    unfold aKiln at ek
    rw [if_neg (fun y => y (by omega)), ← hl, ← hcv] at ek
    refine zr_iload_n (pc := 13) dX10_kiln_13 rfl rfl ?_
    rcases (by omega : v = 0 ∨ v = 1 ∨ v = 2 ∨ v = 3 ∨ v = 4 ∨ (v < 0 ∨ 4 < v)) with hsw14 | hsw14 | hsw14 | hsw14 | hsw14 | hsw14
    · refine zr_tab_in (pc := 14) (tgt := 48) dX10_kiln_14 (by rw [hsw14]; decide) (by rw [hsw14]; decide) (off := 34) (by rw [hsw14]; decide +kernel) (by decide) ?_
      refine zr_aload_n (pc := 48) dX10_kiln_48 rfl rfl ?_
      refine zr_getR (pc := 49) fX10_26 lo_0 rfl rfl dX10_kiln_49 ?_
      refine zr_getR (pc := 52) fX10_121 lo_13 rfl rfl dX10_kiln_52 ?_
      refine zr_iload_n (pc := 55) dX10_kiln_55 rfl rfl ?_
      refine zr_iaload (pc := 56) lo_14 (by omega) dX10_kiln_56 ?_
      exact zr_ireturn (pc := 57) dX10_kiln_57 rfl (zq_eq ek (by rw [if_pos hsw14, lX_p h8]))
    · refine zr_tab_in (pc := 14) (tgt := 58) dX10_kiln_14 (by rw [hsw14]; decide) (by rw [hsw14]; decide) (off := 44) (by rw [hsw14]; decide +kernel) (by decide) ?_
      refine zr_aload_n (pc := 58) dX10_kiln_58 rfl rfl ?_
      refine zr_getR (pc := 59) fX10_26 lo_0 rfl rfl dX10_kiln_59 ?_
      refine zr_getR (pc := 62) fX10_125 lo_13 rfl rfl dX10_kiln_62 ?_
      refine zr_iload_n (pc := 65) dX10_kiln_65 rfl rfl ?_
      refine zr_iaload (pc := 66) lo_15 (by omega) dX10_kiln_66 ?_
      exact zr_ireturn (pc := 67) dX10_kiln_67 rfl (zq_eq ek (by rw [if_neg (by omega), if_pos hsw14, lX_d h8]))
    · refine zr_tab_in (pc := 14) (tgt := 68) dX10_kiln_14 (by rw [hsw14]; decide) (by rw [hsw14]; decide) (off := 54) (by rw [hsw14]; decide +kernel) (by decide) ?_
      refine zr_aload_n (pc := 68) dX10_kiln_68 rfl rfl ?_
      refine zr_getR (pc := 69) fX10_26 lo_0 rfl rfl dX10_kiln_69 ?_
      refine zr_iload_n (pc := 72) dX10_kiln_72 rfl rfl ?_
      refine zr_inv1I (pc := 73) rfl sX10_128 lo_13 rfl rfl rfl dX10_kiln_73 ?_
      refine ct_X3_bitsOf zp_l13 hLw h8 ?_
      exact zr_ireturn (pc := 76) dX10_kiln_76 rfl (zq_eq ek (by rw [if_neg (by omega), if_neg (by omega), if_pos hsw14]))
    · refine zr_tab_in (pc := 14) (tgt := 77) dX10_kiln_14 (by rw [hsw14]; decide) (by rw [hsw14]; decide) (off := 63) (by rw [hsw14]; decide +kernel) (by decide) ?_
      refine zr_aload_n (pc := 77) dX10_kiln_77 rfl rfl ?_
      refine zr_getR (pc := 78) fX10_26 lo_0 rfl rfl dX10_kiln_78 ?_
      refine zr_iload_n (pc := 81) dX10_kiln_81 rfl rfl ?_
      refine zr_inv1I (pc := 82) rfl sX10_132 lo_13 rfl rfl rfl dX10_kiln_82 ?_
      refine ct_X3_figuresOf zp_l13 hLw h8 ?_
      exact zr_ireturn (pc := 85) dX10_kiln_85 rfl (zq_eq ek (by rw [if_neg (by omega), if_neg (by omega), if_neg (by omega), if_pos hsw14]))
    · refine zr_tab_in (pc := 14) (tgt := 86) dX10_kiln_14 (by rw [hsw14]; decide) (by rw [hsw14]; decide) (off := 72) (by rw [hsw14]; decide +kernel) (by decide) ?_
      refine zr_aload_n (pc := 86) dX10_kiln_86 rfl rfl ?_
      refine zr_getR (pc := 87) fX10_33 lo_0 rfl rfl dX10_kiln_87 ?_
      refine zr_aload_n (pc := 90) dX10_kiln_90 rfl rfl ?_
      refine zr_getR (pc := 91) fX10_26 lo_0 rfl rfl dX10_kiln_91 ?_
      refine zr_getR (pc := 94) fX10_121 lo_13 rfl rfl dX10_kiln_94 ?_
      refine zr_iload_n (pc := 97) dX10_kiln_97 rfl rfl ?_
      refine zr_iaload (pc := 98) lo_14 (by omega) dX10_kiln_98 ?_
      refine zr_inv1I (pc := 99) rfl sX10_135 lo_17 rfl rfl rfl dX10_kiln_99 ?_
      refine ct_X1_trampsAt zp_c17 hCw (by omega) ?_
      exact zr_ireturn (pc := 102) dX10_kiln_102 rfl (zq_eq ek (by rw [if_neg (by omega), if_neg (by omega), if_neg (by omega), if_neg (by omega), if_pos hsw14, lX_p h8]))
    · refine zr_tab_out (pc := 14) (tgt := 103) dX10_kiln_14 (by rw [zw_id (by omega) (by omega)]; exact hsw14) (by decide) ?_
      refine zr_bipush (pc := 103) dX10_kiln_103 (by decide) ?_
      exact zr_ireturn (pc := 105) dX10_kiln_105 rfl (zq_eq ek (by rw [if_neg (by omega), if_neg (by omega), if_neg (by omega), if_neg (by omega), if_neg (by omega)]))
  · refine zr_iconst (pc := 11) dX10_kiln_11 ?_
    exact zr_ireturn (pc := 12) dX10_kiln_12 rfl (zq_eq (h M (fun _ _ _ => rfl) hR) (by unfold aKiln; rw [if_pos (by omega)]))

set_option maxRecDepth 100000 in
set_option maxHeartbeats 4000000 in
theorem ct_X10_tramp {g : zt_G} {M : zm_M} {σ : Sg} {q : Int → zm_M → Prop} (hR : RX σ M) (hW : SW σ) {t v : Int} (ht : zi t) (hv : zi v) (h : ∀ M2, frX M M2 → RX σ M2 → q (aTramp t v (sC σ)) M2) : zc_K g yX10_tramp mX10_tramp [zv_r 0, zv_i t, zv_i v] M (zq_I q) := by
  refine zc_of (ls := [some (zv_r 0), some (zv_i t), some (zv_i v)]) (by decide) rfl ⟨rfl, rfl⟩ (Nat.le_of_ble_eq_true rfl) rfl ?_
  obtain ⟨hT, hl, hcv, hA, hK, hS, hD⟩ := id hR
  obtain ⟨wT, wTx, wL, ⟨wC, wZ⟩, wA, wK, wS⟩ := id hW
  have hLw : LW (lvX M 13) := by rw [hl]; exact wL
  have hCw : CW (cvX M 17) := by rw [hcv]; exact wC
  have hw0 := wXt hCw
  have hL0 := yXk hLw
  have hk1 : M 13 3 = (sL σ).1 := by rw [← hl]; rfl
  have ht1 : M 17 5 = ct (sC σ) := by rw [← hcv]; rfl
  have hT1 := hT.1
  refine zr_aload_n (pc := 0) dX10_tramp_0 rfl rfl ?_
  refine zr_getR (pc := 1) fX10_33 lo_0 rfl rfl dX10_tramp_1 ?_
  refine zr_iload_n (pc := 4) dX10_tramp_4 rfl rfl ?_
  refine zr_inv1I (pc := 5) rfl sX10_138 lo_17 rfl rfl rfl dX10_tramp_5 ?_
  refine ct_X1_has zp_c17 hCw ht ?_
  refine zr_ifb_ne (pc := 8) (tgt := 13) dX10_tramp_8 (by decide) (fun h8 => ?_) (fun h8 => ?_)
  · have ht2 : 0 ≤ t ∧ t < M 17 5 := h8
    have hy : (0 ≤ M 18 t ∧ M 18 t ≤ 9) ∧ (0 ≤ M 19 t ∧ M 19 t ≤ 3) ∧ (0 ≤ M 20 t ∧ M 20 t < 64) ∧ (0 ≤ M 21 t ∧ M 21 t ≤ 9) := wX hCw ht2
    have ek := h M (fun _ _ _ => rfl) hR
    unfold aTramp at ek
    rw [← hcv, if_neg (fun y => y h8)] at ek
    refine zr_iload_n (pc := 13) dX10_tramp_13 rfl rfl ?_
    rcases (by omega : v = 0 ∨ v = 1 ∨ v = 2 ∨ v = 3 ∨ v = 4 ∨ v = 5 ∨ v = 6 ∨ (v < 0 ∨ 6 < v)) with hsw14 | hsw14 | hsw14 | hsw14 | hsw14 | hsw14 | hsw14 | hsw14
    · refine zr_tab_in (pc := 14) (tgt := 56) dX10_tramp_14 (by rw [hsw14]; decide) (by rw [hsw14]; decide) (off := 42) (by rw [hsw14]; decide +kernel) (by decide) ?_
      refine zr_aload_n (pc := 56) dX10_tramp_56 rfl rfl ?_
      refine zr_getR (pc := 57) fX10_33 lo_0 rfl rfl dX10_tramp_57 ?_
      refine zr_getR (pc := 60) fX10_139 lo_17 rfl rfl dX10_tramp_60 ?_
      refine zr_iload_n (pc := 63) dX10_tramp_63 rfl rfl ?_
      refine zr_iaload (pc := 64) lo_18 (by omega) dX10_tramp_64 ?_
      exact zr_ireturn (pc := 65) dX10_tramp_65 rfl (zq_eq ek (by rw [if_pos hsw14, vX_p ht2]))
    · refine zr_tab_in (pc := 14) (tgt := 66) dX10_tramp_14 (by rw [hsw14]; decide) (by rw [hsw14]; decide) (off := 52) (by rw [hsw14]; decide +kernel) (by decide) ?_
      refine zr_aload_n (pc := 66) dX10_tramp_66 rfl rfl ?_
      refine zr_getR (pc := 67) fX10_33 lo_0 rfl rfl dX10_tramp_67 ?_
      refine zr_getR (pc := 70) fX10_140 lo_17 rfl rfl dX10_tramp_70 ?_
      refine zr_iload_n (pc := 73) dX10_tramp_73 rfl rfl ?_
      refine zr_iaload (pc := 74) lo_19 (by omega) dX10_tramp_74 ?_
      exact zr_ireturn (pc := 75) dX10_tramp_75 rfl (zq_eq ek (by rw [if_neg (by omega), if_pos hsw14, vX_k ht2]))
    · refine zr_tab_in (pc := 14) (tgt := 76) dX10_tramp_14 (by rw [hsw14]; decide) (by rw [hsw14]; decide) (off := 62) (by rw [hsw14]; decide +kernel) (by decide) ?_
      refine zr_aload_n (pc := 76) dX10_tramp_76 rfl rfl ?_
      refine zr_getR (pc := 77) fX10_33 lo_0 rfl rfl dX10_tramp_77 ?_
      refine zr_getR (pc := 80) fX10_143 lo_17 rfl rfl dX10_tramp_80 ?_
      refine zr_iload_n (pc := 83) dX10_tramp_83 rfl rfl ?_
      refine zr_iaload (pc := 84) lo_20 (by omega) dX10_tramp_84 ?_
      exact zr_ireturn (pc := 85) dX10_tramp_85 rfl (zq_eq ek (by rw [if_neg (by omega), if_neg (by omega), if_pos hsw14, vX_n ht2]))
    · refine zr_tab_in (pc := 14) (tgt := 86) dX10_tramp_14 (by rw [hsw14]; decide) (by rw [hsw14]; decide) (off := 72) (by rw [hsw14]; decide +kernel) (by decide) ?_
      refine zr_aload_n (pc := 86) dX10_tramp_86 rfl rfl ?_
      refine zr_getR (pc := 87) fX10_33 lo_0 rfl rfl dX10_tramp_87 ?_
      refine zr_getR (pc := 90) fX10_146 lo_17 rfl rfl dX10_tramp_90 ?_
      refine zr_iload_n (pc := 93) dX10_tramp_93 rfl rfl ?_
      refine zr_iaload (pc := 94) lo_21 (by omega) dX10_tramp_94 ?_
      exact zr_ireturn (pc := 95) dX10_tramp_95 rfl (zq_eq ek (by rw [if_neg (by omega), if_neg (by omega), if_neg (by omega), if_pos hsw14, vX_h ht2]))
    · refine zr_tab_in (pc := 14) (tgt := 96) dX10_tramp_14 (by rw [hsw14]; decide) (by rw [hsw14]; decide) (off := 82) (by rw [hsw14]; decide +kernel) (by decide) ?_
      refine zr_aload_n (pc := 96) dX10_tramp_96 rfl rfl ?_
      refine zr_getR (pc := 97) fX10_33 lo_0 rfl rfl dX10_tramp_97 ?_
      refine zr_iload_n (pc := 100) dX10_tramp_100 rfl rfl ?_
      refine zr_inv1I (pc := 101) rfl sX10_149 lo_17 rfl rfl rfl dX10_tramp_101 ?_
      refine ct_X1_speedOf zp_c17 hCw h8 ?_
      exact zr_ireturn (pc := 104) dX10_tramp_104 rfl (zq_eq ek (by rw [if_neg (by omega), if_neg (by omega), if_neg (by omega), if_neg (by omega), if_pos hsw14]))
    · refine zr_tab_in (pc := 14) (tgt := 105) dX10_tramp_14 (by rw [hsw14]; decide) (by rw [hsw14]; decide) (off := 91) (by rw [hsw14]; decide +kernel) (by decide) ?_
      refine zr_aload_n (pc := 105) dX10_tramp_105 rfl rfl ?_
      refine zr_getR (pc := 106) fX10_33 lo_0 rfl rfl dX10_tramp_106 ?_
      refine zr_iload_n (pc := 109) dX10_tramp_109 rfl rfl ?_
      refine zr_inv1I (pc := 110) rfl sX10_152 lo_17 rfl rfl rfl dX10_tramp_110 ?_
      refine ct_X1_hasWalked zp_c17 hCw h8 ?_
      refine zr_ifb_eq (pc := 113) (tgt := 120) dX10_tramp_113 (by decide) (fun h113 => ?_) (fun h113 => ?_)
      · refine zr_iconst (pc := 120) dX10_tramp_120 ?_
        exact zr_ireturn (pc := 121) dX10_tramp_121 rfl (zq_eq ek (by rw [if_neg (by omega), if_neg (by omega), if_neg (by omega), if_neg (by omega), if_neg (by omega), if_pos hsw14]; exact zb_F h113))
      · refine zr_iconst (pc := 116) dX10_tramp_116 ?_
        refine zr_goto (pc := 117) (tgt := 121) dX10_tramp_117 (by decide) ?_
        exact zr_ireturn (pc := 121) dX10_tramp_121 rfl (zq_eq ek (by rw [if_neg (by omega), if_neg (by omega), if_neg (by omega), if_neg (by omega), if_neg (by omega), if_pos hsw14]; exact zb_T h113))
    · refine zr_tab_in (pc := 14) (tgt := 122) dX10_tramp_14 (by rw [hsw14]; decide) (by rw [hsw14]; decide) (off := 108) (by rw [hsw14]; decide +kernel) (by decide) ?_
      refine zr_aload_n (pc := 122) dX10_tramp_122 rfl rfl ?_
      refine zr_getR (pc := 123) fX10_33 lo_0 rfl rfl dX10_tramp_123 ?_
      refine zr_iload_n (pc := 126) dX10_tramp_126 rfl rfl ?_
      refine zr_inv1I (pc := 127) rfl sX10_155 lo_17 rfl rfl rfl dX10_tramp_127 ?_
      refine ct_X1_isHummock zp_c17 hCw h8 ?_
      refine zr_ifb_eq (pc := 130) (tgt := 137) dX10_tramp_130 (by decide) (fun h130 => ?_) (fun h130 => ?_)
      · refine zr_iconst (pc := 137) dX10_tramp_137 ?_
        exact zr_ireturn (pc := 138) dX10_tramp_138 rfl (zq_eq ek (by rw [if_neg (by omega), if_neg (by omega), if_neg (by omega), if_neg (by omega), if_neg (by omega), if_neg (by omega), if_pos hsw14]; exact zb_F h130))
      · refine zr_iconst (pc := 133) dX10_tramp_133 ?_
        refine zr_goto (pc := 134) (tgt := 138) dX10_tramp_134 (by decide) ?_
        exact zr_ireturn (pc := 138) dX10_tramp_138 rfl (zq_eq ek (by rw [if_neg (by omega), if_neg (by omega), if_neg (by omega), if_neg (by omega), if_neg (by omega), if_neg (by omega), if_pos hsw14]; exact zb_T h130))
    · refine zr_tab_out (pc := 14) (tgt := 139) dX10_tramp_14 (by rw [zw_id (by omega) (by omega)]; exact hsw14) (by decide) ?_
      refine zr_bipush (pc := 139) dX10_tramp_139 (by decide) ?_
      exact zr_ireturn (pc := 141) dX10_tramp_141 rfl (zq_eq ek (by rw [if_neg (by omega), if_neg (by omega), if_neg (by omega), if_neg (by omega), if_neg (by omega), if_neg (by omega), if_neg (by omega)]))
  · refine zr_iconst (pc := 11) dX10_tramp_11 ?_
    exact zr_ireturn (pc := 12) dX10_tramp_12 rfl (zq_eq (h M (fun _ _ _ => rfl) hR) (by unfold aTramp; rw [← hcv, if_pos h8]))

set_option maxRecDepth 100000 in
set_option maxHeartbeats 4000000 in
theorem ct_X10_at {g : zt_G} {M : zm_M} {σ : Sg} {q : Int → zm_M → Prop} (hR : RX σ M) (hW : SW σ) {p : Int} (hp : zi p) (h : ∀ M2, frX M M2 → RX σ M2 → q (aAt p (sL σ)) M2) : zc_K g yX10_at mX10_at [zv_r 0, zv_i p] M (zq_I q) := by
  refine zc_of (ls := [some (zv_r 0), some (zv_i p)]) (by decide) rfl ⟨rfl, rfl⟩ (Nat.le_of_ble_eq_true rfl) rfl ?_
  obtain ⟨hT, hl, hcv, hA, hK, hS, hD⟩ := id hR
  obtain ⟨wT, wTx, wL, ⟨wC, wZ⟩, wA, wK, wS⟩ := id hW
  have hLw : LW (lvX M 13) := by rw [hl]; exact wL
  have hCw : CW (cvX M 17) := by rw [hcv]; exact wC
  have hw0 := wXt hCw
  have hL0 := yXk hLw
  have hk1 : M 13 3 = (sL σ).1 := by rw [← hl]; rfl
  have ht1 : M 17 5 = ct (sC σ) := by rw [← hcv]; rfl
  have hT1 := hT.1
  refine zr_iload_n (pc := 0) dX10_at_0 rfl rfl ?_
  refine zr_stat1I (pc := 1) rfl sX10_158 rfl rfl dX10_at_1 ?_
  refine ct_X10_isPlace hp ?_
  refine zr_ifb_ne (pc := 4) (tgt := 9) dX10_at_4 (by decide) (fun h4 => ?_) (fun h4 => ?_)
  · refine zr_aload_n (pc := 9) dX10_at_9 rfl rfl ?_
    refine zr_getR (pc := 10) fX10_26 lo_0 rfl rfl dX10_at_10 ?_
    refine zr_iload_n (pc := 13) dX10_at_13 rfl rfl ?_
    refine zr_inv1I (pc := 14) rfl sX10_161 lo_13 rfl rfl rfl dX10_at_14 ?_
    refine ct_X3_kilnAt zp_l13 hLw hp ?_
    exact zr_ireturn (pc := 17) dX10_at_17 rfl (zq_eq (h M (fun _ _ _ => rfl) hR) (by unfold aAt; rw [if_neg (fun y => y h4), hl]))
  · refine zr_iconst (pc := 7) dX10_at_7 ?_
    exact zr_ireturn (pc := 8) dX10_at_8 rfl (zq_eq (h M (fun _ _ _ => rfl) hR) (by unfold aAt; rw [if_pos h4]))

set_option maxRecDepth 100000 in
set_option maxHeartbeats 4000000 in
theorem ct_X10_night {g : zt_G} {M : zm_M} {σ : Sg} {q : Int → zm_M → Prop} (hR : RX σ M) (hW : SW σ) (h : ∀ M2, frX M M2 → RX (oNight σ).2 M2 → q (oNight σ).1 M2) : zc_K g yX10_night mX10_night [zv_r 0] M (zq_I q) := by
  refine zc_of (ls := [some (zv_r 0)]) (by decide) rfl ⟨rfl, rfl⟩ (Nat.le_of_ble_eq_true rfl) rfl ?_
  obtain ⟨hT, hl, hcv, hA, hK, hS, hD⟩ := id hR
  obtain ⟨wT, wTx, wL, ⟨wC, wZ⟩, wA, wK, wS⟩ := id hW
  have hLw : LW (lvX M 13) := by rw [hl]; exact wL
  have hCw : CW (cvX M 17) := by rw [hcv]; exact wC
  have hw0 := wXt hCw
  have hL0 := yXk hLw
  have hk1 : M 13 3 = (sL σ).1 := by rw [← hl]; rfl
  have ht1 : M 17 5 = ct (sC σ) := by rw [← hcv]; rfl
  have hT1 := hT.1
  refine zr_aload_n (pc := 0) dX10_night_0 rfl rfl ?_
  refine zr_getR (pc := 1) fX10_43 lo_0 rfl rfl dX10_night_1 ?_
  refine zr_aload_n (pc := 4) dX10_night_4 rfl rfl ?_
  refine zr_getR (pc := 5) fX10_33 lo_0 rfl rfl dX10_night_5 ?_
  refine zr_inv1V (pc := 8) rfl sX10_164 lo_27 rfl rfl rfl dX10_night_8 ?_
  refine ct_X0_push hA wA.1 hCw (fun M1 hf1 hA1 => ?_)
  have ec1 : cvX M1 17 = cvX M 17 := cvX_fr (fun k i a b => hf1 k i (by omega))
  have hCw1 : CW (cvX M1 17) := by rw [ec1]; exact hCw
  have el1 : lvX M1 13 = lvX M 13 := lvX_fr (fun k i a b => hf1 k i (by omega))
  have hLw1 : LW (lvX M1 13) := by rw [el1]; exact hLw
  rw [hcv] at hA1
  refine zr_aload_n (pc := 11) dX10_night_11 rfl rfl ?_
  refine zr_getR (pc := 12) fX10_33 lo_0 rfl rfl dX10_night_12 ?_
  refine zr_aload_n (pc := 15) dX10_night_15 rfl rfl ?_
  refine zr_getR (pc := 16) fX10_26 lo_0 rfl rfl dX10_night_16 ?_
  refine zr_iconst (pc := 19) dX10_night_19 ?_
  refine zr_inv2V (pc := 20) rfl sX10_167 lo_17 rfl rfl rfl dX10_night_20 ?_
  refine ct_X1_passNight zp_c17 zp_l13 (Or.inl (by decide)) hCw1 hLw1 ⟨by decide, by decide⟩ (fun M2 hf2 hv2 => ?_)
  have hCw2 : CW (cvX M2 17) := by rw [hv2]; exact CW_nit hLw1 hCw1
  refine zr_aload_n (pc := 23) dX10_night_23 rfl rfl ?_
  refine zr_getR (pc := 24) fX10_33 lo_0 rfl rfl dX10_night_24 ?_
  refine zr_inv0I (pc := 27) rfl sX10_171 lo_17 rfl rfl rfl dX10_night_27 ?_
  refine ct_X1_hummocks zp_c17 hCw2 ?_
  refine zr_stat1I (pc := 30) rfl sX10_175 rfl rfl dX10_night_30 ?_
  have hb := humB_in hCw2
  refine ct_bitCount (by omega) ?_
  exact zr_ireturn (pc := 33) dX10_night_33 rfl (zq_eq (h _ (fun k i a => by rw [hf2 k i (by omega), hf1 k i (by omega)]) (RX_act hR (fun k i a b c => by rw [hf2 k i (by omega), hf1 k i b]) (by rw [hv2, ec1, el1, hcv, hl]) (by
      refine ⟨by rw [hf2 27 2 (by decide)]; exact hA1.1, fun j a b => ?_⟩
      rw [hf2 28 j (by decide), hf2 29 j (by decide)]
      exact hA1.2 j a b))) (by unfold oNight; rw [hv2, ec1, el1, hcv, hl]))

set_option maxRecDepth 100000 in
set_option maxHeartbeats 4000000 in
theorem ct_X10_walk {g : zt_G} {M : zm_M} {σ : Sg} {q : Int → zm_M → Prop} (hR : RX σ M) (hW : SW σ) {t p : Int} (ht : zi t) (hp : zi p) (h : ∀ M2, frX M M2 → RX (oWalk t p σ).2 M2 → q (oWalk t p σ).1 M2) : zc_K g yX10_walk mX10_walk [zv_r 0, zv_i t, zv_i p] M (zq_I q) := by
  refine zc_of (ls := [some (zv_r 0), some (zv_i t), some (zv_i p), none]) (by decide) rfl ⟨rfl, rfl⟩ (Nat.le_of_ble_eq_true rfl) rfl ?_
  obtain ⟨hT, hl, hcv, hA, hK, hS, hD⟩ := id hR
  obtain ⟨wT, wTx, wL, ⟨wC, wZ⟩, wA, wK, wS⟩ := id hW
  have hLw : LW (lvX M 13) := by rw [hl]; exact wL
  have hCw : CW (cvX M 17) := by rw [hcv]; exact wC
  have hw0 := wXt hCw
  have hL0 := yXk hLw
  have hk1 : M 13 3 = (sL σ).1 := by rw [← hl]; rfl
  have ht1 : M 17 5 = ct (sC σ) := by rw [← hcv]; rfl
  have hT1 := hT.1
  refine zr_aload_n (pc := 0) dX10_walk_0 rfl rfl ?_
  refine zr_getR (pc := 1) fX10_33 lo_0 rfl rfl dX10_walk_1 ?_
  refine zr_iload_n (pc := 4) dX10_walk_4 rfl rfl ?_
  refine zr_inv1I (pc := 5) rfl sX10_138 lo_17 rfl rfl rfl dX10_walk_5 ?_
  refine ct_X1_has zp_c17 hCw ht ?_
  refine zr_ifb_eq (pc := 8) (tgt := 18) dX10_walk_8 (by decide) (fun h8 => ?_) (fun h8 => ?_)
  · refine zr_iconst (pc := 18) dX10_walk_18 ?_
    exact zr_ireturn (pc := 19) dX10_walk_19 rfl (zq_eq (h M (fun _ _ _ => rfl) (by unfold oWalk; rw [if_pos (Or.inl (by rw [← hcv]; exact h8))]; exact hR)) (by unfold oWalk; rw [if_pos (Or.inl (by rw [← hcv]; exact h8))]))
  · refine zr_iload_n (pc := 11) dX10_walk_11 rfl rfl ?_
    refine zr_stat1I (pc := 12) rfl sX10_158 rfl rfl dX10_walk_12 ?_
    refine ct_X10_isPlace hp ?_
    refine zr_ifb_ne (pc := 15) (tgt := 20) dX10_walk_15 (by decide) (fun h15 => ?_) (fun h15 => ?_)
    · refine zr_aload_n (pc := 20) dX10_walk_20 rfl rfl ?_
      refine zr_getR (pc := 21) fX10_33 lo_0 rfl rfl dX10_walk_21 ?_
      refine zr_iload_n (pc := 24) dX10_walk_24 rfl rfl ?_
      refine zr_iload_n (pc := 25) dX10_walk_25 rfl rfl ?_
      refine zr_inv2I (pc := 26) rfl sX10_180 lo_17 rfl rfl rfl dX10_walk_26 ?_
      refine ct_X1_mayGo zp_c17 hCw ht hp ?_
      rw [hcv]
      refine zr_ifb_ne (pc := 29) (tgt := 35) dX10_walk_29 (by decide) (fun h29 => ?_) (fun h29 => ?_)
      · have h8b : cHas (sC σ) t := h29.1
        have ht2 : 0 ≤ t ∧ t < M 17 5 := by rw [ht1]; exact h8b
        have hy : (0 ≤ M 18 t ∧ M 18 t ≤ 9) ∧ (0 ≤ M 19 t ∧ M 19 t ≤ 3) ∧ (0 ≤ M 20 t ∧ M 20 t < 64) ∧ (0 ≤ M 21 t ∧ M 21 t ≤ 9) := wX hCw ht2
        refine zr_iload_n (pc := 35) dX10_walk_35 rfl rfl ?_
        refine zr_aload_n (pc := 36) dX10_walk_36 rfl rfl ?_
        refine zr_getR (pc := 37) fX10_33 lo_0 rfl rfl dX10_walk_37 ?_
        refine zr_getR (pc := 40) fX10_139 lo_17 rfl rfl dX10_walk_40 ?_
        refine zr_iload_n (pc := 43) dX10_walk_43 rfl rfl ?_
        refine zr_iaload (pc := 44) lo_18 (by omega) dX10_walk_44 ?_
        refine zr_isub (pc := 45) dX10_walk_45 ?_
        refine zr_mabs (pc := 46) rfl sX10_184 rfl dX10_walk_46 ?_
        rw [show (if 0 ≤ zw (p - M 18 t) then p - M 18 t else 0 - (p - M 18 t)) = (if p ≤ M 18 t then M 18 t - p else p - M 18 t) from by rw [zw_id (by omega) (by omega)]; split <;> split <;> omega, show M 18 t = cp (sC σ) t from by rw [← hcv]; exact (vX_p ht2).symm]
        refine zr_istore_n (pc := 49) dX10_walk_49 rfl (Nat.le_of_ble_eq_true rfl) rfl ?_
        refine zr_aload_n (pc := 50) dX10_walk_50 rfl rfl ?_
        refine zr_getR (pc := 51) fX10_43 lo_0 rfl rfl dX10_walk_51 ?_
        refine zr_aload_n (pc := 54) dX10_walk_54 rfl rfl ?_
        refine zr_getR (pc := 55) fX10_33 lo_0 rfl rfl dX10_walk_55 ?_
        refine zr_inv1V (pc := 58) rfl sX10_164 lo_27 rfl rfl rfl dX10_walk_58 ?_
        refine ct_X0_push hA wA.1 hCw (fun M1 hf1 hA1 => ?_)
        have ec1 : cvX M1 17 = cvX M 17 := cvX_fr (fun k i a b => hf1 k i (by omega))
        have hCw1 : CW (cvX M1 17) := by rw [ec1]; exact hCw
        have el1 : lvX M1 13 = lvX M 13 := lvX_fr (fun k i a b => hf1 k i (by omega))
        have hLw1 : LW (lvX M1 13) := by rw [el1]; exact hLw
        rw [hcv] at hA1
        refine zr_aload_n (pc := 61) dX10_walk_61 rfl rfl ?_
        refine zr_getR (pc := 62) fX10_33 lo_0 rfl rfl dX10_walk_62 ?_
        refine zr_iload_n (pc := 65) dX10_walk_65 rfl rfl ?_
        refine zr_iload_n (pc := 66) dX10_walk_66 rfl rfl ?_
        refine zr_inv2V (pc := 67) rfl sX10_189 lo_17 rfl rfl rfl dX10_walk_67 ?_
        refine ct_X1_goTo zp_c17 hCw1 (by rw [hf1 17 5 (by decide)]; exact ht2) (fun M2 hf2 hv2 => ?_)
        refine zr_iload_n (pc := 70) dX10_walk_70 rfl rfl ?_
        exact zr_ireturn (pc := 71) dX10_walk_71 rfl (zq_eq (h _ (fun k i a => by rw [hf2 k i (by omega), hf1 k i (by omega)]) (by unfold oWalk; rw [if_neg (fun y => y.elim (fun z => z h8b) (fun z => z h15)), if_neg (fun y => y h29)]; exact (RX_act hR (fun k i a b c => by rw [hf2 k i (by omega), hf1 k i b]) (by rw [hv2, ec1, hcv]) (by
            refine ⟨by rw [hf2 27 2 (by decide)]; exact hA1.1, fun j a b => ?_⟩
            rw [hf2 28 j (by decide), hf2 29 j (by decide)]
            exact hA1.2 j a b)))) (by unfold oWalk; rw [if_neg (show ¬ (¬ cHas (sC σ) t ∨ ¬ (0 ≤ p ∧ p < 10)) from fun y => y.elim (fun z => z h8b) (fun z => z h15)), if_neg (show ¬ ¬ cMay (sC σ) t p from fun y => y h29)]))
      · refine zr_bipush (pc := 32) dX10_walk_32 (by decide) ?_
        exact zr_ireturn (pc := 34) dX10_walk_34 rfl (zq_eq (h M (fun _ _ _ => rfl) (by unfold oWalk; rw [if_neg (fun y => y.elim (fun z => z (by rw [← hcv]; exact h8)) (fun z => z h15)), if_pos h29]; exact hR)) (by unfold oWalk; rw [if_neg (fun y => y.elim (fun z => z (by rw [← hcv]; exact h8)) (fun z => z h15)), if_pos h29]))
    · refine zr_iconst (pc := 18) dX10_walk_18 ?_
      exact zr_ireturn (pc := 19) dX10_walk_19 rfl (zq_eq (h M (fun _ _ _ => rfl) (by unfold oWalk; rw [if_pos (Or.inr h15)]; exact hR)) (by unfold oWalk; rw [if_pos (Or.inr h15)]))

set_option maxRecDepth 100000 in
set_option maxHeartbeats 4000000 in
theorem ct_X10_tell {g : zt_G} {M : zm_M} {σ : Sg} {q : Int → zm_M → Prop} (hR : RX σ M) (hW : SW σ) {a b : Int} (ha : zi a) (hb : zi b) (h : ∀ M2, frX M M2 → RX (oTell a b σ).2 M2 → q (oTell a b σ).1 M2) : zc_K g yX10_tell mX10_tell [zv_r 0, zv_i a, zv_i b] M (zq_I q) := by
  refine zc_of (ls := [some (zv_r 0), some (zv_i a), some (zv_i b)]) (by decide) rfl ⟨rfl, rfl⟩ (Nat.le_of_ble_eq_true rfl) rfl ?_
  obtain ⟨hT, hl, hcv, hA, hK, hS, hD⟩ := id hR
  obtain ⟨wT, wTx, wL, ⟨wC, wZ⟩, wA, wK, wS⟩ := id hW
  have hLw : LW (lvX M 13) := by rw [hl]; exact wL
  have hCw : CW (cvX M 17) := by rw [hcv]; exact wC
  have hw0 := wXt hCw
  have hL0 := yXk hLw
  have hk1 : M 13 3 = (sL σ).1 := by rw [← hl]; rfl
  have ht1 : M 17 5 = ct (sC σ) := by rw [← hcv]; rfl
  have hT1 := hT.1
  refine zr_aload_n (pc := 0) dX10_tell_0 rfl rfl ?_
  refine zr_getR (pc := 1) fX10_33 lo_0 rfl rfl dX10_tell_1 ?_
  refine zr_iload_n (pc := 4) dX10_tell_4 rfl rfl ?_
  refine zr_inv1I (pc := 5) rfl sX10_138 lo_17 rfl rfl rfl dX10_tell_5 ?_
  refine ct_X1_has zp_c17 hCw ha ?_
  rw [hcv]
  refine zr_ifb_eq (pc := 8) (tgt := 22) dX10_tell_8 (by decide) (fun h8 => ?_) (fun h8 => ?_)
  · refine zr_iconst (pc := 22) dX10_tell_22 ?_
    exact zr_ireturn (pc := 23) dX10_tell_23 rfl (zq_eq (h M (fun _ _ _ => rfl) (by unfold oTell; rw [if_pos (Or.inl h8)]; exact hR)) (by unfold oTell; rw [if_pos (Or.inl h8)]))
  · refine zr_aload_n (pc := 11) dX10_tell_11 rfl rfl ?_
    refine zr_getR (pc := 12) fX10_33 lo_0 rfl rfl dX10_tell_12 ?_
    refine zr_iload_n (pc := 15) dX10_tell_15 rfl rfl ?_
    refine zr_inv1I (pc := 16) rfl sX10_138 lo_17 rfl rfl rfl dX10_tell_16 ?_
    refine ct_X1_has zp_c17 hCw hb ?_
    rw [hcv]
    refine zr_ifb_ne (pc := 19) (tgt := 24) dX10_tell_19 (by decide) (fun h19 => ?_) (fun h19 => ?_)
    · refine zr_iload_n (pc := 24) dX10_tell_24 rfl rfl ?_
      refine zr_iload_n (pc := 25) dX10_tell_25 rfl rfl ?_
      refine zi_icmp_ne (pc := 26) (tgt := 32) dX10_tell_26 (by decide) (by omega) (by omega) (fun h26 => ?_) (fun h26 => ?_)
      · refine zr_aload_n (pc := 32) dX10_tell_32 rfl rfl ?_
        refine zr_getR (pc := 33) fX10_33 lo_0 rfl rfl dX10_tell_33 ?_
        refine zr_iload_n (pc := 36) dX10_tell_36 rfl rfl ?_
        refine zr_iload_n (pc := 37) dX10_tell_37 rfl rfl ?_
        refine zr_inv2I (pc := 38) rfl sX10_193 lo_17 rfl rfl rfl dX10_tell_38 ?_
        refine ct_X1_mayHear zp_c17 hCw ha hb ?_
        rw [hcv]
        refine zr_ifb_ne (pc := 41) (tgt := 47) dX10_tell_41 (by decide) (fun h41 => ?_) (fun h41 => ?_)
        · refine zr_aload_n (pc := 47) dX10_tell_47 rfl rfl ?_
          refine zr_getR (pc := 48) fX10_43 lo_0 rfl rfl dX10_tell_48 ?_
          refine zr_aload_n (pc := 51) dX10_tell_51 rfl rfl ?_
          refine zr_getR (pc := 52) fX10_33 lo_0 rfl rfl dX10_tell_52 ?_
          refine zr_inv1V (pc := 55) rfl sX10_164 lo_27 rfl rfl rfl dX10_tell_55 ?_
          refine ct_X0_push hA wA.1 hCw (fun M1 hf1 hA1 => ?_)
          have ec1 : cvX M1 17 = cvX M 17 := cvX_fr (fun k i a b => hf1 k i (by omega))
          have hCw1 : CW (cvX M1 17) := by rw [ec1]; exact hCw
          have el1 : lvX M1 13 = lvX M 13 := lvX_fr (fun k i a b => hf1 k i (by omega))
          have hLw1 : LW (lvX M1 13) := by rw [el1]; exact hLw
          rw [hcv] at hA1
          refine zr_aload_n (pc := 58) dX10_tell_58 rfl rfl ?_
          refine zr_getR (pc := 59) fX10_33 lo_0 rfl rfl dX10_tell_59 ?_
          refine zr_iload_n (pc := 62) dX10_tell_62 rfl rfl ?_
          refine zr_iload_n (pc := 63) dX10_tell_63 rfl rfl ?_
          refine zr_inv2V (pc := 64) rfl sX10_196 lo_17 rfl rfl rfl dX10_tell_64 ?_
          refine ct_X1_hear zp_c17 hCw1 (by rw [hf1 17 5 (by decide), ht1]; exact h8) (by rw [hf1 17 5 (by decide), ht1]; exact h19) (fun M2 hf2 hv2 => ?_)
          have hCw2 : CW (cvX M2 17) := by rw [hv2]; exact CW_chr hCw1
          have hb2 : 0 ≤ b ∧ b < M2 17 5 := by
            have e9 : M2 17 5 = ct (chr a b (cvX M1 17)) := by rw [← hv2]; rfl
            rw [e9, ec1, hcv]
            exact h19
          have hy2 : (0 ≤ M2 18 b ∧ M2 18 b ≤ 9) ∧ (0 ≤ M2 19 b ∧ M2 19 b ≤ 3) ∧ (0 ≤ M2 20 b ∧ M2 20 b < 64) ∧ (0 ≤ M2 21 b ∧ M2 21 b ≤ 9) := wX hCw2 hb2
          refine zr_aload_n (pc := 67) dX10_tell_67 rfl rfl ?_
          refine zr_getR (pc := 68) fX10_33 lo_0 rfl rfl dX10_tell_68 ?_
          refine zr_getR (pc := 71) fX10_143 lo_17 rfl rfl dX10_tell_71 ?_
          refine zr_iload_n (pc := 74) dX10_tell_74 rfl rfl ?_
          refine zr_iaload (pc := 75) lo_20 (by have := wXt hCw2; omega) dX10_tell_75 ?_
          refine zr_stat1I (pc := 76) rfl sX10_175 rfl rfl dX10_tell_76 ?_
          refine ct_bitCount (by omega) ?_
          exact zr_ireturn (pc := 79) dX10_tell_79 rfl (zq_eq (h _ (fun k i a => by rw [hf2 k i (by omega), hf1 k i (by omega)]) (by unfold oTell; rw [if_neg (fun y => y.elim (fun z => z h8) (fun z => z h19)), if_neg h26, if_neg (fun y => y h41)]; exact (RX_act hR (fun k i a b c => by rw [hf2 k i (by omega), hf1 k i b]) (by rw [hv2, ec1, hcv]) (by
              refine ⟨by rw [hf2 27 2 (by decide)]; exact hA1.1, fun j a b => ?_⟩
              rw [hf2 28 j (by decide), hf2 29 j (by decide)]
              exact hA1.2 j a b)))) (by unfold oTell; rw [if_neg (fun y => y.elim (fun z => z h8) (fun z => z h19)), if_neg h26, if_neg (fun y => y h41), ← vX_n hb2, hv2, ec1, hcv]))
        · refine zr_bipush (pc := 44) dX10_tell_44 (by decide) ?_
          exact zr_ireturn (pc := 46) dX10_tell_46 rfl (zq_eq (h M (fun _ _ _ => rfl) (by unfold oTell; rw [if_neg (fun y => y.elim (fun z => z h8) (fun z => z h19)), if_neg h26, if_pos h41]; exact hR)) (by unfold oTell; rw [if_neg (fun y => y.elim (fun z => z h8) (fun z => z h19)), if_neg h26, if_pos h41]))
      · refine zr_bipush (pc := 29) dX10_tell_29 (by decide) ?_
        exact zr_ireturn (pc := 31) dX10_tell_31 rfl (zq_eq (h M (fun _ _ _ => rfl) (by unfold oTell; rw [if_neg (fun y => y.elim (fun z => z h8) (fun z => z h19)), if_pos h26]; exact hR)) (by unfold oTell; rw [if_neg (fun y => y.elim (fun z => z h8) (fun z => z h19)), if_pos h26]))
    · refine zr_iconst (pc := 22) dX10_tell_22 ?_
      exact zr_ireturn (pc := 23) dX10_tell_23 rfl (zq_eq (h M (fun _ _ _ => rfl) (by unfold oTell; rw [if_pos (Or.inr h19)]; exact hR)) (by unfold oTell; rw [if_pos (Or.inr h19)]))

set_option maxRecDepth 100000 in
set_option maxHeartbeats 4000000 in
theorem ct_X10_wash {g : zt_G} {M : zm_M} {σ : Sg} {q : Int → zm_M → Prop} (hR : RX σ M) (hW : SW σ) {t : Int} (ht : zi t) (h : ∀ M2, frX M M2 → RX (oWash t σ).2 M2 → q (oWash t σ).1 M2) : zc_K g yX10_wash mX10_wash [zv_r 0, zv_i t] M (zq_I q) := by
  refine zc_of (ls := [some (zv_r 0), some (zv_i t), none]) (by decide) rfl ⟨rfl, rfl⟩ (Nat.le_of_ble_eq_true rfl) rfl ?_
  obtain ⟨hT, hl, hcv, hA, hK, hS, hD⟩ := id hR
  obtain ⟨wT, wTx, wL, ⟨wC, wZ⟩, wA, wK, wS⟩ := id hW
  have hLw : LW (lvX M 13) := by rw [hl]; exact wL
  have hCw : CW (cvX M 17) := by rw [hcv]; exact wC
  have hw0 := wXt hCw
  have hL0 := yXk hLw
  have hk1 : M 13 3 = (sL σ).1 := by rw [← hl]; rfl
  have ht1 : M 17 5 = ct (sC σ) := by rw [← hcv]; rfl
  have hT1 := hT.1
  refine zr_aload_n (pc := 0) dX10_wash_0 rfl rfl ?_
  refine zr_getR (pc := 1) fX10_33 lo_0 rfl rfl dX10_wash_1 ?_
  refine zr_iload_n (pc := 4) dX10_wash_4 rfl rfl ?_
  refine zr_inv1I (pc := 5) rfl sX10_138 lo_17 rfl rfl rfl dX10_wash_5 ?_
  refine ct_X1_has zp_c17 hCw ht ?_
  rw [hcv]
  refine zr_ifb_ne (pc := 8) (tgt := 13) dX10_wash_8 (by decide) (fun h8 => ?_) (fun h8 => ?_)
  · refine zr_aload_n (pc := 13) dX10_wash_13 rfl rfl ?_
    refine zr_getR (pc := 14) fX10_33 lo_0 rfl rfl dX10_wash_14 ?_
    refine zr_iload_n (pc := 17) dX10_wash_17 rfl rfl ?_
    refine zr_inv1I (pc := 18) rfl sX10_199 lo_17 rfl rfl rfl dX10_wash_18 ?_
    refine ct_X1_mayBathe zp_c17 hCw ht ?_
    rw [hcv]
    refine zr_ifb_ne (pc := 21) (tgt := 27) dX10_wash_21 (by decide) (fun h21 => ?_) (fun h21 => ?_)
    · have ht2 : 0 ≤ t ∧ t < M 17 5 := by rw [ht1]; exact h8
      have hy : (0 ≤ M 18 t ∧ M 18 t ≤ 9) ∧ (0 ≤ M 19 t ∧ M 19 t ≤ 3) ∧ (0 ≤ M 20 t ∧ M 20 t < 64) ∧ (0 ≤ M 21 t ∧ M 21 t ≤ 9) := wX hCw ht2
      refine zr_aload_n (pc := 27) dX10_wash_27 rfl rfl ?_
      refine zr_getR (pc := 28) fX10_33 lo_0 rfl rfl dX10_wash_28 ?_
      refine zr_getR (pc := 31) fX10_143 lo_17 rfl rfl dX10_wash_31 ?_
      refine zr_iload_n (pc := 34) dX10_wash_34 rfl rfl ?_
      refine zr_iaload (pc := 35) lo_20 (by omega) dX10_wash_35 ?_
      refine zr_stat1I (pc := 36) rfl sX10_175 rfl rfl dX10_wash_36 ?_
      refine ct_bitCount (by omega) ?_
      refine zr_istore_n (pc := 39) dX10_wash_39 rfl (Nat.le_of_ble_eq_true rfl) rfl ?_
      refine zr_aload_n (pc := 40) dX10_wash_40 rfl rfl ?_
      refine zr_getR (pc := 41) fX10_43 lo_0 rfl rfl dX10_wash_41 ?_
      refine zr_aload_n (pc := 44) dX10_wash_44 rfl rfl ?_
      refine zr_getR (pc := 45) fX10_33 lo_0 rfl rfl dX10_wash_45 ?_
      refine zr_inv1V (pc := 48) rfl sX10_164 lo_27 rfl rfl rfl dX10_wash_48 ?_
      refine ct_X0_push hA wA.1 hCw (fun M1 hf1 hA1 => ?_)
      have ec1 : cvX M1 17 = cvX M 17 := cvX_fr (fun k i a b => hf1 k i (by omega))
      have hCw1 : CW (cvX M1 17) := by rw [ec1]; exact hCw
      have el1 : lvX M1 13 = lvX M 13 := lvX_fr (fun k i a b => hf1 k i (by omega))
      have hLw1 : LW (lvX M1 13) := by rw [el1]; exact hLw
      rw [hcv] at hA1
      refine zr_aload_n (pc := 51) dX10_wash_51 rfl rfl ?_
      refine zr_getR (pc := 52) fX10_33 lo_0 rfl rfl dX10_wash_52 ?_
      refine zr_iload_n (pc := 55) dX10_wash_55 rfl rfl ?_
      refine zr_inv1V (pc := 56) rfl sX10_202 lo_17 rfl rfl rfl dX10_wash_56 ?_
      refine ct_X1_bathe zp_c17 hCw1 (by rw [hf1 17 5 (by decide)]; exact ht2) (fun M2 hf2 hv2 => ?_)
      refine zr_iload_n (pc := 59) dX10_wash_59 rfl rfl ?_
      exact zr_ireturn (pc := 60) dX10_wash_60 rfl (zq_eq (h _ (fun k i a => by rw [hf2 k i (by omega), hf1 k i (by omega)]) (by unfold oWash; rw [if_neg (fun y => y h8), if_neg (fun y => y h21)]; exact (RX_act hR (fun k i a b c => by rw [hf2 k i (by omega), hf1 k i b]) (by rw [hv2, ec1, hcv]) (by
          refine ⟨by rw [hf2 27 2 (by decide)]; exact hA1.1, fun j a b => ?_⟩
          rw [hf2 28 j (by decide), hf2 29 j (by decide)]
          exact hA1.2 j a b)))) (by unfold oWash; rw [if_neg (fun y => y h8), if_neg (fun y => y h21), ← hcv, vX_n ht2]))
    · refine zr_bipush (pc := 24) dX10_wash_24 (by decide) ?_
      exact zr_ireturn (pc := 26) dX10_wash_26 rfl (zq_eq (h M (fun _ _ _ => rfl) (by unfold oWash; rw [if_neg (fun y => y h8), if_pos h21]; exact hR)) (by unfold oWash; rw [if_neg (fun y => y h8), if_pos h21]))
  · refine zr_iconst (pc := 11) dX10_wash_11 ?_
    exact zr_ireturn (pc := 12) dX10_wash_12 rfl (zq_eq (h M (fun _ _ _ => rfl) (by unfold oWash; rw [if_pos h8]; exact hR)) (by unfold oWash; rw [if_pos h8]))

set_option maxRecDepth 100000 in
set_option maxHeartbeats 4000000 in
theorem ct_X10_undo {g : zt_G} {M : zm_M} {σ : Sg} {q : Int → zm_M → Prop} (hR : RX σ M) (hW : SW σ) (h : ∀ M2, frX M M2 → RX (oUndo σ).2 M2 → q (oUndo σ).1 M2) : zc_K g yX10_undo mX10_undo [zv_r 0] M (zq_I q) := by
  refine zc_of (ls := [some (zv_r 0)]) (by decide) rfl ⟨rfl, rfl⟩ (Nat.le_of_ble_eq_true rfl) rfl ?_
  obtain ⟨hT, hl, hcv, hA, hK, hS, hD⟩ := id hR
  obtain ⟨wT, wTx, wL, ⟨wC, wZ⟩, wA, wK, wS⟩ := id hW
  have hLw : LW (lvX M 13) := by rw [hl]; exact wL
  have hCw : CW (cvX M 17) := by rw [hcv]; exact wC
  have hw0 := wXt hCw
  have hL0 := yXk hLw
  have hk1 : M 13 3 = (sL σ).1 := by rw [← hl]; rfl
  have ht1 : M 17 5 = ct (sC σ) := by rw [← hcv]; rfl
  have hT1 := hT.1
  have hA1 := hA.1
  have hn := wA.1
  refine zr_aload_n (pc := 0) dX10_undo_0 rfl rfl ?_
  refine zr_getR (pc := 1) fX10_43 lo_0 rfl rfl dX10_undo_1 ?_
  refine zr_getI (pc := 4) (z := 2) fX10_205 lo_27 rfl rfl rfl dX10_undo_4 ?_
  refine zi_if_gt (pc := 7) (tgt := 13) dX10_undo_7 (by decide) (by omega) (fun h7 => ?_) (fun h7 => ?_)
  · refine zr_aload_n (pc := 13) dX10_undo_13 rfl rfl ?_
    refine zr_getR (pc := 14) fX10_43 lo_0 rfl rfl dX10_undo_14 ?_
    refine zr_aload_n (pc := 17) dX10_undo_17 rfl rfl ?_
    refine zr_getR (pc := 18) fX10_33 lo_0 rfl rfl dX10_undo_18 ?_
    refine zr_inv1V (pc := 21) rfl sX10_208 lo_27 rfl rfl rfl dX10_undo_21 ?_
    refine ct_X0_pop hA (by omega) hCw (by rw [hcv]; exact wA.2 _ (by omega) (by omega)) (fun M2 hf2 hA2 hv2 => ?_)
    refine zr_aload_n (pc := 24) dX10_undo_24 rfl rfl ?_
    refine zr_getR (pc := 25) fX10_43 lo_0 rfl rfl dX10_undo_25 ?_
    refine zr_getI (pc := 28) (z := 2) fX10_205 lo_27 rfl rfl rfl dX10_undo_28 ?_
    exact zr_ireturn (pc := 31) dX10_undo_31 rfl (zq_eq (h _ (fun k i a => hf2 k i (by omega) (by omega)) (by
        unfold oUndo
        rw [if_neg (by omega)]
        exact RX_act hR (fun k i a b c => hf2 k i (by omega) a) hv2 hA2)) (by unfold oUndo; rw [if_neg (by omega)]; exact hA2.1))
  · refine zr_bipush (pc := 10) dX10_undo_10 (by decide) ?_
    exact zr_ireturn (pc := 12) dX10_undo_12 rfl (zq_eq (h M (fun _ _ _ => rfl) (by unfold oUndo; rw [if_pos (by omega)]; exact hR)) (by unfold oUndo; rw [if_pos (by omega)]))

