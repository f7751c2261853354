theorem rdA_c {f f2 : Int → Int} : ∀ (n : Nat) (i : Int) (S : Rs), (∀ j, i ≤ j → j < i + n → f j = f2 j) → rdA f n i S = rdA f2 n i S
  | 0, i, S, _ => rfl
  | n + 1, i, S, h => by
    unfold rdA
    rw [h i (by omega) (by omega)]
    cases tkS (f2 i) S with
    | none => rfl
    | some S2 => exact rdA_c n (i + 1) S2 (fun j a b => h j (by omega) (by omega))
theorem bgS_tp {x s tp tp2 : Int} {L : Ln} {C : Cm} : (bgS x (s, tp, L, C) = none ∧ bgS x (s, tp2, L, C) = none) ∨ ∃ s2, s2 ≠ 6 ∧ bgS x (s, tp, L, C) = some (s2, tp, L, C) ∧ bgS x (s, tp2, L, C) = some (s2, tp2, L, C) := by
  unfold bgS
  dsimp only
  split
  · exact Or.inr ⟨2, by decide, rfl, rfl⟩
  · split
    · exact Or.inr ⟨5, by decide, rfl, rfl⟩
    · exact Or.inl ⟨rfl, rfl⟩
theorem tkS_tp {x s tp tp2 : Int} {L : Ln} {C : Cm} (hs : s ≠ 6) : (tkS x (s, tp, L, C) = none ∧ tkS x (s, tp2, L, C) = none) ∨ ∃ s2 t1 t2 L2 C2, (s2 = 6 → t1 = t2) ∧ tkS x (s, tp, L, C) = some (s2, t1, L2, C2) ∧ tkS x (s, tp2, L, C) = some (s2, t2, L2, C2) := by
  unfold tkS
  dsimp only
  split
  · split
    · exact Or.inr ⟨1, tp, tp2, L, C, fun e => absurd e (by decide), rfl, rfl⟩
    · exact Or.inl ⟨rfl, rfl⟩
  split
  · split
    · exact Or.inr ⟨3, tp, tp2, _, _, fun e => absurd e (by decide), rfl, rfl⟩
    · exact Or.inl ⟨rfl, rfl⟩
  split
  · split
    · exact Or.inr ⟨4, tp, tp2, _, _, fun e => absurd e (by decide), rfl, rfl⟩
    · exact Or.inl ⟨rfl, rfl⟩
  split
  · split
    · exact Or.inr ⟨4, tp, tp2, _, _, fun e => absurd e (by decide), rfl, rfl⟩
    · rcases bgS_tp (x := x) (s := s) (tp := tp) (tp2 := tp2) (L := L) (C := C) with h | ⟨s2, h1, h2, h3⟩
      · exact Or.inl h
      · exact Or.inr ⟨s2, tp, tp2, L, C, fun e => absurd e h1, h2, h3⟩
  split
  · split
    · exact Or.inr ⟨6, _, _, _, _, fun _ => rfl, rfl, rfl⟩
    · exact Or.inl ⟨rfl, rfl⟩
  rcases bgS_tp (x := x) (s := s) (tp := tp) (tp2 := tp2) (L := L) (C := C) with h | ⟨s2, h1, h2, h3⟩
  · exact Or.inl h
  · exact Or.inr ⟨s2, tp, tp2, L, C, fun e => absurd e h1, h2, h3⟩
theorem rdA_tp {f : Int → Int} : ∀ (n : Nat) (i s tp tp2 : Int) (L : Ln) (C : Cm), (s = 6 → tp = tp2) → (rdA f n i (s, tp, L, C)).1 = (rdA f n i (s, tp2, L, C)).1 ∧ (rdA f n i (s, tp, L, C)).2.2.2 = (rdA f n i (s, tp2, L, C)).2.2.2
  | 0, i, s, tp, tp2, L, C, _ => ⟨rfl, rfl⟩
  | n + 1, i, s, tp, tp2, L, C, h => by
    by_cases h6 : s = 6
    · rw [h h6]
      exact ⟨rfl, rfl⟩
    · unfold rdA
      rcases tkS_tp (x := f i) (tp := tp) (tp2 := tp2) (L := L) (C := C) h6 with ⟨h1, h2⟩ | ⟨s2, t1, t2, L2, C2, h1, h2, h3⟩
      · rw [h1, h2]
        exact ⟨rfl, rfl⟩
      · rw [h2, h3]
        exact rdA_tp n (i + 1) s2 t1 t2 L2 C2 h1
def rdT (T : Int × (Int → Int)) : Int × Rs := rdO T.2 T.1 0
theorem rdO_T {σ : Sg} {M : zm_M} (h : XT σ M) (hw : 0 ≤ (sT σ).1) (tp : Int) : (rdO (M 2) (M 1 1) tp).1 = (rdT (sT σ)).1 ∧ (rdO (M 2) (M 1 1) tp).2.2.2 = (rdT (sT σ)).2.2.2 := by
  unfold rdT rdO
  rw [h.1, rdA_c (f := M 2) (f2 := (sT σ).2) (sT σ).1.toNat 0 _ (fun j a b => h.2 j a (by omega))]
  exact rdA_tp _ 0 0 tp 0 lO cO (fun e => absurd e (by decide))
def oHill (σ : Sg) : Int × Sg := if ¬ (rdT (sT σ)).1 = -9 then (-3, σ) else (10 * (rdT (sT σ)).2.2.2.1.1 + ct (rdT (sT σ)).2.2.2.2, (sT σ, (rdT (sT σ)).2.2.2.1, (rdT (sT σ)).2.2.2.2, (0, (sA σ).2), ((fun _ => 0), (sK σ).2), sS σ, sD σ))
theorem RW_rd {f : Int → Int} : ∀ (n : Nat) (i : Int) (S : Rs), RW S → RW (rdA f n i S).2
  | 0, i, S, h => h
  | n + 1, i, S, h => by
    unfold rdA
    cases e : tkS (f i) S with
    | none => exact h
    | some S2 => exact RW_rd n (i + 1) S2 (RW_tk h e)
theorem RW_T (T : Int × (Int → Int)) : RW (rdT T).2 := RW_rd _ _ _ (RW_0 0)
theorem rdA_in {f : Int → Int} : ∀ (n : Nat) (i : Int) (S : Rs), (rdA f n i S).1 = -9 ∨ (i ≤ (rdA f n i S).1 ∧ (rdA f n i S).1 ≤ i + n)
  | 0, i, S => by
    unfold rdA
    dsimp only
    split
    · exact Or.inl rfl
    · exact Or.inr ⟨by omega, by omega⟩
  | n + 1, i, S => by
    unfold rdA
    cases tkS (f i) S with
    | none => exact Or.inr ⟨by dsimp only; omega, by dsimp only; omega⟩
    | some S2 =>
      rcases rdA_in (f := f) n (i + 1) S2 with h | ⟨h1, h2⟩
      · exact Or.inl h
      · exact Or.inr ⟨by dsimp only; omega, by dsimp only; omega⟩
theorem rdT_in (T : Int × (Int → Int)) (h : 0 ≤ T.1 ∧ T.1 ≤ 48) : zi (rdT T).1 := by
  rcases rdA_in (f := T.2) T.1.toNat 0 (0, 0, lO, cO) with h1 | ⟨h1, h2⟩
  · show zi (rdA T.2 T.1.toNat 0 (0, 0, lO, cO)).1
    rw [h1]
    decide
  · show zi (rdA T.2 T.1.toNat 0 (0, 0, lO, cO)).1
    omega
set_option maxRecDepth 100000 in
set_option maxHeartbeats 4000000 in
theorem ct_X10_fault {g : zt_G} {M : zm_M} {σ : Sg} {q : Int → zm_M → Prop} (hR : RX σ M) (hW : SW σ) (h : ∀ M2, frX M M2 → RX σ M2 → q ((rdT (sT σ)).1) M2) : zc_K g yX10_fault mX10_fault [zv_r 0] M (zq_I q) := by
  refine zc_of (ls := [some (zv_r 0)]) (by decide) rfl ⟨rfl, rfl⟩ (Nat.le_of_ble_eq_true rfl) rfl ?_
  obtain ⟨hT, hl, hcv, hA, hK, hS, hD⟩ := id hR
  obtain ⟨wT, wTx, wL, ⟨wC, wZ⟩, wA, wK, wS⟩ := id hW
  have hLw : LW (lvX M 13) := by rw [hl]; exact wL
  have hCw : CW (cvX M 17) := by rw [hcv]; exact wC
  have hw0 := wXt hCw
  have hL0 := yXk hLw
  have hk1 : M 13 3 = (sL σ).1 := by rw [← hl]; rfl
  have ht1 : M 17 5 = ct (sC σ) := by rw [← hcv]; rfl
  have hT1 := hT.1
  have htx : ∀ i, 0 ≤ i → i < M 1 1 → 0 ≤ M 2 i ∧ M 2 i ≤ 255 := fun i a b => by rw [hT.2 i a (by omega)]; exact wTx i a (by omega)
  have hro := rdO_T hT wT.1 (M 3 3)
  have hfi := rdT_in (sT σ) wT
  refine zr_aload_n (pc := 0) dX10_fault_0 rfl rfl ?_
  refine zr_getR (pc := 1) fX10_19 lo_0 rfl rfl dX10_fault_1 ?_
  refine zr_aload_n (pc := 4) dX10_fault_4 rfl rfl ?_
  refine zr_getR (pc := 5) fX10_10 lo_0 rfl rfl dX10_fault_5 ?_
  refine zr_inv1I (pc := 8) rfl sX10_94 lo_3 rfl rfl rfl dX10_fault_8 ?_
  refine ct_X5_read (by omega) htx (fun M1 hf1 hz => ?_)
  rw [hro.1]
  exact zr_ireturn (pc := 11) dX10_fault_11 rfl (zq_eq (h M1 (fun k i a => hf1 k i (by omega)) (RX_frs hR (fun k i a b => hf1 k i (by unfold zsc at b; omega)))) rfl)

set_option maxRecDepth 100000 in
set_option maxHeartbeats 4000000 in
theorem ct_X10_hill {g : zt_G} {M : zm_M} {σ : Sg} {q : Int → zm_M → Prop} (hR : RX σ M) (hW : SW σ) (h : ∀ M2, frX M M2 → RX (oHill σ).2 M2 → q (oHill σ).1 M2) : zc_K g yX10_hill mX10_hill [zv_r 0] M (zq_I q) := by
  refine zc_of (ls := [some (zv_r 0)]) (by decide) rfl ⟨rfl, rfl⟩ (Nat.le_of_ble_eq_true rfl) rfl ?_
  obtain ⟨hT, hl, hcv, hA, hK, hS, hD⟩ := id hR
  obtain ⟨wT, wTx, wL, ⟨wC, wZ⟩, wA, wK, wS⟩ := id hW
  have hLw : LW (lvX M 13) := by rw [hl]; exact wL
  have hCw : CW (cvX M 17) := by rw [hcv]; exact wC
  have hw0 := wXt hCw
  have hL0 := yXk hLw
  have hk1 : M 13 3 = (sL σ).1 := by rw [← hl]; rfl
  have ht1 : M 17 5 = ct (sC σ) := by rw [← hcv]; rfl
  have hT1 := hT.1
  have htx : ∀ i, 0 ≤ i → i < M 1 1 → 0 ≤ M 2 i ∧ M 2 i ≤ 255 := fun i a b => by rw [hT.2 i a (by omega)]; exact wTx i a (by omega)
  have hro := rdO_T hT wT.1 (M 3 3)
  have hfi := rdT_in (sT σ) wT
  refine zr_aload_n (pc := 0) dX10_hill_0 rfl rfl ?_
  refine zr_getR (pc := 1) fX10_19 lo_0 rfl rfl dX10_hill_1 ?_
  refine zr_aload_n (pc := 4) dX10_hill_4 rfl rfl ?_
  refine zr_getR (pc := 5) fX10_10 lo_0 rfl rfl dX10_hill_5 ?_
  refine zr_inv1I (pc := 8) rfl sX10_94 lo_3 rfl rfl rfl dX10_hill_8 ?_
  refine ct_X5_read (by omega) htx (fun M1 hf1 hz => ?_)
  rw [hro.1]
  refine zr_bipush (pc := 11) dX10_hill_11 (by decide) ?_
  refine zi_icmp_eq (pc := 13) (tgt := 19) dX10_hill_13 (by decide) (by omega) (by omega) (fun h13 => ?_) (fun h13 => ?_)
  · refine zr_aload_n (pc := 19) dX10_hill_19 rfl rfl ?_
    refine zr_getR (pc := 20) fX10_26 lo_0 rfl rfl dX10_hill_20 ?_
    refine zr_aload_n (pc := 23) dX10_hill_23 rfl rfl ?_
    refine zr_getR (pc := 24) fX10_19 lo_0 rfl rfl dX10_hill_24 ?_
    refine zr_getR (pc := 27) fX10_98 lo_3 rfl rfl dX10_hill_27 ?_
    refine zr_inv1V (pc := 30) rfl sX10_99 lo_13 rfl rfl rfl dX10_hill_30 ?_
    rw [hro.1, hro.2] at hz
    obtain ⟨hz1, hz2⟩ := hz h13
    have hRW := RW_T (sT σ)
    refine ct_X3_copyFrom (by rw [hz1]; exact hRW.2.1) (fun M2 hf2 hv2 => ?_)
    have ez2 : cvX M2 8 = cvX M1 8 := cvX_fr (fun k i a b => hf2 k i (by omega))
    refine zr_aload_n (pc := 33) dX10_hill_33 rfl rfl ?_
    refine zr_getR (pc := 34) fX10_33 lo_0 rfl rfl dX10_hill_34 ?_
    refine zr_aload_n (pc := 37) dX10_hill_37 rfl rfl ?_
    refine zr_getR (pc := 38) fX10_19 lo_0 rfl rfl dX10_hill_38 ?_
    refine zr_getR (pc := 41) fX10_103 lo_3 rfl rfl dX10_hill_41 ?_
    refine zr_inv1V (pc := 44) rfl sX10_104 lo_17 rfl rfl rfl dX10_hill_44 ?_
    refine ct_X1_copyFrom zp_c17 zp_c8 (Or.inl (by decide)) (by rw [ez2, hz2]; exact hRW.2.2.1) (fun M3 hf3 hv3 => ?_)
    refine zr_aload_n (pc := 47) dX10_hill_47 rfl rfl ?_
    refine zr_getR (pc := 48) fX10_43 lo_0 rfl rfl dX10_hill_48 ?_
    refine zr_inv0V (pc := 51) rfl sX10_107 lo_27 rfl rfl rfl dX10_hill_51 ?_
    refine ct_X0_clear ?_
    refine zr_aload_n (pc := 54) dX10_hill_54 rfl rfl ?_
    refine zr_getR (pc := 55) fX10_50 lo_0 rfl rfl dX10_hill_55 ?_
    refine zr_inv0V (pc := 58) rfl sX10_110 lo_30 rfl rfl rfl dX10_hill_58 ?_
    refine ct_X8_clear (fun M4 hf4 hv4 => ?_)
    refine zr_bipush (pc := 61) dX10_hill_61 (by decide) ?_
    refine zr_aload_n (pc := 63) dX10_hill_63 rfl rfl ?_
    refine zr_getR (pc := 64) fX10_26 lo_0 rfl rfl dX10_hill_64 ?_
    refine zr_getI (pc := 67) (z := 3) fX10_111 lo_13 rfl rfl rfl dX10_hill_67 ?_
    refine zr_imul (pc := 70) dX10_hill_70 ?_
    refine zr_aload_n (pc := 71) dX10_hill_71 rfl rfl ?_
    refine zr_getR (pc := 72) fX10_33 lo_0 rfl rfl dX10_hill_72 ?_
    refine zr_getI (pc := 75) (z := 5) fX10_114 lo_17 rfl rfl rfl dX10_hill_75 ?_
    refine zr_iadd (pc := 78) dX10_hill_78 ?_
    exact zr_ireturn (pc := 79) dX10_hill_79 rfl (zq_eq (h M4 (fun k i a => by rw [hf4 k i (by omega), put_nk _ _ _ _ (by omega), hf3 k i (by omega), hf2 k i (by omega), hf1 k i (by omega)]) (by
        unfold oHill
        rw [if_neg (fun y => y h13)]
        have g : ∀ (k : Nat) (i : Int), (k < 3 ∨ 21 < k) → k ≠ 27 → k ≠ 33 → M4 k i = M k i := fun k i a b c => by rw [hf4 k i c, put_nk _ _ _ _ b, hf3 k i (by omega), hf2 k i (by omega), hf1 k i (by omega)]
        refine ⟨⟨?_, fun i a b => ?_⟩, ?_, ?_, ⟨?_, fun j a b => ?_⟩, fun s a b => ⟨hv4 s a b, fun y => ?_⟩, ⟨?_, ?_, ?_⟩, ?_⟩
        · rw [g 1 1 (by decide) (by decide) (by decide)]
          exact hT1
        · rw [g 2 i (by decide) (by decide) (by decide)]
          exact hT.2 i a b
        · rw [lvX_fr (M := M2) (fun k i a b => by rw [hf4 k i (by omega), put_nk _ _ _ _ (by omega), hf3 k i (by omega)]), hv2, hz1]
        · rw [cvX_fr (M := M3) (fun k i a b => by rw [hf4 k i (by omega), put_nk _ _ _ _ (by omega)]), hv3, ez2, hz2]
        · rw [hf4 27 2 (by decide), put_at]
        · exact absurd (show j < 0 from b) (by omega)
        · exact absurd (show (0 : Int) = 1 from y) (by decide)
        · rw [g 42 2 (by decide) (by decide) (by decide)]
          exact hS.1
        · rw [g 42 0 (by decide) (by decide) (by decide)]
          exact hS.2.1
        · rw [g 42 1 (by decide) (by decide) (by decide)]
          exact hS.2.2
        · rw [g 0 11 (by decide) (by decide) (by decide)]
          exact hD)) (by
        unfold oHill
        rw [if_neg (fun y => y h13)]
        have e1 : M4 13 3 = (rdT (sT σ)).2.2.2.1.1 := by
          rw [hf4 13 3 (by decide), put_nk _ _ _ _ (by decide), hf3 13 3 (by decide), ← hz1, ← hv2]
          rfl
        have e2 : M4 17 5 = ct (rdT (sT σ)).2.2.2.2 := by
          rw [hf4 17 5 (by decide), put_nk _ _ _ _ (by decide), ← hz2, ← ez2, ← hv3]
          rfl
        rw [e1, e2]))
  · refine zr_bipush (pc := 16) dX10_hill_16 (by decide) ?_
    exact zr_ireturn (pc := 18) dX10_hill_18 rfl (zq_eq (h M1 (fun k i a => hf1 k i (by omega)) (by unfold oHill; rw [if_pos h13]; exact RX_frs hR (fun k i a b => hf1 k i (by unfold zsc at b; omega)))) (by unfold oHill; rw [if_pos h13]))

set_option maxRecDepth 100000 in
set_option maxHeartbeats 4000000 in
theorem lp_X10_later {g : zt_G} {M : zm_M} {σ : Sg} {q : Int → zm_M → Prop} (hR : RX σ M) (hW : SW σ) {t n v : Int} (ht : cHas (sC σ) t) (hn : 0 ≤ n ∧ n ≤ 20) (hv : v = 0 ∨ v = 1) (h : ∀ M2, frX M M2 → RX σ M2 → q (aLater t n v (sL σ) (sC σ)) M2) : ∀ (nn : Nat) (k : Int) (Mx : zm_M), (n - k).toNat = nn → 0 ≤ k → k ≤ n → frC 22 M Mx → cvX Mx 22 = ntN (sL σ) (sC σ) k.toNat → zc_Z g mX10_later 47 [some (zv_r 0), some (zv_i t), some (zv_i n), some (zv_i v), some (zv_i k)] [] Mx (zq_I q) := by
  intro nn
  induction nn using Nat.strongRecOn with
  | ind nn ih =>
    intro k Mx hnn h0 h1 hfr hvx
    obtain ⟨hT, hl, hcv, hA, hK, hS, hD⟩ := id hR
    obtain ⟨wT, wTx, wL, ⟨wC, wZ⟩, wA, wK, wS⟩ := id hW
    have hLw : LW (lvX M 13) := by rw [hl]; exact wL
    have hCw : CW (cvX M 17) := by rw [hcv]; exact wC
    have hw0 := wXt hCw
    have hL0 := yXk hLw
    have hk1 : M 13 3 = (sL σ).1 := by rw [← hl]; rfl
    have ht1 : M 17 5 = ct (sC σ) := by rw [← hcv]; rfl
    have hT1 := hT.1
    have hLx : lvX Mx 13 = sL σ := by rw [lvX_fr (fun k i a b => hfr k i (by omega)), hl]
    have hLwx : LW (lvX Mx 13) := by rw [hLx]; exact wL
    have hCx : CW (cvX Mx 22) := by rw [hvx]; exact CW_ntN wL wC _
    have ht2 : 0 ≤ t ∧ t < Mx 22 5 := by
      have e9 : Mx 22 5 = ct (sC σ) := by
        rw [← ct_ntN (L := sL σ) (C := sC σ) k.toNat, ← hvx]
        rfl
      rw [e9]
      exact ht
    have hc5 : 0 ≤ Mx 22 5 ∧ Mx 22 5 ≤ 4 := wXt hCx
    refine zr_iload (pc := 47) dX10_later_47 rfl ?_
    refine zr_iload_n (pc := 49) dX10_later_49 rfl rfl ?_
    refine zi_icmp_ge (pc := 50) (tgt := 71) dX10_later_50 (by decide) (by omega) (by omega) (fun h50 => ?_) (fun h50 => ?_)
    · refine zr_iload_n (pc := 71) dX10_later_71 rfl rfl ?_
      refine zi_if_ne (pc := 72) (tgt := 87) dX10_later_72 (by decide) (by omega) (fun h72 => ?_) (fun h72 => ?_)
      · refine zr_aload_n (pc := 87) dX10_later_87 rfl rfl ?_
        refine zr_getR (pc := 88) fX10_37 lo_0 rfl rfl dX10_later_88 ?_
        refine zr_getR (pc := 91) fX10_146 lo_22 rfl rfl dX10_later_91 ?_
        refine zr_iload_n (pc := 94) dX10_later_94 rfl rfl ?_
        refine zr_iaload (pc := 95) lo_26 (by omega) dX10_later_95 ?_
        exact zr_ireturn (pc := 96) dX10_later_96 rfl (zq_eq (h Mx (fun k i a => hfr k i (by omega)) (RX_frs hR (fun k i a b => hfr k i (by unfold zsc at b; omega)))) (by
            unfold aLater
            rw [if_neg (fun y => y ht), if_neg (by omega), if_neg h72, ← show k = n by omega, ← hvx]
            exact (vX_h ht2).symm))
      · refine zr_aload_n (pc := 75) dX10_later_75 rfl rfl ?_
        refine zr_getR (pc := 76) fX10_37 lo_0 rfl rfl dX10_later_76 ?_
        refine zr_getR (pc := 79) fX10_143 lo_22 rfl rfl dX10_later_79 ?_
        refine zr_iload_n (pc := 82) dX10_later_82 rfl rfl ?_
        refine zr_iaload (pc := 83) lo_25 (by omega) dX10_later_83 ?_
        refine zr_goto (pc := 84) (tgt := 96) dX10_later_84 (by decide) ?_
        exact zr_ireturn (pc := 96) dX10_later_96 rfl (zq_eq (h Mx (fun k i a => hfr k i (by omega)) (RX_frs hR (fun k i a b => hfr k i (by unfold zsc at b; omega)))) (by
            unfold aLater
            rw [if_neg (fun y => y ht), if_neg (by omega), if_pos h72, ← show k = n by omega, ← hvx]
            exact (vX_n ht2).symm))
    · refine zr_aload_n (pc := 53) dX10_later_53 rfl rfl ?_
      refine zr_getR (pc := 54) fX10_37 lo_0 rfl rfl dX10_later_54 ?_
      refine zr_aload_n (pc := 57) dX10_later_57 rfl rfl ?_
      refine zr_getR (pc := 58) fX10_26 lo_0 rfl rfl dX10_later_58 ?_
      refine zr_iconst (pc := 61) dX10_later_61 ?_
      refine zr_inv2V (pc := 62) rfl sX10_167 lo_22 rfl rfl rfl dX10_later_62 ?_
      refine ct_X1_passNight zp_c22 zp_l13 (Or.inl (by decide)) hCx hLwx ⟨by decide, by decide⟩ (fun M2 hf2 hv2 => ?_)
      refine zr_iinc (pc := 65) dX10_later_65 rfl (Nat.le_of_ble_eq_true rfl) rfl ?_
      refine zr_goto (pc := 68) (tgt := 47) dX10_later_68 (by decide) ?_
      exact ih _ (by omega) _ _ rfl (by omega) (by omega) (hfr.tr hf2) (by rw [hv2, hLx, hvx]; unfold ntN; rw [fo_s h0])

set_option maxRecDepth 100000 in
set_option maxHeartbeats 4000000 in
theorem ct_X10_later {g : zt_G} {M : zm_M} {σ : Sg} {q : Int → zm_M → Prop} (hR : RX σ M) (hW : SW σ) {t n v : Int} (ht : zi t) (hn : zi n) (hv : zi v) (h : ∀ M2, frX M M2 → RX σ M2 → q (aLater t n v (sL σ) (sC σ)) M2) : zc_K g yX10_later mX10_later [zv_r 0, zv_i t, zv_i n, zv_i v] M (zq_I q) := by
  refine zc_of (ls := [some (zv_r 0), some (zv_i t), some (zv_i n), some (zv_i v), none]) (by decide) rfl ⟨rfl, rfl⟩ (Nat.le_of_ble_eq_true rfl) rfl ?_
  obtain ⟨hT, hl, hcv, hA, hK, hS, hD⟩ := id hR
  obtain ⟨wT, wTx, wL, ⟨wC, wZ⟩, wA, wK, wS⟩ := id hW
  have hLw : LW (lvX M 13) := by rw [hl]; exact wL
  have hCw : CW (cvX M 17) := by rw [hcv]; exact wC
  have hw0 := wXt hCw
  have hL0 := yXk hLw
  have hk1 : M 13 3 = (sL σ).1 := by rw [← hl]; rfl
  have ht1 : M 17 5 = ct (sC σ) := by rw [← hcv]; rfl
  have hT1 := hT.1
  refine zr_aload_n (pc := 0) dX10_later_0 rfl rfl ?_
  refine zr_getR (pc := 1) fX10_33 lo_0 rfl rfl dX10_later_1 ?_
  refine zr_iload_n (pc := 4) dX10_later_4 rfl rfl ?_
  refine zr_inv1I (pc := 5) rfl sX10_138 lo_17 rfl rfl rfl dX10_later_5 ?_
  refine ct_X1_has zp_c17 hCw ht ?_
  rw [hcv]
  refine zr_ifb_ne (pc := 8) (tgt := 13) dX10_later_8 (by decide) (fun h8 => ?_) (fun h8 => ?_)
  · refine zr_iload_n (pc := 13) dX10_later_13 rfl rfl ?_
    refine zi_if_lt (pc := 14) (tgt := 30) dX10_later_14 (by decide) (by omega) (fun h14 => ?_) (fun h14 => ?_)
    · refine zr_bipush (pc := 30) dX10_later_30 (by decide) ?_
      exact zr_ireturn (pc := 32) dX10_later_32 rfl (zq_eq (h M (fun _ _ _ => rfl) hR) (by unfold aLater; rw [if_neg (fun y => y h8), if_pos (by omega)]))
    · refine zr_iload_n (pc := 17) dX10_later_17 rfl rfl ?_
      refine zr_bipush (pc := 18) dX10_later_18 (by decide) ?_
      refine zi_icmp_gt (pc := 20) (tgt := 30) dX10_later_20 (by decide) (by omega) (by omega) (fun h20 => ?_) (fun h20 => ?_)
      · refine zr_bipush (pc := 30) dX10_later_30 (by decide) ?_
        exact zr_ireturn (pc := 32) dX10_later_32 rfl (zq_eq (h M (fun _ _ _ => rfl) hR) (by unfold aLater; rw [if_neg (fun y => y h8), if_pos (by omega)]))
      · refine zr_iload_n (pc := 23) dX10_later_23 rfl rfl ?_
        refine zr_stat1I (pc := 24) rfl sX10_211 rfl rfl dX10_later_24 ?_
        refine ct_X10_isFirstOrSecond hv ?_
        refine zr_ifb_ne (pc := 27) (tgt := 33) dX10_later_27 (by decide) (fun h27 => ?_) (fun h27 => ?_)
        · refine zr_aload_n (pc := 33) dX10_later_33 rfl rfl ?_
          refine zr_getR (pc := 34) fX10_37 lo_0 rfl rfl dX10_later_34 ?_
          refine zr_aload_n (pc := 37) dX10_later_37 rfl rfl ?_
          refine zr_getR (pc := 38) fX10_33 lo_0 rfl rfl dX10_later_38 ?_
          refine zr_inv1V (pc := 41) rfl sX10_104 lo_22 rfl rfl rfl dX10_later_41 ?_
          refine ct_X1_copyFrom zp_c22 zp_c17 (Or.inl (by decide)) hCw (fun M1 hf1 hv1 => ?_)
          rw [hcv] at hv1
          refine zr_iconst (pc := 44) dX10_later_44 ?_
          refine zr_istore (pc := 45) dX10_later_45 (Nat.le_of_ble_eq_true rfl) rfl ?_
          exact lp_X10_later (g := g) hR hW h8 ⟨h14, h20⟩ h27 h _ _ M1 rfl (by omega) (by omega) hf1 (by rw [hv1]; rfl)
        · refine zr_bipush (pc := 30) dX10_later_30 (by decide) ?_
          exact zr_ireturn (pc := 32) dX10_later_32 rfl (zq_eq (h M (fun _ _ _ => rfl) hR) (by unfold aLater; rw [if_neg (fun y => y h8), if_pos (by omega)]))
  · refine zr_iconst (pc := 11) dX10_later_11 ?_
    exact zr_ireturn (pc := 12) dX10_later_12 rfl (zq_eq (h M (fun _ _ _ => rfl) hR) (by unfold aLater; rw [if_pos h8]))

theorem humL_s (L : Ln) (t : Int) (k : Nat) (n : Int) (D : Cm) : humL L t (k + 1) n D = if 9 ≤ ch D t then n else humL L t k (n + 1) (nit L 0 D) := rfl
set_option maxRecDepth 100000 in
set_option maxHeartbeats 4000000 in
theorem lp_X10_hummock {g : zt_G} {M : zm_M} {σ : Sg} {q : Int → zm_M → Prop} (hR : RX σ M) (hW : SW σ) {t : Int} (ht : cHas (sC σ) t) (h : ∀ M2, frX M M2 → RX σ M2 → q (aHum t (sL σ) (sC σ)) M2) : ∀ (nn : Nat) (k : Int) (D : Cm) (Mx : zm_M), (21 - k).toNat = nn → 0 ≤ k → k ≤ 21 → frC 22 M Mx → cvX Mx 22 = D → CW D → ct D = ct (sC σ) → humL (sL σ) t (21 - k).toNat k D = humL (sL σ) t 21 0 (sC σ) → zc_Z g mX10_hummock 26 [some (zv_r 0), some (zv_i t), some (zv_i k)] [] Mx (zq_I q) := by
  intro nn
  induction nn using Nat.strongRecOn with
  | ind nn ih =>
    intro k D Mx hnn h0 h1 hfr hvx hDw hDt hH
    obtain ⟨hT, hl, hcv, hA, hK, hS, hD⟩ := id hR
    obtain ⟨wT, wTx, wL, ⟨wC, wZ⟩, wA, wK, wS⟩ := id hW
    have hLw : LW (lvX M 13) := by rw [hl]; exact wL
    have hCw : CW (cvX M 17) := by rw [hcv]; exact wC
    have hw0 := wXt hCw
    have hL0 := yXk hLw
    have hk1 : M 13 3 = (sL σ).1 := by rw [← hl]; rfl
    have ht1 : M 17 5 = ct (sC σ) := by rw [← hcv]; rfl
    have hT1 := hT.1
    have hLx : lvX Mx 13 = sL σ := by rw [lvX_fr (fun k i a b => hfr k i (by omega)), hl]
    have hLwx : LW (lvX Mx 13) := by rw [hLx]; exact wL
    have hCx : CW (cvX Mx 22) := by rw [hvx]; exact hDw
    have ht2 : 0 ≤ t ∧ t < Mx 22 5 := by
      have e9 : Mx 22 5 = ct D := by rw [← hvx]; rfl
      rw [e9, hDt]
      exact ht
    refine zr_iload_n (pc := 26) dX10_hummock_26 rfl rfl ?_
    refine zr_bipush (pc := 27) dX10_hummock_27 (by decide) ?_
    refine zi_icmp_gt (pc := 29) (tgt := 63) dX10_hummock_29 (by decide) (by omega) (by omega) (fun h29 => ?_) (fun h29 => ?_)
    · refine zr_bipush (pc := 63) dX10_hummock_63 (by decide) ?_
      exact zr_ireturn (pc := 65) dX10_hummock_65 rfl (zq_eq (h Mx (fun k i a => hfr k i (by omega)) (RX_frs hR (fun k i a b => hfr k i (by unfold zsc at b; omega)))) (by unfold aHum; rw [if_neg (fun y => y ht), ← hH, show (21 - k).toNat = 0 by omega]; rfl))
    · rw [show (21 - k).toNat = (21 - (k + 1)).toNat + 1 by omega] at hH
      rw [humL_s] at hH
      refine zr_aload_n (pc := 32) dX10_hummock_32 rfl rfl ?_
      refine zr_getR (pc := 33) fX10_37 lo_0 rfl rfl dX10_hummock_33 ?_
      refine zr_iload_n (pc := 36) dX10_hummock_36 rfl rfl ?_
      refine zr_inv1I (pc := 37) rfl sX10_155 lo_22 rfl rfl rfl dX10_hummock_37 ?_
      refine ct_X1_isHummock zp_c22 hCx ht2 ?_
      rw [hvx]
      refine zr_ifb_eq (pc := 40) (tgt := 45) dX10_hummock_40 (by decide) (fun h40 => ?_) (fun h40 => ?_)
      · refine zr_aload_n (pc := 45) dX10_hummock_45 rfl rfl ?_
        refine zr_getR (pc := 46) fX10_37 lo_0 rfl rfl dX10_hummock_46 ?_
        refine zr_aload_n (pc := 49) dX10_hummock_49 rfl rfl ?_
        refine zr_getR (pc := 50) fX10_26 lo_0 rfl rfl dX10_hummock_50 ?_
        refine zr_iconst (pc := 53) dX10_hummock_53 ?_
        refine zr_inv2V (pc := 54) rfl sX10_167 lo_22 rfl rfl rfl dX10_hummock_54 ?_
        refine ct_X1_passNight zp_c22 zp_l13 (Or.inl (by decide)) hCx hLwx ⟨by decide, by decide⟩ (fun M2 hf2 hv2 => ?_)
        refine zr_iinc (pc := 57) dX10_hummock_57 rfl (Nat.le_of_ble_eq_true rfl) rfl ?_
        refine zr_goto (pc := 60) (tgt := 26) dX10_hummock_60 (by decide) ?_
        rw [if_neg h40] at hH
        exact ih _ (by omega) _ _ _ rfl (by omega) (by omega) (hfr.tr hf2) rfl (by rw [hv2]; exact CW_nit hLwx hCx) (by rw [hv2, nit_ct, hvx, hDt]) (by rw [hv2, hLx, hvx]; exact hH)
      · refine zr_iload_n (pc := 43) dX10_hummock_43 rfl rfl ?_
        exact zr_ireturn (pc := 44) dX10_hummock_44 rfl (zq_eq (h Mx (fun k i a => hfr k i (by omega)) (RX_frs hR (fun k i a b => hfr k i (by unfold zsc at b; omega)))) (by unfold aHum; rw [if_neg (fun y => y ht), ← show _ = humL (sL σ) t 21 0 (sC σ) from hH, if_pos h40]))

set_option maxRecDepth 100000 in
set_option maxHeartbeats 4000000 in
theorem ct_X10_hummock {g : zt_G} {M : zm_M} {σ : Sg} {q : Int → zm_M → Prop} (hR : RX σ M) (hW : SW σ) {t : Int} (ht : zi t) (h : ∀ M2, frX M M2 → RX σ M2 → q (aHum t (sL σ) (sC σ)) M2) : zc_K g yX10_hummock mX10_hummock [zv_r 0, zv_i t] M (zq_I q) := by
  refine zc_of (ls := [some (zv_r 0), some (zv_i t), none]) (by decide) rfl ⟨rfl, rfl⟩ (Nat.le_of_ble_eq_true rfl) rfl ?_
  obtain ⟨hT, hl, hcv, hA, hK, hS, hD⟩ := id hR
  obtain ⟨wT, wTx, wL, ⟨wC, wZ⟩, wA, wK, wS⟩ := id hW
  have hLw : LW (lvX M 13) := by rw [hl]; exact wL
  have hCw : CW (cvX M 17) := by rw [hcv]; exact wC
  have hw0 := wXt hCw
  have hL0 := yXk hLw
  have hk1 : M 13 3 = (sL σ).1 := by rw [← hl]; rfl
  have ht1 : M 17 5 = ct (sC σ) := by rw [← hcv]; rfl
  have hT1 := hT.1
  refine zr_aload_n (pc := 0) dX10_hummock_0 rfl rfl ?_
  refine zr_getR (pc := 1) fX10_33 lo_0 rfl rfl dX10_hummock_1 ?_
  refine zr_iload_n (pc := 4) dX10_hummock_4 rfl rfl ?_
  refine zr_inv1I (pc := 5) rfl sX10_138 lo_17 rfl rfl rfl dX10_hummock_5 ?_
  refine ct_X1_has zp_c17 hCw ht ?_
  rw [hcv]
  refine zr_ifb_ne (pc := 8) (tgt := 13) dX10_hummock_8 (by decide) (fun h8 => ?_) (fun h8 => ?_)
  · refine zr_aload_n (pc := 13) dX10_hummock_13 rfl rfl ?_
    refine zr_getR (pc := 14) fX10_37 lo_0 rfl rfl dX10_hummock_14 ?_
    refine zr_aload_n (pc := 17) dX10_hummock_17 rfl rfl ?_
    refine zr_getR (pc := 18) fX10_33 lo_0 rfl rfl dX10_hummock_18 ?_
    refine zr_inv1V (pc := 21) rfl sX10_104 lo_22 rfl rfl rfl dX10_hummock_21 ?_
    refine ct_X1_copyFrom zp_c22 zp_c17 (Or.inl (by decide)) hCw (fun M1 hf1 hv1 => ?_)
    rw [hcv] at hv1
    refine zr_iconst (pc := 24) dX10_hummock_24 ?_
    refine zr_istore_n (pc := 25) dX10_hummock_25 rfl (Nat.le_of_ble_eq_true rfl) rfl ?_
    exact lp_X10_hummock (g := g) hR hW h8 h _ _ _ M1 rfl (by omega) (by omega) hf1 rfl (by rw [hv1]; exact wC) (by rw [hv1]) (by rw [hv1]; rfl)
  · refine zr_iconst (pc := 11) dX10_hummock_11 ?_
    exact zr_ireturn (pc := 12) dX10_hummock_12 rfl (zq_eq (h M (fun _ _ _ => rfl) hR) (by unfold aHum; rw [if_pos h8]))

set_option maxRecDepth 100000 in
set_option maxHeartbeats 4000000 in
theorem ct_X10_count {g : zt_G} {M : zm_M} {σ : Sg} {q : Int → zm_M → Prop} (hR : RX σ M) (hW : SW σ) {v : Int} (hv : zi v) (h : ∀ M2, frX M M2 → RX σ M2 → q (aCount v σ) M2) : zc_K g yX10_count mX10_count [zv_r 0, zv_i v] M (zq_I q) := by
  refine zc_of (ls := [some (zv_r 0), some (zv_i v)]) (by decide) rfl ⟨rfl, rfl⟩ (Nat.le_of_ble_eq_true rfl) rfl ?_
  obtain ⟨hT, hl, hcv, hA, hK, hS, hD⟩ := id hR
  obtain ⟨wT, wTx, wL, ⟨wC, wZ⟩, wA, wK, wS⟩ := id hW
  have hLw : LW (lvX M 13) := by rw [hl]; exact wL
  have hCw : CW (cvX M 17) := by rw [hcv]; exact wC
  have hw0 := wXt hCw
  have hL0 := yXk hLw
  have hk1 : M 13 3 = (sL σ).1 := by rw [← hl]; rfl
  have ht1 : M 17 5 = ct (sC σ) := by rw [← hcv]; rfl
  have hT1 := hT.1
  have ek := h M (fun _ _ _ => rfl) hR
  unfold aCount at ek
  rw [← hcv, ← hl] at ek
  refine zr_iload_n (pc := 0) dX10_count_0 rfl rfl ?_
  rcases (by omega : v = 0 ∨ v = 1 ∨ v = 2 ∨ v = 3 ∨ v = 4 ∨ v = 5 ∨ v = 6 ∨ v = 7 ∨ v = 8 ∨ v = 9 ∨ (v < 0 ∨ 9 < v)) with hsw1 | hsw1 | hsw1 | hsw1 | hsw1 | hsw1 | hsw1 | hsw1 | hsw1 | hsw1 | hsw1
  · refine zr_tab_in (pc := 1) (tgt := 56) dX10_count_1 (by rw [hsw1]; decide) (by rw [hsw1]; decide) (off := 55) (by rw [hsw1]; decide +kernel) (by decide) ?_
    refine zr_aload_n (pc := 56) dX10_count_56 rfl rfl ?_
    refine zr_getR (pc := 57) fX10_10 lo_0 rfl rfl dX10_count_57 ?_
    refine zr_getI (pc := 60) (z := 1) fX10_86 lo_1 rfl rfl rfl dX10_count_60 ?_
    exact zr_ireturn (pc := 63) dX10_count_63 rfl (zq_eq ek (by rw [if_pos hsw1, hT1]))
  · refine zr_tab_in (pc := 1) (tgt := 64) dX10_count_1 (by rw [hsw1]; decide) (by rw [hsw1]; decide) (off := 63) (by rw [hsw1]; decide +kernel) (by decide) ?_
    refine zr_aload_n (pc := 64) dX10_count_64 rfl rfl ?_
    refine zr_getR (pc := 65) fX10_26 lo_0 rfl rfl dX10_count_65 ?_
    refine zr_getI (pc := 68) (z := 3) fX10_111 lo_13 rfl rfl rfl dX10_count_68 ?_
    exact zr_ireturn (pc := 71) dX10_count_71 rfl (zq_eq ek (by rw [if_neg (by omega), if_pos hsw1]; rfl))
  · refine zr_tab_in (pc := 1) (tgt := 72) dX10_count_1 (by rw [hsw1]; decide) (by rw [hsw1]; decide) (off := 71) (by rw [hsw1]; decide +kernel) (by decide) ?_
    refine zr_aload_n (pc := 72) dX10_count_72 rfl rfl ?_
    refine zr_getR (pc := 73) fX10_33 lo_0 rfl rfl dX10_count_73 ?_
    refine zr_getI (pc := 76) (z := 5) fX10_114 lo_17 rfl rfl rfl dX10_count_76 ?_
    exact zr_ireturn (pc := 79) dX10_count_79 rfl (zq_eq ek (by rw [if_neg (by omega), if_neg (by omega), if_pos hsw1]; rfl))
  · refine zr_tab_in (pc := 1) (tgt := 80) dX10_count_1 (by rw [hsw1]; decide) (by rw [hsw1]; decide) (off := 79) (by rw [hsw1]; decide +kernel) (by decide) ?_
    refine zr_aload_n (pc := 80) dX10_count_80 rfl rfl ?_
    refine zr_getR (pc := 81) fX10_33 lo_0 rfl rfl dX10_count_81 ?_
    refine zr_getI (pc := 84) (z := 6) fX10_303 lo_17 rfl rfl rfl dX10_count_84 ?_
    exact zr_ireturn (pc := 87) dX10_count_87 rfl (zq_eq ek (by rw [if_neg (by omega), if_neg (by omega), if_neg (by omega), if_pos hsw1]; rfl))
  · refine zr_tab_in (pc := 1) (tgt := 88) dX10_count_1 (by rw [hsw1]; decide) (by rw [hsw1]; decide) (off := 87) (by rw [hsw1]; decide +kernel) (by decide) ?_
    refine zr_aload_n (pc := 88) dX10_count_88 rfl rfl ?_
    refine zr_getR (pc := 89) fX10_33 lo_0 rfl rfl dX10_count_89 ?_
    refine zr_inv0I (pc := 92) rfl sX10_171 lo_17 rfl rfl rfl dX10_count_92 ?_
    refine ct_X1_hummocks zp_c17 hCw ?_
    exact zr_ireturn (pc := 95) dX10_count_95 rfl (zq_eq ek (by rw [if_neg (by omega), if_neg (by omega), if_neg (by omega), if_neg (by omega), if_pos hsw1]))
  · refine zr_tab_in (pc := 1) (tgt := 96) dX10_count_1 (by rw [hsw1]; decide) (by rw [hsw1]; decide) (off := 95) (by rw [hsw1]; decide +kernel) (by decide) ?_
    refine zr_aload_n (pc := 96) dX10_count_96 rfl rfl ?_
    refine zr_getR (pc := 97) fX10_33 lo_0 rfl rfl dX10_count_97 ?_
    refine zr_getI (pc := 100) (z := 4) fX10_310 lo_17 rfl rfl rfl dX10_count_100 ?_
    exact zr_ireturn (pc := 103) dX10_count_103 rfl (zq_eq ek (by rw [if_neg (by omega), if_neg (by omega), if_neg (by omega), if_neg (by omega), if_neg (by omega), if_pos hsw1]; rfl))
  · refine zr_tab_in (pc := 1) (tgt := 104) dX10_count_1 (by rw [hsw1]; decide) (by rw [hsw1]; decide) (off := 103) (by rw [hsw1]; decide +kernel) (by decide) ?_
    refine zr_aload_n (pc := 104) dX10_count_104 rfl rfl ?_
    refine zr_getR (pc := 105) fX10_33 lo_0 rfl rfl dX10_count_105 ?_
    refine zr_inv0I (pc := 108) rfl sX10_313 lo_17 rfl rfl rfl dX10_count_108 ?_
    refine ct_X1_knownByAny zp_c17 hCw ?_
    exact zr_ireturn (pc := 111) dX10_count_111 rfl (zq_eq ek (by rw [if_neg (by omega), if_neg (by omega), if_neg (by omega), if_neg (by omega), if_neg (by omega), if_neg (by omega), if_pos hsw1]))
  · refine zr_tab_in (pc := 1) (tgt := 112) dX10_count_1 (by rw [hsw1]; decide) (by rw [hsw1]; decide) (off := 111) (by rw [hsw1]; decide +kernel) (by decide) ?_
    refine zr_aload_n (pc := 112) dX10_count_112 rfl rfl ?_
    refine zr_getR (pc := 113) fX10_26 lo_0 rfl rfl dX10_count_113 ?_
    refine zr_inv0I (pc := 116) rfl sX10_316 lo_13 rfl rfl rfl dX10_count_116 ?_
    refine ct_X3_bitsOfAll zp_l13 hLw ?_
    exact zr_ireturn (pc := 119) dX10_count_119 rfl (zq_eq ek (by rw [if_neg (by omega), if_neg (by omega), if_neg (by omega), if_neg (by omega), if_neg (by omega), if_neg (by omega), if_neg (by omega), if_pos hsw1]))
  · refine zr_tab_in (pc := 1) (tgt := 120) dX10_count_1 (by rw [hsw1]; decide) (by rw [hsw1]; decide) (off := 119) (by rw [hsw1]; decide +kernel) (by decide) ?_
    refine zr_aload_n (pc := 120) dX10_count_120 rfl rfl ?_
    refine zr_getR (pc := 121) fX10_43 lo_0 rfl rfl dX10_count_121 ?_
    refine zr_getI (pc := 124) (z := 2) fX10_205 lo_27 rfl rfl rfl dX10_count_124 ?_
    exact zr_ireturn (pc := 127) dX10_count_127 rfl (zq_eq ek (by rw [if_neg (by omega), if_neg (by omega), if_neg (by omega), if_neg (by omega), if_neg (by omega), if_neg (by omega), if_neg (by omega), if_neg (by omega), if_pos hsw1]; exact hA.1))
  · refine zr_tab_in (pc := 1) (tgt := 128) dX10_count_1 (by rw [hsw1]; decide) (by rw [hsw1]; decide) (off := 127) (by rw [hsw1]; decide +kernel) (by decide) ?_
    refine zr_aload_n (pc := 128) dX10_count_128 rfl rfl ?_
    refine zr_getR (pc := 129) fX10_71 lo_0 rfl rfl dX10_count_129 ?_
    refine zr_getI (pc := 132) (z := 2) fX10_255 lo_42 rfl rfl rfl dX10_count_132 ?_
    exact zr_ireturn (pc := 135) dX10_count_135 rfl (zq_eq ek (by rw [if_neg (by omega), if_neg (by omega), if_neg (by omega), if_neg (by omega), if_neg (by omega), if_neg (by omega), if_neg (by omega), if_neg (by omega), if_neg (by omega), if_pos hsw1]; exact hS.1))
  · refine zr_tab_out (pc := 1) (tgt := 136) dX10_count_1 (by rw [zw_id (by omega) (by omega)]; exact hsw1) (by decide) ?_
    refine zr_bipush (pc := 136) dX10_count_136 (by decide) ?_
    exact zr_ireturn (pc := 138) dX10_count_138 rfl (zq_eq ek (by rw [if_neg (by omega), if_neg (by omega), if_neg (by omega), if_neg (by omega), if_neg (by omega), if_neg (by omega), if_neg (by omega), if_neg (by omega), if_neg (by omega), if_neg (by omega)]))

set_option maxRecDepth 100000 in
set_option maxHeartbeats 4000000 in
theorem ct_X10_keep {g : zt_G} {M : zm_M} {σ : Sg} {q : Int → zm_M → Prop} (hR : RX σ M) (hW : SW σ) {s : Int} (hs : zi s) (h : ∀ M2, frX M M2 → RX (oKeep s σ).2 M2 → q (oKeep s σ).1 M2) : zc_K g yX10_keep mX10_keep [zv_r 0, zv_i s] M (zq_I q) := by
  refine zc_of (ls := [some (zv_r 0), some (zv_i s)]) (by decide) rfl ⟨rfl, rfl⟩ (Nat.le_of_ble_eq_true rfl) rfl ?_
  obtain ⟨hT, hl, hcv, hA, hK, hS, hD⟩ := id hR
  obtain ⟨wT, wTx, wL, ⟨wC, wZ⟩, wA, wK, wS⟩ := id hW
  have hLw : LW (lvX M 13) := by rw [hl]; exact wL
  have hCw : CW (cvX M 17) := by rw [hcv]; exact wC
  have hw0 := wXt hCw
  have hL0 := yXk hLw
  have hk1 : M 13 3 = (sL σ).1 := by rw [← hl]; rfl
  have ht1 : M 17 5 = ct (sC σ) := by rw [← hcv]; rfl
  have hT1 := hT.1
  refine zr_iload_n (pc := 0) dX10_keep_0 rfl rfl ?_
  refine zr_stat1I (pc := 1) rfl sX10_296 rfl rfl dX10_keep_1 ?_
  refine ct_X10_isSlot hs ?_
  refine zr_ifb_ne (pc := 4) (tgt := 9) dX10_keep_4 (by decide) (fun h4 => ?_) (fun h4 => ?_)
  · refine zr_aload_n (pc := 9) dX10_keep_9 rfl rfl ?_
    refine zr_getR (pc := 10) fX10_50 lo_0 rfl rfl dX10_keep_10 ?_
    refine zr_iload_n (pc := 13) dX10_keep_13 rfl rfl ?_
    refine zr_aload_n (pc := 14) dX10_keep_14 rfl rfl ?_
    refine zr_getR (pc := 15) fX10_33 lo_0 rfl rfl dX10_keep_15 ?_
    refine zr_inv2V (pc := 18) rfl sX10_299 lo_30 rfl rfl rfl dX10_keep_18 ?_
    refine ct_X8_put h4 hCw ?_
    refine zr_aload_n (pc := 21) dX10_keep_21 rfl rfl ?_
    refine zr_getR (pc := 22) fX10_33 lo_0 rfl rfl dX10_keep_22 ?_
    refine zr_getI (pc := 25) (z := 6) fX10_303 lo_17 rfl rfl rfl dX10_keep_25 ?_
    rw [put_nk _ _ _ _ (show 17 ≠ 33 by decide), put_nk _ _ _ _ (show 17 ≠ 32 by decide), put_nk _ _ _ _ (show 17 ≠ 31 by decide)]
    exact zr_ireturn (pc := 28) dX10_keep_28 rfl (zq_eq (h _ (fun k i a => by rw [put_nk _ _ _ _ (by omega), put_nk _ _ _ _ (by omega), put_nk _ _ _ _ (by omega)]) (by
        unfold oKeep
        rw [if_neg (fun y => y h4)]
        have g : ∀ (k : Nat) (i : Int), (k < 31 ∨ 33 < k) → zm_put (zm_put (zm_put M 31 s (pk (cvX M 17))) 32 s (M 17 6)) 33 s 1 k i = M k i := fun k i a => by rw [put_nk _ _ _ _ (by omega), put_nk _ _ _ _ (by omega), put_nk _ _ _ _ (by omega)]
        refine ⟨⟨hT1, hT.2⟩, ?_, ?_, hA, fun j a b => ?_, hS, hD⟩
        · rw [lvX_fr (fun k i a b => g k i (by omega))]
          exact hl
        · rw [cvX_fr (fun k i a b => g k i (by omega))]
          exact hcv
        · show zm_put _ _ _ _ _ _ = upI (sK σ).1 s 1 j ∧ (upI (sK σ).1 s 1 j = 1 → _ = pk (if j = s then sC σ else (sK σ).2 j) ∧ _ = cg (if j = s then sC σ else (sK σ).2 j))
          unfold upI
          rw [put_nk _ _ _ _ (show 31 ≠ 33 by decide), put_nk _ _ _ _ (show 31 ≠ 32 by decide), put_nk _ _ _ _ (show 32 ≠ 33 by decide)]
          by_cases hj : j = s
          · subst hj
            rw [if_pos rfl, if_pos rfl, put_at, put_at, put_at]
            exact ⟨rfl, fun _ => ⟨by rw [hcv], by rw [← hcv]; rfl⟩⟩
          · have pn : ∀ (M' : zm_M) (k k2 : Nat) (v : Int), zm_put M' k s v k2 j = M' k2 j := fun M' k k2 v => put_ni M' v hj
            simp only [pn, if_neg hj]
            exact hK j a b)) (by unfold oKeep; rw [if_neg (fun y => y h4), ← hcv]; rfl))
  · refine zr_iconst (pc := 7) dX10_keep_7 ?_
    exact zr_ireturn (pc := 8) dX10_keep_8 rfl (zq_eq (h M (fun _ _ _ => rfl) (by unfold oKeep; rw [if_pos h4]; exact hR)) (by unfold oKeep; rw [if_pos h4]))

set_option maxRecDepth 100000 in
set_option maxHeartbeats 4000000 in
theorem ct_X10_again {g : zt_G} {M : zm_M} {σ : Sg} {q : Int → zm_M → Prop} (hR : RX σ M) (hW : SW σ) {s : Int} (hs : zi s) (h : ∀ M2, frX M M2 → RX (oAgain s σ).2 M2 → q (oAgain s σ).1 M2) : zc_K g yX10_again mX10_again [zv_r 0, zv_i s] M (zq_I q) := by
  refine zc_of (ls := [some (zv_r 0), some (zv_i s)]) (by decide) rfl ⟨rfl, rfl⟩ (Nat.le_of_ble_eq_true rfl) rfl ?_
  obtain ⟨hT, hl, hcv, hA, hK, hS, hD⟩ := id hR
  obtain ⟨wT, wTx, wL, ⟨wC, wZ⟩, wA, wK, wS⟩ := id hW
  have hLw : LW (lvX M 13) := by rw [hl]; exact wL
  have hCw : CW (cvX M 17) := by rw [hcv]; exact wC
  have hw0 := wXt hCw
  have hL0 := yXk hLw
  have hk1 : M 13 3 = (sL σ).1 := by rw [← hl]; rfl
  have ht1 : M 17 5 = ct (sC σ) := by rw [← hcv]; rfl
  have hT1 := hT.1
  refine zr_iload_n (pc := 0) dX10_again_0 rfl rfl ?_
  refine zr_stat1I (pc := 1) rfl sX10_296 rfl rfl dX10_again_1 ?_
  refine ct_X10_isSlot hs ?_
  refine zr_ifb_ne (pc := 4) (tgt := 9) dX10_again_4 (by decide) (fun h4 => ?_) (fun h4 => ?_)
  · refine zr_aload_n (pc := 9) dX10_again_9 rfl rfl ?_
    refine zr_getR (pc := 10) fX10_50 lo_0 rfl rfl dX10_again_10 ?_
    refine zr_iload_n (pc := 13) dX10_again_13 rfl rfl ?_
    refine zr_inv1I (pc := 14) rfl sX10_304 lo_30 rfl rfl rfl dX10_again_14 ?_
    have hks := hK s h4.1 h4.2
    have wks := wK s h4.1 h4.2
    refine ct_X8_holds h4 (by rw [hks.1]; exact wks.1) ?_
    rw [hks.1]
    refine zr_ifb_ne (pc := 17) (tgt := 23) dX10_again_17 (by decide) (fun h17 => ?_) (fun h17 => ?_)
    · refine zr_aload_n (pc := 23) dX10_again_23 rfl rfl ?_
      refine zr_getR (pc := 24) fX10_50 lo_0 rfl rfl dX10_again_24 ?_
      refine zr_iload_n (pc := 27) dX10_again_27 rfl rfl ?_
      refine zr_aload_n (pc := 28) dX10_again_28 rfl rfl ?_
      refine zr_getR (pc := 29) fX10_33 lo_0 rfl rfl dX10_again_29 ?_
      refine zr_inv2V (pc := 32) rfl sX10_307 lo_30 rfl rfl rfl dX10_again_32 ?_
      refine ct_X8_bringBack h4 (by rw [hks.1]; exact h17) hCw (by rw [hcv]; exact wks.2 h17) (hks.2 h17) (fun M1 hf1 hv1 => ?_)
      refine zr_aload_n (pc := 35) dX10_again_35 rfl rfl ?_
      refine zr_getR (pc := 36) fX10_43 lo_0 rfl rfl dX10_again_36 ?_
      refine zr_inv0V (pc := 39) rfl sX10_107 lo_27 rfl rfl rfl dX10_again_39 ?_
      refine ct_X0_clear ?_
      refine zr_aload_n (pc := 42) dX10_again_42 rfl rfl ?_
      refine zr_getR (pc := 43) fX10_33 lo_0 rfl rfl dX10_again_43 ?_
      refine zr_getI (pc := 46) (z := 6) fX10_303 lo_17 rfl rfl rfl dX10_again_46 ?_
      exact zr_ireturn (pc := 49) dX10_again_49 rfl (zq_eq (h _ (fun k i a => by rw [put_nk _ _ _ _ (by omega), hf1 k i (by omega)]) (by
          unfold oAgain
          rw [if_neg (fun y => y h4), if_neg (fun y => y h17)]
          exact RX_act hR (fun k i a b c => by rw [put_nk _ _ _ _ (by omega), hf1 k i a]) (by rw [cvX_fr (fun k i a b => put_nk _ _ _ _ (by omega)), hv1]) ⟨put_at _ _ _ _, fun j a b => absurd (show j < 0 from b) (by omega)⟩)) (by
          unfold oAgain
          rw [if_neg (fun y => y h4), if_neg (fun y => y h17), put_nk _ _ _ _ (show 17 ≠ 27 by decide), ← hv1]
          rfl))
    · refine zr_bipush (pc := 20) dX10_again_20 (by decide) ?_
      exact zr_ireturn (pc := 22) dX10_again_22 rfl (zq_eq (h M (fun _ _ _ => rfl) (by unfold oAgain; rw [if_neg (fun y => y h4), if_pos h17]; exact hR)) (by unfold oAgain; rw [if_neg (fun y => y h4), if_pos h17]))
  · refine zr_iconst (pc := 7) dX10_again_7 ?_
    exact zr_ireturn (pc := 8) dX10_again_8 rfl (zq_eq (h M (fun _ _ _ => rfl) (by unfold oAgain; rw [if_pos h4]; exact hR)) (by unfold oAgain; rw [if_pos h4]))

set_option maxRecDepth 100000 in
set_option maxHeartbeats 4000000 in
theorem ct_X10_seed {g : zt_G} {M : zm_M} {σ : Sg} {q : Int → zm_M → Prop} (hR : RX σ M) {v : Int} (h : ∀ r M2, frX M M2 → RX (oSeed v σ).2 M2 → zx r = (oSeed v σ).1 → q r M2) : zc_K g yX10_seed mX10_seed [zv_r 0, zv_l v] M (zq_L q) := by
  refine zc_of (ls := [some (zv_r 0), some (zv_l v), none, none, none]) (by decide) rfl ⟨rfl, rfl⟩ (Nat.le_of_ble_eq_true rfl) rfl ?_
  refine zr_aload_n (pc := 0) dX10_seed_0 rfl rfl ?_
  refine zr_getL (pc := 1) (z := 11) fX10_82 lo_0 rfl rfl rfl dX10_seed_1 ?_
  refine zr_lstore_n (pc := 4) dX10_seed_4 rfl (Nat.le_of_ble_eq_true rfl) rfl ?_
  refine zr_aload_n (pc := 5) dX10_seed_5 rfl rfl ?_
  refine zr_lload_n (pc := 6) dX10_seed_6 rfl rfl ?_
  refine zr_putL (pc := 7) (z := 11) fX10_82 lo_0 rfl fwX10_11 rfl rfl dX10_seed_7 ?_
  refine zr_lload_n (pc := 10) dX10_seed_10 rfl rfl ?_
  exact zr_lreturn (pc := 11) dX10_seed_11 rfl (h _ _ (fun k i a => put_nk _ _ _ _ (by omega)) (by
      obtain ⟨hT, hl, hcv, hA, hK, hS, hD⟩ := id hR
      refine ⟨hT, ?_, ?_, hA, hK, hS, congrArg zx (put_at _ _ _ _)⟩
      · rw [lvX_fr (fun k i a b => put_nk _ _ _ _ (by omega))]
        exact hl
      · rw [cvX_fr (fun k i a b => put_nk _ _ _ _ (by omega))]
        exact hcv) hR.2.2.2.2.2.2)

set_option maxRecDepth 100000 in
set_option maxHeartbeats 4000000 in
theorem ct_X9_clear {g : zt_G} {M : zm_M} {q : zm_M → Prop} (h : q (zm_put (zm_put (zm_put M 42 0 0) 42 1 0) 42 2 0)) : zc_K g yX9_clear mX9_clear [zv_r 42] M (zq_V q) := by
  refine zc_of (ls := [some (zv_r 42)]) (by decide) rfl ⟨rfl, rfl⟩ (Nat.le_of_ble_eq_true rfl) rfl ?_
  refine zr_aload_n (pc := 0) dX9_clear_0 rfl rfl ?_
  refine zr_iconst (pc := 1) dX9_clear_1 ?_
  refine zr_putI (pc := 2) (z := 0) fX9_9 lo_42 rfl fwX9_0 rfl rfl dX9_clear_2 ?_
  refine zr_aload_n (pc := 5) dX9_clear_5 rfl rfl ?_
  refine zr_iconst (pc := 6) dX9_clear_6 ?_
  refine zr_putI (pc := 7) (z := 1) fX9_15 lo_42 rfl fwX9_1 rfl rfl dX9_clear_7 ?_
  refine zr_aload_n (pc := 10) dX9_clear_10 rfl rfl ?_
  refine zr_iconst (pc := 11) dX9_clear_11 ?_
  refine zr_putI (pc := 12) (z := 2) fX9_18 lo_42 rfl fwX9_2 rfl rfl dX9_clear_12 ?_
  exact zr_return (pc := 15) dX9_clear_15 rfl h

set_option maxRecDepth 100000 in
set_option maxHeartbeats 4000000 in
theorem ct_X9_add {g : zt_G} {M : zm_M} {q : zm_M → Prop} {b k : Int} (hk : k = 0 ∨ k = 1) (hq1 : k = 1 → q (zm_put (zm_put M 42 0 (zb_or (M 42 0) b)) 42 2 (M 42 2 + 1))) (hq0 : k = 0 → q (zm_put (zm_put M 42 1 (zb_or (M 42 1) b)) 42 2 (M 42 2 + 1))) : zc_K g yX9_add mX9_add [zv_r 42, zv_i b, zv_i k] M (zq_V q) := by
  refine zc_of (ls := [some (zv_r 42), some (zv_i b), some (zv_i k)]) (by decide) rfl ⟨rfl, rfl⟩ (Nat.le_of_ble_eq_true rfl) rfl ?_
  refine zr_iload_n (pc := 0) dX9_add_0 rfl rfl ?_
  refine zi_if_eq (pc := 1) (tgt := 17) dX9_add_1 (by decide) (by omega) (fun h1 => ?_) (fun h1 => ?_)
  · refine zr_aload_n (pc := 17) dX9_add_17 rfl rfl ?_
    refine zr_dup_r (pc := 18) dX9_add_18 ?_
    refine zr_getI (pc := 19) (z := 1) fX9_15 lo_42 rfl rfl rfl dX9_add_19 ?_
    refine zr_iload_n (pc := 22) dX9_add_22 rfl rfl ?_
    refine zr_ior (pc := 23) dX9_add_23 ?_
    refine zr_putI (pc := 24) (z := 1) fX9_15 lo_42 rfl fwX9_1 rfl rfl dX9_add_24 ?_
    refine zr_aload_n (pc := 27) dX9_add_27 rfl rfl ?_
    refine zr_dup_r (pc := 28) dX9_add_28 ?_
    refine zr_getI (pc := 29) (z := 2) fX9_18 lo_42 rfl rfl rfl dX9_add_29 ?_
    rw [put_ni _ _ (by decide)]
    refine zr_iconst (pc := 32) dX9_add_32 ?_
    refine zr_iadd (pc := 33) dX9_add_33 ?_
    refine zr_putI (pc := 34) (z := 2) fX9_18 lo_42 rfl fwX9_2 rfl rfl dX9_add_34 ?_
    exact zr_return (pc := 37) dX9_add_37 rfl (hq0 (by omega))
  · refine zr_aload_n (pc := 4) dX9_add_4 rfl rfl ?_
    refine zr_dup_r (pc := 5) dX9_add_5 ?_
    refine zr_getI (pc := 6) (z := 0) fX9_9 lo_42 rfl rfl rfl dX9_add_6 ?_
    refine zr_iload_n (pc := 9) dX9_add_9 rfl rfl ?_
    refine zr_ior (pc := 10) dX9_add_10 ?_
    refine zr_putI (pc := 11) (z := 0) fX9_9 lo_42 rfl fwX9_0 rfl rfl dX9_add_11 ?_
    refine zr_goto (pc := 14) (tgt := 27) dX9_add_14 (by decide) ?_
    refine zr_aload_n (pc := 27) dX9_add_27 rfl rfl ?_
    refine zr_dup_r (pc := 28) dX9_add_28 ?_
    refine zr_getI (pc := 29) (z := 2) fX9_18 lo_42 rfl rfl rfl dX9_add_29 ?_
    rw [put_ni _ _ (by decide)]
    refine zr_iconst (pc := 32) dX9_add_32 ?_
    refine zr_iadd (pc := 33) dX9_add_33 ?_
    refine zr_putI (pc := 34) (z := 2) fX9_18 lo_42 rfl fwX9_2 rfl rfl dX9_add_34 ?_
    exact zr_return (pc := 37) dX9_add_37 rfl (hq1 (by omega))

theorem knB_s {v l k n : Int} {sl sk : Int → Int} (hn : 0 ≤ n) : knB v (n + 1, upI sl n l, upI sk n k) = if k = v then zb_or (knB v (n, sl, sk)) (zb_shl 1 (l - 1)) else knB v (n, sl, sk) := by
  unfold knB
  dsimp only
  rw [fo_s hn]
  have e1 : fo (fun e b => if upI sk n k e = v then zb_or b (zb_shl 1 (upI sl n l e - 1)) else b) 0 n.toNat = fo (fun e b => if sk e = v then zb_or b (zb_shl 1 (sl e - 1)) else b) 0 n.toNat := fo_c (fun i b a c => by rw [upI_n (by omega), upI_n (by omega)])
  rw [e1]
  simp only [upI_s]
theorem RX_S {σ : Sg} {M M2 : zm_M} {S' : Int × (Int → Int) × (Int → Int)} (h : RX σ M) (hfr : ∀ (k : Nat) (i : Int), k ≠ 42 → k < 46 → M2 k i = M k i) (hS : M2 42 2 = S'.1 ∧ M2 42 0 = knB 1 S' ∧ M2 42 1 = knB 0 S') : RX (sT σ, sL σ, sC σ, sA σ, sK σ, S', sD σ) M2 := by
  obtain ⟨h1, h2, h3, h4, h5, h6, h7⟩ := h
  refine ⟨⟨?_, fun i a b => ?_⟩, ?_, ?_, ⟨?_, fun j a b => ?_⟩, fun s a b => ?_, hS, ?_⟩
  · rw [hfr 1 1 (by omega) (by omega)]
    exact h1.1
  · rw [hfr 2 i (by omega) (by omega)]
    exact h1.2 i a b
  · rw [lvX_fr (fun k i a b => hfr k i (by omega) (by omega))]
    exact h2
  · rw [cvX_fr (fun k i a b => hfr k i (by omega) (by omega))]
    exact h3
  · rw [hfr 27 2 (by omega) (by omega)]
    exact h4.1
  · rw [hfr 28 j (by omega) (by omega), hfr 29 j (by omega) (by omega)]
    exact h4.2 j a b
  · rw [hfr 33 s (by omega) (by omega), hfr 31 s (by omega) (by omega), hfr 32 s (by omega) (by omega)]
    exact h5 s a b
  · rw [hfr 0 11 (by omega) (by omega)]
    exact h7
set_option maxRecDepth 100000 in
set_option maxHeartbeats 4000000 in
theorem ct_X10_unknew {g : zt_G} {M : zm_M} {σ : Sg} {q : Int → zm_M → Prop} (hR : RX σ M) (hW : SW σ) (h : ∀ M2, frX M M2 → RX (oUnknew σ).2 M2 → q (oUnknew σ).1 M2) : zc_K g yX10_unknew mX10_unknew [zv_r 0] M (zq_I q) := by
  refine zc_of (ls := [some (zv_r 0), none]) (by decide) rfl ⟨rfl, rfl⟩ (Nat.le_of_ble_eq_true rfl) rfl ?_
  obtain ⟨hT, hl, hcv, hA, hK, hS, hD⟩ := id hR
  obtain ⟨wT, wTx, wL, ⟨wC, wZ⟩, wA, wK, wS⟩ := id hW
  have hLw : LW (lvX M 13) := by rw [hl]; exact wL
  have hCw : CW (cvX M 17) := by rw [hcv]; exact wC
  have hw0 := wXt hCw
  have hL0 := yXk hLw
  have hk1 : M 13 3 = (sL σ).1 := by rw [← hl]; rfl
  have ht1 : M 17 5 = ct (sC σ) := by rw [← hcv]; rfl
  have hT1 := hT.1
  refine zr_aload_n (pc := 0) dX10_unknew_0 rfl rfl ?_
  refine zr_getR (pc := 1) fX10_71 lo_0 rfl rfl dX10_unknew_1 ?_
  refine zr_getI (pc := 4) (z := 2) fX10_255 lo_42 rfl rfl rfl dX10_unknew_4 ?_
  refine zr_istore_n (pc := 7) dX10_unknew_7 rfl (Nat.le_of_ble_eq_true rfl) rfl ?_
  refine zr_aload_n (pc := 8) dX10_unknew_8 rfl rfl ?_
  refine zr_getR (pc := 9) fX10_71 lo_0 rfl rfl dX10_unknew_9 ?_
  refine zr_inv0V (pc := 12) rfl sX10_259 lo_42 rfl rfl rfl dX10_unknew_12 ?_
  refine ct_X9_clear ?_
  refine zr_iload_n (pc := 15) dX10_unknew_15 rfl rfl ?_
  exact zr_ireturn (pc := 16) dX10_unknew_16 rfl (zq_eq (h _ (fun k i a => by rw [put_nk _ _ _ _ (by omega), put_nk _ _ _ _ (by omega), put_nk _ _ _ _ (by omega)]) (RX_S hR (fun k i a b => by rw [put_nk _ _ _ _ a, put_nk _ _ _ _ a, put_nk _ _ _ _ a]) ⟨put_at _ _ _ _, by rw [put_ni _ _ (by decide), put_ni _ _ (by decide), put_at]; rfl, by rw [put_ni _ _ (by decide), put_at]; rfl⟩)) hS.1)

set_option maxRecDepth 100000 in
set_option maxHeartbeats 4000000 in
theorem ct_X10_knew {g : zt_G} {M : zm_M} {σ : Sg} {q : Int → zm_M → Prop} (hR : RX σ M) (hW : SW σ) {l k : Int} (hl0 : zi l) (hk0 : zi k) (h : ∀ M2, frX M M2 → RX (oKnew l k σ).2 M2 → q (oKnew l k σ).1 M2) : zc_K g yX10_knew mX10_knew [zv_r 0, zv_i l, zv_i k] M (zq_I q) := by
  refine zc_of (ls := [some (zv_r 0), some (zv_i l), some (zv_i k)]) (by decide) rfl ⟨rfl, rfl⟩ (Nat.le_of_ble_eq_true rfl) rfl ?_
  obtain ⟨hT, hl, hcv, hA, hK, hS, hD⟩ := id hR
  obtain ⟨wT, wTx, wL, ⟨wC, wZ⟩, wA, wK, wS⟩ := id hW
  have hLw : LW (lvX M 13) := by rw [hl]; exact wL
  have hCw : CW (cvX M 17) := by rw [hcv]; exact wC
  have hw0 := wXt hCw
  have hL0 := yXk hLw
  have hk1 : M 13 3 = (sL σ).1 := by rw [← hl]; rfl
  have ht1 : M 17 5 = ct (sC σ) := by rw [← hcv]; rfl
  have hT1 := hT.1
  have hS1 := hS.1
  have wS1 := wS.1
  refine zr_iload_n (pc := 0) dX10_knew_0 rfl rfl ?_
  refine zr_stat1I (pc := 1) rfl sX10_252 rfl rfl dX10_knew_1 ?_
  refine ct_X10_isLayerFigure hl0 ?_
  refine zr_ifb_eq (pc := 4) (tgt := 16) dX10_knew_4 (by decide) (fun h4 => ?_) (fun h4 => ?_)
  · refine zr_bipush (pc := 16) dX10_knew_16 (by decide) ?_
    exact zr_ireturn (pc := 18) dX10_knew_18 rfl (zq_eq (h M (fun _ _ _ => rfl) (by unfold oKnew; rw [if_pos (by omega)]; exact hR)) (by unfold oKnew; rw [if_pos (by omega)]))
  · refine zr_iload_n (pc := 7) dX10_knew_7 rfl rfl ?_
    refine zi_if_lt (pc := 8) (tgt := 16) dX10_knew_8 (by decide) (by omega) (fun h8 => ?_) (fun h8 => ?_)
    · refine zr_bipush (pc := 16) dX10_knew_16 (by decide) ?_
      exact zr_ireturn (pc := 18) dX10_knew_18 rfl (zq_eq (h M (fun _ _ _ => rfl) (by unfold oKnew; rw [if_pos (by omega)]; exact hR)) (by unfold oKnew; rw [if_pos (by omega)]))
    · refine zr_iload_n (pc := 11) dX10_knew_11 rfl rfl ?_
      refine zr_iconst (pc := 12) dX10_knew_12 ?_
      refine zi_icmp_le (pc := 13) (tgt := 19) dX10_knew_13 (by decide) (by omega) (by omega) (fun h13 => ?_) (fun h13 => ?_)
      · refine zr_aload_n (pc := 19) dX10_knew_19 rfl rfl ?_
        refine zr_getR (pc := 20) fX10_71 lo_0 rfl rfl dX10_knew_20 ?_
        refine zr_getI (pc := 23) (z := 2) fX10_255 lo_42 rfl rfl rfl dX10_knew_23 ?_
        refine zr_bipush (pc := 26) dX10_knew_26 (by decide) ?_
        refine zi_icmp_lt (pc := 28) (tgt := 34) dX10_knew_28 (by decide) (by omega) (by omega) (fun h28 => ?_) (fun h28 => ?_)
        · refine zr_aload_n (pc := 34) dX10_knew_34 rfl rfl ?_
          refine zr_getR (pc := 35) fX10_71 lo_0 rfl rfl dX10_knew_35 ?_
          refine zr_iconst (pc := 38) dX10_knew_38 ?_
          refine zr_iload_n (pc := 39) dX10_knew_39 rfl rfl ?_
          refine zr_iconst (pc := 40) dX10_knew_40 ?_
          refine zr_isub (pc := 41) dX10_knew_41 ?_
          refine zr_ishl (pc := 42) dX10_knew_42 ?_
          refine zr_iload_n (pc := 43) dX10_knew_43 rfl rfl ?_
          refine zr_iconst (pc := 44) dX10_knew_44 ?_
          refine zi_icmp_ne (pc := 45) (tgt := 52) dX10_knew_45 (by decide) (by omega) (by omega) (fun h45 => ?_) (fun h45 => ?_)
          · refine zr_iconst (pc := 52) dX10_knew_52 ?_
            refine zr_inv2V (pc := 53) rfl sX10_256 lo_42 rfl rfl rfl dX10_knew_53 ?_
            refine ct_X9_add (by decide) (fun y => absurd y (by decide)) (fun y => ?_)
            refine zr_aload_n (pc := 56) dX10_knew_56 rfl rfl ?_
            refine zr_getR (pc := 57) fX10_71 lo_0 rfl rfl dX10_knew_57 ?_
            refine zr_getI (pc := 60) (z := 2) fX10_255 lo_42 rfl rfl rfl dX10_knew_60 ?_
            exact zr_ireturn (pc := 63) dX10_knew_63 rfl (zq_eq (h _ (fun k i a => by rw [put_nk _ _ _ _ (by omega), put_nk _ _ _ _ (by omega)]) (by
                unfold oKnew
                rw [if_neg (by omega), if_neg (by omega)]
                refine RX_S hR (fun k i a b => by rw [put_nk _ _ _ _ a, put_nk _ _ _ _ a]) ⟨by rw [put_at, hS.1], ?_, ?_⟩
                · rw [knB_s wS.1.1, put_ni _ _ (by decide), if_neg (by omega), put_ni _ _ (by decide), hS.2.1]
                · rw [knB_s wS.1.1, put_ni _ _ (by decide), if_pos (by omega), put_at, hS.2.2])) (by unfold oKnew; rw [if_neg (by omega), if_neg (by omega), put_at, hS.1]))
          · refine zr_iconst (pc := 48) dX10_knew_48 ?_
            refine zr_goto (pc := 49) (tgt := 53) dX10_knew_49 (by decide) ?_
            refine zr_inv2V (pc := 53) rfl sX10_256 lo_42 rfl rfl rfl dX10_knew_53 ?_
            refine ct_X9_add (by decide) (fun y => ?_) (fun y => absurd y (by decide))
            refine zr_aload_n (pc := 56) dX10_knew_56 rfl rfl ?_
            refine zr_getR (pc := 57) fX10_71 lo_0 rfl rfl dX10_knew_57 ?_
            refine zr_getI (pc := 60) (z := 2) fX10_255 lo_42 rfl rfl rfl dX10_knew_60 ?_
            exact zr_ireturn (pc := 63) dX10_knew_63 rfl (zq_eq (h _ (fun k i a => by rw [put_nk _ _ _ _ (by omega), put_nk _ _ _ _ (by omega)]) (by
                unfold oKnew
                rw [if_neg (by omega), if_neg (by omega)]
                refine RX_S hR (fun k i a b => by rw [put_nk _ _ _ _ a, put_nk _ _ _ _ a]) ⟨by rw [put_at, hS.1], ?_, ?_⟩
                · rw [knB_s wS.1.1, put_ni _ _ (by decide), if_pos (by omega), put_at, hS.2.1]
                · rw [knB_s wS.1.1, put_ni _ _ (by decide), if_neg (by omega), put_ni _ _ (by decide), hS.2.2])) (by unfold oKnew; rw [if_neg (by omega), if_neg (by omega), put_at, hS.1]))
        · refine zr_bipush (pc := 31) dX10_knew_31 (by decide) ?_
          exact zr_ireturn (pc := 33) dX10_knew_33 rfl (zq_eq (h M (fun _ _ _ => rfl) (by unfold oKnew; rw [if_neg (by omega), if_pos (by omega)]; exact hR)) (by unfold oKnew; rw [if_neg (by omega), if_pos (by omega)]))
      · refine zr_bipush (pc := 16) dX10_knew_16 (by decide) ?_
        exact zr_ireturn (pc := 18) dX10_knew_18 rfl (zq_eq (h M (fun _ _ _ => rfl) (by unfold oKnew; rw [if_pos (by omega)]; exact hR)) (by unfold oKnew; rw [if_pos (by omega)]))

