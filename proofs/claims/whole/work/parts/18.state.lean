/-! THE STATE in numbers: text, land, camp, acts, slots, what was told, seed -/
abbrev Sg : Type := (Int × (Int → Int)) × Ln × Cm × (Int × (Int → Cm)) × ((Int → Int) × (Int → Cm)) × (Int × (Int → Int) × (Int → Int)) × Int
abbrev sT (σ : Sg) : Int × (Int → Int) := σ.1
abbrev sL (σ : Sg) : Ln := σ.2.1
abbrev sC (σ : Sg) : Cm := σ.2.2.1
abbrev sA (σ : Sg) : Int × (Int → Cm) := σ.2.2.2.1
abbrev sK (σ : Sg) : (Int → Int) × (Int → Cm) := σ.2.2.2.2.1
abbrev sS (σ : Sg) : Int × (Int → Int) × (Int → Int) := σ.2.2.2.2.2.1
abbrev sD (σ : Sg) : Int := σ.2.2.2.2.2.2
/-- a camp that was kept: of the same tramps -/
def CA (C D : Cm) : Prop := CW D ∧ CZ D ∧ ct D = ct C ∧ ck D = ck C
def knB (v : Int) (S : Int × (Int → Int) × (Int → Int)) : Int := fo (fun e b => if S.2.2 e = v then zb_or b (zb_shl 1 (S.2.1 e - 1)) else b) 0 S.1.toNat
def SW (σ : Sg) : Prop := (0 ≤ (sT σ).1 ∧ (sT σ).1 ≤ 48) ∧ (∀ i, 0 ≤ i → i < (sT σ).1 → 0 ≤ (sT σ).2 i ∧ (sT σ).2 i ≤ 255) ∧ LW (sL σ) ∧ (CW (sC σ) ∧ CZ (sC σ)) ∧ ((0 ≤ (sA σ).1 ∧ (sA σ).1 ≤ 14) ∧ ∀ j, 0 ≤ j → j < (sA σ).1 → CA (sC σ) ((sA σ).2 j)) ∧ (∀ s, 0 ≤ s → s < 2 → ((sK σ).1 s = 0 ∨ (sK σ).1 s = 1) ∧ ((sK σ).1 s = 1 → CA (sC σ) ((sK σ).2 s))) ∧ ((0 ≤ (sS σ).1 ∧ (sS σ).1 ≤ 6) ∧ ∀ e, 0 ≤ e → e < (sS σ).1 → (1 ≤ (sS σ).2.1 e ∧ (sS σ).2.1 e ≤ 6) ∧ ((sS σ).2.2 e = 0 ∨ (sS σ).2.2 e = 1))
def XT (σ : Sg) (M : zm_M) : Prop := M 1 1 = (sT σ).1 ∧ ∀ i, 0 ≤ i → i < (sT σ).1 → M 2 i = (sT σ).2 i
def XA (σ : Sg) (M : zm_M) : Prop := M 27 2 = (sA σ).1 ∧ ∀ j, 0 ≤ j → j < (sA σ).1 → M 28 j = pk ((sA σ).2 j) ∧ M 29 j = cg ((sA σ).2 j)
def XK (σ : Sg) (M : zm_M) : Prop := ∀ s, 0 ≤ s → s < 2 → M 33 s = (sK σ).1 s ∧ ((sK σ).1 s = 1 → M 31 s = pk ((sK σ).2 s) ∧ M 32 s = cg ((sK σ).2 s))
def XS (σ : Sg) (M : zm_M) : Prop := M 42 2 = (sS σ).1 ∧ M 42 0 = knB 1 (sS σ) ∧ M 42 1 = knB 0 (sS σ)
/-- the class's cells hold the state -/
def RX (σ : Sg) (M : zm_M) : Prop := XT σ M ∧ lvX M 13 = sL σ ∧ cvX M 17 = sC σ ∧ XA σ M ∧ XK σ M ∧ XS σ M ∧ zx (M 0 11) = sD σ
def frX (M M2 : zm_M) : Prop := ∀ (k : Nat) (i : Int), 46 ≤ k → M2 k i = M k i
def frM (M M2 : zm_M) : Prop := ∀ (k : Nat) (i : Int), k < 46 → M2 k i = M k i
/-- cells that hold nothing of the state: the reader, the trial camp, search, orders, game -/
def zsc (k : Nat) : Prop := (3 ≤ k ∧ k ≤ 12) ∨ (22 ≤ k ∧ k ≤ 26) ∨ (34 ≤ k ∧ k ≤ 41) ∨ (43 ≤ k ∧ k ≤ 45)
theorem RX_fr {σ : Sg} {M M2 : zm_M} (h : RX σ M) (hf : ∀ (k : Nat) (i : Int), k < 46 → ¬ zsc k → k = 42 → (i = 0 ∨ i = 1 ∨ i = 2) → M2 k i = M k i) (hg : ∀ (k : Nat) (i : Int), k < 46 → ¬ zsc k → k ≠ 42 → M2 k i = M k i) : RX σ M2 := by
  obtain ⟨h1, h2, h3, h4, h5, h6, h7⟩ := h
  have g : ∀ (k : Nat) (i : Int), k < 46 → ¬ zsc k → k ≠ 42 → M2 k i = M k i := hg
  refine ⟨⟨?_, ?_⟩, ?_, ?_, ⟨?_, ?_⟩, ?_, ⟨?_, ?_, ?_⟩, ?_⟩
  · rw [g 1 1 (by decide) (by unfold zsc; omega) (by decide)]
    exact h1.1
  · intro i a b
    rw [g 2 i (by decide) (by unfold zsc; omega) (by decide)]
    exact h1.2 i a b
  · rw [lvX_fr (fun k i a b => g k i (by omega) (by unfold zsc; omega) (by omega))]
    exact h2
  · rw [cvX_fr (fun k i a b => g k i (by omega) (by unfold zsc; omega) (by omega))]
    exact h3
  · rw [g 27 2 (by decide) (by unfold zsc; omega) (by decide)]
    exact h4.1
  · intro j a b
    rw [g 28 j (by decide) (by unfold zsc; omega) (by decide), g 29 j (by decide) (by unfold zsc; omega) (by decide)]
    exact h4.2 j a b
  · intro s a b
    rw [g 33 s (by decide) (by unfold zsc; omega) (by decide), g 31 s (by decide) (by unfold zsc; omega) (by decide), g 32 s (by decide) (by unfold zsc; omega) (by decide)]
    exact h5 s a b
  · rw [hf 42 2 (by decide) (by unfold zsc; omega) rfl (by omega)]
    exact h6.1
  · rw [hf 42 0 (by decide) (by unfold zsc; omega) rfl (by omega)]
    exact h6.2.1
  · rw [hf 42 1 (by decide) (by unfold zsc; omega) rfl (by omega)]
    exact h6.2.2
  · rw [g 0 11 (by decide) (by unfold zsc; omega) (by decide)]
    exact h7
theorem RX_frs {σ : Sg} {M M2 : zm_M} (h : RX σ M) (hg : ∀ (k : Nat) (i : Int), k < 46 → ¬ zsc k → M2 k i = M k i) : RX σ M2 := RX_fr h (fun k i a b _ _ => hg k i a b) (fun k i a b _ => hg k i a b)
def SgC (C : Cm) (σ : Sg) : Sg := (sT σ, sL σ, C, σ.2.2.2)
def SgA (A : Int × (Int → Cm)) (σ : Sg) : Sg := (sT σ, sL σ, sC σ, A, σ.2.2.2.2)
def psA (C : Cm) (A : Int × (Int → Cm)) : Int × (Int → Cm) := if 14 ≤ A.1 then (14, fun j => if j = 13 then C else A.2 (j + 1)) else (A.1 + 1, fun j => if j = A.1 then C else A.2 j)
def frAc (M M2 : zm_M) : Prop := ∀ (k : Nat) (i : Int), (k < 27 ∨ 29 < k) → M2 k i = M k i
set_option maxRecDepth 100000 in
set_option maxHeartbeats 4000000 in
theorem ct_X6_add {g : zt_G} {M : zm_M} {q : zm_M → Prop} {x : Int} (hk : 0 ≤ M 1 1 ∧ M 1 1 < 48) (h : q (zm_put (zm_put M 2 (M 1 1) x) 1 1 (M 1 1 + 1))) : zc_K g yX6_add mX6_add [zv_r 1, zv_i x] M (zq_V q) := by
  refine zc_of (ls := [some (zv_r 1), some (zv_i x)]) (by decide) rfl ⟨rfl, rfl⟩ (Nat.le_of_ble_eq_true rfl) rfl ?_
  refine zr_aload_n (pc := 0) dX6_add_0 rfl rfl ?_
  refine zr_getI (pc := 1) (z := 1) fX6_15 lo_1 rfl rfl rfl dX6_add_1 ?_
  refine zr_bipush (pc := 4) dX6_add_4 (by decide) ?_
  refine zi_icmp_ge (pc := 6) (tgt := 29) dX6_add_6 (by decide) (by omega) (by omega) (fun h6 => ?_) (fun h6 => ?_)
  · exact zr_return (pc := 29) dX6_add_29 rfl (absurd h6 (by omega))
  · refine zr_aload_n (pc := 9) dX6_add_9 rfl rfl ?_
    refine zr_getR (pc := 10) fX6_9 lo_1 rfl rfl dX6_add_10 ?_
    refine zr_aload_n (pc := 13) dX6_add_13 rfl rfl ?_
    refine zr_getI (pc := 14) (z := 1) fX6_15 lo_1 rfl rfl rfl dX6_add_14 ?_
    refine zr_iload_n (pc := 17) dX6_add_17 rfl rfl ?_
    refine zr_iastore (pc := 18) lo_2 (by omega) dX6_add_18 ?_
    refine zr_aload_n (pc := 19) dX6_add_19 rfl rfl ?_
    refine zr_dup_r (pc := 20) dX6_add_20 ?_
    refine zr_getI (pc := 21) (z := 1) fX6_15 lo_1 rfl rfl rfl dX6_add_21 ?_
    rw [put_nk M (k := 2) (k2 := 1) _ _ _ (by decide)]
    refine zr_iconst (pc := 24) dX6_add_24 ?_
    refine zr_iadd (pc := 25) dX6_add_25 ?_
    refine zr_putI (pc := 26) (z := 1) fX6_15 lo_1 rfl fwX6_1 rfl rfl dX6_add_26 ?_
    exact zr_return (pc := 29) dX6_add_29 rfl h

set_option maxRecDepth 100000 in
set_option maxHeartbeats 4000000 in
theorem ct_X0_clear {g : zt_G} {M : zm_M} {q : zm_M → Prop} (h : q (zm_put M 27 2 0)) : zc_K g yX0_clear mX0_clear [zv_r 27] M (zq_V q) := by
  refine zc_of (ls := [some (zv_r 27)]) (by decide) rfl ⟨rfl, rfl⟩ (Nat.le_of_ble_eq_true rfl) rfl ?_
  refine zr_aload_n (pc := 0) dX0_clear_0 rfl rfl ?_
  refine zr_iconst (pc := 1) dX0_clear_1 ?_
  refine zr_putI (pc := 2) (z := 2) fX0_19 lo_27 rfl fwX0_2 rfl rfl dX0_clear_2 ?_
  exact zr_return (pc := 5) dX0_clear_5 rfl h

theorem pk_fr {M M2 : zm_M} (h : ∀ (k : Nat) (i : Int), 17 ≤ k → k ≤ 21 → M2 k i = M k i) : cvX M2 17 = cvX M 17 := cvX_fr (fun k i a b => h k i (by omega) (by omega))
set_option maxRecDepth 100000 in
set_option maxHeartbeats 4000000 in
theorem ct_X0_push {g : zt_G} {M : zm_M} {q : zm_M → Prop} {σ : Sg} (hA : XA σ M) (hn : 0 ≤ (sA σ).1 ∧ (sA σ).1 ≤ 14) (hw : CW (cvX M 17)) (h : ∀ M2, frAc M M2 → XA (SgA (psA (cvX M 17) (sA σ)) σ) M2 → q M2) : zc_K g yX0_push mX0_push [zv_r 27, zv_r 17] M (zq_V q) := by
  refine zc_of (ls := [some (zv_r 27), some (zv_r 17)]) (by decide) rfl ⟨rfl, rfl⟩ (Nat.le_of_ble_eq_true rfl) rfl ?_
  have hA1 := hA.1
  refine zr_aload_n (pc := 0) dX0_push_0 rfl rfl ?_
  refine zr_getI (pc := 1) (z := 2) fX0_19 lo_27 rfl rfl rfl dX0_push_1 ?_
  refine zr_bipush (pc := 4) dX0_push_4 (by decide) ?_
  refine zi_icmp_lt (pc := 6) (tgt := 45) dX0_push_6 (by decide) (by omega) (by omega) (fun h6 => ?_) (fun h6 => ?_)
  · refine zr_aload_n (pc := 45) dX0_push_45 rfl rfl ?_
    refine zr_getR (pc := 46) fX0_9 lo_27 rfl rfl dX0_push_46 ?_
    refine zr_aload_n (pc := 49) dX0_push_49 rfl rfl ?_
    refine zr_getI (pc := 50) (z := 2) fX0_19 lo_27 rfl rfl rfl dX0_push_50 ?_
    refine zr_aload_n (pc := 53) dX0_push_53 rfl rfl ?_
    refine zr_inv0L (pc := 54) rfl sX0_29 zp_c17.1 rfl rfl rfl dX0_push_54 ?_
    refine ct_X1_packed zp_c17 hw ?_
    refine zr_lastore (pc := 57) lo_28 (by omega) dX0_push_57 ?_
    refine zr_aload_n (pc := 58) dX0_push_58 rfl rfl ?_
    refine zr_getR (pc := 59) fX0_15 lo_27 rfl rfl dX0_push_59 ?_
    refine zr_aload_n (pc := 62) dX0_push_62 rfl rfl ?_
    refine zr_getI (pc := 63) (z := 2) fX0_19 lo_27 rfl rfl rfl dX0_push_63 ?_
    refine zr_aload_n (pc := 66) dX0_push_66 rfl rfl ?_
    refine zr_getI (pc := 67) (z := 6) fX0_35 zp_c17.1 rfl rfl rfl dX0_push_67 ?_
    refine zr_iastore (pc := 70) lo_29 (by rw [put_nk _ _ _ _ (show 27 ≠ 28 by decide)]; omega) dX0_push_70 ?_
    refine zr_aload_n (pc := 71) dX0_push_71 rfl rfl ?_
    refine zr_dup_r (pc := 72) dX0_push_72 ?_
    refine zr_getI (pc := 73) (z := 2) fX0_19 lo_27 rfl rfl rfl dX0_push_73 ?_
    refine zr_iconst (pc := 76) dX0_push_76 ?_
    refine zr_iadd (pc := 77) dX0_push_77 ?_
    refine zr_putI (pc := 78) (z := 2) fX0_19 lo_27 rfl fwX0_2 rfl rfl dX0_push_78 ?_
    exact zr_return (pc := 81) dX0_push_81 rfl (h _ (fun k i a => by rw [put_nk _ _ _ _ (by omega), put_nk _ _ _ _ (by omega), put_nk _ _ _ _ (by omega)]) (by
        unfold SgA psA
        rw [if_neg (by omega)]
        refine ⟨by rw [put_at, put_nk _ _ _ _ (show 27 ≠ 29 by decide), put_nk _ _ _ _ (show 27 ≠ 28 by decide), hA1], fun j a b => ?_⟩
        dsimp only at b ⊢
        rw [put_nk _ _ _ _ (show 28 ≠ 27 by decide), put_nk _ _ _ _ (show 28 ≠ 29 by decide), put_nk _ _ _ _ (show 29 ≠ 27 by decide), put_nk M _ _ _ (show 27 ≠ 28 by decide), put_nk M _ _ _ (show 17 ≠ 28 by decide)]
        by_cases hj : j = (sA σ).1
        · rw [if_pos hj, hj, hA1, put_at, put_at]
          exact ⟨rfl, rfl⟩
        · rw [if_neg hj, hA1, put_ni _ _ hj, put_ni _ _ hj, put_nk _ _ _ _ (show 29 ≠ 28 by decide)]
          exact hA.2 j a (by omega)))
  · refine zr_aload_n (pc := 9) dX0_push_9 rfl rfl ?_
    refine zr_getR (pc := 10) fX0_9 lo_27 rfl rfl dX0_push_10 ?_
    refine zr_iconst (pc := 13) dX0_push_13 ?_
    refine zr_aload_n (pc := 14) dX0_push_14 rfl rfl ?_
    refine zr_getR (pc := 15) fX0_9 lo_27 rfl rfl dX0_push_15 ?_
    refine zr_iconst (pc := 18) dX0_push_18 ?_
    refine zr_bipush (pc := 19) dX0_push_19 (by decide) ?_
    refine zr_copyl (pc := 21) rfl sX0_23 lo_28 lo_28 (by omega) (by omega) rfl dX0_push_21 ?_
    refine zr_aload_n (pc := 24) dX0_push_24 rfl rfl ?_
    refine zr_getR (pc := 25) fX0_15 lo_27 rfl rfl dX0_push_25 ?_
    refine zr_iconst (pc := 28) dX0_push_28 ?_
    refine zr_aload_n (pc := 29) dX0_push_29 rfl rfl ?_
    refine zr_getR (pc := 30) fX0_15 lo_27 rfl rfl dX0_push_30 ?_
    refine zr_iconst (pc := 33) dX0_push_33 ?_
    refine zr_bipush (pc := 34) dX0_push_34 (by decide) ?_
    refine zr_copyi (pc := 36) rfl sX0_23 lo_29 lo_29 (by omega) (by omega) rfl dX0_push_36 ?_
    refine zr_aload_n (pc := 39) dX0_push_39 rfl rfl ?_
    refine zr_bipush (pc := 40) dX0_push_40 (by decide) ?_
    refine zr_putI (pc := 42) (z := 2) fX0_19 lo_27 rfl fwX0_2 rfl rfl dX0_push_42 ?_
    have e1 : zm_put (zm_cpy (zm_cpy M 28 1 28 0 13) 29 1 29 0 13) 27 2 13 27 2 = 13 := put_at _ _ _ _
    have e2 : cvX (zm_put (zm_cpy (zm_cpy M 28 1 28 0 13) 29 1 29 0 13) 27 2 13) 17 = cvX M 17 := pk_fr (fun k i a b => by rw [put_nk _ _ _ _ (by omega)]; unfold zm_cpy; rw [if_neg (by omega), if_neg (by omega)])
    have hw2 : CW (cvX (zm_put (zm_cpy (zm_cpy M 28 1 28 0 13) 29 1 29 0 13) 27 2 13) 17) := by rw [e2]; exact hw
    have e3 : zm_put (zm_cpy (zm_cpy M 28 1 28 0 13) 29 1 29 0 13) 27 2 13 17 6 = M 17 6 := congrArg cg e2
    refine zr_aload_n (pc := 45) dX0_push_45 rfl rfl ?_
    refine zr_getR (pc := 46) fX0_9 lo_27 rfl rfl dX0_push_46 ?_
    refine zr_aload_n (pc := 49) dX0_push_49 rfl rfl ?_
    refine zr_getI (pc := 50) (z := 2) fX0_19 lo_27 rfl rfl rfl dX0_push_50 ?_
    refine zr_aload_n (pc := 53) dX0_push_53 rfl rfl ?_
    refine zr_inv0L (pc := 54) rfl sX0_29 zp_c17.1 rfl rfl rfl dX0_push_54 ?_
    refine ct_X1_packed zp_c17 hw2 ?_
    rw [e2]
    refine zr_lastore (pc := 57) lo_28 (by omega) dX0_push_57 ?_
    refine zr_aload_n (pc := 58) dX0_push_58 rfl rfl ?_
    refine zr_getR (pc := 59) fX0_15 lo_27 rfl rfl dX0_push_59 ?_
    refine zr_aload_n (pc := 62) dX0_push_62 rfl rfl ?_
    refine zr_getI (pc := 63) (z := 2) fX0_19 lo_27 rfl rfl rfl dX0_push_63 ?_
    refine zr_aload_n (pc := 66) dX0_push_66 rfl rfl ?_
    refine zr_getI (pc := 67) (z := 6) fX0_35 zp_c17.1 rfl rfl rfl dX0_push_67 ?_
    refine zr_iastore (pc := 70) lo_29 (by rw [put_nk _ _ _ _ (show 27 ≠ 28 by decide)]; omega) dX0_push_70 ?_
    refine zr_aload_n (pc := 71) dX0_push_71 rfl rfl ?_
    refine zr_dup_r (pc := 72) dX0_push_72 ?_
    refine zr_getI (pc := 73) (z := 2) fX0_19 lo_27 rfl rfl rfl dX0_push_73 ?_
    refine zr_iconst (pc := 76) dX0_push_76 ?_
    refine zr_iadd (pc := 77) dX0_push_77 ?_
    refine zr_putI (pc := 78) (z := 2) fX0_19 lo_27 rfl fwX0_2 rfl rfl dX0_push_78 ?_
    exact zr_return (pc := 81) dX0_push_81 rfl (h _ (fun k i a => by rw [put_nk _ _ _ _ (by omega), put_nk _ _ _ _ (by omega), put_nk _ _ _ _ (by omega), put_nk _ _ _ _ (by omega)]; unfold zm_cpy; rw [if_neg (by omega), if_neg (by omega)]) (by
        unfold SgA psA
        rw [if_pos (by omega)]
        refine ⟨by rw [put_at, put_nk _ _ _ _ (show 27 ≠ 29 by decide), put_nk _ _ _ _ (show 27 ≠ 28 by decide), e1]; rfl, fun j a b => ?_⟩
        dsimp only at b ⊢
        rw [put_nk _ _ _ _ (show 28 ≠ 27 by decide), put_nk _ _ _ _ (show 28 ≠ 29 by decide), put_nk _ _ _ _ (show 29 ≠ 27 by decide), put_nk _ _ _ _ (show 27 ≠ 28 by decide), put_nk _ _ _ _ (show 17 ≠ 28 by decide), e1, e3]
        by_cases hj : j = 13
        · rw [if_pos hj, hj, put_at, put_at]
          exact ⟨rfl, rfl⟩
        · rw [if_neg hj, put_ni _ _ hj, put_ni _ _ hj, put_nk _ _ _ _ (show 29 ≠ 28 by decide), put_nk _ _ _ _ (show 28 ≠ 27 by decide), put_nk _ _ _ _ (show 29 ≠ 27 by decide)]
          have h9 := hA.2 (j + 1) (by omega) (by omega)
          have x1 : zm_cpy (zm_cpy M 28 1 28 0 13) 29 1 29 0 13 28 j = M 28 (j + 1) := by
            unfold zm_cpy
            rw [if_neg (by omega), if_pos ⟨rfl, by omega, by omega⟩]
            congr 1
            omega
          have x2 : zm_cpy (zm_cpy M 28 1 28 0 13) 29 1 29 0 13 29 j = M 29 (j + 1) := by
            unfold zm_cpy
            rw [if_pos ⟨rfl, by omega, by omega⟩, if_neg (by omega)]
            congr 1
            omega
          rw [x1, x2]
          exact h9))

set_option maxRecDepth 100000 in
set_option maxHeartbeats 4000000 in
theorem ct_X0_pop {g : zt_G} {M : zm_M} {q : zm_M → Prop} {σ : Sg} (hA : XA σ M) (hn : 0 < (sA σ).1 ∧ (sA σ).1 ≤ 14) (hw : CW (cvX M 17)) (hCA : CA (cvX M 17) ((sA σ).2 ((sA σ).1 - 1))) (h : ∀ M2, (∀ (k : Nat) (i : Int), k ≠ 27 → (k < 17 ∨ 21 < k) → M2 k i = M k i) → XA (SgA ((sA σ).1 - 1, (sA σ).2) σ) M2 → cvX M2 17 = (sA σ).2 ((sA σ).1 - 1) → q M2) : zc_K g yX0_pop mX0_pop [zv_r 27, zv_r 17] M (zq_V q) := by
  refine zc_of (ls := [some (zv_r 27), some (zv_r 17)]) (by decide) rfl ⟨rfl, rfl⟩ (Nat.le_of_ble_eq_true rfl) rfl ?_
  have hA1 := hA.1
  have hA2 := hA.2 ((sA σ).1 - 1) (by omega) (by omega)
  have e1 : zm_put M 27 2 (M 27 2 - 1) 27 2 = M 27 2 - 1 := put_at _ _ _ _
  have e2 : cvX (zm_put M 27 2 (M 27 2 - 1)) 17 = cvX M 17 := pk_fr (fun k i a b => put_nk _ _ _ _ (by omega))
  have e5 : zm_put M 27 2 (M 27 2 - 1) 17 5 = M 17 5 := put_nk _ _ _ _ (by decide)
  have hT := wXt hw
  have hpk := pk_rng hCA.1
  have e6 : zm_put M 27 2 (M 27 2 - 1) 28 (M 27 2 - 1) = pk ((sA σ).2 ((sA σ).1 - 1)) := by rw [put_nk _ _ _ _ (show 28 ≠ 27 by decide), hA1]; exact hA2.1
  refine zr_aload_n (pc := 0) dX0_pop_0 rfl rfl ?_
  refine zr_getI (pc := 1) (z := 2) fX0_19 lo_27 rfl rfl rfl dX0_pop_1 ?_
  refine zi_if_le (pc := 4) (tgt := 43) dX0_pop_4 (by decide) (by omega) (fun h4 => ?_) (fun h4 => ?_)
  · exact zr_return (pc := 43) dX0_pop_43 rfl (absurd h4 (by omega))
  · refine zr_aload_n (pc := 7) dX0_pop_7 rfl rfl ?_
    refine zr_dup_r (pc := 8) dX0_pop_8 ?_
    refine zr_getI (pc := 9) (z := 2) fX0_19 lo_27 rfl rfl rfl dX0_pop_9 ?_
    refine zr_iconst (pc := 12) dX0_pop_12 ?_
    refine zr_isub (pc := 13) dX0_pop_13 ?_
    refine zr_putI (pc := 14) (z := 2) fX0_19 lo_27 rfl fwX0_2 rfl rfl dX0_pop_14 ?_
    refine zr_aload_n (pc := 17) dX0_pop_17 rfl rfl ?_
    refine zr_aload_n (pc := 18) dX0_pop_18 rfl rfl ?_
    refine zr_getR (pc := 19) fX0_9 lo_27 rfl rfl dX0_pop_19 ?_
    refine zr_aload_n (pc := 22) dX0_pop_22 rfl rfl ?_
    refine zr_getI (pc := 23) (z := 2) fX0_19 lo_27 rfl rfl rfl dX0_pop_23 ?_
    refine zr_laload (pc := 26) lo_28 (by rw [e1]; omega) dX0_pop_26 ?_
    rw [e1, e6]
    refine zr_inv1V (pc := 27) rfl sX0_37 zp_c17.1 rfl rfl rfl dX0_pop_27 ?_
    refine ct_X1_unpack zp_c17 (by rw [e5]; exact hT) hpk (fun M2 hfr hv => ?_)
    refine zr_aload_n (pc := 30) dX0_pop_30 rfl rfl ?_
    refine zr_aload_n (pc := 31) dX0_pop_31 rfl rfl ?_
    refine zr_getR (pc := 32) fX0_15 lo_27 rfl rfl dX0_pop_32 ?_
    refine zr_aload_n (pc := 35) dX0_pop_35 rfl rfl ?_
    refine zr_getI (pc := 36) (z := 2) fX0_19 lo_27 rfl rfl rfl dX0_pop_36 ?_
    have x1 : M2 27 2 = M 27 2 - 1 := by rw [hfr 27 2 (by decide), e1]
    have x2 : M2 29 (M 27 2 - 1) = cg ((sA σ).2 ((sA σ).1 - 1)) := by rw [hfr 29 _ (by decide), put_nk _ _ _ _ (show 29 ≠ 27 by decide), hA1]; exact hA2.2
    refine zr_iaload (pc := 39) lo_29 (by rw [x1]; omega) dX0_pop_39 ?_
    refine zr_putI (pc := 40) (z := 6) fX0_35 zp_c17.1 rfl fwX1_6 rfl rfl dX0_pop_40 ?_
    exact zr_return (pc := 43) dX0_pop_43 rfl (h _ (fun k i a b => by rw [put_nk _ _ _ _ (by omega), hfr k i (by omega), put_nk _ _ _ _ a]) (by
        refine ⟨by rw [put_nk _ _ _ _ (show 27 ≠ 17 by decide), x1, hA1]; rfl, fun j a b => ?_⟩
        have b2 : j < (sA σ).1 - 1 := b
        rw [put_nk _ _ _ _ (show 28 ≠ 17 by decide), put_nk _ _ _ _ (show 29 ≠ 17 by decide), hfr 28 j (by decide), hfr 29 j (by decide), put_nk _ _ _ _ (show 28 ≠ 27 by decide), put_nk _ _ _ _ (show 29 ≠ 27 by decide)]
        exact hA.2 j a (by omega)) (by
        rw [cvX_ni, hv, e2, unp_pk (show ct (cvX M 17) = ct ((sA σ).2 ((sA σ).1 - 1)) from hCA.2.2.1.symm) hCA.1 hCA.2.1, x1, x2, ← hCA.2.2.1, ← hCA.2.2.2]))

set_option maxRecDepth 100000 in
set_option maxHeartbeats 4000000 in
theorem lp_X8_clear {g : zt_G} {M : zm_M} {q : zm_M → Prop} (h : ∀ M2, (∀ (k : Nat) (i : Int), k ≠ 33 → M2 k i = M k i) → (∀ s, 0 ≤ s → s < 2 → M2 33 s = 0) → q M2) : ∀ (nn : Nat) (t : Int) (Mx : zm_M), (2 - t).toNat = nn → 0 ≤ t → t ≤ 2 → (∀ (k : Nat) (i : Int), k ≠ 33 → Mx k i = M k i) → (∀ s, 0 ≤ s → s < t → Mx 33 s = 0) → zc_Z g mX8_clear 2 [some (zv_r 30), some (zv_i t)] [] Mx (zq_V q) := by
  intro nn
  induction nn using Nat.strongRecOn with
  | ind nn ih =>
    intro t Mx hn h0 h1 hfr hv
    refine zr_iload_n (pc := 2) dX8_clear_2 rfl rfl ?_
    refine zr_iconst (pc := 3) dX8_clear_3 ?_
    refine zi_icmp_ge (pc := 4) (tgt := 20) dX8_clear_4 (by decide) (by omega) (by omega) (fun h4 => ?_) (fun h4 => ?_)
    · exact zr_return (pc := 20) dX8_clear_20 rfl (h _ hfr (fun s a b => hv s a (by omega)))
    · refine zr_aload_n (pc := 7) dX8_clear_7 rfl rfl ?_
      refine zr_getR (pc := 8) fX8_19 lo_30 rfl rfl dX8_clear_8 ?_
      refine zr_iload_n (pc := 11) dX8_clear_11 rfl rfl ?_
      refine zr_iconst (pc := 12) dX8_clear_12 ?_
      refine zr_zastore (pc := 13) (by decide) lo_33 (by omega) dX8_clear_13 ?_
      refine zr_iinc (pc := 14) dX8_clear_14 rfl (Nat.le_of_ble_eq_true rfl) rfl ?_
      refine zr_goto (pc := 17) (tgt := 2) dX8_clear_17 (by decide) ?_
      exact ih _ (by omega) _ _ rfl (by omega) (by omega) (fun k i a => by rw [put_nk _ _ _ _ a]; exact hfr k i a) (fun s a b => by
        by_cases hs : s = t
        · rw [hs, put_at]
        · rw [put_ni _ _ hs]
          exact hv s a (by omega))

set_option maxRecDepth 100000 in
set_option maxHeartbeats 4000000 in
theorem ct_X8_clear {g : zt_G} {M : zm_M} {q : zm_M → Prop} (h : ∀ M2, (∀ (k : Nat) (i : Int), k ≠ 33 → M2 k i = M k i) → (∀ s, 0 ≤ s → s < 2 → M2 33 s = 0) → q M2) : zc_K g yX8_clear mX8_clear [zv_r 30] M (zq_V q) := by
  refine zc_of (ls := [some (zv_r 30), none]) (by decide) rfl ⟨rfl, rfl⟩ (Nat.le_of_ble_eq_true rfl) rfl ?_
  refine zr_iconst (pc := 0) dX8_clear_0 ?_
  refine zr_istore_n (pc := 1) dX8_clear_1 rfl (Nat.le_of_ble_eq_true rfl) rfl ?_
  exact lp_X8_clear h _ _ _ rfl (by omega) (by omega) (fun _ _ _ => rfl) (fun s a b => by omega)

set_option maxRecDepth 100000 in
set_option maxHeartbeats 4000000 in
theorem ct_X8_holds {g : zt_G} {M : zm_M} {q : Int → zm_M → Prop} {s : Int} (hs : 0 ≤ s ∧ s < 2) (hk : M 33 s = 0 ∨ M 33 s = 1) (h : q (zb_B (M 33 s = 1)) M) : zc_K g yX8_holds mX8_holds [zv_r 30, zv_i s] M (zq_I q) := by
  refine zc_of (ls := [some (zv_r 30), some (zv_i s)]) (by decide) rfl ⟨rfl, rfl⟩ (Nat.le_of_ble_eq_true rfl) rfl ?_
  refine zr_iload_n (pc := 0) dX8_holds_0 rfl rfl ?_
  refine zr_nest1I (pc := 1) rfl sX8_23 rfl rfl dX8_holds_1 ?_
  refine ct_X10_isSlot (by omega) ?_
  refine zr_ifb_eq (pc := 4) (tgt := 20) dX8_holds_4 (by decide) (fun h4 => ?_) (fun h4 => ?_)
  · refine zr_iconst (pc := 20) dX8_holds_20 ?_
    exact zr_zreturn (pc := 21) dX8_holds_21 rfl (by decide) (absurd hs h4)
  · refine zr_aload_n (pc := 7) dX8_holds_7 rfl rfl ?_
    refine zr_getR (pc := 8) fX8_19 lo_30 rfl rfl dX8_holds_8 ?_
    refine zr_iload_n (pc := 11) dX8_holds_11 rfl rfl ?_
    refine zr_zaload (pc := 12) lo_33 (by omega) dX8_holds_12 ?_
    refine zi_if_eq (pc := 13) (tgt := 20) dX8_holds_13 (by decide) (by omega) (fun h13 => ?_) (fun h13 => ?_)
    · refine zr_iconst (pc := 20) dX8_holds_20 ?_
      exact zr_zreturn (pc := 21) dX8_holds_21 rfl (by decide) (zq_eq h (zb_F (by omega)))
    · refine zr_iconst (pc := 16) dX8_holds_16 ?_
      refine zr_goto (pc := 17) (tgt := 21) dX8_holds_17 (by decide) ?_
      exact zr_zreturn (pc := 21) dX8_holds_21 rfl (by decide) (zq_eq h (zb_T (by omega)))

set_option maxRecDepth 100000 in
set_option maxHeartbeats 4000000 in
theorem ct_X8_put {g : zt_G} {M : zm_M} {q : zm_M → Prop} {s : Int} (hs : 0 ≤ s ∧ s < 2) (hw : CW (cvX M 17)) (h : q (zm_put (zm_put (zm_put M 31 s (pk (cvX M 17))) 32 s (M 17 6)) 33 s 1)) : zc_K g yX8_put mX8_put [zv_r 30, zv_i s, zv_r 17] M (zq_V q) := by
  refine zc_of (ls := [some (zv_r 30), some (zv_i s), some (zv_r 17)]) (by decide) rfl ⟨rfl, rfl⟩ (Nat.le_of_ble_eq_true rfl) rfl ?_
  refine zr_iload_n (pc := 0) dX8_put_0 rfl rfl ?_
  refine zr_nest1I (pc := 1) rfl sX8_23 rfl rfl dX8_put_1 ?_
  refine ct_X10_isSlot (by omega) ?_
  refine zr_ifb_eq (pc := 4) (tgt := 34) dX8_put_4 (by decide) (fun h4 => ?_) (fun h4 => ?_)
  · exact zr_return (pc := 34) dX8_put_34 rfl (absurd hs h4)
  · refine zr_aload_n (pc := 7) dX8_put_7 rfl rfl ?_
    refine zr_getR (pc := 8) fX8_9 lo_30 rfl rfl dX8_put_8 ?_
    refine zr_iload_n (pc := 11) dX8_put_11 rfl rfl ?_
    refine zr_aload_n (pc := 12) dX8_put_12 rfl rfl ?_
    refine zr_inv0L (pc := 13) rfl sX8_27 zp_c17.1 rfl rfl rfl dX8_put_13 ?_
    refine ct_X1_packed zp_c17 hw ?_
    refine zr_lastore (pc := 16) lo_31 (by omega) dX8_put_16 ?_
    refine zr_aload_n (pc := 17) dX8_put_17 rfl rfl ?_
    refine zr_getR (pc := 18) fX8_15 lo_30 rfl rfl dX8_put_18 ?_
    refine zr_iload_n (pc := 21) dX8_put_21 rfl rfl ?_
    refine zr_aload_n (pc := 22) dX8_put_22 rfl rfl ?_
    refine zr_getI (pc := 23) (z := 6) fX8_33 zp_c17.1 rfl rfl rfl dX8_put_23 ?_
    rw [put_nk M _ _ _ (show 17 ≠ 31 by decide)]
    refine zr_iastore (pc := 26) lo_32 (by omega) dX8_put_26 ?_
    refine zr_aload_n (pc := 27) dX8_put_27 rfl rfl ?_
    refine zr_getR (pc := 28) fX8_19 lo_30 rfl rfl dX8_put_28 ?_
    refine zr_iload_n (pc := 31) dX8_put_31 rfl rfl ?_
    refine zr_iconst (pc := 32) dX8_put_32 ?_
    refine zr_zastore (pc := 33) (by decide) lo_33 (by omega) dX8_put_33 ?_
    exact zr_return (pc := 34) dX8_put_34 rfl h

set_option maxRecDepth 100000 in
set_option maxHeartbeats 4000000 in
theorem ct_X8_bringBack {g : zt_G} {M : zm_M} {q : zm_M → Prop} {s : Int} {D : Cm} (hs : 0 ≤ s ∧ s < 2) (hk : M 33 s = 1) (hw : CW (cvX M 17)) (hD : CA (cvX M 17) D) (hp : M 31 s = pk D ∧ M 32 s = cg D) (h : ∀ M2, frC 17 M M2 → cvX M2 17 = D → q M2) : zc_K g yX8_bringBack mX8_bringBack [zv_r 30, zv_i s, zv_r 17] M (zq_V q) := by
  refine zc_of (ls := [some (zv_r 30), some (zv_i s), some (zv_r 17)]) (by decide) rfl ⟨rfl, rfl⟩ (Nat.le_of_ble_eq_true rfl) rfl ?_
  have hpk := pk_rng hD.1
  refine zr_aload_n (pc := 0) dX8_bringBack_0 rfl rfl ?_
  refine zr_iload_n (pc := 1) dX8_bringBack_1 rfl rfl ?_
  refine zr_inv1I (pc := 2) rfl sX8_36 lo_30 rfl rfl rfl dX8_bringBack_2 ?_
  refine ct_X8_holds hs (Or.inr hk) ?_
  refine zr_ifb_eq (pc := 5) (tgt := 28) dX8_bringBack_5 (by decide) (fun h5 => ?_) (fun h5 => ?_)
  · exact zr_return (pc := 28) dX8_bringBack_28 rfl (absurd hk h5)
  · refine zr_aload_n (pc := 8) dX8_bringBack_8 rfl rfl ?_
    refine zr_aload_n (pc := 9) dX8_bringBack_9 rfl rfl ?_
    refine zr_getR (pc := 10) fX8_9 lo_30 rfl rfl dX8_bringBack_10 ?_
    refine zr_iload_n (pc := 13) dX8_bringBack_13 rfl rfl ?_
    refine zr_laload (pc := 14) lo_31 (by omega) dX8_bringBack_14 ?_
    rw [hp.1]
    refine zr_inv1V (pc := 15) rfl sX8_39 zp_c17.1 rfl rfl rfl dX8_bringBack_15 ?_
    refine ct_X1_unpack zp_c17 (wXt hw) hpk (fun M2 hfr hv => ?_)
    refine zr_aload_n (pc := 18) dX8_bringBack_18 rfl rfl ?_
    refine zr_aload_n (pc := 19) dX8_bringBack_19 rfl rfl ?_
    refine zr_getR (pc := 20) fX8_15 lo_30 rfl rfl dX8_bringBack_20 ?_
    refine zr_iload_n (pc := 23) dX8_bringBack_23 rfl rfl ?_
    refine zr_iaload (pc := 24) lo_32 (by omega) dX8_bringBack_24 ?_
    rw [hfr 32 s (by decide), hp.2]
    refine zr_putI (pc := 25) (z := 6) fX8_33 zp_c17.1 rfl fwX1_6 rfl rfl dX8_bringBack_25 ?_
    exact zr_return (pc := 28) dX8_bringBack_28 rfl (h _ (hfr.put 17 6 _ (by decide)) (by rw [cvX_ni, hv, unp_pk (show ct (cvX M 17) = ct D from hD.2.2.1.symm) hD.1 hD.2.1, ← hD.2.2.1, ← hD.2.2.2]))

