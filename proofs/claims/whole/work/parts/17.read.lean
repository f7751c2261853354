def rdA (f : Int → Int) : Nat → Int → Rs → Int × Rs
  | 0, i, S => (if S.1 = 1 ∨ S.1 = 4 then -9 else i, S)
  | n + 1, i, S => match tkS (f i) S with
    | none => (i, S)
    | some S2 => rdA f n (i + 1) S2
def rdO (f : Int → Int) (len tp : Int) : Int × Rs := rdA f len.toNat 0 (0, tp, lO, cO)
theorem RW_0 (tp : Int) : RW (0, tp, lO, cO) := ⟨⟨by simp, by simp⟩, LW_0, CW_0, fun y => (by simp at y), fun y => (by simp at y), fun y => (by simp at y), fun y => (by simp at y)⟩
set_option maxRecDepth 100000 in
set_option maxHeartbeats 4000000 in
theorem lp_X5_read {g : zt_G} {M : zm_M} {q : Int → zm_M → Prop} (hlen : 0 ≤ M 1 1 ∧ M 1 1 ≤ 48) (htx : ∀ i, 0 ≤ i → i < M 1 1 → 0 ≤ M 2 i ∧ M 2 i ≤ 255) (h : ∀ M2, frR M M2 → ((rdO (M 2) (M 1 1) (M 3 3)).1 = -9 → lvX M2 4 = (rdO (M 2) (M 1 1) (M 3 3)).2.2.2.1 ∧ cvX M2 8 = (rdO (M 2) (M 1 1) (M 3 3)).2.2.2.2) → q (rdO (M 2) (M 1 1) (M 3 3)).1 M2) : ∀ (nn : Nat) (i : Int) (Mx : zm_M), (M 1 1 - i).toNat = nn → 0 ≤ i → i ≤ M 1 1 → frR M Mx → RW (rvX Mx) → rdA (M 2) (M 1 1 - i).toNat i (rvX Mx) = rdO (M 2) (M 1 1) (M 3 3) → zc_Z g mX5_read 21 [some (zv_r 3), some (zv_r 1), some (zv_i i)] [] Mx (zq_I q) := by
  intro nn
  induction nn using Nat.strongRecOn with
  | ind nn ih =>
    intro i Mx hn h0 h1 hfr hw hR
    have r1 : ∀ j, Mx 1 j = M 1 j := fun j => hfr 1 j (by decide)
    have r2 : ∀ j, Mx 2 j = M 2 j := fun j => hfr 2 j (by decide)
    have r11 := r1 1
    have hst : 0 ≤ Mx 3 2 ∧ Mx 3 2 ≤ 6 := hw.1
    refine zr_iload_n (pc := 21) dX5_read_21 rfl rfl ?_
    refine zr_aload_n (pc := 22) dX5_read_22 rfl rfl ?_
    refine zr_getI (pc := 23) (z := 1) fX5_36 lo_1 rfl rfl rfl dX5_read_23 ?_
    refine zi_icmp_ge (pc := 26) (tgt := 56) dX5_read_26 (by decide) (by omega) (by omega) (fun h26 => ?_) (fun h26 => ?_)
    · refine zr_aload_n (pc := 56) dX5_read_56 rfl rfl ?_
      refine zr_getI (pc := 57) (z := 2) fX5_25 lo_3 rfl rfl rfl dX5_read_57 ?_
      refine zr_iconst (pc := 60) dX5_read_60 ?_
      refine zi_icmp_eq (pc := 61) (tgt := 72) dX5_read_61 (by decide) (by omega) (by omega) (fun h61 => ?_) (fun h61 => ?_)
      · refine zr_bipush (pc := 72) dX5_read_72 (by decide) ?_
        refine zr_goto (pc := 74) (tgt := 81) dX5_read_74 (by decide) ?_
        exact zr_ireturn (pc := 81) dX5_read_81 rfl (zq_eq (h _ hfr (fun y => by
            rw [← hR, show (M 1 1 - i).toNat = 0 by omega]
            exact ⟨rfl, rfl⟩)) (by
            rw [← hR, show (M 1 1 - i).toNat = 0 by omega]
            show _ = (if Mx 3 2 = 1 ∨ Mx 3 2 = 4 then (-9 : Int) else i)
            rw [if_pos (Or.inl h61)]))
      · refine zr_aload_n (pc := 64) dX5_read_64 rfl rfl ?_
        refine zr_getI (pc := 65) (z := 2) fX5_25 lo_3 rfl rfl rfl dX5_read_65 ?_
        refine zr_iconst (pc := 68) dX5_read_68 ?_
        refine zi_icmp_ne (pc := 69) (tgt := 77) dX5_read_69 (by decide) (by omega) (by omega) (fun h69 => ?_) (fun h69 => ?_)
        · refine zr_aload_n (pc := 77) dX5_read_77 rfl rfl ?_
          refine zr_getI (pc := 78) (z := 1) fX5_36 lo_1 rfl rfl rfl dX5_read_78 ?_
          exact zr_ireturn (pc := 81) dX5_read_81 rfl (zq_eq (h _ hfr (fun y => by
              rw [← hR, show (M 1 1 - i).toNat = 0 by omega]
              exact ⟨rfl, rfl⟩)) (by
              rw [← hR, show (M 1 1 - i).toNat = 0 by omega]
              show _ = (if Mx 3 2 = 1 ∨ Mx 3 2 = 4 then (-9 : Int) else i)
              rw [if_neg (by omega), r11]
              omega))
        · refine zr_bipush (pc := 72) dX5_read_72 (by decide) ?_
          refine zr_goto (pc := 74) (tgt := 81) dX5_read_74 (by decide) ?_
          exact zr_ireturn (pc := 81) dX5_read_81 rfl (zq_eq (h _ hfr (fun y => by
              rw [← hR, show (M 1 1 - i).toNat = 0 by omega]
              exact ⟨rfl, rfl⟩)) (by
              rw [← hR, show (M 1 1 - i).toNat = 0 by omega]
              show _ = (if Mx 3 2 = 1 ∨ Mx 3 2 = 4 then (-9 : Int) else i)
              rw [if_pos (Or.inr h69)]))
    · refine zr_iload_n (pc := 29) dX5_read_29 rfl rfl ?_
      refine zr_bipush (pc := 30) dX5_read_30 (by decide) ?_
      refine zi_icmp_ge (pc := 32) (tgt := 56) dX5_read_32 (by decide) (by omega) (by omega) (fun h32 => ?_) (fun h32 => ?_)
      · exfalso
        omega
      · refine zr_aload_n (pc := 35) dX5_read_35 rfl rfl ?_
        refine zr_aload_n (pc := 36) dX5_read_36 rfl rfl ?_
        refine zr_getR (pc := 37) fX5_41 lo_1 rfl rfl dX5_read_37 ?_
        refine zr_iload_n (pc := 40) dX5_read_40 rfl rfl ?_
        refine zr_iaload (pc := 41) lo_2 (by omega) dX5_read_41 ?_
        rw [r2]
        have hx := htx i h0 (by omega)
        rw [show (M 1 1 - i).toNat = (M 1 1 - (i + 1)).toNat + 1 by omega] at hR
        unfold rdA at hR
        refine zr_inv1I (pc := 42) rfl sX5_45 lo_3 rfl rfl rfl dX5_read_42 ?_
        refine ct_X5_takes hw hx (fun hz M2 hfr2 => ?_) (fun S2 hz M2 hfr2 hv2 => ?_)
        · rw [hz] at hR
          dsimp only at hR
          refine zi_if_ne (pc := 45) (tgt := 50) dX5_read_45 (by decide) (by decide) (fun h45 => ?_) (fun h45 => ?_)
          · exact absurd h45 (by decide)
          · refine zr_iload_n (pc := 48) dX5_read_48 rfl rfl ?_
            exact zr_ireturn (pc := 49) dX5_read_49 rfl (zq_eq (h _ (hfr.tr hfr2) (fun y => absurd y (by rw [← hR]; show ¬ i = -9; omega))) (by rw [← hR]))
        · rw [hz] at hR
          dsimp only at hR
          refine zi_if_ne (pc := 45) (tgt := 50) dX5_read_45 (by decide) (by decide) (fun h45 => ?_) (fun h45 => ?_)
          · refine zr_iinc (pc := 50) dX5_read_50 rfl (Nat.le_of_ble_eq_true rfl) rfl ?_
            refine zr_goto (pc := 53) (tgt := 21) dX5_read_53 (by decide) ?_
            exact ih _ (by omega) _ _ rfl (by omega) (by omega) (hfr.tr hfr2) (by rw [hv2]; exact RW_tk hw hz) (by rw [hv2]; exact hR)
          · exact absurd h45 (by decide)

set_option maxRecDepth 100000 in
set_option maxHeartbeats 4000000 in
theorem ct_X5_read {g : zt_G} {M : zm_M} {q : Int → zm_M → Prop} (hlen : 0 ≤ M 1 1 ∧ M 1 1 ≤ 48) (htx : ∀ i, 0 ≤ i → i < M 1 1 → 0 ≤ M 2 i ∧ M 2 i ≤ 255) (h : ∀ M2, frR M M2 → ((rdO (M 2) (M 1 1) (M 3 3)).1 = -9 → lvX M2 4 = (rdO (M 2) (M 1 1) (M 3 3)).2.2.2.1 ∧ cvX M2 8 = (rdO (M 2) (M 1 1) (M 3 3)).2.2.2.2) → q (rdO (M 2) (M 1 1) (M 3 3)).1 M2) : zc_K g yX5_read mX5_read [zv_r 3, zv_r 1] M (zq_I q) := by
  refine zc_of (ls := [some (zv_r 3), some (zv_r 1), none]) (by decide) rfl ⟨rfl, rfl⟩ (Nat.le_of_ble_eq_true rfl) rfl ?_
  refine zr_aload_n (pc := 0) dX5_read_0 rfl rfl ?_
  refine zr_getR (pc := 1) fX5_12 lo_3 rfl rfl dX5_read_1 ?_
  refine zr_inv0V (pc := 4) rfl sX5_32 lo_4 rfl rfl rfl dX5_read_4 ?_
  refine ct_X3_clear zp_l4 ?_
  refine zr_aload_n (pc := 7) dX5_read_7 rfl rfl ?_
  refine zr_getR (pc := 8) fX5_21 lo_3 rfl rfl dX5_read_8 ?_
  refine zr_inv0V (pc := 11) rfl sX5_35 lo_8 rfl rfl rfl dX5_read_11 ?_
  refine ct_X1_clear zp_c8 ?_
  refine zr_aload_n (pc := 14) dX5_read_14 rfl rfl ?_
  refine zr_iconst (pc := 15) dX5_read_15 ?_
  refine zr_putI (pc := 16) (z := 2) fX5_25 lo_3 rfl fwX5_2 rfl rfl dX5_read_16 ?_
  refine zr_iconst (pc := 19) dX5_read_19 ?_
  refine zr_istore_n (pc := 20) dX5_read_20 rfl (Nat.le_of_ble_eq_true rfl) rfl ?_
  have e1 : rvX (zm_put (zm_put (zm_put (zm_put (zm_put M 4 3 0) 8 5 0) 8 4 0) 8 6 0) 3 2 0) = (0, M 3 3, lO, cO) := by
    unfold rvX
    rw [rvX_3.1, rvX_3.2, lvX_0, cvX_0, put_at, put_ni _ _ (show (3 : Int) ≠ 2 by decide), put_nk _ _ _ _ (show 3 ≠ 8 by decide), put_nk _ _ _ _ (show 3 ≠ 8 by decide), put_nk _ _ _ _ (show 3 ≠ 8 by decide), put_nk _ _ _ _ (show 3 ≠ 4 by decide)]
    · rw [put_ni _ _ (show (4 : Int) ≠ 6 by decide), put_at]
    · rw [put_ni _ _ (show (5 : Int) ≠ 6 by decide), put_ni _ _ (show (5 : Int) ≠ 4 by decide), put_at]
    · rw [put_at]
    · rw [put_nk _ _ _ _ (show 4 ≠ 8 by decide), put_nk _ _ _ _ (show 4 ≠ 8 by decide), put_nk _ _ _ _ (show 4 ≠ 8 by decide), put_at]
  exact lp_X5_read hlen htx h _ _ _ rfl (by omega) (by omega) (((((frR.rf.put 4 3 0 (by decide)).put 8 5 0 (by decide)).put 8 4 0 (by decide)).put 8 6 0 (by decide)).put 3 2 0 (by decide)) (by rw [e1]; exact RW_0 _) (by rw [e1, Int.sub_zero]; rfl)

