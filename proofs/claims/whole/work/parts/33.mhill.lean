set_option maxRecDepth 100000 in
set_option maxHeartbeats 4000000 in
theorem lp_X11_hillD {g : zt_G} {M : zm_M} {σ : Sg} {q : Int → zm_M → Prop} (hR : RM σ M) (hW : SW σ) (h : ∀ M2, frM M M2 → RM (oHill σ).2 M2 → q (oHill σ).1 M2) {M1 : zm_M} (hf1 : frRd M M1) (hr9 : (rdT (sT σ)).1 = -9) (hv1 : lvR M1 = (rdT (sT σ)).2.2.2.1 ∧ cvR M1 = (rdT (sT σ)).2.2.2.2) : ∀ (nn : Nat) (k : Int) (Mx : zm_M), (M1 46 12 - k).toNat = nn → 0 ≤ k → k ≤ M1 46 12 → (∀ (k2 : Nat) (i : Int), ¬ (k2 = 46 ∧ (i = 0 ∨ i = 1)) → ¬ (47 ≤ k2 ∧ k2 ≤ 50) → ¬ (k2 = 51 ∧ 0 ≤ i ∧ i < 14) → Mx k2 i = M1 k2 i) → Mx 46 0 = M1 46 11 → Mx 46 1 = M1 46 12 → (∀ g, 0 ≤ g → g < M1 46 11 → Mx 47 g = M1 52 g ∧ Mx 48 g = M1 53 g) → (∀ j, 0 ≤ j → j < 16 → Mx 49 j = M1 54 j) → (∀ t, 0 ≤ t → t < k → Mx 51 t = M1 55 (2 * t) ∧ Mx 50 t = M1 55 (2 * t + 1)) → (∀ j, k ≤ j → j < 14 → Mx 51 j = 0) → zc_Z g mX11_hill 117 [some (zv_r 46), some (zv_i k)] [] Mx (zq_I q) := by
  intro nn
  induction nn using Nat.strongRecOn with
  | ind nn ih =>
    intro k Mx hnn h0 h1 hfr h460 h461 hB hC hD2 hZ
    obtain ⟨hT, hl, hcv, hA, hK, hS, hD, hcd⟩ := id hR
    obtain ⟨wT, wTx, wL, ⟨wC, wZ⟩, wA, wK, wS⟩ := id hW
    have hLw : LW (lvM M) := by rw [hl]; exact wL
    have hCw : CW (cvG M 51 (14 * 0)) := by rw [hcv]; exact wC
    have hw0 := wGt hCw
    have hL0 := yMk hLw
    have hk1 : M 46 0 = (sL σ).1 := by rw [← hl]; rfl
    have ht1 : M 46 1 = ct (sC σ) := by rw [← hcv]; rfl
    have hT1 := hT.1
    have hLw1 : LW (lvR M1) := by rw [hv1.1]; exact (RW_T (sT σ)).2.1
    have hCw1 : CW (cvR M1) := by rw [hv1.2]; exact (RW_T (sT σ)).2.2.1
    have hk4 : 0 ≤ M1 46 11 ∧ M1 46 11 ≤ 4 := hLw1.1
    have ht4 : 0 ≤ M1 46 12 ∧ M1 46 12 ≤ 4 := hCw1.1
    refine zr_iload_n (pc := 117) dX11_hill_117 rfl rfl ?_
    refine zr_aload_n (pc := 118) dX11_hill_118 rfl rfl ?_
    refine zr_getI (pc := 119) (z := 1) fX11_110 lo_46 rfl rfl rfl dX11_hill_119 ?_
    refine zi_icmp_ge (pc := 122) (tgt := 161) dX11_hill_122 (by decide) (by omega) (by omega) (fun h122 => ?_) (fun h122 => ?_)
    · refine zr_aload_n (pc := 161) dX11_hill_161 rfl rfl ?_
      refine zr_iconst (pc := 162) dX11_hill_162 ?_
      refine zr_putI (pc := 163) (z := 19) fX11_113 lo_46 rfl fwX11_19 rfl rfl dX11_hill_163 ?_
      refine zr_aload_n (pc := 166) dX11_hill_166 rfl rfl ?_
      refine zr_getR (pc := 167) fX11_52 lo_46 rfl rfl dX11_hill_167 ?_
      refine zr_iconst (pc := 170) dX11_hill_170 ?_
      refine zr_iconst (pc := 171) dX11_hill_171 ?_
      refine zr_zastore (pc := 172) (by decide) lo_61 (by omega) dX11_hill_172 ?_
      refine zr_aload_n (pc := 173) dX11_hill_173 rfl rfl ?_
      refine zr_getR (pc := 174) fX11_52 lo_46 rfl rfl dX11_hill_174 ?_
      refine zr_iconst (pc := 177) dX11_hill_177 ?_
      refine zr_iconst (pc := 178) dX11_hill_178 ?_
      refine zr_zastore (pc := 179) (by decide) lo_61 (by omega) dX11_hill_179 ?_
      refine zr_bipush (pc := 180) dX11_hill_180 (by decide) ?_
      refine zr_aload_n (pc := 182) dX11_hill_182 rfl rfl ?_
      refine zr_getI (pc := 183) (z := 0) fX11_107 lo_46 rfl rfl rfl dX11_hill_183 ?_
      refine zr_imul (pc := 186) dX11_hill_186 ?_
      refine zr_aload_n (pc := 187) dX11_hill_187 rfl rfl ?_
      refine zr_getI (pc := 188) (z := 1) fX11_110 lo_46 rfl rfl rfl dX11_hill_188 ?_
      refine zr_iadd (pc := 191) dX11_hill_191 ?_
      exact zr_ireturn (pc := 192) dX11_hill_192 rfl (by
          obtain ⟨M5, e5⟩ : ∃ M5, M5 = zm_put (zm_put (zm_put Mx 46 19 0) 61 0 0) 61 1 0 := ⟨_, rfl⟩
          rw [← e5]
          have f5 : ∀ (k2 : Nat) (i : Int), (k2 ≠ 46 ∨ i ≠ 19) → k2 ≠ 61 → M5 k2 i = Mx k2 i := fun k2 i a b => by rw [e5, put_nk _ _ _ _ b, put_nk _ _ _ _ b]; exact if_neg (by omega)
          have f6 : ∀ (k2 : Nat) (i : Int), (k2 ≠ 46 ∨ (i ≠ 19 ∧ i ≠ 0 ∧ i ≠ 1 ∧ i ≠ 11 ∧ i ≠ 12 ∧ i ≠ 13 ∧ i ≠ 16 ∧ i ≠ 17)) → k2 ≠ 61 → ¬ (47 ≤ k2 ∧ k2 ≤ 55) → M5 k2 i = M k2 i := fun k2 i a b c => by
            rw [f5 k2 i (by omega) b, hfr k2 i (by omega) (by omega) (by omega)]
            exact hf1 k2 i (by omega) (by omega)
          have e0 : M5 46 0 = M1 46 11 := by rw [f5 _ _ (by omega) (by decide)]; exact h460
          have e1 : M5 46 1 = M1 46 12 := by rw [f5 _ _ (by omega) (by decide)]; exact h461
          refine zq_eq (h M5 (fun k i a => f6 k i (by omega) (by omega) (by omega)) ?_) ?_
          · unfold oHill
            rw [if_neg (fun y => y hr9)]
            refine ⟨YT_fr hT (f6 _ _ (by omega) (by decide) (by decide)) (fun i => f6 _ _ (by omega) (by decide) (by decide)), ?_, ?_, ⟨?_, ?_, fun j a b => absurd b (by show ¬ j < 0; omega)⟩, fun s a b => ⟨?_, fun y => absurd (show (0 : Int) = 1 from y) (by decide)⟩, YS_fr hS (f6 _ _ (by omega) (by decide) (by decide)) (fun i => f6 _ _ (by omega) (by decide) (by decide)) (fun i => f6 _ _ (by omega) (by decide) (by decide)), by rw [f6 _ _ (by omega) (by decide) (by decide)]; exact hD, by rw [f6 _ _ (by omega) (by decide) (by decide)]; exact hcd⟩
            · show lvM M5 = (rdT (sT σ)).2.2.2.1
              rw [← hv1.1]
              unfold lvM lvR
              rw [e0]
              have x1 : ∀ (p r : Nat), (∀ g, 0 ≤ g → g < M1 46 11 → M5 p g = M1 r g) → msk (M1 46 11) (M5 p) = msk (M1 46 11) (M1 r) := fun p r hpr => funext fun i => by
                unfold msk
                split
                · rename_i hi
                  exact hpr i hi.1 hi.2
                · rfl
              have b1 : ∀ g, 0 ≤ g → g < M1 46 11 → M5 47 g = M1 52 g := fun g a b => by rw [f5 _ _ (by omega) (by decide)]; exact (hB g a b).1
              have b2 : ∀ g, 0 ≤ g → g < M1 46 11 → M5 48 g = M1 53 g := fun g a b => by rw [f5 _ _ (by omega) (by decide)]; exact (hB g a b).2
              rw [x1 47 52 b1, x1 48 53 b2]
              refine Prod.ext rfl (Prod.ext rfl (Prod.ext rfl ?_))
              funext g k
              dsimp only
              by_cases hg : 0 ≤ g ∧ g < M1 46 11
              · rw [b2 g hg.1 hg.2]
                by_cases hk : 0 ≤ k ∧ k < M1 53 g
                · rw [if_pos ⟨hg, hk⟩, if_pos ⟨hg, hk⟩, f5 _ _ (by omega) (by decide)]
                  have h9 := (hLw1.2.1 g).2.2
                  rw [show (lvR M1).2.2.1 g = M1 53 g from msk_in hg.1 hg.2] at h9
                  exact hC _ (by omega) (by omega)
                · rw [if_neg (fun y => hk y.2), if_neg (fun y => hk y.2)]
              · rw [if_neg (fun y => hg y.1), if_neg (fun y => hg y.1)]
            · show cvG M5 51 (14 * 0) = (rdT (sT σ)).2.2.2.2
              rw [← hv1.2]
              refine cvG_of (fun t ht => ⟨if_neg ht, if_neg ht, rfl, rfl⟩) e1 (fun t a b => ?_) ?_ ?_
              · have b2 : t < M1 46 12 := b
                have h9 := hD2 t a (by omega)
                rw [f5 _ _ (by omega) (by decide), f5 _ _ (by omega) (by decide), f5 _ _ (by omega) (by decide), f5 _ _ (by omega) (by decide), show 14 * 0 + t = t by omega, h9.1, h9.2]
                refine ⟨(if_pos ⟨a, b2⟩).symm, (if_pos ⟨a, b2⟩).symm, hZ _ (by omega) (by omega), hZ _ (by omega) (by omega)⟩
              · rw [f5 _ _ (by omega) (by decide)]
                exact hZ _ (by omega) (by omega)
              · rw [f5 _ _ (by omega) (by decide)]
                exact hZ _ (by omega) (by omega)
            · rw [e5, put_nk _ _ _ _ (by decide), put_nk _ _ _ _ (by decide), put_at]
            · rw [f6 _ _ (by omega) (by decide) (by decide)]
              exact hA.2.1
            · show M5 61 s = 0
              rw [e5]
              rcases (by omega : s = 0 ∨ s = 1) with e | e
              · rw [e, put_ni _ _ (by decide), put_at]
              · rw [e, put_at]
          · unfold oHill
            rw [if_neg (fun y => y hr9), e0, e1, ← hv1.1, ← hv1.2]
            rfl)
    · refine zr_aload_n (pc := 125) dX11_hill_125 rfl rfl ?_
      refine zr_getR (pc := 126) fX11_22 lo_46 rfl rfl dX11_hill_126 ?_
      refine zr_iload_n (pc := 129) dX11_hill_129 rfl rfl ?_
      refine zr_aload_n (pc := 130) dX11_hill_130 rfl rfl ?_
      refine zr_getR (pc := 131) fX11_34 lo_46 rfl rfl dX11_hill_131 ?_
      refine zr_iconst (pc := 134) dX11_hill_134 ?_
      refine zr_iload_n (pc := 135) dX11_hill_135 rfl rfl ?_
      refine zr_imul (pc := 136) dX11_hill_136 ?_
      refine zr_iaload (pc := 137) lo_55 (by omega) dX11_hill_137 ?_
      rw [hfr 55 _ (by omega) (by omega) (by omega)]
      refine zr_iastore (pc := 138) lo_51 (by omega) dX11_hill_138 ?_
      refine zr_aload_n (pc := 139) dX11_hill_139 rfl rfl ?_
      refine zr_getR (pc := 140) fX11_19 lo_46 rfl rfl dX11_hill_140 ?_
      refine zr_iload_n (pc := 143) dX11_hill_143 rfl rfl ?_
      refine zr_aload_n (pc := 144) dX11_hill_144 rfl rfl ?_
      refine zr_getR (pc := 145) fX11_34 lo_46 rfl rfl dX11_hill_145 ?_
      refine zr_iconst (pc := 148) dX11_hill_148 ?_
      refine zr_iload_n (pc := 149) dX11_hill_149 rfl rfl ?_
      refine zr_imul (pc := 150) dX11_hill_150 ?_
      refine zr_iconst (pc := 151) dX11_hill_151 ?_
      refine zr_iadd (pc := 152) dX11_hill_152 ?_
      refine zr_iaload (pc := 153) lo_55 (by omega) dX11_hill_153 ?_
      rw [put_nk Mx (k := 51) (k2 := 55) _ _ _ (by decide), hfr 55 _ (by omega) (by omega) (by omega)]
      refine zr_iastore (pc := 154) lo_50 (by omega) dX11_hill_154 ?_
      refine zr_iinc (pc := 155) dX11_hill_155 rfl (Nat.le_of_ble_eq_true rfl) rfl ?_
      refine zr_goto (pc := 158) (tgt := 117) dX11_hill_158 (by decide) ?_
      exact ih _ (by omega) _ _ rfl (by omega) (by omega) (fun k2 i a b c => by rw [show zm_put _ 50 _ _ k2 i = _ from if_neg (by omega), show zm_put _ 51 _ _ k2 i = _ from if_neg (by omega)]; exact hfr k2 i a b c) (by rw [put_nk _ _ _ _ (by decide), put_nk _ _ _ _ (by decide)]; exact h460) (by rw [put_nk _ _ _ _ (by decide), put_nk _ _ _ _ (by decide)]; exact h461) (fun g a b => by rw [put_nk _ _ _ _ (by decide), put_nk _ _ _ _ (by decide), put_nk _ _ _ _ (by decide), put_nk _ _ _ _ (by decide)]; exact hB g a b) (fun j a b => by rw [put_nk _ _ _ _ (by decide), put_nk _ _ _ _ (by decide)]; exact hC j a b) (fun t a b => by
        rw [put_nk _ _ _ _ (show 51 ≠ 50 by decide)]
        by_cases e : t = k
        · rw [e, put_at, put_at]
          exact ⟨rfl, rfl⟩
        · rw [put_ni _ _ e, put_ni _ _ e, put_nk _ _ _ _ (show 50 ≠ 51 by decide)]
          exact hD2 t a (by omega)) (fun j a b => by
        rw [put_nk _ _ _ _ (show 51 ≠ 50 by decide), put_ni _ _ (by omega)]
        exact hZ j (by omega) b)

set_option maxRecDepth 100000 in
set_option maxHeartbeats 4000000 in
theorem lp_X11_hillC {g : zt_G} {M : zm_M} {σ : Sg} {q : Int → zm_M → Prop} (hR : RM σ M) (hW : SW σ) (h : ∀ M2, frM M M2 → RM (oHill σ).2 M2 → q (oHill σ).1 M2) {M1 : zm_M} (hf1 : frRd M M1) (hr9 : (rdT (sT σ)).1 = -9) (hv1 : lvR M1 = (rdT (sT σ)).2.2.2.1 ∧ cvR M1 = (rdT (sT σ)).2.2.2.2) : ∀ (nn : Nat) (k : Int) (Mx : zm_M), (16 - k).toNat = nn → 0 ≤ k → k ≤ 16 → (∀ (k2 : Nat) (i : Int), ¬ (k2 = 46 ∧ (i = 0 ∨ i = 1)) → ¬ (47 ≤ k2 ∧ k2 ≤ 50) → ¬ (k2 = 51 ∧ 0 ≤ i ∧ i < 14) → Mx k2 i = M1 k2 i) → Mx 46 0 = M1 46 11 → Mx 46 1 = M1 46 12 → (∀ g, 0 ≤ g → g < M1 46 11 → Mx 47 g = M1 52 g ∧ Mx 48 g = M1 53 g) → (∀ j, 0 ≤ j → j < k → Mx 49 j = M1 54 j) → (∀ j, 0 ≤ j → j < 14 → Mx 51 j = 0) → zc_Z g mX11_hill 91 [some (zv_r 46), some (zv_i k)] [] Mx (zq_I q) := by
  intro nn
  induction nn using Nat.strongRecOn with
  | ind nn ih =>
    intro k Mx hnn h0 h1 hfr h460 h461 hB hC hZ
    have hLw1 : LW (lvR M1) := by rw [hv1.1]; exact (RW_T (sT σ)).2.1
    have hCw1 : CW (cvR M1) := by rw [hv1.2]; exact (RW_T (sT σ)).2.2.1
    have hk4 : 0 ≤ M1 46 11 ∧ M1 46 11 ≤ 4 := hLw1.1
    have ht4 : 0 ≤ M1 46 12 ∧ M1 46 12 ≤ 4 := hCw1.1
    refine zr_iload_n (pc := 91) dX11_hill_91 rfl rfl ?_
    refine zr_bipush (pc := 92) dX11_hill_92 (by decide) ?_
    refine zi_icmp_ge (pc := 94) (tgt := 115) dX11_hill_94 (by decide) (by omega) (by omega) (fun h94 => ?_) (fun h94 => ?_)
    · refine zr_iconst (pc := 115) dX11_hill_115 ?_
      refine zr_istore_n (pc := 116) dX11_hill_116 rfl (Nat.le_of_ble_eq_true rfl) rfl ?_
      exact lp_X11_hillD (g := g) hR hW h hf1 hr9 hv1 _ _ _ rfl (by omega) (by omega) hfr h460 h461 hB (fun j a b => hC j a (by omega)) (fun t a b => by omega) (fun j a b => hZ j a b)
    · refine zr_aload_n (pc := 97) dX11_hill_97 rfl rfl ?_
      refine zr_getR (pc := 98) fX11_16 lo_46 rfl rfl dX11_hill_98 ?_
      refine zr_iload_n (pc := 101) dX11_hill_101 rfl rfl ?_
      refine zr_aload_n (pc := 102) dX11_hill_102 rfl rfl ?_
      refine zr_getR (pc := 103) fX11_31 lo_46 rfl rfl dX11_hill_103 ?_
      refine zr_iload_n (pc := 106) dX11_hill_106 rfl rfl ?_
      refine zr_iaload (pc := 107) lo_54 (by omega) dX11_hill_107 ?_
      rw [hfr 54 _ (by omega) (by omega) (by omega)]
      refine zr_iastore (pc := 108) lo_49 (by omega) dX11_hill_108 ?_
      refine zr_iinc (pc := 109) dX11_hill_109 rfl (Nat.le_of_ble_eq_true rfl) rfl ?_
      refine zr_goto (pc := 112) (tgt := 91) dX11_hill_112 (by decide) ?_
      exact ih _ (by omega) _ _ rfl (by omega) (by omega) (fun k2 i a b c => by rw [show zm_put _ 49 _ _ k2 i = _ from if_neg (by omega)]; exact hfr k2 i a b c) (by rw [put_nk _ _ _ _ (by decide)]; exact h460) (by rw [put_nk _ _ _ _ (by decide)]; exact h461) (fun g a b => by rw [put_nk _ _ _ _ (by decide), put_nk _ _ _ _ (by decide)]; exact hB g a b) (fun j a b => by
        by_cases e : j = k
        · rw [e, put_at]
        · rw [put_ni _ _ e]
          exact hC j a (by omega)) (fun j a b => by rw [put_nk _ _ _ _ (by decide)]; exact hZ j a b)

set_option maxRecDepth 100000 in
set_option maxHeartbeats 4000000 in
theorem lp_X11_hillB {g : zt_G} {M : zm_M} {σ : Sg} {q : Int → zm_M → Prop} (hR : RM σ M) (hW : SW σ) (h : ∀ M2, frM M M2 → RM (oHill σ).2 M2 → q (oHill σ).1 M2) {M1 : zm_M} (hf1 : frRd M M1) (hr9 : (rdT (sT σ)).1 = -9) (hv1 : lvR M1 = (rdT (sT σ)).2.2.2.1 ∧ cvR M1 = (rdT (sT σ)).2.2.2.2) : ∀ (nn : Nat) (k : Int) (Mx : zm_M), (M1 46 11 - k).toNat = nn → 0 ≤ k → k ≤ M1 46 11 → (∀ (k2 : Nat) (i : Int), ¬ (k2 = 46 ∧ (i = 0 ∨ i = 1)) → ¬ (47 ≤ k2 ∧ k2 ≤ 50) → ¬ (k2 = 51 ∧ 0 ≤ i ∧ i < 14) → Mx k2 i = M1 k2 i) → Mx 46 0 = M1 46 11 → Mx 46 1 = M1 46 12 → (∀ g, 0 ≤ g → g < k → Mx 47 g = M1 52 g ∧ Mx 48 g = M1 53 g) → (∀ j, 0 ≤ j → j < 14 → Mx 51 j = 0) → zc_Z g mX11_hill 51 [some (zv_r 46), some (zv_i k)] [] Mx (zq_I q) := by
  intro nn
  induction nn using Nat.strongRecOn with
  | ind nn ih =>
    intro k Mx hnn h0 h1 hfr h460 h461 hB hZ
    have hLw1 : LW (lvR M1) := by rw [hv1.1]; exact (RW_T (sT σ)).2.1
    have hCw1 : CW (cvR M1) := by rw [hv1.2]; exact (RW_T (sT σ)).2.2.1
    have hk4 : 0 ≤ M1 46 11 ∧ M1 46 11 ≤ 4 := hLw1.1
    have ht4 : 0 ≤ M1 46 12 ∧ M1 46 12 ≤ 4 := hCw1.1
    refine zr_iload_n (pc := 51) dX11_hill_51 rfl rfl ?_
    refine zr_aload_n (pc := 52) dX11_hill_52 rfl rfl ?_
    refine zr_getI (pc := 53) (z := 0) fX11_107 lo_46 rfl rfl rfl dX11_hill_53 ?_
    refine zi_icmp_ge (pc := 56) (tgt := 89) dX11_hill_56 (by decide) (by omega) (by omega) (fun h56 => ?_) (fun h56 => ?_)
    · refine zr_iconst (pc := 89) dX11_hill_89 ?_
      refine zr_istore_n (pc := 90) dX11_hill_90 rfl (Nat.le_of_ble_eq_true rfl) rfl ?_
      exact lp_X11_hillC (g := g) hR hW h hf1 hr9 hv1 _ _ _ rfl (by omega) (by omega) hfr h460 h461 (fun g a b => hB g a (by omega)) (fun j a b => by omega) hZ
    · refine zr_aload_n (pc := 59) dX11_hill_59 rfl rfl ?_
      refine zr_getR (pc := 60) fX11_7 lo_46 rfl rfl dX11_hill_60 ?_
      refine zr_iload_n (pc := 63) dX11_hill_63 rfl rfl ?_
      refine zr_aload_n (pc := 64) dX11_hill_64 rfl rfl ?_
      refine zr_getR (pc := 65) fX11_25 lo_46 rfl rfl dX11_hill_65 ?_
      refine zr_iload_n (pc := 68) dX11_hill_68 rfl rfl ?_
      refine zr_iaload (pc := 69) lo_52 (by omega) dX11_hill_69 ?_
      rw [hfr 52 _ (by omega) (by omega) (by omega)]
      refine zr_iastore (pc := 70) lo_47 (by omega) dX11_hill_70 ?_
      refine zr_aload_n (pc := 71) dX11_hill_71 rfl rfl ?_
      refine zr_getR (pc := 72) fX11_13 lo_46 rfl rfl dX11_hill_72 ?_
      refine zr_iload_n (pc := 75) dX11_hill_75 rfl rfl ?_
      refine zr_aload_n (pc := 76) dX11_hill_76 rfl rfl ?_
      refine zr_getR (pc := 77) fX11_28 lo_46 rfl rfl dX11_hill_77 ?_
      refine zr_iload_n (pc := 80) dX11_hill_80 rfl rfl ?_
      refine zr_iaload (pc := 81) lo_53 (by omega) dX11_hill_81 ?_
      rw [put_nk Mx (k := 47) (k2 := 53) _ _ _ (by decide), hfr 53 _ (by omega) (by omega) (by omega)]
      refine zr_iastore (pc := 82) lo_48 (by omega) dX11_hill_82 ?_
      refine zr_iinc (pc := 83) dX11_hill_83 rfl (Nat.le_of_ble_eq_true rfl) rfl ?_
      refine zr_goto (pc := 86) (tgt := 51) dX11_hill_86 (by decide) ?_
      exact ih _ (by omega) _ _ rfl (by omega) (by omega) (fun k2 i a b c => by rw [show zm_put _ 48 _ _ k2 i = _ from if_neg (by omega), show zm_put _ 47 _ _ k2 i = _ from if_neg (by omega)]; exact hfr k2 i a b c) (by rw [put_nk _ _ _ _ (by decide), put_nk _ _ _ _ (by decide)]; exact h460) (by rw [put_nk _ _ _ _ (by decide), put_nk _ _ _ _ (by decide)]; exact h461) (fun j a b => by
        rw [put_nk _ _ _ _ (show 47 ≠ 48 by decide)]
        by_cases e : j = k
        · rw [e, put_at, put_at]
          exact ⟨rfl, rfl⟩
        · rw [put_ni _ _ e, put_ni _ _ e, put_nk _ _ _ _ (show 48 ≠ 47 by decide)]
          exact hB j a (by omega)) (fun j a b => by rw [put_nk _ _ _ _ (by decide), put_nk _ _ _ _ (by decide)]; exact hZ j a b)

set_option maxRecDepth 100000 in
set_option maxHeartbeats 4000000 in
theorem lp_X11_hillA {g : zt_G} {M : zm_M} {σ : Sg} {q : Int → zm_M → Prop} (hR : RM σ M) (hW : SW σ) (h : ∀ M2, frM M M2 → RM (oHill σ).2 M2 → q (oHill σ).1 M2) {M1 : zm_M} (hf1 : frRd M M1) (hr9 : (rdT (sT σ)).1 = -9) (hv1 : lvR M1 = (rdT (sT σ)).2.2.2.1 ∧ cvR M1 = (rdT (sT σ)).2.2.2.2) : ∀ (nn : Nat) (k : Int) (Mx : zm_M), (14 - k).toNat = nn → 0 ≤ k → k ≤ 14 → (∀ (k2 : Nat) (i : Int), ¬ (k2 = 46 ∧ (i = 0 ∨ i = 1)) → ¬ (47 ≤ k2 ∧ k2 ≤ 50) → ¬ (k2 = 51 ∧ 0 ≤ i ∧ i < 14) → Mx k2 i = M1 k2 i) → Mx 46 0 = M1 46 11 → Mx 46 1 = M1 46 12 → (∀ j, 0 ≤ j → j < k → Mx 51 j = 0) → zc_Z g mX11_hill 30 [some (zv_r 46), some (zv_i k)] [] Mx (zq_I q) := by
  intro nn
  induction nn using Nat.strongRecOn with
  | ind nn ih =>
    intro k Mx hnn h0 h1 hfr h460 h461 hZ
    have hLw1 : LW (lvR M1) := by rw [hv1.1]; exact (RW_T (sT σ)).2.1
    have hCw1 : CW (cvR M1) := by rw [hv1.2]; exact (RW_T (sT σ)).2.2.1
    have hk4 : 0 ≤ M1 46 11 ∧ M1 46 11 ≤ 4 := hLw1.1
    have ht4 : 0 ≤ M1 46 12 ∧ M1 46 12 ≤ 4 := hCw1.1
    refine zr_iload_n (pc := 30) dX11_hill_30 rfl rfl ?_
    refine zr_bipush (pc := 31) dX11_hill_31 (by decide) ?_
    refine zi_icmp_ge (pc := 33) (tgt := 49) dX11_hill_33 (by decide) (by omega) (by omega) (fun h33 => ?_) (fun h33 => ?_)
    · refine zr_iconst (pc := 49) dX11_hill_49 ?_
      refine zr_istore_n (pc := 50) dX11_hill_50 rfl (Nat.le_of_ble_eq_true rfl) rfl ?_
      exact lp_X11_hillB (g := g) hR hW h hf1 hr9 hv1 _ _ _ rfl (by omega) (by omega) hfr h460 h461 (fun g a b => by omega) (fun j a b => hZ j a (by omega))
    · refine zr_aload_n (pc := 36) dX11_hill_36 rfl rfl ?_
      refine zr_getR (pc := 37) fX11_22 lo_46 rfl rfl dX11_hill_37 ?_
      refine zr_iload_n (pc := 40) dX11_hill_40 rfl rfl ?_
      refine zr_iconst (pc := 41) dX11_hill_41 ?_
      refine zr_iastore (pc := 42) lo_51 (by omega) dX11_hill_42 ?_
      refine zr_iinc (pc := 43) dX11_hill_43 rfl (Nat.le_of_ble_eq_true rfl) rfl ?_
      refine zr_goto (pc := 46) (tgt := 30) dX11_hill_46 (by decide) ?_
      exact ih _ (by omega) _ _ rfl (by omega) (by omega) (fun k2 i a b c => by rw [show zm_put _ 51 _ _ k2 i = _ from if_neg (by omega)]; exact hfr k2 i a b c) (by rw [put_nk _ _ _ _ (by decide)]; exact h460) (by rw [put_nk _ _ _ _ (by decide)]; exact h461) (fun j a b => by
        by_cases e : j = k
        · rw [e, put_at]
        · rw [put_ni _ _ e]
          exact hZ j a (by omega))

theorem rdA_rng {f : Int → Int} : ∀ (n : Nat) (i : Int) (S : Rs), 0 ≤ i → (rdA f n i S).1 = -9 ∨ (0 ≤ (rdA f n i S).1 ∧ (rdA f n i S).1 ≤ i + n)
  | 0, i, S, h => by
    unfold rdA
    split
    · exact Or.inl rfl
    · exact Or.inr ⟨h, by show i ≤ i + ((0 : Nat) : Int); omega⟩
  | n + 1, i, S, h => by
    unfold rdA
    split
    · exact Or.inr ⟨h, by show i ≤ _; omega⟩
    · rename_i S2 _
      have := rdA_rng (f := f) n (i + 1) S2 (by omega)
      omega
theorem rdT_rng {σ : Sg} (hW : SW σ) : zi (rdT (sT σ)).1 := by
  have h1 := hW.1
  have h2 := rdA_rng (f := (sT σ).2) (sT σ).1.toNat 0 (0, 0, lO, cO) (by decide)
  show zi (rdA (sT σ).2 (sT σ).1.toNat 0 (0, 0, lO, cO)).1
  omega
set_option maxRecDepth 100000 in
set_option maxHeartbeats 4000000 in
theorem ct_X11_hill {g : zt_G} {M : zm_M} {σ : Sg} {q : Int → zm_M → Prop} (hR : RM σ M) (hW : SW σ) (h : ∀ M2, frM M M2 → RM (oHill σ).2 M2 → q (oHill σ).1 M2) : zc_K g yX11_hill mX11_hill [zv_r 46] M (zq_I q) := by
  refine zc_of (ls := [some (zv_r 46), none]) (by decide) rfl ⟨rfl, rfl⟩ (Nat.le_of_ble_eq_true rfl) rfl ?_
  obtain ⟨hT, hl, hcv, hA, hK, hS, hD, hcd⟩ := id hR
  obtain ⟨wT, wTx, wL, ⟨wC, wZ⟩, wA, wK, wS⟩ := id hW
  have hLw : LW (lvM M) := by rw [hl]; exact wL
  have hCw : CW (cvG M 51 (14 * 0)) := by rw [hcv]; exact wC
  have hw0 := wGt hCw
  have hL0 := yMk hLw
  have hk1 : M 46 0 = (sL σ).1 := by rw [← hl]; rfl
  have ht1 : M 46 1 = ct (sC σ) := by rw [← hcv]; rfl
  have hT1 := hT.1
  refine zr_aload_n (pc := 0) dX11_hill_0 rfl rfl ?_
  refine zr_inv0I (pc := 1) rfl sX11_103 lo_46 rfl rfl rfl dX11_hill_1 ?_
  refine ct_X11_readText (by omega) (fun i a b => by rw [hT.2 i a (by omega)]; exact wTx i a (by omega)) (fun M1 hf1 hv1 => ?_)
  rw [rdO_M hT wT.1] at hv1 ⊢
  have hR1 : RM σ M1 := RM_frs hR hW (fun k i a b => hf1 k i (by unfold zsm at b; omega) (by unfold zsm at b; omega))
  refine zr_bipush (pc := 4) dX11_hill_4 (by decide) ?_
  refine zi_icmp_eq (pc := 6) (tgt := 12) dX11_hill_6 (by decide) (rdT_rng hW) (by omega) (fun h6 => ?_) (fun h6 => ?_)
  · refine zr_aload_n (pc := 12) dX11_hill_12 rfl rfl ?_
    refine zr_aload_n (pc := 13) dX11_hill_13 rfl rfl ?_
    refine zr_getI (pc := 14) (z := 11) fX11_79 lo_46 rfl rfl rfl dX11_hill_14 ?_
    refine zr_putI (pc := 17) (z := 0) fX11_107 lo_46 rfl fwX11_0 rfl rfl dX11_hill_17 ?_
    refine zr_aload_n (pc := 20) dX11_hill_20 rfl rfl ?_
    refine zr_aload_n (pc := 21) dX11_hill_21 rfl rfl ?_
    refine zr_getI (pc := 22) (z := 12) fX11_82 lo_46 rfl rfl rfl dX11_hill_22 ?_
    rw [put_ni M1 (k2 := 46) (j := 12) _ (by decide)]
    refine zr_putI (pc := 25) (z := 1) fX11_110 lo_46 rfl fwX11_1 rfl rfl dX11_hill_25 ?_
    refine zr_iconst (pc := 28) dX11_hill_28 ?_
    refine zr_istore_n (pc := 29) dX11_hill_29 rfl (Nat.le_of_ble_eq_true rfl) rfl ?_
    exact lp_X11_hillA (g := g) hR hW h hf1 h6 (hv1 h6) _ _ _ rfl (by omega) (by omega) (fun k2 i a b c => by rw [show zm_put _ 46 1 _ k2 i = _ from if_neg (by omega), show zm_put _ 46 0 _ k2 i = _ from if_neg (by omega)]) (by rw [put_ni _ _ (by decide), put_at]) (put_at _ _ _ _) (fun j a b => by omega)
  · refine zr_bipush (pc := 9) dX11_hill_9 (by decide) ?_
    exact zr_ireturn (pc := 11) dX11_hill_11 rfl (zq_eq (h M1 (fun k i a => hf1 k i (by omega) (by omega)) (by unfold oHill; rw [if_pos h6]; exact hR1)) (by unfold oHill; rw [if_pos h6]))

