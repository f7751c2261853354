/-! the state stays well -/
theorem CA_c {C C2 D : Cm} (ht : ct C2 = ct C) (hk : ck C2 = ck C) (h : CA C D) : CA C2 D := ⟨h.1, h.2.1, h.2.2.1.trans ht.symm, h.2.2.2.trans hk.symm⟩
theorem CA_self {C : Cm} (h : CW C) (hz : CZ C) : CA C C := ⟨h, hz, rfl, rfl⟩
theorem SW_act {σ : Sg} (h : SW σ) {C2 : Cm} (hC : CW C2) (hZ : CZ C2) (ht : ct C2 = ct (sC σ)) (hk : ck C2 = ck (sC σ)) : SW (SgC C2 (SgP σ)) := by
  obtain ⟨h1, h2, h3, ⟨h4, h5⟩, ⟨h6, h7⟩, h8, h9⟩ := h
  refine ⟨h1, h2, h3, ⟨hC, hZ⟩, ?_, fun s a b => ⟨(h8 s a b).1, fun c => CA_c ht hk ((h8 s a b).2 c)⟩, h9⟩
  show (0 ≤ (psA (sC σ) (sA σ)).1 ∧ (psA (sC σ) (sA σ)).1 ≤ 14) ∧ ∀ j, 0 ≤ j → j < (psA (sC σ) (sA σ)).1 → CA C2 ((psA (sC σ) (sA σ)).2 j)
  unfold psA
  split
  · refine ⟨(by decide : (0 : Int) ≤ 14 ∧ (14 : Int) ≤ 14), fun j a b => ?_⟩
    dsimp only at b ⊢
    split
    · exact CA_c ht hk (CA_self h4 h5)
    · exact CA_c ht hk (h7 (j + 1) (by omega) (by omega))
  · refine ⟨⟨by show 0 ≤ (sA σ).1 + 1; omega, by show (sA σ).1 + 1 ≤ 14; omega⟩, fun j a b => ?_⟩
    dsimp only at b ⊢
    split
    · exact CA_c ht hk (CA_self h4 h5)
    · exact CA_c ht hk (h7 j a (by omega))
theorem SW_write {x : Int} {σ : Sg} (h : SW σ) : SW (oWrite x σ).2 := by
  unfold oWrite
  split
  · exact h
  split
  · exact h
  · obtain ⟨h1, h2, h3⟩ := h
    refine ⟨⟨by show 0 ≤ (sT σ).1 + 1; omega, by show (sT σ).1 + 1 ≤ 48; omega⟩, fun i a b => ?_, h3⟩
    have b2 : i < (sT σ).1 + 1 := b
    show 0 ≤ upI (sT σ).2 (sT σ).1 x i ∧ upI (sT σ).2 (sT σ).1 x i ≤ 255
    by_cases e : i = (sT σ).1
    · rw [e, upI_s]
      omega
    · rw [upI_n e]
      exact h2 i a (by omega)
theorem SW_wipe {σ : Sg} (h : SW σ) : SW (oWipe σ).2 := ⟨⟨Int.le_refl 0, by show (0 : Int) ≤ 48; decide⟩, fun i a b => absurd b (by show ¬ i < 0; omega), h.2.2⟩
theorem CZ_ad {p k : Int} {C : Cm} (h : CZ C) (hc : 0 ≤ ct C) : CZ (cAdT p k C) := by
  intro t ht
  have h1 : ¬ (0 ≤ t ∧ t < ct C + 1) := ht
  have h2 := h t (by omega)
  have hne : t ≠ ct C := by omega
  exact ⟨by show upI _ _ _ t = 0; rw [upI_n hne]; exact h2.1, by show upI _ _ _ t = 0; rw [upI_n hne]; exact h2.2.1, by show upI _ _ _ t = 0; rw [upI_n hne]; exact h2.2.2.1, by show upI _ _ _ t = 0; rw [upI_n hne]; exact h2.2.2.2⟩
theorem CZ_tk {x : Int} {S S2 : Rs} (hw : RW S) (h : CZ S.2.2.2) (e : tkS x S = some S2) : CZ S2.2.2.2 := by
  have hb : ∀ {S3 : Rs}, bgS x S = some S3 → CZ S3.2.2.2 := fun {S3} e => by
    unfold bgS at e
    split at e
    · cases e
      exact h
    · split at e
      · cases e
        exact h
      · cases e
  unfold tkS at e
  split at e
  · split at e
    · cases e
      exact h
    · cases e
  split at e
  · split at e
    · cases e
      exact h
    · cases e
  split at e
  · split at e
    · cases e
      exact h
    · cases e
  split at e
  · split at e
    · cases e
      exact h
    · exact hb e
  split at e
  · split at e
    · cases e
      exact h
    · cases e
  split at e
  · split at e
    · cases e
      exact CZ_ad h hw.2.2.1.1.1
    · cases e
  · exact hb e
theorem CZ_rd {f : Int → Int} : ∀ (n : Nat) (i : Int) (S : Rs), RW S → CZ S.2.2.2 → CZ (rdA f n i S).2.2.2.2
  | 0, i, S, hw, h => h
  | n + 1, i, S, hw, h => by
    unfold rdA
    cases e : tkS (f i) S with
    | none => exact h
    | some S2 => exact CZ_rd n (i + 1) S2 (RW_tk hw e) (CZ_tk hw h e)
theorem CZ_0 : CZ cO := fun t _ => ⟨rfl, rfl, rfl, rfl⟩
theorem SW_hill {σ : Sg} (h : SW σ) : SW (oHill σ).2 := by
  unfold oHill
  split
  · exact h
  · have h1 := RW_T (sT σ)
    have h2 : CZ (rdT (sT σ)).2.2.2.2 := CZ_rd _ _ _ (RW_0 0) CZ_0
    exact ⟨h.1, h.2.1, h1.2.1, ⟨h1.2.2.1, h2⟩, ⟨⟨Int.le_refl 0, by show (0 : Int) ≤ 14; decide⟩, fun j a b => absurd b (by show ¬ j < 0; omega)⟩, fun s a b => ⟨Or.inl rfl, fun y => absurd (show (0 : Int) = 1 from y) (by decide)⟩, h.2.2.2.2.2.2⟩
theorem SW_night {σ : Sg} (h : SW σ) : SW (oNight σ).2 := SW_act h (CW_nit h.2.2.1 h.2.2.2.1.1) (CZ_nit h.2.2.2.1.2) nit_ct nit_ck
theorem SW_walk {t p : Int} {σ : Sg} (h : SW σ) : SW (oWalk t p σ).2 := by
  unfold oWalk
  split
  · exact h
  split
  · exact h
  · rename_i hx hy
    have hm : cMay (sC σ) t p := Classical.byContradiction hy
    exact SW_act h (CW_go h.2.2.2.1.1 hm.1 ⟨hm.2.1.1, by have := hm.2.1.2; omega⟩) (CZ_go h.2.2.2.1.2 hm.1) rfl rfl
theorem CZ_kn {C : Cm} {t v : Int} (h : CZ C) (ht : cHas C t) : CZ (cp C, ck C, upI (cn C) t v, C.2.2.2) := by
  intro i hi
  have h1 := h i hi
  have hne : i ≠ t := fun e => hi (by rw [e]; exact ht)
  exact ⟨h1.1, h1.2.1, by show upI _ _ _ i = 0; rw [upI_n hne]; exact h1.2.2.1, h1.2.2.2⟩
theorem SW_tell {a b : Int} {σ : Sg} (h : SW σ) : SW (oTell a b σ).2 := by
  unfold oTell
  split
  · exact h
  split
  · exact h
  split
  · exact h
  · rename_i hx hy hz
    have hm : cHear (sC σ) a b := Classical.byContradiction hz
    exact SW_act h (CW_chr h.2.2.2.1.1) (CZ_kn h.2.2.2.1.2 hm.2.1) rfl rfl
theorem CZ_ba {C : Cm} {t : Int} (h : CZ C) (ht : cHas C t) : CZ (cba t C) := by
  intro i hi
  have h1 := h i hi
  have hne : i ≠ t := fun e => hi (by rw [e]; exact ht)
  exact ⟨h1.1, h1.2.1, by show upI _ _ _ i = 0; rw [upI_n hne]; exact h1.2.2.1, by show upI _ _ _ i = 0; rw [upI_n hne]; exact h1.2.2.2⟩
theorem SW_wash {t : Int} {σ : Sg} (h : SW σ) : SW (oWash t σ).2 := by
  unfold oWash
  split
  · exact h
  split
  · exact h
  · rename_i hx hy
    have hm : cBat (sC σ) t := Classical.byContradiction hy
    exact SW_act h (CW_cba h.2.2.2.1.1) (CZ_ba h.2.2.2.1.2 hm.1) rfl rfl
theorem SW_to {σ : Sg} (h : SW σ) {D : Cm} (hD : CA (sC σ) D) {n : Int} (hn : 0 ≤ n ∧ n ≤ (sA σ).1) : SW (SgC D (SgA (n, (sA σ).2) σ)) := by
  obtain ⟨h1, h2, h3, ⟨h4, h5⟩, ⟨h6, h7⟩, h8, h9⟩ := h
  exact ⟨h1, h2, h3, ⟨hD.1, hD.2.1⟩, ⟨⟨hn.1, by show n ≤ 14; omega⟩, fun j a b => CA_c hD.2.2.1 hD.2.2.2 (h7 j a (by have : j < n := b; omega))⟩, fun s a b => ⟨(h8 s a b).1, fun c => CA_c hD.2.2.1 hD.2.2.2 ((h8 s a b).2 c)⟩, h9⟩
theorem SW_undo {σ : Sg} (h : SW σ) : SW (oUndo σ).2 := by
  unfold oUndo
  split
  · exact h
  · rename_i hx
    have h6 := h.2.2.2.2.1.1
    exact SW_to h (h.2.2.2.2.1.2 _ (by omega) (by omega)) (by omega)
theorem SW_keep {s : Int} {σ : Sg} (h : SW σ) : SW (oKeep s σ).2 := by
  unfold oKeep
  split
  · exact h
  · obtain ⟨h1, h2, h3, ⟨h4, h5⟩, h6, h8, h9⟩ := h
    refine ⟨h1, h2, h3, ⟨h4, h5⟩, h6, fun s2 a b => ?_, h9⟩
    show (upI (sK σ).1 s 1 s2 = 0 ∨ upI (sK σ).1 s 1 s2 = 1) ∧ (upI (sK σ).1 s 1 s2 = 1 → CA (sC σ) (if s2 = s then sC σ else (sK σ).2 s2))
    by_cases e : s2 = s
    · rw [e, upI_s, if_pos rfl]
      exact ⟨Or.inr rfl, fun _ => CA_self h4 h5⟩
    · rw [upI_n e, if_neg e]
      exact h8 s2 a b
theorem SW_again {s : Int} {σ : Sg} (h : SW σ) : SW (oAgain s σ).2 := by
  unfold oAgain
  split
  · exact h
  split
  · exact h
  · rename_i hx hy
    have hs : 0 ≤ s ∧ s < 2 := Classical.byContradiction hx
    have hk : (sK σ).1 s = 1 := Classical.byContradiction hy
    have h6 := h.2.2.2.2.1.1
    exact SW_to h ((h.2.2.2.2.2.1 s hs.1 hs.2).2 hk) ⟨Int.le_refl 0, h6.1⟩
theorem SW_knew {l k : Int} {σ : Sg} (h : SW σ) : SW (oKnew l k σ).2 := by
  unfold oKnew
  split
  · exact h
  split
  · exact h
  · rename_i hx hy
    obtain ⟨h1, h2, h3, h4, h6, h8, h9⟩ := h
    have h10 := h9.1
    refine ⟨h1, h2, h3, h4, h6, h8, ⟨by show 0 ≤ (sS σ).1 + 1; omega, by show (sS σ).1 + 1 ≤ 6; omega⟩, fun e a b => ?_⟩
    have b2 : e < (sS σ).1 + 1 := b
    show (1 ≤ upI (sS σ).2.1 (sS σ).1 l e ∧ upI (sS σ).2.1 (sS σ).1 l e ≤ 6) ∧ (upI (sS σ).2.2 (sS σ).1 k e = 0 ∨ upI (sS σ).2.2 (sS σ).1 k e = 1)
    by_cases ee : e = (sS σ).1
    · rw [ee, upI_s, upI_s]
      omega
    · rw [upI_n ee, upI_n ee]
      exact h9.2 e a (by omega)
theorem SW_unknew {σ : Sg} (h : SW σ) : SW (oUnknew σ).2 := ⟨h.1, h.2.1, h.2.2.1, h.2.2.2.1, h.2.2.2.2.1, h.2.2.2.2.2.1, ⟨Int.le_refl 0, by show (0 : Int) ≤ 6; decide⟩, fun e a b => absurd b (by show ¬ e < 0; omega)⟩
theorem SW_seed {v : Int} {σ : Sg} (h : SW σ) : SW (oSeed v σ).2 := h
theorem SW_years {m : Int} {σ : Sg} (h : SW σ) : SW (oYears m σ).2 := by
  unfold oYears
  split
  · exact h
  · exact h
/-! both sides at once -/
theorem RM_frX {σ : Sg} {M M2 : zm_M} (h : RM σ M) (hW : SW σ) (hf : frX M M2) : RM σ M2 := RM_frs h hW (fun k i a _ => hf k i a)
theorem RX_frM {σ : Sg} {M M2 : zm_M} (h : RX σ M) (hf : frM M M2) : RX σ M2 := RX_frs h (fun k i a _ => hf k i a)
theorem zs_zi (g : zt_G) (a : Int) : zi (zg_s g a) := by
  have h1 := zw_eq (zg_s g a)
  rw [show Int32.ofInt (zg_s g a) = zg_x g a.toNat from Int32.ofInt_toInt _] at h1
  have h2 := zw_rng (zg_s g a)
  rw [← h1] at h2
  exact h2
theorem zor_rng (a b : Int) : -9223372036854775808 ≤ zl_or a b ∧ zl_or a b < 9223372036854775808 := by
  have h1 := zx_eq (zl_or a b)
  rw [show Int64.ofInt (zl_or a b) = Int64.ofInt a ||| Int64.ofInt b from Int64.ofInt_toInt _] at h1
  have h2 : zl_or a b = zx (zl_or a b) := h1
  have h3 : -9223372036854775808 ≤ zx (zl_or a b) ∧ zx (zl_or a b) < 9223372036854775808 := by
    unfold zx
    omega
  rw [h2]
  exact h3
theorem and31 (z : Int) : zb_and z 31 = z % 32 := and_m z 5 (by decide) (by decide)
set_option maxRecDepth 100000 in
set_option maxHeartbeats 4000000 in
theorem lp_law {g : zt_G} (hL : zg_L g ≤ 4096) : ∀ (nn : Nat) (i : Int) (σ : Sg) (M : zm_M), ((zg_L g : Int) - i).toNat = nn → 0 ≤ i → i ≤ (zg_L g : Int) → SW σ → RX σ M → RM σ M → zc_Z g mL_law 18 [some (zv_r 63), some (zv_r 0), some (zv_r 46), some (zv_i i)] [] M (zq_I (fun r _ => r = 1)) := by
  intro nn
  induction nn using Nat.strongRecOn with
  | ind nn ih =>
    intro i σ M hnn h0 h1 hW hX hM
    have hz := zs_zi g
    refine zr_iload_n (pc := 18) dL_law_18 rfl rfl ?_
    refine zr_aload_n (pc := 19) dL_law_19 rfl rfl ?_
    refine zr_slen (pc := 20) dL_law_20 ?_
    refine zr_iconst (pc := 21) dL_law_21 ?_
    refine zr_isub (pc := 22) dL_law_22 ?_
    refine zi_icmp_gt (pc := 23) (tgt := 1003) dL_law_23 (by decide) (by omega) (by omega) (fun h23 => ?_) (fun h23 => ?_)
    · refine zr_iconst (pc := 1003) dL_law_1003 ?_
      exact zr_zreturn (pc := 1004) dL_law_1004 rfl (by decide) (rfl)
    · refine zr_aload_n (pc := 26) dL_law_26 rfl rfl ?_
      refine zr_iload_n (pc := 27) dL_law_27 rfl rfl ?_
      refine zr_scr (pc := 28) hL (by omega) dL_law_28 ?_
      refine zr_bipush (pc := 29) dL_law_29 (by decide) ?_
      refine zr_iand (pc := 31) dL_law_31 ?_
      obtain ⟨op, eop⟩ : ∃ op, op = zb_and (zg_s g i) 31 := ⟨_, rfl⟩
      have hop : 0 ≤ op ∧ op < 32 := by rw [eop, and31]; omega
      rw [← eop]
      rcases (by omega : op = 0 ∨ op = 1 ∨ op = 2 ∨ op = 3 ∨ op = 4 ∨ op = 5 ∨ op = 6 ∨ op = 7 ∨ op = 8 ∨ op = 9 ∨ op = 10 ∨ op = 11 ∨ op = 12 ∨ op = 13 ∨ op = 14 ∨ op = 15 ∨ op = 16 ∨ op = 17 ∨ op = 18 ∨ op = 19 ∨ op = 20 ∨ op = 21 ∨ op = 22 ∨ op = 23 ∨ op = 24 ∨ op = 25 ∨ op = 26 ∨ op = 27 ∨ (op < 0 ∨ 27 < op)) with hsw32 | hsw32 | hsw32 | hsw32 | hsw32 | hsw32 | hsw32 | hsw32 | hsw32 | hsw32 | hsw32 | hsw32 | hsw32 | hsw32 | hsw32 | hsw32 | hsw32 | hsw32 | hsw32 | hsw32 | hsw32 | hsw32 | hsw32 | hsw32 | hsw32 | hsw32 | hsw32 | hsw32 | hsw32
      · refine zr_tab_in (pc := 32) (tgt := 160) dL_law_32 (by rw [hsw32]; decide) (by rw [hsw32]; decide) (off := 128) (by rw [hsw32]; decide +kernel) (by decide) ?_
        refine zr_aload_n (pc := 160) dL_law_160 rfl rfl ?_
        refine zr_aload_n (pc := 161) dL_law_161 rfl rfl ?_
        refine zr_iload_n (pc := 162) dL_law_162 rfl rfl ?_
        refine zr_iconst (pc := 163) dL_law_163 ?_
        refine zr_iadd (pc := 164) dL_law_164 ?_
        refine zr_scr (pc := 165) hL (by omega) dL_law_165 ?_
        refine zr_inv1I (pc := 166) rfl sL_13 lo_0 rfl rfl rfl dL_law_166 ?_
        refine ct_X10_write hX hW (hz _) (fun M2 hf2 hX2 => ?_)
        refine zr_aload_n (pc := 169) dL_law_169 rfl rfl ?_
        refine zr_aload_n (pc := 170) dL_law_170 rfl rfl ?_
        refine zr_iload_n (pc := 171) dL_law_171 rfl rfl ?_
        refine zr_iconst (pc := 172) dL_law_172 ?_
        refine zr_iadd (pc := 173) dL_law_173 ?_
        refine zr_scr (pc := 174) hL (by omega) dL_law_174 ?_
        refine zr_inv1I (pc := 175) rfl sL_17 lo_46 rfl rfl rfl dL_law_175 ?_
        refine ct_X11_write (RM_frX hM hW hf2) hW (hz _) (fun M3 hf3 hM3 => ?_)
        refine zr_icmp_eq (pc := 178) (tgt := 997) dL_law_178 (by decide) (fun h178 => ?_) (fun h178 => absurd rfl h178)
        refine zr_iinc (pc := 997) dL_law_997 rfl (Nat.le_of_ble_eq_true rfl) rfl ?_
        refine zr_goto (pc := 1000) (tgt := 18) dL_law_1000 (by decide) ?_
        exact ih _ (by omega) _ _ _ rfl (by omega) (by omega) (SW_write hW) (RX_frM hX2 hf3) hM3
      · refine zr_tab_in (pc := 32) (tgt := 183) dL_law_32 (by rw [hsw32]; decide) (by rw [hsw32]; decide) (off := 151) (by rw [hsw32]; decide +kernel) (by decide) ?_
        refine zr_aload_n (pc := 183) dL_law_183 rfl rfl ?_
        refine zr_inv0I (pc := 184) rfl sL_18 lo_0 rfl rfl rfl dL_law_184 ?_
        refine ct_X10_wipe hX hW  (fun M2 hf2 hX2 => ?_)
        refine zr_aload_n (pc := 187) dL_law_187 rfl rfl ?_
        refine zr_inv0I (pc := 188) rfl sL_22 lo_46 rfl rfl rfl dL_law_188 ?_
        refine ct_X11_wipe (RM_frX hM hW hf2) hW  (fun M3 hf3 hM3 => ?_)
        refine zr_icmp_eq (pc := 191) (tgt := 997) dL_law_191 (by decide) (fun h191 => ?_) (fun h191 => absurd rfl h191)
        refine zr_iinc (pc := 997) dL_law_997 rfl (Nat.le_of_ble_eq_true rfl) rfl ?_
        refine zr_goto (pc := 1000) (tgt := 18) dL_law_1000 (by decide) ?_
        exact ih _ (by omega) _ _ _ rfl (by omega) (by omega) (SW_wipe hW) (RX_frM hX2 hf3) hM3
      · refine zr_tab_in (pc := 32) (tgt := 196) dL_law_32 (by rw [hsw32]; decide) (by rw [hsw32]; decide) (off := 164) (by rw [hsw32]; decide +kernel) (by decide) ?_
        refine zr_aload_n (pc := 196) dL_law_196 rfl rfl ?_
        refine zr_inv0I (pc := 197) rfl sL_23 lo_0 rfl rfl rfl dL_law_197 ?_
        refine ct_X10_fault hX hW  (fun M2 hf2 hX2 => ?_)
        refine zr_aload_n (pc := 200) dL_law_200 rfl rfl ?_
        refine zr_inv0I (pc := 201) rfl sL_26 lo_46 rfl rfl rfl dL_law_201 ?_
        refine ct_X11_fault (RM_frX hM hW hf2) hW  (fun M3 hf3 hM3 => ?_)
        refine zr_icmp_eq (pc := 204) (tgt := 997) dL_law_204 (by decide) (fun h204 => ?_) (fun h204 => absurd rfl h204)
        refine zr_iinc (pc := 997) dL_law_997 rfl (Nat.le_of_ble_eq_true rfl) rfl ?_
        refine zr_goto (pc := 1000) (tgt := 18) dL_law_1000 (by decide) ?_
        exact ih _ (by omega) _ _ _ rfl (by omega) (by omega) hW (RX_frM hX2 hf3) hM3
      · refine zr_tab_in (pc := 32) (tgt := 209) dL_law_32 (by rw [hsw32]; decide) (by rw [hsw32]; decide) (off := 177) (by rw [hsw32]; decide +kernel) (by decide) ?_
        refine zr_aload_n (pc := 209) dL_law_209 rfl rfl ?_
        refine zr_inv0I (pc := 210) rfl sL_27 lo_0 rfl rfl rfl dL_law_210 ?_
        refine ct_X10_hill hX hW  (fun M2 hf2 hX2 => ?_)
        refine zr_aload_n (pc := 213) dL_law_213 rfl rfl ?_
        refine zr_inv0I (pc := 214) rfl sL_30 lo_46 rfl rfl rfl dL_law_214 ?_
        refine ct_X11_hill (RM_frX hM hW hf2) hW  (fun M3 hf3 hM3 => ?_)
        refine zr_icmp_eq (pc := 217) (tgt := 997) dL_law_217 (by decide) (fun h217 => ?_) (fun h217 => absurd rfl h217)
        refine zr_iinc (pc := 997) dL_law_997 rfl (Nat.le_of_ble_eq_true rfl) rfl ?_
        refine zr_goto (pc := 1000) (tgt := 18) dL_law_1000 (by decide) ?_
        exact ih _ (by omega) _ _ _ rfl (by omega) (by omega) (SW_hill hW) (RX_frM hX2 hf3) hM3
      · refine zr_tab_in (pc := 32) (tgt := 222) dL_law_32 (by rw [hsw32]; decide) (by rw [hsw32]; decide) (off := 190) (by rw [hsw32]; decide +kernel) (by decide) ?_
        refine zr_aload_n (pc := 222) dL_law_222 rfl rfl ?_
        refine zr_aload_n (pc := 223) dL_law_223 rfl rfl ?_
        refine zr_iload_n (pc := 224) dL_law_224 rfl rfl ?_
        refine zr_iconst (pc := 225) dL_law_225 ?_
        refine zr_iadd (pc := 226) dL_law_226 ?_
        refine zr_scr (pc := 227) hL (by omega) dL_law_227 ?_
        refine zr_aload_n (pc := 228) dL_law_228 rfl rfl ?_
        refine zr_iload_n (pc := 229) dL_law_229 rfl rfl ?_
        refine zr_iconst (pc := 230) dL_law_230 ?_
        refine zr_iadd (pc := 231) dL_law_231 ?_
        refine zr_scr (pc := 232) hL (by omega) dL_law_232 ?_
        refine zr_inv2I (pc := 233) rfl sL_31 lo_0 rfl rfl rfl dL_law_233 ?_
        refine ct_X10_kiln hX hW (hz _) (hz _) (fun M2 hf2 hX2 => ?_)
        refine zr_aload_n (pc := 236) dL_law_236 rfl rfl ?_
        refine zr_aload_n (pc := 237) dL_law_237 rfl rfl ?_
        refine zr_iload_n (pc := 238) dL_law_238 rfl rfl ?_
        refine zr_iconst (pc := 239) dL_law_239 ?_
        refine zr_iadd (pc := 240) dL_law_240 ?_
        refine zr_scr (pc := 241) hL (by omega) dL_law_241 ?_
        refine zr_aload_n (pc := 242) dL_law_242 rfl rfl ?_
        refine zr_iload_n (pc := 243) dL_law_243 rfl rfl ?_
        refine zr_iconst (pc := 244) dL_law_244 ?_
        refine zr_iadd (pc := 245) dL_law_245 ?_
        refine zr_scr (pc := 246) hL (by omega) dL_law_246 ?_
        refine zr_inv2I (pc := 247) rfl sL_35 lo_46 rfl rfl rfl dL_law_247 ?_
        refine ct_X11_kiln (RM_frX hM hW hf2) hW (hz _) (hz _) (fun M3 hf3 hM3 => ?_)
        refine zr_icmp_eq (pc := 250) (tgt := 997) dL_law_250 (by decide) (fun h250 => ?_) (fun h250 => absurd rfl h250)
        refine zr_iinc (pc := 997) dL_law_997 rfl (Nat.le_of_ble_eq_true rfl) rfl ?_
        refine zr_goto (pc := 1000) (tgt := 18) dL_law_1000 (by decide) ?_
        exact ih _ (by omega) _ _ _ rfl (by omega) (by omega) hW (RX_frM hX2 hf3) hM3
      · refine zr_tab_in (pc := 32) (tgt := 255) dL_law_32 (by rw [hsw32]; decide) (by rw [hsw32]; decide) (off := 223) (by rw [hsw32]; decide +kernel) (by decide) ?_
        refine zr_aload_n (pc := 255) dL_law_255 rfl rfl ?_
        refine zr_aload_n (pc := 256) dL_law_256 rfl rfl ?_
        refine zr_iload_n (pc := 257) dL_law_257 rfl rfl ?_
        refine zr_iconst (pc := 258) dL_law_258 ?_
        refine zr_iadd (pc := 259) dL_law_259 ?_
        refine zr_scr (pc := 260) hL (by omega) dL_law_260 ?_
        refine zr_aload_n (pc := 261) dL_law_261 rfl rfl ?_
        refine zr_iload_n (pc := 262) dL_law_262 rfl rfl ?_
        refine zr_iconst (pc := 263) dL_law_263 ?_
        refine zr_iadd (pc := 264) dL_law_264 ?_
        refine zr_scr (pc := 265) hL (by omega) dL_law_265 ?_
        refine zr_inv2I (pc := 266) rfl sL_36 lo_0 rfl rfl rfl dL_law_266 ?_
        refine ct_X10_tramp hX hW (hz _) (hz _) (fun M2 hf2 hX2 => ?_)
        refine zr_aload_n (pc := 269) dL_law_269 rfl rfl ?_
        refine zr_aload_n (pc := 270) dL_law_270 rfl rfl ?_
        refine zr_iload_n (pc := 271) dL_law_271 rfl rfl ?_
        refine zr_iconst (pc := 272) dL_law_272 ?_
        refine zr_iadd (pc := 273) dL_law_273 ?_
        refine zr_scr (pc := 274) hL (by omega) dL_law_274 ?_
        refine zr_aload_n (pc := 275) dL_law_275 rfl rfl ?_
        refine zr_iload_n (pc := 276) dL_law_276 rfl rfl ?_
        refine zr_iconst (pc := 277) dL_law_277 ?_
        refine zr_iadd (pc := 278) dL_law_278 ?_
        refine zr_scr (pc := 279) hL (by omega) dL_law_279 ?_
        refine zr_inv2I (pc := 280) rfl sL_39 lo_46 rfl rfl rfl dL_law_280 ?_
        refine ct_X11_tramp (RM_frX hM hW hf2) hW (hz _) (hz _) (fun M3 hf3 hM3 => ?_)
        refine zr_icmp_eq (pc := 283) (tgt := 997) dL_law_283 (by decide) (fun h283 => ?_) (fun h283 => absurd rfl h283)
        refine zr_iinc (pc := 997) dL_law_997 rfl (Nat.le_of_ble_eq_true rfl) rfl ?_
        refine zr_goto (pc := 1000) (tgt := 18) dL_law_1000 (by decide) ?_
        exact ih _ (by omega) _ _ _ rfl (by omega) (by omega) hW (RX_frM hX2 hf3) hM3
      · refine zr_tab_in (pc := 32) (tgt := 288) dL_law_32 (by rw [hsw32]; decide) (by rw [hsw32]; decide) (off := 256) (by rw [hsw32]; decide +kernel) (by decide) ?_
        refine zr_aload_n (pc := 288) dL_law_288 rfl rfl ?_
        refine zr_aload_n (pc := 289) dL_law_289 rfl rfl ?_
        refine zr_iload_n (pc := 290) dL_law_290 rfl rfl ?_
        refine zr_iconst (pc := 291) dL_law_291 ?_
        refine zr_iadd (pc := 292) dL_law_292 ?_
        refine zr_scr (pc := 293) hL (by omega) dL_law_293 ?_
        refine zr_inv1I (pc := 294) rfl sL_40 lo_0 rfl rfl rfl dL_law_294 ?_
        refine ct_X10_at hX hW (hz _) (fun M2 hf2 hX2 => ?_)
        refine zr_aload_n (pc := 297) dL_law_297 rfl rfl ?_
        refine zr_aload_n (pc := 298) dL_law_298 rfl rfl ?_
        refine zr_iload_n (pc := 299) dL_law_299 rfl rfl ?_
        refine zr_iconst (pc := 300) dL_law_300 ?_
        refine zr_iadd (pc := 301) dL_law_301 ?_
        refine zr_scr (pc := 302) hL (by omega) dL_law_302 ?_
        refine zr_inv1I (pc := 303) rfl sL_43 lo_46 rfl rfl rfl dL_law_303 ?_
        refine ct_X11_at (RM_frX hM hW hf2) hW (hz _) (fun M3 hf3 hM3 => ?_)
        refine zr_icmp_eq (pc := 306) (tgt := 997) dL_law_306 (by decide) (fun h306 => ?_) (fun h306 => absurd rfl h306)
        refine zr_iinc (pc := 997) dL_law_997 rfl (Nat.le_of_ble_eq_true rfl) rfl ?_
        refine zr_goto (pc := 1000) (tgt := 18) dL_law_1000 (by decide) ?_
        exact ih _ (by omega) _ _ _ rfl (by omega) (by omega) hW (RX_frM hX2 hf3) hM3
      · refine zr_tab_in (pc := 32) (tgt := 311) dL_law_32 (by rw [hsw32]; decide) (by rw [hsw32]; decide) (off := 279) (by rw [hsw32]; decide +kernel) (by decide) ?_
        refine zr_aload_n (pc := 311) dL_law_311 rfl rfl ?_
        refine zr_inv0I (pc := 312) rfl sL_44 lo_0 rfl rfl rfl dL_law_312 ?_
        refine ct_X10_night hX hW  (fun M2 hf2 hX2 => ?_)
        refine zr_aload_n (pc := 315) dL_law_315 rfl rfl ?_
        refine zr_inv0I (pc := 316) rfl sL_47 lo_46 rfl rfl rfl dL_law_316 ?_
        refine ct_X11_night (RM_frX hM hW hf2) hW  (fun M3 hf3 hM3 => ?_)
        refine zr_icmp_eq (pc := 319) (tgt := 997) dL_law_319 (by decide) (fun h319 => ?_) (fun h319 => absurd rfl h319)
        refine zr_iinc (pc := 997) dL_law_997 rfl (Nat.le_of_ble_eq_true rfl) rfl ?_
        refine zr_goto (pc := 1000) (tgt := 18) dL_law_1000 (by decide) ?_
        exact ih _ (by omega) _ _ _ rfl (by omega) (by omega) (SW_night hW) (RX_frM hX2 hf3) hM3
      · refine zr_tab_in (pc := 32) (tgt := 324) dL_law_32 (by rw [hsw32]; decide) (by rw [hsw32]; decide) (off := 292) (by rw [hsw32]; decide +kernel) (by decide) ?_
        refine zr_aload_n (pc := 324) dL_law_324 rfl rfl ?_
        refine zr_aload_n (pc := 325) dL_law_325 rfl rfl ?_
        refine zr_iload_n (pc := 326) dL_law_326 rfl rfl ?_
        refine zr_iconst (pc := 327) dL_law_327 ?_
        refine zr_iadd (pc := 328) dL_law_328 ?_
        refine zr_scr (pc := 329) hL (by omega) dL_law_329 ?_
        refine zr_aload_n (pc := 330) dL_law_330 rfl rfl ?_
        refine zr_iload_n (pc := 331) dL_law_331 rfl rfl ?_
        refine zr_iconst (pc := 332) dL_law_332 ?_
        refine zr_iadd (pc := 333) dL_law_333 ?_
        refine zr_scr (pc := 334) hL (by omega) dL_law_334 ?_
        refine zr_inv2I (pc := 335) rfl sL_48 lo_0 rfl rfl rfl dL_law_335 ?_
        refine ct_X10_walk hX hW (hz _) (hz _) (fun M2 hf2 hX2 => ?_)
        refine zr_aload_n (pc := 338) dL_law_338 rfl rfl ?_
        refine zr_aload_n (pc := 339) dL_law_339 rfl rfl ?_
        refine zr_iload_n (pc := 340) dL_law_340 rfl rfl ?_
        refine zr_iconst (pc := 341) dL_law_341 ?_
        refine zr_iadd (pc := 342) dL_law_342 ?_
        refine zr_scr (pc := 343) hL (by omega) dL_law_343 ?_
        refine zr_aload_n (pc := 344) dL_law_344 rfl rfl ?_
        refine zr_iload_n (pc := 345) dL_law_345 rfl rfl ?_
        refine zr_iconst (pc := 346) dL_law_346 ?_
        refine zr_iadd (pc := 347) dL_law_347 ?_
        refine zr_scr (pc := 348) hL (by omega) dL_law_348 ?_
        refine zr_inv2I (pc := 349) rfl sL_51 lo_46 rfl rfl rfl dL_law_349 ?_
        refine ct_X11_walk (RM_frX hM hW hf2) hW (hz _) (hz _) (fun M3 hf3 hM3 => ?_)
        refine zr_icmp_eq (pc := 352) (tgt := 997) dL_law_352 (by decide) (fun h352 => ?_) (fun h352 => absurd rfl h352)
        refine zr_iinc (pc := 997) dL_law_997 rfl (Nat.le_of_ble_eq_true rfl) rfl ?_
        refine zr_goto (pc := 1000) (tgt := 18) dL_law_1000 (by decide) ?_
        exact ih _ (by omega) _ _ _ rfl (by omega) (by omega) (SW_walk hW) (RX_frM hX2 hf3) hM3
      · refine zr_tab_in (pc := 32) (tgt := 357) dL_law_32 (by rw [hsw32]; decide) (by rw [hsw32]; decide) (off := 325) (by rw [hsw32]; decide +kernel) (by decide) ?_
        refine zr_aload_n (pc := 357) dL_law_357 rfl rfl ?_
        refine zr_aload_n (pc := 358) dL_law_358 rfl rfl ?_
        refine zr_iload_n (pc := 359) dL_law_359 rfl rfl ?_
        refine zr_iconst (pc := 360) dL_law_360 ?_
        refine zr_iadd (pc := 361) dL_law_361 ?_
        refine zr_scr (pc := 362) hL (by omega) dL_law_362 ?_
        refine zr_aload_n (pc := 363) dL_law_363 rfl rfl ?_
        refine zr_iload_n (pc := 364) dL_law_364 rfl rfl ?_
        refine zr_iconst (pc := 365) dL_law_365 ?_
        refine zr_iadd (pc := 366) dL_law_366 ?_
        refine zr_scr (pc := 367) hL (by omega) dL_law_367 ?_
        refine zr_inv2I (pc := 368) rfl sL_52 lo_0 rfl rfl rfl dL_law_368 ?_
        refine ct_X10_tell hX hW (hz _) (hz _) (fun M2 hf2 hX2 => ?_)
        refine zr_aload_n (pc := 371) dL_law_371 rfl rfl ?_
        refine zr_aload_n (pc := 372) dL_law_372 rfl rfl ?_
        refine zr_iload_n (pc := 373) dL_law_373 rfl rfl ?_
        refine zr_iconst (pc := 374) dL_law_374 ?_
        refine zr_iadd (pc := 375) dL_law_375 ?_
        refine zr_scr (pc := 376) hL (by omega) dL_law_376 ?_
        refine zr_aload_n (pc := 377) dL_law_377 rfl rfl ?_
        refine zr_iload_n (pc := 378) dL_law_378 rfl rfl ?_
        refine zr_iconst (pc := 379) dL_law_379 ?_
        refine zr_iadd (pc := 380) dL_law_380 ?_
        refine zr_scr (pc := 381) hL (by omega) dL_law_381 ?_
        refine zr_inv2I (pc := 382) rfl sL_55 lo_46 rfl rfl rfl dL_law_382 ?_
        refine ct_X11_tell (RM_frX hM hW hf2) hW (hz _) (hz _) (fun M3 hf3 hM3 => ?_)
        refine zr_icmp_eq (pc := 385) (tgt := 997) dL_law_385 (by decide) (fun h385 => ?_) (fun h385 => absurd rfl h385)
        refine zr_iinc (pc := 997) dL_law_997 rfl (Nat.le_of_ble_eq_true rfl) rfl ?_
        refine zr_goto (pc := 1000) (tgt := 18) dL_law_1000 (by decide) ?_
        exact ih _ (by omega) _ _ _ rfl (by omega) (by omega) (SW_tell hW) (RX_frM hX2 hf3) hM3
      · refine zr_tab_in (pc := 32) (tgt := 390) dL_law_32 (by rw [hsw32]; decide) (by rw [hsw32]; decide) (off := 358) (by rw [hsw32]; decide +kernel) (by decide) ?_
        refine zr_aload_n (pc := 390) dL_law_390 rfl rfl ?_
        refine zr_aload_n (pc := 391) dL_law_391 rfl rfl ?_
        refine zr_iload_n (pc := 392) dL_law_392 rfl rfl ?_
        refine zr_iconst (pc := 393) dL_law_393 ?_
        refine zr_iadd (pc := 394) dL_law_394 ?_
        refine zr_scr (pc := 395) hL (by omega) dL_law_395 ?_
        refine zr_inv1I (pc := 396) rfl sL_56 lo_0 rfl rfl rfl dL_law_396 ?_
        refine ct_X10_wash hX hW (hz _) (fun M2 hf2 hX2 => ?_)
        refine zr_aload_n (pc := 399) dL_law_399 rfl rfl ?_
        refine zr_aload_n (pc := 400) dL_law_400 rfl rfl ?_
        refine zr_iload_n (pc := 401) dL_law_401 rfl rfl ?_
        refine zr_iconst (pc := 402) dL_law_402 ?_
        refine zr_iadd (pc := 403) dL_law_403 ?_
        refine zr_scr (pc := 404) hL (by omega) dL_law_404 ?_
        refine zr_inv1I (pc := 405) rfl sL_59 lo_46 rfl rfl rfl dL_law_405 ?_
        refine ct_X11_wash (RM_frX hM hW hf2) hW (hz _) (fun M3 hf3 hM3 => ?_)
        refine zr_icmp_eq (pc := 408) (tgt := 997) dL_law_408 (by decide) (fun h408 => ?_) (fun h408 => absurd rfl h408)
        refine zr_iinc (pc := 997) dL_law_997 rfl (Nat.le_of_ble_eq_true rfl) rfl ?_
        refine zr_goto (pc := 1000) (tgt := 18) dL_law_1000 (by decide) ?_
        exact ih _ (by omega) _ _ _ rfl (by omega) (by omega) (SW_wash hW) (RX_frM hX2 hf3) hM3
      · refine zr_tab_in (pc := 32) (tgt := 413) dL_law_32 (by rw [hsw32]; decide) (by rw [hsw32]; decide) (off := 381) (by rw [hsw32]; decide +kernel) (by decide) ?_
        refine zr_aload_n (pc := 413) dL_law_413 rfl rfl ?_
        refine zr_inv0I (pc := 414) rfl sL_60 lo_0 rfl rfl rfl dL_law_414 ?_
        refine ct_X10_undo hX hW  (fun M2 hf2 hX2 => ?_)
        refine zr_aload_n (pc := 417) dL_law_417 rfl rfl ?_
        refine zr_inv0I (pc := 418) rfl sL_63 lo_46 rfl rfl rfl dL_law_418 ?_
        refine ct_X11_undo (RM_frX hM hW hf2) hW  (fun M3 hf3 hM3 => ?_)
        refine zr_icmp_eq (pc := 421) (tgt := 997) dL_law_421 (by decide) (fun h421 => ?_) (fun h421 => absurd rfl h421)
        refine zr_iinc (pc := 997) dL_law_997 rfl (Nat.le_of_ble_eq_true rfl) rfl ?_
        refine zr_goto (pc := 1000) (tgt := 18) dL_law_1000 (by decide) ?_
        exact ih _ (by omega) _ _ _ rfl (by omega) (by omega) (SW_undo hW) (RX_frM hX2 hf3) hM3
      · refine zr_tab_in (pc := 32) (tgt := 426) dL_law_32 (by rw [hsw32]; decide) (by rw [hsw32]; decide) (off := 394) (by rw [hsw32]; decide +kernel) (by decide) ?_
        refine zr_aload_n (pc := 426) dL_law_426 rfl rfl ?_
        refine zr_aload_n (pc := 427) dL_law_427 rfl rfl ?_
        refine zr_iload_n (pc := 428) dL_law_428 rfl rfl ?_
        refine zr_iconst (pc := 429) dL_law_429 ?_
        refine zr_iadd (pc := 430) dL_law_430 ?_
        refine zr_scr (pc := 431) hL (by omega) dL_law_431 ?_
        refine zr_aload_n (pc := 432) dL_law_432 rfl rfl ?_
        refine zr_iload_n (pc := 433) dL_law_433 rfl rfl ?_
        refine zr_iconst (pc := 434) dL_law_434 ?_
        refine zr_iadd (pc := 435) dL_law_435 ?_
        refine zr_scr (pc := 436) hL (by omega) dL_law_436 ?_
        refine zr_aload_n (pc := 437) dL_law_437 rfl rfl ?_
        refine zr_iload_n (pc := 438) dL_law_438 rfl rfl ?_
        refine zr_iconst (pc := 439) dL_law_439 ?_
        refine zr_iadd (pc := 440) dL_law_440 ?_
        refine zr_scr (pc := 441) hL (by omega) dL_law_441 ?_
        refine zr_inv3I (pc := 442) rfl sL_64 lo_0 rfl rfl rfl dL_law_442 ?_
        refine ct_X10_later hX hW (hz _) (hz _) (hz _) (fun M2 hf2 hX2 => ?_)
        refine zr_aload_n (pc := 445) dL_law_445 rfl rfl ?_
        refine zr_aload_n (pc := 446) dL_law_446 rfl rfl ?_
        refine zr_iload_n (pc := 447) dL_law_447 rfl rfl ?_
        refine zr_iconst (pc := 448) dL_law_448 ?_
        refine zr_iadd (pc := 449) dL_law_449 ?_
        refine zr_scr (pc := 450) hL (by omega) dL_law_450 ?_
        refine zr_aload_n (pc := 451) dL_law_451 rfl rfl ?_
        refine zr_iload_n (pc := 452) dL_law_452 rfl rfl ?_
        refine zr_iconst (pc := 453) dL_law_453 ?_
        refine zr_iadd (pc := 454) dL_law_454 ?_
        refine zr_scr (pc := 455) hL (by omega) dL_law_455 ?_
        refine zr_aload_n (pc := 456) dL_law_456 rfl rfl ?_
        refine zr_iload_n (pc := 457) dL_law_457 rfl rfl ?_
        refine zr_iconst (pc := 458) dL_law_458 ?_
        refine zr_iadd (pc := 459) dL_law_459 ?_
        refine zr_scr (pc := 460) hL (by omega) dL_law_460 ?_
        refine zr_inv3I (pc := 461) rfl sL_68 lo_46 rfl rfl rfl dL_law_461 ?_
        refine ct_X11_later (RM_frX hM hW hf2) hW (hz _) (hz _) (hz _) (fun M3 hf3 hM3 => ?_)
        refine zr_icmp_eq (pc := 464) (tgt := 997) dL_law_464 (by decide) (fun h464 => ?_) (fun h464 => absurd rfl h464)
        refine zr_iinc (pc := 997) dL_law_997 rfl (Nat.le_of_ble_eq_true rfl) rfl ?_
        refine zr_goto (pc := 1000) (tgt := 18) dL_law_1000 (by decide) ?_
        exact ih _ (by omega) _ _ _ rfl (by omega) (by omega) hW (RX_frM hX2 hf3) hM3
      · refine zr_tab_in (pc := 32) (tgt := 469) dL_law_32 (by rw [hsw32]; decide) (by rw [hsw32]; decide) (off := 437) (by rw [hsw32]; decide +kernel) (by decide) ?_
        refine zr_aload_n (pc := 469) dL_law_469 rfl rfl ?_
        refine zr_aload_n (pc := 470) dL_law_470 rfl rfl ?_
        refine zr_iload_n (pc := 471) dL_law_471 rfl rfl ?_
        refine zr_iconst (pc := 472) dL_law_472 ?_
        refine zr_iadd (pc := 473) dL_law_473 ?_
        refine zr_scr (pc := 474) hL (by omega) dL_law_474 ?_
        refine zr_inv1I (pc := 475) rfl sL_69 lo_0 rfl rfl rfl dL_law_475 ?_
        refine ct_X10_hummock hX hW (hz _) (fun M2 hf2 hX2 => ?_)
        refine zr_aload_n (pc := 478) dL_law_478 rfl rfl ?_
        refine zr_aload_n (pc := 479) dL_law_479 rfl rfl ?_
        refine zr_iload_n (pc := 480) dL_law_480 rfl rfl ?_
        refine zr_iconst (pc := 481) dL_law_481 ?_
        refine zr_iadd (pc := 482) dL_law_482 ?_
        refine zr_scr (pc := 483) hL (by omega) dL_law_483 ?_
        refine zr_inv1I (pc := 484) rfl sL_72 lo_46 rfl rfl rfl dL_law_484 ?_
        refine ct_X11_hummock (RM_frX hM hW hf2) hW (hz _) (fun M3 hf3 hM3 => ?_)
        refine zr_icmp_eq (pc := 487) (tgt := 997) dL_law_487 (by decide) (fun h487 => ?_) (fun h487 => absurd rfl h487)
        refine zr_iinc (pc := 997) dL_law_997 rfl (Nat.le_of_ble_eq_true rfl) rfl ?_
        refine zr_goto (pc := 1000) (tgt := 18) dL_law_1000 (by decide) ?_
        exact ih _ (by omega) _ _ _ rfl (by omega) (by omega) hW (RX_frM hX2 hf3) hM3
      · refine zr_tab_in (pc := 32) (tgt := 492) dL_law_32 (by rw [hsw32]; decide) (by rw [hsw32]; decide) (off := 460) (by rw [hsw32]; decide +kernel) (by decide) ?_
        refine zr_aload_n (pc := 492) dL_law_492 rfl rfl ?_
        refine zr_aload_n (pc := 493) dL_law_493 rfl rfl ?_
        refine zr_iload_n (pc := 494) dL_law_494 rfl rfl ?_
        refine zr_iconst (pc := 495) dL_law_495 ?_
        refine zr_iadd (pc := 496) dL_law_496 ?_
        refine zr_scr (pc := 497) hL (by omega) dL_law_497 ?_
        refine zr_aload_n (pc := 498) dL_law_498 rfl rfl ?_
        refine zr_iload_n (pc := 499) dL_law_499 rfl rfl ?_
        refine zr_iconst (pc := 500) dL_law_500 ?_
        refine zr_iadd (pc := 501) dL_law_501 ?_
        refine zr_scr (pc := 502) hL (by omega) dL_law_502 ?_
        refine zr_aload_n (pc := 503) dL_law_503 rfl rfl ?_
        refine zr_iload_n (pc := 504) dL_law_504 rfl rfl ?_
        refine zr_iconst (pc := 505) dL_law_505 ?_
        refine zr_iadd (pc := 506) dL_law_506 ?_
        refine zr_scr (pc := 507) hL (by omega) dL_law_507 ?_
        refine zr_inv3I (pc := 508) rfl sL_73 lo_0 rfl rfl rfl dL_law_508 ?_
        refine ct_X10_soon hX hW (hz _) (hz _) (hz _) (fun M2 hf2 hX2 => ?_)
        refine zr_aload_n (pc := 511) dL_law_511 rfl rfl ?_
        refine zr_aload_n (pc := 512) dL_law_512 rfl rfl ?_
        refine zr_iload_n (pc := 513) dL_law_513 rfl rfl ?_
        refine zr_iconst (pc := 514) dL_law_514 ?_
        refine zr_iadd (pc := 515) dL_law_515 ?_
        refine zr_scr (pc := 516) hL (by omega) dL_law_516 ?_
        refine zr_aload_n (pc := 517) dL_law_517 rfl rfl ?_
        refine zr_iload_n (pc := 518) dL_law_518 rfl rfl ?_
        refine zr_iconst (pc := 519) dL_law_519 ?_
        refine zr_iadd (pc := 520) dL_law_520 ?_
        refine zr_scr (pc := 521) hL (by omega) dL_law_521 ?_
        refine zr_aload_n (pc := 522) dL_law_522 rfl rfl ?_
        refine zr_iload_n (pc := 523) dL_law_523 rfl rfl ?_
        refine zr_iconst (pc := 524) dL_law_524 ?_
        refine zr_iadd (pc := 525) dL_law_525 ?_
        refine zr_scr (pc := 526) hL (by omega) dL_law_526 ?_
        refine zr_inv3I (pc := 527) rfl sL_76 lo_46 rfl rfl rfl dL_law_527 ?_
        refine ct_X11_soon (RM_frX hM hW hf2) hW (hz _) (hz _) (hz _) (fun M3 hf3 hM3 => ?_)
        refine zr_icmp_eq (pc := 530) (tgt := 997) dL_law_530 (by decide) (fun h530 => ?_) (fun h530 => absurd rfl h530)
        refine zr_iinc (pc := 997) dL_law_997 rfl (Nat.le_of_ble_eq_true rfl) rfl ?_
        refine zr_goto (pc := 1000) (tgt := 18) dL_law_1000 (by decide) ?_
        exact ih _ (by omega) _ _ _ rfl (by omega) (by omega) hW (RX_frM hX2 hf3) hM3
      · refine zr_tab_in (pc := 32) (tgt := 535) dL_law_32 (by rw [hsw32]; decide) (by rw [hsw32]; decide) (off := 503) (by rw [hsw32]; decide +kernel) (by decide) ?_
        refine zr_aload_n (pc := 535) dL_law_535 rfl rfl ?_
        refine zr_aload_n (pc := 536) dL_law_536 rfl rfl ?_
        refine zr_iload_n (pc := 537) dL_law_537 rfl rfl ?_
        refine zr_iconst (pc := 538) dL_law_538 ?_
        refine zr_iadd (pc := 539) dL_law_539 ?_
        refine zr_scr (pc := 540) hL (by omega) dL_law_540 ?_
        refine zr_inv1I (pc := 541) rfl sL_77 lo_0 rfl rfl rfl dL_law_541 ?_
        refine ct_X10_beneath hX hW (hz _) (fun M2 hf2 hX2 => ?_)
        refine zr_aload_n (pc := 544) dL_law_544 rfl rfl ?_
        refine zr_aload_n (pc := 545) dL_law_545 rfl rfl ?_
        refine zr_iload_n (pc := 546) dL_law_546 rfl rfl ?_
        refine zr_iconst (pc := 547) dL_law_547 ?_
        refine zr_iadd (pc := 548) dL_law_548 ?_
        refine zr_scr (pc := 549) hL (by omega) dL_law_549 ?_
        refine zr_inv1I (pc := 550) rfl sL_80 lo_46 rfl rfl rfl dL_law_550 ?_
        refine ct_X11_beneath (RM_frX hM hW hf2) hW (hz _) (fun M3 hf3 hM3 => ?_)
        refine zr_icmp_eq (pc := 553) (tgt := 997) dL_law_553 (by decide) (fun h553 => ?_) (fun h553 => absurd rfl h553)
        refine zr_iinc (pc := 997) dL_law_997 rfl (Nat.le_of_ble_eq_true rfl) rfl ?_
        refine zr_goto (pc := 1000) (tgt := 18) dL_law_1000 (by decide) ?_
        exact ih _ (by omega) _ _ _ rfl (by omega) (by omega) hW (RX_frM hX2 hf3) hM3
      · refine zr_tab_in (pc := 32) (tgt := 558) dL_law_32 (by rw [hsw32]; decide) (by rw [hsw32]; decide) (off := 526) (by rw [hsw32]; decide +kernel) (by decide) ?_
        refine zr_aload_n (pc := 558) dL_law_558 rfl rfl ?_
        refine zr_aload_n (pc := 559) dL_law_559 rfl rfl ?_
        refine zr_iload_n (pc := 560) dL_law_560 rfl rfl ?_
        refine zr_iconst (pc := 561) dL_law_561 ?_
        refine zr_iadd (pc := 562) dL_law_562 ?_
        refine zr_scr (pc := 563) hL (by omega) dL_law_563 ?_
        refine zr_aload_n (pc := 564) dL_law_564 rfl rfl ?_
        refine zr_iload_n (pc := 565) dL_law_565 rfl rfl ?_
        refine zr_iconst (pc := 566) dL_law_566 ?_
        refine zr_iadd (pc := 567) dL_law_567 ?_
        refine zr_scr (pc := 568) hL (by omega) dL_law_568 ?_
        refine zr_i2l (pc := 569) dL_law_569 ?_
        refine zr_bipush (pc := 570) dL_law_570 (by decide) ?_
        refine zr_lshl (pc := 572) dL_law_572 ?_
        refine zr_aload_n (pc := 573) dL_law_573 rfl rfl ?_
        refine zr_iload_n (pc := 574) dL_law_574 rfl rfl ?_
        refine zr_iconst (pc := 575) dL_law_575 ?_
        refine zr_iadd (pc := 576) dL_law_576 ?_
        refine zr_scr (pc := 577) hL (by omega) dL_law_577 ?_
        refine zr_i2l (pc := 578) dL_law_578 ?_
        refine zr_ldc2 (pc := 579) (z := 4294967295) rfl kL_81 (by decide +kernel) dL_law_579 ?_
        refine zr_land (pc := 582) dL_law_582 ?_
        refine zr_lor (pc := 583) dL_law_583 ?_
        refine zr_inv2I (pc := 584) rfl sL_83 lo_0 rfl rfl rfl dL_law_584 ?_
        refine ct_X10_judge hX hW (hz _) (zor_rng _ _) (fun M2 hf2 hX2 => ?_)
        refine zr_aload_n (pc := 587) dL_law_587 rfl rfl ?_
        refine zr_aload_n (pc := 588) dL_law_588 rfl rfl ?_
        refine zr_iload_n (pc := 589) dL_law_589 rfl rfl ?_
        refine zr_iconst (pc := 590) dL_law_590 ?_
        refine zr_iadd (pc := 591) dL_law_591 ?_
        refine zr_scr (pc := 592) hL (by omega) dL_law_592 ?_
        refine zr_aload_n (pc := 593) dL_law_593 rfl rfl ?_
        refine zr_iload_n (pc := 594) dL_law_594 rfl rfl ?_
        refine zr_iconst (pc := 595) dL_law_595 ?_
        refine zr_iadd (pc := 596) dL_law_596 ?_
        refine zr_scr (pc := 597) hL (by omega) dL_law_597 ?_
        refine zr_i2l (pc := 598) dL_law_598 ?_
        refine zr_bipush (pc := 599) dL_law_599 (by decide) ?_
        refine zr_lshl (pc := 601) dL_law_601 ?_
        refine zr_aload_n (pc := 602) dL_law_602 rfl rfl ?_
        refine zr_iload_n (pc := 603) dL_law_603 rfl rfl ?_
        refine zr_iconst (pc := 604) dL_law_604 ?_
        refine zr_iadd (pc := 605) dL_law_605 ?_
        refine zr_scr (pc := 606) hL (by omega) dL_law_606 ?_
        refine zr_i2l (pc := 607) dL_law_607 ?_
        refine zr_ldc2 (pc := 608) (z := 4294967295) rfl kL_81 (by decide +kernel) dL_law_608 ?_
        refine zr_land (pc := 611) dL_law_611 ?_
        refine zr_lor (pc := 612) dL_law_612 ?_
        refine zr_inv2I (pc := 613) rfl sL_87 lo_46 rfl rfl rfl dL_law_613 ?_
        refine ct_X11_judge (RM_frX hM hW hf2) hW (hz _) (zor_rng _ _) (fun M3 hf3 hM3 => ?_)
        refine zr_icmp_eq (pc := 616) (tgt := 997) dL_law_616 (by decide) (fun h616 => ?_) (fun h616 => absurd rfl h616)
        refine zr_iinc (pc := 997) dL_law_997 rfl (Nat.le_of_ble_eq_true rfl) rfl ?_
        refine zr_goto (pc := 1000) (tgt := 18) dL_law_1000 (by decide) ?_
        exact ih _ (by omega) _ _ _ rfl (by omega) (by omega) hW (RX_frM hX2 hf3) hM3
      · refine zr_tab_in (pc := 32) (tgt := 621) dL_law_32 (by rw [hsw32]; decide) (by rw [hsw32]; decide) (off := 589) (by rw [hsw32]; decide +kernel) (by decide) ?_
        refine zr_aload_n (pc := 621) dL_law_621 rfl rfl ?_
        refine zr_aload_n (pc := 622) dL_law_622 rfl rfl ?_
        refine zr_iload_n (pc := 623) dL_law_623 rfl rfl ?_
        refine zr_iconst (pc := 624) dL_law_624 ?_
        refine zr_iadd (pc := 625) dL_law_625 ?_
        refine zr_scr (pc := 626) hL (by omega) dL_law_626 ?_
        refine zr_aload_n (pc := 627) dL_law_627 rfl rfl ?_
        refine zr_iload_n (pc := 628) dL_law_628 rfl rfl ?_
        refine zr_iconst (pc := 629) dL_law_629 ?_
        refine zr_iadd (pc := 630) dL_law_630 ?_
        refine zr_scr (pc := 631) hL (by omega) dL_law_631 ?_
        refine zr_inv2I (pc := 632) rfl sL_88 lo_0 rfl rfl rfl dL_law_632 ?_
        refine ct_X10_knew hX hW (hz _) (hz _) (fun M2 hf2 hX2 => ?_)
        refine zr_aload_n (pc := 635) dL_law_635 rfl rfl ?_
        refine zr_aload_n (pc := 636) dL_law_636 rfl rfl ?_
        refine zr_iload_n (pc := 637) dL_law_637 rfl rfl ?_
        refine zr_iconst (pc := 638) dL_law_638 ?_
        refine zr_iadd (pc := 639) dL_law_639 ?_
        refine zr_scr (pc := 640) hL (by omega) dL_law_640 ?_
        refine zr_aload_n (pc := 641) dL_law_641 rfl rfl ?_
        refine zr_iload_n (pc := 642) dL_law_642 rfl rfl ?_
        refine zr_iconst (pc := 643) dL_law_643 ?_
        refine zr_iadd (pc := 644) dL_law_644 ?_
        refine zr_scr (pc := 645) hL (by omega) dL_law_645 ?_
        refine zr_inv2I (pc := 646) rfl sL_91 lo_46 rfl rfl rfl dL_law_646 ?_
        refine ct_X11_knew (RM_frX hM hW hf2) hW (hz _) (hz _) (fun M3 hf3 hM3 => ?_)
        refine zr_icmp_eq (pc := 649) (tgt := 997) dL_law_649 (by decide) (fun h649 => ?_) (fun h649 => absurd rfl h649)
        refine zr_iinc (pc := 997) dL_law_997 rfl (Nat.le_of_ble_eq_true rfl) rfl ?_
        refine zr_goto (pc := 1000) (tgt := 18) dL_law_1000 (by decide) ?_
        exact ih _ (by omega) _ _ _ rfl (by omega) (by omega) (SW_knew hW) (RX_frM hX2 hf3) hM3
      · refine zr_tab_in (pc := 32) (tgt := 654) dL_law_32 (by rw [hsw32]; decide) (by rw [hsw32]; decide) (off := 622) (by rw [hsw32]; decide +kernel) (by decide) ?_
        refine zr_aload_n (pc := 654) dL_law_654 rfl rfl ?_
        refine zr_inv0I (pc := 655) rfl sL_92 lo_0 rfl rfl rfl dL_law_655 ?_
        refine ct_X10_unknew hX hW  (fun M2 hf2 hX2 => ?_)
        refine zr_aload_n (pc := 658) dL_law_658 rfl rfl ?_
        refine zr_inv0I (pc := 659) rfl sL_95 lo_46 rfl rfl rfl dL_law_659 ?_
        refine ct_X11_unknew (RM_frX hM hW hf2) hW  (fun M3 hf3 hM3 => ?_)
        refine zr_icmp_eq (pc := 662) (tgt := 997) dL_law_662 (by decide) (fun h662 => ?_) (fun h662 => absurd rfl h662)
        refine zr_iinc (pc := 997) dL_law_997 rfl (Nat.le_of_ble_eq_true rfl) rfl ?_
        refine zr_goto (pc := 1000) (tgt := 18) dL_law_1000 (by decide) ?_
        exact ih _ (by omega) _ _ _ rfl (by omega) (by omega) (SW_unknew hW) (RX_frM hX2 hf3) hM3
      · refine zr_tab_in (pc := 32) (tgt := 667) dL_law_32 (by rw [hsw32]; decide) (by rw [hsw32]; decide) (off := 635) (by rw [hsw32]; decide +kernel) (by decide) ?_
        refine zr_aload_n (pc := 667) dL_law_667 rfl rfl ?_
        refine zr_aload_n (pc := 668) dL_law_668 rfl rfl ?_
        refine zr_iload_n (pc := 669) dL_law_669 rfl rfl ?_
        refine zr_iconst (pc := 670) dL_law_670 ?_
        refine zr_iadd (pc := 671) dL_law_671 ?_
        refine zr_scr (pc := 672) hL (by omega) dL_law_672 ?_
        refine zr_inv1I (pc := 673) rfl sL_96 lo_0 rfl rfl rfl dL_law_673 ?_
        refine ct_X10_lay hX hW (hz _) (fun M2 hf2 hX2 => ?_)
        refine zr_aload_n (pc := 676) dL_law_676 rfl rfl ?_
        refine zr_aload_n (pc := 677) dL_law_677 rfl rfl ?_
        refine zr_iload_n (pc := 678) dL_law_678 rfl rfl ?_
        refine zr_iconst (pc := 679) dL_law_679 ?_
        refine zr_iadd (pc := 680) dL_law_680 ?_
        refine zr_scr (pc := 681) hL (by omega) dL_law_681 ?_
        refine zr_inv1I (pc := 682) rfl sL_99 lo_46 rfl rfl rfl dL_law_682 ?_
        refine ct_X11_lay (RM_frX hM hW hf2) hW (hz _) (fun M3 hf3 hM3 => ?_)
        refine zr_icmp_eq (pc := 685) (tgt := 997) dL_law_685 (by decide) (fun h685 => ?_) (fun h685 => absurd rfl h685)
        refine zr_iinc (pc := 997) dL_law_997 rfl (Nat.le_of_ble_eq_true rfl) rfl ?_
        refine zr_goto (pc := 1000) (tgt := 18) dL_law_1000 (by decide) ?_
        exact ih _ (by omega) _ _ _ rfl (by omega) (by omega) hW (RX_frM hX2 hf3) hM3
      · refine zr_tab_in (pc := 32) (tgt := 690) dL_law_32 (by rw [hsw32]; decide) (by rw [hsw32]; decide) (off := 658) (by rw [hsw32]; decide +kernel) (by decide) ?_
        refine zr_aload_n (pc := 690) dL_law_690 rfl rfl ?_
        refine zr_aload_n (pc := 691) dL_law_691 rfl rfl ?_
        refine zr_iload_n (pc := 692) dL_law_692 rfl rfl ?_
        refine zr_iconst (pc := 693) dL_law_693 ?_
        refine zr_iadd (pc := 694) dL_law_694 ?_
        refine zr_scr (pc := 695) hL (by omega) dL_law_695 ?_
        refine zr_aload_n (pc := 696) dL_law_696 rfl rfl ?_
        refine zr_iload_n (pc := 697) dL_law_697 rfl rfl ?_
        refine zr_iconst (pc := 698) dL_law_698 ?_
        refine zr_iadd (pc := 699) dL_law_699 ?_
        refine zr_scr (pc := 700) hL (by omega) dL_law_700 ?_
        refine zi_if_eq (pc := 701) (tgt := 708) dL_law_701 (by decide) (hz _) (fun h701 => ?_) (fun h701 => ?_)
        · refine zr_iconst (pc := 708) dL_law_708 ?_
          refine zr_inv2I (pc := 709) rfl sL_100 lo_0 rfl rfl rfl dL_law_709 ?_
          refine ct_X10_share hX hW (hz _) (by decide) (fun M2 hf2 hX2 => ?_)
          refine zr_aload_n (pc := 712) dL_law_712 rfl rfl ?_
          refine zr_aload_n (pc := 713) dL_law_713 rfl rfl ?_
          refine zr_iload_n (pc := 714) dL_law_714 rfl rfl ?_
          refine zr_iconst (pc := 715) dL_law_715 ?_
          refine zr_iadd (pc := 716) dL_law_716 ?_
          refine zr_scr (pc := 717) hL (by omega) dL_law_717 ?_
          refine zr_aload_n (pc := 718) dL_law_718 rfl rfl ?_
          refine zr_iload_n (pc := 719) dL_law_719 rfl rfl ?_
          refine zr_iconst (pc := 720) dL_law_720 ?_
          refine zr_iadd (pc := 721) dL_law_721 ?_
          refine zr_scr (pc := 722) hL (by omega) dL_law_722 ?_
          refine zi_if_eq (pc := 723) (tgt := 730) dL_law_723 (by decide) (hz _) (fun h723 => ?_) (fun h723 => absurd h701 h723)
          refine zr_iconst (pc := 730) dL_law_730 ?_
          refine zr_inv2I (pc := 731) rfl sL_104 lo_46 rfl rfl rfl dL_law_731 ?_
          refine ct_X11_share (RM_frX hM hW hf2) hW (hz _) (by decide) (fun M3 hf3 hM3 => ?_)
          refine zr_icmp_eq (pc := 734) (tgt := 997) dL_law_734 (by decide) (fun h734 => ?_) (fun h734 => absurd rfl h734)
          refine zr_iinc (pc := 997) dL_law_997 rfl (Nat.le_of_ble_eq_true rfl) rfl ?_
          refine zr_goto (pc := 1000) (tgt := 18) dL_law_1000 (by decide) ?_
          exact ih _ (by omega) _ _ _ rfl (by omega) (by omega) hW (RX_frM hX2 hf3) hM3
        · refine zr_iconst (pc := 704) dL_law_704 ?_
          refine zr_goto (pc := 705) (tgt := 709) dL_law_705 (by decide) ?_
          refine zr_inv2I (pc := 709) rfl sL_100 lo_0 rfl rfl rfl dL_law_709 ?_
          refine ct_X10_share hX hW (hz _) (by decide) (fun M2 hf2 hX2 => ?_)
          refine zr_aload_n (pc := 712) dL_law_712 rfl rfl ?_
          refine zr_aload_n (pc := 713) dL_law_713 rfl rfl ?_
          refine zr_iload_n (pc := 714) dL_law_714 rfl rfl ?_
          refine zr_iconst (pc := 715) dL_law_715 ?_
          refine zr_iadd (pc := 716) dL_law_716 ?_
          refine zr_scr (pc := 717) hL (by omega) dL_law_717 ?_
          refine zr_aload_n (pc := 718) dL_law_718 rfl rfl ?_
          refine zr_iload_n (pc := 719) dL_law_719 rfl rfl ?_
          refine zr_iconst (pc := 720) dL_law_720 ?_
          refine zr_iadd (pc := 721) dL_law_721 ?_
          refine zr_scr (pc := 722) hL (by omega) dL_law_722 ?_
          refine zi_if_eq (pc := 723) (tgt := 730) dL_law_723 (by decide) (hz _) (fun h723 => absurd h723 h701) (fun h723 => ?_)
          refine zr_iconst (pc := 726) dL_law_726 ?_
          refine zr_goto (pc := 727) (tgt := 731) dL_law_727 (by decide) ?_
          refine zr_inv2I (pc := 731) rfl sL_104 lo_46 rfl rfl rfl dL_law_731 ?_
          refine ct_X11_share (RM_frX hM hW hf2) hW (hz _) (by decide) (fun M3 hf3 hM3 => ?_)
          refine zr_icmp_eq (pc := 734) (tgt := 997) dL_law_734 (by decide) (fun h734 => ?_) (fun h734 => absurd rfl h734)
          refine zr_iinc (pc := 997) dL_law_997 rfl (Nat.le_of_ble_eq_true rfl) rfl ?_
          refine zr_goto (pc := 1000) (tgt := 18) dL_law_1000 (by decide) ?_
          exact ih _ (by omega) _ _ _ rfl (by omega) (by omega) hW (RX_frM hX2 hf3) hM3
      · refine zr_tab_in (pc := 32) (tgt := 739) dL_law_32 (by rw [hsw32]; decide) (by rw [hsw32]; decide) (off := 707) (by rw [hsw32]; decide +kernel) (by decide) ?_
        refine zr_aload_n (pc := 739) dL_law_739 rfl rfl ?_
        refine zr_aload_n (pc := 740) dL_law_740 rfl rfl ?_
        refine zr_iload_n (pc := 741) dL_law_741 rfl rfl ?_
        refine zr_iconst (pc := 742) dL_law_742 ?_
        refine zr_iadd (pc := 743) dL_law_743 ?_
        refine zr_scr (pc := 744) hL (by omega) dL_law_744 ?_
        refine zr_aload_n (pc := 745) dL_law_745 rfl rfl ?_
        refine zr_iload_n (pc := 746) dL_law_746 rfl rfl ?_
        refine zr_iconst (pc := 747) dL_law_747 ?_
        refine zr_iadd (pc := 748) dL_law_748 ?_
        refine zr_scr (pc := 749) hL (by omega) dL_law_749 ?_
        refine zr_aload_n (pc := 750) dL_law_750 rfl rfl ?_
        refine zr_iload_n (pc := 751) dL_law_751 rfl rfl ?_
        refine zr_iconst (pc := 752) dL_law_752 ?_
        refine zr_iadd (pc := 753) dL_law_753 ?_
        refine zr_scr (pc := 754) hL (by omega) dL_law_754 ?_
        refine zr_inv3I (pc := 755) rfl sL_105 lo_0 rfl rfl rfl dL_law_755 ?_
        refine ct_X10_rests hX hW (hz _) (hz _) (hz _) (fun M2 hf2 hX2 => ?_)
        refine zr_aload_n (pc := 758) dL_law_758 rfl rfl ?_
        refine zr_aload_n (pc := 759) dL_law_759 rfl rfl ?_
        refine zr_iload_n (pc := 760) dL_law_760 rfl rfl ?_
        refine zr_iconst (pc := 761) dL_law_761 ?_
        refine zr_iadd (pc := 762) dL_law_762 ?_
        refine zr_scr (pc := 763) hL (by omega) dL_law_763 ?_
        refine zr_aload_n (pc := 764) dL_law_764 rfl rfl ?_
        refine zr_iload_n (pc := 765) dL_law_765 rfl rfl ?_
        refine zr_iconst (pc := 766) dL_law_766 ?_
        refine zr_iadd (pc := 767) dL_law_767 ?_
        refine zr_scr (pc := 768) hL (by omega) dL_law_768 ?_
        refine zr_aload_n (pc := 769) dL_law_769 rfl rfl ?_
        refine zr_iload_n (pc := 770) dL_law_770 rfl rfl ?_
        refine zr_iconst (pc := 771) dL_law_771 ?_
        refine zr_iadd (pc := 772) dL_law_772 ?_
        refine zr_scr (pc := 773) hL (by omega) dL_law_773 ?_
        refine zr_inv3I (pc := 774) rfl sL_108 lo_46 rfl rfl rfl dL_law_774 ?_
        refine ct_X11_rests (RM_frX hM hW hf2) hW (hz _) (hz _) (hz _) (fun M3 hf3 hM3 => ?_)
        refine zr_icmp_eq (pc := 777) (tgt := 997) dL_law_777 (by decide) (fun h777 => ?_) (fun h777 => absurd rfl h777)
        refine zr_iinc (pc := 997) dL_law_997 rfl (Nat.le_of_ble_eq_true rfl) rfl ?_
        refine zr_goto (pc := 1000) (tgt := 18) dL_law_1000 (by decide) ?_
        exact ih _ (by omega) _ _ _ rfl (by omega) (by omega) hW (RX_frM hX2 hf3) hM3
      · refine zr_tab_in (pc := 32) (tgt := 782) dL_law_32 (by rw [hsw32]; decide) (by rw [hsw32]; decide) (off := 750) (by rw [hsw32]; decide +kernel) (by decide) ?_
        refine zr_aload_n (pc := 782) dL_law_782 rfl rfl ?_
        refine zr_aload_n (pc := 783) dL_law_783 rfl rfl ?_
        refine zr_iload_n (pc := 784) dL_law_784 rfl rfl ?_
        refine zr_iconst (pc := 785) dL_law_785 ?_
        refine zr_iadd (pc := 786) dL_law_786 ?_
        refine zr_scr (pc := 787) hL (by omega) dL_law_787 ?_
        refine zr_aload_n (pc := 788) dL_law_788 rfl rfl ?_
        refine zr_iload_n (pc := 789) dL_law_789 rfl rfl ?_
        refine zr_iconst (pc := 790) dL_law_790 ?_
        refine zr_iadd (pc := 791) dL_law_791 ?_
        refine zr_scr (pc := 792) hL (by omega) dL_law_792 ?_
        refine zr_aload_n (pc := 793) dL_law_793 rfl rfl ?_
        refine zr_iload_n (pc := 794) dL_law_794 rfl rfl ?_
        refine zr_iconst (pc := 795) dL_law_795 ?_
        refine zr_iadd (pc := 796) dL_law_796 ?_
        refine zr_scr (pc := 797) hL (by omega) dL_law_797 ?_
        refine zr_aload_n (pc := 798) dL_law_798 rfl rfl ?_
        refine zr_iload_n (pc := 799) dL_law_799 rfl rfl ?_
        refine zr_iconst (pc := 800) dL_law_800 ?_
        refine zr_iadd (pc := 801) dL_law_801 ?_
        refine zr_scr (pc := 802) hL (by omega) dL_law_802 ?_
        refine zi_if_eq (pc := 803) (tgt := 810) dL_law_803 (by decide) (hz _) (fun h803 => ?_) (fun h803 => ?_)
        · refine zr_iconst (pc := 810) dL_law_810 ?_
          refine zr_inv4I (pc := 811) rfl sL_109 lo_0 rfl rfl rfl dL_law_811 ?_
          refine ct_X10_cold hX hW (hz _) (hz _) (hz _) (by decide) (fun M2 hf2 hX2 => ?_)
          refine zr_aload_n (pc := 814) dL_law_814 rfl rfl ?_
          refine zr_aload_n (pc := 815) dL_law_815 rfl rfl ?_
          refine zr_iload_n (pc := 816) dL_law_816 rfl rfl ?_
          refine zr_iconst (pc := 817) dL_law_817 ?_
          refine zr_iadd (pc := 818) dL_law_818 ?_
          refine zr_scr (pc := 819) hL (by omega) dL_law_819 ?_
          refine zr_aload_n (pc := 820) dL_law_820 rfl rfl ?_
          refine zr_iload_n (pc := 821) dL_law_821 rfl rfl ?_
          refine zr_iconst (pc := 822) dL_law_822 ?_
          refine zr_iadd (pc := 823) dL_law_823 ?_
          refine zr_scr (pc := 824) hL (by omega) dL_law_824 ?_
          refine zr_aload_n (pc := 825) dL_law_825 rfl rfl ?_
          refine zr_iload_n (pc := 826) dL_law_826 rfl rfl ?_
          refine zr_iconst (pc := 827) dL_law_827 ?_
          refine zr_iadd (pc := 828) dL_law_828 ?_
          refine zr_scr (pc := 829) hL (by omega) dL_law_829 ?_
          refine zr_aload_n (pc := 830) dL_law_830 rfl rfl ?_
          refine zr_iload_n (pc := 831) dL_law_831 rfl rfl ?_
          refine zr_iconst (pc := 832) dL_law_832 ?_
          refine zr_iadd (pc := 833) dL_law_833 ?_
          refine zr_scr (pc := 834) hL (by omega) dL_law_834 ?_
          refine zi_if_eq (pc := 835) (tgt := 842) dL_law_835 (by decide) (hz _) (fun h835 => ?_) (fun h835 => absurd h803 h835)
          refine zr_iconst (pc := 842) dL_law_842 ?_
          refine zr_inv4I (pc := 843) rfl sL_113 lo_46 rfl rfl rfl dL_law_843 ?_
          refine ct_X11_cold (RM_frX hM hW hf2) hW (hz _) (hz _) (hz _) (by decide) (fun M3 hf3 hM3 => ?_)
          refine zr_icmp_eq (pc := 846) (tgt := 997) dL_law_846 (by decide) (fun h846 => ?_) (fun h846 => absurd rfl h846)
          refine zr_iinc (pc := 997) dL_law_997 rfl (Nat.le_of_ble_eq_true rfl) rfl ?_
          refine zr_goto (pc := 1000) (tgt := 18) dL_law_1000 (by decide) ?_
          exact ih _ (by omega) _ _ _ rfl (by omega) (by omega) hW (RX_frM hX2 hf3) hM3
        · refine zr_iconst (pc := 806) dL_law_806 ?_
          refine zr_goto (pc := 807) (tgt := 811) dL_law_807 (by decide) ?_
          refine zr_inv4I (pc := 811) rfl sL_109 lo_0 rfl rfl rfl dL_law_811 ?_
          refine ct_X10_cold hX hW (hz _) (hz _) (hz _) (by decide) (fun M2 hf2 hX2 => ?_)
          refine zr_aload_n (pc := 814) dL_law_814 rfl rfl ?_
          refine zr_aload_n (pc := 815) dL_law_815 rfl rfl ?_
          refine zr_iload_n (pc := 816) dL_law_816 rfl rfl ?_
          refine zr_iconst (pc := 817) dL_law_817 ?_
          refine zr_iadd (pc := 818) dL_law_818 ?_
          refine zr_scr (pc := 819) hL (by omega) dL_law_819 ?_
          refine zr_aload_n (pc := 820) dL_law_820 rfl rfl ?_
          refine zr_iload_n (pc := 821) dL_law_821 rfl rfl ?_
          refine zr_iconst (pc := 822) dL_law_822 ?_
          refine zr_iadd (pc := 823) dL_law_823 ?_
          refine zr_scr (pc := 824) hL (by omega) dL_law_824 ?_
          refine zr_aload_n (pc := 825) dL_law_825 rfl rfl ?_
          refine zr_iload_n (pc := 826) dL_law_826 rfl rfl ?_
          refine zr_iconst (pc := 827) dL_law_827 ?_
          refine zr_iadd (pc := 828) dL_law_828 ?_
          refine zr_scr (pc := 829) hL (by omega) dL_law_829 ?_
          refine zr_aload_n (pc := 830) dL_law_830 rfl rfl ?_
          refine zr_iload_n (pc := 831) dL_law_831 rfl rfl ?_
          refine zr_iconst (pc := 832) dL_law_832 ?_
          refine zr_iadd (pc := 833) dL_law_833 ?_
          refine zr_scr (pc := 834) hL (by omega) dL_law_834 ?_
          refine zi_if_eq (pc := 835) (tgt := 842) dL_law_835 (by decide) (hz _) (fun h835 => absurd h835 h803) (fun h835 => ?_)
          refine zr_iconst (pc := 838) dL_law_838 ?_
          refine zr_goto (pc := 839) (tgt := 843) dL_law_839 (by decide) ?_
          refine zr_inv4I (pc := 843) rfl sL_113 lo_46 rfl rfl rfl dL_law_843 ?_
          refine ct_X11_cold (RM_frX hM hW hf2) hW (hz _) (hz _) (hz _) (by decide) (fun M3 hf3 hM3 => ?_)
          refine zr_icmp_eq (pc := 846) (tgt := 997) dL_law_846 (by decide) (fun h846 => ?_) (fun h846 => absurd rfl h846)
          refine zr_iinc (pc := 997) dL_law_997 rfl (Nat.le_of_ble_eq_true rfl) rfl ?_
          refine zr_goto (pc := 1000) (tgt := 18) dL_law_1000 (by decide) ?_
          exact ih _ (by omega) _ _ _ rfl (by omega) (by omega) hW (RX_frM hX2 hf3) hM3
      · refine zr_tab_in (pc := 32) (tgt := 851) dL_law_32 (by rw [hsw32]; decide) (by rw [hsw32]; decide) (off := 819) (by rw [hsw32]; decide +kernel) (by decide) ?_
        refine zr_aload_n (pc := 851) dL_law_851 rfl rfl ?_
        refine zr_aload_n (pc := 852) dL_law_852 rfl rfl ?_
        refine zr_iload_n (pc := 853) dL_law_853 rfl rfl ?_
        refine zr_iconst (pc := 854) dL_law_854 ?_
        refine zr_iadd (pc := 855) dL_law_855 ?_
        refine zr_scr (pc := 856) hL (by omega) dL_law_856 ?_
        refine zr_i2l (pc := 857) dL_law_857 ?_
        refine zr_bipush (pc := 858) dL_law_858 (by decide) ?_
        refine zr_lshl (pc := 860) dL_law_860 ?_
        refine zr_aload_n (pc := 861) dL_law_861 rfl rfl ?_
        refine zr_iload_n (pc := 862) dL_law_862 rfl rfl ?_
        refine zr_iconst (pc := 863) dL_law_863 ?_
        refine zr_iadd (pc := 864) dL_law_864 ?_
        refine zr_scr (pc := 865) hL (by omega) dL_law_865 ?_
        refine zr_i2l (pc := 866) dL_law_866 ?_
        refine zr_ldc2 (pc := 867) (z := 4294967295) rfl kL_81 (by decide +kernel) dL_law_867 ?_
        refine zr_land (pc := 870) dL_law_870 ?_
        refine zr_lor (pc := 871) dL_law_871 ?_
        refine zr_inv1L (pc := 872) rfl sL_114 lo_0 rfl rfl rfl dL_law_872 ?_
        refine ct_X10_seed hX (fun r1 M2 hf2 hX2 e1 => ?_)
        refine zr_aload_n (pc := 875) dL_law_875 rfl rfl ?_
        refine zr_aload_n (pc := 876) dL_law_876 rfl rfl ?_
        refine zr_iload_n (pc := 877) dL_law_877 rfl rfl ?_
        refine zr_iconst (pc := 878) dL_law_878 ?_
        refine zr_iadd (pc := 879) dL_law_879 ?_
        refine zr_scr (pc := 880) hL (by omega) dL_law_880 ?_
        refine zr_i2l (pc := 881) dL_law_881 ?_
        refine zr_bipush (pc := 882) dL_law_882 (by decide) ?_
        refine zr_lshl (pc := 884) dL_law_884 ?_
        refine zr_aload_n (pc := 885) dL_law_885 rfl rfl ?_
        refine zr_iload_n (pc := 886) dL_law_886 rfl rfl ?_
        refine zr_iconst (pc := 887) dL_law_887 ?_
        refine zr_iadd (pc := 888) dL_law_888 ?_
        refine zr_scr (pc := 889) hL (by omega) dL_law_889 ?_
        refine zr_i2l (pc := 890) dL_law_890 ?_
        refine zr_ldc2 (pc := 891) (z := 4294967295) rfl kL_81 (by decide +kernel) dL_law_891 ?_
        refine zr_land (pc := 894) dL_law_894 ?_
        refine zr_lor (pc := 895) dL_law_895 ?_
        refine zr_inv1L (pc := 896) rfl sL_118 lo_46 rfl rfl rfl dL_law_896 ?_
        refine ct_X11_seed (RM_frX hM hW hf2) hW (fun r2 M3 hf3 hM3 e2 => ?_)
        have hlc : zl_cmp r1 r2 = 0 := by
          unfold zl_cmp
          rw [e1, e2, if_neg (by omega), if_pos rfl]
        refine zr_lcmp (pc := 899) dL_law_899 ?_
        rw [hlc]
        refine zi_if_eq (pc := 900) (tgt := 997) dL_law_900 (by decide) (by decide) (fun h900 => ?_) (fun h900 => absurd rfl h900)
        refine zr_iinc (pc := 997) dL_law_997 rfl (Nat.le_of_ble_eq_true rfl) rfl ?_
        refine zr_goto (pc := 1000) (tgt := 18) dL_law_1000 (by decide) ?_
        exact ih _ (by omega) _ _ _ rfl (by omega) (by omega) (SW_seed hW) (RX_frM hX2 hf3) hM3
      · refine zr_tab_in (pc := 32) (tgt := 905) dL_law_32 (by rw [hsw32]; decide) (by rw [hsw32]; decide) (off := 873) (by rw [hsw32]; decide +kernel) (by decide) ?_
        refine zr_aload_n (pc := 905) dL_law_905 rfl rfl ?_
        refine zr_aload_n (pc := 906) dL_law_906 rfl rfl ?_
        refine zr_iload_n (pc := 907) dL_law_907 rfl rfl ?_
        refine zr_iconst (pc := 908) dL_law_908 ?_
        refine zr_iadd (pc := 909) dL_law_909 ?_
        refine zr_scr (pc := 910) hL (by omega) dL_law_910 ?_
        refine zr_inv1I (pc := 911) rfl sL_119 lo_0 rfl rfl rfl dL_law_911 ?_
        refine ct_X10_years hX hW (hz _) (fun M2 hf2 hX2 => ?_)
        refine zr_aload_n (pc := 914) dL_law_914 rfl rfl ?_
        refine zr_aload_n (pc := 915) dL_law_915 rfl rfl ?_
        refine zr_iload_n (pc := 916) dL_law_916 rfl rfl ?_
        refine zr_iconst (pc := 917) dL_law_917 ?_
        refine zr_iadd (pc := 918) dL_law_918 ?_
        refine zr_scr (pc := 919) hL (by omega) dL_law_919 ?_
        refine zr_inv1I (pc := 920) rfl sL_122 lo_46 rfl rfl rfl dL_law_920 ?_
        refine ct_X11_years (RM_frX hM hW hf2) hW (hz _) (fun M3 hf3 hM3 => ?_)
        refine zr_icmp_eq (pc := 923) (tgt := 997) dL_law_923 (by decide) (fun h923 => ?_) (fun h923 => absurd rfl h923)
        refine zr_iinc (pc := 997) dL_law_997 rfl (Nat.le_of_ble_eq_true rfl) rfl ?_
        refine zr_goto (pc := 1000) (tgt := 18) dL_law_1000 (by decide) ?_
        exact ih _ (by omega) _ _ _ rfl (by omega) (by omega) (SW_years hW) (RX_frM hX2 hf3) hM3
      · refine zr_tab_in (pc := 32) (tgt := 928) dL_law_32 (by rw [hsw32]; decide) (by rw [hsw32]; decide) (off := 896) (by rw [hsw32]; decide +kernel) (by decide) ?_
        refine zr_aload_n (pc := 928) dL_law_928 rfl rfl ?_
        refine zr_aload_n (pc := 929) dL_law_929 rfl rfl ?_
        refine zr_iload_n (pc := 930) dL_law_930 rfl rfl ?_
        refine zr_iconst (pc := 931) dL_law_931 ?_
        refine zr_iadd (pc := 932) dL_law_932 ?_
        refine zr_scr (pc := 933) hL (by omega) dL_law_933 ?_
        refine zr_inv1I (pc := 934) rfl sL_123 lo_0 rfl rfl rfl dL_law_934 ?_
        refine ct_X10_keep hX hW (hz _) (fun M2 hf2 hX2 => ?_)
        refine zr_aload_n (pc := 937) dL_law_937 rfl rfl ?_
        refine zr_aload_n (pc := 938) dL_law_938 rfl rfl ?_
        refine zr_iload_n (pc := 939) dL_law_939 rfl rfl ?_
        refine zr_iconst (pc := 940) dL_law_940 ?_
        refine zr_iadd (pc := 941) dL_law_941 ?_
        refine zr_scr (pc := 942) hL (by omega) dL_law_942 ?_
        refine zr_inv1I (pc := 943) rfl sL_126 lo_46 rfl rfl rfl dL_law_943 ?_
        refine ct_X11_keep (RM_frX hM hW hf2) hW (hz _) (fun M3 hf3 hM3 => ?_)
        refine zr_icmp_eq (pc := 946) (tgt := 997) dL_law_946 (by decide) (fun h946 => ?_) (fun h946 => absurd rfl h946)
        refine zr_iinc (pc := 997) dL_law_997 rfl (Nat.le_of_ble_eq_true rfl) rfl ?_
        refine zr_goto (pc := 1000) (tgt := 18) dL_law_1000 (by decide) ?_
        exact ih _ (by omega) _ _ _ rfl (by omega) (by omega) (SW_keep hW) (RX_frM hX2 hf3) hM3
      · refine zr_tab_in (pc := 32) (tgt := 951) dL_law_32 (by rw [hsw32]; decide) (by rw [hsw32]; decide) (off := 919) (by rw [hsw32]; decide +kernel) (by decide) ?_
        refine zr_aload_n (pc := 951) dL_law_951 rfl rfl ?_
        refine zr_aload_n (pc := 952) dL_law_952 rfl rfl ?_
        refine zr_iload_n (pc := 953) dL_law_953 rfl rfl ?_
        refine zr_iconst (pc := 954) dL_law_954 ?_
        refine zr_iadd (pc := 955) dL_law_955 ?_
        refine zr_scr (pc := 956) hL (by omega) dL_law_956 ?_
        refine zr_inv1I (pc := 957) rfl sL_127 lo_0 rfl rfl rfl dL_law_957 ?_
        refine ct_X10_again hX hW (hz _) (fun M2 hf2 hX2 => ?_)
        refine zr_aload_n (pc := 960) dL_law_960 rfl rfl ?_
        refine zr_aload_n (pc := 961) dL_law_961 rfl rfl ?_
        refine zr_iload_n (pc := 962) dL_law_962 rfl rfl ?_
        refine zr_iconst (pc := 963) dL_law_963 ?_
        refine zr_iadd (pc := 964) dL_law_964 ?_
        refine zr_scr (pc := 965) hL (by omega) dL_law_965 ?_
        refine zr_inv1I (pc := 966) rfl sL_130 lo_46 rfl rfl rfl dL_law_966 ?_
        refine ct_X11_again (RM_frX hM hW hf2) hW (hz _) (fun M3 hf3 hM3 => ?_)
        refine zr_icmp_eq (pc := 969) (tgt := 997) dL_law_969 (by decide) (fun h969 => ?_) (fun h969 => absurd rfl h969)
        refine zr_iinc (pc := 997) dL_law_997 rfl (Nat.le_of_ble_eq_true rfl) rfl ?_
        refine zr_goto (pc := 1000) (tgt := 18) dL_law_1000 (by decide) ?_
        exact ih _ (by omega) _ _ _ rfl (by omega) (by omega) (SW_again hW) (RX_frM hX2 hf3) hM3
      · refine zr_tab_in (pc := 32) (tgt := 974) dL_law_32 (by rw [hsw32]; decide) (by rw [hsw32]; decide) (off := 942) (by rw [hsw32]; decide +kernel) (by decide) ?_
        refine zr_aload_n (pc := 974) dL_law_974 rfl rfl ?_
        refine zr_aload_n (pc := 975) dL_law_975 rfl rfl ?_
        refine zr_iload_n (pc := 976) dL_law_976 rfl rfl ?_
        refine zr_iconst (pc := 977) dL_law_977 ?_
        refine zr_iadd (pc := 978) dL_law_978 ?_
        refine zr_scr (pc := 979) hL (by omega) dL_law_979 ?_
        refine zr_inv1I (pc := 980) rfl sL_131 lo_0 rfl rfl rfl dL_law_980 ?_
        refine ct_X10_count hX hW (hz _) (fun M2 hf2 hX2 => ?_)
        refine zr_aload_n (pc := 983) dL_law_983 rfl rfl ?_
        refine zr_aload_n (pc := 984) dL_law_984 rfl rfl ?_
        refine zr_iload_n (pc := 985) dL_law_985 rfl rfl ?_
        refine zr_iconst (pc := 986) dL_law_986 ?_
        refine zr_iadd (pc := 987) dL_law_987 ?_
        refine zr_scr (pc := 988) hL (by omega) dL_law_988 ?_
        refine zr_inv1I (pc := 989) rfl sL_134 lo_46 rfl rfl rfl dL_law_989 ?_
        refine ct_X11_count (RM_frX hM hW hf2) hW (hz _) (fun M3 hf3 hM3 => ?_)
        refine zr_icmp_eq (pc := 992) (tgt := 997) dL_law_992 (by decide) (fun h992 => ?_) (fun h992 => absurd rfl h992)
        refine zr_iinc (pc := 997) dL_law_997 rfl (Nat.le_of_ble_eq_true rfl) rfl ?_
        refine zr_goto (pc := 1000) (tgt := 18) dL_law_1000 (by decide) ?_
        exact ih _ (by omega) _ _ _ rfl (by omega) (by omega) hW (RX_frM hX2 hf3) hM3
      · refine zr_tab_out (pc := 32) (tgt := 997) dL_law_32 (by rw [zw_id (by omega) (by omega)]; exact hsw32) (by decide) ?_
        refine zr_iinc (pc := 997) dL_law_997 rfl (Nat.le_of_ble_eq_true rfl) rfl ?_
        refine zr_goto (pc := 1000) (tgt := 18) dL_law_1000 (by decide) ?_
        exact ih _ (by omega) _ _ _ rfl (by omega) (by omega) hW hX hM

