def cnt7 (c : Nat) : Nat → Nat
  | 0 => 0
  | n + 1 => cnt7 c n + (if (n ≤ c + 3 ∧ c ≤ n + 3) then 1 else 0)
theorem cnt7_ok : ∀ c : Nat, c ≤ 9 → cnt7 c 10 ≤ 7 := by decide
theorem sc_near {L : Ln} {t : Int} {x y : Wy} {p : Int} (h : CW x.1) (e : scP L t x p = some y) : p ≤ cp x.1 t + 3 ∧ cp x.1 t ≤ p + 3 := by
  have h1 := h.2.2 t
  unfold scP at e
  split at e
  · omega
  · split at e
    · rename_i hm
      have h2 := hm.2.2.2.2.2
      split at h2 <;> omega
    · cases e
theorem sc_len7 {L : Ln} {t : Int} {x : Wy} (h : CW x.1) : ∀ n : Nat, (scN L t x n).length ≤ cnt7 (cp x.1 t).toNat n
  | 0 => Nat.le_refl _
  | n + 1 => by
    have ih := sc_len7 (L := L) (t := t) h n
    have h1 := h.2.2 t
    rw [scN_s, List.length_append]
    show _ ≤ cnt7 _ n + _
    cases e : scP L t x (n : Int) with
    | none => simp; omega
    | some y =>
      have h2 := sc_near h e
      rw [if_pos (by omega)]
      simp
      omega
theorem sc7 {L : Ln} {t : Int} {x : Wy} (h : CW x.1) : (scN L t x 10).length ≤ 7 := by
  have h1 := h.2.2 t
  exact Nat.le_trans (sc_len7 h 10) (cnt7_ok _ (by omega))
def flS (L : Ln) (t : Int) (F : List Wy) : List Wy := F.flatMap (fun x => scN L t x 10)
theorem fl7 {L : Ln} {t : Int} : ∀ F : List Wy, (∀ x ∈ F, CW x.1) → (flS L t F).length ≤ 7 * F.length
  | [], _ => Nat.le_refl _
  | x :: F, h => by
    have h1 := fl7 (L := L) (t := t) F (fun y hy => h y (List.mem_cons_of_mem _ hy))
    have h2 := sc7 (L := L) (t := t) (h x List.mem_cons_self)
    unfold flS at h1 ⊢
    rw [List.flatMap_cons, List.length_append, List.length_cons]
    omega
theorem flS_take {L : Ln} {t : Int} {F : List Wy} {i : Nat} {x : Wy} (hx : F[i]? = some x) : flS L t (F.take (i + 1)) = flS L t (F.take i) ++ scN L t x 10 := by
  have hi := (List.getElem?_eq_some_iff.mp hx).1
  have e : F.take (i + 1) = F.take i ++ [x] := by
    rw [List.take_add_one, hx]
    rfl
  unfold flS
  rw [e, List.flatMap_append]
  simp
theorem bfs_s (L : Ln) (t ly : Int) (m : Nat) (n : Int) (F : List Wy) : bfs L t ly (m + 1) n F = match (flS L t F).find? (okW t ly) with
    | some x => some (n, x.2)
    | none => bfs L t ly m (n + 1) ((flS L t F).foldl addN []) := rfl
theorem fl_CS {L : Ln} {C : Cm} {t : Int} {F : List Wy} {B : Int} (hL : LW L) (h : NW C B F) : ∀ y ∈ flS L t F, CS C y.1 ∧ 0 ≤ y.2 ∧ y.2 < 10 * B := by
  intro y hy
  unfold flS at hy
  obtain ⟨x, hx, hy2⟩ := List.mem_flatMap.mp hy
  have h1 := h x hx
  have h2 := mem_sc hL h1.1 hy2
  exact ⟨h2.1, by omega, by omega⟩
set_option maxRecDepth 100000 in
set_option maxHeartbeats 4000000 in
theorem lp_X7_finds2 {g : zt_G} {M : zm_M} {q : Int → zm_M → Prop} {L : Ln} {C : Cm} {t ly : Int} (hl : lvX M 13 = L) (hL : LW L) (hC : CW C) (ht : cHas C t) (hly : 0 ≤ ly ∧ ly < 64) {F : List Wy} {n : Int} (hn : 1 ≤ n ∧ n ≤ 4) (hF : NW C (if n = 1 then 1 else if n = 2 then 10 else if n = 3 then 100 else 1000) F) (hFl : (F.length : Int) ≤ (if n = 1 then 1 else if n = 2 then 7 else if n = 3 then 49 else 343)) (hno : bfs L t ly (5 - n).toNat n F = none → ∀ Mx, (∀ (k : Nat) (i : Int), (k < 22 ∨ (26 < k ∧ k < 34) ∨ 38 < k) → Mx k i = M k i) → q 0 Mx) (hyes : ∀ r, bfs L t ly (5 - n).toNat n F = some r → ∀ Mx, (∀ (k : Nat) (i : Int), (k < 22 ∨ (26 < k ∧ k < 34) ∨ 38 < k) → Mx k i = M k i) → Mx 34 6 = r.1 → Mx 34 7 = r.2 → q 1 Mx) (ho : (flS L t F).find? (okW t ly) = none → ∀ (x5 : Option zv_A) (Mx : zm_M), (∀ (k : Nat) (i : Int), (k < 22 ∨ (26 < k ∧ k < 34) ∨ 38 < k) → Mx k i = M k i) → Mx 34 6 = n → ct (cvX Mx 22) = ct C → ck (cvX Mx 22) = ck C → (n < 4 → rp 37 38 ((flS L t F).foldl addN []) Mx ∧ Mx 34 5 = ((flS L t F).foldl addN []).length) → (n = 4 → Mx 34 5 = 0) → zc_Z g mX7_finds 100 [some (zv_r 34), some (zv_r 22), some (zv_r 13), some (zv_i t), some (zv_i ly), x5] [] Mx (zq_I q)) : ∀ (nn : Nat) (i : Int) (Mx : zm_M), (F.length - i).toNat = nn → 0 ≤ i → i ≤ F.length → (∀ (k : Nat) (i : Int), (k < 22 ∨ (26 < k ∧ k < 34) ∨ 38 < k) → Mx k i = M k i) → Mx 34 6 = n → Mx 34 4 = F.length → rp 35 36 F Mx → ct (cvX Mx 22) = ct C → ck (cvX Mx 22) = ck C → (flS L t (F.take i.toNat)).find? (okW t ly) = none → (n < 4 → rp 37 38 ((flS L t (F.take i.toNat)).foldl addN []) Mx ∧ Mx 34 5 = ((flS L t (F.take i.toNat)).foldl addN []).length) → (n = 4 → Mx 34 5 = 0) → zc_Z g mX7_finds 69 [some (zv_r 34), some (zv_r 22), some (zv_r 13), some (zv_i t), some (zv_i ly), some (zv_i i)] [] Mx (zq_I q) := by
  intro nn
  induction nn using Nat.strongRecOn with
  | ind nn ih =>
    intro i Mx hnn h0 h1 hfr h346 h344 hrF hctx hckx hfn hrp h345
    have hlx : lvX Mx 13 = L := by rw [lvX_fr (fun k i a b => hfr k i (by omega)), hl]
    have hB7 : (if n = 1 then 1 else if n = 2 then 7 else if n = 3 then 49 else 343) ≤ 343 := by split; omega; split; omega; split <;> omega
    refine zr_iload (pc := 69) dX7_finds_69 rfl ?_
    refine zr_aload_n (pc := 71) dX7_finds_71 rfl rfl ?_
    refine zr_getI (pc := 72) (z := 4) fX7_25 lo_34 rfl rfl rfl dX7_finds_72 ?_
    refine zi_icmp_ge (pc := 75) (tgt := 100) dX7_finds_75 (by decide) (by omega) (by omega) (fun h75 => ?_) (fun h75 => ?_)
    · exact ho (by rw [show i.toNat = F.length by omega, List.take_length] at hfn; exact hfn) _ _ hfr h346 hctx hckx (fun a => by rw [show i.toNat = F.length by omega, List.take_length] at hrp; exact hrp a) h345
    · obtain ⟨x, hx⟩ : ∃ x, F[i.toNat]? = some x := ⟨F[i.toNat]'(by omega), List.getElem?_eq_getElem (by omega)⟩
      have hxm := hF x (List.mem_of_getElem? hx)
      have hB3 : (if n = 1 then 1 else if n = 2 then 10 else if n = 3 then 100 else 1000) ≤ 1000 := by split; omega; split; omega; split <;> omega
      have hft := flS_take (L := L) (t := t) hx
      have hlen := fl7 (L := L) (t := t) (F.take i.toNat) (fun y hy => (hF y (List.mem_of_mem_take hy)).1.1)
      rw [List.length_take, Nat.min_eq_left (by omega)] at hlen
      have hlen2 := fol_len (flS L t (F.take i.toNat)) []
      have hlen3 := sc7 (L := L) (t := t) hxm.1.1
      have hB49 : n < 4 → (F.length : Int) ≤ 49 := fun a => by
        refine Int.le_trans hFl ?_
        split
        · omega
        split
        · omega
        split <;> omega
      have eit : (i.toNat : Int) = i := Int.toNat_of_nonneg h0
      refine zr_aload_n (pc := 78) dX7_finds_78 rfl rfl ?_
      refine zr_iload (pc := 79) dX7_finds_79 rfl ?_
      refine zr_aload_n (pc := 81) dX7_finds_81 rfl rfl ?_
      refine zr_aload_n (pc := 82) dX7_finds_82 rfl rfl ?_
      refine zr_iload_n (pc := 83) dX7_finds_83 rfl rfl ?_
      refine zr_iload (pc := 84) dX7_finds_84 rfl ?_
      refine zr_inv5I (pc := 86) rfl sX7_47 lo_34 rfl rfl rfl dX7_finds_86 ?_
      rw [← eit]
      refine ct_X7_findsFrom (i := i.toNat) (N := (flS L t (F.take i.toNat)).foldl addN []) (n := n) hlx hL hC hrF hx hxm.1 (by omega) (by omega) ht hly h346 hn (fun y hy => by
        rcases fol_mem _ _ _ hy with h8 | h8
        · cases h8
        · exact (fl_CS (B := (if n = 1 then 1 else if n = 2 then 10 else if n = 3 then 100 else 1000)) hL (fun z hz => hF z (List.mem_of_mem_take hz)) y h8).1) (fun a => by
        have := hB49 a
        simp at hlen2
        omega) (fun hz My hfy hy4 hy6 hyc hyk hyr hy5 => ?_) (fun y hz My hfy hy6 hy7 => ?_) hctx hckx hrp
      · refine zi_if_eq (pc := 89) (tgt := 94) dX7_finds_89 (by decide) (by decide) (fun h89 => ?_) (fun h89 => ?_)
        · refine zr_iinc (pc := 94) dX7_finds_94 rfl (Nat.le_of_ble_eq_true rfl) rfl ?_
          refine zr_goto (pc := 97) (tgt := 69) dX7_finds_97 (by decide) ?_
          rw [eit]
          exact ih _ (by omega) _ _ rfl (by omega) (by omega) (fun k j a => by rw [hfy k j (by omega)]; exact hfr k j a) (by rw [hy6, h346]) (by rw [hy4]; exact h344) (rp_fr hrF (fun j => hfy 35 j (by omega)) (fun j => hfy 36 j (by omega))) hyc hyk (by
            rw [show (i + 1).toNat = i.toNat + 1 by omega, hft, List.find?_append, hfn, hz]
            rfl) (fun a => by
            have h8 := hyr a
            rw [show (i + 1).toNat = i.toNat + 1 by omega, hft, List.foldl_append]
            exact h8) (fun a => by rw [hy5 a]; exact h345 a)
        · exact absurd h89 (by decide)
      · refine zi_if_eq (pc := 89) (tgt := 94) dX7_finds_89 (by decide) (by decide) (fun h89 => ?_) (fun h89 => ?_)
        · exact absurd h89 (by decide)
        · refine zr_iconst (pc := 92) dX7_finds_92 ?_
          exact zr_zreturn (pc := 93) dX7_finds_93 rfl (by decide) (hyes (n, y.2) (by
              rw [show (5 - n).toNat = (5 - (n + 1)).toNat + 1 by omega, bfs_s]
              have e9 : (flS L t F).find? (okW t ly) = some y := by
                have e8 : flS L t F = flS L t (F.take (i.toNat + 1)) ++ flS L t (F.drop (i.toNat + 1)) := by
                  unfold flS
                  rw [← List.flatMap_append, List.take_append_drop]
                rw [e8, hft, List.find?_append, List.find?_append, hfn, hz]
                rfl
              rw [e9]) _ (fun k j a => by rw [hfy k j (by omega)]; exact hfr k j a) hy6 hy7)

set_option maxRecDepth 100000 in
set_option maxHeartbeats 4000000 in
theorem lp_X7_finds3 {g : zt_G} {M : zm_M} {q : Int → zm_M → Prop} {t ly : Int} {N : List Wy} {x5 : Option zv_A} (hr : rp 37 38 N M) (hs : M 34 5 = N.length) (hlen : N.length ≤ 343) (ho : ∀ M2, (∀ (k : Nat) (i : Int), (k < 35 ∨ 36 < k) → (k ≠ 34 ∨ (i ≠ 4 ∧ i ≠ 6)) → M2 k i = M k i) → rp 35 36 N M2 → M2 34 4 = N.length → M2 34 6 = M 34 6 + 1 → zc_Z g mX7_finds 53 [some (zv_r 34), some (zv_r 22), some (zv_r 13), some (zv_i t), some (zv_i ly), x5] [] M2 (zq_I q)) : zc_Z g mX7_finds 100 [some (zv_r 34), some (zv_r 22), some (zv_r 13), some (zv_i t), some (zv_i ly), x5] [] M (zq_I q) := by
  refine zr_aload_n (pc := 100) dX7_finds_100 rfl rfl ?_
  refine zr_inv0V (pc := 101) rfl sX7_51 lo_34 rfl rfl rfl dX7_finds_101 ?_
  refine ct_X7_turnToNext hr hs hlen (fun M2 hf2 hr2 hs2 => ?_)
  refine zr_aload_n (pc := 104) dX7_finds_104 rfl rfl ?_
  refine zr_dup_r (pc := 105) dX7_finds_105 ?_
  refine zr_getI (pc := 106) (z := 6) fX7_32 lo_34 rfl rfl rfl dX7_finds_106 ?_
  refine zr_iconst (pc := 109) dX7_finds_109 ?_
  refine zr_iadd (pc := 110) dX7_finds_110 ?_
  refine zr_putI (pc := 111) (z := 6) fX7_32 lo_34 rfl fwX7_6 rfl rfl dX7_finds_111 ?_
  refine zr_goto (pc := 114) (tgt := 53) dX7_finds_114 (by decide) ?_
  exact ho _ (fun k i a b => by
    have b2 : ¬ (k = 34 ∧ i = 6) := by omega
    rw [show zm_put _ 34 6 _ k i = _ from if_neg b2]
    exact hf2 k i a (by omega)) (rp_fr hr2 (fun j => put_nk _ _ _ _ (by decide)) (fun j => put_nk _ _ _ _ (by decide))) (by rw [put_ni _ _ (by decide)]; exact hs2) (by rw [put_at, hf2 34 6 (by decide) (by decide)])

set_option maxRecDepth 100000 in
set_option maxHeartbeats 4000000 in
theorem lp_X7_finds1 {g : zt_G} {M : zm_M} {q : Int → zm_M → Prop} {L : Ln} {C : Cm} {t ly : Int} (hl : lvX M 13 = L) (hL : LW L) (hC : CW C) (ht : cHas C t) (hly : 0 ≤ ly ∧ ly < 64) {R0 : Option (Int × Int)} (hno : R0 = none → ∀ Mx, (∀ (k : Nat) (i : Int), (k < 22 ∨ (26 < k ∧ k < 34) ∨ 38 < k) → Mx k i = M k i) → q 0 Mx) (hyes : ∀ r, R0 = some r → ∀ Mx, (∀ (k : Nat) (i : Int), (k < 22 ∨ (26 < k ∧ k < 34) ∨ 38 < k) → Mx k i = M k i) → Mx 34 6 = r.1 → Mx 34 7 = r.2 → q 1 Mx) : ∀ (nn : Nat) (n : Int) (F : List Wy) (x5 : Option zv_A) (Mx : zm_M), (5 - n).toNat = nn → 1 ≤ n → n ≤ 5 → (∀ (k : Nat) (i : Int), (k < 22 ∨ (26 < k ∧ k < 34) ∨ 38 < k) → Mx k i = M k i) → Mx 34 6 = n → (n ≤ 4 → Mx 34 4 = F.length ∧ rp 35 36 F Mx ∧ NW C (if n = 1 then 1 else if n = 2 then 10 else if n = 3 then 100 else 1000) F ∧ (F.length : Int) ≤ (if n = 1 then 1 else if n = 2 then 7 else if n = 3 then 49 else 343)) → ct (cvX Mx 22) = ct C → ck (cvX Mx 22) = ck C → bfs L t ly (5 - n).toNat n F = R0 → zc_Z g mX7_finds 53 [some (zv_r 34), some (zv_r 22), some (zv_r 13), some (zv_i t), some (zv_i ly), x5] [] Mx (zq_I q) := by
  intro nn
  induction nn using Nat.strongRecOn with
  | ind nn ih =>
    intro n F x5 Mx hnn h0 h1 hfr h346 hF hctx hckx hR
    refine zr_aload_n (pc := 53) dX7_finds_53 rfl rfl ?_
    refine zr_getI (pc := 54) (z := 6) fX7_32 lo_34 rfl rfl rfl dX7_finds_54 ?_
    refine zr_iconst (pc := 57) dX7_finds_57 ?_
    refine zi_icmp_gt (pc := 58) (tgt := 117) dX7_finds_58 (by decide) (by omega) (by omega) (fun h58 => ?_) (fun h58 => ?_)
    · refine zr_iconst (pc := 117) dX7_finds_117 ?_
      exact zr_zreturn (pc := 118) dX7_finds_118 rfl (by decide) (hno (by rw [← hR, show (5 - n).toNat = 0 by omega]; rfl) _ hfr)
    · obtain ⟨h344, hrF, hNW, hFl⟩ := hF (by omega)
      refine zr_aload_n (pc := 61) dX7_finds_61 rfl rfl ?_
      refine zr_iconst (pc := 62) dX7_finds_62 ?_
      refine zr_putI (pc := 63) (z := 5) fX7_29 lo_34 rfl fwX7_5 rfl rfl dX7_finds_63 ?_
      refine zr_iconst (pc := 66) dX7_finds_66 ?_
      refine zr_istore (pc := 67) dX7_finds_67 (Nat.le_of_ble_eq_true rfl) rfl ?_
      refine lp_X7_finds2 (g := g) (M := M) (q := q) (F := F) (n := n) hl hL hC ht hly ⟨h0, by omega⟩ hNW hFl (by rw [hR]; exact hno) (by rw [hR]; exact hyes) (fun hz y5 My hfy hy6 hyc hyk hyr hy0 => ?_) _ _ _ rfl (by omega) (by omega) (fun k i a => by rw [put_nk _ _ _ _ (by omega)]; exact hfr k i a) (by rw [put_ni _ _ (by decide)]; exact h346) (by rw [put_ni _ _ (by decide)]; exact h344) (rp_fr hrF (fun j => put_nk _ _ _ _ (by decide)) (fun j => put_nk _ _ _ _ (by decide))) (by rw [cvX_fr (fun k i a b => put_nk _ _ _ _ (by omega))]; exact hctx) (by rw [cvX_fr (fun k i a b => put_nk _ _ _ _ (by omega))]; exact hckx) rfl (fun a => ⟨fun j x hj => (by simp [flS] at hj), put_at _ _ _ _⟩) (fun _ => put_at _ _ _ _)
      have hb := bfs_s L t ly (5 - (n + 1)).toNat n F
      rw [show (5 - (n + 1)).toNat + 1 = (5 - n).toNat by omega, hR, hz] at hb
      have hlen := fl7 (L := L) (t := t) F (fun y hy => (hNW y hy).1.1)
      have hlen2 := fol_len (flS L t F) []
      simp only [List.length_nil, Nat.zero_add] at hlen2
      by_cases hn4 : n = 4
      · refine lp_X7_finds3 (g := g) (N := []) (fun j x hj => by cases hj) (by rw [hy0 hn4]; rfl) (by decide) (fun M2 hf2 hr2 hs2 h62 => ?_)
        refine ih _ (by omega) (n + 1) [] y5 M2 rfl (by omega) (by omega) (fun k i a => by rw [hf2 k i (by omega) (by omega)]; exact hfy k i a) (by rw [h62, hy6]) (fun a => by omega) (by rw [cvX_fr (fun k i a b => hf2 k i (by omega) (by omega))]; exact hyc) (by rw [cvX_fr (fun k i a b => hf2 k i (by omega) (by omega))]; exact hyk) ?_
        rw [hb, hn4]
        rfl
      · have hB : (10 : Int) * (if n = 1 then 1 else if n = 2 then 10 else if n = 3 then 100 else 1000) = (if n + 1 = 1 then 1 else if n + 1 = 2 then 10 else if n + 1 = 3 then 100 else 1000) := by
          rcases (by omega : n = 1 ∨ n = 2 ∨ n = 3) with e | e | e <;> subst e <;> decide
        have hB2 : (7 : Int) * (if n = 1 then 1 else if n = 2 then 7 else if n = 3 then 49 else 343) = (if n + 1 = 1 then 1 else if n + 1 = 2 then 7 else if n + 1 = 3 then 49 else 343) := by
          rcases (by omega : n = 1 ∨ n = 2 ∨ n = 3) with e | e | e <;> subst e <;> decide
        have hle : (((flS L t F).foldl addN []).length : Int) ≤ (if n + 1 = 1 then 1 else if n + 1 = 2 then 7 else if n + 1 = 3 then 49 else 343) := by
          rw [← hB2]
          omega
        have hle2 : (if n + 1 = 1 then 1 else if n + 1 = 2 then 7 else if n + 1 = 3 then 49 else 343) ≤ (343 : Int) := by
          rcases (by omega : n = 1 ∨ n = 2 ∨ n = 3) with e | e | e <;> subst e <;> decide
        have hq := hyr (by omega)
        refine lp_X7_finds3 (g := g) (N := (flS L t F).foldl addN []) hq.1 hq.2 (by omega) (fun M2 hf2 hr2 hs2 h62 => ?_)
        refine ih _ (by omega) (n + 1) ((flS L t F).foldl addN []) y5 M2 rfl (by omega) (by omega) (fun k i a => by rw [hf2 k i (by omega) (by omega)]; exact hfy k i a) (by rw [h62, hy6]) (fun a => ⟨hs2, hr2, fun y hy => ?_, hle⟩) (by rw [cvX_fr (fun k i a b => hf2 k i (by omega) (by omega))]; exact hyc) (by rw [cvX_fr (fun k i a b => hf2 k i (by omega) (by omega))]; exact hyk) hb.symm
        rcases fol_mem _ _ _ hy with h8 | h8
        · cases h8
        · have h9 := fl_CS hL hNW y h8
          rw [hB] at h9
          exact h9

set_option maxRecDepth 100000 in
set_option maxHeartbeats 4000000 in
theorem ct_X7_finds {g : zt_G} {M : zm_M} {q : Int → zm_M → Prop} {L : Ln} {C : Cm} {t ly : Int} (hl : lvX M 13 = L) (hL : LW L) (hC : CW C) (ht : cHas C t) (hly : 0 ≤ ly ∧ ly < 64) (hv : cvX M 22 = C) (hcz : CZ C) (hno : sonR t ly L C = none → ∀ Mx, (∀ (k : Nat) (i : Int), (k < 22 ∨ (26 < k ∧ k < 34) ∨ 38 < k) → Mx k i = M k i) → q 0 Mx) (hyes : ∀ r, sonR t ly L C = some r → ∀ Mx, (∀ (k : Nat) (i : Int), (k < 22 ∨ (26 < k ∧ k < 34) ∨ 38 < k) → Mx k i = M k i) → Mx 34 6 = r.1 → Mx 34 7 = r.2 → q 1 Mx) : zc_K g yX7_finds mX7_finds [zv_r 34, zv_r 22, zv_r 13, zv_i t, zv_i ly] M (zq_I q) := by
  refine zc_of (ls := [some (zv_r 34), some (zv_r 22), some (zv_r 13), some (zv_i t), some (zv_i ly), none]) (by decide) rfl ⟨rfl, rfl⟩ (Nat.le_of_ble_eq_true rfl) rfl ?_
  have hT : M 22 5 = ct C := by rw [← hv]; rfl
  have htt : 0 ≤ t ∧ t < ct C := ht
  have hct := hC.1
  have hcw : CW (cvX M 22) := by rw [hv]; exact hC
  have hy3 : (0 ≤ M 23 t ∧ M 23 t ≤ 9) ∧ (0 ≤ M 24 t ∧ M 24 t ≤ 3) ∧ (0 ≤ M 25 t ∧ M 25 t < 64) ∧ (0 ≤ M 26 t ∧ M 26 t ≤ 9) := wX hcw (by rw [hT]; exact htt)
  have en : cn C t = M 25 t := by rw [← hv]; exact vX_n (by rw [hT]; exact htt)
  have haa := aa6 (a := M 25 t) (b := ly) (by omega) hly
  obtain ⟨M1, e1⟩ : ∃ M1, M1 = zm_put (zm_put M 34 6 0) 34 7 0 := ⟨_, rfl⟩
  have hf1 : ∀ (k : Nat) (i : Int), k ≠ 34 → M1 k i = M k i := fun k i a => by rw [e1, put_nk _ _ _ _ a, put_nk _ _ _ _ a]
  have h67 : M1 34 6 = 0 ∧ M1 34 7 = 0 := by rw [e1]; exact ⟨by rw [put_ni _ _ (by decide), put_at], put_at _ _ _ _⟩
  have hv1 : cvX M1 22 = C := by rw [cvX_fr (fun k i a b => hf1 k i (by omega)), hv]
  have e25 : M1 25 t = M 25 t := hf1 25 t (by decide)
  refine zr_aload_n (pc := 0) dX7_finds_0 rfl rfl ?_
  refine zr_iconst (pc := 1) dX7_finds_1 ?_
  refine zr_putI (pc := 2) (z := 6) fX7_32 lo_34 rfl fwX7_6 rfl rfl dX7_finds_2 ?_
  refine zr_aload_n (pc := 5) dX7_finds_5 rfl rfl ?_
  refine zr_iconst (pc := 6) dX7_finds_6 ?_
  refine zr_putI (pc := 7) (z := 7) fX7_35 lo_34 rfl fwX7_7 rfl rfl dX7_finds_7 ?_
  rw [← e1]
  refine zr_aload_n (pc := 10) dX7_finds_10 rfl rfl ?_
  refine zr_getR (pc := 11) fX7_38 lo_22 rfl rfl dX7_finds_11 ?_
  refine zr_iload_n (pc := 14) dX7_finds_14 rfl rfl ?_
  refine zr_iaload (pc := 15) lo_25 (by omega) dX7_finds_15 ?_
  refine zr_iload (pc := 16) dX7_finds_16 rfl ?_
  refine zr_iand (pc := 18) dX7_finds_18 ?_
  refine zr_iload (pc := 19) dX7_finds_19 rfl ?_
  refine zi_icmp_ne (pc := 21) (tgt := 26) dX7_finds_21 (by decide) (by rw [e25]; omega) (by omega) (fun h21 => ?_) (fun h21 => ?_)
  · refine zr_aload_n (pc := 26) dX7_finds_26 rfl rfl ?_
    refine zr_getR (pc := 27) fX7_11 lo_34 rfl rfl dX7_finds_27 ?_
    refine zr_iconst (pc := 30) dX7_finds_30 ?_
    refine zr_aload_n (pc := 31) dX7_finds_31 rfl rfl ?_
    refine zr_inv0L (pc := 32) rfl sX7_43 lo_22 rfl rfl rfl dX7_finds_32 ?_
    refine ct_X1_packed zp_c22 (by rw [hv1]; exact hC) ?_
    rw [hv1]
    refine zr_lastore (pc := 35) lo_35 (by omega) dX7_finds_35 ?_
    refine zr_aload_n (pc := 36) dX7_finds_36 rfl rfl ?_
    refine zr_getR (pc := 37) fX7_15 lo_34 rfl rfl dX7_finds_37 ?_
    refine zr_iconst (pc := 40) dX7_finds_40 ?_
    refine zr_iconst (pc := 41) dX7_finds_41 ?_
    refine zr_iastore (pc := 42) lo_36 (by omega) dX7_finds_42 ?_
    refine zr_aload_n (pc := 43) dX7_finds_43 rfl rfl ?_
    refine zr_iconst (pc := 44) dX7_finds_44 ?_
    refine zr_putI (pc := 45) (z := 4) fX7_25 lo_34 rfl fwX7_4 rfl rfl dX7_finds_45 ?_
    refine zr_aload_n (pc := 48) dX7_finds_48 rfl rfl ?_
    refine zr_iconst (pc := 49) dX7_finds_49 ?_
    refine zr_putI (pc := 50) (z := 6) fX7_32 lo_34 rfl fwX7_6 rfl rfl dX7_finds_50 ?_
    refine lp_X7_finds1 (g := g) hl hL hC ht hly hno hyes _ 1 [(nrm C, 0)] _ _ rfl (by decide) (by decide) (fun k i a => by rw [put_nk _ _ _ _ (by omega), put_nk _ _ _ _ (by omega), put_nk _ _ _ _ (by omega), put_nk _ _ _ _ (by omega)]; exact hf1 k i (by omega)) (put_at _ _ _ _) (fun _ => ⟨?_, ?_, ?_, Int.le_refl 1⟩) ?_ ?_ ?_
    · rw [put_ni _ _ (by decide), put_at]
      rfl
    · intro j x hj
      cases j with
      | zero =>
        cases hj
        rw [put_nk _ _ _ _ (show 35 ≠ 34 by decide), put_nk _ _ _ _ (show 35 ≠ 34 by decide), put_nk _ _ _ _ (show 35 ≠ 36 by decide), put_nk _ _ _ _ (show 36 ≠ 34 by decide), put_nk _ _ _ _ (show 36 ≠ 34 by decide)]
        exact ⟨by rw [pkE]; exact put_at _ _ _ _, put_at _ _ _ _⟩
      | succ j => simp at hj
    · intro x hx
      rw [List.mem_singleton] at hx
      subst hx
      exact ⟨⟨hC, hcz, rfl, rfl, rfl⟩, Int.le_refl 0, (by decide : (0 : Int) < 1)⟩
    · rw [cvX_fr (M2 := _) (fun k i a b => by rw [put_nk _ _ _ _ (by omega), put_nk _ _ _ _ (by omega), put_nk _ _ _ _ (by omega), put_nk _ _ _ _ (by omega)]), hv1]
    · rw [cvX_fr (M2 := _) (fun k i a b => by rw [put_nk _ _ _ _ (by omega), put_nk _ _ _ _ (by omega), put_nk _ _ _ _ (by omega), put_nk _ _ _ _ (by omega)]), hv1]
    · unfold sonR
      rw [if_neg (fun y => h21 (by rw [e25, ← en]; exact of_decide_eq_true y))]
      rfl
  · refine zr_iconst (pc := 24) dX7_finds_24 ?_
    exact zr_zreturn (pc := 25) dX7_finds_25 rfl (by decide) (hyes (0, 0) (by unfold sonR; rw [if_pos (decide_eq_true (by show zb_and (cn C t) ly = ly; rw [en, ← e25]; exact h21))]) M1 (fun k i a => hf1 k i (by omega)) h67.1 h67.2)

set_option maxRecDepth 100000 in
set_option maxHeartbeats 4000000 in
theorem ct_X10_soon {g : zt_G} {M : zm_M} {σ : Sg} {q : Int → zm_M → Prop} (hR : RX σ M) (hW : SW σ) {t ly v : Int} (ht : zi t) (hly : zi ly) (hv : zi v) (h : ∀ M2, frX M M2 → RX σ M2 → q (aSoon t ly v (sL σ) (sC σ)) M2) : zc_K g yX10_soon mX10_soon [zv_r 0, zv_i t, zv_i ly, zv_i v] M (zq_I q) := by
  refine zc_of (ls := [some (zv_r 0), some (zv_i t), some (zv_i ly), some (zv_i v)]) (by decide) rfl ⟨rfl, rfl⟩ (Nat.le_of_ble_eq_true rfl) rfl ?_
  obtain ⟨hT, hl, hcv, hA, hK, hS, hD⟩ := id hR
  obtain ⟨wT, wTx, wL, ⟨wC, wZ⟩, wA, wK, wS⟩ := id hW
  have hLw : LW (lvX M 13) := by rw [hl]; exact wL
  have hCw : CW (cvX M 17) := by rw [hcv]; exact wC
  have hw0 := wXt hCw
  have hL0 := yXk hLw
  have hk1 : M 13 3 = (sL σ).1 := by rw [← hl]; rfl
  have ht1 : M 17 5 = ct (sC σ) := by rw [← hcv]; rfl
  have hT1 := hT.1
  refine zr_aload_n (pc := 0) dX10_soon_0 rfl rfl ?_
  refine zr_getR (pc := 1) fX10_33 lo_0 rfl rfl dX10_soon_1 ?_
  refine zr_iload_n (pc := 4) dX10_soon_4 rfl rfl ?_
  refine zr_inv1I (pc := 5) rfl sX10_138 lo_17 rfl rfl rfl dX10_soon_5 ?_
  refine ct_X1_has zp_c17 hCw ht ?_
  rw [hcv]
  refine zr_ifb_ne (pc := 8) (tgt := 13) dX10_soon_8 (by decide) (fun h8 => ?_) (fun h8 => ?_)
  · refine zr_iload_n (pc := 13) dX10_soon_13 rfl rfl ?_
    refine zi_if_lt (pc := 14) (tgt := 30) dX10_soon_14 (by decide) (by omega) (fun h14 => ?_) (fun h14 => ?_)
    · refine zr_bipush (pc := 30) dX10_soon_30 (by decide) ?_
      exact zr_ireturn (pc := 32) dX10_soon_32 rfl (zq_eq (h M (fun _ _ _ => rfl) hR) (by unfold aSoon; rw [if_neg (fun y => y h8), if_pos (by omega)]))
    · refine zr_iload_n (pc := 17) dX10_soon_17 rfl rfl ?_
      refine zr_bipush (pc := 18) dX10_soon_18 (by decide) ?_
      refine zi_icmp_ge (pc := 20) (tgt := 30) dX10_soon_20 (by decide) (by omega) (by omega) (fun h20 => ?_) (fun h20 => ?_)
      · refine zr_bipush (pc := 30) dX10_soon_30 (by decide) ?_
        exact zr_ireturn (pc := 32) dX10_soon_32 rfl (zq_eq (h M (fun _ _ _ => rfl) hR) (by unfold aSoon; rw [if_neg (fun y => y h8), if_pos (by omega)]))
      · refine zr_iload_n (pc := 23) dX10_soon_23 rfl rfl ?_
        refine zr_stat1I (pc := 24) rfl sX10_211 rfl rfl dX10_soon_24 ?_
        refine ct_X10_isFirstOrSecond hv ?_
        refine zr_ifb_ne (pc := 27) (tgt := 33) dX10_soon_27 (by decide) (fun h27 => ?_) (fun h27 => ?_)
        · refine zr_aload_n (pc := 33) dX10_soon_33 rfl rfl ?_
          refine zr_getR (pc := 34) fX10_37 lo_0 rfl rfl dX10_soon_34 ?_
          refine zr_aload_n (pc := 37) dX10_soon_37 rfl rfl ?_
          refine zr_getR (pc := 38) fX10_33 lo_0 rfl rfl dX10_soon_38 ?_
          refine zr_inv1V (pc := 41) rfl sX10_104 lo_22 rfl rfl rfl dX10_soon_41 ?_
          refine ct_X1_copyFrom zp_c22 zp_c17 (Or.inl (by decide)) hCw (fun M1 hf1 hv1 => ?_)
          rw [hcv] at hv1
          refine zr_aload_n (pc := 44) dX10_soon_44 rfl rfl ?_
          refine zr_getR (pc := 45) fX10_57 lo_0 rfl rfl dX10_soon_45 ?_
          refine zr_aload_n (pc := 48) dX10_soon_48 rfl rfl ?_
          refine zr_getR (pc := 49) fX10_37 lo_0 rfl rfl dX10_soon_49 ?_
          refine zr_aload_n (pc := 52) dX10_soon_52 rfl rfl ?_
          refine zr_getR (pc := 53) fX10_26 lo_0 rfl rfl dX10_soon_53 ?_
          refine zr_iload_n (pc := 56) dX10_soon_56 rfl rfl ?_
          refine zr_iload_n (pc := 57) dX10_soon_57 rfl rfl ?_
          refine zr_inv4I (pc := 58) rfl sX10_214 lo_34 rfl rfl rfl dX10_soon_58 ?_
          have hlx : lvX M1 13 = sL σ := by rw [lvX_fr (fun k i a b => hf1 k i (by omega)), hl]
          refine ct_X7_finds hlx wL wC h8 (by omega) hv1 hW.2.2.2.1.2 (fun hz M2 hf2 => ?_) (fun r hz M2 hf2 h26 h27' => ?_)
          · refine zi_if_ne (pc := 61) (tgt := 67) dX10_soon_61 (by decide) (by decide) (fun h61 => ?_) (fun h61 => ?_)
            · exact absurd h61 (by decide)
            · refine zr_bipush (pc := 64) dX10_soon_64 (by decide) ?_
              exact zr_ireturn (pc := 66) dX10_soon_66 rfl (zq_eq (h M2 (fun k i a => by rw [hf2 k i (by omega), hf1 k i (by omega)]) (RX_frs hR (fun k i a b => by unfold zsc at b; rw [hf2 k i (by omega), hf1 k i (by omega)]))) (by unfold aSoon; rw [if_neg (fun y => y h8), if_neg (by omega), hz]))
          · refine zi_if_ne (pc := 61) (tgt := 67) dX10_soon_61 (by decide) (by decide) (fun h61 => ?_) (fun h61 => ?_)
            · refine zr_iload_n (pc := 67) dX10_soon_67 rfl rfl ?_
              refine zi_if_ne (pc := 68) (tgt := 81) dX10_soon_68 (by decide) (by omega) (fun h68 => ?_) (fun h68 => ?_)
              · refine zr_aload_n (pc := 81) dX10_soon_81 rfl rfl ?_
                refine zr_getR (pc := 82) fX10_57 lo_0 rfl rfl dX10_soon_82 ?_
                refine zr_getI (pc := 85) (z := 7) fX10_221 lo_34 rfl rfl rfl dX10_soon_85 ?_
                exact zr_ireturn (pc := 88) dX10_soon_88 rfl (zq_eq (h M2 (fun k i a => by rw [hf2 k i (by omega), hf1 k i (by omega)]) (RX_frs hR (fun k i a b => by unfold zsc at b; rw [hf2 k i (by omega), hf1 k i (by omega)]))) (by unfold aSoon; rw [if_neg (fun y => y h8), if_neg (by omega), hz]; dsimp only; rw [if_neg h68, h27']))
              · refine zr_aload_n (pc := 71) dX10_soon_71 rfl rfl ?_
                refine zr_getR (pc := 72) fX10_57 lo_0 rfl rfl dX10_soon_72 ?_
                refine zr_getI (pc := 75) (z := 6) fX10_218 lo_34 rfl rfl rfl dX10_soon_75 ?_
                refine zr_goto (pc := 78) (tgt := 88) dX10_soon_78 (by decide) ?_
                exact zr_ireturn (pc := 88) dX10_soon_88 rfl (zq_eq (h M2 (fun k i a => by rw [hf2 k i (by omega), hf1 k i (by omega)]) (RX_frs hR (fun k i a b => by unfold zsc at b; rw [hf2 k i (by omega), hf1 k i (by omega)]))) (by unfold aSoon; rw [if_neg (fun y => y h8), if_neg (by omega), hz]; dsimp only; rw [if_pos h68, h26]))
            · exact absurd h61 (by decide)
        · refine zr_bipush (pc := 30) dX10_soon_30 (by decide) ?_
          exact zr_ireturn (pc := 32) dX10_soon_32 rfl (zq_eq (h M (fun _ _ _ => rfl) hR) (by unfold aSoon; rw [if_neg (fun y => y h8), if_pos (by omega)]))
  · refine zr_iconst (pc := 11) dX10_soon_11 ?_
    exact zr_ireturn (pc := 12) dX10_soon_12 rfl (zq_eq (h M (fun _ _ _ => rfl) hR) (by unfold aSoon; rw [if_pos h8]))

