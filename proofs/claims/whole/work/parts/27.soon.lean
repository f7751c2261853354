def cnt7 (c : Nat) : Nat → Nat
  | 0 => 0
  | n + 1 => cnt7 c n + (if (n ≤ c + 3 ∧ c ≤ n + 3) then 1 else 0)
theorem cnt7_ok : ∀ c : Nat, c ≤ 9 → cnt7 c 10 ≤ 7 := by decide
theorem sc_near {L : Ln} {t : Int} {x y : Wy} {p : Int} (h : CW x.1) (e : scP L t x p = some y) : p ≤ cp x.1 t + 3 ∧ cp x.1 t ≤ p + 3 := by
  have h1 := h.2.2 t
  unfold scP at e
  split at e
  · omega
  · split at e
    · rename_i hm
      have h2 := hm.2.2.2.2.2
      split at h2 <;> omega
    · cases e
theorem sc_len7 {L : Ln} {t : Int} {x : Wy} (h : CW x.1) : ∀ n : Nat, (scN L t x n).length ≤ cnt7 (cp x.1 t).toNat n
  | 0 => Nat.le_refl _
  | n + 1 => by
    have ih := sc_len7 (L := L) (t := t) h n
    have h1 := h.2.2 t
    rw [scN_s, List.length_append]
    show _ ≤ cnt7 _ n + _
    cases e : scP L t x (n : Int) with
    | none => simp; omega
    | some y =>
      have h2 := sc_near h e
      rw [if_pos (by omega)]
      simp
      omega
theorem sc7 {L : Ln} {t : Int} {x : Wy} (h : CW x.1) : (scN L t x 10).length ≤ 7 := by
  have h1 := h.2.2 t
  exact Nat.le_trans (sc_len7 h 10) (cnt7_ok _ (by omega))
def flS (L : Ln) (t : Int) (F : List Wy) : List Wy := F.flatMap (fun x => scN L t x 10)
theorem fl7 {L : Ln} {t : Int} : ∀ F : List Wy, (∀ x ∈ F, CW x.1) → (flS L t F).length ≤ 7 * F.length
  | [], _ => Nat.le_refl _
  | x :: F, h => by
    have h1 := fl7 (L := L) (t := t) F (fun y hy => h y (List.mem_cons_of_mem _ hy))
    have h2 := sc7 (L := L) (t := t) (h x List.mem_cons_self)
    unfold flS at h1 ⊢
    rw [List.flatMap_cons, List.length_append, List.length_cons]
    omega
theorem flS_take {L : Ln} {t : Int} {F : List Wy} {i : Nat} {x : Wy} (hx : F[i]? = some x) : flS L t (F.take (i + 1)) = flS L t (F.take i) ++ scN L t x 10 := by
  have hi := (List.getElem?_eq_some_iff.mp hx).1
  have e : F.take (i + 1) = F.take i ++ [x] := by
    rw [List.take_add_one, hx]
    rfl
  unfold flS
  rw [e, List.flatMap_append]
  simp
theorem bfs_s (L : Ln) (t ly : Int) (m : Nat) (n : Int) (F : List Wy) : bfs L t ly (m + 1) n F = match (flS L t F).find? (okW t ly) with
    | some x => some (n, x.2)
    | none => bfs L t ly m (n + 1) ((flS L t F).foldl addN []) := rfl
theorem fl_CS {L : Ln} {C : Cm} {t : Int} {F : List Wy} {B : Int} (hL : LW L) (h : NW C B F) : ∀ y ∈ flS L t F, CS C y.1 ∧ 0 ≤ y.2 ∧ y.2 < 10 * B := by
  intro y hy
  unfold flS at hy
  obtain ⟨x, hx, hy2⟩ := List.mem_flatMap.mp hy
  have h1 := h x hx
  have h2 := mem_sc hL h1.1 hy2
  exact ⟨h2.1, by omega, by omega⟩
set_option maxRecDepth 100000 in
set_option maxHeartbeats 4000000 in
theorem lp_X7_finds2 {g : zt_G} {M : zm_M} {q : Int → zm_M → Prop} {L : Ln} {C : Cm} {t ly : Int} (hl : lvX M 13 = L) (hL : LW L) (hC : CW C) (ht : cHas C t) (hly : 0 ≤ ly ∧ ly < 64) {F : List Wy} {n : Int} (hn : 1 ≤ n ∧ n ≤ 4) (hF : NW C (if n = 1 then 1 else if n = 2 then 10 else if n = 3 then 100 else 1000) F) (hFl : (F.length : Int) ≤ (if n = 1 then 1 else if n = 2 then 7 else if n = 3 then 49 else 343)) (hno : bfs L t ly (5 - n).toNat n F = none → ∀ Mx, (∀ (k : Nat) (i : Int), (k < 22 ∨ (26 < k ∧ k < 34) ∨ 38 < k) → Mx k i = M k i) → q 0 Mx) (hyes : ∀ r, bfs L t ly (5 - n).toNat n F = some r → ∀ Mx, (∀ (k : Nat) (i : Int), (k < 22 ∨ (26 < k ∧ k < 34) ∨ 38 < k) → Mx k i = M k i) → Mx 34 6 = r.1 → Mx 34 7 = r.2 → q 1 Mx) (ho : (flS L t F).find? (okW t ly) = none → ∀ (x5 : Option zv_A) (Mx : zm_M), (∀ (k : Nat) (i : Int), (k < 22 ∨ (26 < k ∧ k < 34) ∨ 38 < k) → Mx k i = M k i) → Mx 34 6 = n → ct (cvX Mx 22) = ct C → ck (cvX Mx 22) = ck C → (n < 4 → rp 37 38 ((flS L t F).foldl addN []) Mx ∧ Mx 34 5 = ((flS L t F).foldl addN []).length) → (n = 4 → 0 ≤ Mx 34 5 ∧ Mx 34 5 ≤ 343) → zc_Z g mX7_finds 100 [some (zv_r 34), some (zv_r 22), some (zv_r 13), some (zv_i t), some (zv_i ly), x5] [] Mx (zq_I q)) : ∀ (nn : Nat) (i : Int) (Mx : zm_M), (F.length - i).toNat = nn → 0 ≤ i → i ≤ F.length → (∀ (k : Nat) (i : Int), (k < 22 ∨ (26 < k ∧ k < 34) ∨ 38 < k) → Mx k i = M k i) → Mx 34 6 = n → Mx 34 4 = F.length → rp 35 36 F Mx → ct (cvX Mx 22) = ct C → ck (cvX Mx 22) = ck C → (flS L t (F.take i.toNat)).find? (okW t ly) = none → (n < 4 → rp 37 38 ((flS L t (F.take i.toNat)).foldl addN []) Mx ∧ Mx 34 5 = ((flS L t (F.take i.toNat)).foldl addN []).length) → (n = 4 → 0 ≤ Mx 34 5 ∧ Mx 34 5 ≤ 343) → zc_Z g mX7_finds 69 [some (zv_r 34), some (zv_r 22), some (zv_r 13), some (zv_i t), some (zv_i ly), some (zv_i i)] [] Mx (zq_I q) := by
  intro nn
  induction nn using Nat.strongRecOn with
  | ind nn ih =>
    intro i Mx hnn h0 h1 hfr h346 h344 hrF hctx hckx hfn hrp h345
    have hlx : lvX Mx 13 = L := by rw [lvX_fr (fun k i a b => hfr k i (by omega)), hl]
    have hB7 : (if n = 1 then 1 else if n = 2 then 7 else if n = 3 then 49 else 343) ≤ 343 := by split; omega; split; omega; split <;> omega
    refine zr_iload (pc := 69) dX7_finds_69 rfl ?_
    refine zr_aload_n (pc := 71) dX7_finds_71 rfl rfl ?_
    refine zr_getI (pc := 72) (z := 4) fX7_25 lo_34 rfl rfl rfl dX7_finds_72 ?_
    refine zi_icmp_ge (pc := 75) (tgt := 100) dX7_finds_75 (by decide) (by omega) (by omega) (fun h75 => ?_) (fun h75 => ?_)
    · exact ho (by rw [show i.toNat = F.length by omega, List.take_length] at hfn; exact hfn) _ _ hfr h346 hctx hckx (fun a => by rw [show i.toNat = F.length by omega, List.take_length] at hrp; exact hrp a) h345
    · obtain ⟨x, hx⟩ : ∃ x, F[i.toNat]? = some x := ⟨F[i.toNat]'(by omega), List.getElem?_eq_getElem (by omega)⟩
      have hxm := hF x (List.mem_of_getElem? hx)
      have hB3 : (if n = 1 then 1 else if n = 2 then 10 else if n = 3 then 100 else 1000) ≤ 1000 := by split; omega; split; omega; split <;> omega
      have hft := flS_take (L := L) (t := t) hx
      have hlen := fl7 (L := L) (t := t) (F.take i.toNat) (fun y hy => (hF y (List.mem_of_mem_take hy)).1.1)
      rw [List.length_take, Nat.min_eq_left (by omega)] at hlen
      have hlen2 := fol_len (flS L t (F.take i.toNat)) []
      have hlen3 := sc7 (L := L) (t := t) hxm.1.1
      have hB49 : n < 4 → (F.length : Int) ≤ 49 := fun a => by
        refine Int.le_trans hFl ?_
        split
        · omega
        split
        · omega
        split <;> omega
      have eit : (i.toNat : Int) = i := Int.toNat_of_nonneg h0
      refine zr_aload_n (pc := 78) dX7_finds_78 rfl rfl ?_
      refine zr_iload (pc := 79) dX7_finds_79 rfl ?_
      refine zr_aload_n (pc := 81) dX7_finds_81 rfl rfl ?_
      refine zr_aload_n (pc := 82) dX7_finds_82 rfl rfl ?_
      refine zr_iload_n (pc := 83) dX7_finds_83 rfl rfl ?_
      refine zr_iload (pc := 84) dX7_finds_84 rfl ?_
      refine zr_inv5I (pc := 86) rfl sX7_47 lo_34 rfl rfl rfl dX7_finds_86 ?_
      rw [← eit]
      refine ct_X7_findsFrom (i := i.toNat) (N := (flS L t (F.take i.toNat)).foldl addN []) (n := n) hlx hL hC hrF hx hxm.1 (by omega) (by omega) ht hly h346 hn (fun y hy => by
        rcases fol_mem _ _ _ hy with h8 | h8
        · cases h8
        · exact (fl_CS (B := (if n = 1 then 1 else if n = 2 then 10 else if n = 3 then 100 else 1000)) hL (fun z hz => hF z (List.mem_of_mem_take hz)) y h8).1) (fun a => by
        have := hB49 a
        simp at hlen2
        omega) (fun hz My hfy hy4 hy6 hyc hyk hyr => ?_) (fun y hz My hfy hy6 hy7 => ?_) hctx hckx hrp
      · refine zi_if_eq (pc := 89) (tgt := 94) dX7_finds_89 (by decide) (by decide) (fun h89 => ?_) (fun h89 => ?_)
        · refine zr_iinc (pc := 94) dX7_finds_94 rfl (Nat.le_of_ble_eq_true rfl) rfl ?_
          refine zr_goto (pc := 97) (tgt := 69) dX7_finds_97 (by decide) ?_
          rw [eit]
          exact ih _ (by omega) _ _ rfl (by omega) (by omega) (fun k j a => by rw [hfy k j (by omega)]; exact hfr k j a) (by rw [hy6, h346]) (by rw [hy4]; exact h344) (rp_fr hrF (fun j => hfy 35 j (by omega)) (fun j => hfy 36 j (by omega))) hyc hyk (by
            rw [show (i + 1).toNat = i.toNat + 1 by omega, hft, List.find?_append, hfn, hz]
            rfl) (fun a => by
            have h8 := hyr a
            rw [show (i + 1).toNat = i.toNat + 1 by omega, hft, List.foldl_append]
            exact h8) (fun a => sorry)
        · exact absurd h89 (by decide)
      · refine zi_if_eq (pc := 89) (tgt := 94) dX7_finds_89 (by decide) (by decide) (fun h89 => ?_) (fun h89 => ?_)
        · exact absurd h89 (by decide)
        · refine zr_iconst (pc := 92) dX7_finds_92 ?_
          exact zr_zreturn (pc := 93) dX7_finds_93 rfl (by decide) (hyes (n, y.2) (by
              rw [show (5 - n).toNat = (5 - (n + 1)).toNat + 1 by omega, bfs_s]
              have e9 : (flS L t F).find? (okW t ly) = some y := by
                have e8 : flS L t F = flS L t (F.take (i.toNat + 1)) ++ flS L t (F.drop (i.toNat + 1)) := by
                  unfold flS
                  rw [← List.flatMap_append, List.take_append_drop]
                rw [e8, hft, List.find?_append, List.find?_append, hfn, hz]
                rfl
              rw [e9]) _ (fun k j a => by rw [hfy k j (by omega)]; exact hfr k j a) hy6 hy7)

