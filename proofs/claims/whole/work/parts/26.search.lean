/-! soon, night by night -/
def nrm (D : Cm) : Cm := (cp D, ck D, cn D, ch D, cw D, ct D, 0)
abbrev Wy : Type := Cm × Int
def scP (L : Ln) (t : Int) (x : Wy) (p : Int) : Option Wy := if cp x.1 t = p then some (nrm (nit L 0 x.1), 10 * x.2 + p) else if cMay x.1 t p then some (nrm (nit L 0 (cgo t p x.1)), 10 * x.2 + p) else none
def scN (L : Ln) (t : Int) (x : Wy) (n : Nat) : List Wy := (List.range n).filterMap (fun (p : Nat) => scP L t x (p : Int))
abbrev okW (t ly : Int) (x : Wy) : Bool := decide (zb_and (cn x.1 t) ly = ly)
def addN (N : List Wy) (x : Wy) : List Wy := if N.any (fun y => decide (pk y.1 = pk x.1)) = true then N else N ++ [x]
def bfs (L : Ln) (t ly : Int) : Nat → Int → List Wy → Option (Int × Int)
  | 0, _, _ => none
  | m + 1, n, F => match (F.flatMap (fun x => scN L t x 10)).find? (okW t ly) with
    | some x => some (n, x.2)
    | none => bfs L t ly m (n + 1) ((F.flatMap (fun x => scN L t x 10)).foldl addN [])
def sonR (t ly : Int) (L : Ln) (C : Cm) : Option (Int × Int) := if okW t ly (nrm C, 0) = true then some (0, 0) else bfs L t ly 4 1 [(nrm C, 0)]
def aSoon (t ly v : Int) (L : Ln) (C : Cm) : Int := if ¬ cHas C t then -1 else if ly < 0 ∨ 64 ≤ ly ∨ ¬ (v = 0 ∨ v = 1) then -2 else match sonR t ly L C with
  | none => -9
  | some r => if v = 0 then r.1 else r.2
/-- camps of a search: of the same tramps, the night set aside -/
def CS (C D : Cm) : Prop := CW D ∧ CZ D ∧ ct D = ct C ∧ ck D = ck C ∧ cg D = 0
theorem CZ_n1 {L : Ln} {cold t : Int} {C : Cm} (h : CZ C) (ht : 0 ≤ t ∧ t < ct C) : CZ (n1 L cold t C) := by
  unfold n1
  split
  · exact h
  · intro i hi
    have h1 := h i hi
    have hne : i ≠ t := fun e => hi (by rw [e]; exact ht)
    refine ⟨h1.1, h1.2.1, ?_, ?_⟩
    · show upI _ _ _ i = 0
      rw [upI_n hne]
      exact h1.2.2.1
    · show upI _ _ _ i = 0
      rw [upI_n hne]
      exact h1.2.2.2
theorem CZ_n2 {t : Int} {C : Cm} (h : CZ C) (ht : 0 ≤ t ∧ t < ct C) : CZ (n2 t C) := by
  unfold n2
  split
  · intro i hi
    have h1 := h i hi
    have hne : i ≠ t := fun e => hi (by rw [e]; exact ht)
    refine ⟨h1.1, h1.2.1, ?_, h1.2.2.2⟩
    show upI _ _ _ i = 0
    rw [upI_n hne]
    exact h1.2.2.1
  · exact h
theorem CZ_nit {L : Ln} {cold : Int} {C : Cm} (h : CZ C) : CZ (nit L cold C) := by
  have h1 : ∀ n : Nat, (n : Int) ≤ ct C → CZ (fo (n1 L cold) C n) ∧ ct (fo (n1 L cold) C n) = ct C := by
    intro n
    induction n with
    | zero => exact fun _ => ⟨h, rfl⟩
    | succ n ih =>
      intro hn
      have h2 := ih (by omega)
      exact ⟨CZ_n1 h2.1 ⟨by omega, by rw [h2.2]; omega⟩, n1_ct.trans h2.2⟩
  have key : ∀ (D : Cm), CZ D → ∀ n : Nat, (n : Int) ≤ ct D → CZ (fo n2 D n) ∧ ct (fo n2 D n) = ct D := by
    intro D hD n
    induction n with
    | zero => exact fun _ => ⟨hD, rfl⟩
    | succ n ih =>
      intro hn
      have h2 := ih (by omega)
      exact ⟨CZ_n2 h2.1 ⟨by omega, by rw [h2.2]; omega⟩, n2_ct.trans h2.2⟩
  by_cases hc : 0 ≤ ct C
  · have a1 := h1 (ct C).toNat (by omega)
    have a2 := key _ a1.1 (ct C).toNat (by rw [a1.2]; omega)
    exact fun i hi => a2.1 i hi
  · have e : (ct C).toNat = 0 := by omega
    unfold nit
    rw [e]
    exact fun i hi => h i hi
theorem CZ_go {C : Cm} {t p : Int} (h : CZ C) (ht : 0 ≤ t ∧ t < ct C) : CZ (cgo t p C) := by
  intro i hi
  have h1 := h i hi
  have hne : i ≠ t := fun e => hi (by rw [e]; exact ht)
  exact ⟨by show upI _ _ _ i = 0; rw [upI_n hne]; exact h1.1, h1.2⟩
theorem n1_g {L : Ln} {cold t : Int} {C : Cm} {z : Int} : n1 L cold t (cp C, ck C, cn C, ch C, cw C, ct C, z) = (cp (n1 L cold t C), ck (n1 L cold t C), cn (n1 L cold t C), ch (n1 L cold t C), cw (n1 L cold t C), ct (n1 L cold t C), z) := by
  unfold n1 lie
  dsimp only
  split <;> rfl
theorem n2_g {t : Int} {C : Cm} {z : Int} : n2 t (cp C, ck C, cn C, ch C, cw C, ct C, z) = (cp (n2 t C), ck (n2 t C), cn (n2 t C), ch (n2 t C), cw (n2 t C), ct (n2 t C), z) := by
  unfold n2
  dsimp only
  split <;> rfl
theorem fo1_g {L : Ln} {cold : Int} {C : Cm} {z : Int} : ∀ n : Nat, fo (n1 L cold) (cp C, ck C, cn C, ch C, cw C, ct C, z) n = (cp (fo (n1 L cold) C n), ck (fo (n1 L cold) C n), cn (fo (n1 L cold) C n), ch (fo (n1 L cold) C n), cw (fo (n1 L cold) C n), ct (fo (n1 L cold) C n), z)
  | 0 => rfl
  | n + 1 => by
    show n1 L cold (n : Int) (fo (n1 L cold) (cp C, ck C, cn C, ch C, cw C, ct C, z) n) = _
    rw [fo1_g n, n1_g]
    rfl
theorem fo2_g {C : Cm} {z : Int} : ∀ n : Nat, fo n2 (cp C, ck C, cn C, ch C, cw C, ct C, z) n = (cp (fo n2 C n), ck (fo n2 C n), cn (fo n2 C n), ch (fo n2 C n), cw (fo n2 C n), ct (fo n2 C n), z)
  | 0 => rfl
  | n + 1 => by
    show n2 (n : Int) (fo n2 (cp C, ck C, cn C, ch C, cw C, ct C, z) n) = _
    rw [fo2_g n, n2_g]
    rfl
theorem nit_g {L : Ln} {C : Cm} : nrm (nit L 0 (nrm C)) = nrm (nit L 0 C) := by
  unfold nit nrm
  dsimp only
  rw [fo1_g, fo2_g]
theorem nrm_go {t p : Int} {C : Cm} : cgo t p (nrm C) = nrm (cgo t p C) := rfl
theorem CS_nit {L : Ln} {C D : Cm} (hL : LW L) (h : CS C D) : CS C (nrm (nit L 0 D)) := ⟨CW_nit hL h.1, CZ_nit h.2.1, nit_ct.trans h.2.2.1, nit_ck.trans h.2.2.2.1, rfl⟩
theorem CS_go {C D : Cm} {t p : Int} (h : CS C D) (hm : cMay D t p) : CS C (cgo t p D) := ⟨CW_go h.1 hm.1 ⟨hm.2.1.1, by have := hm.2.1.2; omega⟩, CZ_go h.2.1 hm.1, h.2.2⟩
theorem CS_sc {L : Ln} {C : Cm} {t : Int} {x y : Wy} {p : Int} (hL : LW L) (h : CS C x.1) (e : scP L t x p = some y) : CS C y.1 ∧ y.2 = 10 * x.2 + p := by
  unfold scP at e
  split at e
  · cases e
    exact ⟨CS_nit hL h, rfl⟩
  · split at e
    · rename_i hm
      cases e
      exact ⟨CS_nit hL (CS_go h hm), rfl⟩
    · cases e
theorem scN_s (L : Ln) (t : Int) (x : Wy) (n : Nat) : scN L t x (n + 1) = scN L t x n ++ (scP L t x (n : Int)).toList := by
  unfold scN
  rw [List.range_succ, List.filterMap_append]
  congr 1
theorem pkE (D : Cm) : pk (nrm D) = pk D := by
  have h : ∀ (n : Nat) (t : Int), pkN (nrm D) n t = pkN D n t := by
    intro n
    induction n with
    | zero => exact fun _ => rfl
    | succ n ih =>
      intro t
      show pkN (nrm D) n (t + 1) * 32768 + oneC (nrm D) t = pkN D n (t + 1) * 32768 + oneC D t
      rw [ih]
      rfl
  exact h _ _
/-- a row of the search in two arrays -/
def rp (a b : Nat) (N : List Wy) (M : zm_M) : Prop := ∀ (j : Nat) (x : Wy), N[j]? = some x → M a (j : Int) = pk x.1 ∧ M b (j : Int) = x.2
def NW (C : Cm) (B : Int) (N : List Wy) : Prop := ∀ x ∈ N, CS C x.1 ∧ 0 ≤ x.2 ∧ x.2 < B
theorem rp_fr {a b : Nat} {N : List Wy} {M M2 : zm_M} (h : rp a b N M) (ha : ∀ i, M2 a i = M a i) (hb : ∀ i, M2 b i = M b i) : rp a b N M2 := fun j x e => by rw [ha, hb]; exact h j x e
theorem any_pk {N : List Wy} {v : Int} : N.any (fun y => decide (pk y.1 = v)) = true ↔ ∃ (j : Nat) (x : Wy), N[j]? = some x ∧ pk x.1 = v := by
  rw [List.any_eq_true]
  constructor
  · rintro ⟨x, hx, h⟩
    obtain ⟨j, hj⟩ := List.getElem?_of_mem hx
    exact ⟨j, x, hj, of_decide_eq_true h⟩
  · rintro ⟨j, x, hj, h⟩
    exact ⟨x, List.mem_of_getElem? hj, decide_eq_true h⟩
theorem lc_eq {a b : Int} (ha : zx a = a) (hb : zx b = b) : zl_cmp a b = 0 ↔ a = b := by
  unfold zl_cmp
  rw [ha, hb]
  split
  · omega
  split <;> omega
set_option maxRecDepth 100000 in
set_option maxHeartbeats 4000000 in
theorem lp_X7_addNext {g : zt_G} {M : zm_M} {q : zm_M → Prop} {N : List Wy} {D : Cm} {v : Int} (hr : rp 37 38 N M) (hs : M 34 5 = N.length) (hlen : N.length < 343) (hD : 0 ≤ pk D ∧ pk D < 1152921504606846976) (hN : ∀ x ∈ N, 0 ≤ pk x.1 ∧ pk x.1 < 1152921504606846976) (h : ∀ M2, (∀ (k : Nat) (i : Int), (k < 37 ∨ 38 < k) → (k ≠ 34 ∨ i ≠ 5) → M2 k i = M k i) → rp 37 38 (addN N (D, v)) M2 → M2 34 5 = (addN N (D, v)).length → q M2) : ∀ (nn : Nat) (k : Int), (N.length - k).toNat = nn → 0 ≤ k → k ≤ N.length → (∀ (j : Nat) (x : Wy), (j : Int) < k → N[j]? = some x → ¬ pk x.1 = pk D) → zc_Z g mX7_addNext 3 [some (zv_r 34), some (zv_l (pk D)), none, some (zv_i v), some (zv_i k)] [] M (zq_V q) := by
  intro nn
  induction nn using Nat.strongRecOn with
  | ind nn ih =>
    intro k hn h0 h1 hno
    refine zr_iload (pc := 3) dX7_addNext_3 rfl ?_
    refine zr_aload_n (pc := 5) dX7_addNext_5 rfl rfl ?_
    refine zr_getI (pc := 6) (z := 5) fX7_29 lo_34 rfl rfl rfl dX7_addNext_6 ?_
    refine zi_icmp_ge (pc := 9) (tgt := 31) dX7_addNext_9 (by decide) (by omega) (by omega) (fun h9 => ?_) (fun h9 => ?_)
    · refine zr_aload_n (pc := 31) dX7_addNext_31 rfl rfl ?_
      refine zr_getI (pc := 32) (z := 5) fX7_29 lo_34 rfl rfl rfl dX7_addNext_32 ?_
      refine zr_sipush (pc := 35) dX7_addNext_35 (by decide) ?_
      refine zi_icmp_ge (pc := 38) (tgt := 71) dX7_addNext_38 (by decide) (by omega) (by omega) (fun h38 => ?_) (fun h38 => ?_)
      · exact zr_return (pc := 71) dX7_addNext_71 rfl (absurd h38 (by omega))
      · refine zr_aload_n (pc := 41) dX7_addNext_41 rfl rfl ?_
        refine zr_getR (pc := 42) fX7_19 lo_34 rfl rfl dX7_addNext_42 ?_
        refine zr_aload_n (pc := 45) dX7_addNext_45 rfl rfl ?_
        refine zr_getI (pc := 46) (z := 5) fX7_29 lo_34 rfl rfl rfl dX7_addNext_46 ?_
        refine zr_lload_n (pc := 49) dX7_addNext_49 rfl rfl ?_
        refine zr_lastore (pc := 50) lo_37 (by omega) dX7_addNext_50 ?_
        refine zr_aload_n (pc := 51) dX7_addNext_51 rfl rfl ?_
        refine zr_getR (pc := 52) fX7_22 lo_34 rfl rfl dX7_addNext_52 ?_
        refine zr_aload_n (pc := 55) dX7_addNext_55 rfl rfl ?_
        refine zr_getI (pc := 56) (z := 5) fX7_29 lo_34 rfl rfl rfl dX7_addNext_56 ?_
        refine zr_iload_n (pc := 59) dX7_addNext_59 rfl rfl ?_
        refine zr_iastore (pc := 60) lo_38 (by rw [put_nk _ _ _ _ (show 34 ≠ 37 by decide)]; omega) dX7_addNext_60 ?_
        refine zr_aload_n (pc := 61) dX7_addNext_61 rfl rfl ?_
        refine zr_dup_r (pc := 62) dX7_addNext_62 ?_
        refine zr_getI (pc := 63) (z := 5) fX7_29 lo_34 rfl rfl rfl dX7_addNext_63 ?_
        rw [put_nk _ _ _ _ (show 34 ≠ 38 by decide), put_nk _ _ _ _ (show 34 ≠ 37 by decide)]
        refine zr_iconst (pc := 66) dX7_addNext_66 ?_
        refine zr_iadd (pc := 67) dX7_addNext_67 ?_
        refine zr_putI (pc := 68) (z := 5) fX7_29 lo_34 rfl fwX7_5 rfl rfl dX7_addNext_68 ?_
        exact zr_return (pc := 71) dX7_addNext_71 rfl (by
            have hna : ¬ N.any (fun y => decide (pk y.1 = pk D)) = true := fun e => by
              obtain ⟨j, x, hj, hp⟩ := any_pk.mp e
              have hjl := (List.getElem?_eq_some_iff.mp hj).1
              exact hno j x (by omega) hj hp
            refine h _ (fun k i a b => ?_) ?_ ?_
            · have b2 : ¬ (k = 34 ∧ i = 5) := by omega
              rw [show zm_put _ 34 5 _ k i = _ from if_neg b2, put_nk _ _ _ _ (by omega), put_nk _ _ _ _ (by omega)]
            · unfold addN
              rw [if_neg hna]
              intro j x hj
              rw [put_nk _ _ _ _ (show 37 ≠ 34 by decide), put_nk _ _ _ _ (show 38 ≠ 34 by decide), put_nk _ _ _ _ (show 37 ≠ 38 by decide)]
              by_cases hjl : j < N.length
              · rw [List.getElem?_append_left hjl] at hj
                rw [put_ni _ _ (show (j : Int) ≠ M 34 5 by omega), put_ni _ _ (show (j : Int) ≠ M 34 5 by omega), put_nk _ _ _ _ (show 38 ≠ 37 by decide)]
                exact hr j x hj
              · rw [List.getElem?_append_right (by omega)] at hj
                have hj0 : j - N.length = 0 := by
                  have := (List.getElem?_eq_some_iff.mp hj).1
                  simp at this
                  omega
                have hjlt : j < (N ++ [(D, v)]).length := by
                  have := (List.getElem?_eq_some_iff.mp hj).1
                  simp at this ⊢
                  omega
                rw [hj0] at hj
                cases hj
                rw [show (j : Int) = M 34 5 by omega, put_at, put_at]
                exact ⟨rfl, rfl⟩
            · unfold addN
              rw [if_neg hna, put_at, hs]
              simp)
    · obtain ⟨x, hx⟩ : ∃ x, N[k.toNat]? = some x := ⟨N[k.toNat]'(by omega), List.getElem?_eq_getElem (by omega)⟩
      have ex := hr k.toNat x hx
      rw [Int.toNat_of_nonneg h0] at ex
      have hxi := hN x (List.mem_of_getElem? hx)
      have hcmp := lc_eq (a := pk x.1) (b := pk D) (zx_id (by omega) (by omega)) (zx_id (by omega) (by omega))
      have hci := (lc_lt (a := pk x.1) (b := pk D) (zx_id (by omega) (by omega)) (zx_id (by omega) (by omega))).2
      refine zr_aload_n (pc := 12) dX7_addNext_12 rfl rfl ?_
      refine zr_getR (pc := 13) fX7_19 lo_34 rfl rfl dX7_addNext_13 ?_
      refine zr_iload (pc := 16) dX7_addNext_16 rfl ?_
      refine zr_laload (pc := 18) lo_37 (by omega) dX7_addNext_18 ?_
      rw [ex.1]
      refine zr_lload_n (pc := 19) dX7_addNext_19 rfl rfl ?_
      refine zr_lcmp (pc := 20) dX7_addNext_20 ?_
      refine zi_if_ne (pc := 21) (tgt := 25) dX7_addNext_21 (by decide) hci (fun h21 => ?_) (fun h21 => ?_)
      · refine zr_iinc (pc := 25) dX7_addNext_25 rfl (Nat.le_of_ble_eq_true rfl) rfl ?_
        refine zr_goto (pc := 28) (tgt := 3) dX7_addNext_28 (by decide) ?_
        exact ih _ (by omega) _ rfl (by omega) (by omega) (fun j y hj hy => by
          by_cases hjk : j = k.toNat
          · rw [hjk, hx] at hy
            cases hy
            exact fun e => h21 (hcmp.mpr e)
          · exact hno j y (by omega) hy)
      · exact zr_return (pc := 24) dX7_addNext_24 rfl (h M (fun _ _ _ _ => rfl) (by unfold addN; rw [if_pos (any_pk.mpr ⟨k.toNat, x, hx, hcmp.mp h21⟩)]; exact hr) (by unfold addN; rw [if_pos (any_pk.mpr ⟨k.toNat, x, hx, hcmp.mp h21⟩)]; exact hs))

set_option maxRecDepth 100000 in
set_option maxHeartbeats 4000000 in
theorem ct_X7_addNext {g : zt_G} {M : zm_M} {q : zm_M → Prop} {N : List Wy} {D : Cm} {v : Int} (hr : rp 37 38 N M) (hs : M 34 5 = N.length) (hlen : N.length < 343) (hD : 0 ≤ pk D ∧ pk D < 1152921504606846976) (hN : ∀ x ∈ N, 0 ≤ pk x.1 ∧ pk x.1 < 1152921504606846976) (h : ∀ M2, (∀ (k : Nat) (i : Int), (k < 37 ∨ 38 < k) → (k ≠ 34 ∨ i ≠ 5) → M2 k i = M k i) → rp 37 38 (addN N (D, v)) M2 → M2 34 5 = (addN N (D, v)).length → q M2) : zc_K g yX7_addNext mX7_addNext [zv_r 34, zv_l (pk D), zv_i v] M (zq_V q) := by
  refine zc_of (ls := [some (zv_r 34), some (zv_l (pk D)), none, some (zv_i v), none]) (by decide) rfl ⟨rfl, rfl⟩ (Nat.le_of_ble_eq_true rfl) rfl ?_
  refine zr_iconst (pc := 0) dX7_addNext_0 ?_
  refine zr_istore (pc := 1) dX7_addNext_1 (Nat.le_of_ble_eq_true rfl) rfl ?_
  exact lp_X7_addNext (g := g) hr hs hlen hD hN h _ _ rfl (by omega) (by omega) (fun j x hj _ => by omega)

set_option maxRecDepth 100000 in
set_option maxHeartbeats 4000000 in
theorem ct_X7_turnToNext {g : zt_G} {M : zm_M} {q : zm_M → Prop} {N : List Wy} (hr : rp 37 38 N M) (hs : M 34 5 = N.length) (hlen : N.length ≤ 343) (h : ∀ M2, (∀ (k : Nat) (i : Int), (k < 35 ∨ 36 < k) → (k ≠ 34 ∨ i ≠ 4) → M2 k i = M k i) → rp 35 36 N M2 → M2 34 4 = N.length → q M2) : zc_K g yX7_turnToNext mX7_turnToNext [zv_r 34] M (zq_V q) := by
  refine zc_of (ls := [some (zv_r 34)]) (by decide) rfl ⟨rfl, rfl⟩ (Nat.le_of_ble_eq_true rfl) rfl ?_
  have e5 : zm_cpy M 37 0 35 0 (M 34 5) 34 5 = M 34 5 := by unfold zm_cpy; rw [if_neg (by omega)]
  refine zr_aload_n (pc := 0) dX7_turnToNext_0 rfl rfl ?_
  refine zr_getR (pc := 1) fX7_19 lo_34 rfl rfl dX7_turnToNext_1 ?_
  refine zr_iconst (pc := 4) dX7_turnToNext_4 ?_
  refine zr_aload_n (pc := 5) dX7_turnToNext_5 rfl rfl ?_
  refine zr_getR (pc := 6) fX7_11 lo_34 rfl rfl dX7_turnToNext_6 ?_
  refine zr_iconst (pc := 9) dX7_turnToNext_9 ?_
  refine zr_aload_n (pc := 10) dX7_turnToNext_10 rfl rfl ?_
  refine zr_getI (pc := 11) (z := 5) fX7_29 lo_34 rfl rfl rfl dX7_turnToNext_11 ?_
  refine zr_copyl (pc := 14) rfl sX7_73 lo_37 lo_35 (by omega) (by omega) rfl dX7_turnToNext_14 ?_
  refine zr_aload_n (pc := 17) dX7_turnToNext_17 rfl rfl ?_
  refine zr_getR (pc := 18) fX7_22 lo_34 rfl rfl dX7_turnToNext_18 ?_
  refine zr_iconst (pc := 21) dX7_turnToNext_21 ?_
  refine zr_aload_n (pc := 22) dX7_turnToNext_22 rfl rfl ?_
  refine zr_getR (pc := 23) fX7_15 lo_34 rfl rfl dX7_turnToNext_23 ?_
  refine zr_iconst (pc := 26) dX7_turnToNext_26 ?_
  refine zr_aload_n (pc := 27) dX7_turnToNext_27 rfl rfl ?_
  refine zr_getI (pc := 28) (z := 5) fX7_29 lo_34 rfl rfl rfl dX7_turnToNext_28 ?_
  refine zr_copyi (pc := 31) rfl sX7_73 lo_38 lo_36 (by rw [e5]; omega) (by rw [e5]; omega) rfl dX7_turnToNext_31 ?_
  refine zr_aload_n (pc := 34) dX7_turnToNext_34 rfl rfl ?_
  refine zr_aload_n (pc := 35) dX7_turnToNext_35 rfl rfl ?_
  refine zr_getI (pc := 36) (z := 5) fX7_29 lo_34 rfl rfl rfl dX7_turnToNext_36 ?_
  refine zr_putI (pc := 39) (z := 4) fX7_25 lo_34 rfl fwX7_4 rfl rfl dX7_turnToNext_39 ?_
  exact zr_return (pc := 42) dX7_turnToNext_42 rfl (h _ (fun k i a b => by
      rw [show zm_put _ 34 4 _ k i = _ from if_neg (by omega)]
      unfold zm_cpy
      rw [if_neg (by omega), if_neg (by omega)]) (fun j x hj => by
      have hjl := (List.getElem?_eq_some_iff.mp hj).1
      have h1 := hr j x hj
      rw [put_nk _ _ _ _ (show 35 ≠ 34 by decide), put_nk _ _ _ _ (show 36 ≠ 34 by decide), e5]
      have x1 : zm_cpy (zm_cpy M 37 0 35 0 (M 34 5)) 38 0 36 0 (M 34 5) 35 (j : Int) = M 37 (j : Int) := by
        unfold zm_cpy
        rw [if_neg (by omega), if_pos ⟨rfl, by omega, by omega⟩]
        congr 1
        omega
      have x2 : zm_cpy (zm_cpy M 37 0 35 0 (M 34 5)) 38 0 36 0 (M 34 5) 36 (j : Int) = M 38 (j : Int) := by
        unfold zm_cpy
        rw [if_pos ⟨rfl, by omega, by omega⟩, if_neg (by omega)]
        congr 1
        omega
      rw [x1, x2]
      exact h1) (by
      rw [put_at, e5]
      unfold zm_cpy
      rw [if_neg (by omega), if_neg (by omega)]
      exact hs))

theorem addN_mem {N : List Wy} {x y : Wy} (h : y ∈ addN N x) : y ∈ N ∨ y = x := by
  unfold addN at h
  split at h
  · exact Or.inl h
  · rcases List.mem_append.mp h with h | h
    · exact Or.inl h
    · exact Or.inr (List.mem_singleton.mp h)
theorem fol_mem : ∀ (S N : List Wy) (y : Wy), y ∈ S.foldl addN N → y ∈ N ∨ y ∈ S
  | [], N, y, h => Or.inl h
  | x :: S, N, y, h => by
    rcases fol_mem S (addN N x) y h with h1 | h1
    · rcases addN_mem h1 with h2 | h2
      · exact Or.inl h2
      · exact Or.inr (by rw [h2]; exact List.mem_cons_self)
    · exact Or.inr (List.mem_cons_of_mem _ h1)
theorem addN_len (N : List Wy) (x : Wy) : (addN N x).length ≤ N.length + 1 := by
  unfold addN
  split
  · omega
  · simp
theorem fol_len : ∀ (S N : List Wy), (S.foldl addN N).length ≤ N.length + S.length
  | [], N => Nat.le_refl _
  | x :: S, N => by
    have h1 := fol_len S (addN N x)
    have h2 := addN_len N x
    show (S.foldl addN (addN N x)).length ≤ N.length + (S.length + 1)
    omega
theorem scN_len (L : Ln) (t : Int) (x : Wy) : ∀ (k n : Nat), (scN L t x n).length ≤ (scN L t x (n + k)).length
  | 0, n => Nat.le_refl _
  | k + 1, n => by
    have h := scN_len L t x k n
    rw [show n + (k + 1) = (n + k) + 1 from rfl, scN_s, List.length_append]
    omega
theorem mem_sc {L : Ln} {C : Cm} {t : Int} {x y : Wy} {n : Nat} (hL : LW L) (h : CS C x.1) (hy : y ∈ scN L t x n) : CS C y.1 ∧ 10 * x.2 ≤ y.2 ∧ y.2 < 10 * x.2 + n := by
  unfold scN at hy
  obtain ⟨p, hp, e⟩ := List.mem_filterMap.mp hy
  have h1 := CS_sc hL h e
  have h2 := List.mem_range.mp hp
  refine ⟨h1.1, ?_, ?_⟩
  · rw [h1.2]
    omega
  · rw [h1.2]
    omega
theorem scN_pre (L : Ln) (t : Int) (x : Wy) : ∀ (k n m : Nat), m = n + k → scN L t x m = scN L t x n ++ (scN L t x m).drop (scN L t x n).length := by
  intro k n m e
  have key : ∀ k, ∃ R, scN L t x (n + k) = scN L t x n ++ R := by
    intro k
    induction k with
    | zero => exact ⟨[], by simp⟩
    | succ k ih =>
      obtain ⟨R, hR⟩ := ih
      exact ⟨R ++ (scP L t x ((n + k : Nat) : Int)).toList, by rw [show n + (k + 1) = (n + k) + 1 from rfl, scN_s, hR, List.append_assoc]⟩
  obtain ⟨R, hR⟩ := key k
  rw [e, hR]
  simp
set_option maxRecDepth 100000 in
set_option maxHeartbeats 4000000 in
theorem lp_X7_findsFrom {g : zt_G} {M : zm_M} {q : Int → zm_M → Prop} {L : Ln} {C : Cm} {F N : List Wy} {t ly n : Int} {i : Nat} {x : Wy} (hl : lvX M 13 = L) (hL : LW L) (hC : CW C) (hF : rp 35 36 F M) (hx : F[i]? = some x) (hcs : CS C x.1) (hx2 : 0 ≤ x.2 ∧ x.2 < 10000) (hi : i < 343) (ht : cHas C t) (hly : 0 ≤ ly ∧ ly < 64) (hn : M 34 6 = n) (hn2 : 1 ≤ n ∧ n ≤ 4) (hNC : ∀ y ∈ N, CS C y.1) (hcap : n < 4 → N.length + (scN L t x 10).length ≤ 343) (hno : (scN L t x 10).find? (okW t ly) = none → ∀ Mx, (∀ (k : Nat) (i : Int), (k < 22 ∨ (26 < k ∧ k < 34) ∨ k = 35 ∨ k = 36 ∨ 38 < k) → Mx k i = M k i) → Mx 34 4 = M 34 4 → Mx 34 6 = M 34 6 → ct (cvX Mx 22) = ct C → ck (cvX Mx 22) = ck C → (n < 4 → rp 37 38 ((scN L t x 10).foldl addN N) Mx ∧ Mx 34 5 = ((scN L t x 10).foldl addN N).length) → (n = 4 → Mx 34 5 = M 34 5) → q 0 Mx) (hyes : ∀ y, (scN L t x 10).find? (okW t ly) = some y → ∀ Mx, (∀ (k : Nat) (i : Int), (k < 22 ∨ (26 < k ∧ k < 34) ∨ k = 35 ∨ k = 36 ∨ 38 < k) → Mx k i = M k i) → Mx 34 6 = n → Mx 34 7 = y.2 → q 1 Mx) : ∀ (nn : Nat) (p : Int) (Mx : zm_M), (10 - p).toNat = nn → 0 ≤ p → p ≤ 10 → (∀ (k : Nat) (i : Int), (k < 22 ∨ (26 < k ∧ k < 34) ∨ k = 35 ∨ k = 36 ∨ 38 < k) → Mx k i = M k i) → Mx 34 4 = M 34 4 → Mx 34 6 = M 34 6 → ct (cvX Mx 22) = ct C → ck (cvX Mx 22) = ck C → (scN L t x p.toNat).find? (okW t ly) = none → (n < 4 → rp 37 38 ((scN L t x p.toNat).foldl addN N) Mx ∧ Mx 34 5 = ((scN L t x p.toNat).foldl addN N).length) → (n = 4 → Mx 34 5 = M 34 5) → zc_Z g mX7_findsFrom 3 [some (zv_r 34), some (zv_i (i : Int)), some (zv_r 22), some (zv_r 13), some (zv_i t), some (zv_i ly), some (zv_i p)] [] Mx (zq_I q) := by
  intro nn
  induction nn using Nat.strongRecOn with
  | ind nn ih =>
    intro p Mx hnn h0 h1 hfr h44 h46 hctx hckx hfn hrp h45
    have hlx : lvX Mx 13 = L := by rw [lvX_fr (fun k i a b => hfr k i (by omega)), hl]
    have hct := hC.1
    have hT : Mx 22 5 = ct C := hctx
    have hpk := pk_rng hcs.1
    have ex := hF i x hx
    have e35 : Mx 35 (i : Int) = pk x.1 := by rw [hfr 35 _ (by omega)]; exact ex.1
    have e36 : ∀ i, Mx 36 i = M 36 i := fun i => hfr 36 i (by omega)
    have htt : 0 ≤ t ∧ t < ct C := ht
    refine zr_iload (pc := 3) dX7_findsFrom_3 rfl ?_
    refine zr_bipush (pc := 5) dX7_findsFrom_5 (by decide) ?_
    refine zi_icmp_ge (pc := 7) (tgt := 108) dX7_findsFrom_7 (by decide) (by omega) (by omega) (fun h7 => ?_) (fun h7 => ?_)
    · refine zr_iconst (pc := 108) dX7_findsFrom_108 ?_
      exact zr_zreturn (pc := 109) dX7_findsFrom_109 rfl (by decide) (hno (by rw [show p = 10 by omega] at hfn; exact hfn) _ hfr h44 h46 hctx hckx (fun a => by rw [show p = 10 by omega] at hrp; exact hrp a) h45)
    · have hS : scN L t x (p + 1).toNat = scN L t x p.toNat ++ (scP L t x p).toList := by
        rw [show (p + 1).toNat = p.toNat + 1 by omega, scN_s, Int.toNat_of_nonneg h0]
      refine zr_aload_n (pc := 10) dX7_findsFrom_10 rfl rfl ?_
      refine zr_aload_n (pc := 11) dX7_findsFrom_11 rfl rfl ?_
      refine zr_getR (pc := 12) fX7_11 lo_34 rfl rfl dX7_findsFrom_12 ?_
      refine zr_iload_n (pc := 15) dX7_findsFrom_15 rfl rfl ?_
      refine zr_laload (pc := 16) lo_35 (by show 0 ≤ (i : Int) ∧ (i : Int) < 343; omega) dX7_findsFrom_16 ?_
      rw [e35]
      refine zr_inv1V (pc := 17) rfl sX7_54 lo_22 rfl rfl rfl dX7_findsFrom_17 ?_
      refine ct_X1_unpack zp_c22 (by show 0 ≤ Mx 22 5 ∧ Mx 22 5 ≤ 4; omega) hpk (fun M1 hf1 hv1 => ?_)
      rw [unp_pk (show ct (cvX Mx 22) = ct x.1 by rw [hctx, hcs.2.2.1]) hcs.1 hcs.2.1, hctx, hckx] at hv1
      have hnr : nrm (cvX M1 22) = x.1 := by
        rw [hv1]
        show (cp x.1, ck C, cn x.1, ch x.1, cw x.1, ct C, 0) = x.1
        rw [← hcs.2.2.1, ← hcs.2.2.2.1, ← hcs.2.2.2.2]
      have hcw1 : CW (cvX M1 22) := by
        have h9 := hcs.1
        rw [← hnr] at h9
        exact h9
      have hT1 : M1 22 5 = ct C := by
        have e9 : ct (cvX M1 22) = ct C := by rw [hv1]
        exact e9
      have ht1 : 0 ≤ t ∧ t < M1 22 5 := by rw [hT1]; exact htt
      have hy1 : (0 ≤ M1 23 t ∧ M1 23 t ≤ 9) ∧ (0 ≤ M1 24 t ∧ M1 24 t ≤ 3) ∧ (0 ≤ M1 25 t ∧ M1 25 t < 64) ∧ (0 ≤ M1 26 t ∧ M1 26 t ≤ 9) := wX hcw1 ht1
      have ep1 : cp x.1 t = M1 23 t := by
        rw [← hnr]
        exact vX_p ht1
      have hl1 : lvX M1 13 = L := by rw [lvX_fr (fun k i a b => hf1 k i (by omega)), hlx]
      refine zr_aload_n (pc := 20) dX7_findsFrom_20 rfl rfl ?_
      refine zr_getR (pc := 21) fX7_58 lo_22 rfl rfl dX7_findsFrom_21 ?_
      refine zr_iload (pc := 24) dX7_findsFrom_24 rfl ?_
      refine zr_iaload (pc := 26) lo_23 (by omega) dX7_findsFrom_26 ?_
      refine zr_iload (pc := 27) dX7_findsFrom_27 rfl ?_
      refine zi_icmp_eq (pc := 29) (tgt := 43) dX7_findsFrom_29 (by decide) (by omega) (by omega) (fun h29 => ?_) (fun h29 => ?_)
      · have hE : ∃ (E : Cm) (Mg : zm_M), frC 22 M1 Mg ∧ cvX Mg 22 = E ∧ CW E ∧ ct E = ct C ∧ ck E = ck C ∧ scP L t x p = some (nrm (nit L 0 E), 10 * x.2 + p) ∧ Mg = M1 := ⟨cvX M1 22, M1, frC.rf, rfl, hcw1, by rw [hv1], by rw [hv1], by unfold scP; rw [if_pos (by rw [ep1]; exact h29), ← hnr, nit_g], rfl⟩
        obtain ⟨E, Mg, hfg, hvg, hcwE, hctE, hckE, hsc, hMg⟩ := hE
        rw [← hMg]
        have hlg : lvX Mg 13 = L := by rw [lvX_fr (fun k i a b => hfg k i (by omega)), hl1]
        refine zr_aload_n (pc := 43) dX7_findsFrom_43 rfl rfl ?_
        refine zr_aload_n (pc := 44) dX7_findsFrom_44 rfl rfl ?_
        refine zr_iconst (pc := 45) dX7_findsFrom_45 ?_
        refine zr_inv2V (pc := 46) rfl sX7_65 lo_22 rfl rfl rfl dX7_findsFrom_46 ?_
        refine ct_X1_passNight zp_c22 zp_l13 (Or.inl (by decide)) (by rw [hvg]; exact hcwE) (by rw [hlg]; exact hL) ⟨by decide, by decide⟩ (fun M3 hf3 hv3 => ?_)
        rw [hlg, hvg] at hv3
        have hcw3 : CW (cvX M3 22) := by rw [hv3]; exact CW_nit hL hcwE
        have hct3 : ct (cvX M3 22) = ct C := by rw [hv3, nit_ct, hctE]
        have hck3 : ck (cvX M3 22) = ck C := by rw [hv3, nit_ck, hckE]
        have hT3 : M3 22 5 = ct C := hct3
        have hy3 : (0 ≤ M3 23 t ∧ M3 23 t ≤ 9) ∧ (0 ≤ M3 24 t ∧ M3 24 t ≤ 3) ∧ (0 ≤ M3 25 t ∧ M3 25 t < 64) ∧ (0 ≤ M3 26 t ∧ M3 26 t ≤ 9) := wX hcw3 (by rw [hT3]; exact htt)
        have en3 : cn (nrm (nit L 0 E)) t = M3 25 t := by
          show cn (nit L 0 E) t = _
          rw [← hv3]
          exact vX_n (by rw [hT3]; exact htt)
        refine zr_aload_n (pc := 49) dX7_findsFrom_49 rfl rfl ?_
        refine zr_bipush (pc := 50) dX7_findsFrom_50 (by decide) ?_
        refine zr_aload_n (pc := 52) dX7_findsFrom_52 rfl rfl ?_
        refine zr_getR (pc := 53) fX7_15 lo_34 rfl rfl dX7_findsFrom_53 ?_
        refine zr_iload_n (pc := 56) dX7_findsFrom_56 rfl rfl ?_
        have e36w : M3 36 (i : Int) = x.2 := by rw [hf3 36 _ (by decide), hfg 36 _ (by decide), hf1 36 _ (by decide), e36]; exact ex.2
        refine zr_iaload (pc := 57) lo_36 (by show 0 ≤ (i : Int) ∧ (i : Int) < 343; omega) dX7_findsFrom_57 ?_
        refine zr_imul (pc := 58) dX7_findsFrom_58 ?_
        refine zr_iload (pc := 59) dX7_findsFrom_59 rfl ?_
        refine zr_iadd (pc := 61) dX7_findsFrom_61 ?_
        rw [e36w]
        obtain ⟨v, ev⟩ : ∃ v, v = 10 * x.2 + p := ⟨_, rfl⟩
        rw [← ev]
        have hv7 : cvX (zm_put M3 34 7 v) 22 = cvX M3 22 := cvX_fr (fun k i a b => put_nk _ _ _ _ (by omega))
        have hcw7 : CW (cvX (zm_put M3 34 7 v) 22) := by rw [hv7]; exact hcw3
        have en7 : cn (nrm (nit L 0 E)) t = zm_put M3 34 7 v 25 t := by
          rw [put_nk _ _ _ _ (by decide)]
          exact en3
        have e25 : zm_put M3 34 7 v 25 t = M3 25 t := put_nk _ _ _ _ (by decide)
        have haa := aa6 (a := zm_put M3 34 7 v 25 t) (b := ly) (by omega) hly
        have e346 : zm_put M3 34 7 v 34 6 = n := by rw [put_ni _ _ (by decide), hf3 34 6 (by decide), hfg 34 6 (by decide), hf1 34 6 (by decide), h46, hn]
        refine zr_putI (pc := 62) (z := 7) fX7_35 lo_34 rfl fwX7_7 rfl rfl dX7_findsFrom_62 ?_
        refine zr_aload_n (pc := 65) dX7_findsFrom_65 rfl rfl ?_
        refine zr_getR (pc := 66) fX7_38 lo_22 rfl rfl dX7_findsFrom_66 ?_
        refine zr_iload (pc := 69) dX7_findsFrom_69 rfl ?_
        refine zr_iaload (pc := 71) lo_25 (by omega) dX7_findsFrom_71 ?_
        refine zr_iload (pc := 72) dX7_findsFrom_72 rfl ?_
        refine zr_iand (pc := 74) dX7_findsFrom_74 ?_
        refine zr_iload (pc := 75) dX7_findsFrom_75 rfl ?_
        refine zi_icmp_ne (pc := 77) (tgt := 82) dX7_findsFrom_77 (by decide) (by omega) (by omega) (fun h77 => ?_) (fun h77 => ?_)
        · have hokf : okW t ly (nrm (nit L 0 E), v) = false := decide_eq_false (by rw [show cn (nrm (nit L 0 E), v).1 t = _ from en7]; exact h77)
          have hfn2 : (scN L t x (p + 1).toNat).find? (okW t ly) = none := by
            rw [hS, hsc, List.find?_append, hfn, ← ev]
            simp [hokf]
          refine zr_aload_n (pc := 82) dX7_findsFrom_82 rfl rfl ?_
          refine zr_getI (pc := 83) (z := 6) fX7_32 lo_34 rfl rfl rfl dX7_findsFrom_83 ?_
          refine zr_iconst (pc := 86) dX7_findsFrom_86 ?_
          refine zi_icmp_ge (pc := 87) (tgt := 102) dX7_findsFrom_87 (by decide) (by omega) (by omega) (fun h87 => ?_) (fun h87 => ?_)
          · refine zr_iinc (pc := 102) dX7_findsFrom_102 rfl (Nat.le_of_ble_eq_true rfl) rfl ?_
            refine zr_goto (pc := 105) (tgt := 3) dX7_findsFrom_105 (by decide) ?_
            exact ih _ (by omega) _ _ rfl (by omega) (by omega) (fun k j a => by rw [put_nk _ _ _ _ (by omega), hf3 k j (by omega), hfg k j (by omega), hf1 k j (by omega)]; exact hfr k j a) (by rw [put_ni _ _ (by decide), hf3 34 4 (by decide), hfg 34 4 (by decide), hf1 34 4 (by decide)]; exact h44) (by rw [e346, hn]) (by rw [hv7]; exact hct3) (by rw [hv7]; exact hck3) hfn2 (fun a => by omega) (fun a => by rw [put_ni _ _ (by decide), hf3 34 5 (by decide), hfg 34 5 (by decide), hf1 34 5 (by decide)]; exact h45 a)
          · refine zr_aload_n (pc := 90) dX7_findsFrom_90 rfl rfl ?_
            refine zr_aload_n (pc := 91) dX7_findsFrom_91 rfl rfl ?_
            refine zr_inv0L (pc := 92) rfl sX7_43 lo_22 rfl rfl rfl dX7_findsFrom_92 ?_
            refine ct_X1_packed zp_c22 hcw7 ?_
            rw [hv7, hv3, ← pkE]
            refine zr_aload_n (pc := 95) dX7_findsFrom_95 rfl rfl ?_
            refine zr_getI (pc := 96) (z := 7) fX7_35 lo_34 rfl rfl rfl dX7_findsFrom_96 ?_
            refine zr_inv2V (pc := 99) rfl sX7_69 lo_34 rfl rfl rfl dX7_findsFrom_99 ?_
            rw [put_at]
            have hr4 := hrp (by omega)
            have hlen4 := fol_len (scN L t x p.toNat) N
            have hlen5 := scN_len L t x (10 - (p + 1).toNat) (p + 1).toNat
            rw [show (p + 1).toNat + (10 - (p + 1).toNat) = 10 by omega, hS, hsc, List.length_append] at hlen5
            have hlen6 : (some (nrm (nit L 0 E), 10 * x.2 + p) : Option Wy).toList.length = 1 := rfl
            rw [hlen6] at hlen5
            have hc4 := hcap (by omega)
            refine ct_X7_addNext (N := (scN L t x p.toNat).foldl addN N) (rp_fr hr4.1 (fun j => by rw [put_nk _ _ _ _ (by decide), hf3 37 _ (by decide), hfg 37 _ (by decide), hf1 37 _ (by decide)]) (fun j => by rw [put_nk _ _ _ _ (by decide), hf3 38 _ (by decide), hfg 38 _ (by decide), hf1 38 _ (by decide)])) (by rw [put_ni _ _ (by decide), hf3 34 5 (by decide), hfg 34 5 (by decide), hf1 34 5 (by decide)]; exact hr4.2) (by omega) (pk_rng (CS_sc (y := (nrm (nit L 0 E), 10 * x.2 + p)) hL hcs hsc).1.1) (fun y hy => by
              rcases fol_mem _ _ _ hy with h8 | h8
              · exact pk_rng (hNC y h8).1
              · exact pk_rng (mem_sc hL hcs h8).1.1) (fun M4 hf4 hr5 hs5 => ?_)
            refine zr_iinc (pc := 102) dX7_findsFrom_102 rfl (Nat.le_of_ble_eq_true rfl) rfl ?_
            refine zr_goto (pc := 105) (tgt := 3) dX7_findsFrom_105 (by decide) ?_
            have hv8 : cvX M4 22 = cvX M3 22 := by rw [cvX_fr (fun k i a b => hf4 k i (by omega) (by omega)), hv7]
            exact ih _ (by omega) _ _ rfl (by omega) (by omega) (fun k j a => by rw [hf4 k j (by omega) (by omega), put_nk _ _ _ _ (by omega), hf3 k j (by omega), hfg k j (by omega), hf1 k j (by omega)]; exact hfr k j a) (by rw [hf4 34 4 (by decide) (by decide), put_ni _ _ (by decide), hf3 34 4 (by decide), hfg 34 4 (by decide), hf1 34 4 (by decide)]; exact h44) (by rw [hf4 34 6 (by decide) (by decide), e346, hn]) (by rw [hv8]; exact hct3) (by rw [hv8]; exact hck3) hfn2 (fun a => by
              rw [hS, hsc, ← ev, List.foldl_append]
              exact ⟨hr5, hs5⟩) (fun a => by omega)
        · refine zr_iconst (pc := 80) dX7_findsFrom_80 ?_
          exact zr_zreturn (pc := 81) dX7_findsFrom_81 rfl (by decide) (hyes (nrm (nit L 0 E), v) (by
              have hS10 : ∃ R, scN L t x 10 = scN L t x (p + 1).toNat ++ R := by
                refine ⟨(scN L t x 10).drop (scN L t x (p + 1).toNat).length, ?_⟩
                exact scN_pre L t x (10 - (p + 1).toNat) (p + 1).toNat 10 (by omega)
              obtain ⟨R, hR⟩ := hS10
              have hokt : okW t ly (nrm (nit L 0 E), v) = true := decide_eq_true (by rw [show cn (nrm (nit L 0 E), v).1 t = _ from en7]; exact h77)
              rw [hR, hS, hsc, ← ev, List.find?_append, List.find?_append, hfn]
              simp [hokt]) _ (fun k j a => by rw [put_nk _ _ _ _ (by omega), hf3 k j (by omega), hfg k j (by omega), hf1 k j (by omega)]; exact hfr k j a) e346 (put_at _ _ _ _))
      · refine zr_aload_n (pc := 32) dX7_findsFrom_32 rfl rfl ?_
        refine zr_iload (pc := 33) dX7_findsFrom_33 rfl ?_
        refine zr_iload (pc := 35) dX7_findsFrom_35 rfl ?_
        refine zr_inv2I (pc := 37) rfl sX7_61 lo_22 rfl rfl rfl dX7_findsFrom_37 ?_
        refine ct_X1_goesIfItMay zp_c22 hcw1 (by omega) (by omega) (fun hz => ?_) (fun hz M2 hf2 hv2 => ?_)
        · refine zi_if_eq (pc := 40) (tgt := 102) dX7_findsFrom_40 (by decide) (by decide) (fun h40 => ?_) (fun h40 => ?_)
          · refine zr_iinc (pc := 102) dX7_findsFrom_102 rfl (Nat.le_of_ble_eq_true rfl) rfl ?_
            refine zr_goto (pc := 105) (tgt := 3) dX7_findsFrom_105 (by decide) ?_
            exact ih _ (by omega) _ _ rfl (by omega) (by omega) (fun k j a => by rw [hf1 k j (by omega)]; exact hfr k j a) (by rw [hf1 34 4 (by decide)]; exact h44) (by rw [hf1 34 6 (by decide)]; exact h46) (by rw [hv1]) (by rw [hv1]) (by
              have hsn : scP L t x p = none := by
                unfold scP
                rw [if_neg (by rw [ep1]; exact h29), if_neg (by rw [← hnr]; exact hz)]
              rw [hS, hsn]
              simpa using hfn) (fun a => by
              have hsn : scP L t x p = none := by
                unfold scP
                rw [if_neg (by rw [ep1]; exact h29), if_neg (by rw [← hnr]; exact hz)]
              have h8 := hrp a
              rw [hS, hsn]
              simp only [Option.toList_none, List.append_nil]
              exact ⟨rp_fr h8.1 (fun j => hf1 37 j (by decide)) (fun j => hf1 38 j (by decide)), by rw [hf1 34 5 (by decide)]; exact h8.2⟩) (fun a => by rw [hf1 34 5 (by decide)]; exact h45 a)
          · exact absurd h40 (by decide)
        · refine zi_if_eq (pc := 40) (tgt := 102) dX7_findsFrom_40 (by decide) (by decide) (fun h40 => ?_) (fun h40 => ?_)
          · exact absurd h40 (by decide)
          · have hE : ∃ (E : Cm) (Mg : zm_M), frC 22 M1 Mg ∧ cvX Mg 22 = E ∧ CW E ∧ ct E = ct C ∧ ck E = ck C ∧ scP L t x p = some (nrm (nit L 0 E), 10 * x.2 + p) ∧ Mg = M2 := ⟨cvX M2 22, M2, hf2, rfl, by rw [hv2]; exact CW_go hcw1 hz.1 ⟨hz.2.1.1, by omega⟩, by rw [hv2]; show ct (cvX M1 22) = _; rw [hv1], by rw [hv2]; show ck (cvX M1 22) = _; rw [hv1], by unfold scP; rw [if_neg (by rw [ep1]; exact h29), if_pos (by rw [← hnr]; exact hz), hv2, ← hnr, nrm_go, nit_g], rfl⟩
            obtain ⟨E, Mg, hfg, hvg, hcwE, hctE, hckE, hsc, hMg⟩ := hE
            rw [← hMg]
            have hlg : lvX Mg 13 = L := by rw [lvX_fr (fun k i a b => hfg k i (by omega)), hl1]
            refine zr_aload_n (pc := 43) dX7_findsFrom_43 rfl rfl ?_
            refine zr_aload_n (pc := 44) dX7_findsFrom_44 rfl rfl ?_
            refine zr_iconst (pc := 45) dX7_findsFrom_45 ?_
            refine zr_inv2V (pc := 46) rfl sX7_65 lo_22 rfl rfl rfl dX7_findsFrom_46 ?_
            refine ct_X1_passNight zp_c22 zp_l13 (Or.inl (by decide)) (by rw [hvg]; exact hcwE) (by rw [hlg]; exact hL) ⟨by decide, by decide⟩ (fun M3 hf3 hv3 => ?_)
            rw [hlg, hvg] at hv3
            have hcw3 : CW (cvX M3 22) := by rw [hv3]; exact CW_nit hL hcwE
            have hct3 : ct (cvX M3 22) = ct C := by rw [hv3, nit_ct, hctE]
            have hck3 : ck (cvX M3 22) = ck C := by rw [hv3, nit_ck, hckE]
            have hT3 : M3 22 5 = ct C := hct3
            have hy3 : (0 ≤ M3 23 t ∧ M3 23 t ≤ 9) ∧ (0 ≤ M3 24 t ∧ M3 24 t ≤ 3) ∧ (0 ≤ M3 25 t ∧ M3 25 t < 64) ∧ (0 ≤ M3 26 t ∧ M3 26 t ≤ 9) := wX hcw3 (by rw [hT3]; exact htt)
            have en3 : cn (nrm (nit L 0 E)) t = M3 25 t := by
              show cn (nit L 0 E) t = _
              rw [← hv3]
              exact vX_n (by rw [hT3]; exact htt)
            refine zr_aload_n (pc := 49) dX7_findsFrom_49 rfl rfl ?_
            refine zr_bipush (pc := 50) dX7_findsFrom_50 (by decide) ?_
            refine zr_aload_n (pc := 52) dX7_findsFrom_52 rfl rfl ?_
            refine zr_getR (pc := 53) fX7_15 lo_34 rfl rfl dX7_findsFrom_53 ?_
            refine zr_iload_n (pc := 56) dX7_findsFrom_56 rfl rfl ?_
            have e36w : M3 36 (i : Int) = x.2 := by rw [hf3 36 _ (by decide), hfg 36 _ (by decide), hf1 36 _ (by decide), e36]; exact ex.2
            refine zr_iaload (pc := 57) lo_36 (by show 0 ≤ (i : Int) ∧ (i : Int) < 343; omega) dX7_findsFrom_57 ?_
            refine zr_imul (pc := 58) dX7_findsFrom_58 ?_
            refine zr_iload (pc := 59) dX7_findsFrom_59 rfl ?_
            refine zr_iadd (pc := 61) dX7_findsFrom_61 ?_
            rw [e36w]
            obtain ⟨v, ev⟩ : ∃ v, v = 10 * x.2 + p := ⟨_, rfl⟩
            rw [← ev]
            have hv7 : cvX (zm_put M3 34 7 v) 22 = cvX M3 22 := cvX_fr (fun k i a b => put_nk _ _ _ _ (by omega))
            have hcw7 : CW (cvX (zm_put M3 34 7 v) 22) := by rw [hv7]; exact hcw3
            have en7 : cn (nrm (nit L 0 E)) t = zm_put M3 34 7 v 25 t := by
              rw [put_nk _ _ _ _ (by decide)]
              exact en3
            have e25 : zm_put M3 34 7 v 25 t = M3 25 t := put_nk _ _ _ _ (by decide)
            have haa := aa6 (a := zm_put M3 34 7 v 25 t) (b := ly) (by omega) hly
            have e346 : zm_put M3 34 7 v 34 6 = n := by rw [put_ni _ _ (by decide), hf3 34 6 (by decide), hfg 34 6 (by decide), hf1 34 6 (by decide), h46, hn]
            refine zr_putI (pc := 62) (z := 7) fX7_35 lo_34 rfl fwX7_7 rfl rfl dX7_findsFrom_62 ?_
            refine zr_aload_n (pc := 65) dX7_findsFrom_65 rfl rfl ?_
            refine zr_getR (pc := 66) fX7_38 lo_22 rfl rfl dX7_findsFrom_66 ?_
            refine zr_iload (pc := 69) dX7_findsFrom_69 rfl ?_
            refine zr_iaload (pc := 71) lo_25 (by omega) dX7_findsFrom_71 ?_
            refine zr_iload (pc := 72) dX7_findsFrom_72 rfl ?_
            refine zr_iand (pc := 74) dX7_findsFrom_74 ?_
            refine zr_iload (pc := 75) dX7_findsFrom_75 rfl ?_
            refine zi_icmp_ne (pc := 77) (tgt := 82) dX7_findsFrom_77 (by decide) (by omega) (by omega) (fun h77 => ?_) (fun h77 => ?_)
            · have hokf : okW t ly (nrm (nit L 0 E), v) = false := decide_eq_false (by rw [show cn (nrm (nit L 0 E), v).1 t = _ from en7]; exact h77)
              have hfn2 : (scN L t x (p + 1).toNat).find? (okW t ly) = none := by
                rw [hS, hsc, List.find?_append, hfn, ← ev]
                simp [hokf]
              refine zr_aload_n (pc := 82) dX7_findsFrom_82 rfl rfl ?_
              refine zr_getI (pc := 83) (z := 6) fX7_32 lo_34 rfl rfl rfl dX7_findsFrom_83 ?_
              refine zr_iconst (pc := 86) dX7_findsFrom_86 ?_
              refine zi_icmp_ge (pc := 87) (tgt := 102) dX7_findsFrom_87 (by decide) (by omega) (by omega) (fun h87 => ?_) (fun h87 => ?_)
              · refine zr_iinc (pc := 102) dX7_findsFrom_102 rfl (Nat.le_of_ble_eq_true rfl) rfl ?_
                refine zr_goto (pc := 105) (tgt := 3) dX7_findsFrom_105 (by decide) ?_
                exact ih _ (by omega) _ _ rfl (by omega) (by omega) (fun k j a => by rw [put_nk _ _ _ _ (by omega), hf3 k j (by omega), hfg k j (by omega), hf1 k j (by omega)]; exact hfr k j a) (by rw [put_ni _ _ (by decide), hf3 34 4 (by decide), hfg 34 4 (by decide), hf1 34 4 (by decide)]; exact h44) (by rw [e346, hn]) (by rw [hv7]; exact hct3) (by rw [hv7]; exact hck3) hfn2 (fun a => by omega) (fun a => by rw [put_ni _ _ (by decide), hf3 34 5 (by decide), hfg 34 5 (by decide), hf1 34 5 (by decide)]; exact h45 a)
              · refine zr_aload_n (pc := 90) dX7_findsFrom_90 rfl rfl ?_
                refine zr_aload_n (pc := 91) dX7_findsFrom_91 rfl rfl ?_
                refine zr_inv0L (pc := 92) rfl sX7_43 lo_22 rfl rfl rfl dX7_findsFrom_92 ?_
                refine ct_X1_packed zp_c22 hcw7 ?_
                rw [hv7, hv3, ← pkE]
                refine zr_aload_n (pc := 95) dX7_findsFrom_95 rfl rfl ?_
                refine zr_getI (pc := 96) (z := 7) fX7_35 lo_34 rfl rfl rfl dX7_findsFrom_96 ?_
                refine zr_inv2V (pc := 99) rfl sX7_69 lo_34 rfl rfl rfl dX7_findsFrom_99 ?_
                rw [put_at]
                have hr4 := hrp (by omega)
                have hlen4 := fol_len (scN L t x p.toNat) N
                have hlen5 := scN_len L t x (10 - (p + 1).toNat) (p + 1).toNat
                rw [show (p + 1).toNat + (10 - (p + 1).toNat) = 10 by omega, hS, hsc, List.length_append] at hlen5
                have hlen6 : (some (nrm (nit L 0 E), 10 * x.2 + p) : Option Wy).toList.length = 1 := rfl
                rw [hlen6] at hlen5
                have hc4 := hcap (by omega)
                refine ct_X7_addNext (N := (scN L t x p.toNat).foldl addN N) (rp_fr hr4.1 (fun j => by rw [put_nk _ _ _ _ (by decide), hf3 37 _ (by decide), hfg 37 _ (by decide), hf1 37 _ (by decide)]) (fun j => by rw [put_nk _ _ _ _ (by decide), hf3 38 _ (by decide), hfg 38 _ (by decide), hf1 38 _ (by decide)])) (by rw [put_ni _ _ (by decide), hf3 34 5 (by decide), hfg 34 5 (by decide), hf1 34 5 (by decide)]; exact hr4.2) (by omega) (pk_rng (CS_sc (y := (nrm (nit L 0 E), 10 * x.2 + p)) hL hcs hsc).1.1) (fun y hy => by
                  rcases fol_mem _ _ _ hy with h8 | h8
                  · exact pk_rng (hNC y h8).1
                  · exact pk_rng (mem_sc hL hcs h8).1.1) (fun M4 hf4 hr5 hs5 => ?_)
                refine zr_iinc (pc := 102) dX7_findsFrom_102 rfl (Nat.le_of_ble_eq_true rfl) rfl ?_
                refine zr_goto (pc := 105) (tgt := 3) dX7_findsFrom_105 (by decide) ?_
                have hv8 : cvX M4 22 = cvX M3 22 := by rw [cvX_fr (fun k i a b => hf4 k i (by omega) (by omega)), hv7]
                exact ih _ (by omega) _ _ rfl (by omega) (by omega) (fun k j a => by rw [hf4 k j (by omega) (by omega), put_nk _ _ _ _ (by omega), hf3 k j (by omega), hfg k j (by omega), hf1 k j (by omega)]; exact hfr k j a) (by rw [hf4 34 4 (by decide) (by decide), put_ni _ _ (by decide), hf3 34 4 (by decide), hfg 34 4 (by decide), hf1 34 4 (by decide)]; exact h44) (by rw [hf4 34 6 (by decide) (by decide), e346, hn]) (by rw [hv8]; exact hct3) (by rw [hv8]; exact hck3) hfn2 (fun a => by
                  rw [hS, hsc, ← ev, List.foldl_append]
                  exact ⟨hr5, hs5⟩) (fun a => by omega)
            · refine zr_iconst (pc := 80) dX7_findsFrom_80 ?_
              exact zr_zreturn (pc := 81) dX7_findsFrom_81 rfl (by decide) (hyes (nrm (nit L 0 E), v) (by
                  have hS10 : ∃ R, scN L t x 10 = scN L t x (p + 1).toNat ++ R := by
                    refine ⟨(scN L t x 10).drop (scN L t x (p + 1).toNat).length, ?_⟩
                    exact scN_pre L t x (10 - (p + 1).toNat) (p + 1).toNat 10 (by omega)
                  obtain ⟨R, hR⟩ := hS10
                  have hokt : okW t ly (nrm (nit L 0 E), v) = true := decide_eq_true (by rw [show cn (nrm (nit L 0 E), v).1 t = _ from en7]; exact h77)
                  rw [hR, hS, hsc, ← ev, List.find?_append, List.find?_append, hfn]
                  simp [hokt]) _ (fun k j a => by rw [put_nk _ _ _ _ (by omega), hf3 k j (by omega), hfg k j (by omega), hf1 k j (by omega)]; exact hfr k j a) e346 (put_at _ _ _ _))

set_option maxRecDepth 100000 in
set_option maxHeartbeats 4000000 in
theorem ct_X7_findsFrom {g : zt_G} {M : zm_M} {q : Int → zm_M → Prop} {L : Ln} {C : Cm} {F N : List Wy} {t ly n : Int} {i : Nat} {x : Wy} (hl : lvX M 13 = L) (hL : LW L) (hC : CW C) (hF : rp 35 36 F M) (hx : F[i]? = some x) (hcs : CS C x.1) (hx2 : 0 ≤ x.2 ∧ x.2 < 10000) (hi : i < 343) (ht : cHas C t) (hly : 0 ≤ ly ∧ ly < 64) (hn : M 34 6 = n) (hn2 : 1 ≤ n ∧ n ≤ 4) (hNC : ∀ y ∈ N, CS C y.1) (hcap : n < 4 → N.length + (scN L t x 10).length ≤ 343) (hno : (scN L t x 10).find? (okW t ly) = none → ∀ Mx, (∀ (k : Nat) (i : Int), (k < 22 ∨ (26 < k ∧ k < 34) ∨ k = 35 ∨ k = 36 ∨ 38 < k) → Mx k i = M k i) → Mx 34 4 = M 34 4 → Mx 34 6 = M 34 6 → ct (cvX Mx 22) = ct C → ck (cvX Mx 22) = ck C → (n < 4 → rp 37 38 ((scN L t x 10).foldl addN N) Mx ∧ Mx 34 5 = ((scN L t x 10).foldl addN N).length) → (n = 4 → Mx 34 5 = M 34 5) → q 0 Mx) (hyes : ∀ y, (scN L t x 10).find? (okW t ly) = some y → ∀ Mx, (∀ (k : Nat) (i : Int), (k < 22 ∨ (26 < k ∧ k < 34) ∨ k = 35 ∨ k = 36 ∨ 38 < k) → Mx k i = M k i) → Mx 34 6 = n → Mx 34 7 = y.2 → q 1 Mx) (hctx : ct (cvX M 22) = ct C) (hckx : ck (cvX M 22) = ck C) (hrp : n < 4 → rp 37 38 N M ∧ M 34 5 = N.length) : zc_K g yX7_findsFrom mX7_findsFrom [zv_r 34, zv_i (i : Int), zv_r 22, zv_r 13, zv_i t, zv_i ly] M (zq_I q) := by
  refine zc_of (ls := [some (zv_r 34), some (zv_i (i : Int)), some (zv_r 22), some (zv_r 13), some (zv_i t), some (zv_i ly), none]) (by decide) rfl ⟨rfl, rfl⟩ (Nat.le_of_ble_eq_true rfl) rfl ?_
  refine zr_iconst (pc := 0) dX7_findsFrom_0 ?_
  refine zr_istore (pc := 1) dX7_findsFrom_1 (Nat.le_of_ble_eq_true rfl) rfl ?_
  exact lp_X7_findsFrom (g := g) hl hL hC hF hx hcs hx2 hi ht hly hn hn2 hNC hcap hno hyes _ _ _ rfl (by omega) (by omega) (fun _ _ _ => rfl) rfl rfl hctx hckx rfl hrp (fun _ => rfl)

