/-! soon: all figures, one by one -/
theorem CS_inj {C : Cm} {x y : Cm} (hx : CS C x) (hy : CS C y) (h : pk x = pk y) : x = y := by
  have h1 := pk_inj hx.1 hy.1 hx.2.1 hy.2.1 (hx.2.2.1.trans hy.2.2.1.symm) h
  refine Prod.ext h1.1 (Prod.ext (hx.2.2.2.1.trans hy.2.2.2.1.symm) (Prod.ext h1.2.1 (Prod.ext h1.2.2.1 (Prod.ext h1.2.2.2 (Prod.ext (hx.2.2.1.trans hy.2.2.1.symm) (hx.2.2.2.2.trans hy.2.2.2.2.symm))))))
theorem ded {C : Cm} (P : Cm → Bool) : ∀ (U N : List Wy), (∀ x ∈ N, CS C x.1) → (∀ x ∈ U, CS C x.1) → (U.foldl addN N).find? (fun y => P y.1) = (N ++ U).find? (fun y => P y.1)
  | [], N, _, _ => by rw [List.append_nil]; rfl
  | x :: U, N, hN, hU => by
    show (U.foldl addN (addN N x)).find? _ = _
    have hx := hU x List.mem_cons_self
    have hU2 : ∀ y ∈ U, CS C y.1 := fun y hy => hU y (List.mem_cons_of_mem _ hy)
    by_cases ha : N.any (fun y => decide (pk y.1 = pk x.1)) = true
    · rw [show addN N x = N from if_pos ha, ded P U N hN hU2, List.find?_append, List.find?_append]
      cases hf : N.find? (fun y => P y.1) with
      | some y => rfl
      | none =>
        obtain ⟨y, hy, hp⟩ := List.any_eq_true.mp ha
        have e := CS_inj (hN y hy) hx (of_decide_eq_true hp)
        have h2 := (List.find?_eq_none.mp hf) y hy
        rw [e] at h2
        rw [List.find?_cons_of_neg (p := fun y : Wy => P y.1) (a := x) h2]
    · rw [show addN N x = N ++ [x] from if_neg ha, ded P U (N ++ [x]) (fun y hy => by
        rcases List.mem_append.mp hy with h | h
        · exact hN y h
        · rw [List.mem_singleton.mp h]
          exact hx) hU2, List.append_assoc]
      rfl
/-- one and the same for every question about camps -/
def smq (F U : List Wy) : Prop := ∀ P : Cm → Bool, F.find? (fun y => P y.1) = U.find? (fun y => P y.1)
theorem scP_w (L : Ln) (t : Int) (D : Cm) (w p : Int) : scP L t (D, w) p = (scP L t (D, 0) p).map (fun y => (y.1, 10 * w + p)) := by
  unfold scP
  split
  · rfl
  · split <;> rfl
theorem fm_w (L : Ln) (t : Int) (D : Cm) (w : Int) (P : Cm → Bool) : ∀ S : List Nat, ((S.filterMap (fun (p : Nat) => scP L t (D, w) (p : Int))).find? (fun y => P y.1)).isSome = ((S.filterMap (fun (p : Nat) => scP L t (D, 0) (p : Int))).find? (fun y => P y.1)).isSome
  | [] => rfl
  | p :: S => by
    have ih := fm_w L t D w P S
    have e := scP_w L t D w (p : Int)
    cases h : scP L t (D, 0) (p : Int) with
    | none =>
      rw [h] at e
      rw [List.filterMap_cons_none (f := fun (p : Nat) => scP L t (D, w) (p : Int)) e, List.filterMap_cons_none (f := fun (p : Nat) => scP L t (D, 0) (p : Int)) h]
      exact ih
    | some y =>
      rw [h] at e
      rw [List.filterMap_cons_some (f := fun (p : Nat) => scP L t (D, w) (p : Int)) e, List.filterMap_cons_some (f := fun (p : Nat) => scP L t (D, 0) (p : Int)) h]
      by_cases hp : P y.1 = true
      · rw [List.find?_cons_of_pos (by exact hp), List.find?_cons_of_pos (by exact hp)]
        rfl
      · rw [List.find?_cons_of_neg (by exact hp), List.find?_cons_of_neg (by exact hp)]
        exact ih
theorem fl_find {α β : Type} (f : α → List β) (P : β → Bool) : ∀ F : List α, (F.flatMap f).find? P = (F.find? (fun x => ((f x).find? P).isSome)).bind (fun x => (f x).find? P)
  | [] => rfl
  | x :: F => by
    rw [List.flatMap_cons, List.find?_append, fl_find f P F]
    cases h : (f x).find? P with
    | none =>
      rw [List.find?_cons_of_neg (by rw [h]; exact Bool.false_ne_true)]
      rfl
    | some y =>
      rw [List.find?_cons_of_pos (by rw [h]; rfl)]
      show some y = (f x).find? P
      rw [h]
theorem smq_fl {L : Ln} {t : Int} {F U : List Wy} (h : smq F U) : smq (flS L t F) (flS L t U) := by
  intro P
  unfold flS
  rw [fl_find, fl_find]
  have e : ∀ x : Wy, ((scN L t x 10).find? (fun y => P y.1)).isSome = ((scN L t (x.1, 0) 10).find? (fun y => P y.1)).isSome := fun x => fm_w L t x.1 x.2 P _
  have e2 : (fun x : Wy => ((scN L t x 10).find? (fun y => P y.1)).isSome) = (fun x : Wy => (fun D : Cm => ((scN L t (D, 0) 10).find? (fun y => P y.1)).isSome) x.1) := funext e
  rw [e2, h (fun D : Cm => ((scN L t (D, 0) 10).find? (fun y => P y.1)).isSome)]
def Un (L : Ln) (t : Int) (C : Cm) : Nat → List Wy
  | 0 => [(nrm C, 0)]
  | n + 1 => flS L t (Un L t C n)
def mR (L : Ln) (t ly : Int) (C : Cm) : Nat → Nat → Option (Int × Int)
  | 0, _ => none
  | m + 1, n => match (Un L t C n).find? (okW t ly) with
    | some x => some ((n : Int), x.2)
    | none => mR L t ly C m (n + 1)
theorem Un_CS {L : Ln} {t : Int} {C : Cm} (hL : LW L) (hC : CW C) (hZ : CZ C) : ∀ n : Nat, ∀ x ∈ Un L t C n, CS C x.1
  | 0, x, hx => by
    rw [List.mem_singleton.mp hx]
    exact ⟨hC, hZ, rfl, rfl, rfl⟩
  | n + 1, x, hx => by
    unfold Un flS at hx
    obtain ⟨y, hy, hx2⟩ := List.mem_flatMap.mp hx
    exact (mem_sc hL (Un_CS hL hC hZ n y hy) hx2).1
theorem fl_CS2 {L : Ln} {C : Cm} {t : Int} {F : List Wy} (hL : LW L) (h : ∀ x ∈ F, CS C x.1) : ∀ y ∈ flS L t F, CS C y.1 := by
  intro y hy
  unfold flS at hy
  obtain ⟨x, hx, hy2⟩ := List.mem_flatMap.mp hy
  exact (mem_sc hL (h x hx) hy2).1
theorem okW_q (t ly : Int) : (okW t ly) = (fun y : Wy => (fun D : Cm => decide (zb_and (cn D t) ly = ly)) y.1) := rfl
theorem bfs_mR {L : Ln} {t ly : Int} {C : Cm} (hL : LW L) (hC : CW C) (hZ : CZ C) : ∀ (m n : Nat) (F : List Wy), (∀ x ∈ F, CS C x.1) → smq F (Un L t C n) → bfs L t ly m ((n : Int) + 1) F = mR L t ly C m (n + 1)
  | 0, n, F, _, _ => rfl
  | m + 1, n, F, hF, h => by
    rw [bfs_s]
    have h2 : smq (flS L t F) (Un L t C (n + 1)) := smq_fl h
    have e : (flS L t F).find? (okW t ly) = (Un L t C (n + 1)).find? (okW t ly) := by
      exact h2 (fun D : Cm => decide (zb_and (cn D t) ly = ly))
    unfold mR
    rw [e]
    cases hx : (Un L t C (n + 1)).find? (okW t ly) with
    | some x => rfl
    | none =>
      dsimp only
      have h3 := fl_CS2 (t := t) hL hF
      refine bfs_mR hL hC hZ m (n + 1) ((flS L t F).foldl addN []) (fun x hx2 => ?_) (fun P => ?_)
      · rcases fol_mem _ _ _ hx2 with h8 | h8
        · cases h8
        · exact h3 x h8
      · rw [ded (C := C) P _ [] (fun x hx2 => by cases hx2) h3]
        exact h2 P
theorem son_mR {L : Ln} {t ly : Int} {C : Cm} (hL : LW L) (hC : CW C) (hZ : CZ C) : sonR t ly L C = mR L t ly C 5 0 := by
  unfold sonR mR
  by_cases h : okW t ly (nrm C, 0) = true
  · rw [if_pos h, show (Un L t C 0).find? (okW t ly) = some (nrm C, 0) from List.find?_cons_of_pos h]
    rfl
  · rw [if_neg h, show (Un L t C 0).find? (okW t ly) = none from by
      show List.find? (okW t ly) [(nrm C, 0)] = none
      rw [List.find?_cons_of_neg h]
      rfl]
    exact bfs_mR hL hC hZ 4 0 [(nrm C, 0)] (fun x hx => by
      rw [List.mem_singleton.mp hx]
      exact ⟨hC, hZ, rfl, rfl, rfl⟩) (fun P => rfl)
/-- by figures -/
def Gf (L : Ln) (t : Int) (C : Cm) : Nat → Nat → Option Wy
  | 0, _ => some (nrm C, 0)
  | n + 1, f => (Gf L t C n (f / 10)).bind (fun x => scP L t x ((f % 10 : Nat) : Int))
theorem rg10 : ∀ n : Nat, List.range (n * 10) = (List.range n).flatMap (fun i => (List.range 10).map (fun j => i * 10 + j))
  | 0 => rfl
  | n + 1 => by
    have e1 : List.range (n + 1) = List.range n ++ [n] := List.range_succ
    rw [e1, List.flatMap_append, ← rg10 n, show (n + 1) * 10 = n * 10 + 10 by omega, List.range_add]
    congr 1
theorem fmc {α β : Type} {f g : α → Option β} : ∀ {l : List α}, (∀ a ∈ l, f a = g a) → l.filterMap f = l.filterMap g
  | [], _ => rfl
  | a :: l, h => by
    have h1 := h a List.mem_cons_self
    have ih := fmc (l := l) (fun b hb => h b (List.mem_cons_of_mem _ hb))
    cases e : f a with
    | none => rw [List.filterMap_cons_none e, List.filterMap_cons_none (by rw [← h1]; exact e), ih]
    | some x => rw [List.filterMap_cons_some e, List.filterMap_cons_some (by rw [← h1]; exact e), ih]
theorem fm_fl {α β γ : Type} (f : α → Option β) (g : β → List γ) : ∀ l : List α, (l.filterMap f).flatMap g = l.flatMap (fun a => match f a with | none => [] | some x => g x)
  | [] => rfl
  | a :: l => by
    rw [List.flatMap_cons, ← fm_fl f g l]
    cases h : f a with
    | none => rw [List.filterMap_cons_none h]; rfl
    | some x => rw [List.filterMap_cons_some h, List.flatMap_cons]
theorem Un_G (L : Ln) (t : Int) (C : Cm) : ∀ n : Nat, Un L t C n = (List.range (10 ^ n)).filterMap (Gf L t C n)
  | 0 => rfl
  | n + 1 => by
    show flS L t (Un L t C n) = _
    rw [Un_G L t C n, Nat.pow_succ, rg10, List.filterMap_flatMap]
    unfold flS
    rw [fm_fl]
    congr 1
    funext f
    have e : ∀ j : Nat, j < 10 → Gf L t C (n + 1) (f * 10 + j) = (Gf L t C n f).bind (fun x => scP L t x (j : Int)) := by
      intro j hj
      show (Gf L t C n ((f * 10 + j) / 10)).bind (fun x => scP L t x (((f * 10 + j) % 10 : Nat) : Int)) = _
      rw [show (f * 10 + j) / 10 = f by omega, show (f * 10 + j) % 10 = j by omega]
    rw [List.filterMap_map]
    cases h : Gf L t C n f with
    | none =>
      symm
      rw [List.filterMap_eq_nil_iff]
      intro j hj
      show Gf L t C (n + 1) (f * 10 + j) = none
      rw [e j (List.mem_range.mp hj), h]
      rfl
    | some x =>
      show scN L t x 10 = _
      unfold scN
      refine fmc (fun j hj => ?_)
      show _ = Gf L t C (n + 1) (f * 10 + j)
      rw [e j (List.mem_range.mp hj), h]
      rfl
theorem Gf_2 {L : Ln} {t : Int} {C : Cm} : ∀ (n f : Nat) (x : Wy), f < 10 ^ n → Gf L t C n f = some x → x.2 = (f : Int)
  | 0, f, x, hf, h => by
    cases h
    show (0 : Int) = _
    have : (10 : Nat) ^ 0 = 1 := rfl
    omega
  | n + 1, f, x, hf, h => by
    have hp : (10 : Nat) ^ (n + 1) = 10 ^ n * 10 := Nat.pow_succ _ _
    unfold Gf at h
    cases h2 : Gf L t C n (f / 10) with
    | none =>
      rw [h2] at h
      cases h
    | some y =>
      rw [h2] at h
      have ih := Gf_2 n (f / 10) y (by omega) h2
      have h3 : scP L t y ((f % 10 : Nat) : Int) = some x := h
      have h4 : x.2 = 10 * y.2 + ((f % 10 : Nat) : Int) := by
        unfold scP at h3
        split at h3
        · cases h3
          rfl
        · split at h3
          · cases h3
            rfl
          · cases h3
      rw [h4, ih]
      omega
theorem Gf_no {L : Ln} {t : Int} {C : Cm} {f : Nat} : ∀ (j n : Nat), Gf L t C n (f / 10 ^ j) = none → Gf L t C (n + j) f = none
  | 0, n, h => by
    rw [Nat.pow_zero, Nat.div_one] at h
    exact h
  | j + 1, n, h => by
    have h2 : Gf L t C (n + 1) (f / 10 ^ j) = none := by
      show (Gf L t C n (f / 10 ^ j / 10)).bind _ = none
      rw [Nat.div_div_eq_div_mul, ← Nat.pow_succ, h]
      rfl
    have h3 := Gf_no j (n + 1) h2
    rw [show n + (j + 1) = n + 1 + j by omega]
    exact h3
def kbB (L : Ln) (t ly : Int) (C : Cm) (n f : Nat) : Bool := match Gf L t C n f with
  | none => false
  | some x => okW t ly x
theorem find_y {L : Ln} {t ly : Int} {C : Cm} {n f : Nat} (hf : f < 10 ^ n) (hy : kbB L t ly C n f = true) (hn : ∀ g, g < f → kbB L t ly C n g = false) : ∃ x, (Un L t C n).find? (okW t ly) = some x ∧ x.2 = (f : Int) := by
  unfold kbB at hy
  cases h : Gf L t C n f with
  | none =>
    rw [h] at hy
    cases hy
  | some x =>
    rw [h] at hy
    have hy2 : okW t ly x = true := hy
    refine ⟨x, ?_, Gf_2 n f x hf h⟩
    rw [Un_G, show 10 ^ n = f + (10 ^ n - f - 1 + 1) by omega, List.range_add, List.filterMap_append, List.find?_append]
    have e1 : ((List.range f).filterMap (Gf L t C n)).find? (okW t ly) = none := by
      rw [List.find?_eq_none]
      intro y hy2 hy3
      obtain ⟨g, hg, hG⟩ := List.mem_filterMap.mp hy2
      have h9 := hn g (List.mem_range.mp hg)
      unfold kbB at h9
      rw [hG] at h9
      dsimp only at h9
      rw [h9] at hy3
      cases hy3
    rw [e1, List.range_succ_eq_map, List.map_cons, List.filterMap_cons_some (by rw [Nat.add_zero]; exact h), List.find?_cons_of_pos hy2]
    rfl
theorem find_n {L : Ln} {t ly : Int} {C : Cm} {n : Nat} (hn : ∀ g, g < 10 ^ n → kbB L t ly C n g = false) : (Un L t C n).find? (okW t ly) = none := by
  rw [Un_G, List.find?_eq_none]
  intro y hy2 hy3
  obtain ⟨g, hg, hG⟩ := List.mem_filterMap.mp hy2
  have h9 := hn g (List.mem_range.mp hg)
  unfold kbB at h9
  rw [hG] at h9
  dsimp only at h9
  rw [h9] at hy3
  cases hy3
set_option maxRecDepth 100000 in
set_option maxHeartbeats 4000000 in
theorem lp_X11_tenTo {g : zt_G} {M : zm_M} {q : Int → zm_M → Prop} {n : Nat} (hn : n ≤ 4) (h : q ((10 ^ n : Nat) : Int) M) : ∀ (nn : Nat) (p k : Int), ((n : Int) - k).toNat = nn → 0 ≤ k → k ≤ n → p = ((10 ^ k.toNat : Nat) : Int) → zc_Z g mX11_tenTo 4 [some (zv_i (n : Int)), some (zv_i p), some (zv_i k)] [] M (zq_I q) := by
  intro nn
  induction nn using Nat.strongRecOn with
  | ind nn ih =>
    intro p k hnn h0 h1 hp
    refine zr_iload_n (pc := 4) dX11_tenTo_4 rfl rfl ?_
    refine zr_iload_n (pc := 5) dX11_tenTo_5 rfl rfl ?_
    refine zi_icmp_ge (pc := 6) (tgt := 20) dX11_tenTo_6 (by decide) (by omega) (by omega) (fun h6 => ?_) (fun h6 => ?_)
    · refine zr_iload_n (pc := 20) dX11_tenTo_20 rfl rfl ?_
      exact zr_ireturn (pc := 21) dX11_tenTo_21 rfl (zq_eq h (by rw [hp, show k.toNat = n by omega]))
    · refine zr_iload_n (pc := 9) dX11_tenTo_9 rfl rfl ?_
      refine zr_bipush (pc := 10) dX11_tenTo_10 (by decide) ?_
      refine zr_imul (pc := 12) dX11_tenTo_12 ?_
      refine zr_istore_n (pc := 13) dX11_tenTo_13 rfl (Nat.le_of_ble_eq_true rfl) rfl ?_
      refine zr_iinc (pc := 14) dX11_tenTo_14 rfl (Nat.le_of_ble_eq_true rfl) rfl ?_
      refine zr_goto (pc := 17) (tgt := 4) dX11_tenTo_17 (by decide) ?_
      exact ih _ (by omega) _ _ rfl (by omega) (by omega) (by rw [hp, show (k + 1).toNat = k.toNat + 1 by omega, Nat.pow_succ]; simp)

set_option maxRecDepth 100000 in
set_option maxHeartbeats 4000000 in
theorem ct_X11_tenTo {g : zt_G} {M : zm_M} {q : Int → zm_M → Prop} {n : Nat} (hn : n ≤ 4) (h : q ((10 ^ n : Nat) : Int) M) : zc_K g yX11_tenTo mX11_tenTo [zv_i (n : Int)] M (zq_I q) := by
  refine zc_of (ls := [some (zv_i (n : Int)), none, none]) (by decide) rfl ⟨rfl, rfl⟩ (Nat.le_of_ble_eq_true rfl) rfl ?_
  refine zr_iconst (pc := 0) dX11_tenTo_0 ?_
  refine zr_istore_n (pc := 1) dX11_tenTo_1 rfl (Nat.le_of_ble_eq_true rfl) rfl ?_
  refine zr_iconst (pc := 2) dX11_tenTo_2 ?_
  refine zr_istore_n (pc := 3) dX11_tenTo_3 rfl (Nat.le_of_ble_eq_true rfl) rfl ?_
  exact lp_X11_tenTo hn h _ _ _ rfl (by omega) (by omega) rfl

theorem t10 {n : Nat} (h : n ≤ 4) : 1 ≤ 10 ^ n ∧ 10 ^ n ≤ 10000 := by
  rcases (by omega : n = 0 ∨ n = 1 ∨ n = 2 ∨ n = 3 ∨ n = 4) with e | e | e | e | e <;> rw [e] <;> decide
theorem xnot_ok : ∀ a : Nat, a < 64 → ∀ b : Nat, b < 64 → (zb_and (b : Int) (zb_xor (a : Int) (-1)) = 0 ↔ zb_and (a : Int) (b : Int) = (b : Int)) ∧ 0 ≤ zb_and (b : Int) (zb_xor (a : Int) (-1)) ∧ zb_and (b : Int) (zb_xor (a : Int) (-1)) < 64 := by decide +kernel
theorem xnot {a b : Int} (ha : 0 ≤ a ∧ a < 64) (hb : 0 ≤ b ∧ b < 64) : (zb_and b (zb_xor a (-1)) = 0 ↔ zb_and a b = b) ∧ 0 ≤ zb_and b (zb_xor a (-1)) ∧ zb_and b (zb_xor a (-1)) < 64 := by
  obtain ⟨a, rfl⟩ := Int.eq_ofNat_of_zero_le ha.1
  obtain ⟨b, rfl⟩ := Int.eq_ofNat_of_zero_le hb.1
  exact xnot_ok a (by omega) b (by omega)
theorem Gf_s {L : Ln} {t : Int} {C : Cm} {n f : Nat} {k : Nat} (hk : k < n) : Gf L t C (k + 1) (f / 10 ^ (n - 1 - k)) = (Gf L t C k (f / 10 ^ (n - k))).bind (fun x => scP L t x ((f / 10 ^ (n - 1 - k) % 10 : Nat) : Int)) := by
  show (Gf L t C k (f / 10 ^ (n - 1 - k) / 10)).bind _ = _
  rw [Nat.div_div_eq_div_mul, ← Nat.pow_succ, show Nat.succ (n - 1 - k) = n - k by omega]
set_option maxRecDepth 100000 in
set_option maxHeartbeats 4000000 in
theorem lp_X11_knowsBy {g : zt_G} {M : zm_M} {q : Int → zm_M → Prop} {C : Cm} {L : Ln} (hc0 : cvG M 51 (14 * 0) = C) (hC : CW C) (hl0 : lvM M = L) (hL : LW L) (hcd : M 46 18 = 0) {t ly : Int} (ht : cHas C t) (hly : 0 ≤ ly ∧ ly < 64) {n f : Nat} (hn : n ≤ 4) (hf : f < 10 ^ n) (h : ∀ M2, frW 1 M M2 → q (zb_B (kbB L t ly C n f = true)) M2) : ∀ (nn : Nat) (k : Int) (x6 : Option zv_A) (Mx : zm_M), ((n : Int) - k).toNat = nn → 0 ≤ k → k ≤ n → frW 1 M Mx → CW (cvG Mx 51 (14 * 1)) → (∃ x, Gf L t C k.toNat (f / 10 ^ (n - k.toNat)) = some x ∧ x.1 = nrm (cvG Mx 51 (14 * 1))) → zc_Z g mX11_knowsBy 7 [some (zv_r 46), some (zv_i t), some (zv_i ly), some (zv_i (f : Int)), some (zv_i (n : Int)), some (zv_i k), x6] [] Mx (zq_I q) := by
  intro nn
  induction nn using Nat.strongRecOn with
  | ind nn ih =>
    intro k x6 Mx hnn h0 h1 hfr hCx hG
    obtain ⟨x, hG1, hx1⟩ := hG
    have hT : M 46 1 = ct C := by rw [← hc0]; rfl
    have htt : 0 ≤ t ∧ t < ct C := ht
    have hT4 := hC.1
    have hTx : Mx 46 1 = ct C := by rw [hfr _ _ (by omega)]; exact hT
    have hlx : lvM Mx = L := by rw [lvM_fr (hfr _ _ (by omega)) (fun k i a b => hfr k i (by omega))]; exact hl0
    have ecx : Mx 46 18 = 0 := by rw [hfr _ _ (by omega)]; exact hcd
    have en : cn (cvG Mx 51 (14 * 1)) t = Mx 51 (18 + t) := vG_n (by omega) (by omega)
    have ep : cp (cvG Mx 51 (14 * 1)) t = Mx 51 (14 + t) := vG_p (by omega) (by omega)
    have hwi := hCx.2.2 t
    have ht10 := t10 hn
    refine zr_iload (pc := 7) dX11_knowsBy_7 rfl ?_
    refine zr_iload (pc := 9) dX11_knowsBy_9 rfl ?_
    refine zi_icmp_ge (pc := 11) (tgt := 80) dX11_knowsBy_11 (by decide) (by omega) (by omega) (fun h11 => ?_) (fun h11 => ?_)
    · rw [en] at hwi
      have hxn := xnot hwi.2.2.1 hly
      have hkn : k.toNat = n := by omega
      rw [hkn, Nat.sub_self, Nat.pow_zero, Nat.div_one] at hG1
      have hkb : kbB L t ly C n f = decide (zb_and (Mx 51 (18 + t)) ly = ly) := by
        unfold kbB
        rw [hG1]
        show decide (zb_and (cn x.1 t) ly = ly) = _
        rw [hx1]
        show decide (zb_and (cn (cvG Mx 51 (14 * 1)) t) ly = ly) = _
        rw [en]
      refine zr_iload_n (pc := 80) dX11_knowsBy_80 rfl rfl ?_
      refine zr_aload_n (pc := 81) dX11_knowsBy_81 rfl rfl ?_
      refine zr_getR (pc := 82) fX11_22 lo_46 rfl rfl dX11_knowsBy_82 ?_
      refine zr_bipush (pc := 85) dX11_knowsBy_85 (by decide) ?_
      refine zr_iload_n (pc := 87) dX11_knowsBy_87 rfl rfl ?_
      refine zr_iadd (pc := 88) dX11_knowsBy_88 ?_
      refine zr_iaload (pc := 89) lo_51 (by omega) dX11_knowsBy_89 ?_
      refine zr_iconst (pc := 90) dX11_knowsBy_90 ?_
      refine zr_ixor (pc := 91) dX11_knowsBy_91 ?_
      refine zr_iand (pc := 92) dX11_knowsBy_92 ?_
      refine zi_if_ne (pc := 93) (tgt := 100) dX11_knowsBy_93 (by decide) (by omega) (fun h93 => ?_) (fun h93 => ?_)
      · refine zr_iconst (pc := 100) dX11_knowsBy_100 ?_
        exact zr_zreturn (pc := 101) dX11_knowsBy_101 rfl (by decide) (zq_eq (h Mx hfr) (zb_F (fun y => h93 (hxn.1.mpr (of_decide_eq_true (by rw [← hkb]; exact y))))))
      · refine zr_iconst (pc := 96) dX11_knowsBy_96 ?_
        refine zr_goto (pc := 97) (tgt := 101) dX11_knowsBy_97 (by decide) ?_
        exact zr_zreturn (pc := 101) dX11_knowsBy_101 rfl (by decide) (zq_eq (h Mx hfr) (zb_T (by rw [hkb]; exact decide_eq_true (hxn.1.mp h93))))
    · have hk1 : (n : Int) - 1 - k = ((n - 1 - k.toNat : Nat) : Int) := by omega
      have ht1 := t10 (n := n - 1 - k.toNat) (by omega)
      have hst := Gf_s (L := L) (t := t) (C := C) (n := n) (f := f) (k := k.toNat) (by omega)
      rw [hG1] at hst
      have hst2 : Gf L t C (k + 1).toNat (f / 10 ^ (n - (k + 1).toNat)) = scP L t x ((f / 10 ^ (n - 1 - k.toNat) % 10 : Nat) : Int) := by
        rw [show (k + 1).toNat = k.toNat + 1 by omega, show n - (k.toNat + 1) = n - 1 - k.toNat by omega]
        exact hst
      refine zr_iload_n (pc := 14) dX11_knowsBy_14 rfl rfl ?_
      refine zr_iload (pc := 15) dX11_knowsBy_15 rfl ?_
      refine zr_iconst (pc := 17) dX11_knowsBy_17 ?_
      refine zr_isub (pc := 18) dX11_knowsBy_18 ?_
      refine zr_iload (pc := 19) dX11_knowsBy_19 rfl ?_
      refine zr_isub (pc := 21) dX11_knowsBy_21 ?_
      refine zr_stat1I (pc := 22) rfl sX11_198 rfl rfl dX11_knowsBy_22 ?_
      rw [hk1]
      refine ct_X11_tenTo (by omega) ?_
      refine zr_idiv (pc := 25) (by omega) (by omega) dX11_knowsBy_25 ?_
      refine zr_bipush (pc := 26) dX11_knowsBy_26 (by decide) ?_
      refine zr_irem (pc := 28) ⟨Int.ediv_nonneg (by omega) (by omega), by have := Int.ediv_le_self ((10 ^ (n - 1 - k.toNat) : Nat) : Int) (show (0 : Int) ≤ (f : Int) by omega); omega⟩ (by decide) dX11_knowsBy_28 ?_
      refine zr_istore (pc := 29) dX11_knowsBy_29 (Nat.le_of_ble_eq_true rfl) rfl ?_
      have epl : (f : Int) / ((10 ^ (n - 1 - k.toNat) : Nat) : Int) % 10 = ((f / 10 ^ (n - 1 - k.toNat) % 10 : Nat) : Int) := by
        rw [← Int.natCast_ediv]
        omega
      rw [epl]
      obtain ⟨p, hp⟩ : ∃ p, p = ((f / 10 ^ (n - 1 - k.toNat) % 10 : Nat) : Int) := ⟨_, rfl⟩
      rw [← hp] at hst2 ⊢
      have hpi : 0 ≤ p ∧ p < 10 := by omega
      have hcx : cp x.1 t = Mx 51 (14 + t) := by rw [hx1]; exact ep
      rw [ep] at hwi
      have hmy : cMay x.1 t p ↔ cMay (cvG Mx 51 (14 * 1)) t p := by rw [hx1]; exact Iff.rfl
      refine zr_aload_n (pc := 31) dX11_knowsBy_31 rfl rfl ?_
      refine zr_iconst (pc := 32) dX11_knowsBy_32 ?_
      refine zr_iload_n (pc := 33) dX11_knowsBy_33 rfl rfl ?_
      refine zr_iload (pc := 34) dX11_knowsBy_34 rfl ?_
      refine zr_inv3I (pc := 36) rfl sX11_176 lo_46 rfl rfl rfl dX11_knowsBy_36 ?_
      refine ct_X11_canWalk (by decide) hCx (by omega) (by omega) ?_
      refine zr_ifb_eq (pc := 39) (tgt := 53) dX11_knowsBy_39 (by decide) (fun h39 => ?_) (fun h39 => ?_)
      · refine zr_aload_n (pc := 53) dX11_knowsBy_53 rfl rfl ?_
        refine zr_getR (pc := 54) fX11_22 lo_46 rfl rfl dX11_knowsBy_54 ?_
        refine zr_bipush (pc := 57) dX11_knowsBy_57 (by decide) ?_
        refine zr_iload_n (pc := 59) dX11_knowsBy_59 rfl rfl ?_
        refine zr_iadd (pc := 60) dX11_knowsBy_60 ?_
        refine zr_iaload (pc := 61) lo_51 (by omega) dX11_knowsBy_61 ?_
        refine zr_iload (pc := 62) dX11_knowsBy_62 rfl ?_
        refine zi_icmp_eq (pc := 64) (tgt := 69) dX11_knowsBy_64 (by decide) (by omega) (by omega) (fun h64 => ?_) (fun h64 => ?_)
        · refine zr_aload_n (pc := 69) dX11_knowsBy_69 rfl rfl ?_
          refine zr_iconst (pc := 70) dX11_knowsBy_70 ?_
          refine zr_inv1V (pc := 71) rfl sX11_167 lo_46 rfl rfl rfl dX11_knowsBy_71 ?_
          refine ct_X11_passOn (by decide) hCx (by rw [hlx]; exact hL) (by rw [ecx]; decide) (fun M3 hf3 hv3 => ?_)
          rw [hlx, ecx] at hv3
          have hfr3 := hfr.tr hf3
          have hC3 : CW (cvG M3 51 (14 * 1)) := by rw [hv3]; exact CW_nit hL hCx
          have hs3 : scP L t x p = some (nrm (cvG M3 51 (14 * 1)), 10 * x.2 + p) := by
            unfold scP
            rw [if_pos (by rw [hcx]; exact h64), hv3, hx1, nit_g]
          refine zr_iinc (pc := 74) dX11_knowsBy_74 rfl (Nat.le_of_ble_eq_true rfl) rfl ?_
          refine zr_goto (pc := 77) (tgt := 7) dX11_knowsBy_77 (by decide) ?_
          exact ih _ (by omega) _ _ _ rfl (by omega) (by omega) hfr3 hC3 ⟨_, by rw [hst2]; exact hs3, rfl⟩
        · refine zr_iconst (pc := 67) dX11_knowsBy_67 ?_
          exact zr_zreturn (pc := 68) dX11_knowsBy_68 rfl (by decide) (zq_eq (h Mx hfr) (zb_F (fun y => by
              have hs4 : scP L t x p = none := by
                unfold scP
                rw [if_neg (by rw [hcx]; exact h64), if_neg (fun z => h39 (hmy.mp z))]
              rw [hs4] at hst2
              have h9 := Gf_no (L := L) (t := t) (C := C) (n - (k + 1).toNat) (k + 1).toNat hst2
              rw [show (k + 1).toNat + (n - (k + 1).toNat) = n by omega] at h9
              unfold kbB at y
              rw [h9] at y
              cases y)))
      · refine zr_aload_n (pc := 42) dX11_knowsBy_42 rfl rfl ?_
        refine zr_iconst (pc := 43) dX11_knowsBy_43 ?_
        refine zr_iload_n (pc := 44) dX11_knowsBy_44 rfl rfl ?_
        refine zr_iload (pc := 45) dX11_knowsBy_45 rfl ?_
        refine zr_inv3V (pc := 47) rfl sX11_180 lo_46 rfl rfl rfl dX11_knowsBy_47 ?_
        refine ct_X11_walkOn (by decide) hCx h39.1 (fun M2 hf2 hv2 => ?_)
        refine zr_goto (pc := 50) (tgt := 69) dX11_knowsBy_50 (by decide) ?_
        refine zr_aload_n (pc := 69) dX11_knowsBy_69 rfl rfl ?_
        refine zr_iconst (pc := 70) dX11_knowsBy_70 ?_
        refine zr_inv1V (pc := 71) rfl sX11_167 lo_46 rfl rfl rfl dX11_knowsBy_71 ?_
        refine ct_X11_passOn (by decide) (by rw [hv2]; exact CW_go hCx h39.1 (by omega)) (by rw [lvM_fr (hf2 _ _ (by omega)) (fun k i a b => hf2 k i (by omega)), hlx]; exact hL) (by rw [hf2 _ _ (by omega), ecx]; decide) (fun M3 hf3 hv3 => ?_)
        rw [hv2, hf2 46 18 (by omega), ecx, lvM_fr (M2 := M2) (hf2 _ _ (by omega)) (fun k i a b => hf2 k i (by omega)), hlx] at hv3
        have hfr3 := (hfr.tr hf2).tr hf3
        have hC3 : CW (cvG M3 51 (14 * 1)) := by rw [hv3]; exact CW_nit hL (CW_go hCx h39.1 (by omega))
        have hs3 : scP L t x p = some (nrm (cvG M3 51 (14 * 1)), 10 * x.2 + p) := by
          unfold scP
          rw [if_neg (fun y => (hmy.mpr h39).2.2.2.2.1 y), if_pos (hmy.mpr h39), hv3, hx1, nrm_go, nit_g]
        refine zr_iinc (pc := 74) dX11_knowsBy_74 rfl (Nat.le_of_ble_eq_true rfl) rfl ?_
        refine zr_goto (pc := 77) (tgt := 7) dX11_knowsBy_77 (by decide) ?_
        exact ih _ (by omega) _ _ _ rfl (by omega) (by omega) hfr3 hC3 ⟨_, by rw [hst2]; exact hs3, rfl⟩

set_option maxRecDepth 100000 in
set_option maxHeartbeats 4000000 in
theorem ct_X11_knowsBy {g : zt_G} {M : zm_M} {q : Int → zm_M → Prop} {C : Cm} {L : Ln} (hc0 : cvG M 51 (14 * 0) = C) (hC : CW C) (hl0 : lvM M = L) (hL : LW L) (hcd : M 46 18 = 0) {t ly : Int} (ht : cHas C t) (hly : 0 ≤ ly ∧ ly < 64) {n f : Nat} (hn : n ≤ 4) (hf : f < 10 ^ n) (h : ∀ M2, frW 1 M M2 → q (zb_B (kbB L t ly C n f = true)) M2) : zc_K g yX11_knowsBy mX11_knowsBy [zv_r 46, zv_i t, zv_i ly, zv_i (f : Int), zv_i (n : Int)] M (zq_I q) := by
  refine zc_of (ls := [some (zv_r 46), some (zv_i t), some (zv_i ly), some (zv_i (f : Int)), some (zv_i (n : Int)), none, none]) (by decide) rfl ⟨rfl, rfl⟩ (Nat.le_of_ble_eq_true rfl) rfl ?_
  refine zr_aload_n (pc := 0) dX11_knowsBy_0 rfl rfl ?_
  refine zr_inv0V (pc := 1) rfl sX11_195 lo_46 rfl rfl rfl dX11_knowsBy_1 ?_
  refine ct_X11_layTrial (by rw [show M 46 1 = ct C by rw [← hc0]; rfl]; exact hC.1.2) (fun M1 hf1 hv1 => ?_)
  rw [hc0] at hv1
  refine zr_iconst (pc := 4) dX11_knowsBy_4 ?_
  refine zr_istore (pc := 5) dX11_knowsBy_5 (Nat.le_of_ble_eq_true rfl) rfl ?_
  exact lp_X11_knowsBy (g := g) hc0 hC hl0 hL hcd ht hly hn hf h _ _ _ M1 rfl (by omega) (by omega) hf1 (by rw [hv1]; exact hC) ⟨(nrm C, 0), rfl, by rw [hv1]⟩

theorem mR_s (L : Ln) (t ly : Int) (C : Cm) (m n : Nat) : mR L t ly C (m + 1) n = match (Un L t C n).find? (okW t ly) with
    | some x => some ((n : Int), x.2)
    | none => mR L t ly C m (n + 1) := rfl
set_option maxRecDepth 100000 in
set_option maxHeartbeats 4000000 in
theorem lp_X11_soonF {g : zt_G} {M : zm_M} {σ : Sg} {q : Int → zm_M → Prop} (hR : RM σ M) (hW : SW σ) {t ly v : Int} (ht : cHas (sC σ) t) (hly : 0 ≤ ly ∧ ly < 64) (hv : v = 0 ∨ v = 1) (h : ∀ M2, frM M M2 → RM σ M2 → q (aSoon t ly v (sL σ) (sC σ)) M2) {n : Nat} (hn : n ≤ 4) (hR0 : mR (sL σ) t ly (sC σ) (5 - n) n = sonR t ly (sL σ) (sC σ)) (ho : mR (sL σ) t ly (sC σ) (5 - (n + 1)) (n + 1) = sonR t ly (sL σ) (sC σ) → ∀ (x5 : Option zv_A) (M2 : zm_M), frW 1 M M2 → zc_Z g mX11_soon 38 [some (zv_r 46), some (zv_i t), some (zv_i ly), some (zv_i v), some (zv_i ((n : Int) + 1)), x5] [] M2 (zq_I q)) : ∀ (nn : Nat) (f : Nat) (Mx : zm_M), 10 ^ n - f = nn → f ≤ 10 ^ n → frW 1 M Mx → (∀ g, g < f → kbB (sL σ) t ly (sC σ) n g = false) → zc_Z g mX11_soon 47 [some (zv_r 46), some (zv_i t), some (zv_i ly), some (zv_i v), some (zv_i (n : Int)), some (zv_i (f : Int))] [] Mx (zq_I q) := by
  intro nn
  induction nn using Nat.strongRecOn with
  | ind nn ih =>
    intro f Mx hnn h1 hfr hno
    obtain ⟨hT, hl, hcv, hA, hK, hS, hD, hcd⟩ := id hR
    obtain ⟨wT, wTx, wL, ⟨wC, wZ⟩, wA, wK, wS⟩ := id hW
    have hLw : LW (lvM M) := by rw [hl]; exact wL
    have hCw : CW (cvG M 51 (14 * 0)) := by rw [hcv]; exact wC
    have hw0 := wGt hCw
    have hL0 := yMk hLw
    have hk1 : M 46 0 = (sL σ).1 := by rw [← hl]; rfl
    have ht1 : M 46 1 = ct (sC σ) := by rw [← hcv]; rfl
    have hT1 := hT.1
    have hlx : lvM Mx = sL σ := by rw [lvM_fr (hfr _ _ (by omega)) (fun k i a b => hfr k i (by omega))]; exact hl
    have ecx : Mx 46 18 = 0 := by rw [hfr _ _ (by omega)]; exact hcd
    have e1x : Mx 46 1 = M 46 1 := hfr _ _ (by omega)
    have hcx : cvG Mx 51 (14 * 0) = sC σ := by rw [cvG_fr (hfr _ _ (by omega)) (fun t => hfr _ _ (by omega)) (fun i _ _ => hfr _ _ (by omega)) hw0.2]; exact hcv
    have ht10 := t10 hn
    refine zr_iload (pc := 47) dX11_soon_47 rfl ?_
    refine zr_iload (pc := 49) dX11_soon_49 rfl ?_
    refine zr_stat1I (pc := 51) rfl sX11_198 rfl rfl dX11_soon_51 ?_
    refine ct_X11_tenTo hn ?_
    refine zi_icmp_ge (pc := 54) (tgt := 88) dX11_soon_54 (by decide) (by omega) (by omega) (fun h54 => ?_) (fun h54 => ?_)
    · refine zr_iinc (pc := 88) dX11_soon_88 rfl (Nat.le_of_ble_eq_true rfl) rfl ?_
      refine zr_goto (pc := 91) (tgt := 38) dX11_soon_91 (by decide) ?_
      refine ho ?_ _ Mx hfr
      rw [← hR0, show 5 - n = 5 - (n + 1) + 1 by omega, mR_s, find_n (fun g hg => hno g (by omega))]
    · refine zr_aload_n (pc := 57) dX11_soon_57 rfl rfl ?_
      refine zr_iload_n (pc := 58) dX11_soon_58 rfl rfl ?_
      refine zr_iload_n (pc := 59) dX11_soon_59 rfl rfl ?_
      refine zr_iload (pc := 60) dX11_soon_60 rfl ?_
      refine zr_iload (pc := 62) dX11_soon_62 rfl ?_
      refine zr_inv4I (pc := 64) rfl sX11_203 lo_46 rfl rfl rfl dX11_soon_64 ?_
      refine ct_X11_knowsBy hcx wC hlx wL ecx ht hly hn (by omega) (fun M2 hf2 => ?_)
      have hfr2 := hfr.tr hf2
      refine zr_ifb_eq (pc := 67) (tgt := 82) dX11_soon_67 (by decide) (fun h67 => ?_) (fun h67 => ?_)
      · refine zr_iinc (pc := 82) dX11_soon_82 rfl (Nat.le_of_ble_eq_true rfl) rfl ?_
        refine zr_goto (pc := 85) (tgt := 47) dX11_soon_85 (by decide) ?_
        rw [show (f : Int) + 1 = ((f + 1 : Nat) : Int) by omega]
        exact ih _ (by omega) (f + 1) _ rfl (by omega) hfr2 (fun g hg => by
          by_cases e : g = f
          · rw [e]
            exact Bool.eq_false_iff.mpr h67
          · exact hno g (by omega))
      · refine zr_iload_n (pc := 70) dX11_soon_70 rfl rfl ?_
        refine zi_if_ne (pc := 71) (tgt := 79) dX11_soon_71 (by decide) (by omega) (fun h71 => ?_) (fun h71 => ?_)
        · refine zr_iload (pc := 79) dX11_soon_79 rfl ?_
          exact zr_ireturn (pc := 81) dX11_soon_81 rfl (by
              obtain ⟨x, hx1, hx2⟩ := find_y (by omega) h67 hno
              have hs : sonR t ly (sL σ) (sC σ) = some ((n : Int), (f : Int)) := by rw [← hR0, show 5 - n = 5 - (n + 1) + 1 by omega, mR_s, hx1]; dsimp only; rw [hx2]
              exact zq_eq (h M2 (fun k i a => hfr2 k i (by omega)) (RM_frs hR hW (fun k i a b => hfr2 k i (by unfold zsm at b; omega)))) (by unfold aSoon; rw [if_neg (fun y => y ht), if_neg (by omega), hs]; dsimp only; rw [if_neg h71]))
        · refine zr_iload (pc := 74) dX11_soon_74 rfl ?_
          refine zr_goto (pc := 76) (tgt := 81) dX11_soon_76 (by decide) ?_
          exact zr_ireturn (pc := 81) dX11_soon_81 rfl (by
              obtain ⟨x, hx1, hx2⟩ := find_y (by omega) h67 hno
              have hs : sonR t ly (sL σ) (sC σ) = some ((n : Int), (f : Int)) := by rw [← hR0, show 5 - n = 5 - (n + 1) + 1 by omega, mR_s, hx1]; dsimp only; rw [hx2]
              exact zq_eq (h M2 (fun k i a => hfr2 k i (by omega)) (RM_frs hR hW (fun k i a b => hfr2 k i (by unfold zsm at b; omega)))) (by unfold aSoon; rw [if_neg (fun y => y ht), if_neg (by omega), hs]; dsimp only; rw [if_pos h71]))

set_option maxRecDepth 100000 in
set_option maxHeartbeats 4000000 in
theorem lp_X11_soonN {g : zt_G} {M : zm_M} {σ : Sg} {q : Int → zm_M → Prop} (hR : RM σ M) (hW : SW σ) {t ly v : Int} (ht : cHas (sC σ) t) (hly : 0 ≤ ly ∧ ly < 64) (hv : v = 0 ∨ v = 1) (h : ∀ M2, frM M M2 → RM σ M2 → q (aSoon t ly v (sL σ) (sC σ)) M2) : ∀ (nn : Nat) (n : Nat) (x5 : Option zv_A) (Mx : zm_M), 5 - n = nn → n ≤ 5 → frW 1 M Mx → mR (sL σ) t ly (sC σ) (5 - n) n = sonR t ly (sL σ) (sC σ) → zc_Z g mX11_soon 38 [some (zv_r 46), some (zv_i t), some (zv_i ly), some (zv_i v), some (zv_i (n : Int)), x5] [] Mx (zq_I q) := by
  intro nn
  induction nn using Nat.strongRecOn with
  | ind nn ih =>
    intro n x5 Mx hnn h1 hfr hR0
    refine zr_iload (pc := 38) dX11_soon_38 rfl ?_
    refine zr_iconst (pc := 40) dX11_soon_40 ?_
    refine zi_icmp_ge (pc := 41) (tgt := 94) dX11_soon_41 (by decide) (by omega) (by omega) (fun h41 => ?_) (fun h41 => ?_)
    · refine zr_bipush (pc := 94) dX11_soon_94 (by decide) ?_
      exact zr_ireturn (pc := 96) dX11_soon_96 rfl (zq_eq (h Mx (fun k i a => hfr k i (by omega)) (RM_frs hR hW (fun k i a b => hfr k i (by unfold zsm at b; omega)))) (by unfold aSoon; rw [if_neg (fun y => y ht), if_neg (by omega), ← hR0, show 5 - n = 0 by omega]; rfl))
    · refine zr_iconst (pc := 44) dX11_soon_44 ?_
      refine zr_istore (pc := 45) dX11_soon_45 (Nat.le_of_ble_eq_true rfl) rfl ?_
      exact lp_X11_soonF (g := g) hR hW ht hly hv h (n := n) (by omega) hR0 (fun e y5 M2 f2 => ih _ (by omega) (n + 1) y5 M2 rfl (by omega) f2 e) _ 0 Mx rfl (Nat.zero_le _) hfr (fun g hg => by omega)

set_option maxRecDepth 100000 in
set_option maxHeartbeats 4000000 in
theorem ct_X11_soon {g : zt_G} {M : zm_M} {σ : Sg} {q : Int → zm_M → Prop} (hR : RM σ M) (hW : SW σ) {t ly v : Int} (ht : zi t) (hly : zi ly) (hv : zi v) (h : ∀ M2, frM M M2 → RM σ M2 → q (aSoon t ly v (sL σ) (sC σ)) M2) : zc_K g yX11_soon mX11_soon [zv_r 46, zv_i t, zv_i ly, zv_i v] M (zq_I q) := by
  refine zc_of (ls := [some (zv_r 46), some (zv_i t), some (zv_i ly), some (zv_i v), none, none]) (by decide) rfl ⟨rfl, rfl⟩ (Nat.le_of_ble_eq_true rfl) rfl ?_
  obtain ⟨hT, hl, hcv, hA, hK, hS, hD, hcd⟩ := id hR
  obtain ⟨wT, wTx, wL, ⟨wC, wZ⟩, wA, wK, wS⟩ := id hW
  have hLw : LW (lvM M) := by rw [hl]; exact wL
  have hCw : CW (cvG M 51 (14 * 0)) := by rw [hcv]; exact wC
  have hw0 := wGt hCw
  have hL0 := yMk hLw
  have hk1 : M 46 0 = (sL σ).1 := by rw [← hl]; rfl
  have ht1 : M 46 1 = ct (sC σ) := by rw [← hcv]; rfl
  have hT1 := hT.1
  refine zr_aload_n (pc := 0) dX11_soon_0 rfl rfl ?_
  refine zr_iload_n (pc := 1) dX11_soon_1 rfl rfl ?_
  refine zr_inv1I (pc := 2) rfl sX11_136 lo_46 rfl rfl rfl dX11_soon_2 ?_
  refine ct_X11_isTramp hw0 ht ?_
  refine zr_ifb_ne (pc := 5) (tgt := 10) dX11_soon_5 (by decide) (fun h5 => ?_) (fun h5 => ?_)
  · refine zr_iload_n (pc := 10) dX11_soon_10 rfl rfl ?_
    refine zr_i2l (pc := 11) dX11_soon_11 ?_
    refine zr_lconst (pc := 12) (z := 0) dX11_soon_12 (by decide +kernel) ?_
    refine zr_ldc2 (pc := 13) (z := 63) rfl kX11_201 (by decide +kernel) dX11_soon_13 ?_
    refine zr_stat3I (pc := 16) rfl sX11_61 rfl rfl dX11_soon_16 ?_
    refine in_i hly (by omega) (by omega) ?_
    refine zr_ifb_eq (pc := 19) (tgt := 32) dX11_soon_19 (by decide) (fun h19 => ?_) (fun h19 => ?_)
    · refine zr_bipush (pc := 32) dX11_soon_32 (by decide) ?_
      exact zr_ireturn (pc := 34) dX11_soon_34 rfl (zq_eq (h M (fun _ _ _ => rfl) hR) (by unfold aSoon; rw [if_neg (fun y => y (by show 0 ≤ t ∧ t < ct (sC σ); omega)), if_pos (by omega)]))
    · refine zr_iload_n (pc := 22) dX11_soon_22 rfl rfl ?_
      refine zr_i2l (pc := 23) dX11_soon_23 ?_
      refine zr_lconst (pc := 24) (z := 0) dX11_soon_24 (by decide +kernel) ?_
      refine zr_lconst (pc := 25) (z := 1) dX11_soon_25 (by decide +kernel) ?_
      refine zr_stat3I (pc := 26) rfl sX11_61 rfl rfl dX11_soon_26 ?_
      refine in_i hv (by omega) (by omega) ?_
      refine zr_ifb_ne (pc := 29) (tgt := 35) dX11_soon_29 (by decide) (fun h29 => ?_) (fun h29 => ?_)
      · refine zr_iconst (pc := 35) dX11_soon_35 ?_
        refine zr_istore (pc := 36) dX11_soon_36 (Nat.le_of_ble_eq_true rfl) rfl ?_
        exact lp_X11_soonN (g := g) hR hW (by show 0 ≤ t ∧ t < ct (sC σ); omega) (by omega) (by omega) h _ 0 none M rfl (by decide) frW.rf (son_mR wL wC wZ).symm
      · refine zr_bipush (pc := 32) dX11_soon_32 (by decide) ?_
        exact zr_ireturn (pc := 34) dX11_soon_34 rfl (zq_eq (h M (fun _ _ _ => rfl) hR) (by unfold aSoon; rw [if_neg (fun y => y (by show 0 ≤ t ∧ t < ct (sC σ); omega)), if_pos (by omega)]))
  · refine zr_iconst (pc := 8) dX11_soon_8 ?_
    exact zr_ireturn (pc := 9) dX11_soon_9 rfl (zq_eq (h M (fun _ _ _ => rfl) hR) (by unfold aSoon; rw [if_pos (by show ¬ (0 ≤ t ∧ t < ct (sC σ)); omega)]))

