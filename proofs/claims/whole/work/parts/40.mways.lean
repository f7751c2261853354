/-! ways counted from either end -/
theorem sm_fl (c : Int → Bool) (g : Int → Int) : ∀ n : Nat, sm (fun s => if c s = true then g s else 0) n = (((List.range n).filter (fun (i : Nat) => c (i : Int))).map (fun (i : Nat) => g (i : Int))).sum
  | 0 => rfl
  | n + 1 => by
    have e1 : List.range (n + 1) = List.range n ++ [n] := List.range_succ
    rw [sm_s, sm_fl c g n, e1, List.filter_append, List.map_append, List.sum_append]
    congr 1
    by_cases h : c (n : Int) = true
    · rw [if_pos h, List.filter_cons_of_pos (p := fun (i : Nat) => c (i : Int)) h]
      simp
    · rw [if_neg h, List.filter_cons_of_neg (p := fun (i : Nat) => c (i : Int)) h]
      rfl
theorem ri_ok : ∀ l : Nat, l < 6 → ((List.range 64).filter (fun (i : Nat) => bt (i : Int) (l : Int))).map (fun (i : Nat) => (rmB (i : Int) (l : Int), (i : Int))) = ((List.range 64).filter (fun (i : Nat) => !bt (i : Int) (l : Int))).map (fun (i : Nat) => ((i : Int), orB (i : Int) (l : Int))) := by decide +kernel
theorem sm_ri (h : Int → Int → Int) {l : Int} (hl : 0 ≤ l ∧ l < 6) : sm (fun s => if bt s l = true then h (rmB s l) s else 0) 64 = sm (fun s => if (!bt s l) = true then h s (orB s l) else 0) 64 := by
  obtain ⟨l, rfl⟩ := Int.eq_ofNat_of_zero_le hl.1
  rw [sm_fl (fun s => bt s (l : Int)) (fun s => h (rmB s (l : Int)) s), sm_fl (fun s => !bt s (l : Int)) (fun s => h s (orB s (l : Int)))]
  have e := congrArg (fun X : List (Int × Int) => (X.map (fun p => h p.1 p.2)).sum) (ri_ok l (by omega))
  rw [List.map_map, List.map_map] at e
  exact e
theorem wyS_sm (ab f : Int → Int) (s : Int) (n : Nat) : wyS ab f s n = sm (fun l => if ¬ rmB s l = s ∧ cFo ab l (rmB s l) then f (rmB s l) else 0) n := by
  unfold wyS sm
  refine fo_c (fun i b _ _ => ?_)
  show (if ¬ rmB s i = s ∧ cFo ab i (rmB s i) then b + f (rmB s i) else b) = b + (if ¬ rmB s i = s ∧ cFo ab i (rmB s i) then f (rmB s i) else 0)
  split
  · rfl
  · exact (Int.add_zero b).symm
theorem wy_eq {all : Int} {ab : Int → Int} {s : Int} (hs : 0 ≤ s ∧ s < 64) : wyF all ab 64 s = if s = 0 then 1 else if zb_and s all = s then wyS ab (wyF all ab 64) s 6 else 0 := by
  have e1 := wyF_lt (all := all) (ab := ab) (64 - (s.toNat + 1)) (s.toNat + 1) s (by omega)
  rw [show s.toNat + 1 + (64 - (s.toNat + 1)) = 64 by omega] at e1
  rw [e1]
  show upI (wyF all ab s.toNat) (s.toNat : Int) _ s = _
  rw [show ((s.toNat : Nat) : Int) = s by omega, upI_s]
  by_cases h0 : s = 0
  · rw [if_pos h0, if_pos (by omega)]
  · rw [if_neg h0, if_neg (by omega)]
    by_cases h1 : zb_and s all = s
    · rw [if_pos h1, if_pos h1]
      unfold wyS
      refine fo_c (fun l b l0 l1 => ?_)
      by_cases hc : ¬ rmB s l = s ∧ cFo ab l (rmB s l)
      · rw [if_pos hc, if_pos hc]
        have hr := rm_i hs (l := l) ⟨l0, by omega⟩
        have e2 := wyF_lt (all := all) (ab := ab) (64 - s.toNat) s.toNat (rmB s l) (by have := hc.1; omega)
        rw [show s.toNat + (64 - s.toNat) = 64 by omega] at e2
        rw [e2]
      · rw [if_neg hc, if_neg hc]
    · rw [if_neg h1, if_neg h1]
def TT (all : Int) (ab : Int → Int) (n j : Nat) : Int := sm (fun s => if on6 s = (j : Int) ∧ zb_and s all = s then wyF all ab 64 s * Nk all ab (n - j) s else 0) 64
theorem rm_bt {s l : Int} (hs : 0 ≤ s ∧ s < 64) (hl : 0 ≤ l ∧ l < 6) : ¬ rmB s l = s ↔ bt s l = true := by
  have h1 := rm_i hs hl
  constructor
  · intro h
    by_cases hb : bt s l = true
    · exact hb
    · refine absurd (ext6 ⟨h1.1.1, by omega⟩ hs (fun k k0 k1 => ?_)) h
      rw [bt_rmB hs hl ⟨k0, k1⟩]
      by_cases e : k = l
      · rw [e, Bool.eq_false_iff.mpr hb]
        rfl
      · rw [decide_eq_false e]
        simp
  · intro h e
    have h2 := bt_rmB hs hl (k := l) hl
    rw [e, h, decide_eq_true rfl] at h2
    cases h2
theorem rm_on {s l : Int} (hs : 0 ≤ s ∧ s < 64) (hl : 0 ≤ l ∧ l < 6) (h : bt s l = true) : on6 (rmB s l) + 1 = on6 s := by
  rcases (rm_i hs hl).2 with h1 | h1
  · exact absurd h1 ((rm_bt hs hl).mpr h)
  · exact h1
theorem TT_s {all : Int} {ab : Int → Int} (h6 : 0 ≤ all ∧ all < 64) {n j : Nat} (hj : j < n) : TT all ab n (j + 1) = TT all ab n j := by
  have eL : TT all ab n (j + 1) = sm (fun l => sm (fun s => if bt s l = true then (fun s' s => if (on6 s' = (j : Int) ∧ zb_and s all = s) ∧ cFo ab l s' then wyF all ab 64 s' * Nk all ab (n - (j + 1)) s else 0) (rmB s l) s else 0) 64) 6 := by
    unfold TT
    rw [← sm_comm]
    refine sm_c (fun s s0 s1 => ?_)
    have hs : 0 ≤ s ∧ s < 64 := ⟨s0, by omega⟩
    by_cases hc : on6 s = ((j + 1 : Nat) : Int) ∧ zb_and s all = s
    · have hne : ¬ s = 0 := fun e => by
        rw [e] at hc
        have h9 : on6 0 = 0 := by decide
        omega
      rw [if_pos hc, wy_eq hs, if_neg hne, if_pos hc.2, wyS_sm, ← sm_mul]
      refine sm_c (fun l l0 l1 => ?_)
      have hl : 0 ≤ l ∧ l < 6 := ⟨l0, by omega⟩
      by_cases hb : bt s l = true
      · have h1 := rm_on hs hl hb
        rw [if_pos hb]
        by_cases hf : cFo ab l (rmB s l)
        · rw [if_pos ⟨(rm_bt hs hl).mpr hb, hf⟩]
          dsimp only
          rw [if_pos ⟨⟨by omega, hc.2⟩, hf⟩]
        · rw [if_neg (fun y => hf y.2)]
          dsimp only
          rw [if_neg (fun y => hf y.2), Int.zero_mul]
      · rw [if_neg hb, if_neg (fun y => hb ((rm_bt hs hl).mp y.1)), Int.zero_mul]
    · rw [if_neg hc, sm_c (f2 := fun _ => 0) (fun l l0 l1 => ?_), sm_0]
      have hl : 0 ≤ l ∧ l < 6 := ⟨l0, by omega⟩
      by_cases hb : bt s l = true
      · have h1 := rm_on hs hl hb
        rw [if_pos hb]
        dsimp only
        rw [if_neg (fun y => hc ⟨by omega, y.1.2⟩)]
      · rw [if_neg hb]
  rw [eL, sm_c (f2 := fun l => sm (fun s => if (!bt s l) = true then (fun s' s => if (on6 s' = (j : Int) ∧ zb_and s all = s) ∧ cFo ab l s' then wyF all ab 64 s' * Nk all ab (n - (j + 1)) s else 0) s (orB s l) else 0) 64) (fun l l0 l1 => sm_ri (fun s' s => if (on6 s' = (j : Int) ∧ zb_and s all = s) ∧ cFo ab l s' then wyF all ab 64 s' * Nk all ab (n - (j + 1)) s else 0) ⟨l0, by omega⟩), ← sm_comm]
  unfold TT
  refine sm_c (fun s s0 s1 => ?_)
  have hs : 0 ≤ s ∧ s < 64 := ⟨s0, by omega⟩
  by_cases hc : on6 s = (j : Int) ∧ zb_and s all = s
  · rw [if_pos hc, show n - j = n - (j + 1) + 1 by omega]
    show _ = wyF all ab 64 s * sm _ 6
    rw [Int.mul_comm, ← sm_mul]
    refine sm_c (fun l l0 l1 => ?_)
    have hl : 0 ≤ l ∧ l < 6 := ⟨l0, by omega⟩
    have hsub : zb_and (orB s l) all = orB s l ↔ bt all l = true := by
      rw [sub_iff (orB_in hs hl) h6]
      constructor
      · intro h
        refine h l l0 hl.2 ?_
        rw [bt_orB hs hl l0, decide_eq_true rfl, Bool.or_true]
      · intro h k k0 k1 k2
        rw [bt_orB hs hl k0, Bool.or_eq_true, decide_eq_true_eq] at k2
        rcases k2 with k2 | k2
        · exact ((sub_iff hs h6).mp hc.2) k k0 k1 k2
        · rw [k2]
          exact h
    by_cases hok : okL all ab s l = true
    · have ho := okL_iff.mp hok
      rw [if_pos hok, if_pos (by rw [Bool.eq_false_iff.mpr ho.2.1]; rfl)]
      dsimp only
      rw [if_pos ⟨⟨hc.1, hsub.mpr ho.1⟩, ho.2.2⟩, Int.mul_comm]
    · rw [if_neg hok, Int.zero_mul]
      by_cases hb : (!bt s l) = true
      · rw [if_pos hb]
        dsimp only
        rw [if_neg (fun y => hok (okL_iff.mpr ⟨hsub.mp y.1.2, fun z => (by rw [z] at hb; cases hb), y.2⟩))]
      · rw [if_neg hb]
  · rw [if_neg hc, sm_c (f2 := fun _ => 0) (fun l l0 l1 => ?_), sm_0]
    have hl : 0 ≤ l ∧ l < 6 := ⟨l0, by omega⟩
    by_cases hb : (!bt s l) = true
    · rw [if_pos hb]
      dsimp only
      rw [if_neg (fun y => hc ⟨y.1.1, (sub_iff hs h6).mpr (fun k k0 k1 k2 => ((sub_iff (orB_in hs hl) h6).mp y.1.2) k k0 k1 (by rw [bt_orB hs hl k0, k2]; rfl))⟩)]
    · rw [if_neg hb]
theorem sm_one {f : Int → Int} {a : Int} : ∀ {n : Nat}, 0 ≤ a → a < (n : Int) → (∀ i, 0 ≤ i → i < (n : Int) → i ≠ a → f i = 0) → sm f n = f a
  | 0, h0, h1, _ => by omega
  | n + 1, h0, h1, h => by
    rw [sm_s]
    by_cases e : a = (n : Int)
    · rw [← e, sm_c (f2 := fun _ => 0) (fun i a1 b1 => h i a1 (by omega) (by omega)), sm_0, Int.zero_add]
    · rw [sm_one (n := n) h0 (by omega) (fun i a1 b1 c1 => h i a1 (by omega) c1), h (n : Int) (by omega) (by omega) (fun y => e y.symm), Int.add_zero]
theorem on0_ok : ∀ s : Nat, s < 64 → on6 (s : Int) = 0 → s = 0 := by decide +kernel
theorem W_N {all : Int} {ab : Int → Int} (h6 : 0 ≤ all ∧ all < 64) {n : Nat} (hn : on6 all = (n : Int)) : wyF all ab 64 all = Nk all ab n 0 := by
  have hT : ∀ j : Nat, j ≤ n → TT all ab n j = TT all ab n 0 := by
    intro j
    induction j with
    | zero => exact fun _ => rfl
    | succ j ih =>
      intro hj
      rw [TT_s h6 (by omega)]
      exact ih (by omega)
  have e0 : TT all ab n 0 = Nk all ab n 0 := by
    unfold TT
    rw [sm_one (a := 0) (by decide) (by decide) (fun i i0 i1 i2 => ?_)]
    · have h9 : on6 0 = ((0 : Nat) : Int) := by decide
      rw [if_pos ⟨h9, (sub_iff (by decide) h6).mpr (fun k _ _ k2 => absurd k2 (bt0 k))⟩, wy_eq (by decide), if_pos rfl, Int.one_mul, Nat.sub_zero]
    · obtain ⟨i, rfl⟩ := Int.eq_ofNat_of_zero_le i0
      rw [if_neg (fun y => i2 (by
        have := on0_ok i (by omega) y.1
        omega))]
  have eN : TT all ab n n = wyF all ab 64 all := by
    unfold TT
    rw [sm_one (a := all) h6.1 (by have := h6.2; show all < 64; omega) (fun i i0 i1 i2 => ?_)]
    · rw [if_pos ⟨hn, (sub_iff h6 h6).mpr (fun _ _ _ k2 => k2)⟩, Nat.sub_self]
      show _ * 1 = _
      rw [Int.mul_one]
    · have hi : 0 ≤ i ∧ i < 64 := ⟨i0, by omega⟩
      rw [if_neg (fun y => i2 (on_eq hi h6 ((sub_iff hi h6).mp y.2) (by rw [y.1, hn])))]
  rw [← eN, hT n (Nat.le_refl n), e0]
/-! all orders, the least figures first -/
def fcN : Nat → Nat
  | 0 => 1
  | n + 1 => (n + 1) * fcN n
theorem fcN_pos : ∀ n : Nat, 0 < fcN n
  | 0 => by decide
  | n + 1 => Nat.mul_pos (by omega) (fcN_pos n)
def nthF (r : Int) : Nat → Int → Int → Int
  | 0, l, _ => l
  | n + 1, l, i => if bt r l = true then (if i ≤ 0 then l else nthF r n (l + 1) (i - 1)) else nthF r n (l + 1) i
def sqF : Nat → Int → Nat → List Int
  | 0, _, _ => []
  | k + 1, r, w => nthF r 6 0 ((w / fcN k : Nat) : Int) :: sqF k (rmB r (nthF r 6 0 ((w / fcN k : Nat) : Int))) (w % fcN k)
def figL : Int → List Int → Int
  | u, [] => u
  | u, l :: Pl => figL (10 * u + l + 1) Pl
def lsV (ab : Int → Int) : Int → List Int → Bool
  | _, [] => true
  | d, l :: Pl => decide (cFo ab l d) && lsV ab (orB d l) Pl
def fnB (V : Nat → Bool) (F : Nat → Int) (st : Int × Int) : Nat → Int × Int
  | 0 => st
  | n + 1 => if V n = true then ((fnB V F st n).1 + 1, if (fnB V F st n).1 = 0 then F n else (fnB V F st n).2) else fnB V F st n
theorem fn_add (V : Nat → Bool) (F : Nat → Int) (st : Int × Int) (a : Nat) : ∀ b : Nat, fnB V F st (a + b) = fnB (fun i => V (a + i)) (fun i => F (a + i)) (fnB V F st a) b
  | 0 => rfl
  | b + 1 => by
    show (if V (a + b) = true then ((fnB V F st (a + b)).1 + 1, if (fnB V F st (a + b)).1 = 0 then F (a + b) else (fnB V F st (a + b)).2) else fnB V F st (a + b)) = _
    rw [fn_add V F st a b]
    rfl
theorem fn_c {V V2 : Nat → Bool} {F F2 : Nat → Int} {st : Int × Int} : ∀ {n : Nat}, (∀ i, i < n → V i = V2 i ∧ F i = F2 i) → fnB V F st n = fnB V2 F2 st n
  | 0, _ => rfl
  | n + 1, h => by
    show (if V n = true then ((fnB V F st n).1 + 1, if (fnB V F st n).1 = 0 then F n else (fnB V F st n).2) else fnB V F st n) = _
    rw [fn_c (n := n) (fun i hi => h i (by omega)), (h n (by omega)).1, (h n (by omega)).2]
    rfl
theorem fn_no {V : Nat → Bool} {F : Nat → Int} {st : Int × Int} : ∀ {n : Nat}, (∀ i, i < n → V i = false) → fnB V F st n = st
  | 0, _ => rfl
  | n + 1, h => by
    show (if V n = true then _ else fnB V F st n) = _
    rw [if_neg (by rw [h n (by omega)]; exact Bool.false_ne_true), fn_no (n := n) (fun i hi => h i (by omega))]
def rkN (r : Int) : Nat → Nat
  | 0 => 0
  | n + 1 => rkN r n + (if bt r (n : Int) = true then 1 else 0)
theorem nth_rk : ∀ r : Nat, r < 64 → ∀ l : Nat, l < 6 → bt (r : Int) (l : Int) = true → nthF (r : Int) 6 0 ((rkN (r : Int) l : Nat) : Int) = (l : Int) := by decide +kernel
theorem rk_on : ∀ r : Nat, r < 64 → ((rkN (r : Int) 6 : Nat) : Int) = on6 (r : Int) := by decide +kernel
theorem rk_s (r : Int) (n : Nat) : rkN r (n + 1) = rkN r n + (if bt r (n : Int) = true then 1 else 0) := rfl
theorem sq_s (k : Nat) (r : Int) (w : Nat) : sqF (k + 1) r w = nthF r 6 0 ((w / fcN k : Nat) : Int) :: sqF k (rmB r (nthF r 6 0 ((w / fcN k : Nat) : Int))) (w % fcN k) := rfl
theorem fs_s (G : Int → Option Int) (n : Nat) : fsL G (n + 1) = match fsL G n with
    | some v => some v
    | none => G (n : Int) := rfl
theorem fs_sm {A : Int → Int} {G : Int → Option Int} (hA : ∀ l, 0 ≤ A l) (hG : ∀ l, (G l).isSome = true ↔ 0 < A l) : ∀ n : Nat, (0 < sm A n ↔ (fsL G n).isSome = true)
  | 0 => ⟨fun h => absurd h (by show ¬ (0 : Int) < 0; decide), fun h => by cases h⟩
  | n + 1 => by
    have ih := fs_sm hA hG n
    have h1 := hA (n : Int)
    have h2 := hG (n : Int)
    have h3 := sm_nn (f := A) (n := n) (fun i _ _ => hA i)
    rw [sm_s]
    unfold fsL
    cases e : fsL G n with
    | some v =>
      rw [e] at ih
      have := ih.mpr rfl
      exact ⟨fun _ => rfl, fun _ => by omega⟩
    | none =>
      rw [e] at ih
      have h4 : ¬ 0 < sm A n := fun y => by cases ih.mp y
      show 0 < sm A n + A (n : Int) ↔ (G (n : Int)).isSome = true
      rw [h2]
      omega
theorem blk {all : Int} {ab : Int → Int} (h6 : 0 ≤ all ∧ all < 64) : ∀ (k : Nat) (d u : Int) (st : Int × Int), 0 ≤ d ∧ d < 64 → on6 (xaB all d) = (k : Int) → 0 ≤ st.1 → fnB (fun i => lsV ab d (sqF k (xaB all d) i)) (fun i => figL u (sqF k (xaB all d) i)) st (fcN k) = (st.1 + Nk all ab k d, if st.1 = 0 ∧ 0 < Nk all ab k d then LSk all ab k d u else st.2)
  | 0, d, u, st, hd, hk, hs => by
    show (if true = true then (st.1 + 1, if st.1 = 0 then u else st.2) else st) = _
    rw [if_pos rfl]
    refine Prod.ext rfl ?_
    show (if st.1 = 0 then u else st.2) = if st.1 = 0 ∧ 0 < Nk all ab 0 d then u else st.2
    by_cases h : st.1 = 0
    · rw [if_pos h, if_pos ⟨h, by show (0 : Int) < 1; decide⟩]
    · rw [if_neg h, if_neg (fun y => h y.1)]
  | k + 1, d, u, st, hd, hk, hs => by
    have hr := xaB_in h6 hd
    have hB := fcN_pos k
    obtain ⟨A, eA⟩ : ∃ A : Int → Int, A = fun l => if okL all ab d l = true then Nk all ab k (orB d l) else 0 := ⟨_, rfl⟩
    obtain ⟨G, eG⟩ : ∃ G : Int → Option Int, G = fun l => if okL all ab d l = true ∧ 0 < Nk all ab k (orB d l) then some (LSk all ab k (orB d l) (10 * u + l + 1)) else none := ⟨_, rfl⟩
    have hA : ∀ l, 0 ≤ A l := fun l => by
      rw [eA]
      show 0 ≤ (if okL all ab d l = true then Nk all ab k (orB d l) else 0)
      split
      · exact Nk_nn all ab k _
      · exact Int.le_refl 0
    have hG : ∀ l, (G l).isSome = true ↔ 0 < A l := fun l => by
      rw [eA, eG]
      dsimp only
      by_cases hok : okL all ab d l = true
      · rw [if_pos hok]
        by_cases hp : 0 < Nk all ab k (orB d l)
        · rw [if_pos ⟨hok, hp⟩]
          exact ⟨fun _ => hp, fun _ => rfl⟩
        · rw [if_neg (fun y => hp y.2)]
          exact ⟨fun y => (by cases y), fun y => absurd y hp⟩
      · rw [if_neg hok, if_neg (fun y => hok y.1)]
        exact ⟨fun y => (by cases y), fun y => absurd y (by decide)⟩
    have hfs := fs_sm hA hG
    have key : ∀ n : Nat, n ≤ 6 → fnB (fun i => lsV ab d (sqF (k + 1) (xaB all d) i)) (fun i => figL u (sqF (k + 1) (xaB all d) i)) st (rkN (xaB all d) n * fcN k) = (st.1 + sm A n, if st.1 = 0 ∧ 0 < sm A n then (fsL G n).getD 0 else st.2) := by
      intro n
      induction n with
      | zero =>
        intro _
        rw [show rkN (xaB all d) 0 * fcN k = 0 from Nat.zero_mul _]
        show st = _
        refine Prod.ext (Int.add_zero _).symm ?_
        show st.2 = if st.1 = 0 ∧ 0 < sm A 0 then _ else st.2
        rw [if_neg (fun y => absurd y.2 (by show ¬ (0 : Int) < 0; decide))]
      | succ n ih =>
        intro hn
        have ihn := ih (by omega)
        have hnn : 0 ≤ (n : Int) ∧ (n : Int) < 6 := by omega
        have hsn := sm_nn (f := A) (n := n) (fun i _ _ => hA i)
        have hbr := bt_xaB h6 hd hnn
        by_cases hb : bt (xaB all d) (n : Int) = true
        · have hrk : rkN (xaB all d) (n + 1) = rkN (xaB all d) n + 1 := by
            rw [rk_s, if_pos hb]
          have hmem : bt all (n : Int) = true ∧ ¬ bt d (n : Int) = true := by
            rw [hb] at hbr
            have h9 := (Bool.and_eq_true _ _).mp hbr.symm
            refine ⟨h9.1, fun y => ?_⟩
            rw [y] at h9
            cases h9.2
          have hnth : nthF (xaB all d) 6 0 ((rkN (xaB all d) n : Nat) : Int) = (n : Int) := by
            obtain ⟨r, er⟩ := Int.eq_ofNat_of_zero_le hr.1
            rw [er] at hb ⊢
            exact nth_rk r (by omega) n (by omega) hb
          have hdo := orB_in hd hnn
          have hrm : rmB (xaB all d) (n : Int) = xaB all (orB d (n : Int)) := by
            have h1 := rm_i hr hnn
            refine ext6 ⟨h1.1.1, by omega⟩ (xaB_in h6 hdo) (fun j j0 j1 => ?_)
            rw [bt_rmB hr hnn ⟨j0, j1⟩, bt_xaB h6 hd ⟨j0, j1⟩, bt_xaB h6 hdo ⟨j0, j1⟩, bt_orB hd hnn j0, Bool.not_or, Bool.and_assoc]
          have hon : on6 (xaB all (orB d (n : Int))) = (k : Int) := by
            have h1 := rm_on hr hnn hb
            rw [hrm] at h1
            omega
          have hsq : ∀ i, i < fcN k → sqF (k + 1) (xaB all d) (rkN (xaB all d) n * fcN k + i) = (n : Int) :: sqF k (xaB all (orB d (n : Int))) i := fun i hi => by
            have h1 : (rkN (xaB all d) n * fcN k + i) / fcN k = rkN (xaB all d) n := by
              rw [Nat.mul_comm, Nat.mul_add_div hB, Nat.div_eq_of_lt hi, Nat.add_zero]
            have h2 : (rkN (xaB all d) n * fcN k + i) % fcN k = i := by
              rw [Nat.mul_comm, Nat.mul_add_mod, Nat.mod_eq_of_lt hi]
            rw [sq_s, h1, h2, hnth, hrm]
          rw [hrk, Nat.add_mul, Nat.one_mul, fn_add, ihn]
          by_cases hf : cFo ab (n : Int) d
          · have hok : okL all ab d (n : Int) = true := okL_iff.mpr ⟨hmem.1, hmem.2, hf⟩
            rw [fn_c (V2 := fun i => lsV ab (orB d (n : Int)) (sqF k (xaB all (orB d (n : Int))) i)) (F2 := fun i => figL (10 * u + (n : Int) + 1) (sqF k (xaB all (orB d (n : Int))) i)) (fun i hi => by
              rw [hsq i hi]
              refine ⟨?_, rfl⟩
              show (decide (cFo ab (n : Int) d) && _) = _
              rw [decide_eq_true hf, Bool.true_and]), blk h6 k (orB d (n : Int)) (10 * u + (n : Int) + 1) _ hdo hon (by show 0 ≤ st.1 + sm A n; omega)]
            have eAn : A (n : Int) = Nk all ab k (orB d (n : Int)) := by
              rw [eA]
              exact if_pos hok
            rw [← eAn, sm_s]
            refine Prod.ext (by show st.1 + sm A n + A (n : Int) = st.1 + (sm A n + A (n : Int)); omega) ?_
            show (if st.1 + sm A n = 0 ∧ 0 < A (n : Int) then LSk all ab k (orB d (n : Int)) (10 * u + (n : Int) + 1) else (if st.1 = 0 ∧ 0 < sm A n then (fsL G n).getD 0 else st.2)) = if st.1 = 0 ∧ 0 < sm A n + A (n : Int) then (fsL G (n + 1)).getD 0 else st.2
            have hAn := hA (n : Int)
            rw [fs_s]
            by_cases h0 : st.1 = 0
            · by_cases h1 : 0 < sm A n
              · rw [if_neg (fun y => by omega), if_pos ⟨h0, h1⟩, if_pos ⟨h0, by omega⟩]
                have h2 := (hfs n).mp h1
                cases e : fsL G n with
                | none => rw [e] at h2; cases h2
                | some v => rfl
              · have h2 : fsL G n = none := by
                  cases e : fsL G n with
                  | none => rfl
                  | some v =>
                    have h3 := (hfs n).mpr (by rw [e]; rfl)
                    exact absurd h3 h1
                rw [h2]
                by_cases h3 : 0 < A (n : Int)
                · rw [if_pos ⟨by omega, h3⟩, if_pos ⟨h0, by omega⟩]
                  dsimp only
                  have eGn : G (n : Int) = some (LSk all ab k (orB d (n : Int)) (10 * u + (n : Int) + 1)) := by
                    rw [eG]
                    exact if_pos ⟨hok, by rw [← eAn]; exact h3⟩
                  rw [eGn]
                  rfl
                · rw [if_neg (fun y => h3 y.2), if_neg (fun y => h1 y.2), if_neg (fun y => by omega)]
            · rw [if_neg (fun y => by omega), if_neg (fun y => h0 y.1), if_neg (fun y => h0 y.1)]
          · have hok : ¬ okL all ab d (n : Int) = true := fun y => hf (okL_iff.mp y).2.2
            rw [fn_no (fun i hi => by
              rw [hsq i hi]
              show (decide (cFo ab (n : Int) d) && _) = false
              rw [decide_eq_false hf, Bool.false_and])]
            have eAn : A (n : Int) = 0 := by
              rw [eA]
              exact if_neg hok
            have eGn : G (n : Int) = none := by
              rw [eG]
              exact if_neg (fun y => hok y.1)
            rw [sm_s, eAn, Int.add_zero]
            have e9 : fsL G (n + 1) = fsL G n := by
              show (match fsL G n with | some v => some v | none => G (n : Int)) = _
              rw [eGn]
              cases fsL G n <;> rfl
            rw [e9]
        · have hrk : rkN (xaB all d) (n + 1) = rkN (xaB all d) n := by
            rw [rk_s, if_neg hb, Nat.add_zero]
          have hok : ¬ okL all ab d (n : Int) = true := fun y => by
            have h9 := okL_iff.mp y
            rw [hbr, h9.1, Bool.eq_false_iff.mpr h9.2.1] at hb
            exact hb rfl
          have eAn : A (n : Int) = 0 := by
            rw [eA]
            exact if_neg hok
          have eGn : G (n : Int) = none := by
            rw [eG]
            exact if_neg (fun y => hok y.1)
          have e9 : fsL G (n + 1) = fsL G n := by
            show (match fsL G n with | some v => some v | none => G (n : Int)) = _
            rw [eGn]
            cases fsL G n <;> rfl
          rw [hrk, ihn, sm_s, eAn, Int.add_zero, e9]
    have h7 := key 6 (Nat.le_refl 6)
    have hr6 : rkN (xaB all d) 6 = k + 1 := by
      obtain ⟨r, er⟩ := Int.eq_ofNat_of_zero_le hr.1
      have h1 := rk_on r (by omega)
      rw [er] at hk ⊢
      omega
    rw [hr6] at h7
    show fnB _ _ st ((k + 1) * fcN k) = _
    rw [h7]
    have e1 : sm A 6 = Nk all ab (k + 1) d := by rw [eA]; rfl
    have e2 : (fsL G 6).getD 0 = LSk all ab (k + 1) d u := by rw [eG]; rfl
    rw [e1, e2]
theorem xaB_0 {all : Int} (h6 : 0 ≤ all ∧ all < 64) : xaB all 0 = all := ext6 (xaB_in h6 (by decide)) h6 (fun j j0 j1 => by
  rw [bt_xaB h6 (by decide) ⟨j0, j1⟩, Bool.eq_false_iff.mpr (bt0 j)]
  simp)
theorem ben_eq {L : Ln} (hL : LW L) {n : Nat} (hn : on6 (bitL L) = (n : Int)) {v : Int} (hv : v = 0 ∨ v = 1) : aBen v L = if v = 0 then (fnB (fun i => lsV (abv L L.1.toNat) 0 (sqF n (bitL L) i)) (fun i => figL 0 (sqF n (bitL L) i)) (0, -9) (fcN n)).1 else (fnB (fun i => lsV (abv L L.1.toNat) 0 (sqF n (bitL L) i)) (fun i => figL 0 (sqF n (bitL L) i)) (0, -9) (fcN n)).2 := by
  have h6 := bitL_in hL
  have ha := abv_in hL L.1.toNat
  have hb := blk (ab := abv L L.1.toNat) h6 n 0 0 (0, -9) (by decide) (by rw [xaB_0 h6]; exact hn) (by decide)
  rw [xaB_0 h6] at hb
  rw [hb]
  have hW := W_N (ab := abv L L.1.toNat) h6 hn
  have hN := Nk_nn (bitL L) (abv L L.1.toNat) n 0
  have hon := on6_i h6
  unfold aBen
  rw [if_neg (fun y => y hv), hW]
  dsimp only
  by_cases h0 : v = 0
  · rw [if_pos h0, if_pos h0, Int.zero_add]
  · rw [if_neg h0, if_neg h0]
    by_cases hz : Nk (bitL L) (abv L L.1.toNat) n 0 = 0
    · rw [if_pos hz, if_neg (fun y => by have := y.2; omega)]
    · rw [if_neg hz, if_pos ⟨rfl, by omega⟩]
      have h00 : on6 0 = 0 := by decide
      exact LS_ls h6 ha n 6 0 0 (by decide) (by omega) (fun j _ _ j2 => absurd j2 (bt0 j)) (by omega) (by omega)
