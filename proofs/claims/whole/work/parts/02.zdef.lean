/-! THE SYSTEM AS 63 CELLS OF NUMBERS: values, memory, layout, world; the judgement zc_Z over them -/
abbrev zv_A : Type := Int ⊕ Int ⊕ Nat
abbrev zv_i (z : Int) : zv_A := .inl z
abbrev zv_l (z : Int) : zv_A := .inr (.inl z)
abbrev zv_r (k : Nat) : zv_A := .inr (.inr k)
abbrev zm_M : Type := Nat → Int → Int
def zm_put (M : zm_M) (k : Nat) (i v : Int) : zm_M := fun k2 i2 => if k2 = k ∧ i2 = i then v else M k2 i2
def zm_cpy (M : zm_M) (a : Nat) (sp : Int) (b : Nat) (dp n : Int) : zm_M := fun k i => if k = b ∧ dp ≤ i ∧ i < dp + n then M a (sp + (i - dp)) else M k i
/-- 32 bits, 64 bits -/
def zw (z : Int) : Int := (z + 2147483648) % 4294967296 - 2147483648
def zx (z : Int) : Int := (z + 9223372036854775808) % 18446744073709551616 - 9223372036854775808
theorem zw_eq (z : Int) : (Int32.ofInt z).toInt = zw z := by
  rw [Int32.toInt_ofInt]
  show Int.bmod z 4294967296 = _
  unfold Int.bmod zw
  simp only []
  split <;> omega
theorem zx_eq (z : Int) : (Int64.ofInt z).toInt = zx z := by
  rw [Int64.toInt_ofInt]
  show Int.bmod z 18446744073709551616 = _
  unfold Int.bmod zx
  simp only []
  split <;> omega
theorem zw_id {z : Int} (h1 : -2147483648 ≤ z) (h2 : z < 2147483648) : zw z = z := by unfold zw; omega
theorem zx_id {z : Int} (h1 : -9223372036854775808 ≤ z) (h2 : z < 9223372036854775808) : zx z = z := by unfold zx; omega
theorem zw_rng (z : Int) : -2147483648 ≤ zw z ∧ zw z < 2147483648 := by unfold zw; omega
theorem zw_lt (a b : Int) : Int32.ofInt a < Int32.ofInt b ↔ zw a < zw b := by rw [Int32.lt_iff_toInt_lt, zw_eq, zw_eq]
theorem zw_le (a b : Int) : Int32.ofInt a ≤ Int32.ofInt b ↔ zw a ≤ zw b := by rw [Int32.le_iff_toInt_le, zw_eq, zw_eq]
theorem zw_ee (a b : Int) : Int32.ofInt a = Int32.ofInt b ↔ zw a = zw b := by rw [← Int32.toInt_inj, zw_eq, zw_eq]
theorem zx_lt (a b : Int) : Int64.ofInt a < Int64.ofInt b ↔ zx a < zx b := by rw [Int64.lt_iff_toInt_lt, zx_eq, zx_eq]
theorem zx_ee (a b : Int) : Int64.ofInt a = Int64.ofInt b ↔ zx a = zx b := by rw [← Int64.toInt_inj, zx_eq, zx_eq]
theorem zw_0 : (0 : Int32) = Int32.ofInt 0 := rfl
theorem zw_cl {a : Int} (h0 : 0 ≤ a) (h1 : a < 2147483648) : (Int32.ofInt a).toNatClampNeg = a.toNat := Int32.toNatClampNeg_ofInt_of_le (by omega) (by omega)
theorem zw_in {a : Int} {n : Nat} (h0 : 0 ≤ a) (h1 : a < n) (hn : n ≤ 4096) : vp_in (Int32.ofInt a) n := vp_in_iff.mpr (by rw [zw_eq, zw_id (by omega) (by omega)]; exact ⟨h0, h1⟩)
/-! operations on bits and long numbers -/
def zb_and (a b : Int) : Int := (Int32.ofInt a &&& Int32.ofInt b).toInt
def zb_or (a b : Int) : Int := (Int32.ofInt a ||| Int32.ofInt b).toInt
def zb_xor (a b : Int) : Int := (Int32.ofInt a ^^^ Int32.ofInt b).toInt
def zb_shl (a b : Int) : Int := (Int32.ofInt a <<< (Int32.ofInt b &&& 31)).toInt
def zb_shr (a b : Int) : Int := (Int32.ofInt a >>> (Int32.ofInt b &&& 31)).toInt
def zb_ushr (a b : Int) : Int := ((Int32.ofInt a).toUInt32 >>> ((Int32.ofInt b).toUInt32 &&& Int32.toUInt32 31)).toInt32.toInt
def zl_and (a b : Int) : Int := (Int64.ofInt a &&& Int64.ofInt b).toInt
def zl_or (a b : Int) : Int := (Int64.ofInt a ||| Int64.ofInt b).toInt
def zl_shl (a b : Int) : Int := (Int64.ofInt a <<< ((Int32.ofInt b).toInt64 &&& 63)).toInt
def zl_shr (a b : Int) : Int := (Int64.ofInt a >>> ((Int32.ofInt b).toInt64 &&& 63)).toInt
def zl_cmp (a b : Int) : Int := if zx b < zx a then 1 else if zx a = zx b then 0 else -1
def zb_B (P : Prop) [Decidable P] : Int := if P then 1 else 0

/-- the layout: a class and its fields (an int, a long, the cell that it refers to), or an array (0 int, 1 long, 2 boolean) and its length -/
def zl_lay : List ((Nat × List (Nat ⊕ Nat)) ⊕ (Nat × Nat)) := [.inl (10, [.inr 1, .inr 3, .inr 13, .inr 17, .inr 22, .inr 27, .inr 30, .inr 34, .inr 39, .inr 42, .inr 43, .inl 1]), .inl (6, [.inr 2, .inl 0]), .inr (0, 48), .inl (5, [.inr 4, .inr 8, .inl 0, .inl 0]), .inl (3, [.inr 5, .inr 6, .inr 7, .inl 0]), .inr (0, 4), .inr (0, 4), .inr (0, 16), .inl (1, [.inr 9, .inr 10, .inr 11, .inr 12, .inl 0, .inl 0, .inl 0]), .inr (0, 4), .inr (0, 4), .inr (0, 4), .inr (0, 4), .inl (3, [.inr 14, .inr 15, .inr 16, .inl 0]), .inr (0, 4), .inr (0, 4), .inr (0, 16), .inl (1, [.inr 18, .inr 19, .inr 20, .inr 21, .inl 0, .inl 0, .inl 0]), .inr (0, 4), .inr (0, 4), .inr (0, 4), .inr (0, 4), .inl (1, [.inr 23, .inr 24, .inr 25, .inr 26, .inl 0, .inl 0, .inl 0]), .inr (0, 4), .inr (0, 4), .inr (0, 4), .inr (0, 4), .inl (0, [.inr 28, .inr 29, .inl 0]), .inr (1, 14), .inr (0, 14), .inl (8, [.inr 31, .inr 32, .inr 33]), .inr (1, 2), .inr (0, 2), .inr (2, 2), .inl (7, [.inr 35, .inr 36, .inr 37, .inr 38, .inl 0, .inl 0, .inl 0, .inl 0]), .inr (1, 343), .inr (0, 343), .inr (1, 343), .inr (0, 343), .inl (4, [.inr 40, .inr 41, .inl 0]), .inr (0, 6), .inr (0, 64), .inl (9, [.inl 0, .inl 0, .inl 0, .inl 0, .inl 0]), .inl (2, [.inr 44, .inr 45, .inl 0, .inl 0]), .inr (0, 16), .inr (0, 16), .inl (11, [.inl 0, .inl 0, .inr 47, .inr 48, .inr 49, .inr 50, .inr 51, .inr 52, .inr 53, .inr 54, .inr 55, .inl 0, .inl 0, .inl 0, .inr 56, .inl 0, .inl 0, .inl 0, .inl 0, .inl 0, .inl 0, .inr 57, .inr 58, .inl 0, .inl 0, .inl 0, .inr 59, .inr 60, .inl 1, .inr 61, .inr 62]), .inr (0, 4), .inr (0, 4), .inr (0, 16), .inr (0, 4), .inr (0, 28), .inr (0, 4), .inr (0, 4), .inr (0, 16), .inr (0, 8), .inr (0, 48), .inr (0, 196), .inr (0, 6), .inr (0, 6), .inr (0, 6), .inr (2, 2), .inr (0, 28)]
def zl_cl : List vw_C := [(RX0, TX0, 3), (RX1, TX1, 7), (RX2, TX2, 4), (RX3, TX3, 4), (RX4, TX4, 3), (RX5, TX5, 4), (RX6, TX6, 2), (RX7, TX7, 8), (RX8, TX8, 3), (RX9, TX9, 5), (RX10, TX10, 12), (RX11, TX11, 31)]
/-- what is the same in a whole run: the launch, the classes' numbers, the array classes, where the cells lie (63: the script, 64: the static array), the script -/
abbrev zt_G : Type := Launch × va_G × (ClassId × ClassId × ClassId) × (Nat → Nat) × Nat × (Nat → Int32)
abbrev zg_l (g : zt_G) : Launch := g.1
abbrev zg_D (g : zt_G) : va_G := g.2.1
abbrev zg_c (g : zt_G) : ClassId × ClassId × ClassId := g.2.2.1
abbrev zg_ad (g : zt_G) : Nat → Nat := g.2.2.2.1
abbrev zg_L (g : zt_G) : Nat := g.2.2.2.2.1
abbrev zg_x (g : zt_G) : Nat → Int32 := g.2.2.2.2.2
def zg_k (g : zt_G) (a : Nat) : ClassId := match a with
  | 0 => (zg_c g).1
  | 1 => (zg_c g).2.1
  | _ => (zg_c g).2.2
def zg_ty (g : zt_G) : List (ClassId × FieldType) := [((zg_c g).1, .int), ((zg_c g).2.1, .long), ((zg_c g).2.2, .boolean)]
def zg_A (g : zt_G) : Nat → Prop := fun q => ∃ k, k < 63 ∧ q = zg_ad g k
def zv_c (g : zt_G) (v : zv_A) : Value := match v with
  | .inl z => .int (Int32.ofInt z)
  | .inr (.inl z) => .long (Int64.ofInt z)
  | .inr (.inr k) => .ref (zg_ad g k)
def zl_fv (g : zt_G) (M : zm_M) (k j : Nat) (f : Nat ⊕ Nat) : Value := match f with
  | .inr t => .ref (zg_ad g t)
  | .inl 0 => .int (Int32.ofInt (M k (j : Int)))
  | .inl _ => .long (Int64.ofInt (M k (j : Int)))
def zl_fs (g : zt_G) (M : zm_M) (k : Nat) : Nat → List (Nat ⊕ Nat) → List Value
  | _, [] => []
  | j, f :: r => zl_fv g M k j f :: zl_fs g M k (j + 1) r
def zl_av (M : zm_M) (k a : Nat) : (Nat → Int32) ⊕ (Nat → Int64) ⊕ (Nat → UInt32) ⊕ (Nat → UInt64) ⊕ (Nat → Option Nat) := match a with
  | 1 => .inr (.inl (fun j => Int64.ofInt (M k (j : Int))))
  | _ => .inl (fun j => Int32.ofInt (M k (j : Int)))
def zl_ct (g : zt_G) (M : zm_M) (k : Nat) : va_E := match zl_lay[k]? with
  | some (.inl q) => .inr (q.1, zl_fs g M k 0 q.2)
  | some (.inr q) => .inl (zg_k g q.1, q.2, zl_av M k q.1)
  | none => .inl ((zg_c g).1, 0, .inl (fun _ => 0))
def zl_w (g : zt_G) (M : zm_M) : va_W := (List.range 63).map (fun k => (zg_ad g k, zl_ct g M k))
theorem zl_w_at (g : zt_G) (M : zm_M) {k : Nat} (hk : k < 63) : (zl_w g M)[k]? = some (zg_ad g k, zl_ct g M k) := by
  unfold zl_w
  rw [List.getElem?_map, List.getElem?_range hk]
  rfl
theorem zl_lt {k : Nat} {x : (Nat × List (Nat ⊕ Nat)) ⊕ (Nat × Nat)} (h : zl_lay[k]? = some x) : k < 63 := (List.getElem?_eq_some_iff.mp h).1
theorem zl_len {k a n : Nat} (h : zl_lay[k]? = some (.inr (a, n))) : n ≤ 4096 := by
  have h1 : ∀ x ∈ zl_lay, (match x with | .inl _ => true | .inr q => decide (q.2 ≤ 4096)) = true := by decide +kernel
  have h2 := h1 _ (List.mem_of_getElem? h)
  exact of_decide_eq_true h2
theorem zl_ct_ne {g : zt_G} {M M2 : zm_M} {k : Nat} (h : ∀ i, M2 k i = M k i) : zl_ct g M2 k = zl_ct g M k := by
  have h1 : ∀ (l : List (Nat ⊕ Nat)) (j : Nat), zl_fs g M2 k j l = zl_fs g M k j l := by
    intro l
    induction l with
    | nil => intro j; rfl
    | cons f r ih =>
      intro j
      show zl_fv g M2 k j f :: _ = zl_fv g M k j f :: _
      rw [ih]
      congr 1
      unfold zl_fv
      split <;> simp [h]
  have h2 : ∀ a, zl_av M2 k a = zl_av M k a := by
    intro a
    unfold zl_av
    split <;> simp [h]
  unfold zl_ct
  split <;> simp [h1, h2]
theorem zl_w_set {g : zt_G} {M M2 : zm_M} {k : Nat} {e : va_E} (hk : k < 63) (h1 : zl_ct g M2 k = e) (h2 : ∀ j, j ≠ k → ∀ i, M2 j i = M j i) : (zl_w g M).set k (zg_ad g k, e) = zl_w g M2 := by
  apply List.ext_getElem?
  intro i
  by_cases hi : i = k
  · subst hi
    rw [List.getElem?_set_self (by simp [zl_w]; exact hk), zl_w_at g M2 hk, h1]
  · rw [List.getElem?_set_ne (Ne.symm hi)]
    by_cases hi2 : i < 63
    · rw [zl_w_at g M hi2, zl_w_at g M2 hi2, zl_ct_ne (h2 i hi)]
    · rw [List.getElem?_eq_none (by simp [zl_w]; omega), List.getElem?_eq_none (by simp [zl_w]; omega)]
theorem zl_ct_o {g : zt_G} {M : zm_M} {k ci : Nat} {fs : List (Nat ⊕ Nat)} (h : zl_lay[k]? = some (.inl (ci, fs))) : zl_ct g M k = .inr (ci, zl_fs g M k 0 fs) := by
  unfold zl_ct
  rw [h]
theorem zl_ct_a {g : zt_G} {M : zm_M} {k a n : Nat} (h : zl_lay[k]? = some (.inr (a, n))) : zl_ct g M k = .inl (zg_k g a, n, zl_av M k a) := by
  unfold zl_ct
  rw [h]
theorem zl_fs_at {g : zt_G} {M : zm_M} {k : Nat} : ∀ (l : List (Nat ⊕ Nat)) (j i : Nat) (f : Nat ⊕ Nat), l[i]? = some f → (zl_fs g M k j l)[i]? = some (zl_fv g M k (j + i) f)
  | [], j, i, f, h => by simp at h
  | x :: r, j, 0, f, h => by
    have e : x = f := by simpa using h
    subst e
    rfl
  | x :: r, j, i + 1, f, h => by
    have h2 : r[i]? = some f := by simpa using h
    have h3 := zl_fs_at (g := g) (M := M) (k := k) r (j + 1) i f h2
    show (zl_fs g M k (j + 1) r)[i]? = _
    rw [h3]
    congr 2
    omega
theorem zl_fs_len {g : zt_G} {M : zm_M} {k : Nat} : ∀ (l : List (Nat ⊕ Nat)) (j : Nat), (zl_fs g M k j l).length = l.length
  | [], j => rfl
  | x :: r, j => by
    show (zl_fs g M k (j + 1) r).length + 1 = r.length + 1
    rw [zl_fs_len r (j + 1)]
theorem zl_fs_set {g : zt_G} {M : zm_M} {k : Nat} {v : Int} : ∀ (l : List (Nat ⊕ Nat)) (j i t : Nat), l[i]? = some (.inl t) → (zl_fs g M k j l).set i (zl_fv g (zm_put M k ((j + i : Nat) : Int) v) k (j + i) (.inl t)) = zl_fs g (zm_put M k ((j + i : Nat) : Int) v) k j l := by
  intro l
  have key : ∀ (l : List (Nat ⊕ Nat)) (j p : Nat), p < j → zl_fs g (zm_put M k (p : Int) v) k j l = zl_fs g M k j l := by
    intro l
    induction l with
    | nil => intro j p _; rfl
    | cons x r ih =>
      intro j p hp
      show zl_fv g _ k j x :: _ = zl_fv g M k j x :: _
      rw [ih (j + 1) p (by omega)]
      congr 1
      have hne : ¬ ((j : Int) = (p : Int)) := by omega
      unfold zl_fv
      split <;> simp [zm_put, hne]
  induction l with
  | nil => intro j i t h; simp at h
  | cons x r ih =>
    intro j i t h
    cases i with
    | zero =>
      have e : x = .inl t := by simpa using h
      subst e
      show _ :: zl_fs g M k (j + 1) r = _ :: _
      rw [key r (j + 1) (j + 0) (by omega)]
      rfl
    | succ i =>
      have h2 : r[i]? = some (.inl t) := by simpa using h
      have e : j + (i + 1) = (j + 1) + i := by omega
      rw [e]
      show zl_fv g M k j x :: (zl_fs g M k (j + 1) r).set i _ = zl_fv g _ k j x :: _
      rw [ih (j + 1) i t h2]
      congr 1
      have hne : ¬ ((j : Int) = (((j + 1) + i : Nat) : Int)) := by omega
      have hme : zm_put M k (((j + 1) + i : Nat) : Int) v k (j : Int) = M k (j : Int) := by
        unfold zm_put
        rw [if_neg (fun q => hne q.2)]
      unfold zl_fv
      split <;> simp only [hme]
theorem zl_D {g : zt_G} (M : zm_M) (h : ∀ i j, i < 63 → j < 63 → zg_ad g i = zg_ad g j → i = j) : va_D (zg_A g) (zl_w g M) := by
  have key : ∀ (i : Nat) (q : Nat × va_E), (zl_w g M)[i]? = some q → i < 63 ∧ q.1 = zg_ad g i := by
    intro i q hq
    have hi : i < 63 := by
      have := (List.getElem?_eq_some_iff.mp hq).1
      simpa [zl_w] using this
    rw [zl_w_at g M hi] at hq
    cases hq
    exact ⟨hi, rfl⟩
  refine ⟨fun i j p q hp hq e => ?_, fun k q hq => ?_⟩
  · obtain ⟨a1, a2⟩ := key i p hp
    obtain ⟨b1, b2⟩ := key j q hq
    exact h i j a1 b1 (by rw [← a2, ← b2]; exact e)
  · obtain ⟨a1, a2⟩ := key k q hq
    exact ⟨k, a1, a2⟩

def zk_nest : List (String × Nat × MethodName × String) := [("ChalkTramps$Reader", 58, yX10_isPlace, "ChalkTramps"), ("ChalkTramps$Camp", 59, yX10_appetiteOf, "ChalkTramps"), ("ChalkTramps$Camp", 75, yX10_isPlace, "ChalkTramps"), ("ChalkTramps$Stranger", 32, yX10_appetiteOf, "ChalkTramps"), ("ChalkTramps$Slots", 23, yX10_isSlot, "ChalkTramps")]
def zk_rows (j : Nat) : Value := .long (Int64.ofInt (match j with | 0 => 1 | 1 => 1000 | 2 => 1000000 | 3 => 1000000000 | _ => 1000000000000))
/-- the words that go from call to call -/
def zt_tb : List Cond := lw_tbl.filter goodWord
theorem zt_ins (ws : List Cond) (ps : List Nat) (hp : ws = ps.filterMap (fun i => lw_tbl[i]?)) (h : ws.all goodWord = true) : ∀ w ∈ ws, w ∈ zt_tb := by
  intro w hw
  have h1 := List.all_eq_true.mp h w hw
  rw [hp] at hw
  obtain ⟨i, -, hi⟩ := List.mem_filterMap.mp hw
  exact List.mem_filter.mpr ⟨List.mem_of_getElem? hi, h1⟩
theorem zt_good {c : Cond} (hc : c ∈ zt_tb) : GoodIn zt_tb (c :: zt_tb) := by
  intro w hw
  have h1 : w ∈ zt_tb := (List.mem_cons.mp hw).elim (fun e => by rw [e]; exact hc) id
  exact ⟨h1, good_of_word (List.mem_filter.mp h1).2⟩
/-- what stays of the start: nest mates' links, the static array, the script, the cells apart, the classes -/
def zg_S (g : zt_G) (U : State) : Prop := (∀ q ∈ zk_nest, va_Nw (.methodLinkNest q.1 q.2.1 q.2.2.1 q.2.2.2) U) ∧ va_Z "ChalkTramps" "DOING_ROWS" "[J" (.ref (zg_ad g 64)) (zg_A g) U U.heap ∧ va_T .long (zg_ad g 64) 5 zk_rows (zg_A g) U U.heap ∧ va_X (zg_ad g 63) (zg_L g) (zg_x g) U U.heap ∧ (zg_ad g 63 < U.heap.size ∧ ¬ zg_A g (zg_ad g 63)) ∧ (∀ i j, i < 63 → j < 63 → zg_ad g i = zg_ad g j → i = j) ∧ va_K (zg_D g) zl_cl (zg_ty g) U
theorem zg_S.next {g : zt_G} {s U : State} {H : Heap} {locs : List Loc} (h : zg_S g s) (hS : va_S (zg_A g) s.heap H locs) (hU : U.heap = H) (hW : s.WarmedH U.vm) : zg_S g U := by
  obtain ⟨h1, h2, h3, h4, h5, h6, h7⟩ := h
  have hk : ∀ a : Nat, a < s.heap.size → ¬ zg_A g a → U.heap[a]? = s.heap[a]? := fun a ha hb => by rw [hU]; exact hS.2.1 a ha hb
  refine ⟨fun q hq => va_Nw.warmM hW (h1 q hq), (va_Z.moved hW.alike h2).kept hk, (va_T.moved hW.alike h3).kept hk, (va_X.moved hW.alike h4).kept (hk _ h5.1 h5.2), ⟨?_, h5.2⟩, h6, va_K.moved hW.alike h7⟩
  rw [hU]
  exact Nat.lt_of_lt_of_le h5.1 hS.1
theorem zg_S.blind {g : zt_G} {U : State} (h : zg_S g U) (f : JFrame) (mk : MethodId) (a : Array Value) : zg_S g (U.calling f mk a) := by
  obtain ⟨h1, h2, h3, h4, h5, h6, h7⟩ := h
  exact ⟨fun q hq => va_Nw.same rfl rfl (h1 q hq), va_Z.moved (Vm.Alike.refl U.vm) h2, va_T.moved (Vm.Alike.refl U.vm) h3, va_X.moved (Vm.Alike.refl U.vm) h4, h5, h6, va_K.moved (Vm.Alike.refl U.vm) h7⟩
/-- a method: its class, its code, its locals, its answer's type, its room, the cells and slots that were made before -/
abbrev zt_M : Type := String × ByteArray × Nat × Option FieldType × Room × Nat × Nat
def zt_rm (d : Nat) : Room := { frames := d, cells := 0, slots := 0, locals := 38 * d }
def zt_C (g : zt_G) (μ : zt_M) (p : Program) (s : State) (m : MethodId) (args : Array Value) (meth : Method) (c : Code) : Prop :=
  p.tables.exec = Jvm.exec ∧ c.code = μ.2.1 ∧ c.maxLocals = μ.2.2.1 ∧ s.vm.findClass μ.1 = some m.cls ∧ (∀ w ∈ zt_tb, w.before args s = true) ∧ zg_S g s ∧ μ.2.2.2.2.2.1 ≤ μ.2.2.2.2.1.cells ∧ μ.2.2.2.2.2.2 ≤ μ.2.2.2.2.1.slots
/-- a return that fits: the instruction, the type -/
def zt_R (μ : zt_M) (v : Option zv_A) (pc : Nat) : Prop := match v with
  | none => decode μ.2.1 pc = .ok (.return_, 1) ∧ μ.2.2.2.1 = none
  | some (.inl z) => decode μ.2.1 pc = .ok (.ireturn, 1) ∧ (μ.2.2.2.1 = some .int ∨ (μ.2.2.2.1 = some .boolean ∧ (z = 0 ∨ z = 1)))
  | some (.inr (.inl _)) => decode μ.2.1 pc = .ok (.lreturn, 1) ∧ μ.2.2.2.1 = some .long
  | some (.inr (.inr _)) => False
/-- the locals as a dense row -/
def zs_m (g : zt_G) : Nat → List (Option zv_A) → List (Nat × Value)
  | _, [] => []
  | i, some v :: r => (i, zv_c g v) :: zs_m g (i + 1) r
  | i, none :: r => zs_m g (i + 1) r
def zs_at : List (Option zv_A) → Nat → Option zv_A
  | [], _ => none
  | x :: _, 0 => x
  | _ :: r, n + 1 => zs_at r n
def zs_put : List (Option zv_A) → Nat → Option zv_A → List (Option zv_A)
  | [], 0, v => [v]
  | [], n + 1, v => none :: zs_put [] n v
  | _ :: r, 0, v => v :: r
  | x :: r, n + 1, v => x :: zs_put r n v
/-- no long stands just below the place -/
def zs_ok (ls : List (Option zv_A)) (i : Nat) : Bool := match i with
  | 0 => true
  | j + 1 => match zs_at ls j with
    | some (.inr (.inl _)) => false
    | _ => true
theorem zs_m_at {g : zt_G} : ∀ (ls : List (Option zv_A)) (b i : Nat) (v : zv_A), zs_at ls i = some v → (b + i, zv_c g v) ∈ zs_m g b ls
  | [], b, i, v, h => by cases h
  | some x :: r, b, 0, v, h => by
    cases h
    exact List.mem_cons_self
  | none :: r, b, 0, v, h => by cases h
  | some x :: r, b, i + 1, v, h => by
    have h2 := zs_m_at (g := g) r (b + 1) i v h
    refine List.mem_cons_of_mem _ ?_
    rw [show b + (i + 1) = b + 1 + i by omega]
    exact h2
  | none :: r, b, i + 1, v, h => by
    have h2 := zs_m_at (g := g) r (b + 1) i v h
    show (b + (i + 1), zv_c g v) ∈ zs_m g (b + 1) r
    rw [show b + (i + 1) = b + 1 + i by omega]
    exact h2
theorem zs_m_of {g : zt_G} : ∀ (ls : List (Option zv_A)) (b : Nat) (q : Nat × Value), q ∈ zs_m g b ls → ∃ i v, q = (b + i, zv_c g v) ∧ zs_at ls i = some v
  | [], b, q, h => by cases h
  | some x :: r, b, q, h => by
    rcases List.mem_cons.mp h with e | h2
    · exact ⟨0, x, e, rfl⟩
    · obtain ⟨i, v, e, h3⟩ := zs_m_of r (b + 1) q h2
      exact ⟨i + 1, v, by rw [e, show b + (i + 1) = b + 1 + i by omega], h3⟩
  | none :: r, b, q, h => by
    obtain ⟨i, v, e, h3⟩ := zs_m_of r (b + 1) q h
    exact ⟨i + 1, v, by rw [e, show b + (i + 1) = b + 1 + i by omega], h3⟩
theorem zs_put_at : ∀ (ls : List (Option zv_A)) (n i : Nat) (v : Option zv_A), zs_at (zs_put ls n v) i = if i = n then v else zs_at ls i
  | [], 0, 0, v => by simp [zs_put, zs_at]
  | [], 0, i + 1, v => by simp [zs_put, zs_at]
  | [], n + 1, 0, v => by simp [zs_put, zs_at]
  | [], n + 1, i + 1, v => by
    have h := zs_put_at [] n i v
    simp [zs_put, zs_at] at h ⊢
    exact h
  | x :: r, 0, 0, v => by simp [zs_put, zs_at]
  | x :: r, 0, i + 1, v => by simp [zs_put, zs_at]
  | x :: r, n + 1, 0, v => by simp [zs_put, zs_at]
  | x :: r, n + 1, i + 1, v => by
    have h := zs_put_at r n i v
    simp [zs_put, zs_at] at h ⊢
    exact h
theorem zs_get {g : zt_G} {la : Array Slot} {nL : Nat} {ls : List (Option zv_A)} (h : lv_has la nL (zs_m g 0 ls)) {i : Nat} {v : zv_A} (hi : zs_at ls i = some v) : la[i]? = some (.val (zv_c g v)) := by
  have h2 := zs_m_at (g := g) ls 0 i v hi
  rw [Nat.zero_add] at h2
  exact h.2.2 _ h2
theorem zs_weak {la : Array Slot} {nL : Nat} {l l2 : List (Nat × Value)} (h : lv_has la nL l) (h2 : ∀ q ∈ l2, q ∈ l) : lv_has la nL l2 := ⟨h.1, h.2.1, fun q hq => h.2.2 q (h2 q hq)⟩
theorem zs_set {g : zt_G} {la : Array Slot} {nL : Nat} {ls : List (Option zv_A)} {i : Nat} {v : zv_A} (hc : zs_ok ls i = true) (h : lv_has la nL ((i, zv_c g v) :: (zs_m g 0 ls).filter (fun q => !(q.1 == i) && !(q.1 + 1 == i && q.2.category == 2)))) : lv_has la nL (zs_m g 0 (zs_put ls i (some v))) := by
  refine zs_weak h (fun q hq => ?_)
  obtain ⟨j, u, e, h3⟩ := zs_m_of _ 0 q hq
  rw [Nat.zero_add] at e
  subst e
  rw [zs_put_at] at h3
  by_cases hj : j = i
  · rw [if_pos hj] at h3
    cases h3
    rw [hj]
    exact List.mem_cons_self
  · rw [if_neg hj] at h3
    refine List.mem_cons_of_mem _ (List.mem_filter.mpr ⟨?_, ?_⟩)
    · have := zs_m_at (g := g) ls 0 j u h3
      rwa [Nat.zero_add] at this
    · by_cases hj2 : j + 1 = i
      · subst hj2
        simp only [zs_ok, h3] at hc
        rcases u with z | z | k
        · simp [zv_c, Value.category]
        · simp at hc
        · simp [zv_c, Value.category]
      · simp [hj, hj2]
theorem zs_set2 {g : zt_G} {la : Array Slot} {nL : Nat} {ls : List (Option zv_A)} {i : Nat} {v : zv_A} (hc : zs_ok ls i = true) (h : lv_has la nL ((i, zv_c g v) :: (zs_m g 0 ls).filter (fun q => !(q.1 == i) && (!(q.1 == i + 1) && !(q.1 + 1 == i && q.2.category == 2))))) : lv_has la nL (zs_m g 0 (zs_put (zs_put ls i (some v)) (i + 1) none)) := by
  refine zs_weak h (fun q hq => ?_)
  obtain ⟨j, u, e, h3⟩ := zs_m_of _ 0 q hq
  rw [Nat.zero_add] at e
  subst e
  rw [zs_put_at] at h3
  by_cases hj1 : j = i + 1
  · rw [if_pos hj1] at h3
    cases h3
  rw [if_neg hj1, zs_put_at] at h3
  by_cases hj : j = i
  · rw [if_pos hj] at h3
    cases h3
    rw [hj]
    exact List.mem_cons_self
  · rw [if_neg hj] at h3
    refine List.mem_cons_of_mem _ (List.mem_filter.mpr ⟨?_, ?_⟩)
    · have := zs_m_at (g := g) ls 0 j u h3
      rwa [Nat.zero_add] at this
    · by_cases hj2 : j + 1 = i
      · subst hj2
        simp only [zs_ok, h3] at hc
        rcases u with z | z | k
        · simp [zv_c, Value.category, hj1]
        · simp at hc
        · simp [zv_c, Value.category, hj1]
      · simp [hj, hj1, hj2]
/-- THE JUDGEMENT: method μ stands at pc with these locals, this stack, this memory: it comes to its end with Q -/
def zc_Z (g : zt_G) (μ : zt_M) (pc : Nat) (ls : List (Option zv_A)) (st : List zv_A) (M : zm_M) (Q : Option zv_A → zm_M → Prop) : Prop :=
  ∀ (p : Program) (e : Env) (s : State) (m : MethodId) (args : Array Value) (below : List Frame) (meth : Method) (c : Code) (Qf : State → Prop) (H : Heap) (locs : List Loc) (la : Array Slot),
    zt_C g μ p s m args meth c →
    (∀ (v : Option zv_A) (M2 : zm_M) (H2 : Heap) (locs2 : List Loc) (la2 : Array Slot) (pc2 : Nat), Q v M2 → zt_R μ v pc2 → va_P (zg_D g) zl_cl (zl_w g M2) H2 → va_S (zg_A g) s.heap H2 locs2 → W p (zg_l g) e μ.2.2.2.2.1 s m args below meth c H2 locs2 μ.2.2.2.2.2.1 μ.2.2.2.2.2.2 Qf (F0 m pc2 la2 (v.toList.map (zv_c g)))) →
    va_P (zg_D g) zl_cl (zl_w g M) H → va_S (zg_A g) s.heap H locs → lv_has la μ.2.2.1 (zs_m g 0 ls) →
    W p (zg_l g) e μ.2.2.2.2.1 s m args below meth c H locs μ.2.2.2.2.2.1 μ.2.2.2.2.2.2 Qf (F0 m pc la (st.map (zv_c g)))
/-- a method's contract -/
def zq_P (g : zt_G) (av : List zv_A) (M : zm_M) : Array Value → State → Prop := va_Pc (av.map (zv_c g)) (fun U => va_P (zg_D g) zl_cl (zl_w g M) U.heap ∧ zg_S g U)
def zq_Q (g : zt_G) (Q : Option zv_A → zm_M → Prop) : Array Value → State → Outcome → State → Prop := fun _ st oc t => (∃ (v : Option zv_A) (M2 : zm_M), oc = .returned (v.map (zv_c g)) ∧ Q v M2 ∧ va_P (zg_D g) zl_cl (zl_w g M2) t.heap) ∧ va_F (zg_A g) st t
def zc_K (g : zt_G) (y : MethodName) (μ : zt_M) (av : List zv_A) (M : zm_M) (Q : Option zv_A → zm_M → Prop) : Prop :=
  Met (zg_l g) y (.code y μ.2.1 μ.2.2.1 μ.2.2.2.1 :: zt_tb) μ.2.2.2.2.1 (zq_P g av M) (zq_Q g Q) 0 0 (zg_A g)

