theorem zr_iconst {g : zt_G} {μ : zt_M} {pc : Nat} {ls : List (Option zv_A)} {st : List zv_A} {M : zm_M} {Q : Option zv_A → zm_M → Prop} {n : Int} (hd : decode μ.2.1 pc = .ok (.iconst n, 1)) (k : zc_Z g μ (pc + 1) ls (zv_i n :: st) M Q) : zc_Z g μ pc ls (st) M Q := by
  intro p e s m args below meth c Qf H locs la C hf hP hS hl
  exact lv_iconst C.1 C.2.1 hd rfl (k p e s m args below meth c Qf H locs la C hf hP hS hl)
theorem zb_i8 {n : Int} (h1 : -128 ≤ n) (h2 : n < 128) : (Int8.ofInt n).toInt32 = Int32.ofInt n := by
  apply Int32.toInt_inj.mp
  rw [Int8.toInt_toInt32, Int8.toInt_ofInt_of_le (by omega) (by omega), zw_eq, zw_id (by omega) (by omega)]
theorem zb_i16 {n : Int} (h1 : -32768 ≤ n) (h2 : n < 32768) : (Int16.ofInt n).toInt32 = Int32.ofInt n := by
  apply Int32.toInt_inj.mp
  rw [Int16.toInt_toInt32, Int16.toInt_ofInt_of_le (by omega) (by omega), zw_eq, zw_id (by omega) (by omega)]
theorem zr_bipush {g : zt_G} {μ : zt_M} {pc : Nat} {ls : List (Option zv_A)} {st : List zv_A} {M : zm_M} {Q : Option zv_A → zm_M → Prop} {n : Int} (hd : decode μ.2.1 pc = .ok (.bipush n, 2)) (hn : -128 ≤ n ∧ n < 128) (k : zc_Z g μ (pc + 2) ls (zv_i n :: st) M Q) : zc_Z g μ pc ls (st) M Q := by
  intro p e s m args below meth c Qf H locs la C hf hP hS hl
  exact lv_bipush C.1 C.2.1 hd (zb_i8 hn.1 hn.2) (k p e s m args below meth c Qf H locs la C hf hP hS hl)
theorem zr_sipush {g : zt_G} {μ : zt_M} {pc : Nat} {ls : List (Option zv_A)} {st : List zv_A} {M : zm_M} {Q : Option zv_A → zm_M → Prop} {n : Int} (hd : decode μ.2.1 pc = .ok (.sipush n, 3)) (hn : -32768 ≤ n ∧ n < 32768) (k : zc_Z g μ (pc + 3) ls (zv_i n :: st) M Q) : zc_Z g μ pc ls (st) M Q := by
  intro p e s m args below meth c Qf H locs la C hf hP hS hl
  exact lv_sipush C.1 C.2.1 hd (zb_i16 hn.1 hn.2) (k p e s m args below meth c Qf H locs la C hf hP hS hl)
theorem zr_lconst {g : zt_G} {μ : zt_M} {pc : Nat} {ls : List (Option zv_A)} {st : List zv_A} {M : zm_M} {Q : Option zv_A → zm_M → Prop} {n : Fin 2} {z : Int} (hd : decode μ.2.1 pc = .ok (.lconst n, 1)) (hz : Int64.ofNat (n : Nat) = Int64.ofInt z) (k : zc_Z g μ (pc + 1) ls (zv_l z :: st) M Q) : zc_Z g μ pc ls (st) M Q := by
  intro p e s m args below meth c Qf H locs la C hf hP hS hl
  exact lv_lconst C.1 C.2.1 hd hz (k p e s m args below meth c Qf H locs la C hf hP hS hl)
theorem zr_ldc2 {g : zt_G} {μ : zt_M} {pc : Nat} {ls : List (Option zv_A)} {st : List zv_A} {M : zm_M} {Q : Option zv_A → zm_M → Prop} {own : String} {ix : Nat} {v : Int64} {z : Int} (ho : μ.1 = own) (hw : Cond.constantLong own ix v ∈ zt_tb) (hz : v = Int64.ofInt z) (hd : decode μ.2.1 pc = .ok (.ldc2_w ix, 3)) (k : zc_Z g μ (pc + 3) ls (zv_l z :: st) M Q) : zc_Z g μ pc ls (st) M Q := by
  intro p e s m args below meth c Qf H locs la C hf hP hS hl
  subst hz
  subst ho
  exact lv_ldc2 C.1 C.2.1 C.2.2.2.1 (C.2.2.2.2.1 _ hw) hd (k p e s m args below meth c Qf H locs la C hf hP hS hl)
theorem zr_ldcw {g : zt_G} {μ : zt_M} {pc : Nat} {ls : List (Option zv_A)} {st : List zv_A} {M : zm_M} {Q : Option zv_A → zm_M → Prop} {own : String} {ix : Nat} {v : Int32} {z : Int} (ho : μ.1 = own) (hw : Cond.constant own ix v ∈ zt_tb) (hz : v = Int32.ofInt z) (hd : decode μ.2.1 pc = .ok (.ldc_w ix, 3)) (k : zc_Z g μ (pc + 3) ls (zv_i z :: st) M Q) : zc_Z g μ pc ls (st) M Q := by
  intro p e s m args below meth c Qf H locs la C hf hP hS hl
  subst hz
  subst ho
  exact lv_ldcw C.1 C.2.1 C.2.2.2.1 (C.2.2.2.2.1 _ hw) hd (k p e s m args below meth c Qf H locs la C hf hP hS hl)
theorem zr_iload_n {g : zt_G} {μ : zt_M} {pc : Nat} {ls : List (Option zv_A)} {st : List zv_A} {M : zm_M} {Q : Option zv_A → zm_M → Prop} {a : Int} {f : Fin 4} {i : Nat} (hd : decode μ.2.1 pc = .ok (.iload_n f, 1)) (hi : (f : Nat) = i) (h : zs_at ls i = some (zv_i a)) (k : zc_Z g μ (pc + 1) ls (zv_i a :: st) M Q) : zc_Z g μ pc ls (st) M Q := by
  intro p e s m args below meth c Qf H locs la C hf hP hS hl
  exact lv_iload_n C.1 C.2.1 hd hi (zs_get hl h) (k p e s m args below meth c Qf H locs la C hf hP hS hl)
theorem zr_iload {g : zt_G} {μ : zt_M} {pc : Nat} {ls : List (Option zv_A)} {st : List zv_A} {M : zm_M} {Q : Option zv_A → zm_M → Prop} {a : Int} {i : Nat} (hd : decode μ.2.1 pc = .ok (.iload i, 2)) (h : zs_at ls i = some (zv_i a)) (k : zc_Z g μ (pc + 2) ls (zv_i a :: st) M Q) : zc_Z g μ pc ls (st) M Q := by
  intro p e s m args below meth c Qf H locs la C hf hP hS hl
  exact lv_iload C.1 C.2.1 hd (zs_get hl h) (k p e s m args below meth c Qf H locs la C hf hP hS hl)
theorem zr_lload_n {g : zt_G} {μ : zt_M} {pc : Nat} {ls : List (Option zv_A)} {st : List zv_A} {M : zm_M} {Q : Option zv_A → zm_M → Prop} {a : Int} {f : Fin 4} {i : Nat} (hd : decode μ.2.1 pc = .ok (.lload_n f, 1)) (hi : (f : Nat) = i) (h : zs_at ls i = some (zv_l a)) (k : zc_Z g μ (pc + 1) ls (zv_l a :: st) M Q) : zc_Z g μ pc ls (st) M Q := by
  intro p e s m args below meth c Qf H locs la C hf hP hS hl
  exact lv_lload_n C.1 C.2.1 hd hi (zs_get hl h) (k p e s m args below meth c Qf H locs la C hf hP hS hl)
theorem zr_lload {g : zt_G} {μ : zt_M} {pc : Nat} {ls : List (Option zv_A)} {st : List zv_A} {M : zm_M} {Q : Option zv_A → zm_M → Prop} {a : Int} {i : Nat} (hd : decode μ.2.1 pc = .ok (.lload i, 2)) (h : zs_at ls i = some (zv_l a)) (k : zc_Z g μ (pc + 2) ls (zv_l a :: st) M Q) : zc_Z g μ pc ls (st) M Q := by
  intro p e s m args below meth c Qf H locs la C hf hP hS hl
  exact lv_lload C.1 C.2.1 hd (zs_get hl h) (k p e s m args below meth c Qf H locs la C hf hP hS hl)
theorem zr_aload_n {g : zt_G} {μ : zt_M} {pc : Nat} {ls : List (Option zv_A)} {st : List zv_A} {M : zm_M} {Q : Option zv_A → zm_M → Prop} {a : Nat} {f : Fin 4} {i : Nat} (hd : decode μ.2.1 pc = .ok (.aload_n f, 1)) (hi : (f : Nat) = i) (h : zs_at ls i = some (zv_r a)) (k : zc_Z g μ (pc + 1) ls (zv_r a :: st) M Q) : zc_Z g μ pc ls (st) M Q := by
  intro p e s m args below meth c Qf H locs la C hf hP hS hl
  exact lv_aload_n C.1 C.2.1 hd hi (zs_get hl h) (k p e s m args below meth c Qf H locs la C hf hP hS hl)
theorem zr_aload {g : zt_G} {μ : zt_M} {pc : Nat} {ls : List (Option zv_A)} {st : List zv_A} {M : zm_M} {Q : Option zv_A → zm_M → Prop} {a : Nat} {i : Nat} (hd : decode μ.2.1 pc = .ok (.aload i, 2)) (h : zs_at ls i = some (zv_r a)) (k : zc_Z g μ (pc + 2) ls (zv_r a :: st) M Q) : zc_Z g μ pc ls (st) M Q := by
  intro p e s m args below meth c Qf H locs la C hf hP hS hl
  exact lv_aload C.1 C.2.1 hd (zs_get hl h) (k p e s m args below meth c Qf H locs la C hf hP hS hl)
theorem zr_istore_n {g : zt_G} {μ : zt_M} {pc : Nat} {ls : List (Option zv_A)} {st : List zv_A} {M : zm_M} {Q : Option zv_A → zm_M → Prop} {a : Int} {f : Fin 4} {i : Nat} (hd : decode μ.2.1 pc = .ok (.istore_n f, 1)) (hi : (f : Nat) = i) (hn : i < μ.2.2.1) (hc : zs_ok ls i = true) (k : zc_Z g μ (pc + 1) (zs_put ls i (some (zv_i a))) (st) M Q) : zc_Z g μ pc ls (zv_i a :: st) M Q := by
  intro p e s m args below meth c Qf H locs la C hf hP hS hl
  exact lv_istore_n C.1 C.2.1 hd hi hl hn rfl (fun la2 h2 => k p e s m args below meth c Qf H locs la2 C hf hP hS (zs_set hc h2))
theorem zr_istore {g : zt_G} {μ : zt_M} {pc : Nat} {ls : List (Option zv_A)} {st : List zv_A} {M : zm_M} {Q : Option zv_A → zm_M → Prop} {a : Int} {i : Nat} (hd : decode μ.2.1 pc = .ok (.istore i, 2)) (hn : i < μ.2.2.1) (hc : zs_ok ls i = true) (k : zc_Z g μ (pc + 2) (zs_put ls i (some (zv_i a))) (st) M Q) : zc_Z g μ pc ls (zv_i a :: st) M Q := by
  intro p e s m args below meth c Qf H locs la C hf hP hS hl
  exact lv_istore C.1 C.2.1 hd hl hn rfl (fun la2 h2 => k p e s m args below meth c Qf H locs la2 C hf hP hS (zs_set hc h2))
theorem zr_astore_n {g : zt_G} {μ : zt_M} {pc : Nat} {ls : List (Option zv_A)} {st : List zv_A} {M : zm_M} {Q : Option zv_A → zm_M → Prop} {a : Nat} {f : Fin 4} {i : Nat} (hd : decode μ.2.1 pc = .ok (.astore_n f, 1)) (hi : (f : Nat) = i) (hn : i < μ.2.2.1) (hc : zs_ok ls i = true) (k : zc_Z g μ (pc + 1) (zs_put ls i (some (zv_r a))) (st) M Q) : zc_Z g μ pc ls (zv_r a :: st) M Q := by
  intro p e s m args below meth c Qf H locs la C hf hP hS hl
  exact lv_astore_n C.1 C.2.1 hd hi hl hn rfl (fun la2 h2 => k p e s m args below meth c Qf H locs la2 C hf hP hS (zs_set hc h2))
theorem zr_astore {g : zt_G} {μ : zt_M} {pc : Nat} {ls : List (Option zv_A)} {st : List zv_A} {M : zm_M} {Q : Option zv_A → zm_M → Prop} {a : Nat} {i : Nat} (hd : decode μ.2.1 pc = .ok (.astore i, 2)) (hn : i < μ.2.2.1) (hc : zs_ok ls i = true) (k : zc_Z g μ (pc + 2) (zs_put ls i (some (zv_r a))) (st) M Q) : zc_Z g μ pc ls (zv_r a :: st) M Q := by
  intro p e s m args below meth c Qf H locs la C hf hP hS hl
  exact lv_astore C.1 C.2.1 hd hl hn rfl (fun la2 h2 => k p e s m args below meth c Qf H locs la2 C hf hP hS (zs_set hc h2))
theorem zr_lstore_n {g : zt_G} {μ : zt_M} {pc : Nat} {ls : List (Option zv_A)} {st : List zv_A} {M : zm_M} {Q : Option zv_A → zm_M → Prop} {a : Int} {f : Fin 4} {i : Nat} (hd : decode μ.2.1 pc = .ok (.lstore_n f, 1)) (hi : (f : Nat) = i) (hn : i + 1 < μ.2.2.1) (hc : zs_ok ls i = true) (k : zc_Z g μ (pc + 1) (zs_put (zs_put ls i (some (zv_l a))) (i + 1) none) (st) M Q) : zc_Z g μ pc ls (zv_l a :: st) M Q := by
  intro p e s m args below meth c Qf H locs la C hf hP hS hl
  exact lv_lstore_n C.1 C.2.1 hd hi hl hn rfl (fun la2 h2 => k p e s m args below meth c Qf H locs la2 C hf hP hS (zs_set2 (v := zv_l a) hc h2))
theorem zs_mem {α : Type} {l : List α} {x : α} (h : x ∈ l) : ∃ k : Nat, l[k]? = some x := List.getElem?_of_mem h
theorem zr_iinc {g : zt_G} {μ : zt_M} {pc : Nat} {ls : List (Option zv_A)} {st : List zv_A} {M : zm_M} {Q : Option zv_A → zm_M → Prop} {a n : Int} {i : Nat} (hd : decode μ.2.1 pc = .ok (.iinc i n, 3)) (h : zs_at ls i = some (zv_i a)) (hn : i < μ.2.2.1) (hc : zs_ok ls i = true) (k : zc_Z g μ (pc + 3) (zs_put ls i (some (zv_i (a + n)))) (st) M Q) : zc_Z g μ pc ls (st) M Q := by
  intro p e s m args below meth c Qf H locs la C hf hP hS hl
  have hm := zs_m_at (g := g) ls 0 i _ h
  rw [Nat.zero_add] at hm
  obtain ⟨q, hq⟩ := zs_mem hm
  exact lv_iinc C.1 C.2.1 hd hl hq (v := Int32.ofInt (a + n)) (Int32.ofInt_add a n).symm hn rfl (fun la2 h2 => k p e s m args below meth c Qf H locs la2 C hf hP hS (zs_set (v := zv_i (a + n)) hc h2))
theorem zr_iadd {g : zt_G} {μ : zt_M} {pc : Nat} {ls : List (Option zv_A)} {st : List zv_A} {M : zm_M} {Q : Option zv_A → zm_M → Prop} {a b : Int} (hd : decode μ.2.1 pc = .ok (.iadd, 1)) (k : zc_Z g μ (pc + 1) ls (zv_i (a + b) :: st) M Q) : zc_Z g μ pc ls (zv_i b :: zv_i a :: st) M Q := by
  intro p e s m args below meth c Qf H locs la C hf hP hS hl
  have k2 := k p e s m args below meth c Qf H locs la C hf hP hS hl
  rw [show (zv_i (a + b) :: st).map (zv_c g) = .int (Int32.ofInt (a + b)) :: st.map (zv_c g) from rfl, Int32.ofInt_add] at k2
  exact lv_iadd C.1 C.2.1 hd k2
theorem zr_isub {g : zt_G} {μ : zt_M} {pc : Nat} {ls : List (Option zv_A)} {st : List zv_A} {M : zm_M} {Q : Option zv_A → zm_M → Prop} {a b : Int} (hd : decode μ.2.1 pc = .ok (.isub, 1)) (k : zc_Z g μ (pc + 1) ls (zv_i (a - b) :: st) M Q) : zc_Z g μ pc ls (zv_i b :: zv_i a :: st) M Q := by
  intro p e s m args below meth c Qf H locs la C hf hP hS hl
  have k2 := k p e s m args below meth c Qf H locs la C hf hP hS hl
  rw [show (zv_i (a - b) :: st).map (zv_c g) = .int (Int32.ofInt (a - b)) :: st.map (zv_c g) from rfl, Int32.ofInt_sub] at k2
  exact lv_isub C.1 C.2.1 hd k2
theorem zr_imul {g : zt_G} {μ : zt_M} {pc : Nat} {ls : List (Option zv_A)} {st : List zv_A} {M : zm_M} {Q : Option zv_A → zm_M → Prop} {a b : Int} (hd : decode μ.2.1 pc = .ok (.imul, 1)) (k : zc_Z g μ (pc + 1) ls (zv_i (a * b) :: st) M Q) : zc_Z g μ pc ls (zv_i b :: zv_i a :: st) M Q := by
  intro p e s m args below meth c Qf H locs la C hf hP hS hl
  have k2 := k p e s m args below meth c Qf H locs la C hf hP hS hl
  rw [show (zv_i (a * b) :: st).map (zv_c g) = .int (Int32.ofInt (a * b)) :: st.map (zv_c g) from rfl, Int32.ofInt_mul] at k2
  exact lv_imul C.1 C.2.1 hd k2
theorem zr_iand {g : zt_G} {μ : zt_M} {pc : Nat} {ls : List (Option zv_A)} {st : List zv_A} {M : zm_M} {Q : Option zv_A → zm_M → Prop} {a b : Int} (hd : decode μ.2.1 pc = .ok (.iand, 1)) (k : zc_Z g μ (pc + 1) ls (zv_i (zb_and a b) :: st) M Q) : zc_Z g μ pc ls (zv_i b :: zv_i a :: st) M Q := by
  intro p e s m args below meth c Qf H locs la C hf hP hS hl
  have k2 := k p e s m args below meth c Qf H locs la C hf hP hS hl
  rw [show (zv_i (zb_and a b) :: st).map (zv_c g) = .int (Int32.ofInt (zb_and a b)) :: st.map (zv_c g) from rfl, show Int32.ofInt (zb_and a b) = _ from Int32.ofInt_toInt _] at k2
  exact lv_iand C.1 C.2.1 hd k2
theorem zr_ior {g : zt_G} {μ : zt_M} {pc : Nat} {ls : List (Option zv_A)} {st : List zv_A} {M : zm_M} {Q : Option zv_A → zm_M → Prop} {a b : Int} (hd : decode μ.2.1 pc = .ok (.ior, 1)) (k : zc_Z g μ (pc + 1) ls (zv_i (zb_or a b) :: st) M Q) : zc_Z g μ pc ls (zv_i b :: zv_i a :: st) M Q := by
  intro p e s m args below meth c Qf H locs la C hf hP hS hl
  have k2 := k p e s m args below meth c Qf H locs la C hf hP hS hl
  rw [show (zv_i (zb_or a b) :: st).map (zv_c g) = .int (Int32.ofInt (zb_or a b)) :: st.map (zv_c g) from rfl, show Int32.ofInt (zb_or a b) = _ from Int32.ofInt_toInt _] at k2
  exact lv_ior C.1 C.2.1 hd k2
theorem zr_ixor {g : zt_G} {μ : zt_M} {pc : Nat} {ls : List (Option zv_A)} {st : List zv_A} {M : zm_M} {Q : Option zv_A → zm_M → Prop} {a b : Int} (hd : decode μ.2.1 pc = .ok (.ixor, 1)) (k : zc_Z g μ (pc + 1) ls (zv_i (zb_xor a b) :: st) M Q) : zc_Z g μ pc ls (zv_i b :: zv_i a :: st) M Q := by
  intro p e s m args below meth c Qf H locs la C hf hP hS hl
  have k2 := k p e s m args below meth c Qf H locs la C hf hP hS hl
  rw [show (zv_i (zb_xor a b) :: st).map (zv_c g) = .int (Int32.ofInt (zb_xor a b)) :: st.map (zv_c g) from rfl, show Int32.ofInt (zb_xor a b) = _ from Int32.ofInt_toInt _] at k2
  exact lv_ixor C.1 C.2.1 hd k2
theorem zr_ishl {g : zt_G} {μ : zt_M} {pc : Nat} {ls : List (Option zv_A)} {st : List zv_A} {M : zm_M} {Q : Option zv_A → zm_M → Prop} {a b : Int} (hd : decode μ.2.1 pc = .ok (.ishl, 1)) (k : zc_Z g μ (pc + 1) ls (zv_i (zb_shl a b) :: st) M Q) : zc_Z g μ pc ls (zv_i b :: zv_i a :: st) M Q := by
  intro p e s m args below meth c Qf H locs la C hf hP hS hl
  have k2 := k p e s m args below meth c Qf H locs la C hf hP hS hl
  rw [show (zv_i (zb_shl a b) :: st).map (zv_c g) = .int (Int32.ofInt (zb_shl a b)) :: st.map (zv_c g) from rfl, show Int32.ofInt (zb_shl a b) = _ from Int32.ofInt_toInt _] at k2
  exact lv_ishl C.1 C.2.1 hd k2
theorem zr_ishr {g : zt_G} {μ : zt_M} {pc : Nat} {ls : List (Option zv_A)} {st : List zv_A} {M : zm_M} {Q : Option zv_A → zm_M → Prop} {a b : Int} (hd : decode μ.2.1 pc = .ok (.ishr, 1)) (k : zc_Z g μ (pc + 1) ls (zv_i (zb_shr a b) :: st) M Q) : zc_Z g μ pc ls (zv_i b :: zv_i a :: st) M Q := by
  intro p e s m args below meth c Qf H locs la C hf hP hS hl
  have k2 := k p e s m args below meth c Qf H locs la C hf hP hS hl
  rw [show (zv_i (zb_shr a b) :: st).map (zv_c g) = .int (Int32.ofInt (zb_shr a b)) :: st.map (zv_c g) from rfl, show Int32.ofInt (zb_shr a b) = _ from Int32.ofInt_toInt _] at k2
  exact lv_ishr C.1 C.2.1 hd k2
theorem zr_iushr {g : zt_G} {μ : zt_M} {pc : Nat} {ls : List (Option zv_A)} {st : List zv_A} {M : zm_M} {Q : Option zv_A → zm_M → Prop} {a b : Int} (hd : decode μ.2.1 pc = .ok (.iushr, 1)) (k : zc_Z g μ (pc + 1) ls (zv_i (zb_ushr a b) :: st) M Q) : zc_Z g μ pc ls (zv_i b :: zv_i a :: st) M Q := by
  intro p e s m args below meth c Qf H locs la C hf hP hS hl
  refine lv_iushr C.1 C.2.1 hd (v := Int32.ofInt (zb_ushr a b)) ?_ (k p e s m args below meth c Qf H locs la C hf hP hS hl)
  unfold zb_ushr
  rw [Int32.ofInt_toInt]
theorem zr_ineg {g : zt_G} {μ : zt_M} {pc : Nat} {ls : List (Option zv_A)} {st : List zv_A} {M : zm_M} {Q : Option zv_A → zm_M → Prop} {a : Int} (hd : decode μ.2.1 pc = .ok (.ineg, 1)) (k : zc_Z g μ (pc + 1) ls (zv_i (-a) :: st) M Q) : zc_Z g μ pc ls (zv_i a :: st) M Q := by
  intro p e s m args below meth c Qf H locs la C hf hP hS hl
  have k2 := k p e s m args below meth c Qf H locs la C hf hP hS hl
  rw [show (zv_i (-a) :: st).map (zv_c g) = .int (Int32.ofInt (-a)) :: st.map (zv_c g) from rfl, Int32.ofInt_neg] at k2
  exact lv_ineg C.1 C.2.1 hd k2
theorem fb0_bmod {z : Int} (h1 : -2147483648 ≤ z) (h2 : z < 2147483648) : z.bmod (2 ^ 32) = z := by
  have := zw_eq z
  rw [Int32.toInt_ofInt, zw_id h1 h2] at this
  exact this
theorem fb0_bmodL {z : Int} (h1 : -9223372036854775808 ≤ z) (h2 : z < 9223372036854775808) : z.bmod (2 ^ 64) = z := by
  have := zx_eq z
  rw [Int64.toInt_ofInt, zx_id h1 h2] at this
  exact this
theorem zb_ne0 {b : Int} (h0 : 0 < b) (h1 : b < 2147483648) : ¬ Int32.ofInt b = 0 := by
  rw [zw_0, zw_ee, zw_id (by omega) (by omega), zw_id (by omega) (by omega)]
  omega
theorem zb_dv {a b : Int} (ha : 0 ≤ a) (ha2 : a < 2147483648) (hb : 0 < b) (hb2 : b < 2147483648) : Int32.ofInt a / Int32.ofInt b = Int32.ofInt (a / b) := by
  have hq1 : 0 ≤ a / b := Int.ediv_nonneg ha (by omega)
  have hq2 : a / b ≤ a := Int.ediv_le_self b ha
  apply Int32.toInt_inj.mp
  rw [Int32.toInt_div, zw_eq, zw_eq, zw_eq, zw_id (by omega) (by omega), zw_id (by omega) (by omega), zw_id (by omega) (by omega), Int.tdiv_eq_ediv_of_nonneg ha]
  exact fb0_bmod (by omega) (by omega)
theorem zb_rm {a b : Int} (ha : 0 ≤ a) (ha2 : a < 2147483648) (hb : 0 < b) (hb2 : b < 2147483648) : Int32.ofInt a - Int32.ofInt a / Int32.ofInt b * Int32.ofInt b = Int32.ofInt (a % b) := by
  rw [zb_dv ha ha2 hb hb2, ← Int32.ofInt_mul, ← Int32.ofInt_sub]
  congr 1
  have := Int.emod_add_mul_ediv a b
  rw [Int.mul_comm] at this
  omega
theorem zb_ne0L {b : Int} (h0 : 0 < b) (h1 : b < 9223372036854775808) : ¬ Int64.ofInt b = 0 := by
  rw [show (0 : Int64) = Int64.ofInt 0 from rfl, zx_ee, zx_id (by omega) (by omega), zx_id (by omega) (by omega)]
  omega
theorem zb_dvL {a b : Int} (ha : 0 ≤ a) (ha2 : a < 9223372036854775808) (hb : 0 < b) (hb2 : b < 9223372036854775808) : Int64.ofInt a / Int64.ofInt b = Int64.ofInt (a / b) := by
  have hq1 : 0 ≤ a / b := Int.ediv_nonneg ha (by omega)
  have hq2 : a / b ≤ a := Int.ediv_le_self b ha
  apply Int64.toInt_inj.mp
  rw [Int64.toInt_div, zx_eq, zx_eq, zx_eq, zx_id (by omega) (by omega), zx_id (by omega) (by omega), zx_id (by omega) (by omega), Int.tdiv_eq_ediv_of_nonneg ha]
  exact fb0_bmodL (by omega) (by omega)
theorem zb_rmL {a b : Int} (ha : 0 ≤ a) (ha2 : a < 9223372036854775808) (hb : 0 < b) (hb2 : b < 9223372036854775808) : Int64.ofInt a - Int64.ofInt a / Int64.ofInt b * Int64.ofInt b = Int64.ofInt (a % b) := by
  rw [zb_dvL ha ha2 hb hb2, ← Int64.ofInt_mul, ← Int64.ofInt_sub]
  congr 1
  have := Int.emod_add_mul_ediv a b
  rw [Int.mul_comm] at this
  omega
theorem zr_idiv {g : zt_G} {μ : zt_M} {pc : Nat} {ls : List (Option zv_A)} {st : List zv_A} {M : zm_M} {Q : Option zv_A → zm_M → Prop} {a b : Int} (ha : 0 ≤ a ∧ a < 2147483648) (hb : 0 < b ∧ b < 2147483648) (hd : decode μ.2.1 pc = .ok (.idiv, 1)) (k : zc_Z g μ (pc + 1) ls (zv_i (a / b) :: st) M Q) : zc_Z g μ pc ls (zv_i b :: zv_i a :: st) M Q := by
  intro p e s m args below meth c Qf H locs la C hf hP hS hl
  have k2 := k p e s m args below meth c Qf H locs la C hf hP hS hl
  rw [show (zv_i (a / b) :: st).map (zv_c g) = .int (Int32.ofInt (a / b)) :: st.map (zv_c g) from rfl, ← zb_dv ha.1 ha.2 hb.1 hb.2] at k2
  exact lv_idiv C.1 C.2.1 hd (zb_ne0 hb.1 hb.2) k2
theorem zr_irem {g : zt_G} {μ : zt_M} {pc : Nat} {ls : List (Option zv_A)} {st : List zv_A} {M : zm_M} {Q : Option zv_A → zm_M → Prop} {a b : Int} (ha : 0 ≤ a ∧ a < 2147483648) (hb : 0 < b ∧ b < 2147483648) (hd : decode μ.2.1 pc = .ok (.irem, 1)) (k : zc_Z g μ (pc + 1) ls (zv_i (a % b) :: st) M Q) : zc_Z g μ pc ls (zv_i b :: zv_i a :: st) M Q := by
  intro p e s m args below meth c Qf H locs la C hf hP hS hl
  have k2 := k p e s m args below meth c Qf H locs la C hf hP hS hl
  rw [show (zv_i (a % b) :: st).map (zv_c g) = .int (Int32.ofInt (a % b)) :: st.map (zv_c g) from rfl, ← zb_rm ha.1 ha.2 hb.1 hb.2] at k2
  exact lv_irem C.1 C.2.1 hd (zb_ne0 hb.1 hb.2) k2
theorem zr_ladd {g : zt_G} {μ : zt_M} {pc : Nat} {ls : List (Option zv_A)} {st : List zv_A} {M : zm_M} {Q : Option zv_A → zm_M → Prop} {a b : Int} (hd : decode μ.2.1 pc = .ok (.ladd, 1)) (k : zc_Z g μ (pc + 1) ls (zv_l (a + b) :: st) M Q) : zc_Z g μ pc ls (zv_l b :: zv_l a :: st) M Q := by
  intro p e s m args below meth c Qf H locs la C hf hP hS hl
  have k2 := k p e s m args below meth c Qf H locs la C hf hP hS hl
  rw [show (zv_l (a + b) :: st).map (zv_c g) = .long (Int64.ofInt (a + b)) :: st.map (zv_c g) from rfl, Int64.ofInt_add] at k2
  exact lv_ladd C.1 C.2.1 hd k2
theorem zr_lsub {g : zt_G} {μ : zt_M} {pc : Nat} {ls : List (Option zv_A)} {st : List zv_A} {M : zm_M} {Q : Option zv_A → zm_M → Prop} {a b : Int} (hd : decode μ.2.1 pc = .ok (.lsub, 1)) (k : zc_Z g μ (pc + 1) ls (zv_l (a - b) :: st) M Q) : zc_Z g μ pc ls (zv_l b :: zv_l a :: st) M Q := by
  intro p e s m args below meth c Qf H locs la C hf hP hS hl
  have k2 := k p e s m args below meth c Qf H locs la C hf hP hS hl
  rw [show (zv_l (a - b) :: st).map (zv_c g) = .long (Int64.ofInt (a - b)) :: st.map (zv_c g) from rfl, Int64.ofInt_sub] at k2
  exact lv_lsub C.1 C.2.1 hd k2
theorem zr_lmul {g : zt_G} {μ : zt_M} {pc : Nat} {ls : List (Option zv_A)} {st : List zv_A} {M : zm_M} {Q : Option zv_A → zm_M → Prop} {a b : Int} (hd : decode μ.2.1 pc = .ok (.lmul, 1)) (k : zc_Z g μ (pc + 1) ls (zv_l (a * b) :: st) M Q) : zc_Z g μ pc ls (zv_l b :: zv_l a :: st) M Q := by
  intro p e s m args below meth c Qf H locs la C hf hP hS hl
  have k2 := k p e s m args below meth c Qf H locs la C hf hP hS hl
  rw [show (zv_l (a * b) :: st).map (zv_c g) = .long (Int64.ofInt (a * b)) :: st.map (zv_c g) from rfl, Int64.ofInt_mul] at k2
  exact lv_lmul C.1 C.2.1 hd k2
theorem zr_land {g : zt_G} {μ : zt_M} {pc : Nat} {ls : List (Option zv_A)} {st : List zv_A} {M : zm_M} {Q : Option zv_A → zm_M → Prop} {a b : Int} (hd : decode μ.2.1 pc = .ok (.land, 1)) (k : zc_Z g μ (pc + 1) ls (zv_l (zl_and a b) :: st) M Q) : zc_Z g μ pc ls (zv_l b :: zv_l a :: st) M Q := by
  intro p e s m args below meth c Qf H locs la C hf hP hS hl
  have k2 := k p e s m args below meth c Qf H locs la C hf hP hS hl
  rw [show (zv_l (zl_and a b) :: st).map (zv_c g) = .long (Int64.ofInt (zl_and a b)) :: st.map (zv_c g) from rfl, show Int64.ofInt (zl_and a b) = _ from Int64.ofInt_toInt _] at k2
  exact lv_land C.1 C.2.1 hd k2
theorem zr_lor {g : zt_G} {μ : zt_M} {pc : Nat} {ls : List (Option zv_A)} {st : List zv_A} {M : zm_M} {Q : Option zv_A → zm_M → Prop} {a b : Int} (hd : decode μ.2.1 pc = .ok (.lor, 1)) (k : zc_Z g μ (pc + 1) ls (zv_l (zl_or a b) :: st) M Q) : zc_Z g μ pc ls (zv_l b :: zv_l a :: st) M Q := by
  intro p e s m args below meth c Qf H locs la C hf hP hS hl
  have k2 := k p e s m args below meth c Qf H locs la C hf hP hS hl
  rw [show (zv_l (zl_or a b) :: st).map (zv_c g) = .long (Int64.ofInt (zl_or a b)) :: st.map (zv_c g) from rfl, show Int64.ofInt (zl_or a b) = _ from Int64.ofInt_toInt _] at k2
  exact lv_lor C.1 C.2.1 hd k2
theorem zr_ldiv {g : zt_G} {μ : zt_M} {pc : Nat} {ls : List (Option zv_A)} {st : List zv_A} {M : zm_M} {Q : Option zv_A → zm_M → Prop} {a b : Int} (ha : 0 ≤ a ∧ a < 9223372036854775808) (hb : 0 < b ∧ b < 9223372036854775808) (hd : decode μ.2.1 pc = .ok (.ldiv, 1)) (k : zc_Z g μ (pc + 1) ls (zv_l (a / b) :: st) M Q) : zc_Z g μ pc ls (zv_l b :: zv_l a :: st) M Q := by
  intro p e s m args below meth c Qf H locs la C hf hP hS hl
  have k2 := k p e s m args below meth c Qf H locs la C hf hP hS hl
  rw [show (zv_l (a / b) :: st).map (zv_c g) = .long (Int64.ofInt (a / b)) :: st.map (zv_c g) from rfl, ← zb_dvL ha.1 ha.2 hb.1 hb.2] at k2
  exact lv_ldiv C.1 C.2.1 hd (zb_ne0L hb.1 hb.2) k2
theorem zr_lrem {g : zt_G} {μ : zt_M} {pc : Nat} {ls : List (Option zv_A)} {st : List zv_A} {M : zm_M} {Q : Option zv_A → zm_M → Prop} {a b : Int} (ha : 0 ≤ a ∧ a < 9223372036854775808) (hb : 0 < b ∧ b < 9223372036854775808) (hd : decode μ.2.1 pc = .ok (.lrem, 1)) (k : zc_Z g μ (pc + 1) ls (zv_l (a % b) :: st) M Q) : zc_Z g μ pc ls (zv_l b :: zv_l a :: st) M Q := by
  intro p e s m args below meth c Qf H locs la C hf hP hS hl
  have k2 := k p e s m args below meth c Qf H locs la C hf hP hS hl
  rw [show (zv_l (a % b) :: st).map (zv_c g) = .long (Int64.ofInt (a % b)) :: st.map (zv_c g) from rfl, ← zb_rmL ha.1 ha.2 hb.1 hb.2] at k2
  exact lv_lrem C.1 C.2.1 hd (zb_ne0L hb.1 hb.2) k2
theorem zr_i2l {g : zt_G} {μ : zt_M} {pc : Nat} {ls : List (Option zv_A)} {st : List zv_A} {M : zm_M} {Q : Option zv_A → zm_M → Prop} {a : Int} (hd : decode μ.2.1 pc = .ok (.i2l, 1)) (k : zc_Z g μ (pc + 1) ls (zv_l (zw a) :: st) M Q) : zc_Z g μ pc ls (zv_i a :: st) M Q := by
  intro p e s m args below meth c Qf H locs la C hf hP hS hl
  refine lv_i2l C.1 C.2.1 hd (v := Int64.ofInt (zw a)) ?_ (k p e s m args below meth c Qf H locs la C hf hP hS hl)
  rw [← zw_eq]
  rfl
theorem zr_l2i {g : zt_G} {μ : zt_M} {pc : Nat} {ls : List (Option zv_A)} {st : List zv_A} {M : zm_M} {Q : Option zv_A → zm_M → Prop} {a : Int} (hd : decode μ.2.1 pc = .ok (.l2i, 1)) (k : zc_Z g μ (pc + 1) ls (zv_i a :: st) M Q) : zc_Z g μ pc ls (zv_l a :: st) M Q := by
  intro p e s m args below meth c Qf H locs la C hf hP hS hl
  exact lv_l2i C.1 C.2.1 hd (v := Int32.ofInt a) Int64.toInt32_ofInt (k p e s m args below meth c Qf H locs la C hf hP hS hl)
theorem zr_lcmp {g : zt_G} {μ : zt_M} {pc : Nat} {ls : List (Option zv_A)} {st : List zv_A} {M : zm_M} {Q : Option zv_A → zm_M → Prop} {a b : Int} (hd : decode μ.2.1 pc = .ok (.lcmp, 1)) (k : zc_Z g μ (pc + 1) ls (zv_i (zl_cmp a b) :: st) M Q) : zc_Z g μ pc ls (zv_l b :: zv_l a :: st) M Q := by
  intro p e s m args below meth c Qf H locs la C hf hP hS hl
  have k2 := k p e s m args below meth c Qf H locs la C hf hP hS hl
  have e1 : Int32.ofInt (zl_cmp a b) = lg_cmp (Int64.ofInt a) (Int64.ofInt b) := by
    unfold zl_cmp lg_cmp
    simp only [GT.gt, zx_lt, zx_ee]
    by_cases h1 : zx b < zx a
    · rw [if_pos h1, if_pos h1]
      rfl
    · rw [if_neg h1, if_neg h1]
      by_cases h2 : zx a = zx b
      · rw [if_pos h2, if_pos h2]
        rfl
      · rw [if_neg h2, if_neg h2]
        rfl
  rw [show (zv_i (zl_cmp a b) :: st).map (zv_c g) = .int (Int32.ofInt (zl_cmp a b)) :: st.map (zv_c g) from rfl, e1] at k2
  exact W.lcmp C.1 C.2.1 hd k2
theorem zr_dup_i {g : zt_G} {μ : zt_M} {pc : Nat} {ls : List (Option zv_A)} {st : List zv_A} {M : zm_M} {Q : Option zv_A → zm_M → Prop} {a : Int} (hd : decode μ.2.1 pc = .ok (.dup, 1)) (k : zc_Z g μ (pc + 1) ls (zv_i a :: zv_i a :: st) M Q) : zc_Z g μ pc ls (zv_i a :: st) M Q := by
  intro p e s m args below meth c Qf H locs la C hf hP hS hl
  exact lv_dup C.1 C.2.1 hd rfl (k p e s m args below meth c Qf H locs la C hf hP hS hl)
theorem zr_dup_r {g : zt_G} {μ : zt_M} {pc : Nat} {ls : List (Option zv_A)} {st : List zv_A} {M : zm_M} {Q : Option zv_A → zm_M → Prop} {a : Nat} (hd : decode μ.2.1 pc = .ok (.dup, 1)) (k : zc_Z g μ (pc + 1) ls (zv_r a :: zv_r a :: st) M Q) : zc_Z g μ pc ls (zv_r a :: st) M Q := by
  intro p e s m args below meth c Qf H locs la C hf hP hS hl
  exact lv_dup C.1 C.2.1 hd rfl (k p e s m args below meth c Qf H locs la C hf hP hS hl)
theorem zr_dup2_ir {g : zt_G} {μ : zt_M} {pc : Nat} {ls : List (Option zv_A)} {st : List zv_A} {M : zm_M} {Q : Option zv_A → zm_M → Prop} {a : Int} {b : Nat} (hd : decode μ.2.1 pc = .ok (.dup2, 1)) (k : zc_Z g μ (pc + 1) ls (zv_i a :: zv_r b :: zv_i a :: zv_r b :: st) M Q) : zc_Z g μ pc ls (zv_i a :: zv_r b :: st) M Q := by
  intro p e s m args below meth c Qf H locs la C hf hP hS hl
  exact lv_dup2_11 C.1 C.2.1 hd rfl rfl (k p e s m args below meth c Qf H locs la C hf hP hS hl)
theorem zr_pop_i {g : zt_G} {μ : zt_M} {pc : Nat} {ls : List (Option zv_A)} {st : List zv_A} {M : zm_M} {Q : Option zv_A → zm_M → Prop} {a : Int} (hd : decode μ.2.1 pc = .ok (.pop, 1)) (k : zc_Z g μ (pc + 1) ls (st) M Q) : zc_Z g μ pc ls (zv_i a :: st) M Q := by
  intro p e s m args below meth c Qf H locs la C hf hP hS hl
  exact lv_pop C.1 C.2.1 hd rfl (k p e s m args below meth c Qf H locs la C hf hP hS hl)
theorem zr_goto {g : zt_G} {μ : zt_M} {pc : Nat} {ls : List (Option zv_A)} {st : List zv_A} {M : zm_M} {Q : Option zv_A → zm_M → Prop} {off : Int} {tgt : Nat} (hd : decode μ.2.1 pc = .ok (.goto off, 3)) (ht : (pc : Int) + off = (tgt : Int)) (k : zc_Z g μ (tgt) ls (st) M Q) : zc_Z g μ pc ls (st) M Q := by
  intro p e s m args below meth c Qf H locs la C hf hP hS hl
  exact lv_goto C.1 C.2.1 hd ht (k p e s m args below meth c Qf H locs la C hf hP hS hl)
theorem zr_if_eq {g : zt_G} {μ : zt_M} {pc : Nat} {ls : List (Option zv_A)} {st : List zv_A} {M : zm_M} {Q : Option zv_A → zm_M → Prop} {a off : Int} {tgt : Nat} (hd : decode μ.2.1 pc = .ok (.ifCond .eq off, 3)) (ht : (pc : Int) + off = (tgt : Int)) (kt : zw a = 0 → zc_Z g μ (tgt) ls (st) M Q) (kf : ¬ zw a = 0 → zc_Z g μ (pc + 3) ls (st) M Q) : zc_Z g μ pc ls (zv_i a :: st) M Q := by
  intro p e s m args below meth c Qf H locs la C hf hP hS hl
  have z0 : zw 0 = 0 := by decide
  refine lv_if_eq C.1 C.2.1 hd ht (fun h => kt ?_ p e s m args below meth c Qf H locs la C hf hP hS hl) (fun h => kf ?_ p e s m args below meth c Qf H locs la C hf hP hS hl)
  all_goals
    simp only [zw_0, zw_lt, zw_le, zw_ee, GT.gt, GE.ge, z0] at h
    omega
theorem zr_icmp_eq {g : zt_G} {μ : zt_M} {pc : Nat} {ls : List (Option zv_A)} {st : List zv_A} {M : zm_M} {Q : Option zv_A → zm_M → Prop} {a b off : Int} {tgt : Nat} (hd : decode μ.2.1 pc = .ok (.if_icmp .eq off, 3)) (ht : (pc : Int) + off = (tgt : Int)) (kt : zw a = zw b → zc_Z g μ (tgt) ls (st) M Q) (kf : ¬ zw a = zw b → zc_Z g μ (pc + 3) ls (st) M Q) : zc_Z g μ pc ls (zv_i b :: zv_i a :: st) M Q := by
  intro p e s m args below meth c Qf H locs la C hf hP hS hl
  refine lv_icmp_eq C.1 C.2.1 hd ht (fun h => kt ?_ p e s m args below meth c Qf H locs la C hf hP hS hl) (fun h => kf ?_ p e s m args below meth c Qf H locs la C hf hP hS hl)
  all_goals
    simp only [zw_lt, zw_le, zw_ee, GT.gt, GE.ge] at h
    omega
theorem zr_if_ne {g : zt_G} {μ : zt_M} {pc : Nat} {ls : List (Option zv_A)} {st : List zv_A} {M : zm_M} {Q : Option zv_A → zm_M → Prop} {a off : Int} {tgt : Nat} (hd : decode μ.2.1 pc = .ok (.ifCond .ne off, 3)) (ht : (pc : Int) + off = (tgt : Int)) (kt : ¬ zw a = 0 → zc_Z g μ (tgt) ls (st) M Q) (kf : zw a = 0 → zc_Z g μ (pc + 3) ls (st) M Q) : zc_Z g μ pc ls (zv_i a :: st) M Q := by
  intro p e s m args below meth c Qf H locs la C hf hP hS hl
  have z0 : zw 0 = 0 := by decide
  refine lv_if_ne C.1 C.2.1 hd ht (fun h => kt ?_ p e s m args below meth c Qf H locs la C hf hP hS hl) (fun h => kf ?_ p e s m args below meth c Qf H locs la C hf hP hS hl)
  all_goals
    simp only [zw_0, zw_lt, zw_le, zw_ee, GT.gt, GE.ge, z0] at h
    omega
theorem zr_icmp_ne {g : zt_G} {μ : zt_M} {pc : Nat} {ls : List (Option zv_A)} {st : List zv_A} {M : zm_M} {Q : Option zv_A → zm_M → Prop} {a b off : Int} {tgt : Nat} (hd : decode μ.2.1 pc = .ok (.if_icmp .ne off, 3)) (ht : (pc : Int) + off = (tgt : Int)) (kt : ¬ zw a = zw b → zc_Z g μ (tgt) ls (st) M Q) (kf : zw a = zw b → zc_Z g μ (pc + 3) ls (st) M Q) : zc_Z g μ pc ls (zv_i b :: zv_i a :: st) M Q := by
  intro p e s m args below meth c Qf H locs la C hf hP hS hl
  refine lv_icmp_ne C.1 C.2.1 hd ht (fun h => kt ?_ p e s m args below meth c Qf H locs la C hf hP hS hl) (fun h => kf ?_ p e s m args below meth c Qf H locs la C hf hP hS hl)
  all_goals
    simp only [zw_lt, zw_le, zw_ee, GT.gt, GE.ge] at h
    omega
theorem zr_if_lt {g : zt_G} {μ : zt_M} {pc : Nat} {ls : List (Option zv_A)} {st : List zv_A} {M : zm_M} {Q : Option zv_A → zm_M → Prop} {a off : Int} {tgt : Nat} (hd : decode μ.2.1 pc = .ok (.ifCond .lt off, 3)) (ht : (pc : Int) + off = (tgt : Int)) (kt : zw a < 0 → zc_Z g μ (tgt) ls (st) M Q) (kf : 0 ≤ zw a → zc_Z g μ (pc + 3) ls (st) M Q) : zc_Z g μ pc ls (zv_i a :: st) M Q := by
  intro p e s m args below meth c Qf H locs la C hf hP hS hl
  have z0 : zw 0 = 0 := by decide
  refine lv_if_lt C.1 C.2.1 hd ht (fun h => kt ?_ p e s m args below meth c Qf H locs la C hf hP hS hl) (fun h => kf ?_ p e s m args below meth c Qf H locs la C hf hP hS hl)
  all_goals
    simp only [zw_0, zw_lt, zw_le, zw_ee, GT.gt, GE.ge, z0] at h
    omega
theorem zr_icmp_lt {g : zt_G} {μ : zt_M} {pc : Nat} {ls : List (Option zv_A)} {st : List zv_A} {M : zm_M} {Q : Option zv_A → zm_M → Prop} {a b off : Int} {tgt : Nat} (hd : decode μ.2.1 pc = .ok (.if_icmp .lt off, 3)) (ht : (pc : Int) + off = (tgt : Int)) (kt : zw a < zw b → zc_Z g μ (tgt) ls (st) M Q) (kf : zw b ≤ zw a → zc_Z g μ (pc + 3) ls (st) M Q) : zc_Z g μ pc ls (zv_i b :: zv_i a :: st) M Q := by
  intro p e s m args below meth c Qf H locs la C hf hP hS hl
  refine lv_icmp_lt C.1 C.2.1 hd ht (fun h => kt ?_ p e s m args below meth c Qf H locs la C hf hP hS hl) (fun h => kf ?_ p e s m args below meth c Qf H locs la C hf hP hS hl)
  all_goals
    simp only [zw_lt, zw_le, zw_ee, GT.gt, GE.ge] at h
    omega
theorem zr_if_ge {g : zt_G} {μ : zt_M} {pc : Nat} {ls : List (Option zv_A)} {st : List zv_A} {M : zm_M} {Q : Option zv_A → zm_M → Prop} {a off : Int} {tgt : Nat} (hd : decode μ.2.1 pc = .ok (.ifCond .ge off, 3)) (ht : (pc : Int) + off = (tgt : Int)) (kt : 0 ≤ zw a → zc_Z g μ (tgt) ls (st) M Q) (kf : zw a < 0 → zc_Z g μ (pc + 3) ls (st) M Q) : zc_Z g μ pc ls (zv_i a :: st) M Q := by
  intro p e s m args below meth c Qf H locs la C hf hP hS hl
  have z0 : zw 0 = 0 := by decide
  refine lv_if_ge C.1 C.2.1 hd ht (fun h => kt ?_ p e s m args below meth c Qf H locs la C hf hP hS hl) (fun h => kf ?_ p e s m args below meth c Qf H locs la C hf hP hS hl)
  all_goals
    simp only [zw_0, zw_lt, zw_le, zw_ee, GT.gt, GE.ge, z0] at h
    omega
theorem zr_icmp_ge {g : zt_G} {μ : zt_M} {pc : Nat} {ls : List (Option zv_A)} {st : List zv_A} {M : zm_M} {Q : Option zv_A → zm_M → Prop} {a b off : Int} {tgt : Nat} (hd : decode μ.2.1 pc = .ok (.if_icmp .ge off, 3)) (ht : (pc : Int) + off = (tgt : Int)) (kt : zw b ≤ zw a → zc_Z g μ (tgt) ls (st) M Q) (kf : zw a < zw b → zc_Z g μ (pc + 3) ls (st) M Q) : zc_Z g μ pc ls (zv_i b :: zv_i a :: st) M Q := by
  intro p e s m args below meth c Qf H locs la C hf hP hS hl
  refine lv_icmp_ge C.1 C.2.1 hd ht (fun h => kt ?_ p e s m args below meth c Qf H locs la C hf hP hS hl) (fun h => kf ?_ p e s m args below meth c Qf H locs la C hf hP hS hl)
  all_goals
    simp only [zw_lt, zw_le, zw_ee, GT.gt, GE.ge] at h
    omega
theorem zr_if_gt {g : zt_G} {μ : zt_M} {pc : Nat} {ls : List (Option zv_A)} {st : List zv_A} {M : zm_M} {Q : Option zv_A → zm_M → Prop} {a off : Int} {tgt : Nat} (hd : decode μ.2.1 pc = .ok (.ifCond .gt off, 3)) (ht : (pc : Int) + off = (tgt : Int)) (kt : 0 < zw a → zc_Z g μ (tgt) ls (st) M Q) (kf : zw a ≤ 0 → zc_Z g μ (pc + 3) ls (st) M Q) : zc_Z g μ pc ls (zv_i a :: st) M Q := by
  intro p e s m args below meth c Qf H locs la C hf hP hS hl
  have z0 : zw 0 = 0 := by decide
  refine lv_if_gt C.1 C.2.1 hd ht (fun h => kt ?_ p e s m args below meth c Qf H locs la C hf hP hS hl) (fun h => kf ?_ p e s m args below meth c Qf H locs la C hf hP hS hl)
  all_goals
    simp only [zw_0, zw_lt, zw_le, zw_ee, GT.gt, GE.ge, z0] at h
    omega
theorem zr_icmp_gt {g : zt_G} {μ : zt_M} {pc : Nat} {ls : List (Option zv_A)} {st : List zv_A} {M : zm_M} {Q : Option zv_A → zm_M → Prop} {a b off : Int} {tgt : Nat} (hd : decode μ.2.1 pc = .ok (.if_icmp .gt off, 3)) (ht : (pc : Int) + off = (tgt : Int)) (kt : zw b < zw a → zc_Z g μ (tgt) ls (st) M Q) (kf : zw a ≤ zw b → zc_Z g μ (pc + 3) ls (st) M Q) : zc_Z g μ pc ls (zv_i b :: zv_i a :: st) M Q := by
  intro p e s m args below meth c Qf H locs la C hf hP hS hl
  refine lv_icmp_gt C.1 C.2.1 hd ht (fun h => kt ?_ p e s m args below meth c Qf H locs la C hf hP hS hl) (fun h => kf ?_ p e s m args below meth c Qf H locs la C hf hP hS hl)
  all_goals
    simp only [zw_lt, zw_le, zw_ee, GT.gt, GE.ge] at h
    omega
theorem zr_if_le {g : zt_G} {μ : zt_M} {pc : Nat} {ls : List (Option zv_A)} {st : List zv_A} {M : zm_M} {Q : Option zv_A → zm_M → Prop} {a off : Int} {tgt : Nat} (hd : decode μ.2.1 pc = .ok (.ifCond .le off, 3)) (ht : (pc : Int) + off = (tgt : Int)) (kt : zw a ≤ 0 → zc_Z g μ (tgt) ls (st) M Q) (kf : 0 < zw a → zc_Z g μ (pc + 3) ls (st) M Q) : zc_Z g μ pc ls (zv_i a :: st) M Q := by
  intro p e s m args below meth c Qf H locs la C hf hP hS hl
  have z0 : zw 0 = 0 := by decide
  refine lv_if_le C.1 C.2.1 hd ht (fun h => kt ?_ p e s m args below meth c Qf H locs la C hf hP hS hl) (fun h => kf ?_ p e s m args below meth c Qf H locs la C hf hP hS hl)
  all_goals
    simp only [zw_0, zw_lt, zw_le, zw_ee, GT.gt, GE.ge, z0] at h
    omega
theorem zr_icmp_le {g : zt_G} {μ : zt_M} {pc : Nat} {ls : List (Option zv_A)} {st : List zv_A} {M : zm_M} {Q : Option zv_A → zm_M → Prop} {a b off : Int} {tgt : Nat} (hd : decode μ.2.1 pc = .ok (.if_icmp .le off, 3)) (ht : (pc : Int) + off = (tgt : Int)) (kt : zw a ≤ zw b → zc_Z g μ (tgt) ls (st) M Q) (kf : zw b < zw a → zc_Z g μ (pc + 3) ls (st) M Q) : zc_Z g μ pc ls (zv_i b :: zv_i a :: st) M Q := by
  intro p e s m args below meth c Qf H locs la C hf hP hS hl
  refine lv_icmp_le C.1 C.2.1 hd ht (fun h => kt ?_ p e s m args below meth c Qf H locs la C hf hP hS hl) (fun h => kf ?_ p e s m args below meth c Qf H locs la C hf hP hS hl)
  all_goals
    simp only [zw_lt, zw_le, zw_ee, GT.gt, GE.ge] at h
    omega
theorem zb_B0 {P : Prop} [Decidable P] : zw (zb_B P) = 0 ↔ ¬ P := by
  unfold zb_B
  split <;> simp_all [zw]
theorem zr_ifb_eq {g : zt_G} {μ : zt_M} {pc : Nat} {ls : List (Option zv_A)} {st : List zv_A} {M : zm_M} {Q : Option zv_A → zm_M → Prop} {P : Prop} [Decidable P] {off : Int} {tgt : Nat} (hd : decode μ.2.1 pc = .ok (.ifCond .eq off, 3)) (ht : (pc : Int) + off = (tgt : Int)) (kt : ¬ P → zc_Z g μ (tgt) ls (st) M Q) (kf : P → zc_Z g μ (pc + 3) ls (st) M Q) : zc_Z g μ pc ls (zv_i (zb_B P) :: st) M Q := by
  intro p e s m args below meth c Qf H locs la C hf hP hS hl
  have key := zb_B0 (P := P)
  refine (zr_if_eq hd ht (fun h => kt ?_) (fun h => kf ?_)) p e s m args below meth c Qf H locs la C hf hP hS hl
  all_goals
    by_cases hP2 : P <;> simp_all
theorem zr_ifb_ne {g : zt_G} {μ : zt_M} {pc : Nat} {ls : List (Option zv_A)} {st : List zv_A} {M : zm_M} {Q : Option zv_A → zm_M → Prop} {P : Prop} [Decidable P] {off : Int} {tgt : Nat} (hd : decode μ.2.1 pc = .ok (.ifCond .ne off, 3)) (ht : (pc : Int) + off = (tgt : Int)) (kt : P → zc_Z g μ (tgt) ls (st) M Q) (kf : ¬ P → zc_Z g μ (pc + 3) ls (st) M Q) : zc_Z g μ pc ls (zv_i (zb_B P) :: st) M Q := by
  intro p e s m args below meth c Qf H locs la C hf hP hS hl
  have key := zb_B0 (P := P)
  refine (zr_if_ne hd ht (fun h => kt ?_) (fun h => kf ?_)) p e s m args below meth c Qf H locs la C hf hP hS hl
  all_goals
    by_cases hP2 : P <;> simp_all
theorem zr_tab_in {g : zt_G} {μ : zt_M} {pc : Nat} {ls : List (Option zv_A)} {st : List zv_A} {M : zm_M} {Q : Option zv_A → zm_M → Prop} {a dflt lo hi off : Int} {offs : Array Int} {len tgt : Nat} (hd : decode μ.2.1 pc = .ok (.tableswitch dflt lo hi offs, len)) (h1 : lo ≤ zw a) (h2 : zw a ≤ hi) (ho : offs[(zw a - lo).toNat]? = some off) (ht : (pc : Int) + off = (tgt : Int)) (k : zc_Z g μ (tgt) ls (st) M Q) : zc_Z g μ pc ls (zv_i a :: st) M Q := by
  intro p e s m args below meth c Qf H locs la C hf hP hS hl
  refine lv_tableIn C.1 C.2.1 hd (by rw [zw_eq]; omega) (by rw [zw_eq]; omega) (by rw [zw_eq]; exact ho) ht (k p e s m args below meth c Qf H locs la C hf hP hS hl)
theorem zr_tab_out {g : zt_G} {μ : zt_M} {pc : Nat} {ls : List (Option zv_A)} {st : List zv_A} {M : zm_M} {Q : Option zv_A → zm_M → Prop} {a dflt lo hi : Int} {offs : Array Int} {len tgt : Nat} (hd : decode μ.2.1 pc = .ok (.tableswitch dflt lo hi offs, len)) (h : zw a < lo ∨ hi < zw a) (ht : (pc : Int) + dflt = (tgt : Int)) (k : zc_Z g μ (tgt) ls (st) M Q) : zc_Z g μ pc ls (zv_i a :: st) M Q := by
  intro p e s m args below meth c Qf H locs la C hf hP hS hl
  exact lv_tableOut C.1 C.2.1 hd (by rw [zw_eq]; exact h) ht (k p e s m args below meth c Qf H locs la C hf hP hS hl)
theorem zr_look {g : zt_G} {μ : zt_M} {pc : Nat} {ls : List (Option zv_A)} {st : List zv_A} {M : zm_M} {Q : Option zv_A → zm_M → Prop} {a dflt off : Int} {ps : Array (Int × Int)} {len tgt : Nat} (hd : decode μ.2.1 pc = .ok (.lookupswitch dflt ps, len)) (hp : (ps.toList.zip (ps.toList.drop 1)).all (fun (a, next) => a.1 < next.1) = true) (ho : Op.lookupswitch.offset ps.toList dflt (zw a) = off) (ht : (pc : Int) + off = (tgt : Int)) (k : zc_Z g μ (tgt) ls (st) M Q) : zc_Z g μ pc ls (zv_i a :: st) M Q := by
  intro p e s m args below meth c Qf H locs la C hf hP hS hl
  exact lv_lookup C.1 C.2.1 hd hp (by rw [zw_eq]; exact ho) ht (k p e s m args below meth c Qf H locs la C hf hP hS hl)
/-- a field as an instruction names it -/
def zt_F (own : String) (ix ci j : Nat) : Prop := ∃ (C : String) (T : u_T) (N : Nat), zl_cl[ci]? = some (C, T, N) ∧ (∀ w ∈ u_ws C T N, w ∈ zt_tb) ∧ j < N ∧ Cond.fieldLink own ix (T j).1 (T j).2.1 (T j).2.2.1 ∈ zt_tb
def zt_W (ci j : Nat) (ty : FieldType) : Prop := ∀ (C : String) (T : u_T) (N : Nat), zl_cl[ci]? = some (C, T, N) → (T j).2.2.2 = false ∧ parseFieldDescriptor (T j).2.2.1 = some ty ∧ (∃ ty0 : Nat → FieldType, ∀ k, k < N → parseFieldDescriptor (T k).2.2.1 = some (ty0 k)) ∧ ∀ a, a < N → ∀ b, b < N → a ≠ b → (T a).2.1 ≠ (T b).2.1
theorem zr_getI {g : zt_G} {μ : zt_M} {pc : Nat} {ls : List (Option zv_A)} {st : List zv_A} {M : zm_M} {Q : Option zv_A → zm_M → Prop} {o ci j ix : Nat} {own : String} {fs : List (Nat ⊕ Nat)} {z : Int} (hF : zt_F own ix ci j) (ho : zl_lay[o]? = some (.inl (ci, fs))) (hown : μ.1 = own) (hfs : fs[j]? = some (.inl 0)) (hz : (j : Int) = z) (hd : decode μ.2.1 pc = .ok (.getfield ix, 3)) (k : zc_Z g μ (pc + 3) ls (zv_i (M o z) :: st) M Q) : zc_Z g μ pc ls (zv_r o :: st) M Q := by
  intro p e s m args below meth c Qf H locs la C hf hP hS hl
  subst hz
  subst hown
  obtain ⟨CC, T, N, hc, hin, hj, hw⟩ := hF
  exact va_get C.1 C.2.1 (C.2.2.2.2.1) hin C.2.2.2.1 C.2.2.2.2.2.1.2.2.2.2.2.2 hP o (by rw [zl_w_at g M (zl_lt ho), zl_ct_o ho]) hc j hj (C.2.2.2.2.1 _ hw) (fun _ h => h) (zl_fs_at (g := g) (M := M) (k := o) fs 0 j _ hfs) hd (by rw [Nat.zero_add]; exact k p e s m args below meth c Qf H locs la C hf hP hS hl)
theorem zr_getL {g : zt_G} {μ : zt_M} {pc : Nat} {ls : List (Option zv_A)} {st : List zv_A} {M : zm_M} {Q : Option zv_A → zm_M → Prop} {o ci j ix : Nat} {own : String} {fs : List (Nat ⊕ Nat)} {z : Int} (hF : zt_F own ix ci j) (ho : zl_lay[o]? = some (.inl (ci, fs))) (hown : μ.1 = own) (hfs : fs[j]? = some (.inl 1)) (hz : (j : Int) = z) (hd : decode μ.2.1 pc = .ok (.getfield ix, 3)) (k : zc_Z g μ (pc + 3) ls (zv_l (M o z) :: st) M Q) : zc_Z g μ pc ls (zv_r o :: st) M Q := by
  intro p e s m args below meth c Qf H locs la C hf hP hS hl
  subst hz
  subst hown
  obtain ⟨CC, T, N, hc, hin, hj, hw⟩ := hF
  exact va_get C.1 C.2.1 (C.2.2.2.2.1) hin C.2.2.2.1 C.2.2.2.2.2.1.2.2.2.2.2.2 hP o (by rw [zl_w_at g M (zl_lt ho), zl_ct_o ho]) hc j hj (C.2.2.2.2.1 _ hw) (fun _ h => h) (zl_fs_at (g := g) (M := M) (k := o) fs 0 j _ hfs) hd (by rw [Nat.zero_add]; exact k p e s m args below meth c Qf H locs la C hf hP hS hl)
theorem zr_getR {g : zt_G} {μ : zt_M} {pc : Nat} {ls : List (Option zv_A)} {st : List zv_A} {M : zm_M} {Q : Option zv_A → zm_M → Prop} {o ci j ix : Nat} {own : String} {fs : List (Nat ⊕ Nat)} {t : Nat} (hF : zt_F own ix ci j) (ho : zl_lay[o]? = some (.inl (ci, fs))) (hown : μ.1 = own) (hfs : fs[j]? = some (.inr t)) (hd : decode μ.2.1 pc = .ok (.getfield ix, 3)) (k : zc_Z g μ (pc + 3) ls (zv_r t :: st) M Q) : zc_Z g μ pc ls (zv_r o :: st) M Q := by
  intro p e s m args below meth c Qf H locs la C hf hP hS hl
  subst hown
  obtain ⟨CC, T, N, hc, hin, hj, hw⟩ := hF
  exact va_get C.1 C.2.1 (C.2.2.2.2.1) hin C.2.2.2.1 C.2.2.2.2.2.1.2.2.2.2.2.2 hP o (by rw [zl_w_at g M (zl_lt ho), zl_ct_o ho]) hc j hj (C.2.2.2.2.1 _ hw) (fun _ h => h) (zl_fs_at (g := g) (M := M) (k := o) fs 0 j _ hfs) hd (by rw [Nat.zero_add]; exact k p e s m args below meth c Qf H locs la C hf hP hS hl)
theorem zr_putI {g : zt_G} {μ : zt_M} {pc : Nat} {ls : List (Option zv_A)} {st : List zv_A} {M : zm_M} {Q : Option zv_A → zm_M → Prop} {o ci j ix : Nat} {own : String} {fs : List (Nat ⊕ Nat)} {z a : Int} (hF : zt_F own ix ci j) (ho : zl_lay[o]? = some (.inl (ci, fs))) (hown : μ.1 = own) (hW : zt_W ci j .int) (hfs : fs[j]? = some (.inl 0)) (hz : (j : Int) = z) (hd : decode μ.2.1 pc = .ok (.putfield ix, 3)) (k : zc_Z g μ (pc + 3) ls (st) (zm_put M o z a) Q) : zc_Z g μ pc ls (zv_i a :: zv_r o :: st) M Q := by
  intro p e s m args below meth c Qf H locs la C hf hP hS hl
  subst hz
  subst hown
  obtain ⟨CC, T, N, hc, hin, hj, hw⟩ := hF
  obtain ⟨w1, w2, ⟨ty0, w3⟩, w4⟩ := hW CC T N hc
  have ho2 : (zl_w g M)[o]? = some (zg_ad g o, .inr (ci, zl_fs g M o 0 fs)) := by rw [zl_w_at g M (zl_lt ho), zl_ct_o ho]
  have hset := zl_fs_set (g := g) (M := M) (k := o) (v := a) fs 0 j 0 hfs
  rw [Nat.zero_add] at hset
  have hv : zl_fv g (zm_put M o (j : Int) a) o j (.inl 0) = zv_c g (zv_i a) := by
    show (_ : Value) = _
    simp [zl_fv, zv_c, zm_put]
  rw [hv] at hset
  have hws : (zl_w g M).set o (zg_ad g o, .inr (ci, (zl_fs g M o 0 fs).set j (zv_c g (zv_i a)))) = zl_w g (zm_put M o (j : Int) a) := by
    refine zl_w_set (zl_lt ho) ?_ (fun q hq i => by unfold zm_put; rw [if_neg (fun x => hq x.1)])
    rw [zl_ct_o ho, hset]
  refine va_put C.1 C.2.1 C.2.2.2.2.1 hin ty0 w3 w4 C.2.2.2.1 C.2.2.2.2.2.1.2.2.2.2.2.2 hP (zl_D M C.2.2.2.2.2.1.2.2.2.2.2.1) hS o ho2 hc j hj (C.2.2.2.2.1 _ hw) (fun _ h => h) w1 w2 rfl rfl (by rw [zl_fs_len]; exact (List.getElem?_eq_some_iff.mp hfs).1) hd (fun H1 locs1 hP1 hD1 hS1 => ?_)
  rw [hws] at hP1
  exact k p e s m args below meth c Qf H1 locs1 la C hf hP1 hS1 hl
theorem zr_putL {g : zt_G} {μ : zt_M} {pc : Nat} {ls : List (Option zv_A)} {st : List zv_A} {M : zm_M} {Q : Option zv_A → zm_M → Prop} {o ci j ix : Nat} {own : String} {fs : List (Nat ⊕ Nat)} {z a : Int} (hF : zt_F own ix ci j) (ho : zl_lay[o]? = some (.inl (ci, fs))) (hown : μ.1 = own) (hW : zt_W ci j .long) (hfs : fs[j]? = some (.inl 1)) (hz : (j : Int) = z) (hd : decode μ.2.1 pc = .ok (.putfield ix, 3)) (k : zc_Z g μ (pc + 3) ls (st) (zm_put M o z a) Q) : zc_Z g μ pc ls (zv_l a :: zv_r o :: st) M Q := by
  intro p e s m args below meth c Qf H locs la C hf hP hS hl
  subst hz
  subst hown
  obtain ⟨CC, T, N, hc, hin, hj, hw⟩ := hF
  obtain ⟨w1, w2, ⟨ty0, w3⟩, w4⟩ := hW CC T N hc
  have ho2 : (zl_w g M)[o]? = some (zg_ad g o, .inr (ci, zl_fs g M o 0 fs)) := by rw [zl_w_at g M (zl_lt ho), zl_ct_o ho]
  have hset := zl_fs_set (g := g) (M := M) (k := o) (v := a) fs 0 j 1 hfs
  rw [Nat.zero_add] at hset
  have hv : zl_fv g (zm_put M o (j : Int) a) o j (.inl 1) = zv_c g (zv_l a) := by
    show (_ : Value) = _
    simp [zl_fv, zv_c, zm_put]
  rw [hv] at hset
  have hws : (zl_w g M).set o (zg_ad g o, .inr (ci, (zl_fs g M o 0 fs).set j (zv_c g (zv_l a)))) = zl_w g (zm_put M o (j : Int) a) := by
    refine zl_w_set (zl_lt ho) ?_ (fun q hq i => by unfold zm_put; rw [if_neg (fun x => hq x.1)])
    rw [zl_ct_o ho, hset]
  refine va_put C.1 C.2.1 C.2.2.2.2.1 hin ty0 w3 w4 C.2.2.2.1 C.2.2.2.2.2.1.2.2.2.2.2.2 hP (zl_D M C.2.2.2.2.2.1.2.2.2.2.2.1) hS o ho2 hc j hj (C.2.2.2.2.1 _ hw) (fun _ h => h) w1 w2 rfl rfl (by rw [zl_fs_len]; exact (List.getElem?_eq_some_iff.mp hfs).1) hd (fun H1 locs1 hP1 hD1 hS1 => ?_)
  rw [hws] at hP1
  exact k p e s m args below meth c Qf H1 locs1 la C hf hP1 hS1 hl
theorem zr_iaload {g : zt_G} {μ : zt_M} {pc : Nat} {ls : List (Option zv_A)} {st : List zv_A} {M : zm_M} {Q : Option zv_A → zm_M → Prop} {q n : Nat} {a : Int} (hq : zl_lay[q]? = some (.inr (0, n))) (hi : 0 ≤ a ∧ a < n) (hd : decode μ.2.1 pc = .ok (.iaload, 1)) (k : zc_Z g μ (pc + 1) ls (zv_i (M q a) :: st) M Q) : zc_Z g μ pc ls (zv_i a :: zv_r q :: st) M Q := by
  intro p e s m args below meth c Qf H locs la C hf hP hS hl
  have hn := zl_len hq
  have k2 := k p e s m args below meth c Qf H locs la C hf hP hS hl
  have ea : ((a.toNat : Nat) : Int) = a := Int.toNat_of_nonneg hi.1
  refine va_iald C.1 C.2.1 C.2.2.2.2.2.1.2.2.2.2.2.2 hP q 0 (by rw [zl_w_at g M (zl_lt hq), zl_ct_a hq]; rfl) rfl (zw_in hi.1 hi.2 hn) hd ?_
  rw [zw_cl hi.1 (by omega), ea]
  exact k2
theorem zr_laload {g : zt_G} {μ : zt_M} {pc : Nat} {ls : List (Option zv_A)} {st : List zv_A} {M : zm_M} {Q : Option zv_A → zm_M → Prop} {q n : Nat} {a : Int} (hq : zl_lay[q]? = some (.inr (1, n))) (hi : 0 ≤ a ∧ a < n) (hd : decode μ.2.1 pc = .ok (.laload, 1)) (k : zc_Z g μ (pc + 1) ls (zv_l (M q a) :: st) M Q) : zc_Z g μ pc ls (zv_i a :: zv_r q :: st) M Q := by
  intro p e s m args below meth c Qf H locs la C hf hP hS hl
  have hn := zl_len hq
  have k2 := k p e s m args below meth c Qf H locs la C hf hP hS hl
  have ea : ((a.toNat : Nat) : Int) = a := Int.toNat_of_nonneg hi.1
  refine va_lald C.1 C.2.1 C.2.2.2.2.2.1.2.2.2.2.2.2 hP q 1 (by rw [zl_w_at g M (zl_lt hq), zl_ct_a hq]; rfl) rfl (zw_in hi.1 hi.2 hn) hd ?_
  rw [zw_cl hi.1 (by omega), ea]
  exact k2
theorem zr_zaload {g : zt_G} {μ : zt_M} {pc : Nat} {ls : List (Option zv_A)} {st : List zv_A} {M : zm_M} {Q : Option zv_A → zm_M → Prop} {q n : Nat} {a : Int} (hq : zl_lay[q]? = some (.inr (2, n))) (hi : 0 ≤ a ∧ a < n) (hd : decode μ.2.1 pc = .ok (.baload, 1)) (k : zc_Z g μ (pc + 1) ls (zv_i (M q a) :: st) M Q) : zc_Z g μ pc ls (zv_i a :: zv_r q :: st) M Q := by
  intro p e s m args below meth c Qf H locs la C hf hP hS hl
  have hn := zl_len hq
  have k2 := k p e s m args below meth c Qf H locs la C hf hP hS hl
  have ea : ((a.toNat : Nat) : Int) = a := Int.toNat_of_nonneg hi.1
  refine va_zald C.1 C.2.1 C.2.2.2.2.2.1.2.2.2.2.2.2 hP q 2 (by rw [zl_w_at g M (zl_lt hq), zl_ct_a hq]; rfl) rfl (zw_in hi.1 hi.2 hn) hd ?_
  rw [zw_cl hi.1 (by omega), ea]
  exact k2
theorem zr_iastore {g : zt_G} {μ : zt_M} {pc : Nat} {ls : List (Option zv_A)} {st : List zv_A} {M : zm_M} {Q : Option zv_A → zm_M → Prop} {q n : Nat} {a : Int} {b : Int} (hq : zl_lay[q]? = some (.inr (0, n))) (hi : 0 ≤ a ∧ a < n) (hd : decode μ.2.1 pc = .ok (.iastore, 1)) (k : zc_Z g μ (pc + 1) ls (st) (zm_put M q a b) Q) : zc_Z g μ pc ls (zv_i b :: zv_i a :: zv_r q :: st) M Q := by
  intro p e s m args below meth c Qf H locs la C hf hP hS hl
  have hn := zl_len hq
  have ea : ((a.toNat : Nat) : Int) = a := Int.toNat_of_nonneg hi.1
  refine va_iast C.1 C.2.1 C.2.2.2.2.2.1.2.2.2.2.2.2 hP (zl_D M C.2.2.2.2.2.1.2.2.2.2.2.1) hS q 0 (by rw [zl_w_at g M (zl_lt hq), zl_ct_a hq]; rfl) rfl (zw_in hi.1 hi.2 hn) hd (fun H1 locs1 hP1 hD1 hS1 => ?_)
  rw [zw_cl hi.1 (by omega)] at hP1
  have hws := zl_w_set (g := g) (M := M) (M2 := zm_put M q a b) (k := q) (zl_lt hq) (zl_ct_a hq) (fun x hx i => by unfold zm_put; rw [if_neg (fun y => hx y.1)])
  have he : zl_av (zm_put M q a b) q 0 = .inl (upd (fun j => Int32.ofInt (M q (j : Int))) a.toNat (Int32.ofInt b)) := by
    unfold zl_av
    simp only []
    congr 1
    funext j
    unfold upd zm_put
    by_cases hj : j = a.toNat
    · rw [if_pos hj, if_pos ⟨rfl, by omega⟩]
    · rw [if_neg hj, if_neg (fun x => hj (by omega))]
  rw [he] at hws
  have hP2 : va_P (zg_D g) zl_cl (zl_w g (zm_put M q a b)) H1 := by
    rw [← hws]
    exact hP1
  exact k p e s m args below meth c Qf H1 locs1 la C hf hP2 hS1 hl
theorem zr_lastore {g : zt_G} {μ : zt_M} {pc : Nat} {ls : List (Option zv_A)} {st : List zv_A} {M : zm_M} {Q : Option zv_A → zm_M → Prop} {q n : Nat} {a : Int} {b : Int} (hq : zl_lay[q]? = some (.inr (1, n))) (hi : 0 ≤ a ∧ a < n) (hd : decode μ.2.1 pc = .ok (.lastore, 1)) (k : zc_Z g μ (pc + 1) ls (st) (zm_put M q a b) Q) : zc_Z g μ pc ls (zv_l b :: zv_i a :: zv_r q :: st) M Q := by
  intro p e s m args below meth c Qf H locs la C hf hP hS hl
  have hn := zl_len hq
  have ea : ((a.toNat : Nat) : Int) = a := Int.toNat_of_nonneg hi.1
  refine va_last C.1 C.2.1 C.2.2.2.2.2.1.2.2.2.2.2.2 hP (zl_D M C.2.2.2.2.2.1.2.2.2.2.2.1) hS q 1 (by rw [zl_w_at g M (zl_lt hq), zl_ct_a hq]; rfl) rfl (zw_in hi.1 hi.2 hn) hd (fun H1 locs1 hP1 hD1 hS1 => ?_)
  rw [zw_cl hi.1 (by omega)] at hP1
  have hws := zl_w_set (g := g) (M := M) (M2 := zm_put M q a b) (k := q) (zl_lt hq) (zl_ct_a hq) (fun x hx i => by unfold zm_put; rw [if_neg (fun y => hx y.1)])
  have he : zl_av (zm_put M q a b) q 1 = .inr (.inl (vp_updL (fun j => Int64.ofInt (M q (j : Int))) a.toNat (Int64.ofInt b))) := by
    unfold zl_av
    simp only []
    congr 1
    congr 1
    funext j
    unfold vp_updL zm_put
    by_cases hj : j = a.toNat
    · rw [if_pos hj, if_pos ⟨rfl, by omega⟩]
    · rw [if_neg hj, if_neg (fun x => hj (by omega))]
  rw [he] at hws
  have hP2 : va_P (zg_D g) zl_cl (zl_w g (zm_put M q a b)) H1 := by
    rw [← hws]
    exact hP1
  exact k p e s m args below meth c Qf H1 locs1 la C hf hP2 hS1 hl
theorem zr_zastore {g : zt_G} {μ : zt_M} {pc : Nat} {ls : List (Option zv_A)} {st : List zv_A} {M : zm_M} {Q : Option zv_A → zm_M → Prop} {q n : Nat} {a : Int} {b : Int} (hb : b = 0 ∨ b = 1) (hq : zl_lay[q]? = some (.inr (2, n))) (hi : 0 ≤ a ∧ a < n) (hd : decode μ.2.1 pc = .ok (.bastore, 1)) (k : zc_Z g μ (pc + 1) ls (st) (zm_put M q a b) Q) : zc_Z g μ pc ls (zv_i b :: zv_i a :: zv_r q :: st) M Q := by
  intro p e s m args below meth c Qf H locs la C hf hP hS hl
  have hn := zl_len hq
  have ea : ((a.toNat : Nat) : Int) = a := Int.toNat_of_nonneg hi.1
  refine va_zast C.1 C.2.1 C.2.2.2.2.2.1.2.2.2.2.2.2 hP (zl_D M C.2.2.2.2.2.1.2.2.2.2.2.1) hS q 2 (by rw [zl_w_at g M (zl_lt hq), zl_ct_a hq]; rfl) rfl (zw_in hi.1 hi.2 hn) hd (fun H1 locs1 hP1 hD1 hS1 => ?_)
  rw [zw_cl hi.1 (by omega)] at hP1
  rw [show vp_nar .boolean (Int32.ofInt b) = Int32.ofInt b from by rcases hb with rfl | rfl <;> decide] at hP1
  have hws := zl_w_set (g := g) (M := M) (M2 := zm_put M q a b) (k := q) (zl_lt hq) (zl_ct_a hq) (fun x hx i => by unfold zm_put; rw [if_neg (fun y => hx y.1)])
  have he : zl_av (zm_put M q a b) q 2 = .inl (upd (fun j => Int32.ofInt (M q (j : Int))) a.toNat (Int32.ofInt b)) := by
    unfold zl_av
    simp only []
    congr 1
    funext j
    unfold upd zm_put
    by_cases hj : j = a.toNat
    · rw [if_pos hj, if_pos ⟨rfl, by omega⟩]
    · rw [if_neg hj, if_neg (fun x => hj (by omega))]
  rw [he] at hws
  have hP2 : va_P (zg_D g) zl_cl (zl_w g (zm_put M q a b)) H1 := by
    rw [← hws]
    exact hP1
  exact k p e s m args below meth c Qf H1 locs1 la C hf hP2 hS1 hl
