/-! ===== bits of longs (pasted from kit/laws/BITS.to-paste) ===== -/
theorem wb_tb (n : Nat) : (lN n).toBitVec = BitVec.ofNat 64 n := rfl
theorem wb_inj {a b : Int64} (h : a.toBitVec = b.toBitVec) : a = b := Int64.toBitVec_inj.mp h
theorem wb_tn {n : Nat} (h : n < 2 ^ 64) : (lN n).toBitVec.toNat = n := by rw [wb_tb, BitVec.toNat_ofNat, Nat.mod_eq_of_lt h]
theorem wb_c : ∀ k, k < 64 → ((nI k).toInt64 &&& 63) = lN k := by decide +kernel
theorem wb_cu : ∀ k, k < 64 → ((nI k).toInt64.toUInt64 &&& Int64.toUInt64 63) = UInt64.ofNat k := by decide +kernel
theorem wb_sm : ∀ k, k < 64 → (BitVec.ofNat 64 k).smod 64 = BitVec.ofNat 64 k := by decide +kernel
theorem wb_shr {n k : Nat} (hn : n < 2 ^ 64) (hk : k < 64) : ((lN n).toUInt64 >>> ((nI k).toInt64.toUInt64 &&& Int64.toUInt64 63)).toInt64 = lN (n / 2 ^ k) := by
  rw [wb_cu k hk]
  apply wb_inj
  apply BitVec.eq_of_toNat_eq
  show ((lN n).toUInt64 >>> UInt64.ofNat k).toNat = (BitVec.ofNat 64 _).toNat
  have h1 : (UInt64.ofNat k).toNat = k := by
    show (BitVec.ofNat 64 k).toNat = k
    rw [BitVec.toNat_ofNat, Nat.mod_eq_of_lt (by omega)]
  have h2 : (lN n).toUInt64.toNat = n := wb_tn hn
  rw [UInt64.toNat_shiftRight, h1, h2, Nat.mod_eq_of_lt hk, Nat.shiftRight_eq_div_pow, BitVec.toNat_ofNat, Nat.mod_eq_of_lt (Nat.lt_of_le_of_lt (Nat.div_le_self _ _) hn)]
theorem wb_shl (n : Nat) {k : Nat} (hk : k < 64) : lN n <<< ((nI k).toInt64 &&& 63) = lN (n * 2 ^ k) := by
  rw [wb_c k hk]
  apply wb_inj
  rw [Int64.toBitVec_shiftLeft, wb_tb, wb_tb, wb_tb, wb_sm k hk]
  apply BitVec.eq_of_toNat_eq
  rw [BitVec.shiftLeft_eq', BitVec.toNat_shiftLeft, BitVec.toNat_ofNat, BitVec.toNat_ofNat, BitVec.toNat_ofNat, Nat.mod_eq_of_lt (show k < 2 ^ 64 by omega), Nat.shiftLeft_eq, Nat.mul_mod, Nat.mod_mod, ← Nat.mul_mod]
theorem u_tn {n : Nat} (h : n < 2 ^ 64) : (UInt64.ofNat n).toNat = n := Nat.mod_eq_of_lt h
theorem g_or {k p a b : Nat} (hp : 2 ^ k = p) (ha : a < p) (h : b * p + a < 2 ^ 64) : lN (b * p) ||| lN a = lN (b * p + a) := by
  subst hp
  have h1 : b * 2 ^ k ||| a = b * 2 ^ k + a := by rw [← Nat.shiftLeft_eq, Nat.shiftLeft_add_eq_or_of_lt ha]
  have h3 : UInt64.ofNat (b * 2 ^ k) ||| UInt64.ofNat a = UInt64.ofNat (b * 2 ^ k + a) := UInt64.toNat_inj.mp (by rw [UInt64.toNat_or, u_tn (by omega), u_tn (by omega), u_tn h, h1])
  have h2 := congrArg UInt64.toInt64 h3
  exact h2

/-! ===== counts as numbers ===== -/
def shf (f : Nat → Int32) (o : Nat) : Nat → Int32 := fun i => f (o + i)
def bn (x : Int32) : Nat := x.toBitVec.toNat
theorem nI_bn (x : Int32) : nI (bn x) = x := Int32.toBitVec_inj.mp (by show BitVec.ofNat 32 _ = _; unfold bn; simp)
theorem b_and (x y : Int32) (i : Nat) : bt (x &&& y) i = (bt x i && bt y i) := by unfold bt; rw [Int32.toBitVec_and, BitVec.getLsbD_and]
theorem bt_nI (m : Nat) {i : Nat} (hi : i < 32) : bt (nI m) i = m.testBit i := by
  show (BitVec.ofNat 32 m).getLsbD i = _
  rw [BitVec.getLsbD_ofNat, decide_eq_true hi, Bool.true_and]
theorem bt_bn (x : Int32) (i : Nat) : bt x i = (bn x).testBit i := rfl
theorem nI_255 (n : Nat) : nI n &&& nI 255 = nI (n % 256) := by
  apply b_ext
  intro i hi
  rw [b_and, bt_nI _ hi, bt_nI _ hi, bt_nI _ hi, show (256 : Nat) = 2 ^ 8 from rfl, Nat.testBit_mod_two_pow, show (255 : Nat) = 2 ^ 8 - 1 from rfl, Nat.testBit_two_pow_sub_one, Bool.and_comm]
theorem bn_nI {n : Nat} (h : n < 2 ^ 32) : bn (nI n) = n := by
  show (BitVec.ofNat 32 n).toNat = n
  rw [BitVec.toNat_ofNat, Nat.mod_eq_of_lt h]
theorem bn_lt {x : Int32} (h : byt x) : bn x < 256 := by
  have h1 : nI (bn x) &&& nI 255 = nI (bn x) := by rw [nI_bn]; exact h
  rw [nI_255] at h1
  have h2 := congrArg bn h1
  rw [bn_nI (by have := Nat.mod_lt (bn x) (show 256 > 0 by decide); omega), nI_bn] at h2
  rw [← h2]
  exact Nat.mod_lt _ (by decide)
def nv (f : Nat → Int32) (k : Nat) : Nat := ((bn (f (4 + 4 * k)) * 256 + bn (f (4 + 4 * k + 1))) * 256 + bn (f (4 + 4 * k + 2))) * 256 + bn (f (4 + 4 * k + 3))
def b20 (f : Nat → Int32) : Prop := ∀ i, i < 20 → byt (f i)
theorem ct_st {n : Nat} {x : Int32} (hn : n < 2 ^ 32) (hx : byt x) : (lN n <<< ((nI 8).toInt64 &&& 63)) ||| x.toInt64 = lN (n * 256 + bn x) := by
  have h := bn_lt hx
  rw [wb_shl n (by decide), show x.toInt64 = lN (bn x) by rw [← nI_l (by omega), nI_bn]]
  exact g_or (k := 8) rfl h (by omega)
theorem nv_lt {f : Nat → Int32} {k : Nat} (h : b20 f) (hk : k < 4) : nv f k < 2 ^ 32 := by
  have h0 := bn_lt (h (4 + 4 * k) (by omega))
  have h1 := bn_lt (h (4 + 4 * k + 1) (by omega))
  have h2 := bn_lt (h (4 + 4 * k + 2) (by omega))
  have h3 := bn_lt (h (4 + 4 * k + 3) (by omega))
  unfold nv
  omega
theorem ct_nv {f : Nat → Int32} {k : Nat} (h : b20 f) (hk : k < 4) : ct f k = lN (nv f k) := by
  have h0 := bn_lt (h (4 + 4 * k) (by omega))
  have h1 := bn_lt (h (4 + 4 * k + 1) (by omega))
  have h2 := bn_lt (h (4 + 4 * k + 2) (by omega))
  have g0 : ct_go f k 1 = lN (bn (f (4 + 4 * k))) := by
    have := ct_st (n := 0) (by decide) (h (4 + 4 * k) (by omega))
    rw [Nat.zero_mul, Nat.zero_add] at this
    exact this
  have g1 : ct_go f k 2 = lN (bn (f (4 + 4 * k)) * 256 + bn (f (4 + 4 * k + 1))) := by
    show (ct_go f k 1 <<< _) ||| _ = _
    rw [g0]
    exact ct_st (by omega) (h (4 + 4 * k + 1) (by omega))
  have g2 : ct_go f k 3 = lN ((bn (f (4 + 4 * k)) * 256 + bn (f (4 + 4 * k + 1))) * 256 + bn (f (4 + 4 * k + 2))) := by
    show (ct_go f k 2 <<< _) ||| _ = _
    rw [g1]
    exact ct_st (by omega) (h (4 + 4 * k + 2) (by omega))
  show (ct_go f k 3 <<< _) ||| _ = _
  rw [g2]
  exact ct_st (by omega) (h (4 + 4 * k + 3) (by omega))
theorem ct_ag {f g : Nat → Int32} (h : ∀ i, i < 20 → f i = g i) {k : Nat} (hk : k < 4) : ct f k = ct g k := by
  show (((((0 : Int64) <<< _ ||| _) <<< _ ||| _) <<< _ ||| _) <<< _) ||| _ = _
  unfold ct
  simp only [ct_go]
  rw [h _ (by omega), h _ (by omega), h _ (by omega), h _ (by omega)]
theorem na_ag {f g f' g' : Nat → Int32} (h : ∀ i, i < 20 → f i = f' i) (h' : ∀ i, i < 20 → g i = g' i) : na f g ↔ na f' g' := by
  unfold na
  exact ⟨fun z k hk => by rw [← ct_ag h hk, ← ct_ag h' hk]; exact z k hk, fun z k hk => by rw [ct_ag h hk, ct_ag h' hk]; exact z k hk⟩
theorem na_nv {f g : Nat → Int32} (hf : b20 f) (hg : b20 g) : na f g ↔ ∀ k, k < 4 → nv f k ≤ nv g k := by
  unfold na
  refine ⟨fun z k hk => ?_, fun z k hk => ?_⟩
  · have h := z k hk
    rw [ct_nv hf hk, ct_nv hg hk] at h
    exact (pk_lLE (by have := nv_lt hf hk; omega) (by have := nv_lt hg hk; omega)).mp h
  · rw [ct_nv hf hk, ct_nv hg hk]
    exact (pk_lLE (by have := nv_lt hf hk; omega) (by have := nv_lt hg hk; omega)).mpr (z k hk)
theorem na_tr {f g h : Nat → Int32} (a : na f g) (b : na g h) : na f h := fun k hk => Int64.le_trans (a k hk) (b k hk)
theorem na_rf (f : Nat → Int32) : na f f := fun k _ => Int64.le_refl _
/-- in line: the greatest is above all, and the first of such -/
theorem gr_top {st : Nat → Nat → Int32} (h : inl st) : ∀ i, i < 4 → ∀ o, o ≤ i → na (st o) (st (gr_go st i))
  | 0, _, o, ho => by rw [show o = 0 by omega]; exact na_rf _
  | i + 1, hi, o, ho => by
    have hle := gr_le st i
    by_cases hc : na (st (i + 1)) (st (gr_go st i))
    · rw [gr_y hc]
      by_cases e : o = i + 1
      · rw [e]; exact hc
      · exact gr_top h i (by omega) o (by omega)
    · rw [gr_n hc]
      have h2 : na (st (gr_go st i)) (st (i + 1)) := (h (gr_go st i) (i + 1) (by omega) hi).resolve_right hc
      by_cases e : o = i + 1
      · rw [e]; exact na_rf _
      · exact na_tr (gr_top h i (by omega) o (by omega)) h2
theorem gr_fst {st : Nat → Nat → Int32} (h : inl st) : ∀ i, i < 4 → ∀ q, q < gr_go st i → ¬ na (st (gr_go st i)) (st q)
  | 0, _, q, hq => absurd hq (Nat.not_lt_zero q)
  | i + 1, hi, q, hq => by
    by_cases hc : na (st (i + 1)) (st (gr_go st i))
    · rw [gr_y hc] at hq ⊢
      exact gr_fst h i (by omega) q hq
    · rw [gr_n hc] at hq ⊢
      exact fun z => hc (na_tr z (gr_top h i (by omega) q (by omega)))
theorem gr_lt (st : Nat → Nat → Int32) : gr st < 4 := by have := gr_le st 3; unfold gr; omega
theorem gr_is {st : Nat → Nat → Int32} (h : inl st) {c : Nat} (hc : c < 4) (h1 : ∀ o, o < 4 → na (st o) (st c)) (h2 : ∀ q, q < c → ¬ ∀ o, o < 4 → na (st o) (st q)) : gr st = c := by
  have a := gr_top h 3 (by decide)
  have b := gr_fst h 3 (by decide)
  have hl := gr_lt st
  rcases Nat.lt_trichotomy (gr st) c with e | e | e
  · exact absurd (fun o ho => a o (by omega)) (h2 _ e)
  · exact e
  · exact absurd (h1 _ hl) (b c e)
theorem macb_ag {n : Nat} {r r' : Nat → Int32} (h : ∀ j, j < n → r j = r' j) : macb n r = macb n r' := by
  unfold macb
  have e : dgb (64 + n) (kcat (nI 54) r) = dgb (64 + n) (kcat (nI 54) r') := dgb_ag (fun j hj => by
    unfold kcat
    by_cases h0 : j < 64
    · rw [if_pos h0, if_pos h0]
    · rw [if_neg h0, if_neg h0, h _ (by omega)])
  rw [e]
theorem sgd_ag {f g : Nat → Int32} {c : Nat} (h : ∀ i, i < 84 → f i = g i) : sgd f c ↔ sgd g c := by
  unfold sgd
  rw [h 0 (by decide), macb_ag (fun j hj => h j (by omega))]
  exact ⟨fun z => ⟨z.1, fun i hi => by rw [← h _ (by omega)]; exact z.2 i hi⟩, fun z => ⟨z.1, fun i hi => by rw [h _ (by omega)]; exact z.2 i hi⟩⟩
theorem nI_m1 : ∀ c, c < 4 → nI c ≠ -1 := by decide
