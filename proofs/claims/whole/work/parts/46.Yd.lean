/-! ===== what the reference makes of counts ===== -/
theorem n_or (x y : Nat) : nI x ||| nI y = nI (x ||| y) := b_ext (fun i hi => by rw [b_or, bt_nI _ hi, bt_nI _ hi, bt_nI _ hi, Nat.testBit_or])
theorem n_orp {k p a b : Nat} (hp : 2 ^ k = p) (ha : a < p) : nI (b * p) ||| nI a = nI (b * p + a) := by
  subst hp
  rw [n_or, ← Nat.shiftLeft_eq, Nat.shiftLeft_add_eq_or_of_lt ha]
theorem be4_n {a b c d : Nat} (ha : a < 256) (hb : b < 256) (hc : c < 256) (hd : d < 256) : be4 (nI a) (nI b) (nI c) (nI d) = nI (((a * 256 + b) * 256 + c) * 256 + d) := by
  unfold be4
  rw [pk_shlN _ 24 (s_l 24 (by decide)) (by omega), pk_shlN _ 16 (s_l 16 (by decide)) (by omega), pk_shlN _ 8 (s_l 8 (by decide)) (by omega)]
  rw [n_orp (k := 24) (p := 2 ^ 24) (b := a) (a := b * 2 ^ 16) rfl (by omega), show a * 2 ^ 24 + b * 2 ^ 16 = (a * 256 + b) * 2 ^ 16 by omega]
  rw [n_orp (k := 16) (p := 2 ^ 16) rfl (by omega), show (a * 256 + b) * 2 ^ 16 + c * 2 ^ 8 = ((a * 256 + b) * 256 + c) * 2 ^ 8 by omega]
  rw [n_orp (k := 8) (p := 2 ^ 8) rfl (by omega)]
theorem b_sshr (n : Nat) (hn : n < 32) (x : Int32) {i : Nat} (hi : n + i < 32) : bt (x >>> (nI n &&& 31)) i = bt x (n + i) := by
  unfold bt
  rw [Int32.toBitVec_shiftRight]
  show (x.toBitVec.sshiftRight ((nI n &&& 31).toBitVec.smod 32).toNat).getLsbD i = _
  rw [s_l n hn, BitVec.getLsbD_sshiftRight]
  simp [show ¬ 32 ≤ i by omega, hi]
theorem by_r {N b : Nat} (hb : b < 4) : (nI N >>> (nI (24 - 8 * b) &&& 31)) &&& nI 255 = nI (N / 2 ^ (24 - 8 * b) % 256) := by
  apply b_ext
  intro i hi
  rw [b_and, bt_nI 255 hi, bt_nI _ hi, show (256 : Nat) = 2 ^ 8 from rfl, Nat.testBit_mod_two_pow, show (255 : Nat) = 2 ^ 8 - 1 from rfl, Nat.testBit_two_pow_sub_one]
  by_cases h : i < 8
  · rw [b_sshr _ (by omega) _ (by omega), bt_nI _ (by omega), ← Nat.shiftRight_eq_div_pow, Nat.testBit_shiftRight, Bool.and_comm]
  · simp [h]
theorem by_c {N b : Nat} (hN : N < 2 ^ 64) (hb : b < 4) : ((lN N).toUInt64 >>> ((nI (24 - 8 * b)).toInt64.toUInt64 &&& Int64.toUInt64 63)).toInt64.toInt32 &&& nI 255 = nI (N / 2 ^ (24 - 8 * b) % 256) := by
  rw [wb_shr hN (by omega), lN_i, nI_255]
theorem sc_go_in {f : Nat → Int32} {k : Nat} {v : Int64} : ∀ i, ∀ b, b < i → sc_go f k v i (4 + 4 * k + b) = (v.toUInt64 >>> ((nI (24 - 8 * b)).toInt64.toUInt64 &&& Int64.toUInt64 63)).toInt64.toInt32 &&& nI 255
  | 0, b, h => absurd h (Nat.not_lt_zero b)
  | i + 1, b, h => by
    show upd (sc_go f k v i) (4 + 4 * k + i) _ (4 + 4 * k + b) = _
    unfold upd
    by_cases e : b = i
    · subst e
      rw [if_pos rfl]
    · rw [if_neg (by omega)]
      exact sc_go_in i b (by omega)
theorem sc_go_out {f : Nat → Int32} {k : Nat} {v : Int64} : ∀ i, i ≤ 4 → ∀ j, j < 4 + 4 * k ∨ 8 + 4 * k ≤ j → sc_go f k v i j = f j
  | 0, _, _, _ => rfl
  | i + 1, hi, j, h => by
    show upd (sc_go f k v i) (4 + 4 * k + i) _ j = _
    unfold upd
    rw [if_neg (by omega)]
    exact sc_go_out i (by omega) j h
theorem ms_in {st : Nat → Nat → Int32} {rc : Nat → Int32} {c : Nat} : ∀ n, n ≤ 4 → ∀ k, k < n → ∀ b, b < 4 → ms_go st rc c n (4 + 4 * k + b) = ((ct (st (gr st)) k + (if k = c then nI 1 else nI 0).toInt64).toUInt64 >>> ((nI (24 - 8 * b)).toInt64.toUInt64 &&& Int64.toUInt64 63)).toInt64.toInt32 &&& nI 255
  | 0, _, k, h, _, _ => absurd h (Nat.not_lt_zero k)
  | n + 1, hn, k, h, b, hb => by
    show sc (ms_go st rc c n) n _ (4 + 4 * k + b) = _
    by_cases e : k = n
    · subst e
      exact sc_go_in 4 b hb
    · refine (sc_go_out 4 (Nat.le_refl _) _ (by omega)).trans ?_
      exact ms_in n (by omega) k (by omega) b hb
theorem ms_out {st : Nat → Nat → Int32} {rc : Nat → Int32} {c : Nat} : ∀ n, n ≤ 4 → ∀ j, j < 4 ∨ 20 ≤ j → ms_go st rc c n j = rc j
  | 0, _, _, _ => rfl
  | n + 1, hn, j, h => by
    show sc (ms_go st rc c n) n _ j = _
    refine (sc_go_out 4 (Nat.le_refl _) j (by omega)).trans ?_
    exact ms_out n (by omega) j h
/-- the reference's next counts -/
def adv (g rc : Nat → Int32) (c : Nat) : Nat → Int32 := fun i => if 4 + 4 * c ≤ i ∧ i < 8 + 4 * c then ((be4 (g (4 + 4 * c)) (g (4 + 4 * c + 1)) (g (4 + 4 * c + 2)) (g (4 + 4 * c + 3)) + nI 1) >>> (nI (24 - 8 * (i - (4 + 4 * c))) &&& 31)) &&& nI 255 else if 4 ≤ i ∧ i < 20 then g i else rc i
theorem dig {a b c d : Nat} (ha : a < 256) (hb : b < 256) (hc : c < 256) (hd : d < 256) : (((a * 256 + b) * 256 + c) * 256 + d) / 2 ^ 24 % 256 = a ∧ (((a * 256 + b) * 256 + c) * 256 + d) / 2 ^ 16 % 256 = b ∧ (((a * 256 + b) * 256 + c) * 256 + d) / 2 ^ 8 % 256 = c ∧ (((a * 256 + b) * 256 + c) * 256 + d) / 2 ^ 0 % 256 = d := by
  refine ⟨by omega, by omega, by omega, by omega⟩
theorem nv_dig {f : Nat → Int32} {k b : Nat} (h : b20 f) (hk : k < 4) (hb : b < 4) : nI (nv f k / 2 ^ (24 - 8 * b) % 256) = f (4 + 4 * k + b) := by
  have h0 := bn_lt (h (4 + 4 * k) (by omega))
  have h1 := bn_lt (h (4 + 4 * k + 1) (by omega))
  have h2 := bn_lt (h (4 + 4 * k + 2) (by omega))
  have h3 := bn_lt (h (4 + 4 * k + 3) (by omega))
  have hd := dig h0 h1 h2 h3
  unfold nv
  rcases (show b = 0 ∨ b = 1 ∨ b = 2 ∨ b = 3 by omega) with e | e | e | e <;> subst e
  · show nI (_ / 2 ^ 24 % 256) = _
    rw [hd.1, nI_bn]
    rfl
  · show nI (_ / 2 ^ 16 % 256) = _
    rw [hd.2.1, nI_bn]
  · show nI (_ / 2 ^ 8 % 256) = _
    rw [hd.2.2.1, nI_bn]
  · show nI (_ / 2 ^ 0 % 256) = _
    rw [hd.2.2.2, nI_bn]
theorem be4_nv {f : Nat → Int32} {k : Nat} (h : b20 f) (hk : k < 4) : be4 (f (4 + 4 * k)) (f (4 + 4 * k + 1)) (f (4 + 4 * k + 2)) (f (4 + 4 * k + 3)) = nI (nv f k) := by
  have e := be4_n (bn_lt (h (4 + 4 * k) (by omega))) (bn_lt (h (4 + 4 * k + 1) (by omega))) (bn_lt (h (4 + 4 * k + 2) (by omega))) (bn_lt (h (4 + 4 * k + 3) (by omega)))
  rw [nI_bn, nI_bn, nI_bn, nI_bn] at e
  exact e
theorem i64_0 : (nI 0).toInt64 = lN 0 := by decide
theorem i64_1 : (nI 1).toInt64 = lN 1 := by decide
theorem adv_ms {st : Nat → Nat → Int32} {rc : Nat → Int32} {c : Nat} (h : b20 (st (gr st))) (hc : c < 4) : ∀ i, i < 20 → adv (st (gr st)) rc c i = ms_go st rc c 4 i := by
  intro i hi
  unfold adv
  by_cases h4 : i < 4
  · rw [if_neg (by omega), if_neg (by omega), ms_out 4 (Nat.le_refl _) i (Or.inl h4)]
  · have ei : i = 4 + 4 * ((i - 4) / 4) + (i - 4) % 4 := by omega
    obtain ⟨k, hk⟩ : ∃ k, k = (i - 4) / 4 := ⟨_, rfl⟩
    obtain ⟨b, hb⟩ : ∃ b, b = (i - 4) % 4 := ⟨_, rfl⟩
    have hk4 : k < 4 := by omega
    have hb4 : b < 4 := by omega
    rw [← hk, ← hb] at ei
    subst ei
    have hN := nv_lt h hk4
    rw [ms_in 4 (Nat.le_refl _) k hk4 b hb4, ct_nv h hk4]
    by_cases e : k = c
    · subst e
      rw [if_pos (by omega), if_pos rfl, be4_nv h hk4, nI_add, i64_1, lN_add, show 4 + 4 * k + b - (4 + 4 * k) = b by omega, by_r hb4, by_c (by omega) hb4]
    · rw [if_neg (by omega), if_pos (by omega), if_neg e, i64_0, lN_add, Nat.add_zero, by_c (by omega) hb4, nv_dig h hk4 hb4]
theorem adv_by {g rc : Nat → Int32} {c : Nat} (hg : b20 g) (hr : b20 rc) : b20 (adv g rc c) := by
  intro i hi
  unfold adv
  split
  · exact byt_and _
  · split
    · exact hg i hi
    · exact hr i hi
def av_go (r : Nat → Int32) (x : Int32) (a : Nat) : Nat → Nat → Int32
  | 0 => r
  | i + 1 => upd (av_go r x a i) (a + i) ((x >>> (nI (24 - 8 * i) &&& 31)) &&& nI 255)
theorem av_in {r : Nat → Int32} {x : Int32} {a : Nat} : ∀ i, ∀ b, b < i → av_go r x a i (a + b) = (x >>> (nI (24 - 8 * b) &&& 31)) &&& nI 255
  | 0, b, h => absurd h (Nat.not_lt_zero b)
  | i + 1, b, h => by
    show upd (av_go r x a i) (a + i) _ (a + b) = _
    unfold upd
    by_cases e : b = i
    · subst e
      rw [if_pos rfl]
    · rw [if_neg (by omega)]
      exact av_in i b (by omega)
theorem av_out {r : Nat → Int32} {x : Int32} {a : Nat} : ∀ i, ∀ j, j < a ∨ a + i ≤ j → av_go r x a i j = r j
  | 0, _, _ => rfl
  | i + 1, j, h => by
    show upd (av_go r x a i) (a + i) _ j = _
    unfold upd
    rw [if_neg (by omega)]
    exact av_out i j (by omega)
theorem sgn_ag {tn tn' f f' : Nat → Int32} (ht : ∀ j, j < 32 → tn (32 + j) = tn' (32 + j)) (hf : ∀ i, i < 20 → f i = f' i) : ∀ i, i < 84 → sgn tn f i = sgn tn' f' i := by
  have h1 : ∀ i, i < 52 → va_cpy tn f 32 20 32 i = va_cpy tn' f' 32 20 32 i := by
    intro i hi
    by_cases h : i < 20
    · rw [cpy_out (by omega), cpy_out (by omega), hf i h]
    · rw [cpy_in (by omega) (by omega), cpy_in (by omega) (by omega), ht _ (by omega)]
  intro i hi
  unfold sgn
  rw [macb_ag h1]
  by_cases h : i < 52
  · rw [cpy_out (b := 52) (by omega), cpy_out (b := 52) (by omega), h1 i h]
  · rw [cpy_in (by omega) (by omega), cpy_in (by omega) (by omega)]
def rtn (fc : Nat → Int32) (ln : Nat → Nat) : Nat → Int32 := fun x => root fc ln (x - 32)
theorem rtn_at (fc : Nat → Int32) (ln : Nat → Nat) (j : Nat) : rtn fc ln (32 + j) = root fc ln j := by unfold rtn; congr 1; omega
theorem sgn_by {tn f : Nat → Int32} (ht : ∀ j, j < 32 → byt (tn (32 + j))) (hf : b20 f) : ∀ i, i < 84 → byt (sgn tn f i) := by
  intro i hi
  unfold sgn
  by_cases h : i < 52
  · rw [cpy_out (by omega)]
    by_cases h2 : i < 20
    · rw [cpy_out (by omega)]; exact hf i h2
    · rw [cpy_in (by omega) (by omega)]; exact ht _ (by omega)
  · rw [cpy_in (by omega) (by omega)]; exact byt_macb _ _ _
