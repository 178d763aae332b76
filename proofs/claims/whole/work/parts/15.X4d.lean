/-! ===== bits (pasted from kit/laws/BITS.to-paste) ===== -/
def bt (x : Int32) (i : Nat) : Bool := x.toBitVec.getLsbD i
theorem b_ext {x y : Int32} (h : ∀ i, i < 32 → bt x i = bt y i) : x = y := Int32.toBitVec_inj.mp (BitVec.eq_of_getLsbD_eq (fun i hi => h i hi))
theorem b_or (x y : Int32) (i : Nat) : bt (x ||| y) i = (bt x i || bt y i) := by unfold bt; rw [Int32.toBitVec_or, BitVec.getLsbD_or]
theorem s_l : ∀ n, n < 32 → ((nI n &&& 31).toBitVec.smod 32).toNat = n := by decide +kernel
theorem b_shl (n : Nat) (hn : n < 32) (x : Int32) {i : Nat} (hi : i < 32) : bt (x <<< (nI n &&& 31)) i = (decide (n ≤ i) && bt x (i - n)) := by
  unfold bt
  rw [Int32.toBitVec_shiftLeft]
  show (x.toBitVec <<< ((nI n &&& 31).toBitVec.smod 32).toNat).getLsbD i = _
  rw [s_l n hn, BitVec.getLsbD_shiftLeft]
  rcases Nat.lt_or_ge i n with h | h
  · simp [h, Nat.not_le.mpr h]
  · simp [hi, h, Nat.not_lt.mpr h]
/-! ===== what the bytes that were taken come to: blocks, whatever lay in the words before ===== -/
def sl8 (x b : Int32) : Int32 := (x <<< (nI 8 &&& 31)) ||| b
def be4 (a b c d : Int32) : Int32 := (((a <<< (nI 24 &&& 31)) ||| (b <<< (nI 16 &&& 31))) ||| (c <<< (nI 8 &&& 31))) ||| d
theorem be4_sl8 (g a b c d : Int32) : sl8 (sl8 (sl8 (sl8 g a) b) c) d = be4 a b c d := by
  apply b_ext
  intro i hi
  have e1 : i - 8 - 8 = i - 16 := by omega
  have e2 : i - 16 - 8 = i - 24 := by omega
  unfold sl8 be4
  simp only [b_or, b_shl 8 (by decide) _ hi, b_shl 8 (by decide) _ (show i - 8 < 32 by omega), b_shl 24 (by decide) _ hi, b_shl 16 (by decide) _ hi, e1, b_shl 8 (by decide) _ (show i - 16 < 32 by omega), e2, b_shl 8 (by decide) _ (show i - 24 < 32 by omega)]
  rcases (show i < 8 ∨ (8 ≤ i ∧ i < 16) ∨ (16 ≤ i ∧ i < 24) ∨ 24 ≤ i by omega) with h | h | h | h
  · simp [decide_eq_false (show ¬ 8 ≤ i by omega), decide_eq_false (show ¬ 16 ≤ i by omega), decide_eq_false (show ¬ 24 ≤ i by omega)]
  · simp [decide_eq_true (show 8 ≤ i by omega), decide_eq_false (show ¬ 8 ≤ i - 8 by omega), decide_eq_false (show ¬ 16 ≤ i by omega), decide_eq_false (show ¬ 24 ≤ i by omega)]
  · simp [decide_eq_true (show 8 ≤ i by omega), decide_eq_true (show 8 ≤ i - 8 by omega), decide_eq_false (show ¬ 8 ≤ i - 16 by omega), decide_eq_true (show 16 ≤ i by omega), decide_eq_false (show ¬ 24 ≤ i by omega)]
  · simp [decide_eq_true (show 8 ≤ i by omega), decide_eq_true (show 8 ≤ i - 8 by omega), decide_eq_true (show 8 ≤ i - 16 by omega), decide_eq_false (show ¬ 8 ≤ i - 24 by omega), decide_eq_true (show 16 ≤ i by omega), decide_eq_true (show 24 ≤ i by omega)]
theorem sp_go_ag {w w' : Nat → Int32} (h : ∀ j, j < 16 → w j = w' j) : ∀ n, n ≤ 48 → ∀ j, j < 16 + n → sp_go w n j = sp_go w' n j
  | 0, _, j, hj => h j hj
  | n + 1, hn, j, hj => by
    have ih := sp_go_ag h n (by omega)
    show upd (sp_go w n) (16 + n) _ j = upd (sp_go w' n) (16 + n) _ j
    unfold upd
    by_cases hc : j = 16 + n
    · rw [if_pos hc, if_pos hc, ih n (by omega), ih (n + 1) (by omega), ih (n + 9) (by omega), ih (n + 14) (by omega)]
    · rw [if_neg hc, if_neg hc, ih j (by omega)]
theorem sp_ag {w w' : Nat → Int32} (h : ∀ j, j < 16 → w j = w' j) : ∀ j, j < 64 → sp w j = sp w' j := fun j hj => sp_go_ag h 48 (Nat.le_refl _) j hj
theorem mx_go_ag {f f' w w' : Nat → Int32} (hf : ∀ j, j < 8 → f j = f' j) (hw : ∀ j, j < 64 → w j = w' j) : ∀ i, i ≤ 64 → ∀ j, j < 8 → mx_go f w i j = mx_go f' w' i j
  | 0, _, j, hj => hf j hj
  | i + 1, hi, j, hj => by
    have ih := mx_go_ag hf hw i (by omega)
    have h0 := ih 0 (by omega)
    have h1 := ih 1 (by omega)
    have h2 := ih 2 (by omega)
    have h3 := ih 3 (by omega)
    have h4 := ih 4 (by omega)
    have h5 := ih 5 (by omega)
    have h6 := ih 6 (by omega)
    have h7 := ih 7 (by omega)
    have h8 := hw i (by omega)
    rcases (show j = 0 ∨ j = 1 ∨ j = 2 ∨ j = 3 ∨ j = 4 ∨ j = 5 ∨ j = 6 ∨ j = 7 by omega) with e | e | e | e | e | e | e | e <;> subst e <;> simp only [mx_go, h0, h1, h2, h3, h4, h5, h6, h7, h8]
theorem ad_go_ag {f f' r r' : Nat → Int32} (hf : ∀ j, j < 8 → f j = f' j) (hr : ∀ j, j < 8 → r j = r' j) : ∀ n, n ≤ 8 → ∀ j, j < 8 → ad_go f r n j = ad_go f' r' n j
  | 0, _, j, hj => hf j hj
  | n + 1, hn, j, hj => by
    have ih := ad_go_ag hf hr n (by omega)
    show upd _ n _ j = upd _ n _ j
    unfold upd
    by_cases hc : j = n
    · rw [if_pos hc, if_pos hc, ih n (by omega), hr n (by omega)]
    · rw [if_neg hc, if_neg hc, ih j hj]
theorem mx_ag {f f' w w' : Nat → Int32} (hf : ∀ j, j < 8 → f j = f' j) (hw : ∀ j, j < 64 → w j = w' j) : ∀ j, j < 8 → mx f w j = mx f' w' j := fun j hj => ad_go_ag hf (mx_go_ag hf hw 64 (Nat.le_refl _)) 8 (Nat.le_refl _) j hj
/-- a block's sixteen words -/
def blkw (m : Nat → Int32) (o : Nat) : Nat → Int32 := fun k => be4 (m (o + 4 * k)) (m (o + 4 * k + 1)) (m (o + 4 * k + 2)) (m (o + 4 * k + 3))
/-- the state behind n blocks -/
def sha_b (m : Nat → Int32) : Nat → Nat → Int32
  | 0 => k_begin
  | n + 1 => mx (sha_b m n) (sp (blkw m (64 * n)))
def pw (g : Int32) (m : Nat → Int32) (o : Nat) : Nat → Int32
  | 0 => g
  | r + 1 => sl8 (pw g m o r) (m (o + r))
theorem pw4 (g : Int32) (m : Nat → Int32) (o k : Nat) : pw g m (o + 4 * k) 4 = blkw m o k := be4_sl8 g _ _ _ _
/-- behind i bytes of m -/
def shI (m : Nat → Int32) (i : Nat) (q : ShS) : Prop := q.2.2 = i % 64 ∧ (∀ j, j < 8 → q.1 j = sha_b m (i / 64) j) ∧ (∀ k, 4 * k + 4 ≤ i % 64 → q.2.1 k = blkw m (64 * (i / 64)) k) ∧ ∃ g, q.2.1 (i % 64 / 4) = pw g m (64 * (i / 64) + 4 * (i % 64 / 4)) (i % 4)
theorem shI_lt {m : Nat → Int32} {i : Nat} {q : ShS} (h : shI m i q) : q.2.2 < 64 := by rw [h.1]; exact Nat.mod_lt _ (by decide)
theorem shI_0 {m f g : Nat → Int32} : shI m 0 (va_cpy k_begin f 0 0 8, g, 0) := by
  refine ⟨rfl, fun j hj => ?_, fun k hk => absurd hk (by omega), ⟨_, rfl⟩⟩
  show va_cpy k_begin f 0 0 8 j = k_begin j
  unfold va_cpy
  rw [if_pos ⟨Nat.zero_le _, by omega⟩]
  congr 1
  omega
theorem shI_s {m : Nat → Int32} {i : Nat} {q : ShS} (h : shI m i q) : shI m (i + 1) (sh_take q (m i)) := by
  obtain ⟨f, g, n⟩ := q
  obtain ⟨h1, h2, h3, x, h4⟩ := h
  dsimp only at h1 h2 h3 h4
  have e5 : 64 * (i / 64) + 4 * (i % 64 / 4) + i % 4 = i := by omega
  have hk : n / 4 = i % 64 / 4 := by rw [h1]
  have hw : sl8 (g (n / 4)) (m i) = pw x m (64 * (i / 64) + 4 * (i % 64 / 4)) (i % 4 + 1) := by
    show _ = sl8 (pw x m (64 * (i / 64) + 4 * (i % 64 / 4)) (i % 4)) (m (64 * (i / 64) + 4 * (i % 64 / 4) + i % 4))
    rw [e5, hk, h4]
  have hu : ∀ k, sh_w g n (m i) k = if k = n / 4 then sl8 (g (n / 4)) (m i) else g k := fun k => rfl
  by_cases hc : n + 1 = 64
  · rw [sh_hi hc]
    have e6 : (i + 1) % 64 = 0 := by omega
    have e7 : (i + 1) / 64 = i / 64 + 1 := by omega
    have hb : ∀ k, k < 16 → sh_w g n (m i) k = blkw m (64 * (i / 64)) k := by
      intro k hk16
      rw [hu]
      by_cases hk2 : k = n / 4
      · rw [if_pos hk2, hw, show i % 4 + 1 = 4 by omega, pw4, hk2, hk]
      · rw [if_neg hk2]
        exact h3 k (by omega)
    refine ⟨e6.symm, fun j hj => ?_, fun k hk2 => absurd hk2 (by omega), ?_⟩
    · rw [e7]
      exact mx_ag h2 (sp_ag hb) j hj
    · rw [show (i + 1) % 4 = 0 by omega]
      exact ⟨_, rfl⟩
  · rw [sh_lo hc]
    have e6 : (i + 1) % 64 = i % 64 + 1 := by omega
    have e7 : (i + 1) / 64 = i / 64 := by omega
    refine ⟨?_, fun j hj => ?_, fun k hk2 => ?_, ?_⟩
    · show n + 1 = _
      rw [e6, h1]
    · rw [e7]
      exact h2 j hj
    · rw [e7]
      rw [e6] at hk2
      show sh_w g n (m i) k = _
      rw [hu]
      by_cases hk3 : k = n / 4
      · rw [if_pos hk3, hw, show i % 4 + 1 = 4 by omega, pw4, hk3, hk]
      · rw [if_neg hk3]
        exact h3 k (by omega)
    · by_cases hr : i % 4 = 3
      · rw [show (i + 1) % 4 = 0 by omega]
        exact ⟨_, rfl⟩
      · refine ⟨x, ?_⟩
        rw [e7, e6, show (i % 64 + 1) / 4 = i % 64 / 4 by omega, show (i + 1) % 4 = i % 4 + 1 by omega, ← hw]
        show sh_w g n (m i) (i % 64 / 4) = _
        rw [hu, if_pos hk.symm]
theorem shI_n {m r : Nat → Int32} {i : Nat} {q : ShS} (h : shI m i q) : ∀ len, (∀ j, j < len → r j = m (i + j)) → shI m (i + len) (sh_takes q r len)
  | 0, _ => h
  | len + 1, hr => by
    have ih := shI_n h len (fun j hj => hr j (by omega))
    show shI m (i + len + 1) (sh_take (sh_takes q r len) (r len))
    rw [hr len (by omega)]
    exact shI_s ih
/-- a message of n bytes, with what is laid behind it -/
def padm (n : Nat) (m : Nat → Int32) : Nat → Int32 := fun j => if j < n then m j else if j = n then nI 128 else if j + 8 < 64 * ((n + 72) / 64) then nI 0 else lb (8 * (nI n).toInt64) (j + 8 - 64 * ((n + 72) / 64))
/-- the digest's eight words, its 32 bytes -/
def sha_d (n : Nat) (m : Nat → Int32) : Nat → Int32 := sha_b (padm n m) ((n + 72) / 64)
def dgb (n : Nat) (m : Nat → Int32) (i : Nat) : Int32 := ru (sha_d n m (i / 4)) (24 - 8 * (i % 4)) &&& nI 255
theorem padm_lt {n j : Nat} {m : Nat → Int32} (h : j < n) : padm n m j = m j := if_pos h
theorem sh_end_I {n : Nat} {m : Nat → Int32} {q : ShS} (h : shI (padm n m) n q) : ∀ j, j < 8 → sh_end q n j = sha_d n m j := by
  have e1 : padm n m n = nI 128 := by unfold padm; rw [if_neg (by omega), if_pos rfl]
  obtain ⟨q1, hq1⟩ : ∃ z : ShS, z = sh_take q (nI 128) := ⟨_, rfl⟩
  have i1 : shI (padm n m) (n + 1) q1 := by
    have i0 := shI_s h
    rw [e1, ← hq1] at i0
    exact i0
  obtain ⟨Z, hZ⟩ : ∃ z : Nat, z = (120 - q1.2.2) % 64 := ⟨_, rfl⟩
  have hz : Z + (n + 1) + 8 = 64 * ((n + 72) / 64) := by
    rw [i1.1] at hZ
    omega
  have i2 := shI_n (r := fun _ => nI 0) i1 Z (fun j hj => by
    unfold padm
    rw [if_neg (by omega), if_neg (by omega), if_pos (by omega)])
  have i3 := shI_n (r := lb (8 * (nI n).toInt64)) i2 8 (fun j hj => by
    unfold padm
    rw [if_neg (by omega), if_neg (by omega), if_neg (by omega)]
    congr 1
    omega)
  intro j hj
  have h9 := i3.2.1 j hj
  rw [show (n + 1 + Z + 8) / 64 = (n + 72) / 64 by omega] at h9
  unfold sh_end sh_fill sha_d
  rw [← hq1, ← hZ]
  exact h9
theorem dg_eq {f f' o : Nat → Int32} {a : Nat} (hf : ∀ j, j < 8 → f j = f' j) : ∀ n, n ≤ 32 → dg_go f o a n = va_cpy (fun i => ru (f' (i / 4)) (24 - 8 * (i % 4)) &&& nI 255) o 0 a n
  | 0, _ => by
    funext k
    unfold va_cpy
    rw [if_neg (by omega)]
    rfl
  | n + 1, hn => by
    have ih := dg_eq (o := o) (a := a) hf n (by omega)
    show upd (dg_go f o a n) (a + n) _ = _
    rw [ih, hf (n / 4) (by omega)]
    funext k
    unfold upd va_cpy
    by_cases hk : k = a + n
    · rw [if_pos hk, if_pos (by omega), show 0 + (k - a) = n by omega]
    · rw [if_neg hk]
      by_cases hk2 : a ≤ k ∧ k < a + n
      · rw [if_pos hk2, if_pos (by omega)]
      · rw [if_neg hk2, if_neg (by omega)]
theorem dg_I {n : Nat} {m o : Nat → Int32} {q : ShS} {a : Nat} (h : shI (padm n m) n q) : dg_go (sh_end q n) o a 32 = va_cpy (dgb n m) o 0 a 32 := dg_eq (sh_end_I h) 32 (Nat.le_refl _)
