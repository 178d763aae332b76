/-! ===== the reference: its digest machine ===== -/
def yI (md : Nat → Nat) : Prop := ∀ i j, i < 17 → j < 17 → md i = md j → i = j
theorem yne {md : Nat → Nat} (h : yI md) {i j : Nat} (hi : i < 17) (hj : j < 17) (hn : i ≠ j) : md i ≠ md j := fun e => hn (h i j hi hj e)
def yS (G : mm_G) (M : mm_M) (md : Nat → Nat) (v6 v9 v11 v12 v13 v22 : Int32) (n : Nat) (f d : Nat → Int32) : Prop :=
  M (md 0) = some (ob 10 [.ref (md 1), .ref (md 2), .ref (md 3), .ref (md 4), .ref (md 5), .ref (md 6), .int v6, .ref (md 7), .ref (md 8), .int v9, .ref (md 9), .int v11, .int v12, .int v13, .ref (md 10), .int (nI n), .ref (md 11), .ref (md 12), .ref (md 13), .ref (md 14), .ref (md 15), .ref (md 16), .int v22]) ∧ M (md 10) = some (ia G 256 f) ∧ M (md 11) = some (ia G 32 d) ∧ (∃ kk, M (md 1) = some (ia G 64 kk) ∧ ∀ j, j < 64 → kk j = k_round j) ∧ (∃ bb, M (md 2) = some (ia G 8 bb) ∧ ∀ j, j < 8 → bb j = k_begin j) ∧ (∃ i, M (md 12) = some (ia G 32 i)) ∧ (∃ g, M (md 13) = some (ia G 64 g)) ∧ ∃ t, M (md 14) = some (ia G 8 t)
theorem yS.out {G : mm_G} {M M' : mm_M} {md : Nat → Nat} {v6 v9 v11 v12 v13 v22 : Int32} {n : Nat} {f d : Nat → Int32} {L : List Nat} (h : yS G M md v6 v9 v11 v12 v13 v22 n f d) (ff : mm_fr L M M') (n0 : md 0 ∉ L) (n1 : md 1 ∉ L) (n2 : md 2 ∉ L) (n10 : md 10 ∉ L) (n11 : md 11 ∉ L) (n12 : md 12 ∉ L) (n13 : md 13 ∉ L) (n14 : md 14 ∉ L) : yS G M' md v6 v9 v11 v12 v13 v22 n f d := by
  obtain ⟨h0, h10, h11, ⟨kk, h1, hK⟩, ⟨bb, h2, hB⟩, ⟨i12, h12⟩, ⟨g13, h13⟩, ⟨t14, h14⟩⟩ := h
  exact ⟨ff.at h0 n0, ff.at h10 n10, ff.at h11 n11, ⟨kk, ff.at h1 n1, hK⟩, ⟨bb, ff.at h2 n2, hB⟩, ⟨i12, ff.at h12 n12⟩, ⟨g13, ff.at h13 n13⟩, ⟨t14, ff.at h14 n14⟩⟩
theorem yS.ob {G : mm_G} {M M' : mm_M} {md : Nat → Nat} {v6 v9 v11 v12 v13 v22 u6 u9 u11 u12 u13 u22 : Int32} {n k : Nat} {f d : Nat → Int32} (h : yS G M md v6 v9 v11 v12 v13 v22 n f d) (hJ : yI md) (ff : mm_fr [md 0] M M') (e : M' (md 0) = some (ob 10 [.ref (md 1), .ref (md 2), .ref (md 3), .ref (md 4), .ref (md 5), .ref (md 6), .int u6, .ref (md 7), .ref (md 8), .int u9, .ref (md 9), .int u11, .int u12, .int u13, .ref (md 10), .int (nI k), .ref (md 11), .ref (md 12), .ref (md 13), .ref (md 14), .ref (md 15), .ref (md 16), .int u22])) : yS G M' md u6 u9 u11 u12 u13 u22 k f d := by
  obtain ⟨h0, h10, h11, ⟨kk, h1, hK⟩, ⟨bb, h2, hB⟩, ⟨i12, h12⟩, ⟨g13, h13⟩, ⟨t14, h14⟩⟩ := h
  have nn : ∀ r, r < 17 → r ≠ 0 → md r ∉ [md 0] := fun r hr h0 => mm_nc (yne hJ hr (by decide) h0) mm_n0
  exact ⟨e, ff.at h10 (nn 10 (by decide) (by decide)), ff.at h11 (nn 11 (by decide) (by decide)), ⟨kk, ff.at h1 (nn 1 (by decide) (by decide)), hK⟩, ⟨bb, ff.at h2 (nn 2 (by decide) (by decide)), hB⟩, ⟨i12, ff.at h12 (nn 12 (by decide) (by decide))⟩, ⟨g13, ff.at h13 (nn 13 (by decide) (by decide))⟩, ⟨t14, ff.at h14 (nn 14 (by decide) (by decide))⟩⟩
theorem yS.in12 {G : mm_G} {M M' : mm_M} {md : Nat → Nat} {v6 v9 v11 v12 v13 v22 : Int32} {n : Nat} {f d g : Nat → Int32} (h : yS G M md v6 v9 v11 v12 v13 v22 n f d) (hJ : yI md) (ff : mm_fr [md 12] M M') (e : M' (md 12) = some (ia G 32 g)) : yS G M' md v6 v9 v11 v12 v13 v22 n f d := by
  obtain ⟨h0, h10, h11, ⟨kk, h1, hK⟩, ⟨bb, h2, hB⟩, ⟨i12, h12⟩, ⟨g13, h13⟩, ⟨t14, h14⟩⟩ := h
  have nn : ∀ r, r < 17 → r ≠ 12 → md r ∉ [md 12] := fun r hr h0 => mm_nc (yne hJ hr (by decide) h0) mm_n0
  exact ⟨ff.at h0 (nn 0 (by decide) (by decide)), ff.at h10 (nn 10 (by decide) (by decide)), ff.at h11 (nn 11 (by decide) (by decide)), ⟨kk, ff.at h1 (nn 1 (by decide) (by decide)), hK⟩, ⟨bb, ff.at h2 (nn 2 (by decide) (by decide)), hB⟩, ⟨_, e⟩, ⟨g13, ff.at h13 (nn 13 (by decide) (by decide))⟩, ⟨t14, ff.at h14 (nn 14 (by decide) (by decide))⟩⟩
/-- bytes -/
def byt (x : Int32) : Prop := x &&& nI 255 = x
theorem byt_and (x : Int32) : byt (x &&& nI 255) := by unfold byt; rw [Int32.and_assoc, Int32.and_self]
theorem byt_nI : ∀ k, k < 256 → byt (nI k) := by unfold byt; decide +kernel
theorem byt_dgb (n : Nat) (m : Nat → Int32) (i : Nat) : byt (dgb n m i) := byt_and _
theorem byt_macb (n : Nat) (m : Nat → Int32) (i : Nat) : byt (macb n m i) := byt_and _
theorem cellE {G : mm_G} {M : mm_M} {a n : Nat} {f g : Nat → Int32} (h : M a = some (ia G n f)) (e : f = g) : M a = some (ia G n g) := e ▸ h
theorem cpy_0 {s d : Nat → Int32} {a b : Nat} : va_cpy s d a b 0 = d := by
  funext k
  unfold va_cpy
  rw [if_neg (by omega)]
theorem cpy_s {s d : Nat → Int32} {a b i : Nat} {x : Int32} (hx : x = s (a + i)) : upd (va_cpy s d a b i) (b + i) x = va_cpy s d a b (i + 1) := by
  funext k
  unfold upd va_cpy
  by_cases h : k = b + i
  · rw [if_pos h, if_pos (by omega), hx]
    congr 1
    omega
  · rw [if_neg h]
    by_cases h2 : b ≤ k ∧ k < b + i
    · rw [if_pos h2, if_pos (by omega)]
    · rw [if_neg h2, if_neg (by omega)]
theorem cpy_s0 {s d : Nat → Int32} {i : Nat} {x : Int32} (hx : x = s i) : upd (va_cpy s d 0 0 i) i x = va_cpy s d 0 0 (i + 1) := by
  have h := cpy_s (s := s) (d := d) (a := 0) (b := 0) (i := i) (x := x) (by rw [Nat.zero_add]; exact hx)
  rw [Nat.zero_add] at h
  exact h
theorem cpy_in {s d : Nat → Int32} {a b n k : Nat} (h1 : b ≤ k) (h2 : k < b + n) : va_cpy s d a b n k = s (a + (k - b)) := if_pos ⟨h1, h2⟩
theorem cpy_out {s d : Nat → Int32} {a b n k : Nat} (h : k < b ∨ b + n ≤ k) : va_cpy s d a b n k = d k := if_neg (by omega)
/-- a message grows by a byte -/
theorem mt_s {fm P : Nat → Int32} {k : Nat} {b : Int32} (h : ∀ j, j < k → fm j = P j) (hb : b = P k) : ∀ j, j < k + 1 → upd fm k b j = P j := by
  intro j hj
  unfold upd
  by_cases e : j = k
  · rw [if_pos e, e, hb]
  · rw [if_neg e, h j (by omega)]
theorem i32_arc (a b c : Int32) : a + b + c = a + c + b := by rw [Int32.add_assoc, Int32.add_comm b c, ← Int32.add_assoc]
/-- sixteen words of a block -/
def wfill (f : Nat → Int32) (o : Nat) (g : Nat → Int32) (n : Nat) : Nat → Int32 := fun k => if k < n then blkw f o k else g k
theorem wf_0 {f g : Nat → Int32} {o : Nat} : wfill f o g 0 = g := by
  funext k
  unfold wfill
  rw [if_neg (by omega)]
theorem wf_s {f g : Nat → Int32} {o i : Nat} : upd (wfill f o g i) i (be4 (f (o + 4 * i)) (f (o + 4 * i + 1)) (f (o + 4 * i + 2)) (f (o + 4 * i + 3))) = wfill f o g (i + 1) := by
  funext k
  unfold upd wfill
  by_cases h : k = i
  · rw [if_pos h, if_pos (by omega), h]
    rfl
  · rw [if_neg h]
    by_cases h2 : k < i
    · rw [if_pos h2, if_pos (by omega)]
    · rw [if_neg h2, if_neg (by omega)]
theorem wf_16 {f g : Nat → Int32} {o : Nat} : ∀ j, j < 16 → wfill f o g 16 j = blkw f o j := fun j hj => if_pos hj
theorem sp_s {w : Nat → Int32} {i : Nat} : upd (sp_go w i) (16 + i) (((sp_go w i i + sp_go w i (i + 9)) + sg0 (sp_go w i (i + 1))) + sg1 (sp_go w i (i + 14))) = sp_go w (i + 1) := by
  show _ = upd (sp_go w i) (16 + i) (((sp_go w i i + sg0 (sp_go w i (i + 1))) + sp_go w i (i + 9)) + sg1 (sp_go w i (i + 14)))
  rw [i32_arc (sp_go w i i)]
theorem sha_b_ag {m m' : Nat → Int32} : ∀ n, (∀ j, j < 64 * n → m j = m' j) → ∀ j, j < 8 → sha_b m n j = sha_b m' n j
  | 0, _, _, _ => rfl
  | n + 1, h, j, hj => by
    refine mx_ag (sha_b_ag n (fun j hj => h j (by omega))) (sp_ag (fun k hk => ?_)) j hj
    unfold blkw
    rw [h _ (by omega), h _ (by omega), h _ (by omega), h _ (by omega)]
theorem padm_e {n : Nat} {m : Nat → Int32} : padm n m n = nI 128 := by unfold padm; rw [if_neg (by omega), if_pos rfl]
theorem padm_z {n j : Nat} {m : Nat → Int32} (h1 : n < j) (h2 : j + 8 < 64 * ((n + 72) / 64)) : padm n m j = nI 0 := by unfold padm; rw [if_neg (by omega), if_neg (by omega), if_pos h2]
theorem padm_h {n j i : Nat} {m : Nat → Int32} (h1 : n < j) (h2 : j + 8 = 64 * ((n + 72) / 64) + i) : padm n m j = lb (8 * (nI n).toInt64) i := by
  unfold padm
  rw [if_neg (by omega), if_neg (by omega), if_neg (by omega)]
  congr 1
  omega
theorem lb_lo : ∀ n, n < 129 → ∀ j, j < 4 → nI 0 &&& nI 255 = lb (8 * (nI n).toInt64) j := by decide +kernel
theorem lb_4 : ∀ n, n < 129 → nI (8 * n / 2 ^ 24) &&& nI 255 = lb (8 * (nI n).toInt64) 4 := by decide +kernel
theorem lb_5 : ∀ n, n < 129 → nI (8 * n / 2 ^ 16) &&& nI 255 = lb (8 * (nI n).toInt64) 5 := by decide +kernel
theorem lb_6 : ∀ n, n < 129 → nI (8 * n / 2 ^ 8) &&& nI 255 = lb (8 * (nI n).toInt64) 6 := by decide +kernel
theorem lb_7 : ∀ n, n < 129 → nI (8 * n) &&& nI 255 = lb (8 * (nI n).toInt64) 7 := by decide +kernel
