theorem gr_go_ag {st st' : Nat → Nat → Int32} (h : ∀ q, q < 4 → ∀ i, i < 84 → st q i = st' q i) : ∀ i, i < 4 → gr_go st i = gr_go st' i
  | 0, _ => rfl
  | i + 1, hi => by
    have ih := gr_go_ag h i (by omega)
    have hle := gr_le st i
    have hiff : na (st (i + 1)) (st (gr_go st i)) ↔ na (st' (i + 1)) (st' (gr_go st' i)) := by
      rw [← ih]
      exact na_ag (fun k hk => h _ hi k (by omega)) (fun k hk => h _ (by omega) k (by omega))
    by_cases hc : na (st (i + 1)) (st (gr_go st i))
    · rw [gr_y hc, gr_y (hiff.mp hc), ih]
    · rw [gr_n hc, gr_n (fun z => hc (hiff.mpr z))]
theorem gr_ag {st st' : Nat → Nat → Int32} (h : ∀ q, q < 4 → ∀ i, i < 84 → st q i = st' q i) : gr st = gr st' := gr_go_ag h 3 (by decide)
theorem inl_ag {st st' : Nat → Nat → Int32} (h : ∀ q, q < 4 → ∀ i, i < 84 → st q i = st' q i) : inl st ↔ inl st' := by
  unfold inl
  have e : ∀ a b, a < 4 → b < 4 → (na (st a) (st b) ↔ na (st' a) (st' b)) := fun a b ha hb => na_ag (fun k hk => h a ha k (by omega)) (fun k hk => h b hb k (by omega))
  exact ⟨fun z a b ab hb => by rw [← e a b (by omega) hb, ← e b a hb (by omega)]; exact z a b ab hb, fun z a b ab hb => by rw [e a b (by omega) hb, e b a hb (by omega)]; exact z a b ab hb⟩
theorem fckR_ag {st st' : Nat → Nat → Int32} {rc rc' tn tn' : Nat → Int32} {c k : Nat} (h : ∀ q, q < 4 → ∀ i, i < 84 → st q i = st' q i) (hr : ∀ i, i < 84 → rc i = rc' i) (ht : ∀ j, j < 32 → tn (32 + j) = tn' (32 + j)) (hc : c < 4) (z : fckR st rc tn c k) : fckR st' rc' tn' c k := by
  have e1 : (∀ c, c < 4 → sgd (st c) c) ↔ ∀ c, c < 4 → sgd (st' c) c := ⟨fun z c hc => (sgd_ag (h c hc)).mp (z c hc), fun z c hc => (sgd_ag (h c hc)).mpr (z c hc)⟩
  have e2 : (∀ i, i < 84 → st c i = rc i) ↔ ∀ i, i < 84 → st' c i = rc' i := ⟨fun z i hi => by rw [← h c hc i hi, ← hr i hi]; exact z i hi, fun z i hi => by rw [h c hc i hi, hr i hi]; exact z i hi⟩
  have e3 := inl_ag h
  have hg := gr_ag h
  have e4 : (∀ j, j < 32 → tn (32 + j) = st (gr st) (20 + j)) ↔ ∀ j, j < 32 → tn' (32 + j) = st' (gr st') (20 + j) := by
    rw [← hg]
    exact ⟨fun z j hj => by rw [← ht j hj, ← h _ (gr_lt st) _ (by omega)]; exact z j hj, fun z j hj => by rw [ht j hj, h _ (gr_lt st) _ (by omega)]; exact z j hj⟩
  unfold fckR at z ⊢
  rw [← e1, ← e2, ← e3, ← e4]
  exact z
theorem fck_in {st : Nat → Nat → Int32} {rc tn : Nat → Int32} {c : Nat} (z : fckR st rc tn c 0) : (∀ c, c < 4 → sgd (st c) c) ∧ (∀ i, i < 84 → st c i = rc i) ∧ inl st ∧ ∀ j, j < 32 → tn (32 + j) = st (gr st) (20 + j) := by
  unfold fckR at z
  rcases z with ⟨e, _⟩ | ⟨e, _⟩ | ⟨e, _⟩ | ⟨_, z⟩ | ⟨e, _⟩
  · omega
  · omega
  · omega
  · exact z
  · omega
theorem fck_u {st : Nat → Nat → Int32} {rc tn : Nat → Int32} {c k k' : Nat} (z : fckR st rc tn c k) (z' : fckR st rc tn c k') : k = k' := by
  unfold fckR at z z'
  rcases z with ⟨e, a⟩ | ⟨e, a, b⟩ | ⟨e, a, b, d⟩ | ⟨e, a, b, d, g⟩ | ⟨e, a, b, d, g⟩ <;> rcases z' with ⟨e', a'⟩ | ⟨e', a', b'⟩ | ⟨e', a', b', d'⟩ | ⟨e', a', b', d', g'⟩ | ⟨e', a', b', d', g'⟩ <;> first | (rw [e, e']; done) | exact absurd a a' | exact absurd a' a | exact absurd b b' | exact absurd b' b | exact absurd d d' | exact absurd d' d | exact absurd g g' | exact absurd g' g
theorem ms_ag {st st' : Nat → Nat → Int32} {rc rc' : Nat → Int32} {c : Nat} (h : ∀ q, q < 4 → ∀ i, i < 84 → st q i = st' q i) (hr : ∀ i, i < 84 → rc i = rc' i) : ∀ i, i < 20 → ms_go st rc c 4 i = ms_go st' rc' c 4 i := by
  intro i hi
  by_cases h4 : i < 4
  · rw [ms_out 4 (Nat.le_refl _) i (Or.inl h4), ms_out 4 (Nat.le_refl _) i (Or.inl h4), hr i (by omega)]
  · have ei : i = 4 + 4 * ((i - 4) / 4) + (i - 4) % 4 := by omega
    rw [ei, ms_in 4 (Nat.le_refl _) _ (by omega) _ (by omega), ms_in 4 (Nat.le_refl _) _ (by omega) _ (by omega), ← gr_ag h, ct_ag (fun k hk => h _ (gr_lt st) k (by omega)) (by omega)]
theorem nst_ag {st st' : Nat → Nat → Int32} {rc rc' tn tn' : Nat → Int32} {c : Nat} (h : ∀ q, q < 4 → ∀ i, i < 84 → st q i = st' q i) (hr : ∀ i, i < 84 → rc i = rc' i) (ht : ∀ j, j < 32 → tn (32 + j) = tn' (32 + j)) : ∀ i, i < 84 → nst st rc tn c i = nst st' rc' tn' c i := fun i hi => sgn_ag ht (ms_ag h hr) i hi
theorem rtn_ag {fc fc' : Nat → Int32} {ln ln' : Nat → Nat} (hl : ∀ x, x < 16 → ln x = ln' x ∧ ln x ≤ 12) (hf : ∀ x, x < 192 → fc x = fc' x) : ∀ j, j < 32 → rtn fc ln (32 + j) = rtn fc' ln' (32 + j) := by
  intro j _
  rw [rtn_at, rtn_at, root_ag (fun x hx => (hl x hx).1) (fun x hx j hj => hf _ (by have := (hl x hx).2; omega))]
