/-! ===== ForkWatch$Sha256 ===== -/
def ru (x : Int32) (n : Nat) : Int32 := (x.toUInt32 >>> ((nI n).toUInt32 &&& Int32.toUInt32 31)).toInt32
def rr (x : Int32) (n : Nat) : Int32 := ru x n ||| (x <<< (nI (32 - n) &&& 31))
def sg0 (x : Int32) : Int32 := (rr x 7 ^^^ rr x 18) ^^^ ru x 3
def sg1 (x : Int32) : Int32 := (rr x 17 ^^^ rr x 19) ^^^ ru x 10
/-- the words of a block, spread out: n of the 48 that come behind the sixteen -/
def sp_go (w : Nat → Int32) : Nat → Nat → Int32
  | 0 => w
  | n + 1 => upd (sp_go w n) (16 + n) (((sp_go w n n + sg0 (sp_go w n (n + 1))) + sp_go w n (n + 9)) + sg1 (sp_go w n (n + 14)))
def sp (w : Nat → Int32) : Nat → Int32 := sp_go w 48
def mx_t (e f g h k w : Int32) : Int32 := (((h + ((rr e 6 ^^^ rr e 11) ^^^ rr e 25)) + ((e &&& f) ^^^ ((e ^^^ (-1)) &&& g))) + k) + w
def mx_b (a b c : Int32) : Int32 := (rr a 2 ^^^ rr a 13) ^^^ rr a 22
def mx_m (a b c : Int32) : Int32 := ((a &&& b) ^^^ (a &&& c)) ^^^ (b &&& c)
/-- the eight registers behind i of the 64 turns -/
def mx_go (f w : Nat → Int32) : Nat → Nat → Int32
  | 0 => f
  | i + 1 => fun j => match j with
    | 0 => (mx_t (mx_go f w i 4) (mx_go f w i 5) (mx_go f w i 6) (mx_go f w i 7) (k_round i) (w i) + mx_b (mx_go f w i 0) (mx_go f w i 1) (mx_go f w i 2)) + mx_m (mx_go f w i 0) (mx_go f w i 1) (mx_go f w i 2)
    | 1 => mx_go f w i 0
    | 2 => mx_go f w i 1
    | 3 => mx_go f w i 2
    | 4 => mx_go f w i 3 + mx_t (mx_go f w i 4) (mx_go f w i 5) (mx_go f w i 6) (mx_go f w i 7) (k_round i) (w i)
    | 5 => mx_go f w i 4
    | 6 => mx_go f w i 5
    | _ => mx_go f w i 6
def ad_go (f r : Nat → Int32) : Nat → Nat → Int32
  | 0 => f
  | n + 1 => upd (ad_go f r n) n (ad_go f r n n + r n)
def mx (f w : Nat → Int32) : Nat → Int32 := ad_go f (mx_go f w 64) 8
/-- state, words, how many bytes of the block are filled -/
abbrev ShS : Type := (Nat → Int32) × (Nat → Int32) × Nat
def sh_w (g : Nat → Int32) (n : Nat) (b : Int32) : Nat → Int32 := upd g (n / 4) ((g (n / 4) <<< (nI 8 &&& 31)) ||| b)
def sh_take (q : ShS) (b : Int32) : ShS := if q.2.2 + 1 = 64 then (mx q.1 (sp (sh_w q.2.1 q.2.2 b)), sp (sh_w q.2.1 q.2.2 b), 0) else (q.1, sh_w q.2.1 q.2.2 b, q.2.2 + 1)
def sh_takes (q : ShS) (r : Nat → Int32) : Nat → ShS
  | 0 => q
  | n + 1 => sh_take (sh_takes q r n) (r n)
def shA (G : mm_G) (M : mm_M) (h st w : Nat) (q : ShS) (t : Nat) : Prop := M h = some (ob 5 [.ref st, .ref w, .int (nI q.2.2), .int (nI t)]) ∧ M st = some (ia G 8 q.1) ∧ M w = some (ia G 64 q.2.1) ∧ q.2.2 < 64
/-- whatever it holds -/
def shJ (G : mm_G) (M : mm_M) (h st w : Nat) : Prop := ∃ (f g : Nat → Int32) (a b : Int32), M h = some (ob 5 [.ref st, .ref w, .int a, .int b]) ∧ M st = some (ia G 8 f) ∧ M w = some (ia G 64 g)
theorem shA.J {G : mm_G} {M : mm_M} {h st w : Nat} {q : ShS} {t : Nat} (H : shA G M h st w q t) : shJ G M h st w := ⟨_, _, _, _, H.1, H.2.1, H.2.2.1⟩
theorem sh_take_lt {q : ShS} {b : Int32} (h : q.2.2 < 64) : (sh_take q b).2.2 < 64 := by
  unfold sh_take
  split
  · exact Nat.succ_pos _
  · show q.2.2 + 1 < 64
    omega

set_option maxHeartbeats 4000000 in
set_option maxRecDepth 100000 in
/-- spread(): 48 words behind the sixteen -/
theorem c_X4_spread (l : Launch) (G : mm_G) (M : mm_M) (sz : Nat) (h st w : Nat) (a b : Int32) (f g : Nat → Int32) (h1 : M h = some (ob 5 [.ref st, .ref w, .int a, .int b])) (h2 : M st = some (ia G 8 f)) (h3 : M w = some (ia G 64 g))  : mm_v l yX4_spread wsX4_spread ({ frames := 0, cells := 0, slots := 0, locals := 0 } : Room) G ([.ref h] : List Value) M sz (fun M' => M' w = some (ia G 64 (sp g)) ∧ mm_fr [w] M M') := by
  refine mm_enter (cc := cX4_spread) (maxL := 6) (ret := none) _ (by decide) rfl (Nat.le_of_ble_eq_true rfl) ?_
  intro p e s m below meth c ls S hr hlocks hname hA hC hR hl
  have hx := S.1
  have hb := S.2.1
  have hl : lv_has ls 6 [(0, .ref h)] := hl
  have inRX4 : ∀ w ∈ wsX40, w ∈ wsX4_spread := by decide +kernel
  have hF : mm_fr [w] M M := mm_fr.rf
  refine lv_bipush (v := nI 16) hx hb dX4_spread_0 (by decide) ?_
  refine lv_istore_n (lv' := [(1, .int (nI 16)), (0, .ref h)]) hx hb dX4_spread_2 rfl hl (by decide) rfl (fun ls hl => ?_)
  have loop : ∀ (k n : Nat) (M1 : mm_M) (H : Heap) (locs : List Loc) (ls : Array Slot), 48 < n + k → n ≤ 48 → M1 h = some (ob 5 [.ref st, .ref w, .int a, .int b]) → M1 st = some (ia G 8 f) → M1 w = some (ia G 64 (sp_go g n)) → mm_fr [w] M M1 → mm_R G s (mm_A M sz) M1 H locs → lv_has ls 6 [(0, .ref h), (1, .int (nI (16 + n)))] → W p l e ({ frames := 0, cells := 0, slots := 0, locals := 0 } : Room) s m ([.ref h] : List Value).toArray below meth c H locs 0 0 (MQ below (va_Qv (fun M' => M' w = some (ia G 64 (sp g)) ∧ mm_fr [w] M M') (fun M' t => mm_H G (mm_A M sz) M' t.heap) (mm_A M sz)) ([.ref h] : List Value).toArray s 0 0 (mm_A M sz)) (F0 m 3 ls []) := by
    intro k
    induction k with
    | zero =>
      intro n M1 H locs ls hn hi h1 h2 h3 hF hR hl
      omega
    | succ k ih =>
      intro n M1 H locs ls hn hi h1 h2 h3 hF hR hl
      obtain ⟨gg, egg⟩ : ∃ z : Nat → Int32, z = sp_go g n := ⟨_, rfl⟩
      rw [← egg] at h3
      refine lv_iload_n hx hb dX4_spread_3 rfl (lv_at hl 1 rfl) ?_
      refine lv_bipush (v := nI 64) hx hb dX4_spread_4 (by decide) ?_
      refine lv_icmp_ge (tgt := 116) hx hb dX4_spread_6 (by decide) (fun c1 => ?_) (fun c1 => ?_)
      · have c1 : 64 ≤ 16 + n := (nI_leI (by omega) (by omega)).mp c1
        have e4 : n = 48 := by omega
        subst e4
        exact mm_vret S hr hlocks hR ⟨by rw [egg] at h3; exact h3, hF⟩ dX4_spread_116
      · have c1 : ¬ (64 ≤ 16 + n) := fun z => c1 ((nI_leI (by omega) (by omega)).mpr z)
        refine lv_aload_n hx hb dX4_spread_9 rfl (lv_at hl 0 rfl) ?_
        refine mm_get S hC hR (C := RX4) (T := TX4) (N := 4) (ref := "ForkWatch$Sha256") (v := .ref w) 1 h1 inRX4 rfl (by decide) (by decide +kernel) (fun _ h9 => h9) rfl dX4_spread_10 ?_
        refine lv_iload_n hx hb dX4_spread_13 rfl (lv_at hl 1 rfl) ?_
        refine lv_bipush (v := nI 15) hx hb dX4_spread_14 (by decide) ?_
        refine lv_isub hx hb dX4_spread_16 ?_
        refine mm_eqi (pk_sub (by omega)) ?_
        refine mm_eqi (congrArg nI (show (16 + n) - 15 = n + 1 by omega)) ?_
        refine mm_iald S hC hR h3 (j := (n + 1)) (by omega) (by omega) dX4_spread_17 ?_
        refine lv_topi (fun x2 ex2 => ?_)
        refine lv_istore_n (lv' := [(2, .int x2), (0, .ref h), (1, .int (nI (16 + n)))]) hx hb dX4_spread_18 rfl hl (by decide) rfl (fun ls hl => ?_)
        refine lv_aload_n hx hb dX4_spread_19 rfl (lv_at hl 1 rfl) ?_
        refine mm_get S hC hR (C := RX4) (T := TX4) (N := 4) (ref := "ForkWatch$Sha256") (v := .ref w) 1 h1 inRX4 rfl (by decide) (by decide +kernel) (fun _ h9 => h9) rfl dX4_spread_20 ?_
        refine lv_iload_n hx hb dX4_spread_23 rfl (lv_at hl 2 rfl) ?_
        refine lv_iconst (v := nI 2) hx hb dX4_spread_24 (by decide) ?_
        refine lv_isub hx hb dX4_spread_25 ?_
        refine mm_eqi (pk_sub (by omega)) ?_
        refine mm_eqi (congrArg nI (show (16 + n) - 2 = n + 14 by omega)) ?_
        refine mm_iald S hC hR h3 (j := (n + 14)) (by omega) (by omega) dX4_spread_26 ?_
        refine lv_topi (fun x3 ex3 => ?_)
        refine lv_istore_n (lv' := [(3, .int x3), (2, .int x2), (0, .ref h), (1, .int (nI (16 + n)))]) hx hb dX4_spread_27 rfl hl (by decide) rfl (fun ls hl => ?_)
        refine lv_iload_n hx hb dX4_spread_28 rfl (lv_at hl 1 rfl) ?_
        refine lv_bipush (v := nI 7) hx hb dX4_spread_29 (by decide) ?_
        refine lv_iushr hx hb dX4_spread_31 rfl ?_
        refine lv_iload_n hx hb dX4_spread_32 rfl (lv_at hl 1 rfl) ?_
        refine lv_bipush (v := nI 25) hx hb dX4_spread_33 (by decide) ?_
        refine lv_ishl hx hb dX4_spread_35 ?_
        refine lv_ior hx hb dX4_spread_36 ?_
        refine lv_iload_n hx hb dX4_spread_37 rfl (lv_at hl 1 rfl) ?_
        refine lv_bipush (v := nI 18) hx hb dX4_spread_38 (by decide) ?_
        refine lv_iushr hx hb dX4_spread_40 rfl ?_
        refine lv_iload_n hx hb dX4_spread_41 rfl (lv_at hl 1 rfl) ?_
        refine lv_bipush (v := nI 14) hx hb dX4_spread_42 (by decide) ?_
        refine lv_ishl hx hb dX4_spread_44 ?_
        refine lv_ior hx hb dX4_spread_45 ?_
        refine lv_ixor hx hb dX4_spread_46 ?_
        refine lv_iload_n hx hb dX4_spread_47 rfl (lv_at hl 1 rfl) ?_
        refine lv_iconst (v := nI 3) hx hb dX4_spread_48 (by decide) ?_
        refine lv_iushr hx hb dX4_spread_49 rfl ?_
        refine lv_ixor hx hb dX4_spread_50 ?_
        refine lv_topi (fun x4 ex4 => ?_)
        refine lv_istore (lv' := [(4, .int x4), (3, .int x3), (2, .int x2), (0, .ref h), (1, .int (nI (16 + n)))]) hx hb dX4_spread_51 hl (by decide) rfl (fun ls hl => ?_)
        refine lv_iload_n hx hb dX4_spread_53 rfl (lv_at hl 1 rfl) ?_
        refine lv_bipush (v := nI 17) hx hb dX4_spread_54 (by decide) ?_
        refine lv_iushr hx hb dX4_spread_56 rfl ?_
        refine lv_iload_n hx hb dX4_spread_57 rfl (lv_at hl 1 rfl) ?_
        refine lv_bipush (v := nI 15) hx hb dX4_spread_58 (by decide) ?_
        refine lv_ishl hx hb dX4_spread_60 ?_
        refine lv_ior hx hb dX4_spread_61 ?_
        refine lv_iload_n hx hb dX4_spread_62 rfl (lv_at hl 1 rfl) ?_
        refine lv_bipush (v := nI 19) hx hb dX4_spread_63 (by decide) ?_
        refine lv_iushr hx hb dX4_spread_65 rfl ?_
        refine lv_iload_n hx hb dX4_spread_66 rfl (lv_at hl 1 rfl) ?_
        refine lv_bipush (v := nI 13) hx hb dX4_spread_67 (by decide) ?_
        refine lv_ishl hx hb dX4_spread_69 ?_
        refine lv_ior hx hb dX4_spread_70 ?_
        refine lv_ixor hx hb dX4_spread_71 ?_
        refine lv_iload_n hx hb dX4_spread_72 rfl (lv_at hl 1 rfl) ?_
        refine lv_bipush (v := nI 10) hx hb dX4_spread_73 (by decide) ?_
        refine lv_iushr hx hb dX4_spread_75 rfl ?_
        refine lv_ixor hx hb dX4_spread_76 ?_
        refine lv_topi (fun x5 ex5 => ?_)
        refine lv_istore (lv' := [(5, .int x5), (4, .int x4), (3, .int x3), (2, .int x2), (0, .ref h), (1, .int (nI (16 + n)))]) hx hb dX4_spread_77 hl (by decide) rfl (fun ls hl => ?_)
        refine lv_aload_n hx hb dX4_spread_79 rfl (lv_at hl 4 rfl) ?_
        refine mm_get S hC hR (C := RX4) (T := TX4) (N := 4) (ref := "ForkWatch$Sha256") (v := .ref w) 1 h1 inRX4 rfl (by decide) (by decide +kernel) (fun _ h9 => h9) rfl dX4_spread_80 ?_
        refine lv_iload_n hx hb dX4_spread_83 rfl (lv_at hl 5 rfl) ?_
        refine lv_aload_n hx hb dX4_spread_84 rfl (lv_at hl 4 rfl) ?_
        refine mm_get S hC hR (C := RX4) (T := TX4) (N := 4) (ref := "ForkWatch$Sha256") (v := .ref w) 1 h1 inRX4 rfl (by decide) (by decide +kernel) (fun _ h9 => h9) rfl dX4_spread_85 ?_
        refine lv_iload_n hx hb dX4_spread_88 rfl (lv_at hl 5 rfl) ?_
        refine lv_bipush (v := nI 16) hx hb dX4_spread_89 (by decide) ?_
        refine lv_isub hx hb dX4_spread_91 ?_
        refine mm_eqi (pk_sub (by omega)) ?_
        refine mm_eqi (congrArg nI (show (16 + n) - 16 = n by omega)) ?_
        refine mm_iald S hC hR h3 (j := n) (by omega) (by omega) dX4_spread_92 ?_
        refine lv_iload hx hb dX4_spread_93 (lv_at hl 1 rfl) ?_
        refine lv_iadd hx hb dX4_spread_95 ?_
        refine lv_aload_n hx hb dX4_spread_96 rfl (lv_at hl 4 rfl) ?_
        refine mm_get S hC hR (C := RX4) (T := TX4) (N := 4) (ref := "ForkWatch$Sha256") (v := .ref w) 1 h1 inRX4 rfl (by decide) (by decide +kernel) (fun _ h9 => h9) rfl dX4_spread_97 ?_
        refine lv_iload_n hx hb dX4_spread_100 rfl (lv_at hl 5 rfl) ?_
        refine lv_bipush (v := nI 7) hx hb dX4_spread_101 (by decide) ?_
        refine lv_isub hx hb dX4_spread_103 ?_
        refine mm_eqi (pk_sub (by omega)) ?_
        refine mm_eqi (congrArg nI (show (16 + n) - 7 = n + 9 by omega)) ?_
        refine mm_iald S hC hR h3 (j := (n + 9)) (by omega) (by omega) dX4_spread_104 ?_
        refine lv_iadd hx hb dX4_spread_105 ?_
        refine lv_iload hx hb dX4_spread_106 (lv_at hl 0 rfl) ?_
        refine lv_iadd hx hb dX4_spread_108 ?_
        refine lv_topi (fun x6 ex6 => ?_)
        refine mm_iast S hC hR h3 (j := (16 + n)) (by omega) (by omega) dX4_spread_109 (fun H locs M7 g9 f8 hR => ?_)
        have h1 := f8.at h1 (mm_nc (mm_neoi h1 h3) mm_n0)
        have h2 := f8.at h2 (mm_nc (mm_nelen h2 h3 (by decide)) mm_n0)
        have h3 : M7 w = some (ia G 64 (upd gg (16 + n) x6)) := g9
        have hF := hF.tr f8 (mm_ic 0 rfl mm_i0)
        refine lv_iinc (v := (nI (16 + n + 1))) (lv' := [(1, .int (nI (16 + n + 1))), (5, .int x5), (4, .int x4), (3, .int x3), (2, .int x2), (0, .ref h)]) hx hb dX4_spread_110 hl (k := 5) rfl (by rw [show Int32.ofInt 1 = nI 1 from by decide]; exact nI_add _ _) (by decide) rfl (fun ls hl => ?_)
        refine lv_goto (tgt := 3) hx hb dX4_spread_113 (by decide) ?_
        have e9 : upd gg (16 + n) x6 = sp_go g (n + 1) := by rw [ex6, ex5, ex4, ex3, ex2, egg]; rfl
        exact ih (n + 1) _ H locs ls (by omega) (by omega) h1 h2 (by rw [e9] at h3; exact h3) hF hR (lv_sub hl [5, 0] (by rw [Nat.add_assoc 16 n 1]; rfl))
  exact loop 49 0 _ _ _ ls (by omega) (by omega) h1 h2 h3 hF hR (lv_sub hl [1, 0] rfl)
