def cA (c : Nat → Nat → Int) (x y : Nat) (v : Int) (a b : Nat) : Int := c a b + (if x = a ∧ y = b then v else 0)
theorem LB.c {f : Nat → Int32} {c c' : Nat → Nat → Int} (h : LB f c) (e : ∀ a b, a < 14 → b < 14 → c a b = c' a b) : LB f c' := fun a b ha hb => (h a b ha hb).trans (e a b ha hb)
theorem LWX.c {h : HS} {c c' : Nat → Nat → Int} (L : LWX h c) (e : ∀ a b, a < 14 → b < 14 → c a b = c' a b) : LWX h c' := ⟨L.1.c e, fun a b ha hb => by rw [← e a b ha hb]; exact L.2 a b ha hb⟩
theorem LWX.add {h : HS} {c : Nat → Nat → Int} (L : LWX h c) (hc : ∀ a b, a < 14 → b < 14 → 0 ≤ c a b ∧ c a b ≤ 10000000) {x y : Nat} (hx : x < 14) (hy : y < 14) {v : Int32} (h0 : 0 < v) (h1 : v.toInt ≤ 10000000) : LWX (setI (setI h 34 (14 * x + y) (h.1 34 (14 * x + y) + v)) 35 x (h.1 35 x ||| (1 : Int32) <<< (nI y &&& 31))) (cA c x y v.toInt) := by
  have v0 := pos_I.mp h0
  refine ⟨?_, fun a b ha hb => ?_⟩
  · refine LB.put L.1 hx hy ?_ (fun a b ha hb q => ?_)
    · have e : (h.1 34 (14 * x + y)).toInt = c x y := L.1 x y hx hy
      have e2 := hc x y hx hy
      show _ = c x y + (if x = x ∧ y = y then v.toInt else 0)
      rw [if_pos ⟨rfl, rfl⟩, toI_add (by omega) (by omega), e]
    · show c a b + (if x = a ∧ y = b then v.toInt else 0) = c a b
      rw [if_neg (fun z => q ⟨z.1.symm, z.2.symm⟩)]
      omega
  · show (bt (upd (h.1 35) x (h.1 35 x ||| (1 : Int32) <<< (nI y &&& 31)) a) b = true ↔ 0 < c a b + (if x = a ∧ y = b then v.toInt else 0))
    have e2 := hc a b ha hb
    by_cases z : a = x
    · subst z
      rw [show upd (h.1 35) a (h.1 35 a ||| (1 : Int32) <<< (nI y &&& 31)) a = h.1 35 a ||| (1 : Int32) <<< (nI y &&& 31) from if_pos rfl, b_or, b_sh1 (by omega) (by omega), Bool.or_eq_true, decide_eq_true_iff, L.2 a b ha hb]
      by_cases q : y = b
      · rw [if_pos ⟨rfl, q⟩]
        exact ⟨fun _ => by omega, fun _ => Or.inr q.symm⟩
      · rw [if_neg (fun z => q z.2), Int.add_zero]
        exact ⟨fun z => z.resolve_right (fun y => q y.symm), Or.inl⟩
    · rw [show upd (h.1 35) x (h.1 35 x ||| (1 : Int32) <<< (nI y &&& 31)) a = h.1 35 a from if_neg z, if_neg (fun q => z q.1.symm), Int.add_zero]
      exact L.2 a b ha hb
def LQ (h0 : HS) (c : Nat → Nat → Int) : Option Value → HS → Prop := fun o h' => o = none ∧ XQ h0 h' ∧ LWX h' c
theorem cA_b {c : Nat → Nat → Int} {B B' v : Int} {x y : Nat} (hc : ∀ a b, a < 14 → b < 14 → 0 ≤ c a b ∧ c a b ≤ B) (h0 : 0 ≤ v) (h1 : B + v ≤ B') : ∀ a b, a < 14 → b < 14 → 0 ≤ cA c x y v a b ∧ cA c x y v a b ≤ B' := by
  intro a b ha hb
  have := hc a b ha hb
  unfold cA
  split <;> omega
set_option maxHeartbeats 4000000 in
set_option maxRecDepth 100000 in
theorem wdX (l : Launch) (g : Geo) (sta : Nat → Nat) (h : HS) (x y : Nat) (hx : x < 14) (hy : y < 14) (h0 : HS) (hq : XQ h0 h) (c : Nat → Nat → Int) (hL : LWX h c) (hc : ∀ a b, a < 14 → b < 14 → 0 ≤ c a b ∧ c a b ≤ 10000000) (v : Int32) (v0 : 0 ≤ v.toInt) (v1 : v.toInt ≤ 1000000) : CT (wX l g sta) 1 mX0_widen [.ref (g.2.1 5), .int (nI x), .int (nI y), .int v] h (LQ h0 (cA c x y v.toInt)) := by
  refine CT.at [some (.ref (g.2.1 5)), some (.int (nI x)), some (.int (nI y)), some (.int v)] 0 rfl (by decide) (Nat.le_of_ble_eq_true rfl) (fun k K => ?_)
  refine aw_il3 K dX0_widen_0 ?_
  refine aw_if_le (tgt := 31) K dX0_widen_1 (by decide) (fun b1 => ?_) (fun b1 => ?_)
  · refine aw_vret K rfl dX0_widen_31 ?_
    have z : v.toInt = 0 := by
      have := Int32.le_iff_toInt_le.mp b1
      have e : (0 : Int32).toInt = 0 := by decide
      omega
    refine ⟨rfl, hq, hL.c (fun a b _ _ => ?_)⟩
    unfold cA
    rw [z]
    split <;> omega
  · refine aw_al0 K dX0_widen_4 ?_
    refine aw_getR K gX0_11 dX0_widen_5 rfl rfl ?_
    refine aw_il1 K dX0_widen_8 ?_
    refine aw_bipush (v := 14) K dX0_widen_9 (by decide) ?_
    refine aw_imul K dX0_widen_11 ?_
    refine aw_il2 K dX0_widen_12 ?_
    refine aw_iadd K dX0_widen_13 ?_
    rw [xc]
    refine aw_dup2_11 K dX0_widen_14 rfl rfl ?_
    refine aw_iald K dX0_widen_15 rfl (vp_in_nI (show 14 * x + y < 196 by omega) (by decide)) ?_
    refine aw_il3 K dX0_widen_16 ?_
    refine aw_iadd K dX0_widen_17 ?_
    refine aw_iast K dX0_widen_18 rfl (vp_in_nI (show 14 * x + y < 196 by omega) (by decide)) ?_
    refine aw_al0 K dX0_widen_19 ?_
    refine aw_getR K gX0_15 dX0_widen_20 rfl rfl ?_
    refine aw_il1 K dX0_widen_23 ?_
    refine aw_dup2_11 K dX0_widen_24 rfl rfl ?_
    refine aw_iald K dX0_widen_25 rfl (vp_in_nI hx (by decide)) ?_
    refine aw_iconst (v := 1) K dX0_widen_26 (by decide) ?_
    refine aw_il2 K dX0_widen_27 ?_
    refine aw_ishl K dX0_widen_28 ?_
    refine aw_ior K dX0_widen_29 ?_
    refine aw_iast K dX0_widen_30 rfl (vp_in_nI hx (by decide)) ?_
    refine aw_vret K rfl dX0_widen_31 ?_
    rw [nI_clamp (show x < 2 ^ 31 by omega), nI_clamp (show 14 * x + y < 2 ^ 31 by omega)]
    exact ⟨rfl, (hq.pt rfl (by decide)).pt rfl (by decide), hL.add hc hx hy (Int32.not_le.mp b1) (by omega)⟩

set_option maxHeartbeats 4000000 in
set_option maxRecDepth 100000 in
theorem giX (l : Launch) (g : Geo) (sta : Nat → Nat) (h : HS) (x : Nat) (hx : x < 14) (h0 : HS) (hq : XQ h0 h) (c : Nat → Nat → Int) (hL : LWX h c) (hc : ∀ a b, a < 14 → b < 14 → 0 ≤ c a b ∧ c a b ≤ 10000000) (v : Int32) (v0 : 0 ≤ v.toInt) (v1 : v.toInt ≤ 1000000) : CT (wX l g sta) 2 mX0_give [.ref (g.2.1 5), .int (nI x), .int v] h (LQ h0 (cA c 13 x v.toInt)) := by
  refine CT.at [some (.ref (g.2.1 5)), some (.int (nI x)), some (.int v)] 0 rfl (by decide) (Nat.le_of_ble_eq_true rfl) (fun k K => ?_)
  refine aw_al0 K dX0_give_0 ?_
  refine aw_bipush (v := 13) K dX0_give_1 (by decide) ?_
  refine aw_il1 K dX0_give_3 ?_
  refine aw_il2 K dX0_give_4 ?_
  refine aw_callV K (wdX l g sta _ 13 x (by decide) hx h0 hq c hL hc v v0 v1) rfl (by decide) fX0_widen lX0_36 dX0_give_5 rfl clsX0 rfl (Nat.le_of_ble_eq_true rfl) (fun o h2 hq => ?_)
  obtain ⟨rfl, hq2, hL2⟩ := hq
  refine aw_vret K rfl dX0_give_8 ?_
  exact ⟨rfl, hq2, hL2⟩

set_option maxHeartbeats 4000000 in
set_option maxRecDepth 100000 in
theorem joX (l : Launch) (g : Geo) (sta : Nat → Nat) (h : HS) (x y : Nat) (hx : x < 14) (hy : y < 14) (h0 : HS) (hq : XQ h0 h) (c : Nat → Nat → Int) (hL : LWX h c) (hc : ∀ a b, a < 14 → b < 14 → 0 ≤ c a b ∧ c a b ≤ 8000000) (v : Int32) (v0 : 0 ≤ v.toInt) (v1 : v.toInt ≤ 1000000) : CT (wX l g sta) 2 mX0_join [.ref (g.2.1 5), .int (nI x), .int (nI y), .int v] h (LQ h0 (cA (cA c x y v.toInt) y x v.toInt)) := by
  refine CT.at [some (.ref (g.2.1 5)), some (.int (nI x)), some (.int (nI y)), some (.int v)] 0 rfl (by decide) (Nat.le_of_ble_eq_true rfl) (fun k K => ?_)
  refine aw_al0 K dX0_join_0 ?_
  refine aw_il1 K dX0_join_1 ?_
  refine aw_il2 K dX0_join_2 ?_
  refine aw_il3 K dX0_join_3 ?_
  refine aw_callV K (wdX l g sta _ x y hx hy h0 hq c hL (fun a b ha hb => by have := hc a b ha hb; omega) v v0 v1) rfl (by decide) fX0_widen lX0_36 dX0_join_4 rfl clsX0 rfl (Nat.le_of_ble_eq_true rfl) (fun o h2 hq => ?_)
  obtain ⟨rfl, hq2, hL2⟩ := hq
  refine aw_al0 K dX0_join_7 ?_
  refine aw_il2 K dX0_join_8 ?_
  refine aw_il1 K dX0_join_9 ?_
  refine aw_il3 K dX0_join_10 ?_
  refine aw_callV K (wdX l g sta _ y x hy hx h0 hq2 _ hL2 (cA_b hc v0 (by omega)) v v0 v1) rfl (by decide) fX0_widen lX0_36 dX0_join_11 rfl clsX0 rfl (Nat.le_of_ble_eq_true rfl) (fun o h2 hq => ?_)
  obtain ⟨rfl, hq3, hL3⟩ := hq
  refine aw_vret K rfl dX0_join_14 ?_
  exact ⟨rfl, hq3, hL3⟩

def cX (g : Nat → Int) (W : Nat → Nat → Int) (k : Nat → Int) (a b : Nat) : Int := if a = 13 then (if b < 12 then g b else 0) else if a < 12 ∧ b < 12 then W a b else if b = 12 then (if a < 12 then k a else 0) else if a = 12 then (if b < 12 then k b else 0) else 0
theorem cX_b {g : Nat → Int} {W : Nat → Nat → Int} {k : Nat → Int} {B : Int} (hB : 0 ≤ B) (h1 : ∀ a, 0 ≤ g a ∧ g a ≤ B) (h2 : ∀ a b, 0 ≤ W a b ∧ W a b ≤ B) (h3 : ∀ a, 0 ≤ k a ∧ k a ≤ B) (a b : Nat) : 0 ≤ cX g W k a b ∧ cX g W k a b ≤ B := by
  unfold cX
  split
  · split
    · exact h1 b
    · exact ⟨Int.le_refl _, hB⟩
  · split
    · exact h2 a b
    · split
      · split
        · exact h3 a
        · exact ⟨Int.le_refl _, hB⟩
      · split
        · split
          · exact h3 b
          · exact ⟨Int.le_refl _, hB⟩
        · exact ⟨Int.le_refl _, hB⟩
theorem SML.xb {v : Nat → Nat → Int32} {N T i j : Nat} (s : SML v N T) (hT : T ≤ 24) (hj : j ≤ N) (hi : i ≤ T) {k : Nat → Int} (hk : ∀ a, 0 ≤ k a ∧ k a ≤ 1000000) (a b : Nat) : 0 ≤ cX (gI v j) (wI v i) k a b ∧ cX (gI v j) (wI v i) k a b ≤ 1000000 := by
  refine cX_b (by decide) (fun a => ?_) (fun a b => ?_) hk a b
  · unfold gI
    split
    · rename_i q
      have := s.1 a (by omega)
      omega
    · decide
  · have := s.w a b i hi
    omega
theorem XQ.gv {h h' : HS} (q : XQ h h') (a : Nat) : gvV (vX h') a = gvV (vX h) a := by
  unfold gvV plV vX
  simp only [q.1 18 rfl, q.1 20 rfl, q.1 17 rfl, q.1 11 rfl]
theorem XQ.rm {h h' : HS} (q : XQ h h') (a : Nat) : rmV (vX h') a = rmV (vX h) a := by
  unfold rmV vX
  simp only [q.1 0 rfl, q.1 1 rfl, q.1 2 rfl, q.1 3 rfl, q.1 4 rfl, q.1 18 rfl, q.1 19 rfl, q.1 21 rfl, q.1 22 rfl, q.1 23 rfl, q.1 24 rfl, q.1 25 rfl, q.1 11 rfl]
theorem lay_g {v : Nat → Nat → Int32} {i : Nat} (hi : i < 12) (a b : Nat) : cA (cX (gI v i) (fun _ _ => 0) (fun _ => 0)) 13 i (gvV v i).toInt a b = cX (gI v (i + 1)) (fun _ _ => 0) (fun _ => 0) a b := by
  unfold cA cX
  by_cases q : a = 13
  · rw [if_pos q, if_pos q]
    by_cases z : i = b
    · subst z
      rw [if_pos (show 13 = a ∧ i = i from ⟨q.symm, rfl⟩), if_pos hi, if_pos hi]
      show gI v i i + _ = gI v (i + 1) i
      rw [show gI v i i = 0 from if_neg (Nat.lt_irrefl _), show gI v (i + 1) i = (gvV v i).toInt from if_pos (Nat.lt_succ_self _)]
      omega
    · rw [if_neg (show ¬ (13 = a ∧ i = b) from fun y => z y.2)]
      have e : gI v (i + 1) b = gI v i b := by
        unfold gI
        by_cases y : b < i
        · rw [if_pos y, if_pos (by omega)]
        · rw [if_neg y, if_neg (by omega)]
      rw [e]
      omega
  · rw [if_neg q, if_neg q, if_neg (show ¬ (13 = a ∧ i = b) from fun y => q y.1.symm)]
    omega
theorem lay_t {v : Nat → Nat → Int32} {g : Nat → Int} {i x y : Nat} (hx : x < 12) (hy : y < 12) (e6 : v 6 i = nI x) (e7 : v 7 i = nI y) (a b : Nat) (ha : a < 14) (hb : b < 14) : cA (cA (cX g (wI v i) (fun _ => 0)) x y (rmV v i).toInt) y x (rmV v i).toInt a b = cX g (wI v (i + 1)) (fun _ => 0) a b := by
  have w1 : wI v (i + 1) a b = wI v i a b + wT v a b i := rfl
  have n6 : ∀ c, c < 14 → (v 6 i = nI c ↔ x = c) := fun c hc => by
    rw [e6]
    exact nI_eq (by omega) (by omega)
  have n7 : ∀ c, c < 14 → (v 7 i = nI c ↔ y = c) := fun c hc => by
    rw [e7]
    exact nI_eq (by omega) (by omega)
  have w2 : wT v a b i = (if x = a ∧ y = b then (rmV v i).toInt else 0) + (if y = a ∧ x = b then (rmV v i).toInt else 0) := by
    unfold wT
    simp only [n6 a ha, n7 b hb, n7 a ha, n6 b hb]
  unfold cA cX
  by_cases q1 : a = 13
  · rw [if_pos q1, if_pos q1, if_neg (show ¬ (x = a ∧ y = b) by omega), if_neg (show ¬ (y = a ∧ x = b) by omega)]
    omega
  · rw [if_neg q1, if_neg q1]
    by_cases q3 : a < 12 ∧ b < 12
    · rw [if_pos q3, if_pos q3, w1, w2]
      omega
    · rw [if_neg q3, if_neg q3, if_neg (show ¬ (x = a ∧ y = b) by omega), if_neg (show ¬ (y = a ∧ x = b) by omega)]
      omega
set_option maxHeartbeats 4000000 in
set_option maxRecDepth 100000 in
theorem lr2X6_layFlow {l : Launch} {g : Geo} {sta : Nat → Nat} {k : KT} (K : AOK (wX l g sta) mX6_layFlow k) (h0 : HS) {N T Wn : Nat} (H0 : XW h0 N T Wn) (s : SML (vX h0) N T) :
    ∀ (n i : Nat) (h : HS), i ≤ T → T - i < n → XQ h0 h → LWX h (cX (gI (vX h0) N) (wI (vX h0) i) (fun _ => 0)) → AW (wX l g sta) (LQ h0 (cX (gI (vX h0) N) (wI (vX h0) T) (fun _ => 0))) 5 mX6_layFlow k 41 [some (.ref (g.2.1 0)), some (.int (nI i))] [] h := by
  intro n
  induction n with
  | zero => intro i h h1 h2; omega
  | succ n ih =>
    intro i h h1 h2 hx L
    have H := H0.q hx
    have hT := H.2.1.2
    have v1 := H0.2.2.2.1 i
    have v2 := H0.2.2.2.2.1 i
    obtain ⟨x, hx6, e6⟩ := vp_in_of v1 (by decide)
    obtain ⟨y, hy7, e7⟩ := vp_in_of v2 (by decide)
    have f6 : h.1 21 i = nI x := by rw [hx.1 21 rfl]; exact e6
    have f7 : h.1 22 i = nI y := by rw [hx.1 22 rfl]; exact e7
    refine aw_il1 K dX6_layFlow_41 ?_
    refine aw_al0 K dX6_layFlow_42 ?_
    refine aw_getR K gX6_19 dX6_layFlow_43 rfl rfl ?_
    refine aw_getI K gX6_109 dX6_layFlow_46 rfl rfl ?_
    rw [H.2.1.1]
    refine aw_icmp_ge (tgt := 88) K dX6_layFlow_49 (by decide) (fun b49 => ?_) (fun b49 => ?_)
    · have hge : T ≤ i := (nI_leI (a := T) (by omega) (by omega : i < 2 ^ 31)).mp b49
      obtain rfl : i = T := by omega
      refine aw_vret K rfl dX6_layFlow_88 ?_
      exact ⟨rfl, hx, L⟩
    · have hlt : i < T := by
        rcases Nat.lt_or_ge i T with q | q
        · exact q
        · exact absurd (nI_le (a := T) q (by omega)) b49
      have rb := s.2 i hlt
      refine aw_al0 K dX6_layFlow_52 ?_
      refine aw_getR K gX6_40 dX6_layFlow_53 rfl rfl ?_
      refine aw_al0 K dX6_layFlow_56 ?_
      refine aw_getR K gX6_19 dX6_layFlow_57 rfl rfl ?_
      refine aw_getR K gX6_122 dX6_layFlow_60 rfl rfl ?_
      refine aw_il1 K dX6_layFlow_63 ?_
      refine aw_iald K dX6_layFlow_64 rfl (vp_in_nI (by omega) (by decide)) ?_
      rw [nI_clamp (show i < 2 ^ 31 by omega), f6]
      refine aw_al0 K dX6_layFlow_65 ?_
      refine aw_getR K gX6_19 dX6_layFlow_66 rfl rfl ?_
      refine aw_getR K gX6_125 dX6_layFlow_69 rfl rfl ?_
      refine aw_il1 K dX6_layFlow_72 ?_
      refine aw_iald K dX6_layFlow_73 rfl (vp_in_nI (by omega) (by decide)) ?_
      rw [nI_clamp (show i < 2 ^ 31 by omega), f7]
      refine aw_al0 K dX6_layFlow_74 ?_
      refine aw_il1 K dX6_layFlow_75 ?_
      refine aw_callV_I K (tX6_roomOf l g sta _ _ (vp_in_nI (by omega) (by decide)) H) rfl (by decide) fX6_roomOf lX6_137 dX6_layFlow_76 rfl clsX6 rfl (Nat.le_of_ble_eq_true rfl) ?_
      rw [nI_clamp (show i < 2 ^ 31 by omega), hx.rm i]
      refine aw_callV K (joX l g sta _ x y (by omega) (by omega) h0 hx _ L (fun a b _ _ => by have := s.xb hT (Nat.le_refl _) h1 (k := fun _ => 0) (fun _ => by decide) a b; omega) _ rb.1 (by omega)) rfl (by decide) fX0_join lX6_338 dX6_layFlow_79 rfl clsX0 rfl (Nat.le_of_ble_eq_true rfl) (fun o h2 hq => ?_)
      obtain ⟨rfl, hq2, L2⟩ := hq
      refine aw_ii1 (v := _ + 1) K dX6_layFlow_82 rfl (by decide) rfl ?_
      refine aw_goto (tgt := 41) K dX6_layFlow_85 (by decide) ?_
      rw [nI_1]
      exact ih (i + 1) _ (by omega) (by omega) hq2 (L2.c (fun a b ha hb => lay_t (v := vX h0) hx6 hy7 e6 e7 a b ha hb))
set_option maxHeartbeats 4000000 in
set_option maxRecDepth 100000 in
theorem lr1X6_layFlow {l : Launch} {g : Geo} {sta : Nat → Nat} {k : KT} (K : AOK (wX l g sta) mX6_layFlow k) (h0 : HS) {N T Wn : Nat} (H0 : XW h0 N T Wn) (s : SML (vX h0) N T) :
    ∀ (n i : Nat) (h : HS), i ≤ N → N - i < n → XQ h0 h → LWX h (cX (gI (vX h0) i) (fun _ _ => 0) (fun _ => 0)) → AW (wX l g sta) (LQ h0 (cX (gI (vX h0) N) (wI (vX h0) T) (fun _ => 0))) 5 mX6_layFlow k 9 [some (.ref (g.2.1 0)), some (.int (nI i))] [] h := by
  intro n
  induction n with
  | zero => intro i h h1 h2; omega
  | succ n ih =>
    intro i h h1 h2 hx L
    have H := H0.q hx
    have hN := H.1.2
    have hT := H.2.1.2
    refine aw_il1 K dX6_layFlow_9 ?_
    refine aw_al0 K dX6_layFlow_10 ?_
    refine aw_getR K gX6_12 dX6_layFlow_11 rfl rfl ?_
    refine aw_getI K gX6_161 dX6_layFlow_14 rfl rfl ?_
    rw [H.1.1]
    refine aw_icmp_ge (tgt := 39) K dX6_layFlow_17 (by decide) (fun b17 => ?_) (fun b17 => ?_)
    · have hge : N ≤ i := (nI_leI (a := N) (by omega) (by omega : i < 2 ^ 31)).mp b17
      obtain rfl : i = N := by omega
      refine aw_iconst (v := 0) K dX6_layFlow_39 (by decide) ?_
      refine aw_is1 K dX6_layFlow_40 (by decide) rfl ?_
      exact lr2X6_layFlow K h0 H0 s (T + 1) 0 h (by omega) (by omega) hx L
    · have hlt : i < N := by
        rcases Nat.lt_or_ge i N with q | q
        · exact q
        · exact absurd (nI_le (a := N) q (by omega)) b17
      have gb := s.1 i hlt
      refine aw_al0 K dX6_layFlow_20 ?_
      refine aw_getR K gX6_40 dX6_layFlow_21 rfl rfl ?_
      refine aw_il1 K dX6_layFlow_24 ?_
      refine aw_al0 K dX6_layFlow_25 ?_
      refine aw_il1 K dX6_layFlow_26 ?_
      refine aw_callV_I K (tX6_givenTo l g sta _ _ (vp_in_nI (by omega) (by decide))) rfl (by decide) fX6_givenTo lX6_152 dX6_layFlow_27 rfl clsX6 rfl (Nat.le_of_ble_eq_true rfl) ?_
      rw [nI_clamp (show i < 2 ^ 31 by omega), hx.gv i]
      refine aw_callV K (giX l g sta _ i (by omega) h0 hx _ L (fun a b _ _ => by have := s.xb (i := 0) hT h1 (Nat.zero_le _) (k := fun _ => 0) (fun _ => by decide) a b; exact ⟨this.1, Int.le_trans this.2 (by decide)⟩) _ gb.1 (by omega)) rfl (by decide) fX0_give lX6_335 dX6_layFlow_30 rfl clsX0 rfl (Nat.le_of_ble_eq_true rfl) (fun o h2 hq => ?_)
      obtain ⟨rfl, hq2, L2⟩ := hq
      refine aw_ii1 (v := _ + 1) K dX6_layFlow_33 rfl (by decide) rfl ?_
      refine aw_goto (tgt := 9) K dX6_layFlow_36 (by decide) ?_
      rw [nI_1]
      exact ih (i + 1) _ (by omega) (by omega) hq2 (L2.c (fun a b _ _ => lay_g (by omega) a b))
set_option maxHeartbeats 4000000 in
set_option maxRecDepth 100000 in
theorem laX (l : Launch) (g : Geo) (sta : Nat → Nat) (h : HS) {N T Wn : Nat} (H : XW h N T Wn) (s : SML (vX h) N T) : CT (wX l g sta) 5 mX6_layFlow [.ref (g.2.1 0)] h ((LQ h (cX (gI (vX h) N) (wI (vX h) T) (fun _ => 0)))) := by
  refine CT.at [some (.ref (g.2.1 0)), none] 1 rfl (by decide) (Nat.le_of_ble_eq_true rfl) (fun k K => ?_)
  refine aw_al0 K dX6_layFlow_0 ?_
  refine aw_getR K gX6_40 dX6_layFlow_1 rfl rfl ?_
  refine aw_callV_V K (tX0_clear l g sta _) rfl (by decide) fX0_clear lX6_332 dX6_layFlow_4 rfl clsX0 rfl (Nat.le_of_ble_eq_true rfl) ?_
  refine aw_iconst (v := 0) K dX6_layFlow_7 (by decide) ?_
  refine aw_is1 K dX6_layFlow_8 (by decide) rfl ?_
  refine lr1X6_layFlow K h H s (N + 1) 0 _ (by omega) (by omega) ((H.s.row rfl (by decide)).row rfl (by decide)) ⟨fun a b ha hb => ?_, fun a b ha hb => ?_⟩
  · have z : ∀ p : Prop, [Decidable p] → (if p then (0 : Int) else 0) = 0 := fun p _ => by split <;> rfl
    have e : cX (gI (vX h) 0) (fun _ _ => 0) (fun _ => 0) a b = 0 := by
      unfold cX gI
      simp only [Nat.not_lt_zero, if_false, z]
    rw [e]
    show (fil (h.1 34) 196 0 (14 * a + b)).toInt = 0
    rw [show fil (h.1 34) 196 0 (14 * a + b) = 0 from if_pos (by omega)]
    rfl
  · have z : ∀ p : Prop, [Decidable p] → (if p then (0 : Int) else 0) = 0 := fun p _ => by split <;> rfl
    have e : cX (gI (vX h) 0) (fun _ _ => 0) (fun _ => 0) a b = 0 := by
      unfold cX gI
      simp only [Nat.not_lt_zero, if_false, z]
    rw [e]
    show bt (fil (h.1 35) 14 0 a) b = true ↔ _
    rw [show fil (h.1 35) 14 0 a = 0 from if_pos ha, b_0]
    decide

