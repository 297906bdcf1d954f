/-- none beyond the names is within the least cut -/
theorem MC.low {v : Nat → Nat → Int32} {N T : Nat} {F u : Int} {a : Int32} {X : Nat → Bool} (hN : N ≤ 12) (ht : ∀ t, t < T → vp_in (v 6 t) N ∧ vp_in (v 7 t) N) (m : MC (gI v N) (wI v T) (kF F a N) u X) {x : Nat} (hx : x < 12) (q : X x = true) : x < N := by
  have w0 : ∀ p b, p < 12 → b < 12 → (N ≤ p ∨ N ≤ b) → wI v T p b = 0 := by
    intro p b hp hb hz
    unfold wI
    rw [sm_c (g := fun _ => 0) T (fun t hT => ?_), sm_0]
    obtain ⟨i, hi, ei⟩ := vp_in_of (ht t hT).1 (by omega)
    obtain ⟨j, hj, ej⟩ := vp_in_of (ht t hT).2 (by omega)
    unfold wT
    rw [ei, ej]
    rw [if_neg (fun z => by
      have z1 := (nI_eq (by omega) (by omega)).mp z.1
      have z2 := (nI_eq (by omega) (by omega)).mp z.2
      omega), if_neg (fun z => by
      have z1 := (nI_eq (by omega) (by omega)).mp z.1
      have z2 := (nI_eq (by omega) (by omega)).mp z.2
      omega)]
    rfl
  have e : cv (gI v N) (wI v T) (kF F a N) (fun y => X y && decide (y < N)) = cv (gI v N) (wI v T) (kF F a N) X := by
    refine sm_c 12 (fun p hp => ?_)
    have e1 : (if (X p && decide (p < N)) = true then kF F a N p else gI v N p) = (if X p = true then kF F a N p else gI v N p) := by
      by_cases z : p < N
      · rw [decide_eq_true z, Bool.and_true]
      · rw [show kF F a N p = 0 from if_neg (fun y => z y.1), show gI v N p = 0 from if_neg z]
        split <;> split <;> rfl
    have e2 : sm (fun b => xS (fun y => X y && decide (y < N)) (wI v T) p b) 12 = sm (fun b => xS X (wI v T) p b) 12 := by
      refine sm_c 12 (fun b hb => ?_)
      show (if (X p && decide (p < N)) = true ∧ (X b && decide (b < N)) = false then wI v T p b else 0) = (if X p = true ∧ X b = false then wI v T p b else 0)
      by_cases z : p < N ∧ b < N
      · rw [decide_eq_true z.1, decide_eq_true z.2, Bool.and_true, Bool.and_true]
      · rw [w0 p b hp hb (by omega)]
        split <;> split <;> rfl
    rw [e1, e2]
  have y := m.2.2 (fun y => X y && decide (y < N)) (e.trans m.1.symm) x hx q
  rw [Bool.and_eq_true] at y
  exact of_decide_eq_true y.2
noncomputable def inV (v : Nat → Nat → Int32) (N T : Nat) (a : Int32) (i : Nat) : Int32 := orU (fun x => if trS v N T a x = true then (1 : Int32) <<< (nI x &&& 31) else 0) i
theorem inV_b {v : Nat → Nat → Int32} {N T : Nat} {a : Int32} {i y : Nat} (hi : i ≤ 32) (hy : y < 32) : bt (inV v N T a i) y = true ↔ y < i ∧ trS v N T a y = true := by
  unfold inV
  rw [orU_b hy]
  constructor
  · rintro ⟨j, h1, h2⟩
    split at h2
    · rename_i q
      rw [b_sh1 (by omega) hy] at h2
      have e : y = j := of_decide_eq_true h2
      subst e
      exact ⟨h1, q⟩
    · rw [b_0] at h2
      cases h2
  · rintro ⟨h1, h2⟩
    refine ⟨y, h1, ?_⟩
    rw [if_pos h2, b_sh1 hy hy]
    simp
theorem bt_4095o : ∀ i, i < 32 → ¬ i < 12 → bt 4095 i = false := by decide +kernel
theorem in_re {v : Nat → Nat → Int32} {N T : Nat} {a r : Int32} (hN : N ≤ 12) (re : ∀ x, x < 12 → (bt r x = true ↔ trS v N T a x = true)) (lo : ∀ x, x < 12 → trS v N T a x = true → x < N) : r &&& 4095 = inV v N T a N := by
  refine b_ext (fun i hi => ?_)
  rw [b_and]
  by_cases q : i < 12
  · rw [bt_4095 i q, Bool.and_true]
    cases z : bt r i
    · cases y : bt (inV v N T a N) i
      · rfl
      · have := (re i q).mpr ((inV_b (by omega) hi).mp y).2
        rw [z] at this
        cases this
    · have u := (re i q).mp z
      exact ((inV_b (by omega) hi).mpr ⟨lo i q u, u⟩).symm
  · rw [bt_4095o i hi q, Bool.and_false]
    cases y : bt (inV v N T a N) i
    · rfl
    · have := ((inV_b (by omega) hi).mp y).1
      omega
/-- the ties that lead out of s -/
def toV (v : Nat → Nat → Int32) (s : Int32) (T : Nat) : Int32 := orU (fun t => if ¬ (bI (¬ (s >>> (v 6 t &&& 31)) &&& 1 = 0)) = bI (¬ (s >>> (v 7 t &&& 31)) &&& 1 = 0) ∧ 0 < rmV v t then (1 : Int32) <<< (nI t &&& 31) else 0) T
def gbV (v : Nat → Nat → Int32) (s : Int32) (N : Nat) : Int32 := sumU (fun x => if (s >>> (nI x &&& 31)) &&& 1 = 0 then gvV v x else 0) N
noncomputable def cuV (v : Nat → Nat → Int32) (N T : Nat) (a b : Int32) : Int32 := if (0 ≤ a ∧ a ≤ 1 <<< (v 0 0 &&& 31) - 1) ∧ ¬ a = 0 ∧ (0 ≤ b ∧ b ≤ 2) then (if b = 0 then inV v N T a N else if b = 1 then toV v (inV v N T a N) T else gbV v (inV v N T a N) N) else -1
theorem orU_c {f q : Nat → Int32} : ∀ n, (∀ w, w < n → f w = q w) → orU f n = orU q n
  | 0, _ => rfl
  | n + 1, h => by
    unfold orU
    rw [orU_c n (fun w hw => h w (by omega)), h n (by omega)]
theorem cuV_eq {hx hm : HS} (r : REL hx hm) (N T : Nat) (a b : Int32) : cuV (vX hx) N T a b = cuV hm.1 N T a b := by
  have e1 : inV hm.1 N T a N = inV (vX hx) N T a N := by
    unfold inV
    rw [trS_eq r]
  have e2 : ∀ s, toV hm.1 s T = toV (vX hx) s T := by
    intro s
    unfold toV
    refine orU_c T (fun t _ => ?_)
    rw [rmV_eq r, r.r (21, 6) (by decide), r.r (22, 7) (by decide)]
    rfl
  have e3 : ∀ s, gbV hm.1 s N = gbV (vX hx) s N := by
    intro s
    unfold gbV
    exact sumU_c N (fun x _ => by rw [gvV_eq r])
  unfold cuV
  rw [e1, e2, e3, INV.b1 r]
  rfl
set_option maxHeartbeats 4000000 in
set_option maxRecDepth 100000 in
theorem lrX6_tiesOutOf {l : Launch} {g : Geo} {sta : Nat → Nat} {k : KT} (K : AOK (wX l g sta) mX6_tiesOutOf k) (h : HS) (a : Int32) {N T Wn : Nat} (H : XW h N T Wn) :
    ∀ (n i : Nat), i + n = T → AW (wX l g sta) (DI (toV (vX h) a T) h) 4 mX6_tiesOutOf k 4 [some (.ref (g.2.1 0)), some (.int a), some (.int (toV (vX h) a i)), some (.int (nI i)), none] [] h := by
  intro n
  have h3 := H.2.1.2
  induction n with
  | zero =>
    intro i k1
    obtain rfl : i = T := by omega
    refine aw_il3 K dX6_tiesOutOf_4 ?_
    refine aw_al0 K dX6_tiesOutOf_5 ?_
    refine aw_getR K gX6_19 dX6_tiesOutOf_6 rfl rfl ?_
    refine aw_getI K gX6_109 dX6_tiesOutOf_9 rfl rfl ?_
    rw [H.2.1.1]
    refine aw_icmp_ge (tgt := 76) K dX6_tiesOutOf_12 (by decide) (fun b12 => ?_) (fun b12 => ?_)
    · refine aw_il2 K dX6_tiesOutOf_76 ?_
      refine aw_iret K rfl dX6_tiesOutOf_77 ?_
      exact ⟨rfl, rfl⟩
    · exact absurd (Int32.le_refl _) b12
  | succ n ih =>
    intro i k1
    refine aw_il3 K dX6_tiesOutOf_4 ?_
    refine aw_al0 K dX6_tiesOutOf_5 ?_
    refine aw_getR K gX6_19 dX6_tiesOutOf_6 rfl rfl ?_
    refine aw_getI K gX6_109 dX6_tiesOutOf_9 rfl rfl ?_
    rw [H.2.1.1]
    refine aw_icmp_ge (tgt := 76) K dX6_tiesOutOf_12 (by decide) (fun b12 => ?_) (fun b12 => ?_)
    · exact absurd b12 (nI_ge (by omega) (by omega))
    · refine aw_il1 K dX6_tiesOutOf_15 ?_
      refine aw_al0 K dX6_tiesOutOf_16 ?_
      refine aw_getR K gX6_19 dX6_tiesOutOf_17 rfl rfl ?_
      refine aw_getR K gX6_122 dX6_tiesOutOf_20 rfl rfl ?_
      refine aw_il3 K dX6_tiesOutOf_23 ?_
      refine aw_iald K dX6_tiesOutOf_24 rfl (vp_in_nI (by omega) (by decide)) ?_
      rw [nI_clamp (show i < 2 ^ 31 by omega)]
      refine aw_callS_I K (tX6_hasBit l g sta _ _ _) rfl (by decide) fX6_hasBit lX6_162 dX6_tiesOutOf_25 rfl (Nat.le_of_ble_eq_true rfl) ?_
      refine aw_il1 K dX6_tiesOutOf_28 ?_
      refine aw_al0 K dX6_tiesOutOf_29 ?_
      refine aw_getR K gX6_19 dX6_tiesOutOf_30 rfl rfl ?_
      refine aw_getR K gX6_125 dX6_tiesOutOf_33 rfl rfl ?_
      refine aw_il3 K dX6_tiesOutOf_36 ?_
      refine aw_iald K dX6_tiesOutOf_37 rfl (vp_in_nI (by omega) (by decide)) ?_
      rw [nI_clamp (show i < 2 ^ 31 by omega)]
      refine aw_callS_I K (tX6_hasBit l g sta _ _ _) rfl (by decide) fX6_hasBit lX6_162 dX6_tiesOutOf_38 rfl (Nat.le_of_ble_eq_true rfl) ?_
      refine aw_icmp_eq (tgt := 48) K dX6_tiesOutOf_41 (by decide) (fun b41 => ?_) (fun b41 => ?_)
      · refine aw_iconst (v := 0) K dX6_tiesOutOf_48 (by decide) ?_
        refine aw_is4 K dX6_tiesOutOf_49 (by decide) rfl ?_
        refine aw_il4 K dX6_tiesOutOf_51 ?_
        refine aw_if_eq (tgt := 70) K dX6_tiesOutOf_53 (by decide) (fun b53 => ?_) (fun b53 => ?_)
        · refine aw_ii3 (v := _ + 1) K dX6_tiesOutOf_70 rfl (by decide) rfl ?_
          refine aw_goto (tgt := 4) K dX6_tiesOutOf_73 (by decide) ?_
          rw [nI_1]
          refine aw_sub [some (.ref (g.2.1 0)), some (.int a), some (.int _), some (.int _), none] ⟨rfl, rfl, rfl, rfl, trivial⟩ ?_
          have z := ih (i + 1) (by omega)
          rw [show toV (vX h) a (i + 1) = toV (vX h) a i from (congrArg (toV (vX h) a i ||| ·) (if_neg (fun q => q.1 b41))).trans Int32.or_zero] at z
          exact z
        · exact absurd rfl b53
      · refine aw_iconst (v := 1) K dX6_tiesOutOf_44 (by decide) ?_
        refine aw_goto (tgt := 49) K dX6_tiesOutOf_45 (by decide) ?_
        refine aw_is4 K dX6_tiesOutOf_49 (by decide) rfl ?_
        refine aw_il4 K dX6_tiesOutOf_51 ?_
        refine aw_if_eq (tgt := 70) K dX6_tiesOutOf_53 (by decide) (fun b53 => ?_) (fun b53 => ?_)
        · exact absurd b53 (by decide)
        · refine aw_al0 K dX6_tiesOutOf_56 ?_
          refine aw_il3 K dX6_tiesOutOf_57 ?_
          refine aw_callV_I K (tX6_roomOf l g sta _ _ (vp_in_nI (by omega) (by decide)) H) rfl (by decide) fX6_roomOf lX6_137 dX6_tiesOutOf_58 rfl clsX6 rfl (Nat.le_of_ble_eq_true rfl) ?_
          rw [nI_clamp (show i < 2 ^ 31 by omega)]
          refine aw_if_le (tgt := 70) K dX6_tiesOutOf_61 (by decide) (fun b61 => ?_) (fun b61 => ?_)
          · refine aw_ii3 (v := _ + 1) K dX6_tiesOutOf_70 rfl (by decide) rfl ?_
            refine aw_goto (tgt := 4) K dX6_tiesOutOf_73 (by decide) ?_
            rw [nI_1]
            refine aw_sub [some (.ref (g.2.1 0)), some (.int a), some (.int _), some (.int _), none] ⟨rfl, rfl, rfl, rfl, trivial⟩ ?_
            have z := ih (i + 1) (by omega)
            rw [show toV (vX h) a (i + 1) = toV (vX h) a i from (congrArg (toV (vX h) a i ||| ·) (if_neg (fun q => Int32.not_lt.mpr b61 q.2))).trans Int32.or_zero] at z
            exact z
          · refine aw_il2 K dX6_tiesOutOf_64 ?_
            refine aw_iconst (v := 1) K dX6_tiesOutOf_65 (by decide) ?_
            refine aw_il3 K dX6_tiesOutOf_66 ?_
            refine aw_ishl K dX6_tiesOutOf_67 ?_
            refine aw_ior K dX6_tiesOutOf_68 ?_
            refine aw_is2 K dX6_tiesOutOf_69 (by decide) rfl ?_
            refine aw_ii3 (v := _ + 1) K dX6_tiesOutOf_70 rfl (by decide) rfl ?_
            refine aw_goto (tgt := 4) K dX6_tiesOutOf_73 (by decide) ?_
            rw [nI_1]
            refine aw_sub [some (.ref (g.2.1 0)), some (.int a), some (.int _), some (.int _), none] ⟨rfl, rfl, rfl, rfl, trivial⟩ ?_
            have z := ih (i + 1) (by omega)
            rw [show toV (vX h) a (i + 1) = toV (vX h) a i ||| (1 : Int32) <<< (nI i &&& 31) from congrArg (toV (vX h) a i ||| ·) (if_pos ⟨b41, Int32.not_le.mp b61⟩)] at z
            exact z
set_option maxHeartbeats 4000000 in
set_option maxRecDepth 100000 in
theorem eX6_tiesOutOf (l : Launch) (g : Geo) (sta : Nat → Nat) (h : HS) (a : Int32) {N T Wn : Nat} (H : XW h N T Wn) : CT (wX l g sta) 4 mX6_tiesOutOf [.ref (g.2.1 0), .int a] h (DI (toV (vX h) a T) h) := by
  refine CT.at [some (.ref (g.2.1 0)), some (.int a), none, none, none] 3 rfl (by decide) (Nat.le_of_ble_eq_true rfl) (fun k K => ?_)
  refine aw_iconst (v := 0) K dX6_tiesOutOf_0 (by decide) ?_
  refine aw_is2 K dX6_tiesOutOf_1 (by decide) rfl ?_
  refine aw_iconst (v := 0) K dX6_tiesOutOf_2 (by decide) ?_
  refine aw_is3 K dX6_tiesOutOf_3 (by decide) rfl ?_
  exact lrX6_tiesOutOf K h a H T 0 (by omega)

set_option maxHeartbeats 4000000 in
set_option maxRecDepth 100000 in
theorem lrX6_givenBeyond {l : Launch} {g : Geo} {sta : Nat → Nat} {k : KT} (K : AOK (wX l g sta) mX6_givenBeyond k) (h : HS) (a : Int32) {N T Wn : Nat} (H : XW h N T Wn) :
    ∀ (n i : Nat), i + n = N → AW (wX l g sta) (DI (gbV (vX h) a N) h) 4 mX6_givenBeyond k 4 [some (.ref (g.2.1 0)), some (.int a), some (.int (gbV (vX h) a i)), some (.int (nI i))] [] h := by
  intro n
  have h3 := H.1.2
  induction n with
  | zero =>
    intro i k1
    obtain rfl : i = N := by omega
    refine aw_il3 K dX6_givenBeyond_4 ?_
    refine aw_al0 K dX6_givenBeyond_5 ?_
    refine aw_getR K gX6_12 dX6_givenBeyond_6 rfl rfl ?_
    refine aw_getI K gX6_161 dX6_givenBeyond_9 rfl rfl ?_
    rw [H.1.1]
    refine aw_icmp_ge (tgt := 37) K dX6_givenBeyond_12 (by decide) (fun b12 => ?_) (fun b12 => ?_)
    · refine aw_il2 K dX6_givenBeyond_37 ?_
      refine aw_iret K rfl dX6_givenBeyond_38 ?_
      exact ⟨rfl, rfl⟩
    · exact absurd (Int32.le_refl _) b12
  | succ n ih =>
    intro i k1
    refine aw_il3 K dX6_givenBeyond_4 ?_
    refine aw_al0 K dX6_givenBeyond_5 ?_
    refine aw_getR K gX6_12 dX6_givenBeyond_6 rfl rfl ?_
    refine aw_getI K gX6_161 dX6_givenBeyond_9 rfl rfl ?_
    rw [H.1.1]
    refine aw_icmp_ge (tgt := 37) K dX6_givenBeyond_12 (by decide) (fun b12 => ?_) (fun b12 => ?_)
    · exact absurd b12 (nI_ge (by omega) (by omega))
    · refine aw_il1 K dX6_givenBeyond_15 ?_
      refine aw_il3 K dX6_givenBeyond_16 ?_
      refine aw_callS_I K (tX6_hasBit l g sta _ _ _) rfl (by decide) fX6_hasBit lX6_162 dX6_givenBeyond_17 rfl (Nat.le_of_ble_eq_true rfl) ?_
      refine aw_if_ne (tgt := 31) K dX6_givenBeyond_20 (by decide) (fun b20 => ?_) (fun b20 => ?_)
      · have nb := bI_1.mp b20
        refine aw_ii3 (v := _ + 1) K dX6_givenBeyond_31 rfl (by decide) rfl ?_
        refine aw_goto (tgt := 4) K dX6_givenBeyond_34 (by decide) ?_
        rw [nI_1]
        have z := ih (i + 1) (by omega)
        rw [show gbV (vX h) a (i + 1) = gbV (vX h) a i from (congrArg (gbV (vX h) a i + ·) (if_neg nb)).trans (Int32.add_zero _)] at z
        exact z
      · have nb := Classical.not_not.mp (bI_0.mp b20)
        refine aw_il2 K dX6_givenBeyond_23 ?_
        refine aw_al0 K dX6_givenBeyond_24 ?_
        refine aw_il3 K dX6_givenBeyond_25 ?_
        refine aw_callV_I K (tX6_givenTo l g sta _ _ (vp_in_nI (by omega) (by decide))) rfl (by decide) fX6_givenTo lX6_152 dX6_givenBeyond_26 rfl clsX6 rfl (Nat.le_of_ble_eq_true rfl) ?_
        rw [nI_clamp (show i < 2 ^ 31 by omega)]
        refine aw_iadd K dX6_givenBeyond_29 ?_
        refine aw_is2 K dX6_givenBeyond_30 (by decide) rfl ?_
        refine aw_ii3 (v := _ + 1) K dX6_givenBeyond_31 rfl (by decide) rfl ?_
        refine aw_goto (tgt := 4) K dX6_givenBeyond_34 (by decide) ?_
        rw [nI_1]
        have z := ih (i + 1) (by omega)
        rw [show gbV (vX h) a (i + 1) = gbV (vX h) a i + gvV (vX h) i from congrArg (gbV (vX h) a i + ·) (if_pos nb)] at z
        exact z
set_option maxHeartbeats 4000000 in
set_option maxRecDepth 100000 in
theorem eX6_givenBeyond (l : Launch) (g : Geo) (sta : Nat → Nat) (h : HS) (a : Int32) {N T Wn : Nat} (H : XW h N T Wn) : CT (wX l g sta) 4 mX6_givenBeyond [.ref (g.2.1 0), .int a] h (DI (gbV (vX h) a N) h) := by
  refine CT.at [some (.ref (g.2.1 0)), some (.int a), none, none] 2 rfl (by decide) (Nat.le_of_ble_eq_true rfl) (fun k K => ?_)
  refine aw_iconst (v := 0) K dX6_givenBeyond_0 (by decide) ?_
  refine aw_is2 K dX6_givenBeyond_1 (by decide) rfl ?_
  refine aw_iconst (v := 0) K dX6_givenBeyond_2 (by decide) ?_
  refine aw_is3 K dX6_givenBeyond_3 (by decide) rfl ?_
  exact lrX6_givenBeyond K h a H N 0 (by omega)

set_option maxHeartbeats 4000000 in
set_option maxRecDepth 100000 in
theorem eX6_cut (l : Launch) (g : Geo) (sta : Nat → Nat) (h : HS) (a b : Int32) {N T Wn : Nat} (H : XW h N T Wn) (s : SML (vX h) N T) (wt : wrdT h N T) : CT (wX l g sta) 7 mX6_cut [.ref (g.2.1 0), .int a, .int b] h (fun o h' => o = some (.int (cuV (vX h) N T a b)) ∧ XQ h h') := by
  refine CT.at [some (.ref (g.2.1 0)), some (.int a), some (.int b), none] 1 rfl (by decide) (Nat.le_of_ble_eq_true rfl) (fun k K => ?_)
  refine aw_al0 K dX6_cut_0 ?_
  refine aw_il1 K dX6_cut_1 ?_
  refine aw_callV_I K (tX6_isHeap l g sta _ _) rfl (by decide) fX6_isHeap lX6_196 dX6_cut_2 rfl clsX6 rfl (Nat.le_of_ble_eq_true rfl) ?_
  refine aw_if_eq (tgt := 21) K dX6_cut_5 (by decide) (fun b5 => ?_) (fun b5 => ?_)
  · refine aw_iconst (v := (-1)) K dX6_cut_21 (by decide) ?_
    refine aw_iret K rfl dX6_cut_22 ?_
    exact ⟨congrArg some (congrArg Value.int (if_neg (fun q => bI_0.mp b5 q.1)).symm), H.s⟩
  · refine aw_il1 K dX6_cut_8 ?_
    refine aw_if_eq (tgt := 21) K dX6_cut_9 (by decide) (fun b9 => ?_) (fun b9 => ?_)
    · refine aw_iconst (v := (-1)) K dX6_cut_21 (by decide) ?_
      refine aw_iret K rfl dX6_cut_22 ?_
      exact ⟨congrArg some (congrArg Value.int (if_neg (fun q => q.2.1 b9)).symm), H.s⟩
    · refine aw_il2 K dX6_cut_12 ?_
      refine aw_iconst (v := 0) K dX6_cut_13 (by decide) ?_
      refine aw_iconst (v := 2) K dX6_cut_14 (by decide) ?_
      refine aw_callS_I K (tX6_within l g sta _ _ _ _) rfl (by decide) fX6_within lX6_76 dX6_cut_15 rfl (Nat.le_of_ble_eq_true rfl) ?_
      refine aw_if_ne (tgt := 23) K dX6_cut_18 (by decide) (fun b18 => ?_) (fun b18 => ?_)
      · refine aw_al0 K dX6_cut_23 ?_
        have hN := H.1.2
        refine aw_callV K (laX l g sta _ H s) rfl (by decide) fX6_layFlow lX6_190 dX6_cut_24 rfl clsX6 rfl (Nat.le_of_ble_eq_true rfl) (fun o h2 hq => ?_)
        obtain ⟨rfl, ly⟩ := hq
        have ly : LY h h2 N T := ly
        refine aw_al0 K dX6_cut_27 ?_
        refine aw_getR K gX6_40 dX6_cut_28 rfl rfl ?_
        refine aw_il1 K dX6_cut_31 ?_
        refine aw_callV K (moT l g sta _ _ h H s ly (hp_h H.1.1 hN (bI_1.mp b5))) rfl (by decide) fX0_most lX6_193 dX6_cut_32 rfl clsX0 rfl (Nat.le_of_ble_eq_true rfl) (fun o h2 hq => ?_)
        obtain ⟨rfl, ly2, re, fr, vm, Xm, mm⟩ := hq
        refine (show AW _ _ _ _ _ _ _ (.int _ :: _) _ from ?_)
        have H2 := H.q ly2.1
        have mx : ∀ x, x < 12 → trS (vX h) N T a x = true → x < N := fun x hx q => MC.low (v := vX h) hN (fun t ht => wt t ht) mm hx (((mm.tv).2 x hx).symm.trans q)
        refine aw_pop K dX6_cut_35 rfl ?_
        refine aw_al0 K dX6_cut_36 ?_
        refine aw_getR K gX6_40 dX6_cut_37 rfl rfl ?_
        refine aw_getI K gX6_199 dX6_cut_40 rfl rfl ?_
        refine aw_sipush (v := 4095) K dX6_cut_43 (by decide) ?_
        refine aw_iand K dX6_cut_46 ?_
        rw [show h2.1 5 6 &&& 4095 = inV (vX h) N T a N from in_re hN re mx]
        refine aw_is3 K dX6_cut_47 (by decide) rfl ?_
        refine aw_il2 K dX6_cut_48 ?_
        refine aw_lk2 (ta := 76) (tb := 78) (td := 84) K dX6_cut_49 (by decide) (by decide) (by decide) (by decide) (fun s0 => ?_) (fun s1 => ?_) (fun s0 s1 => ?_)
        · refine aw_il3 K dX6_cut_76 ?_
          refine aw_iret K rfl dX6_cut_77 ?_
          exact ⟨congrArg some (congrArg Value.int ((if_pos ⟨bI_1.mp b5, b9, bI_1.mp b18⟩).trans (if_pos (show b = 0 from tI (k := 0) (by decide) s0))).symm), ly2.1⟩
        · refine aw_al0 K dX6_cut_78 ?_
          refine aw_il3 K dX6_cut_79 ?_
          refine aw_callV_I K (eX6_tiesOutOf l g sta _ _ H2) rfl (by decide) fX6_tiesOutOf lX6_202 dX6_cut_80 rfl clsX6 rfl (Nat.le_of_ble_eq_true rfl) ?_
          refine aw_iret K rfl dX6_cut_83 ?_
          have t1 : toV (vX h2) (inV (vX h) N T a N) T = toV (vX h) (inV (vX h) N T a N) T := orU_c T (fun t _ => by rw [ly2.1.rm, show vX h2 6 = vX h 6 from ly2.1.1 21 rfl, show vX h2 7 = vX h 7 from ly2.1.1 22 rfl])
          rw [t1]
          exact ⟨congrArg some (congrArg Value.int ((if_pos ⟨bI_1.mp b5, b9, bI_1.mp b18⟩).trans ((if_neg (fun z => absurd s1 (by rw [z]; decide))).trans (if_pos (show b = 1 from tI (k := 1) (by decide) s1)))).symm), ly2.1⟩
        · refine aw_al0 K dX6_cut_84 ?_
          refine aw_il3 K dX6_cut_85 ?_
          refine aw_callV_I K (eX6_givenBeyond l g sta _ _ H2) rfl (by decide) fX6_givenBeyond lX6_205 dX6_cut_86 rfl clsX6 rfl (Nat.le_of_ble_eq_true rfl) ?_
          refine aw_iret K rfl dX6_cut_89 ?_
          have t1 : gbV (vX h2) (inV (vX h) N T a N) N = gbV (vX h) (inV (vX h) N T a N) N := sumU_c N (fun t _ => by rw [ly2.1.gv])
          rw [t1]
          exact ⟨congrArg some (congrArg Value.int ((if_pos ⟨bI_1.mp b5, b9, bI_1.mp b18⟩).trans ((if_neg (fun z => s0 (by rw [z]; decide))).trans (if_neg (fun z => s1 (by rw [z]; decide))))).symm), ly2.1⟩
      · refine aw_iconst (v := (-1)) K dX6_cut_21 (by decide) ?_
        refine aw_iret K rfl dX6_cut_22 ?_
        exact ⟨congrArg some (congrArg Value.int (if_neg (fun q => bI_0.mp b18 q.2.2)).symm), H.s⟩

theorem sb_01 (y : Int32) : y &&& 1 = 0 ∨ y &&& 1 = 1 := by
  cases z : bt y 0
  · exact Or.inl ((b_and1 y).mpr z)
  · right
    refine b_ext (fun i hi => ?_)
    rw [b_and, b_1 i hi]
    by_cases q : i = 0
    · subst q
      rw [z]
      rfl
    · simp [q]
theorem sb_eq {x y : Int32} : (x &&& 1 = y &&& 1) ↔ bI (¬ x &&& 1 = 0) = bI (¬ y &&& 1 = 0) := by
  rcases sb_01 x with p | p <;> rcases sb_01 y with q | q <;> rw [p, q] <;> decide
theorem gb_in {v : Nat → Nat → Int32} {N T : Nat} {a : Int32} (hN : N ≤ 12) : gbV v (inV v N T a N) N = sumU (fun x => if trS v N T a x = true then 0 else gvV v x) N := by
  unfold gbV
  refine sumU_c N (fun x hx => ?_)
  have e := inV_b (v := v) (N := N) (T := T) (a := a) (i := N) (y := x) (by omega) (by omega)
  by_cases q : trS v N T a x = true
  · rw [if_pos q, if_neg ((hb_i (by omega)).mpr (e.mpr ⟨hx, q⟩))]
  · rw [if_neg q, if_pos (Classical.byContradiction (fun z => q (e.mp ((hb_i (by omega)).mp z)).2))]
set_option maxHeartbeats 4000000 in
set_option maxRecDepth 100000 in
theorem lr2X7_cut {l : Launch} {g : Geo} {sta : Nat → Nat} {k : KT} (K : AOK (wM l g sta) mX7_cut k) (h0 h : HS) (a b : Int32) {N T Wn : Nat} (H0 : MW h0 N T Wn) (hx : FS h0 h) (ok : (0 ≤ a ∧ a ≤ 1 <<< (h0.1 0 0 &&& 31) - 1) ∧ ¬ a = 0 ∧ (0 ≤ b ∧ b ≤ 2)) :
    ∀ (n i : Nat), i + n = T → AW (wM l g sta) (fun o h' => o = some (.int (cuV h0.1 N T a b)) ∧ MS h0 h') 7 mX7_cut k 111 [some (.ref (g.2.1 0)), some (.int a), some (.int b), some (.int (inV h0.1 N T a N)), some (.int (gbV h0.1 (inV h0.1 N T a N) N)), some (.int (toV h0.1 (inV h0.1 N T a N) i)), some (.int (nI i)), none] [] h := by
  intro n
  have H := H0.f hx
  have h3 := H.2.1.2
  induction n with
  | zero =>
    intro i k1
    obtain rfl : i = T := by omega
    refine aw_il6 K dX7_cut_111 ?_
    refine aw_al0 K dX7_cut_113 ?_
    refine aw_getI K gX7_121 dX7_cut_114 rfl rfl ?_
    rw [H.2.1.1]
    refine aw_icmp_ge (tgt := 185) K dX7_cut_117 (by decide) (fun b117 => ?_) (fun b117 => ?_)
    · refine aw_il2 K dX7_cut_185 ?_
      refine aw_if_ne (tgt := 193) K dX7_cut_186 (by decide) (fun b186 => ?_) (fun b186 => ?_)
      · refine aw_il2 K dX7_cut_193 ?_
        refine aw_iconst (v := 1) K dX7_cut_194 (by decide) ?_
        refine aw_icmp_ne (tgt := 203) K dX7_cut_195 (by decide) (fun b195 => ?_) (fun b195 => ?_)
        · refine aw_il4 K dX7_cut_203 ?_
          refine aw_iret K rfl dX7_cut_205 ?_
          exact ⟨congrArg some (congrArg Value.int ((if_pos ok).trans ((if_neg b186).trans (if_neg b195))).symm), hx.ms⟩
        · refine aw_il5 K dX7_cut_198 ?_
          refine aw_goto (tgt := 205) K dX7_cut_200 (by decide) ?_
          refine aw_iret K rfl dX7_cut_205 ?_
          exact ⟨congrArg some (congrArg Value.int ((if_pos ok).trans ((if_neg b186).trans (if_pos b195))).symm), hx.ms⟩
      · refine aw_il3 K dX7_cut_189 ?_
        refine aw_goto (tgt := 205) K dX7_cut_190 (by decide) ?_
        refine aw_iret K rfl dX7_cut_205 ?_
        exact ⟨congrArg some (congrArg Value.int ((if_pos ok).trans (if_pos b186)).symm), hx.ms⟩
    · exact absurd (Int32.le_refl _) b117
  | succ n ih =>
    intro i k1
    have e6 := hx 6 rfl
    have e7 := hx 7 rfl
    refine aw_il6 K dX7_cut_111 ?_
    refine aw_al0 K dX7_cut_113 ?_
    refine aw_getI K gX7_121 dX7_cut_114 rfl rfl ?_
    rw [H.2.1.1]
    refine aw_icmp_ge (tgt := 185) K dX7_cut_117 (by decide) (fun b117 => ?_) (fun b117 => ?_)
    · exact absurd b117 (nI_ge (by omega) (by omega))
    · refine aw_il3 K dX7_cut_120 ?_
      refine aw_al0 K dX7_cut_121 ?_
      refine aw_getR K gX7_26 dX7_cut_122 rfl rfl ?_
      refine aw_il6 K dX7_cut_125 ?_
      refine aw_iald K dX7_cut_127 rfl (vp_in_nI (by omega) (by decide)) ?_
      rw [nI_clamp (show i < 2 ^ 31 by omega), e6]
      refine aw_ishr K dX7_cut_128 ?_
      refine aw_iconst (v := 1) K dX7_cut_129 (by decide) ?_
      refine aw_iand K dX7_cut_130 ?_
      refine aw_il3 K dX7_cut_131 ?_
      refine aw_al0 K dX7_cut_132 ?_
      refine aw_getR K gX7_29 dX7_cut_133 rfl rfl ?_
      refine aw_il6 K dX7_cut_136 ?_
      refine aw_iald K dX7_cut_138 rfl (vp_in_nI (by omega) (by decide)) ?_
      rw [nI_clamp (show i < 2 ^ 31 by omega), e7]
      refine aw_ishr K dX7_cut_139 ?_
      refine aw_iconst (v := 1) K dX7_cut_140 (by decide) ?_
      refine aw_iand K dX7_cut_141 ?_
      refine aw_icmp_eq (tgt := 149) K dX7_cut_142 (by decide) (fun b142 => ?_) (fun b142 => ?_)
      · refine aw_iconst (v := 0) K dX7_cut_149 (by decide) ?_
        refine aw_is7 K dX7_cut_150 (by decide) rfl ?_
        refine aw_il5 K dX7_cut_152 ?_
        refine aw_il7 K dX7_cut_154 ?_
        refine aw_if_eq (tgt := 175) K dX7_cut_156 (by decide) (fun b156 => ?_) (fun b156 => ?_)
        · refine aw_iconst (v := 0) K dX7_cut_175 (by decide) ?_
          refine aw_ior K dX7_cut_176 ?_
          refine aw_is5 K dX7_cut_177 (by decide) rfl ?_
          refine aw_ii6 (v := _ + 1) K dX7_cut_179 rfl (by decide) rfl ?_
          refine aw_goto (tgt := 111) K dX7_cut_182 (by decide) ?_
          rw [nI_1]
          refine aw_sub [some (.ref (g.2.1 0)), some (.int _), some (.int _), some (.int _), some (.int _), some (.int _), some (.int _), none] ⟨rfl, rfl, rfl, rfl, rfl, rfl, rfl, trivial⟩ ?_
          have z := ih (i + 1) (by omega)
          rw [show toV h0.1 (inV h0.1 N T a N) (i + 1) = toV h0.1 (inV h0.1 N T a N) i ||| 0 from congrArg (toV h0.1 (inV h0.1 N T a N) i ||| ·) (if_neg (fun q => q.1 (sb_eq.mp b142)))] at z
          exact z
        · exact absurd rfl b156
      · refine aw_iconst (v := 1) K dX7_cut_145 (by decide) ?_
        refine aw_goto (tgt := 150) K dX7_cut_146 (by decide) ?_
        refine aw_is7 K dX7_cut_150 (by decide) rfl ?_
        refine aw_il5 K dX7_cut_152 ?_
        refine aw_il7 K dX7_cut_154 ?_
        refine aw_if_eq (tgt := 175) K dX7_cut_156 (by decide) (fun b156 => ?_) (fun b156 => ?_)
        · exact absurd b156 (by decide)
        · refine aw_al0 K dX7_cut_159 ?_
          refine aw_il6 K dX7_cut_160 ?_
          refine aw_callV_I K (tX7_roomOf l g sta _ _ (vp_in_nI (by omega) (by decide)) H) rfl (by decide) fX7_roomOf lX7_136 dX7_cut_162 rfl clsX7 rfl (Nat.le_of_ble_eq_true rfl) ?_
          rw [nI_clamp (show i < 2 ^ 31 by omega), hx.rm i]
          refine aw_if_le (tgt := 175) K dX7_cut_165 (by decide) (fun b165 => ?_) (fun b165 => ?_)
          · refine aw_iconst (v := 0) K dX7_cut_175 (by decide) ?_
            refine aw_ior K dX7_cut_176 ?_
            refine aw_is5 K dX7_cut_177 (by decide) rfl ?_
            refine aw_ii6 (v := _ + 1) K dX7_cut_179 rfl (by decide) rfl ?_
            refine aw_goto (tgt := 111) K dX7_cut_182 (by decide) ?_
            rw [nI_1]
            refine aw_sub [some (.ref (g.2.1 0)), some (.int _), some (.int _), some (.int _), some (.int _), some (.int _), some (.int _), none] ⟨rfl, rfl, rfl, rfl, rfl, rfl, rfl, trivial⟩ ?_
            have z := ih (i + 1) (by omega)
            rw [show toV h0.1 (inV h0.1 N T a N) (i + 1) = toV h0.1 (inV h0.1 N T a N) i ||| 0 from congrArg (toV h0.1 (inV h0.1 N T a N) i ||| ·) (if_neg (fun q => Int32.not_lt.mpr b165 q.2))] at z
            exact z
          · refine aw_iconst (v := 1) K dX7_cut_168 (by decide) ?_
            refine aw_il6 K dX7_cut_169 ?_
            refine aw_ishl K dX7_cut_171 ?_
            refine aw_goto (tgt := 176) K dX7_cut_172 (by decide) ?_
            refine aw_ior K dX7_cut_176 ?_
            refine aw_is5 K dX7_cut_177 (by decide) rfl ?_
            refine aw_ii6 (v := _ + 1) K dX7_cut_179 rfl (by decide) rfl ?_
            refine aw_goto (tgt := 111) K dX7_cut_182 (by decide) ?_
            rw [nI_1]
            refine aw_sub [some (.ref (g.2.1 0)), some (.int _), some (.int _), some (.int _), some (.int _), some (.int _), some (.int _), none] ⟨rfl, rfl, rfl, rfl, rfl, rfl, rfl, trivial⟩ ?_
            have z := ih (i + 1) (by omega)
            rw [show toV h0.1 (inV h0.1 N T a N) (i + 1) = toV h0.1 (inV h0.1 N T a N) i ||| (1 : Int32) <<< (nI i &&& 31) from congrArg (toV h0.1 (inV h0.1 N T a N) i ||| ·) (if_pos ⟨fun q => b142 (sb_eq.mpr q), Int32.not_le.mp b165⟩)] at z
            exact z
set_option maxHeartbeats 4000000 in
set_option maxRecDepth 100000 in
theorem lr1X7_cut {l : Launch} {g : Geo} {sta : Nat → Nat} {k : KT} (K : AOK (wM l g sta) mX7_cut k) (h0 h : HS) (a b : Int32) {N T Wn : Nat} (H0 : MW h0 N T Wn) (hx : FS h0 h) (ok : (0 ≤ a ∧ a ≤ 1 <<< (h0.1 0 0 &&& 31) - 1) ∧ ¬ a = 0 ∧ (0 ≤ b ∧ b ≤ 2)) (re : ∀ x, x < 12 → (¬ h.1 16 x = -4 ↔ trS h0.1 N T a x = true)) :
    ∀ (n i : Nat), i + n = N → AW (wM l g sta) (fun o h' => o = some (.int (cuV h0.1 N T a b)) ∧ MS h0 h') 7 mX7_cut k 40 [some (.ref (g.2.1 0)), some (.int a), some (.int b), some (.int (inV h0.1 N T a i)), some (.int (sumU (fun x => if trS h0.1 N T a x = true then 0 else gvV h0.1 x) i)), some (.int (nI i)), none, none] [] h := by
  intro n
  have H := H0.f hx
  have h3 := H.1.2
  induction n with
  | zero =>
    intro i k1
    obtain rfl : i = N := by omega
    refine aw_il5 K dX7_cut_40 ?_
    refine aw_al0 K dX7_cut_42 ?_
    refine aw_getI K gX7_98 dX7_cut_43 rfl rfl ?_
    rw [H.1.1]
    refine aw_icmp_ge (tgt := 105) K dX7_cut_46 (by decide) (fun b46 => ?_) (fun b46 => ?_)
    · refine aw_iconst (v := 0) K dX7_cut_105 (by decide) ?_
      refine aw_is5 K dX7_cut_106 (by decide) rfl ?_
      refine aw_iconst (v := 0) K dX7_cut_108 (by decide) ?_
      refine aw_is6 K dX7_cut_109 (by decide) rfl ?_
      rw [← gb_in h3]
      exact lr2X7_cut K h0 h a b H0 hx ok T 0 (by omega)
    · exact absurd (Int32.le_refl _) b46
  | succ n ih =>
    intro i k1
    have ri := re i (by omega)
    refine aw_il5 K dX7_cut_40 ?_
    refine aw_al0 K dX7_cut_42 ?_
    refine aw_getI K gX7_98 dX7_cut_43 rfl rfl ?_
    rw [H.1.1]
    refine aw_icmp_ge (tgt := 105) K dX7_cut_46 (by decide) (fun b46 => ?_) (fun b46 => ?_)
    · exact absurd b46 (nI_ge (by omega) (by omega))
    · refine aw_il3 K dX7_cut_49 ?_
      refine aw_al0 K dX7_cut_50 ?_
      refine aw_getR K gX7_56 dX7_cut_51 rfl rfl ?_
      refine aw_il5 K dX7_cut_54 ?_
      refine aw_iald K dX7_cut_56 rfl (vp_in_nI (by omega) (by decide)) ?_
      rw [nI_clamp (show i < 2 ^ 31 by omega)]
      refine aw_bipush (v := (-4)) K dX7_cut_57 (by decide) ?_
      refine aw_icmp_eq (tgt := 69) K dX7_cut_59 (by decide) (fun b59 => ?_) (fun b59 => ?_)
      · refine aw_iconst (v := 0) K dX7_cut_69 (by decide) ?_
        refine aw_ior K dX7_cut_70 ?_
        refine aw_is3 K dX7_cut_71 (by decide) rfl ?_
        refine aw_il4 K dX7_cut_72 ?_
        refine aw_al0 K dX7_cut_74 ?_
        refine aw_getR K gX7_56 dX7_cut_75 rfl rfl ?_
        refine aw_il5 K dX7_cut_78 ?_
        refine aw_iald K dX7_cut_80 rfl (vp_in_nI (by omega) (by decide)) ?_
        rw [nI_clamp (show i < 2 ^ 31 by omega)]
        refine aw_bipush (v := (-4)) K dX7_cut_81 (by decide) ?_
        refine aw_icmp_eq (tgt := 90) K dX7_cut_83 (by decide) (fun b83 => ?_) (fun b83 => ?_)
        · refine aw_al0 K dX7_cut_90 ?_
          refine aw_il5 K dX7_cut_91 ?_
          refine aw_callV_I K (tX7_given l g sta _ _ (vp_in_nI (by omega) (by decide))) rfl (by decide) fX7_given lX7_141 dX7_cut_93 rfl clsX7 rfl (Nat.le_of_ble_eq_true rfl) ?_
          refine aw_iadd K dX7_cut_96 ?_
          refine aw_is4 K dX7_cut_97 (by decide) rfl ?_
          refine aw_ii5 (v := _ + 1) K dX7_cut_99 rfl (by decide) rfl ?_
          refine aw_goto (tgt := 40) K dX7_cut_102 (by decide) ?_
          rw [nI_clamp (show i < 2 ^ 31 by omega), hx.gv i]
          rw [nI_1]
          have z := ih (i + 1) (by omega)
          rw [show inV h0.1 N T a (i + 1) = inV h0.1 N T a i ||| _ from congrArg (inV h0.1 N T a i ||| ·) (if_neg (fun q => ri.mpr q b59)), show sumU (fun x => if trS h0.1 N T a x = true then 0 else gvV h0.1 x) (i + 1) = sumU (fun x => if trS h0.1 N T a x = true then 0 else gvV h0.1 x) i + _ from congrArg (sumU (fun x => if trS h0.1 N T a x = true then 0 else gvV h0.1 x) i + ·) (if_neg (fun q => ri.mpr q b59))] at z
          exact z
        · exact absurd b59 b83
      · refine aw_iconst (v := 1) K dX7_cut_62 (by decide) ?_
        refine aw_il5 K dX7_cut_63 ?_
        refine aw_ishl K dX7_cut_65 ?_
        refine aw_goto (tgt := 70) K dX7_cut_66 (by decide) ?_
        refine aw_ior K dX7_cut_70 ?_
        refine aw_is3 K dX7_cut_71 (by decide) rfl ?_
        refine aw_il4 K dX7_cut_72 ?_
        refine aw_al0 K dX7_cut_74 ?_
        refine aw_getR K gX7_56 dX7_cut_75 rfl rfl ?_
        refine aw_il5 K dX7_cut_78 ?_
        refine aw_iald K dX7_cut_80 rfl (vp_in_nI (by omega) (by decide)) ?_
        rw [nI_clamp (show i < 2 ^ 31 by omega)]
        refine aw_bipush (v := (-4)) K dX7_cut_81 (by decide) ?_
        refine aw_icmp_eq (tgt := 90) K dX7_cut_83 (by decide) (fun b83 => ?_) (fun b83 => ?_)
        · exact absurd b83 b59
        · refine aw_iconst (v := 0) K dX7_cut_86 (by decide) ?_
          refine aw_goto (tgt := 96) K dX7_cut_87 (by decide) ?_
          refine aw_iadd K dX7_cut_96 ?_
          refine aw_is4 K dX7_cut_97 (by decide) rfl ?_
          refine aw_ii5 (v := _ + 1) K dX7_cut_99 rfl (by decide) rfl ?_
          refine aw_goto (tgt := 40) K dX7_cut_102 (by decide) ?_
          rw [nI_1]
          have z := ih (i + 1) (by omega)
          rw [show inV h0.1 N T a (i + 1) = inV h0.1 N T a i ||| _ from congrArg (inV h0.1 N T a i ||| ·) (if_pos (ri.mp b59)), show sumU (fun x => if trS h0.1 N T a x = true then 0 else gvV h0.1 x) (i + 1) = sumU (fun x => if trS h0.1 N T a x = true then 0 else gvV h0.1 x) i + _ from congrArg (sumU (fun x => if trS h0.1 N T a x = true then 0 else gvV h0.1 x) i + ·) (if_pos (ri.mp b59))] at z
          exact z
set_option maxHeartbeats 4000000 in
set_option maxRecDepth 100000 in
theorem eX7_cut (l : Launch) (g : Geo) (sta : Nat → Nat) (h : HS) (a b : Int32) {N T Wn : Nat} (H : MW h N T Wn) (s : SML h.1 N T) : CT (wM l g sta) 7 mX7_cut [.ref (g.2.1 0), .int a, .int b] h (fun o h' => o = some (.int (cuV h.1 N T a b)) ∧ MS h h') := by
  refine CT.at [some (.ref (g.2.1 0)), some (.int a), some (.int b), none, none, none, none, none] 5 rfl (by decide) (Nat.le_of_ble_eq_true rfl) (fun k K => ?_)
  refine aw_al0 K dX7_cut_0 ?_
  refine aw_il1 K dX7_cut_1 ?_
  refine aw_callV_I K (tX7_areNames l g sta _ _) rfl (by decide) fX7_areNames lX7_223 dX7_cut_2 rfl clsX7 rfl (Nat.le_of_ble_eq_true rfl) ?_
  refine aw_if_eq (tgt := 24) K dX7_cut_5 (by decide) (fun b5 => ?_) (fun b5 => ?_)
  · refine aw_iconst (v := (-1)) K dX7_cut_24 (by decide) ?_
    refine aw_iret K rfl dX7_cut_25 ?_
    exact ⟨congrArg some (congrArg Value.int (if_neg (fun q => bI_0.mp b5 q.1)).symm), MS.rf⟩
  · refine aw_il1 K dX7_cut_8 ?_
    refine aw_if_eq (tgt := 24) K dX7_cut_9 (by decide) (fun b9 => ?_) (fun b9 => ?_)
    · refine aw_iconst (v := (-1)) K dX7_cut_24 (by decide) ?_
      refine aw_iret K rfl dX7_cut_25 ?_
      exact ⟨congrArg some (congrArg Value.int (if_neg (fun q => q.2.1 b9)).symm), MS.rf⟩
    · refine aw_il2 K dX7_cut_12 ?_
      refine aw_i2l K dX7_cut_13 ?_
      refine aw_lconst (v := 0) K dX7_cut_14 (by decide) ?_
      refine aw_ldc2 K qX7_226 dX7_cut_15 ?_
      refine aw_callS_I K (in32 l g sta _ _ (0) (2) (by decide) (by decide)) rfl (by decide) fX7_in lX7_102 dX7_cut_18 rfl (Nat.le_of_ble_eq_true rfl) ?_
      refine aw_if_ne (tgt := 26) K dX7_cut_21 (by decide) (fun b21 => ?_) (fun b21 => ?_)
      · refine aw_al0 K dX7_cut_26 ?_
        refine aw_il1 K dX7_cut_27 ?_
        refine aw_callV K (trT l g sta _ _ h H s FS.rf) rfl (by decide) fX7_trustOf lX7_220 dX7_cut_28 rfl clsX7 rfl (Nat.le_of_ble_eq_true rfl) (fun o h2 hq => ?_)
        obtain ⟨rfl, hx, re⟩ := hq
        refine (show AW _ _ _ _ _ _ _ (.int _ :: _) _ from ?_)
        refine aw_pop K dX7_cut_31 rfl ?_
        refine aw_iconst (v := 0) K dX7_cut_32 (by decide) ?_
        refine aw_is3 K dX7_cut_33 (by decide) rfl ?_
        refine aw_iconst (v := 0) K dX7_cut_34 (by decide) ?_
        refine aw_is4 K dX7_cut_35 (by decide) rfl ?_
        refine aw_iconst (v := 0) K dX7_cut_37 (by decide) ?_
        refine aw_is5 K dX7_cut_38 (by decide) rfl ?_
        exact lr1X7_cut K h _ a b H hx ⟨bI_1.mp b5, b9, bI_1.mp b21⟩ re N 0 (by omega)
      · refine aw_iconst (v := (-1)) K dX7_cut_24 (by decide) ?_
        refine aw_iret K rfl dX7_cut_25 ?_
        exact ⟨congrArg some (congrArg Value.int (if_neg (fun q => bI_0.mp b21 q.2.2)).symm), MS.rf⟩

