/-- the cheat is parted, as far as i -/
def cz (c : Nat → Nat → Int) (i a b : Nat) : Int := if (b = 12 ∧ a < i) ∨ (a = 12 ∧ b < i) then 0 else c a b
def PC (h : HS) (c : Nat → Nat → Int) (i : Nat) : Prop := LB (h.1 34) (cz c i) ∧ ∀ a b, a < 14 → b < 14 → a ≠ 12 → (bt (h.1 35 a) b = true ↔ 0 < cz c i a b)
theorem b_4097 : ∀ q, q < 32 → bt (-4097) q = decide (q ≠ 12) := by decide +kernel
theorem PC.go {h : HS} {c : Nat → Nat → Int} {i : Nat} (s : PC h c i) (hi : i < 14) : PC (setI (setI (setI h 34 (14 * i + 12) 0) 34 (14 * 12 + i) 0) 35 i (h.1 35 i &&& (-4097))) c (i + 1) := by
  obtain ⟨s1, s2⟩ := s
  refine ⟨?_, fun a b ha hb ne => ?_⟩
  · have L1 := LB.put (c' := fun a b => if a = i ∧ b = 12 then 0 else cz c i a b) s1 hi (by decide : 12 < 14) (v := 0) (by rw [if_pos ⟨rfl, rfl⟩]; rfl) (fun a b _ _ q => if_neg q)
    have L2 := LB.put (c' := cz c (i + 1)) L1 (by decide : 12 < 14) hi (v := 0) (by unfold cz; rw [if_pos (Or.inr ⟨rfl, Nat.lt_succ_self _⟩)]; rfl) (fun a b _ _ q => by
      show cz c (i + 1) a b = if a = i ∧ b = 12 then 0 else cz c i a b
      unfold cz
      by_cases z : a = i ∧ b = 12
      · rw [if_pos (Or.inl ⟨z.2, by omega⟩), if_pos z]
      · rw [if_neg z]
        by_cases y : (b = 12 ∧ a < i) ∨ (a = 12 ∧ b < i)
        · rw [if_pos y, if_pos (by omega)]
        · rw [if_neg y, if_neg (by omega)])
    exact L2
  · show (bt (upd (h.1 35) i (h.1 35 i &&& (-4097)) a) b = true ↔ 0 < cz c (i + 1) a b)
    by_cases z : a = i
    · subst z
      rw [show upd (h.1 35) a (h.1 35 a &&& (-4097)) a = h.1 35 a &&& (-4097) from if_pos rfl, b_and, b_4097 b (by omega), Bool.and_eq_true, s2 a b ha hb ne]
      unfold cz
      by_cases y : b = 12
      · rw [if_pos (show (b = 12 ∧ a < a + 1) ∨ (a = 12 ∧ b < a + 1) from Or.inl ⟨y, Nat.lt_succ_self _⟩)]
        simp [y]
      · rw [if_neg (show ¬ ((b = 12 ∧ a < a + 1) ∨ (a = 12 ∧ b < a + 1)) by omega), if_neg (show ¬ ((b = 12 ∧ a < a) ∨ (a = 12 ∧ b < a)) by omega)]
        simp [y]
    · rw [show upd (h.1 35) i (h.1 35 i &&& (-4097)) a = h.1 35 a from if_neg z, s2 a b ha hb ne]
      unfold cz
      by_cases y : (b = 12 ∧ a < i) ∨ (a = 12 ∧ b < i)
      · rw [if_pos y, if_pos (show (b = 12 ∧ a < i + 1) ∨ (a = 12 ∧ b < i + 1) by omega)]
      · rw [if_neg y, if_neg (show ¬ ((b = 12 ∧ a < i + 1) ∨ (a = 12 ∧ b < i + 1)) by omega)]
theorem PC.end {h : HS} {g : Nat → Int} {W : Nat → Nat → Int} {k : Nat → Int} (s : PC h (cX g W k) 14) : LWX (setI h 35 12 0) (cX g W (fun _ => 0)) := by
  have e : ∀ a b, a < 14 → b < 14 → cz (cX g W k) 14 a b = cX g W (fun _ => 0) a b := by
    intro a b ha hb
    unfold cz
    by_cases y : (b = 12 ∧ a < 14) ∨ (a = 12 ∧ b < 14)
    · rw [if_pos y]
      rcases y with y | y
      · rw [y.1]
        exact (cX_i a).1.symm
      · rw [y.1]
        exact (cX_i b).2.symm
    · rw [if_neg y]
      unfold cX
      rw [if_neg (show ¬ b = 12 by omega), if_neg (show ¬ b = 12 by omega), if_neg (show ¬ a = 12 by omega), if_neg (show ¬ a = 12 by omega)]
  refine ⟨s.1.c e, fun a b ha hb => ?_⟩
  show (bt (upd (h.1 35) 12 0 a) b = true ↔ 0 < cX g W (fun _ => 0) a b)
  by_cases z : a = 12
  · rw [show upd (h.1 35) 12 0 a = 0 from if_pos z, b_0, z, (cX_i b).2]
    decide
  · rw [show upd (h.1 35) 12 0 a = h.1 35 a from if_neg z, ← e a b ha hb]
    exact s.2 a b ha hb z
set_option maxHeartbeats 4000000 in
set_option maxRecDepth 100000 in
theorem lrX0_partCheat {l : Launch} {g : Geo} {sta : Nat → Nat} {k : KT} (K : AOK (wX l g sta) mX0_partCheat k) (h0 : HS) (g0 : Nat → Int) (W : Nat → Nat → Int) (k0 : Nat → Int) :
    ∀ (n i : Nat) (h : HS), i ≤ 14 → 14 - i < n → XQ h0 h → PC h (cX g0 W k0) i → AW (wX l g sta) (LQ h0 (cX g0 W (fun _ => 0))) 1 mX0_partCheat k 2 [some (.ref (g.2.1 5)), some (.int (nI i))] [] h := by
  intro n
  induction n with
  | zero => intro i h h1 h2; omega
  | succ n ih =>
    intro i h h1 h2 hx s
    refine aw_il1 K dX0_partCheat_2 ?_
    refine aw_bipush (v := 14) K dX0_partCheat_3 (by decide) ?_
    refine aw_icmp_ge (tgt := 50) K dX0_partCheat_5 (by decide) (fun b5 => ?_) (fun b5 => ?_)
    · have hge : 14 ≤ i := (nI_leI (a := 14) (by omega) (by omega : i < 2 ^ 31)).mp b5
      obtain rfl : i = 14 := by omega
      refine aw_al0 K dX0_partCheat_50 ?_
      refine aw_getR K gX0_15 dX0_partCheat_51 rfl rfl ?_
      refine aw_bipush (v := 12) K dX0_partCheat_54 (by decide) ?_
      refine aw_iconst (v := 0) K dX0_partCheat_56 (by decide) ?_
      refine aw_iast K dX0_partCheat_57 rfl v12 ?_
      refine aw_vret K rfl dX0_partCheat_58 ?_
      exact ⟨rfl, hx.pt rfl (by decide), s.end⟩
    · have hlt : i < 14 := by
        rcases Nat.lt_or_ge i 14 with q | q
        · exact q
        · exact absurd (nI_le (a := 14) q (by omega)) b5
      refine aw_al0 K dX0_partCheat_8 ?_
      refine aw_getR K gX0_11 dX0_partCheat_9 rfl rfl ?_
      refine aw_il1 K dX0_partCheat_12 ?_
      refine aw_bipush (v := 14) K dX0_partCheat_13 (by decide) ?_
      refine aw_imul K dX0_partCheat_15 ?_
      refine aw_bipush (v := 12) K dX0_partCheat_16 (by decide) ?_
      refine aw_iadd K dX0_partCheat_18 ?_
      rw [show (12 : Int32) = nI 12 from rfl, xc]
      refine aw_iconst (v := 0) K dX0_partCheat_19 (by decide) ?_
      refine aw_iast K dX0_partCheat_20 rfl (vp_in_nI (show 14 * i + 12 < 196 by omega) (by decide)) ?_
      refine aw_al0 K dX0_partCheat_21 ?_
      refine aw_getR K gX0_11 dX0_partCheat_22 rfl rfl ?_
      refine aw_sipush (v := 168) K dX0_partCheat_25 (by decide) ?_
      refine aw_il1 K dX0_partCheat_28 ?_
      refine aw_iadd K dX0_partCheat_29 ?_
      rw [show (168 : Int32) = nI 168 from rfl, nI_add]
      refine aw_iconst (v := 0) K dX0_partCheat_30 (by decide) ?_
      refine aw_iast K dX0_partCheat_31 rfl (vp_in_nI (show 168 + i < 196 by omega) (by decide)) ?_
      refine aw_al0 K dX0_partCheat_32 ?_
      refine aw_getR K gX0_15 dX0_partCheat_33 rfl rfl ?_
      refine aw_il1 K dX0_partCheat_36 ?_
      refine aw_dup2_11 K dX0_partCheat_37 rfl rfl ?_
      refine aw_iald K dX0_partCheat_38 rfl (vp_in_nI hlt (by decide)) ?_
      refine aw_sipush (v := (-4097)) K dX0_partCheat_39 (by decide) ?_
      refine aw_iand K dX0_partCheat_42 ?_
      refine aw_iast K dX0_partCheat_43 rfl (vp_in_nI hlt (by decide)) ?_
      refine aw_ii1 (v := _ + 1) K dX0_partCheat_44 rfl (by decide) rfl ?_
      refine aw_goto (tgt := 2) K dX0_partCheat_47 (by decide) ?_
      rw [nI_1, nI_clamp (show i < 2 ^ 31 by omega), nI_clamp (show 14 * i + 12 < 2 ^ 31 by omega), nI_clamp (show 168 + i < 2 ^ 31 by omega)]
      exact ih (i + 1) _ (by omega) (by omega) (((hx.pt rfl (by decide)).pt rfl (by decide)).pt rfl (by decide)) (s.go hlt)
set_option maxHeartbeats 4000000 in
set_option maxRecDepth 100000 in
theorem paX (l : Launch) (g : Geo) (sta : Nat → Nat) (h : HS) (h0 : HS) (hq : XQ h0 h) (g0 : Nat → Int) (W : Nat → Nat → Int) (k0 : Nat → Int) (hL : LWX h (cX g0 W k0)) : CT (wX l g sta) 1 mX0_partCheat [.ref (g.2.1 5)] h (LQ h0 (cX g0 W (fun _ => 0))) := by
  refine CT.at [some (.ref (g.2.1 5)), none] 1 rfl (by decide) (Nat.le_of_ble_eq_true rfl) (fun k K => ?_)
  refine aw_iconst (v := 0) K dX0_partCheat_0 (by decide) ?_
  refine aw_is1 K dX0_partCheat_1 (by decide) rfl ?_
  have e : ∀ a b, cz (cX g0 W k0) 0 a b = cX g0 W k0 a b := fun a b => if_neg (fun z => z.elim (fun y => absurd y.2 (Nat.not_lt_zero _)) (fun y => absurd y.2 (Nat.not_lt_zero _)))
  exact lrX0_partCheat K h0 g0 W k0 15 0 h (by omega) (by omega) hq ⟨hL.1.c (fun a b _ _ => (e a b).symm), fun a b ha hb _ => by rw [e a b]; exact hL.2 a b ha hb⟩

theorem jo_k {g : Nat → Int} {W : Nat → Nat → Int} {F : Int} {a : Int32} {i : Nat} (hi : i < 12) (hb : (a >>> (nI i &&& 31)) &&& 1 = 1) (p q : Nat) (hp : p < 14) (hq : q < 14) : cA (cA (cX g W (kF F a i)) i 12 F) 12 i F p q = cX g W (kF F a (i + 1)) p q := by
  have k0 : kF F a i i = 0 := if_neg (fun z => absurd z.1 (Nat.lt_irrefl _))
  have k1 : kF F a (i + 1) i = F := if_pos ⟨Nat.lt_succ_self _, hb⟩
  have ko : ∀ x, x ≠ i → kF F a (i + 1) x = kF F a i x := by
    intro x hx
    unfold kF
    have y : (x < i + 1 ∧ (a >>> (nI x &&& 31)) &&& 1 = 1) ↔ (x < i ∧ (a >>> (nI x &&& 31)) &&& 1 = 1) := ⟨fun z => ⟨by omega, z.2⟩, fun z => ⟨by omega, z.2⟩⟩
    simp only [y]
  unfold cA cX
  by_cases q1 : p = 13
  · rw [if_pos q1, if_pos q1, if_neg (show ¬ (i = p ∧ 12 = q) by omega), if_neg (show ¬ (12 = p ∧ i = q) by omega)]
    omega
  · rw [if_neg q1, if_neg q1]
    by_cases q2 : p < 12 ∧ q < 12
    · rw [if_pos q2, if_pos q2, if_neg (show ¬ (i = p ∧ 12 = q) by omega), if_neg (show ¬ (12 = p ∧ i = q) by omega)]
      omega
    · rw [if_neg q2, if_neg q2]
      by_cases q3 : q = 12
      · rw [if_pos q3, if_pos q3, if_neg (show ¬ (12 = p ∧ i = q) by omega)]
        by_cases q4 : i = p
        · rw [if_pos (show i = p ∧ 12 = q from ⟨q4, q3.symm⟩), if_pos (show p < 12 by omega), if_pos (show p < 12 by omega), ← q4, k0, k1]
          omega
        · rw [if_neg (show ¬ (i = p ∧ 12 = q) by omega), ko p (fun z => q4 z.symm)]
          omega
      · rw [if_neg q3, if_neg q3, if_neg (show ¬ (i = p ∧ 12 = q) by omega)]
        by_cases q4 : p = 12
        · rw [if_pos q4, if_pos q4]
          by_cases q5 : i = q
          · rw [if_pos (show 12 = p ∧ i = q from ⟨q4.symm, q5⟩), if_pos (show q < 12 by omega), if_pos (show q < 12 by omega), ← q5, k0, k1]
            omega
          · rw [if_neg (show ¬ (12 = p ∧ i = q) by omega), ko q (fun z => q5 z.symm)]
            omega
        · rw [if_neg q4, if_neg q4, if_neg (show ¬ (12 = p ∧ i = q) by omega)]
          omega
theorem nj_k {g : Nat → Int} {W : Nat → Nat → Int} {F : Int} {a : Int32} {i : Nat} (hb : ¬ (a >>> (nI i &&& 31)) &&& 1 = 1) : kF F a (i + 1) = kF F a i := by
  funext x
  unfold kF
  have y : (x < i + 1 ∧ (a >>> (nI x &&& 31)) &&& 1 = 1) ↔ (x < i ∧ (a >>> (nI x &&& 31)) &&& 1 = 1) := ⟨fun z => ⟨by
    rcases Nat.lt_or_ge x i with u | u
    · exact u
    · have e : x = i := by omega
      rw [e] at z
      exact absurd z.2 hb, z.2⟩, fun z => ⟨by omega, z.2⟩⟩
  simp only [y]
theorem FI.k {c r : Nat → Nat → Int} {s : Nat} {K K' : Nat → Prop} {v : Int} (h : FI c r s K v) (e : ∀ x, x < 14 → K x → K' x) : FI c r s K' v := ⟨h.1, h.2.1, fun x hx n1 n2 => h.2.2.1 x hx n1 (fun z => n2 (e x hx z)), h.2.2.2⟩
theorem bt_4096 : ∀ x, x < 14 → (bt 4096 x = true ↔ x = 12) := by decide +kernel
theorem cX_k {g : Nat → Int} {W : Nat → Nat → Int} {k : Nat → Int} (a : Nat) (ha : a < 12) : cX g W k a 12 = k a := (if_neg (by omega)).trans ((if_neg (by omega)).trans ((if_pos rfl).trans (if_pos ha)))
theorem cX_0 {g : Nat → Int} {W : Nat → Nat → Int} {k : Nat → Int} : cX g W k 13 12 = 0 := (if_pos rfl).trans (if_neg (by decide))
noncomputable def gnV (v : Nat → Nat → Int32) (N T : Nat) (a b c : Int32) : Int32 := c * Int32.ofInt (TV (gI v N) (wI v T) (kF b.toInt a N)) - coV v a N
def LYK (h0 h : HS) (N T : Nat) : Prop := XQ h0 h ∧ ∃ k, LWX h (cX (gI (vX h0) N) (wI (vX h0) T) k)
/-- the class's flow to the cheat -/
theorem moG (l : Launch) (g : Geo) (sta : Nat → Nat) (h : HS) (a : Int32) (F : Int) (f0 : 0 ≤ F) (f1 : F ≤ 1000000) (h0 : HS) {N T Wn : Nat} (H0 : XW h0 N T Wn) (s : SML (vX h0) N T) (hq : XQ h0 h) (hL : LWX h (cX (gI (vX h0) N) (wI (vX h0) T) (kF F a N))) : CT (wX l g sta) 3 mX0_most [.ref (g.2.1 5), .int 4096] h (fun o h' => o = some (.int (Int32.ofInt (TV (gI (vX h0) N) (wI (vX h0) T) (kF F a N)))) ∧ LYK h0 h' N T) := by
  have hT := H0.2.1.2
  have xb := s.xb (k := kF F a N) hT (Nat.le_refl _) (Nat.le_refl _) (kF_b f0 f1 a N)
  refine CT.imp (moX l g sta h 4096 h0 hq _ (fun a b _ _ => (xb a b).1) (fun a b _ _ => by have h1 := xb a b; have h2 := xb b a; omega) (fun r v f => ?_) (by decide) hL) (fun o h' q => ?_)
  · have f2 := (f.k (K' := fun x => x = 12) (fun x hx z => (bt_4096 x hx).mp z)).lg (Or.inr ⟨rfl, rfl⟩) cX_g cX_0 cX_k cX_W
    have := s.gs
    omega
  · obtain ⟨q1, q2, r, F', L, R, q3, fi, rc, cl, nk, re⟩ := q
    have mc := mc_of (Or.inr ⟨rfl, rfl⟩) (fi.k (K' := fun x => x = 12) (fun x hx z => (bt_4096 x hx).mp z)) rc (by
      cases y : F' 12
      · rfl
      · exact absurd (nk 12 (by decide) y) (by decide)) cl cX_g cX_0 cX_k cX_W
    refine ⟨?_, q1, kF F a N, ?_⟩
    · rw [q3, of_tv (mc.tv).1]
    · have e34 := q2 34 (by decide) (by decide) (by decide) (by decide) (by decide)
      have e35 := q2 35 (by decide) (by decide) (by decide) (by decide) (by decide)
      unfold LWX
      rw [e34, e35]
      exact hL
