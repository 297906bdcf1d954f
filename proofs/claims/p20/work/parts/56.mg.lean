theorem rI_mvh {h : HS} {c0 a x : Nat} {v : Int32} (ha : a < 14) (hx : x < 14) (ne : a ≠ x) (h0 : 0 ≤ v.toInt) (h1 : v.toInt ≤ rI (h.1 c0) a x) (h3 : 0 ≤ rI (h.1 c0) x a) (h2 : rI (h.1 c0) x a + v.toInt < 2147483648) {p q : Nat} (hp : p < 14) (hq : q < 14) : rI ((setI (setI h c0 (14 * a + x) (h.1 c0 (14 * a + x) - v)) c0 (14 * x + a) ((setI h c0 (14 * a + x) (h.1 c0 (14 * a + x) - v)).1 c0 (14 * x + a) + v)).1 c0) p q = mv (rI (h.1 c0)) v.toInt a x p q := by
  have hb := Int32.toInt_lt (h.1 c0 (14 * a + x))
  have e1 : (h.1 c0 (14 * a + x)).toInt = rI (h.1 c0) a x := rfl
  have e2 : (h.1 c0 (14 * x + a)).toInt = rI (h.1 c0) x a := rfl
  show ((setI (setI h c0 (14 * a + x) (h.1 c0 (14 * a + x) - v)) c0 (14 * x + a) ((setI h c0 (14 * a + x) (h.1 c0 (14 * a + x) - v)).1 c0 (14 * x + a) + v)).1 c0 (14 * p + q)).toInt = _
  by_cases z1 : p = a ∧ q = x
  · obtain ⟨rfl, rfl⟩ := z1
    rw [rdI, if_neg (fun z => by omega), rdI, if_pos ⟨rfl, rfl⟩, mv_1, toI_sub (by omega) (by omega), e1]
  · by_cases z2 : p = x ∧ q = a
    · obtain ⟨rfl, rfl⟩ := z2
      rw [rdI, if_pos ⟨rfl, rfl⟩, rdI, if_neg (fun z => by omega), mv_2 ne, toI_add (by omega) (by omega), e2]
    · rw [rdI, if_neg (fun z => by omega), rdI, if_neg (fun z => by omega), mv_o z1 z2]
      rfl
theorem pos_I {x : Int32} : 0 < x ↔ 0 < x.toInt := by
  rw [Int32.lt_iff_toInt_lt]
  exact Iff.rfl
/-- what the reference's flow leaves -/
def FLQ (h0 : HS) (c : Nat → Nat → Int) : Option Value → HS → Prop := fun o h' => FS h0 h' ∧ ∃ (r : Int32) (rk : Nat → Nat), o = some (.int r) ∧ FI c (rI (h'.1 15)) 12 (fun x => x = 13) r.toInt ∧ RC (rI (h'.1 15)) 12 (fun x => decide (¬ h'.1 16 x = -4)) rk ∧ h'.1 16 13 = -4 ∧ ∀ a b, a < 14 → b < 14 → ¬ h'.1 16 a = -4 → h'.1 16 b = -4 → rI (h'.1 15) a b = 0
theorem WF.rc {b f : Nat → Int32} {rk : Nat → Nat} {mn : Nat} (h : WF b f rk mn) : RC (rI f) 12 (fun x => decide (¬ b x = -4)) rk := by
  refine ⟨decide_eq_true (by rw [h.1]; decide), fun x hx q => ?_⟩
  rcases (h.2 x hx (of_decide_eq_true q)).2 with z | ⟨a, a1, a2, a3, a4, a5⟩
  · exact Or.inl z
  · exact Or.inr ⟨a, a1, decide_eq_true a3, a4, pos_I.mp a5⟩
set_option maxHeartbeats 4000000 in
set_option maxRecDepth 100000 in
theorem lq2X7_flows {l : Launch} {g : Geo} {sta : Nat → Nat} {k : KT} {P : Option Value → HS → Prop} (K : AOK (wM l g sta) mX7_flows k) (h1 : HS) (c : Nat → Nat → Int) (hC : ∀ a b, a < 14 → b < 14 → c a b + c b a < 2147483648) (al v : Int32) (rk : Nat → Nat) (mn : Nat) (hw : WF (h1.1 16) (h1.1 15) rk mn) (hv : 0 < v)
    (hk : ∀ h : HS, (∀ c, c ≠ 15 → h.1 c = h1.1 c) → FP c (rI (h1.1 15)) (rI (h.1 15)) rk v.toInt 13 12 → AW (wM l g sta) P 3 mX7_flows k 121 [some (.ref (g.2.1 0)), some (.int al), some (.int v), none, none] [] h) :
    ∀ (n x : Nat) (h : HS), rk x < n → x < 14 → ¬ h1.1 16 x = -4 → (∀ c, c ≠ 15 → h.1 c = h1.1 c) → FP c (rI (h1.1 15)) (rI (h.1 15)) rk v.toInt 13 x → (∀ m, okP (h1.1 16) (h1.1 15) v m x) → AW (wM l g sta) P 3 mX7_flows k 65 [some (.ref (g.2.1 0)), some (.int al), some (.int v), some (.int (nI x)), none] [] h := by
  intro n
  have hv0 : 0 < v.toInt := pos_I.mp hv
  induction n with
  | zero => intro x h k1; omega
  | succ n ih =>
    intro x h k1 hx nx hc hf ho
    by_cases q : x = 12
    · subst q
      refine aw_il3 K dX7_flows_65 ?_
      refine aw_bipush (v := 12) K dX7_flows_66 (by decide) ?_
      refine aw_icmp_eq (tgt := 121) K dX7_flows_68 (by decide) (fun b68 => ?_) (fun b68 => ?_)
      · refine aw_sub [some (.ref (g.2.1 0)), some (.int _), some (.int _), none, none] ⟨rfl, rfl, rfl, trivial⟩ ?_
        exact hk h hc hf
      · exact absurd rfl b68
    · obtain ⟨a, ha, e1, na, ra, pa, ea⟩ := hw.at hx nx q
      have e16 := hc 16 (by decide)
      rw [← e16] at e1
      have hi1 : vp_in (nI (14 * a + x)) 196 := vp_in_nI (by omega) (by decide)
      have hi2 : vp_in (nI (14 * x + a)) 196 := vp_in_nI (by omega) (by decide)
      have ne : a ≠ x := fun z => by rw [z] at ra; exact Nat.lt_irrefl _ ra
      have o1 : v.toInt ≤ rI (h1.1 15) a x := by
        have o2 := ((ho 1).resolve_left q).1
        rw [ea] at o2
        exact Int32.le_iff_toInt_le.mp o2
      have u1 := hf.2.2.2 x a hx ha (Nat.le_refl _) ra
      have u2 := hf.1 x a hx ha
      have u3 := hf.2.1 a x ha hx
      have u4 := hC a x ha hx
      have fg := (hf.go hx ha ra (by omega) o1).c (fun p y hp hy => rI_mvh (h := h) (c0 := 15) (v := v) ha hx ne (by omega) (by omega) u2 (by omega) hp hy)
      refine aw_il3 K dX7_flows_65 ?_
      refine aw_bipush (v := 12) K dX7_flows_66 (by decide) ?_
      refine aw_icmp_eq (tgt := 121) K dX7_flows_68 (by decide) (fun b68 => ?_) (fun b68 => ?_)
      · exact absurd ((nI_eq (b := 12) (by omega) (by decide)).mp b68) q
      · refine aw_al0 K dX7_flows_71 ?_
        refine aw_getR K gX7_53 dX7_flows_72 rfl rfl ?_
        refine aw_bipush (v := 14) K dX7_flows_75 (by decide) ?_
        refine aw_al0 K dX7_flows_77 ?_
        refine aw_getR K gX7_56 dX7_flows_78 rfl rfl ?_
        refine aw_il3 K dX7_flows_81 ?_
        refine aw_iald K dX7_flows_82 rfl (vp_in_nI hx (by decide)) ?_
        rw [nI_clamp (show x < 2 ^ 31 by omega), e1]
        refine aw_imul K dX7_flows_83 ?_
        refine aw_il3 K dX7_flows_84 ?_
        refine aw_iadd K dX7_flows_85 ?_
        rw [xm]
        refine aw_dup2_11 K dX7_flows_86 rfl rfl ?_
        refine aw_iald K dX7_flows_87 rfl hi1 ?_
        refine aw_il2 K dX7_flows_88 ?_
        refine aw_isub K dX7_flows_89 ?_
        refine aw_iast K dX7_flows_90 rfl hi1 ?_
        refine aw_al0 K dX7_flows_91 ?_
        refine aw_getR K gX7_53 dX7_flows_92 rfl rfl ?_
        refine aw_bipush (v := 14) K dX7_flows_95 (by decide) ?_
        refine aw_il3 K dX7_flows_97 ?_
        refine aw_imul K dX7_flows_98 ?_
        refine aw_al0 K dX7_flows_99 ?_
        refine aw_getR K gX7_56 dX7_flows_100 rfl rfl ?_
        refine aw_il3 K dX7_flows_103 ?_
        refine aw_iald K dX7_flows_104 rfl (vp_in_nI hx (by decide)) ?_
        rw [nI_clamp (show x < 2 ^ 31 by omega), show (setI h 15 (nI (14 * a + x)).toNatClampNeg (h.1 15 (nI (14 * a + x)).toNatClampNeg - v)).1 16 x = nI a from e1]
        refine aw_iadd K dX7_flows_105 ?_
        rw [xm]
        refine aw_dup2_11 K dX7_flows_106 rfl rfl ?_
        refine aw_iald K dX7_flows_107 rfl hi2 ?_
        refine aw_il2 K dX7_flows_108 ?_
        refine aw_iadd K dX7_flows_109 ?_
        refine aw_iast K dX7_flows_110 rfl hi2 ?_
        refine aw_al0 K dX7_flows_111 ?_
        refine aw_getR K gX7_56 dX7_flows_112 rfl rfl ?_
        refine aw_il3 K dX7_flows_115 ?_
        refine aw_iald K dX7_flows_116 rfl (vp_in_nI hx (by decide)) ?_
        refine aw_is3 K dX7_flows_117 (by decide) rfl ?_
        refine aw_goto (tgt := 65) K dX7_flows_118 (by decide) ?_
        rw [nI_clamp (show x < 2 ^ 31 by omega), nI_clamp (show 14 * a + x < 2 ^ 31 by omega), nI_clamp (show 14 * x + a < 2 ^ 31 by omega)]
        rw [show (setI (setI h 15 (14 * a + x) (h.1 15 (14 * a + x) - v)) 15 (14 * x + a) ((setI h 15 (14 * a + x) (h.1 15 (14 * a + x) - v)).1 15 (14 * x + a) + v)).1 16 x = nI a from e1]
        refine ih a _ (by omega) ha na (fun c q1 => ?_) fg (fun m => ?_)
        · rw [setI_w q1, setI_w q1]
          exact hc c q1
        · have o3 := ((ho (m + 1)).resolve_left q).2
          rw [ea] at o3
          exact o3
set_option maxHeartbeats 4000000 in
set_option maxRecDepth 100000 in
theorem lq0X7_flows {l : Launch} {g : Geo} {sta : Nat → Nat} {k : KT} (K : AOK (wM l g sta) mX7_flows k) (h0 : HS) (c : Nat → Nat → Int) (hC : ∀ a b, a < 14 → b < 14 → c a b + c b a < 2147483648) (hB : ∀ r v, FI c r 12 (fun x => x = 13) v → v < 2147483648) :
    ∀ (n : Nat) (al : Int32) (h : HS), (2147483648 - al.toInt).toNat < n → FS h0 h → 0 ≤ al.toInt → FI c (rI (h.1 15)) 12 (fun x => x = 13) al.toInt → AW (wM l g sta) (FLQ h0 c) 3 mX7_flows k 2 [some (.ref (g.2.1 0)), some (.int al), none, none, none] [] h := by
  intro n
  induction n with
  | zero => intro al h k1; omega
  | succ n ih =>
    intro al h k1 hx k2 hf
    refine aw_al0 K dX7_flows_2 ?_
    refine aw_callV K (reX l g sta h) rfl (by decide) fX7_reaches lX7_209 dX7_flows_3 rfl clsX7 rfl (Nat.le_of_ble_eq_true rfl) (fun o h2 hq => ?_)
    obtain ⟨rfl, hc, rk, mn, hw, hcl⟩ := hq
    have e15 : h2.1 15 = h.1 15 := hc 15 (by decide) (by decide)
    have hx2 : FS h0 h2 := fun c hc2 => (hc c (fun u => by rw [u] at hc2; cases hc2) (fun u => by rw [u] at hc2; cases hc2)).trans (hx c hc2)
    have hf2 : FI c (rI (h2.1 15)) 12 (fun x => x = 13) al.toInt := by
      rw [e15]
      exact hf
    refine (show AW _ _ _ _ _ _ _ (.int _ :: _) _ from ?_)
    refine aw_if_eq (tgt := 128) K dX7_flows_6 (by decide) (fun b6 => ?_) (fun b6 => ?_)
    · have y13 : h2.1 16 13 = -4 := by
        apply Classical.byContradiction
        intro q
        rw [bI_t q] at b6
        exact absurd b6 (by decide)
      refine aw_il1 K dX7_flows_128 ?_
      refine aw_iret K rfl dX7_flows_129 ?_
      refine ⟨hx2, al, rk, rfl, hf2, hw.rc, y13, fun a b ha hb na nb => ?_⟩
      have z1 := hf2.1 a b ha hb
      have z2 : ¬ 0 < rI (h2.1 15) a b := fun z => hcl a b ha hb na nb (pos_I.mpr z)
      omega
    · have n13 := bI_1.mp b6
      refine aw_ldc K qX7_213 dX7_flows_9 ?_
      refine aw_is2 K dX7_flows_11 (by decide) rfl ?_
      refine aw_bipush (v := 13) K dX7_flows_12 (by decide) ?_
      refine aw_is3 K dX7_flows_14 (by decide) rfl ?_
      refine lp1X7_flows K h2 al rk mn hw (rk 13 + 1) 13 _ (by omega) (by decide) n13 (by decide) (fun u hu hu2 ho => ?_)
      refine aw_bipush (v := 13) K dX7_flows_62 (by decide) ?_
      refine aw_is3 K dX7_flows_64 (by decide) rfl ?_
      refine lq2X7_flows K h2 c hC al u rk mn hw hu (fun h3 hc3 hf3 => ?_) (rk 13 + 1) 13 h2 (by omega) (by decide) n13 (fun _ _ => rfl) (FP.st hf2 rk _ 13) ho
      have fi3 := hf3.end hf2 (by decide) rfl (by decide)
      have b3 := hB _ _ fi3
      have u0 := pos_I.mp hu
      have ea : (al + u).toInt = al.toInt + u.toInt := toI_add (by omega) (by omega)
      refine aw_il1 K dX7_flows_121 ?_
      refine aw_il2 K dX7_flows_122 ?_
      refine aw_iadd K dX7_flows_123 ?_
      refine aw_is1 K dX7_flows_124 (by decide) rfl ?_
      refine aw_goto (tgt := 2) K dX7_flows_125 (by decide) ?_
      refine aw_sub [some (.ref (g.2.1 0)), some (.int _), none, none, none] ⟨rfl, rfl, trivial⟩ ?_
      refine ih _ h3 ?_ (fun c hc2 => (hc3 c (fun u => by rw [u] at hc2; cases hc2)).trans (hx2 c hc2)) ?_ ?_
      · rw [ea]
        omega
      · rw [ea]
        omega
      · rw [ea]
        exact fi3
set_option maxHeartbeats 4000000 in
set_option maxRecDepth 100000 in
theorem flX (l : Launch) (g : Geo) (sta : Nat → Nat) (h : HS) (h0 : HS) (hx : FS h0 h) (c : Nat → Nat → Int) (hC : ∀ a b, a < 14 → b < 14 → c a b + c b a < 2147483648) (hB : ∀ r v, FI c r 12 (fun x => x = 13) v → v < 2147483648) (hf : FI c (rI (h.1 15)) 12 (fun x => x = 13) 0) : CT (wM l g sta) 3 mX7_flows [.ref (g.2.1 0)] h (FLQ h0 c) := by
  refine CT.at [some (.ref (g.2.1 0)), none, none, none, none] 4 rfl (by decide) (Nat.le_of_ble_eq_true rfl) (fun k K => ?_)
  refine aw_iconst (v := 0) K dX7_flows_0 (by decide) ?_
  refine aw_is1 K dX7_flows_1 (by decide) rfl ?_
  exact lq0X7_flows K h0 c hC hB _ 0 h (Nat.lt_succ_self _) hx (by decide) hf

theorem FI.st {c r : Nat → Nat → Int} {s : Nat} {K : Nat → Prop} (hs : s < 14) (h : ∀ a b, a < 14 → b < 14 → r a b = c a b) (h0 : ∀ a b, a < 14 → b < 14 → 0 ≤ c a b) : FI c r s K 0 := by
  have e : ∀ x, x < 14 → ex c r x = 0 := by
    intro x hx
    unfold ex
    rw [sm_c (g := fun _ => 0) 14 (fun b hb => by rw [h x b hx hb]; omega), sm_0]
  refine ⟨fun a b ha hb => by rw [h a b ha hb]; exact h0 a b ha hb, fun a b ha hb => by rw [h a b ha hb, h b a hb ha], fun x hx _ _ => e x hx, e s hs⟩
theorem cv_0 (g : Nat → Int) (W : Nat → Nat → Int) (k : Nat → Int) : cv g W k (fun _ => false) = sm g 12 := by
  refine sm_c 12 (fun a _ => ?_)
  show (if false = true then _ else g a) + sm (fun b => xS (fun _ => false) W a b) 12 = g a
  rw [if_neg (by decide), sm_c (g := fun _ => 0) 12 (fun b _ => xS_1 rfl), sm_0]
  omega
theorem FI.lg {s z : Nat} {c r W : Nat → Nat → Int} {g k : Nat → Int} {v : Int} (hsz : (s = 12 ∧ z = 13) ∨ (s = 13 ∧ z = 12)) (h : FI c r s (fun x => x = z) v) (hg : ∀ a, a < 12 → c s a = g a) (h0 : c s z = 0) (hk : ∀ a, a < 12 → c a z = k a) (hW : ∀ a b, a < 12 → b < 12 → c a b = W a b) : v ≤ sm g 12 := by
  have hzs : z ≠ s := by omega
  have a1 := h.le (S := sX s z (fun _ => false)) (by omega) sX_s (fun x _ q => by subst q; exact sX_z hzs)
  rw [cap_cv hsz sX_s (sX_z hzs) hg h0 (fun a ha _ => hk a ha) hW] at a1
  rw [cv_c (X' := fun _ => false) (fun _ _ => rfl) (fun _ _ _ _ => rfl) (fun _ _ _ => rfl) (fun a ha => sX_o (by omega) (by omega)), cv_0] at a1
  exact a1
theorem cR_g {g : Nat → Int} {W : Nat → Nat → Int} {k : Nat → Int} (a : Nat) (ha : a < 12) : cR g W k 12 a = g a := (if_pos rfl).trans (if_pos ha)
theorem cR_0 {g : Nat → Int} {W : Nat → Nat → Int} {k : Nat → Int} : cR g W k 12 13 = 0 := (if_pos rfl).trans (if_neg (by decide))
theorem cR_k {g : Nat → Int} {W : Nat → Nat → Int} {k : Nat → Int} (a : Nat) (ha : a < 12) : cR g W k a 13 = k a := (if_neg (by omega)).trans ((if_pos rfl).trans (if_pos ha))
theorem cR_W {g : Nat → Int} {W : Nat → Nat → Int} {k : Nat → Int} (a b : Nat) (ha : a < 12) (hb : b < 12) : cR g W k a b = W a b := (if_neg (by omega)).trans ((if_neg (by omega)).trans (if_pos ⟨ha, hb⟩))
theorem SML.gs {v : Nat → Nat → Int32} {N T : Nat} (s : SML v N T) : 0 ≤ sm (gI v N) 12 ∧ sm (gI v N) 12 ≤ 7200000 := by
  refine ⟨sm_nn 12 (fun a _ => (s.g a).1), ?_⟩
  have := sm_le (g := fun _ => 600000) 12 (fun a (_ : a < 12) => (s.g a).2)
  rw [sm_k] at this
  exact this
/-- what the flow needs, where all is small -/
theorem SML.fl {v : Nat → Nat → Int32} {N T : Nat} (s : SML v N T) (hT : T ≤ 24) {k : Nat → Int} (hk : ∀ a, 0 ≤ k a ∧ k a ≤ 100000000) {f : Nat → Int32} (L : LB f (cR (gI v N) (wI v T) k)) : (∀ a b, a < 14 → b < 14 → cR (gI v N) (wI v T) k a b + cR (gI v N) (wI v T) k b a < 2147483648) ∧ (∀ r u, FI (cR (gI v N) (wI v T) k) r 12 (fun x => x = 13) u → u < 2147483648) ∧ FI (cR (gI v N) (wI v T) k) (rI f) 12 (fun x => x = 13) 0 := by
  have hb := cR_b (B := 100000000) (k := k) (g := gI v N) (W := wI v T) (by decide) (fun a => by have := s.g a; omega) (fun a b => by have := s.w a b T (Nat.le_refl _); omega) hk
  refine ⟨fun a b _ _ => ?_, fun r u h => ?_, FI.st (by decide) L (fun a b _ _ => (hb a b).1)⟩
  · have h1 := hb a b
    have h2 := hb b a
    omega
  · have h1 := h.lg (Or.inl ⟨rfl, rfl⟩) cR_g cR_0 cR_k cR_W
    have h2 := s.gs
    omega
theorem FLQ.mc {h0 h' : HS} {g : Nat → Int} {W : Nat → Nat → Int} {k : Nat → Int} {o : Option Value} (q : FLQ h0 (cR g W k) o h') : FS h0 h' ∧ ∃ r : Int32, o = some (.int r) ∧ MC g W k r.toInt (fun x => decide (¬ h'.1 16 x = -4)) := by
  obtain ⟨q1, r, rk, q2, q3, q4, q5, q6⟩ := q
  refine ⟨q1, r, q2, mc_of (Or.inl ⟨rfl, rfl⟩) q3 q4 (decide_eq_false (fun z => z q5)) (fun a b ha hb na nb => ?_) cR_g cR_0 cR_k cR_W⟩
  exact q6 a b ha hb (of_decide_eq_true na) (Classical.byContradiction (fun z => absurd nb (by rw [decide_eq_true z]; decide)))
/-- those asked, up to i, lead on by F -/
def kF (F : Int) (a : Int32) (i x : Nat) : Int := if x < i ∧ (a >>> (nI x &&& 31)) &&& 1 = 1 then F else 0
theorem kF_b {F B : Int} (h0 : 0 ≤ F) (h1 : F ≤ B) (a : Int32) (i x : Nat) : 0 ≤ kF F a i x ∧ kF F a i x ≤ B := by
  unfold kF
  split <;> omega
theorem LB.k {f : Nat → Int32} {g : Nat → Int} {W : Nat → Nat → Int} {F : Int} {a : Int32} {i : Nat} {v : Int32} (L : LB f (cR g W (kF F a i))) (hi : i < 12) (hv : v.toInt = if (a >>> (nI i &&& 31)) &&& 1 = 1 then F else 0) : LB (upd f (14 * i + 13) v) (cR g W (kF F a (i + 1))) := by
  refine L.put (by omega) (by decide) ?_ (fun x b hx hb q => ?_)
  · rw [cR_k i hi, hv]
    unfold kF
    by_cases z : (a >>> (nI i &&& 31)) &&& 1 = 1
    · rw [if_pos z, if_pos ⟨Nat.lt_succ_self i, z⟩]
    · rw [if_neg z, if_neg (fun y => z y.2)]
  · unfold cR
    by_cases q1 : x = 12
    · rw [if_pos q1, if_pos q1]
    · rw [if_neg q1, if_neg q1]
      by_cases q2 : b = 13
      · rw [if_pos q2, if_pos q2]
        have e : kF F a (i + 1) x = kF F a i x := by
          unfold kF
          have y : (x < i + 1 ∧ (a >>> (nI x &&& 31)) &&& 1 = 1) ↔ (x < i ∧ (a >>> (nI x &&& 31)) &&& 1 = 1) := ⟨fun z => ⟨by
            rcases Nat.lt_or_ge x i with u | u
            · exact u
            · exact absurd ⟨by omega, q2⟩ q, z.2⟩, fun z => ⟨by omega, z.2⟩⟩
          simp only [y]
        rw [e]
      · rw [if_neg q2, if_neg q2]
theorem kF_0 (F : Int) (a : Int32) : kF F a 0 = fun _ => 0 := funext (fun x => if_neg (fun z => absurd z.1 (Nat.not_lt_zero _)))
def TRQ (h0 : HS) (a : Int32) (N T : Nat) : Option Value → HS → Prop := fun o h' => FS h0 h' ∧ ∃ r : Int32, o = some (.int r) ∧ MC (gI h0.1 N) (wI h0.1 T) (kF 100000000 a N) r.toInt (fun x => decide (¬ h'.1 16 x = -4))
set_option maxHeartbeats 4000000 in
set_option maxRecDepth 100000 in
theorem lqX7_trustOf {l : Launch} {g : Geo} {sta : Nat → Nat} {k : KT} (K : AOK (wM l g sta) mX7_trustOf k) (h0 : HS) (a : Int32) {N T Wn : Nat} (H0 : MW h0 N T Wn) (s : SML h0.1 N T) :
    ∀ (n i : Nat) (h : HS), i + n = N → FS h0 h → LT h0 h N T (kF 100000000 a i) → AW (wM l g sta) (TRQ h0 a N T) 6 mX7_trustOf k 6 [some (.ref (g.2.1 0)), some (.int a), some (.int (nI i))] [] h := by
  intro n
  have h3 := H0.1.2
  have h4 := H0.2.1.2
  induction n with
  | zero =>
    intro i h k1 hx L
    have H := H0.f hx
    obtain rfl : i = N := by omega
    obtain ⟨p1, p2, p3⟩ := s.fl h4 (kF_b (by decide) (by decide) a i) L
    refine aw_il2 K dX7_trustOf_6 ?_
    refine aw_al0 K dX7_trustOf_7 ?_
    refine aw_getI K gX7_98 dX7_trustOf_8 rfl rfl ?_
    rw [H.1.1]
    refine aw_icmp_ge (tgt := 47) K dX7_trustOf_11 (by decide) (fun b11 => ?_) (fun b11 => ?_)
    · refine aw_al0 K dX7_trustOf_47 ?_
      refine aw_callV K (flX l g sta _ h0 hx _ p1 p2 p3) rfl (by decide) fX7_flows lX7_217 dX7_trustOf_48 rfl clsX7 rfl (Nat.le_of_ble_eq_true rfl) (fun o h2 hq => ?_)
      obtain ⟨hx2, r, rfl, mc⟩ := hq.mc
      refine (show AW _ _ _ _ _ _ _ (.int r :: _) _ from ?_)
      refine aw_iret K rfl dX7_trustOf_51 ?_
      exact ⟨hx2, r, rfl, mc⟩
    · exact absurd (Int32.le_refl _) b11
  | succ n ih =>
    intro i h k1 hx L
    have H := H0.f hx
    refine aw_il2 K dX7_trustOf_6 ?_
    refine aw_al0 K dX7_trustOf_7 ?_
    refine aw_getI K gX7_98 dX7_trustOf_8 rfl rfl ?_
    rw [H.1.1]
    refine aw_icmp_ge (tgt := 47) K dX7_trustOf_11 (by decide) (fun b11 => ?_) (fun b11 => ?_)
    · exact absurd b11 (nI_ge (by omega) (by omega))
    · refine aw_al0 K dX7_trustOf_14 ?_
      refine aw_getR K gX7_53 dX7_trustOf_15 rfl rfl ?_
      refine aw_bipush (v := 14) K dX7_trustOf_18 (by decide) ?_
      refine aw_il2 K dX7_trustOf_20 ?_
      refine aw_imul K dX7_trustOf_21 ?_
      refine aw_bipush (v := 13) K dX7_trustOf_22 (by decide) ?_
      refine aw_iadd K dX7_trustOf_24 ?_
      rw [show (13 : Int32) = nI 13 from rfl, xm]
      refine aw_il1 K dX7_trustOf_25 ?_
      refine aw_il2 K dX7_trustOf_26 ?_
      refine aw_ishr K dX7_trustOf_27 ?_
      refine aw_iconst (v := 1) K dX7_trustOf_28 (by decide) ?_
      refine aw_iand K dX7_trustOf_29 ?_
      refine aw_iconst (v := 1) K dX7_trustOf_30 (by decide) ?_
      refine aw_icmp_ne (tgt := 39) K dX7_trustOf_31 (by decide) (fun b31 => ?_) (fun b31 => ?_)
      · refine aw_iconst (v := 0) K dX7_trustOf_39 (by decide) ?_
        refine aw_iast K dX7_trustOf_40 rfl (vp_in_nI (by omega) (by decide)) ?_
        refine aw_ii2 (v := _ + 1) K dX7_trustOf_41 rfl (by decide) rfl ?_
        refine aw_goto (tgt := 6) K dX7_trustOf_44 (by decide) ?_
        rw [nI_1, nI_clamp (show 14 * i + 13 < 2 ^ 31 by omega)]
        exact ih (i + 1) _ (by omega) (hx.pt rfl (by decide)) (LB.k L (by omega) (by rw [if_neg b31]; decide))
      · refine aw_ldc K qX7_213 dX7_trustOf_34 ?_
        refine aw_goto (tgt := 40) K dX7_trustOf_36 (by decide) ?_
        refine aw_iast K dX7_trustOf_40 rfl (vp_in_nI (by omega) (by decide)) ?_
        refine aw_ii2 (v := _ + 1) K dX7_trustOf_41 rfl (by decide) rfl ?_
        refine aw_goto (tgt := 6) K dX7_trustOf_44 (by decide) ?_
        rw [nI_1, nI_clamp (show 14 * i + 13 < 2 ^ 31 by omega)]
        exact ih (i + 1) _ (by omega) (hx.pt rfl (by decide)) (LB.k L (by omega) (by rw [if_pos b31]; decide))
set_option maxHeartbeats 4000000 in
set_option maxRecDepth 100000 in
theorem trX (l : Launch) (g : Geo) (sta : Nat → Nat) (h : HS) (a : Int32) (h0 : HS) {N T Wn : Nat} (H0 : MW h0 N T Wn) (s : SML h0.1 N T) (hx : FS h0 h) : CT (wM l g sta) 6 mX7_trustOf [.ref (g.2.1 0), .int a] h (TRQ h0 a N T) := by
  refine CT.at [some (.ref (g.2.1 0)), some (.int a), none] 1 rfl (by decide) (Nat.le_of_ble_eq_true rfl) (fun k K => ?_)
  refine aw_al0 K dX7_trustOf_0 ?_
  refine aw_callV K (bgX l g sta _ h0 H0 s hx) rfl (by decide) fX7_begins lX7_214 dX7_trustOf_1 rfl clsX7 rfl (Nat.le_of_ble_eq_true rfl) (fun o h2 hq => ?_)
  obtain ⟨rfl, hx2, L⟩ := hq
  refine aw_iconst (v := 0) K dX7_trustOf_4 (by decide) ?_
  refine aw_is2 K dX7_trustOf_5 (by decide) rfl ?_
  exact lqX7_trustOf K h0 a H0 s N 0 _ (by omega) hx2 (by rw [kF_0]; exact L)

def coV (v : Nat → Nat → Int32) (a : Int32) : Nat → Int32
  | 0 => 0
  | i + 1 => coV v a i + (if (a >>> (nI i &&& 31)) &&& 1 = 1 then v 1 i else 0)
def GNQ (h0 : HS) (a b c : Int32) (N T : Nat) : Option Value → HS → Prop := fun o h' => FS h0 h' ∧ ∃ r : Int32, o = some (.int (c * r - coV h0.1 a N)) ∧ ∃ R, MC (gI h0.1 N) (wI h0.1 T) (kF (b * h0.1 11 3 / 100).toInt a N) r.toInt R
set_option maxHeartbeats 4000000 in
set_option maxRecDepth 100000 in
theorem lqX7_gainOf {l : Launch} {g : Geo} {sta : Nat → Nat} {k : KT} (K : AOK (wM l g sta) mX7_gainOf k) (h0 : HS) (a b c : Int32) {N T Wn : Nat} (H0 : MW h0 N T Wn) (s : SML h0.1 N T) (hb0 : 0 ≤ (b * h0.1 11 3 / 100).toInt) (hb1 : (b * h0.1 11 3 / 100).toInt ≤ 1000000) :
    ∀ (n i : Nat) (h : HS), i + n = N → FS h0 h → LT h0 h N T (kF (b * h0.1 11 3 / 100).toInt a i) → AW (wM l g sta) (GNQ h0 a b c N T) 6 mX7_gainOf k 10 [some (.ref (g.2.1 0)), some (.int a), some (.int b), some (.int c), some (.int (coV h0.1 a i)), some (.int (nI i)), none] [] h := by
  intro n
  have h3 := H0.1.2
  have h4 := H0.2.1.2
  induction n with
  | zero =>
    intro i h k1 hx L
    have H := H0.f hx
    obtain rfl : i = N := by omega
    obtain ⟨p1, p2, p3⟩ := s.fl h4 (kF_b hb0 (by omega) a i) L
    refine aw_il5 K dX7_gainOf_10 ?_
    refine aw_al0 K dX7_gainOf_12 ?_
    refine aw_getI K gX7_98 dX7_gainOf_13 rfl rfl ?_
    rw [H.1.1]
    refine aw_icmp_ge (tgt := 96) K dX7_gainOf_16 (by decide) (fun b16 => ?_) (fun b16 => ?_)
    · refine aw_il3 K dX7_gainOf_96 ?_
      refine aw_al0 K dX7_gainOf_97 ?_
      refine aw_callV K (flX l g sta _ h0 hx _ p1 p2 p3) rfl (by decide) fX7_flows lX7_217 dX7_gainOf_98 rfl clsX7 rfl (Nat.le_of_ble_eq_true rfl) (fun o h2 hq => ?_)
      obtain ⟨hx2, r, rfl, mc⟩ := hq.mc
      refine (show AW _ _ _ _ _ _ _ (.int r :: _) _ from ?_)
      refine aw_imul K dX7_gainOf_101 ?_
      refine aw_il4 K dX7_gainOf_102 ?_
      refine aw_isub K dX7_gainOf_104 ?_
      refine aw_iret K rfl dX7_gainOf_105 ?_
      exact ⟨hx2, r, rfl, _, mc⟩
    · exact absurd (Int32.le_refl _) b16
  | succ n ih =>
    intro i h k1 hx L
    have H := H0.f hx
    have f11 := congrFun (hx 11 rfl) 3
    have f1 := congrFun (hx 1 rfl) i
    refine aw_il5 K dX7_gainOf_10 ?_
    refine aw_al0 K dX7_gainOf_12 ?_
    refine aw_getI K gX7_98 dX7_gainOf_13 rfl rfl ?_
    rw [H.1.1]
    refine aw_icmp_ge (tgt := 96) K dX7_gainOf_16 (by decide) (fun b16 => ?_) (fun b16 => ?_)
    · exact absurd b16 (nI_ge (by omega) (by omega))
    · refine aw_il1 K dX7_gainOf_19 ?_
      refine aw_il5 K dX7_gainOf_20 ?_
      refine aw_ishr K dX7_gainOf_22 ?_
      refine aw_iconst (v := 1) K dX7_gainOf_23 (by decide) ?_
      refine aw_iand K dX7_gainOf_24 ?_
      refine aw_iconst (v := 1) K dX7_gainOf_25 (by decide) ?_
      refine aw_icmp_ne (tgt := 33) K dX7_gainOf_26 (by decide) (fun b26 => ?_) (fun b26 => ?_)
      · refine aw_iconst (v := 0) K dX7_gainOf_33 (by decide) ?_
        refine aw_is6 K dX7_gainOf_34 (by decide) rfl ?_
        refine aw_al0 K dX7_gainOf_36 ?_
        refine aw_getR K gX7_53 dX7_gainOf_37 rfl rfl ?_
        refine aw_bipush (v := 14) K dX7_gainOf_40 (by decide) ?_
        refine aw_il5 K dX7_gainOf_42 ?_
        refine aw_imul K dX7_gainOf_44 ?_
        refine aw_bipush (v := 13) K dX7_gainOf_45 (by decide) ?_
        refine aw_iadd K dX7_gainOf_47 ?_
        rw [show (13 : Int32) = nI 13 from rfl, xm]
        refine aw_il6 K dX7_gainOf_48 ?_
        refine aw_if_eq (tgt := 67) K dX7_gainOf_50 (by decide) (fun b50 => ?_) (fun b50 => ?_)
        · refine aw_iconst (v := 0) K dX7_gainOf_67 (by decide) ?_
          refine aw_iast K dX7_gainOf_68 rfl (vp_in_nI (by omega) (by decide)) ?_
          refine aw_il4 K dX7_gainOf_69 ?_
          refine aw_il6 K dX7_gainOf_71 ?_
          refine aw_if_eq (tgt := 86) K dX7_gainOf_73 (by decide) (fun b73 => ?_) (fun b73 => ?_)
          · refine aw_iconst (v := 0) K dX7_gainOf_86 (by decide) ?_
            refine aw_iadd K dX7_gainOf_87 ?_
            refine aw_is4 K dX7_gainOf_88 (by decide) rfl ?_
            refine aw_ii5 (v := _ + 1) K dX7_gainOf_90 rfl (by decide) rfl ?_
            refine aw_goto (tgt := 10) K dX7_gainOf_93 (by decide) ?_
            rw [nI_1, nI_clamp (show 14 * i + 13 < 2 ^ 31 by omega)]
            refine aw_sub [some (.ref (g.2.1 0)), some (.int a), some (.int b), some (.int c), some (.int _), some (.int _), none] ⟨rfl, rfl, rfl, rfl, rfl, rfl, trivial⟩ ?_
            have z := ih (i + 1) (setI h 15 (14 * i + 13) (0)) (by omega) (hx.pt rfl (by decide)) (LB.k L (by omega) (by rw [if_neg b26]; decide))
            rw [show coV h0.1 a (i + 1) = _ from congrArg (coV h0.1 a i + ·) (if_neg b26)] at z
            exact z
          · exact absurd rfl b73
        · exact absurd rfl b50
      · refine aw_iconst (v := 1) K dX7_gainOf_29 (by decide) ?_
        refine aw_goto (tgt := 34) K dX7_gainOf_30 (by decide) ?_
        refine aw_is6 K dX7_gainOf_34 (by decide) rfl ?_
        refine aw_al0 K dX7_gainOf_36 ?_
        refine aw_getR K gX7_53 dX7_gainOf_37 rfl rfl ?_
        refine aw_bipush (v := 14) K dX7_gainOf_40 (by decide) ?_
        refine aw_il5 K dX7_gainOf_42 ?_
        refine aw_imul K dX7_gainOf_44 ?_
        refine aw_bipush (v := 13) K dX7_gainOf_45 (by decide) ?_
        refine aw_iadd K dX7_gainOf_47 ?_
        rw [show (13 : Int32) = nI 13 from rfl, xm]
        refine aw_il6 K dX7_gainOf_48 ?_
        refine aw_if_eq (tgt := 67) K dX7_gainOf_50 (by decide) (fun b50 => ?_) (fun b50 => ?_)
        · exact absurd b50 (by decide)
        · refine aw_il2 K dX7_gainOf_53 ?_
          refine aw_al0 K dX7_gainOf_54 ?_
          refine aw_getR K gX7_41 dX7_gainOf_55 rfl rfl ?_
          refine aw_iconst (v := 3) K dX7_gainOf_58 (by decide) ?_
          refine aw_iald K dX7_gainOf_59 rfl (vp_in_nI (n := 3) (by decide) (by decide)) ?_
          rw [show (3 : Int32).toNatClampNeg = 3 from rfl, f11]
          refine aw_imul K dX7_gainOf_60 ?_
          refine aw_bipush (v := 100) K dX7_gainOf_61 (by decide) ?_
          refine aw_idiv K dX7_gainOf_63 (by decide) ?_
          refine aw_goto (tgt := 68) K dX7_gainOf_64 (by decide) ?_
          refine aw_iast K dX7_gainOf_68 rfl (vp_in_nI (by omega) (by decide)) ?_
          refine aw_il4 K dX7_gainOf_69 ?_
          refine aw_il6 K dX7_gainOf_71 ?_
          refine aw_if_eq (tgt := 86) K dX7_gainOf_73 (by decide) (fun b73 => ?_) (fun b73 => ?_)
          · exact absurd b73 (by decide)
          · refine aw_al0 K dX7_gainOf_76 ?_
            refine aw_getR K gX7_7 dX7_gainOf_77 rfl rfl ?_
            refine aw_il5 K dX7_gainOf_80 ?_
            refine aw_iald K dX7_gainOf_82 rfl (vp_in_nI (by omega) (by decide)) ?_
            rw [nI_clamp (show i < 2 ^ 31 by omega), show (setI h 15 (nI (14 * i + 13)).toNatClampNeg (b * h0.1 11 3 / 100)).1 1 i = h0.1 1 i from f1]
            refine aw_goto (tgt := 87) K dX7_gainOf_83 (by decide) ?_
            refine aw_iadd K dX7_gainOf_87 ?_
            refine aw_is4 K dX7_gainOf_88 (by decide) rfl ?_
            refine aw_ii5 (v := _ + 1) K dX7_gainOf_90 rfl (by decide) rfl ?_
            refine aw_goto (tgt := 10) K dX7_gainOf_93 (by decide) ?_
            rw [nI_1, nI_clamp (show 14 * i + 13 < 2 ^ 31 by omega)]
            refine aw_sub [some (.ref (g.2.1 0)), some (.int a), some (.int b), some (.int c), some (.int _), some (.int _), none] ⟨rfl, rfl, rfl, rfl, rfl, rfl, trivial⟩ ?_
            have z := ih (i + 1) (setI h 15 (14 * i + 13) (b * h0.1 11 3 / 100)) (by omega) (hx.pt rfl (by decide)) (LB.k L (by omega) (by rw [if_pos b26]))
            rw [show coV h0.1 a (i + 1) = _ from congrArg (coV h0.1 a i + ·) (if_pos b26)] at z
            exact z
set_option maxHeartbeats 4000000 in
set_option maxRecDepth 100000 in
theorem gnX (l : Launch) (g : Geo) (sta : Nat → Nat) (h : HS) (a b c : Int32) (h0 : HS) {N T Wn : Nat} (H0 : MW h0 N T Wn) (s : SML h0.1 N T) (hb0 : 0 ≤ (b * h0.1 11 3 / 100).toInt) (hb1 : (b * h0.1 11 3 / 100).toInt ≤ 1000000) (hx : FS h0 h) : CT (wM l g sta) 6 mX7_gainOf [.ref (g.2.1 0), .int a, .int b, .int c] h (GNQ h0 a b c N T) := by
  refine CT.at [some (.ref (g.2.1 0)), some (.int a), some (.int b), some (.int c), none, none, none] 3 rfl (by decide) (Nat.le_of_ble_eq_true rfl) (fun k K => ?_)
  refine aw_al0 K dX7_gainOf_0 ?_
  refine aw_callV K (bgX l g sta _ h0 H0 s hx) rfl (by decide) fX7_begins lX7_214 dX7_gainOf_1 rfl clsX7 rfl (Nat.le_of_ble_eq_true rfl) (fun o h2 hq => ?_)
  obtain ⟨rfl, hx2, L⟩ := hq
  refine aw_iconst (v := 0) K dX7_gainOf_4 (by decide) ?_
  refine aw_is4 K dX7_gainOf_5 (by decide) rfl ?_
  refine aw_iconst (v := 0) K dX7_gainOf_7 (by decide) ?_
  refine aw_is5 K dX7_gainOf_8 (by decide) rfl ?_
  exact lqX7_gainOf K h0 a b c H0 s hb0 hb1 N 0 _ (by omega) hx2 (by rw [kF_0]; exact L)

