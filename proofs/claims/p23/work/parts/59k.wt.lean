/-- those of s below i -/
def hd (s : Int32) (i : Nat) : Int32 := s &&& ((1 : Int32) <<< (nI i &&& 31) - 1)
theorem low_m : ∀ i : Fin 13, ∀ j : Fin 32, bt ((1 : Int32) <<< (nI i.1 &&& 31) - 1) j.1 = decide (j.1 < i.1) := by decide +kernel
theorem hd_b {s : Int32} {i j : Nat} (hi : i ≤ 12) (hj : j < 32) : bt (hd s i) j = (bt s j && decide (j < i)) := by
  unfold hd
  rw [b_and, low_m ⟨i, by omega⟩ ⟨j, hj⟩]
theorem hd_1 {s : Int32} {i : Nat} (hi : i < 12) (hb : bt s i = true) : hd s i ||| (1 : Int32) <<< (nI i &&& 31) = hd s (i + 1) := by
  refine b_ext (fun j hj => ?_)
  rw [b_or, hd_b (by omega) hj, hd_b (by omega) hj, b_sh1 (by omega) hj]
  by_cases q : j = i
  · subst q
    rw [hb]
    simp
  · have e : decide (j < i + 1) = decide (j < i) := decide_eq_decide.mpr (by omega)
    rw [e, decide_eq_false q, Bool.or_false]
theorem hd_0 {s : Int32} {i : Nat} (hi : i < 12) (hb : bt s i = false) : hd s (i + 1) = hd s i := by
  refine b_ext (fun j hj => ?_)
  rw [hd_b (by omega) hj, hd_b (by omega) hj]
  by_cases q : j = i
  · subst q
    rw [hb, Bool.false_and, Bool.false_and]
  · rw [show decide (j < i + 1) = decide (j < i) from decide_eq_decide.mpr (by omega)]
theorem hd_00 (s : Int32) : hd s 0 = 0 := by
  refine b_ext (fun j hj => ?_)
  rw [hd_b (by decide) hj, b_0, decide_eq_false (Nat.not_lt_zero j), Bool.and_false]
theorem hd_ne {s : Int32} {i : Nat} (hi : i < 12) (hb : bt s i = true) : ¬ hd s (i + 1) = 0 := by
  intro q
  have h1 := hd_b (s := s) (i := i + 1) (j := i) (by omega) (by omega)
  rw [q, b_0, hb, decide_eq_true (Nat.lt_succ_self i)] at h1
  exact absurd h1 (by decide)
theorem hd_N {s : Int32} {i N : Nat} (hi : i ≤ 12) (h : ∀ x, x < 32 → bt s x = true → x < N) : ∀ x, x < 14 → bt (hd s i) x = true → x < N := by
  intro x hx q
  rw [hd_b hi (by omega), Bool.and_eq_true] at q
  exact h x (by omega) q.1
theorem hd_mono {s : Int32} {i j : Nat} (hij : i ≤ j) (hj : j ≤ 12) : ∀ x, x < 12 → bt (hd s i) x = true → bt (hd s j) x = true := by
  intro x hx q
  rw [hd_b (by omega) (by omega), Bool.and_eq_true] at q ⊢
  exact ⟨q.1, decide_eq_true (by have := of_decide_eq_true q.2; omega)⟩
/-- trust, of none nothing -/
noncomputable def tbV (v : Nat → Nat → Int32) (N T : Nat) (s : Int32) : Int32 := if s = 0 then 0 else trV v N T s
noncomputable def dfV (v : Nat → Nat → Int32) (N T : Nat) (s : Int32) (i : Nat) : Int32 := tbV v N T (hd s (i + 1)) - tbV v N T (hd s i)
noncomputable def wtV (v : Nat → Nat → Int32) (N T Wn : Nat) (b : Int32) (i : Nat) : Int32 := fdV (dfV v N T (syV v N Wn b) i) (v 11 5) (v 0 12 - v 22 (wbV v Wn (nI i) b Wn).toNatClampNeg)
noncomputable def wV (v : Nat → Nat → Int32) (N T Wn : Nat) (b : Int32) (i : Nat) : Int32 := if bt (syV v N Wn b) i = true then wtV v N T Wn b i else 0
def mV (v : Nat → Nat → Int32) (N Wn : Nat) (b : Int32) (i : Nat) : Int32 := if bt (syV v N Wn b) i = true then v 21 (wbV v Wn (nI i) b Wn).toNatClampNeg else 0
def MCE (v : Nat → Nat → Int32) (N T : Nat) (s : Int32) : Prop := s = 0 ∨ ∃ V X, MC (gI v N) (wI v T) (kF 100000000 s N) V X
def ME (v : Nat → Nat → Int32) (N T : Nat) (s : Int32) (i : Nat) : Prop := ∀ j, j ≤ i → MCE v N T (hd s j)
theorem ME.z (v : Nat → Nat → Int32) (N T : Nat) (s : Int32) : ME v N T s 0 := fun j hj => Or.inl (by rw [show j = 0 by omega]; exact hd_00 s)
theorem ME.s {v : Nat → Nat → Int32} {N T : Nat} {s : Int32} {i : Nat} (m : ME v N T s i) (h : MCE v N T (hd s (i + 1))) : ME v N T s (i + 1) := fun j hj => by
  rcases Nat.lt_or_ge j (i + 1) with q | q
  · exact m j (by omega)
  · rw [show j = i + 1 by omega]
    exact h
theorem ME.n {v : Nat → Nat → Int32} {N T : Nat} {s : Int32} {i : Nat} (m : ME v N T s i) (hi : i < 12) (hb : bt s i = false) : ME v N T s (i + 1) := m.s (by rw [hd_0 hi hb]; exact m i (Nat.le_refl _))
/-- the same on both sides -/
theorem syV_eq {hx hm : HS} (r : REL hx hm) (N Wn : Nat) (b : Int32) : syV hm.1 N Wn b = syV (vX hx) N Wn b := by
  unfold syV
  simp only [wb_eq r]
  rw [r.r (18, 3) (by decide)]
  rfl
theorem tbV_eq {hx hm : HS} (r : REL hx hm) (N T : Nat) (s : Int32) : tbV hm.1 N T s = tbV (vX hx) N T s := by
  unfold tbV
  rw [trV_eq r]
theorem wtV_eq {hx hm : HS} (r : REL hx hm) (N T Wn : Nat) (b : Int32) (i : Nat) : wtV hm.1 N T Wn b i = wtV (vX hx) N T Wn b i := by
  unfold wtV dfV
  rw [tbV_eq r, tbV_eq r, syV_eq r, wb_eq r, r.r (11, 11) (by decide), r.r (30, 22) (by decide), INV.b4 r]
  rfl
theorem wV_eq {hx hm : HS} (r : REL hx hm) (N T Wn : Nat) (b : Int32) (i : Nat) : wV hm.1 N T Wn b i = wV (vX hx) N T Wn b i := by
  unfold wV
  rw [wtV_eq r, syV_eq r]
theorem mV_eq {hx hm : HS} (r : REL hx hm) (N Wn : Nat) (b : Int32) (i : Nat) : mV hm.1 N Wn b i = mV (vX hx) N Wn b i := by
  unfold mV
  rw [syV_eq r, wb_eq r, r.r (29, 21) (by decide)]
  rfl
theorem sy_x {hx : HS} {N T Wn : Nat} (H : XW hx N T Wn) (ww : wrdW hx N Wn) (b : Int32) : syX hx b Wn Wn = syV (vX hx) N Wn b := by
  have hN := H.1.2
  have hW := H.2.2.1.2
  refine b_ext (fun i hi => ?_)
  have e : bt (syX hx b Wn Wn) i = true ↔ bt (syV (vX hx) N Wn b) i = true := by
    rw [syV_b hN hi, cg_wb ww hW, show vX hx 3 i = hx.1 18 i from rfl]
    unfold syX
    rw [orU_b hi]
    constructor
    · rintro ⟨j, h1, h2⟩
      split at h2
      · rename_i q
        obtain ⟨a, ha, ea⟩ := vp_in_of (ww j h1).1 (by omega)
        rw [ea, b_sh1 (by omega) hi] at h2
        have e : i = a := of_decide_eq_true h2
        subst e
        rw [ea, nI_clamp (by omega)] at q
        rw [← q.1, q.2.2]
        refine ⟨ha, q.2.1, ?_⟩
        have y : ∀ x : Fin 24, ¬ nI x.1 = (-4 : Int32) := by decide
        exact y ⟨j, by omega⟩
      · rw [b_0] at h2
        exact absurd h2 (by decide)
    · rintro ⟨h1, h2, h3⟩
      rcases cg_n (h := hx) (a := nI i) (b := b) Wn with q | ⟨w, q1, q2⟩
      · exact absurd q h3
      · obtain ⟨-, z2, -⟩ := (cg_s Wn hW).mp ⟨q2, by omega⟩
        refine ⟨w, q1, ?_⟩
        rw [z2.2.1, z2.2.2, nI_clamp (by omega), if_pos ⟨rfl, h2, q2⟩, b_sh1 hi hi]
        simp
  cases y : bt (syX hx b Wn Wn) i <;> cases z : bt (syV (vX hx) N Wn b) i
  · rfl
  · rw [y, z] at e
    exact absurd (e.mpr rfl) (by decide)
  · rw [y, z] at e
    exact absurd (e.mp rfl) (by decide)
  · rfl
theorem XQ.cg {h h' : HS} (q : XQ h h') (a b : Int32) : ∀ n, cgV h' a b n = cgV h a b n
  | 0 => rfl
  | n + 1 => by
    unfold cgV
    rw [XQ.cg q a b n, q.1 32 rfl, q.1 26 rfl, q.1 27 rfl]
theorem sy_lt {v : Nat → Nat → Int32} {N Wn : Nat} {b : Int32} (hN : N ≤ 12) : ∀ x, x < 32 → bt (syV v N Wn b) x = true → x < N := fun x hx q => ((syV_b hN hx).mp q).1
theorem sy_wj {v : Nat → Nat → Int32} {N Wn : Nat} {b : Int32} (hN : N ≤ 12) {x : Nat} (hx : x < 32) (q : bt (syV v N Wn b) x = true) : ∃ j, j < Wn ∧ wbV v Wn (nI x) b Wn = nI j := (wbV_in v Wn (nI x) b Wn).resolve_left ((syV_b hN hx).mp q).2.2
/-- the rows of weights and marks, as far as i -/
def RWM (h0 h : HS) (N T Wn : Nat) (b : Int32) (i : Nat) : Prop := ∀ x, x < i → h.1 13 x = wV (vX h0) N T Wn b x ∧ h.1 14 x = mV (vX h0) N Wn b x
theorem RWM.go {h0 h h' : HS} {N T Wn : Nat} {b : Int32} {i : Nat} (s : RWM h0 h N T Wn b i) (e : ∀ x, x < i → h'.1 13 x = h.1 13 x ∧ h'.1 14 x = h.1 14 x) (e1 : h'.1 13 i = wV (vX h0) N T Wn b i) (e2 : h'.1 14 i = mV (vX h0) N Wn b i) : RWM h0 h' N T Wn b (i + 1) := by
  intro x hx
  rcases Nat.lt_or_ge x i with q | q
  · rw [(e x q).1, (e x q).2]
    exact s x q
  · rw [show x = i by omega]
    exact ⟨e1, e2⟩
theorem LY.p3 {h0 h : HS} {N T i : Nat} {v : Int32} (l : LY h0 h N T) : LY h0 (setI h 13 i v) N T := ⟨l.1.pt rfl (by decide), l.2⟩
theorem LY.p4 {h0 h : HS} {N T i : Nat} {v : Int32} (l : LY h0 h N T) : LY h0 (setI h 14 i v) N T := ⟨l.1.pt rfl (by decide), l.2⟩
set_option maxHeartbeats 4000000 in
set_option maxRecDepth 100000 in
theorem lrX6_weighSayers {l : Launch} {g : Geo} {sta : Nat → Nat} {k : KT} (K : AOK (wX l g sta) mX6_weighSayers k) (h0 : HS) (b : Int32) {N T Wn : Nat} (H0 : XW h0 N T Wn) (ww : wrdW h0 N Wn) (s : SML (vX h0) N T) :
    ∀ (n i : Nat) (h : HS), i ≤ 12 → 12 - i < n → LY h0 h N T → RWM h0 h N T Wn b i → ME (vX h0) N T (syV (vX h0) N Wn b) i → AW (wX l g sta) (fun o h' => o = some (.int (sumU (wV (vX h0) N T Wn b) 12)) ∧ XQ h0 h' ∧ RWM h0 h' N T Wn b 12 ∧ ME (vX h0) N T (syV (vX h0) N Wn b) 12) 6 mX6_weighSayers k 21 [some (.ref (g.2.1 0)), some (.int b), some (.int (syV (vX h0) N Wn b)), some (.int (hd (syV (vX h0) N Wn b) i)), some (.int (tbV (vX h0) N T (hd (syV (vX h0) N Wn b) i))), some (.int (sumU (wV (vX h0) N T Wn b) i)), some (.int (nI i)), none, none] [] h := by
  intro n
  have hN := H0.1.2
  have hW := H0.2.2.1.2
  induction n with
  | zero => intro i h h1 h2; omega
  | succ n ih =>
    intro i h h1 h2 ly rm me
    refine aw_il6 K dX6_weighSayers_21 ?_
    refine aw_bipush (v := 12) K dX6_weighSayers_23 (by decide) ?_
    refine aw_icmp_ge (tgt := 170) K dX6_weighSayers_25 (by decide) (fun b25 => ?_) (fun b25 => ?_)
    · have hge : 12 ≤ i := (nI_leI (a := 12) (by omega) (by omega : i < 2 ^ 31)).mp b25
      obtain rfl : i = 12 := by omega
      refine aw_il5 K dX6_weighSayers_170 ?_
      refine aw_iret K rfl dX6_weighSayers_172 ?_
      exact ⟨rfl, ly.1, rm, me⟩
    · have hlt : i < 12 := by
        rcases Nat.lt_or_ge i 12 with q | q
        · exact q
        · exact absurd (nI_le (a := 12) q (by omega)) b25
      refine aw_al0 K dX6_weighSayers_28 ?_
      refine aw_getR K gX6_57 dX6_weighSayers_29 rfl rfl ?_
      refine aw_il6 K dX6_weighSayers_32 ?_
      refine aw_iconst (v := 0) K dX6_weighSayers_34 (by decide) ?_
      refine aw_iast K dX6_weighSayers_35 rfl (vp_in_nI (by omega) (by decide)) ?_
      refine aw_al0 K dX6_weighSayers_36 ?_
      refine aw_getR K gX6_60 dX6_weighSayers_37 rfl rfl ?_
      refine aw_il6 K dX6_weighSayers_40 ?_
      refine aw_iconst (v := 0) K dX6_weighSayers_42 (by decide) ?_
      refine aw_iast K dX6_weighSayers_43 rfl (vp_in_nI (by omega) (by decide)) ?_
      rw [nI_clamp (show i < 2 ^ 31 by omega)]
      have ly1 := (ly.p3 (i := i) (v := 0)).p4 (i := i) (v := 0)
      have H := H0.q ly1.1
      refine aw_il2 K dX6_weighSayers_44 ?_
      refine aw_il6 K dX6_weighSayers_45 ?_
      refine aw_callS_I K (tX6_hasBit l g sta _ _ _) rfl (by decide) fX6_hasBit lX6_162 dX6_weighSayers_47 rfl (Nat.le_of_ble_eq_true rfl) ?_
      refine aw_if_eq (tgt := 66) K dX6_weighSayers_50 (by decide) (fun b50 => ?_) (fun b50 => ?_)
      · have nb : bt (syV (vX h0) N Wn b) i = false := by
          cases q : bt (syV (vX h0) N Wn b) i
          · rfl
          · exact absurd ((hb_i (by omega)).mpr q) (bI_0.mp b50)
        refine aw_bipush (v := (-4)) K dX6_weighSayers_66 (by decide) ?_
        refine aw_is7 K dX6_weighSayers_68 (by decide) rfl ?_
        refine aw_il7 K dX6_weighSayers_70 ?_
        refine aw_if_ge (tgt := 78) K dX6_weighSayers_72 (by decide) (fun b72 => ?_) (fun b72 => ?_)
        · exact absurd b72 (by decide)
        · skip
          refine aw_goto (tgt := 164) K dX6_weighSayers_75 (by decide) ?_
          refine aw_ii6 (v := _ + 1) K dX6_weighSayers_164 rfl (by decide) rfl ?_
          refine aw_goto (tgt := 21) K dX6_weighSayers_167 (by decide) ?_
          rw [nI_1]
          refine aw_sub [some (.ref (g.2.1 0)), some (.int b), some (.int _), some (.int _), some (.int _), some (.int _), some (.int _), none, none] ⟨rfl, rfl, rfl, rfl, rfl, rfl, rfl, trivial⟩ ?_
          have z := ih (i + 1) _ (by omega) (by omega) ly1 (rm.go (fun x hx => ⟨by rw [rdI, if_neg (fun z => by omega), rdI, if_neg (fun z => by omega)], by rw [rdI, if_neg (fun z => by omega), rdI, if_neg (fun z => by omega)]⟩) (by rw [rdI, if_neg (fun z => by omega), rdI, if_pos ⟨rfl, rfl⟩]; unfold wV; rw [if_neg (by rw [nb]; decide)]) (by rw [rdI, if_pos ⟨rfl, rfl⟩]; unfold mV; rw [if_neg (by rw [nb]; decide)])) (me.n hlt nb)
          rw [hd_0 hlt nb, show sumU (wV (vX h0) N T Wn b) (i + 1) = sumU (wV (vX h0) N T Wn b) i from (congrArg (sumU (wV (vX h0) N T Wn b) i + ·) (if_neg (by rw [nb]; decide))).trans (Int32.add_zero _)] at z
          exact z
      · have nb : bt (syV (vX h0) N Wn b) i = true := (hb_i (by omega)).mp (bI_1.mp b50)
        obtain ⟨j, hj, ej⟩ := sy_wj hN (by omega) nb
        refine aw_al0 K dX6_weighSayers_53 ?_
        refine aw_getR K gX6_26 dX6_weighSayers_54 rfl rfl ?_
        refine aw_il6 K dX6_weighSayers_57 ?_
        refine aw_il1 K dX6_weighSayers_59 ?_
        refine aw_callV_I K (eX5_countingOf l g sta _ _ _ H) rfl (by decide) fX5_countingOf lX6_342 dX6_weighSayers_60 rfl clsX5 rfl (Nat.le_of_ble_eq_true rfl) ?_
        rw [ly1.1.cg, ← cg_wb ww hW, ej]
        refine aw_goto (tgt := 68) K dX6_weighSayers_63 (by decide) ?_
        refine aw_is7 K dX6_weighSayers_68 (by decide) rfl ?_
        refine aw_il7 K dX6_weighSayers_70 ?_
        refine aw_if_ge (tgt := 78) K dX6_weighSayers_72 (by decide) (fun b72 => ?_) (fun b72 => ?_)
        · skip
          refine aw_il3 K dX6_weighSayers_78 ?_
          refine aw_iconst (v := 1) K dX6_weighSayers_79 (by decide) ?_
          refine aw_il6 K dX6_weighSayers_80 ?_
          refine aw_ishl K dX6_weighSayers_82 ?_
          refine aw_ior K dX6_weighSayers_83 ?_
          refine aw_is3 K dX6_weighSayers_84 (by decide) rfl ?_
          rw [hd_1 hlt nb]
          refine aw_al0 K dX6_weighSayers_85 ?_
          refine aw_getR K gX6_40 dX6_weighSayers_86 rfl rfl ?_
          refine aw_il3 K dX6_weighSayers_89 ?_
          refine aw_callV K (moT l g sta _ _ h0 H0 s ly1 (hd_N (by omega) (sy_lt hN))) rfl (by decide) fX0_most lX6_193 dX6_weighSayers_90 rfl clsX0 rfl (Nat.le_of_ble_eq_true rfl) (fun o h2 hq => ?_)
          obtain ⟨rfl, ly2, -, fr, mx⟩ := hq
          refine (show AW _ _ _ _ _ _ _ (.int _ :: _) _ from ?_)
          have e13 : h2.1 13 = (setI (setI h 13 i 0) 14 i 0).1 13 := fr 13 (by decide) (by decide) (by decide) (by decide) (by decide)
          have e14 : h2.1 14 = (setI (setI h 13 i 0) 14 i 0).1 14 := fr 14 (by decide) (by decide) (by decide) (by decide) (by decide)
          rw [show trV (vX h0) N T (hd (syV (vX h0) N Wn b) (i + 1)) = tbV (vX h0) N T (hd (syV (vX h0) N Wn b) (i + 1)) from (if_neg (hd_ne hlt nb)).symm]
          have f11 : h2.1 11 5 = vX h0 11 5 := congrFun (ly2.1.1 11 rfl) 5
          have f0 : h2.1 0 11 = vX h0 0 12 := congrFun (ly2.1.1 0 rfl) 11
          have f30 : h2.1 30 j = vX h0 22 j := congrFun (ly2.1.1 30 rfl) j
          have f29 : h2.1 29 j = vX h0 21 j := congrFun (ly2.1.1 29 rfl) j
          have wte : fdV (tbV (vX h0) N T (hd (syV (vX h0) N Wn b) (i + 1)) - tbV (vX h0) N T (hd (syV (vX h0) N Wn b) i)) (vX h0 11 5) (vX h0 0 12 - vX h0 22 j) = wV (vX h0) N T Wn b i := by
            unfold wV wtV dfV
            rw [if_pos nb, ej, nI_clamp (show j < 2 ^ 31 by omega)]
          have mte : vX h0 21 j = mV (vX h0) N Wn b i := by
            unfold mV
            rw [if_pos nb, ej, nI_clamp (show j < 2 ^ 31 by omega)]
          refine aw_is8 K dX6_weighSayers_93 (by decide) rfl ?_
          refine aw_al0 K dX6_weighSayers_95 ?_
          refine aw_getR K gX6_57 dX6_weighSayers_96 rfl rfl ?_
          refine aw_il6 K dX6_weighSayers_99 ?_
          refine aw_il8 K dX6_weighSayers_101 ?_
          refine aw_il4 K dX6_weighSayers_103 ?_
          refine aw_isub K dX6_weighSayers_105 ?_
          refine aw_al0 K dX6_weighSayers_106 ?_
          refine aw_getR K gX6_50 dX6_weighSayers_107 rfl rfl ?_
          refine aw_iconst (v := 5) K dX6_weighSayers_110 (by decide) ?_
          refine aw_iald K dX6_weighSayers_111 rfl (vp_in_nI (n := 5) (by decide) (by decide)) ?_
          rw [show (5 : Int32).toNatClampNeg = 5 from rfl, f11]
          refine aw_al0 K dX6_weighSayers_112 ?_
          refine aw_getI K gX6_113 dX6_weighSayers_113 rfl rfl ?_
          rw [f0]
          refine aw_al0 K dX6_weighSayers_116 ?_
          refine aw_getR K gX6_26 dX6_weighSayers_117 rfl rfl ?_
          refine aw_getR K gX6_233 dX6_weighSayers_120 rfl rfl ?_
          refine aw_il7 K dX6_weighSayers_123 ?_
          refine aw_iald K dX6_weighSayers_125 rfl (vp_in_nI (by omega) (by decide)) ?_
          rw [nI_clamp (show j < 2 ^ 31 by omega), f30]
          refine aw_isub K dX6_weighSayers_126 ?_
          refine aw_callS_I K (tX6_faded l g sta _ _ _ _) rfl (by decide) fX6_faded lX6_329 dX6_weighSayers_127 rfl (Nat.le_of_ble_eq_true rfl) ?_
          rw [wte]
          refine aw_iast K dX6_weighSayers_130 rfl (vp_in_nI (by omega) (by decide)) ?_
          rw [nI_clamp (show i < 2 ^ 31 by omega)]
          refine aw_al0 K dX6_weighSayers_131 ?_
          refine aw_getR K gX6_60 dX6_weighSayers_132 rfl rfl ?_
          refine aw_il6 K dX6_weighSayers_135 ?_
          refine aw_al0 K dX6_weighSayers_137 ?_
          refine aw_getR K gX6_26 dX6_weighSayers_138 rfl rfl ?_
          refine aw_getR K gX6_230 dX6_weighSayers_141 rfl rfl ?_
          refine aw_il7 K dX6_weighSayers_144 ?_
          refine aw_iald K dX6_weighSayers_146 rfl (vp_in_nI (by omega) (by decide)) ?_
          rw [nI_clamp (show j < 2 ^ 31 by omega), setI_w (show (29 : Nat) ≠ 13 by decide), f29, mte]
          refine aw_iast K dX6_weighSayers_147 rfl (vp_in_nI (by omega) (by decide)) ?_
          rw [nI_clamp (show i < 2 ^ 31 by omega)]
          refine aw_il8 K dX6_weighSayers_148 ?_
          refine aw_is4 K dX6_weighSayers_150 (by decide) rfl ?_
          refine aw_il5 K dX6_weighSayers_152 ?_
          refine aw_al0 K dX6_weighSayers_154 ?_
          refine aw_getR K gX6_57 dX6_weighSayers_155 rfl rfl ?_
          refine aw_il6 K dX6_weighSayers_158 ?_
          refine aw_iald K dX6_weighSayers_160 rfl (vp_in_nI (by omega) (by decide)) ?_
          rw [nI_clamp (show i < 2 ^ 31 by omega), setI_w (show (13 : Nat) ≠ 14 by decide), rdI, if_pos ⟨rfl, rfl⟩]
          refine aw_iadd K dX6_weighSayers_161 ?_
          refine aw_is5 K dX6_weighSayers_162 (by decide) rfl ?_
          refine aw_ii6 (v := _ + 1) K dX6_weighSayers_164 rfl (by decide) rfl ?_
          refine aw_goto (tgt := 21) K dX6_weighSayers_167 (by decide) ?_
          rw [nI_1]
          refine aw_sub [some (.ref (g.2.1 0)), some (.int b), some (.int _), some (.int _), some (.int _), some (.int _), some (.int _), none, none] ⟨rfl, rfl, rfl, rfl, rfl, rfl, rfl, trivial⟩ ?_
          exact ih (i + 1) _ (by omega) (by omega) (ly2.p3.p4) (rm.go (fun x hx => ⟨by rw [rdI, if_neg (fun z => by omega), rdI, if_neg (fun z => by omega), e13, rdI, if_neg (fun z => by omega), rdI, if_neg (fun z => by omega)], by rw [rdI, if_neg (fun z => by omega), rdI, if_neg (fun z => by omega), e14, rdI, if_neg (fun z => by omega), rdI, if_neg (fun z => by omega)]⟩) (by rw [rdI, if_neg (fun z => by omega), rdI, if_pos ⟨rfl, rfl⟩]) (by rw [rdI, if_pos ⟨rfl, rfl⟩])) (me.s (Or.inr mx))
        · exact absurd (nI_pos' (show j < 2 ^ 31 by omega)) b72
set_option maxHeartbeats 4000000 in
set_option maxRecDepth 100000 in
theorem eX6_weighSayers (l : Launch) (g : Geo) (sta : Nat → Nat) (h : HS) (b : Int32) {N T Wn : Nat} (H : XW h N T Wn) (ww : wrdW h N Wn) (s : SML (vX h) N T) : CT (wX l g sta) 6 mX6_weighSayers [.ref (g.2.1 0), .int b] h ((fun o h' => o = some (.int (sumU (wV (vX h) N T Wn b) 12)) ∧ XQ h h' ∧ RWM h h' N T Wn b 12 ∧ ME (vX h) N T (syV (vX h) N Wn b) 12)) := by
  refine CT.at [some (.ref (g.2.1 0)), some (.int b), none, none, none, none, none, none, none] 7 rfl (by decide) (Nat.le_of_ble_eq_true rfl) (fun k K => ?_)
  refine aw_al0 K dX6_weighSayers_0 ?_
  refine aw_il1 K dX6_weighSayers_1 ?_
  refine aw_callV_I K (eX6_sayersOf l g sta _ _ H) rfl (by decide) fX6_sayersOf lX6_237 dX6_weighSayers_2 rfl clsX6 rfl (Nat.le_of_ble_eq_true rfl) ?_
  rw [sy_x H ww]
  refine aw_is2 K dX6_weighSayers_5 (by decide) rfl ?_
  refine aw_iconst (v := 0) K dX6_weighSayers_6 (by decide) ?_
  refine aw_is3 K dX6_weighSayers_7 (by decide) rfl ?_
  refine aw_iconst (v := 0) K dX6_weighSayers_8 (by decide) ?_
  refine aw_is4 K dX6_weighSayers_9 (by decide) rfl ?_
  refine aw_iconst (v := 0) K dX6_weighSayers_11 (by decide) ?_
  refine aw_is5 K dX6_weighSayers_12 (by decide) rfl ?_
  refine aw_al0 K dX6_weighSayers_14 ?_
  refine aw_callV K (laX l g sta _ H s) rfl (by decide) fX6_layFlow lX6_190 dX6_weighSayers_15 rfl clsX6 rfl (Nat.le_of_ble_eq_true rfl) (fun o h2 hq => ?_)
  obtain ⟨rfl, ly⟩ := hq
  have ly : LY h h2 N T := ly
  refine aw_iconst (v := 0) K dX6_weighSayers_18 (by decide) ?_
  refine aw_is6 K dX6_weighSayers_19 (by decide) rfl ?_
  have z := lrX6_weighSayers K h b H ww s 13 0 h2 (by omega) (by omega) ly (fun x hx => absurd hx (Nat.not_lt_zero _)) (ME.z _ _ _ _)
  rw [hd_00, show tbV (vX h) N T 0 = 0 from if_pos rfl] at z
  exact z

noncomputable def wgV (v : Nat → Nat → Int32) (N T Wn : Nat) (a b : Int32) : Int32 := if (0 ≤ a ∧ a ≤ v 0 0 - 1) ∧ (0 ≤ b ∧ b ≤ v 0 0 - 1) ∧ ¬ a = b then (if bt (syV v N Wn a) b.toNatClampNeg = true then wV v N T Wn a b.toNatClampNeg else -4) else -1
theorem wgV_eq {hx hm : HS} (r : REL hx hm) (N T Wn : Nat) (a b : Int32) : wgV (vX hx) N T Wn a b = wgV hm.1 N T Wn a b := by
  unfold wgV
  rw [wV_eq r, syV_eq r, INV.b1 r]
  rfl
set_option maxHeartbeats 4000000 in
set_option maxRecDepth 100000 in
theorem eX6_weight (l : Launch) (g : Geo) (sta : Nat → Nat) (h : HS) (a b : Int32) {N T Wn : Nat} (H : XW h N T Wn) (ww : wrdW h N Wn) (s : SML (vX h) N T) : CT (wX l g sta) 7 mX6_weight [.ref (g.2.1 0), .int a, .int b] h (fun o h' => o = some (.int (wgV (vX h) N T Wn a b)) ∧ XQ h h') := by
  refine CT.at [some (.ref (g.2.1 0)), some (.int a), some (.int b)] 0 rfl (by decide) (Nat.le_of_ble_eq_true rfl) (fun k K => ?_)
  refine aw_al0 K dX6_weight_0 ?_
  refine aw_il1 K dX6_weight_1 ?_
  refine aw_il2 K dX6_weight_2 ?_
  refine aw_callV_I K (tX6_arePair l g sta _ _ _) rfl (by decide) fX6_arePair lX6_105 dX6_weight_3 rfl clsX6 rfl (Nat.le_of_ble_eq_true rfl) ?_
  refine aw_if_ne (tgt := 11) K dX6_weight_6 (by decide) (fun b6 => ?_) (fun b6 => ?_)
  · have hN := H.1.2
    have ok := bI_1.mp b6
    obtain ⟨j, hj, rfl⟩ := inNj H.1.1 (by omega) ok.2.1
    have cj := nI_clamp (show j < 2 ^ 31 by omega)
    refine aw_al0 K dX6_weight_11 ?_
    refine aw_il1 K dX6_weight_12 ?_
    refine aw_callV_I K (eX6_sayersOf l g sta _ _ H) rfl (by decide) fX6_sayersOf lX6_237 dX6_weight_13 rfl clsX6 rfl (Nat.le_of_ble_eq_true rfl) ?_
    rw [sy_x H ww]
    refine aw_il2 K dX6_weight_16 ?_
    refine aw_callS_I K (tX6_hasBit l g sta _ _ _) rfl (by decide) fX6_hasBit lX6_162 dX6_weight_17 rfl (Nat.le_of_ble_eq_true rfl) ?_
    refine aw_if_ne (tgt := 26) K dX6_weight_20 (by decide) (fun b20 => ?_) (fun b20 => ?_)
    · refine aw_al0 K dX6_weight_26 ?_
      refine aw_il1 K dX6_weight_27 ?_
      refine aw_callV K (eX6_weighSayers l g sta _ _ H ww s) rfl (by decide) fX6_weighSayers lX6_240 dX6_weight_28 rfl clsX6 rfl (Nat.le_of_ble_eq_true rfl) (fun o h2 hq => ?_)
      obtain ⟨rfl, hq2, rm, -⟩ := hq
      refine (show AW _ _ _ _ _ _ _ (.int _ :: _) _ from ?_)
      refine aw_pop K dX6_weight_31 rfl ?_
      refine aw_al0 K dX6_weight_32 ?_
      refine aw_getR K gX6_57 dX6_weight_33 rfl rfl ?_
      refine aw_il2 K dX6_weight_36 ?_
      refine aw_iald K dX6_weight_37 rfl (vp_in_nI (by omega) (by decide)) ?_
      refine aw_iret K rfl dX6_weight_38 ?_
      refine ⟨congrArg some (congrArg Value.int ?_), hq2⟩
      rw [cj, (rm j (by omega)).1]
      refine ((if_pos ok).trans ((if_pos ?_).trans ?_)).symm
      · rw [cj]
        exact (hb_i (by omega)).mp (bI_1.mp b20)
      · rw [cj]
    · refine aw_bipush (v := (-4)) K dX6_weight_23 (by decide) ?_
      refine aw_iret K rfl dX6_weight_25 ?_
      exact ⟨congrArg some (congrArg Value.int ((if_pos ok).trans (if_neg (fun q => bI_0.mp b20 ((hb_i (by omega)).mpr (by rw [cj] at q; exact q))))).symm), H.s⟩
  · refine aw_iconst (v := (-1)) K dX6_weight_9 (by decide) ?_
    refine aw_iret K rfl dX6_weight_10 ?_
    exact ⟨congrArg some (congrArg Value.int (if_neg (bI_0.mp b6)).symm), H.s⟩

theorem cv_1 (g : Nat → Int) (W : Nat → Nat → Int) (k : Nat → Int) : cv g W k (fun _ => true) = sm k 12 := by
  refine sm_c 12 (fun a _ => ?_)
  show (if true = true then k a else _) + sm (fun b => xS (fun _ => true) W a b) 12 = k a
  rw [if_pos rfl, sm_c (g := fun _ => 0) 12 (fun b _ => xS_2 rfl), sm_0]
  omega
theorem cv_nn {g : Nat → Int} {W : Nat → Nat → Int} {k : Nat → Int} (hg : ∀ a, a < 12 → 0 ≤ g a) (hW : ∀ a b, a < 12 → b < 12 → 0 ≤ W a b) (hk : ∀ a, a < 12 → 0 ≤ k a) (X : Nat → Bool) : 0 ≤ cv g W k X := by
  refine sm_nn 12 (fun a ha => ?_)
  have h1 : 0 ≤ sm (fun b => xS X W a b) 12 := sm_nn 12 (fun b hb => by
    show 0 ≤ xS X W a b
    unfold xS
    split
    · exact hW a b ha hb
    · exact Int.le_refl _)
  have h2 : 0 ≤ (if X a = true then k a else g a) := by
    split
    · exact hk a ha
    · exact hg a ha
  exact Int.add_nonneg h2 h1
theorem kF_z (F : Int) (N : Nat) : ∀ a, a < 12 → kF F 0 N a = 0 := by
  intro a ha
  refine if_neg (fun z => ?_)
  have q := (hb1 ha).mp z.2
  rw [b_0] at q
  cases q
theorem kF_nn {F : Int} (hF : 0 ≤ F) (s : Int32) (N : Nat) : ∀ a, a < 12 → 0 ≤ kF F s N a := by
  intro a _
  unfold kF
  split
  · exact hF
  · exact Int.le_refl _
/-- what trust is: the least of all cuts -/
theorem tbI {v : Nat → Nat → Int32} {N T : Nat} {s : Int32} (m : SML v N T) (e : MCE v N T s) : 0 ≤ (tbV v N T s).toInt ∧ (tbV v N T s).toInt ≤ 7200000 ∧ (∀ Y, (tbV v N T s).toInt ≤ cv (gI v N) (wI v T) (kF 100000000 s N) Y) ∧ ∃ X, (tbV v N T s).toInt = cv (gI v N) (wI v T) (kF 100000000 s N) X := by
  have nn : ∀ Y, 0 ≤ cv (gI v N) (wI v T) (kF 100000000 s N) Y := cv_nn (fun a _ => (m.g a).1) (fun a b _ _ => (m.w a b T (Nat.le_refl _)).1) (kF_nn (by decide) s N)
  by_cases z : s = 0
  · subst z
    have e0 : (tbV v N T 0).toInt = 0 := by
      rw [show tbV v N T 0 = 0 from if_pos rfl]
      rfl
    rw [e0]
    refine ⟨Int.le_refl _, by decide, nn, fun _ => true, ?_⟩
    rw [cv_1, sm_c (g := fun _ => 0) 12 (fun a ha => kF_z _ _ a ha), sm_0]
  · obtain ⟨V, X, mc⟩ := e.resolve_left z
    have b0 : 0 ≤ V := by
      rw [mc.1]
      exact nn X
    have b1 : V ≤ 7200000 := by
      have h1 := mc.2.1 (fun _ => false)
      rw [cv_0] at h1
      have h2 := m.gs
      omega
    have e0 : (tbV v N T s).toInt = V := by
      rw [show tbV v N T s = trV v N T s from if_neg z, trV, (mc.tv).1]
      exact Int32.toInt_ofInt_of_le (by omega) (by omega)
    rw [e0]
    exact ⟨b0, b1, mc.2.1, X, mc.1⟩
theorem tv_0 {v : Nat → Nat → Int32} {N T : Nat} {F V : Int} {X : Nat → Bool} (m : SML v N T) (hF : 0 ≤ F) (mc : MC (gI v N) (wI v T) (kF F 0 N) V X) : V = 0 := by
  have h1 := mc.2.1 (fun _ => true)
  rw [cv_1, sm_c (g := fun _ => 0) 12 (fun a ha => kF_z _ _ a ha), sm_0] at h1
  have h2 : 0 ≤ V := by
    rw [mc.1]
    exact cv_nn (fun a _ => (m.g a).1) (fun a b _ _ => (m.w a b T (Nat.le_refl _)).1) (kF_nn hF 0 N) X
  omega
/-- the reference's trust, of none nothing -/
theorem trB (l : Launch) (g : Geo) (sta : Nat → Nat) (h : HS) (a : Int32) (h0 : HS) {N T Wn : Nat} (H0 : MW h0 N T Wn) (s : SML h0.1 N T) (hx : FS h0 h) : CT (wM l g sta) 6 mX7_trustOf [.ref (g.2.1 0), .int a] h (fun o h' => o = some (.int (tbV h0.1 N T a)) ∧ FS h0 h' ∧ MCE h0.1 N T a) := by
  refine CT.imp (trX l g sta h a h0 H0 s hx) (fun o h' q => ?_)
  obtain ⟨q1, r, q2, mc⟩ := q
  refine ⟨?_, q1, Or.inr ⟨_, _, mc⟩⟩
  rw [q2]
  by_cases z : a = 0
  · subst z
    have y : r.toInt = 0 := tv_0 s (by decide) mc
    rw [show tbV h0.1 N T 0 = 0 from if_pos rfl, show r = 0 from Int32.toInt_inj.mp (by rw [y]; rfl)]
  · rw [show tbV h0.1 N T a = trV h0.1 N T a from if_neg z, trV, of_tv (mc.tv).1]
set_option maxHeartbeats 4000000 in
set_option maxRecDepth 100000 in
theorem eX7_weightOf (l : Launch) (g : Geo) (sta : Nat → Nat) (h : HS) (i : Nat) (b : Int32) {N T Wn : Nat} (H : MW h N T Wn) (s : SML h.1 N T) (hi : i < 12) (nb : bt (syV h.1 N Wn b) i = true) : CT (wM l g sta) 7 mX7_weightOf [.ref (g.2.1 0), .int (nI i), .int b] h (fun o h' => o = some (.int (wtV h.1 N T Wn b i)) ∧ FS h h' ∧ MCE h.1 N T (hd (syV h.1 N Wn b) i) ∧ MCE h.1 N T (hd (syV h.1 N Wn b) (i + 1))) := by
  refine CT.at [some (.ref (g.2.1 0)), some (.int (nI i)), some (.int b), none, none] 2 rfl (by decide) (Nat.le_of_ble_eq_true rfl) (fun k K => ?_)
  refine aw_al0 K dX7_weightOf_0 ?_
  refine aw_il2 K dX7_weightOf_1 ?_
  refine aw_callV_I K (tX7_sayersOf l g sta _ _ H) rfl (by decide) fX7_sayersOf lX7_256 dX7_weightOf_2 rfl clsX7 rfl (Nat.le_of_ble_eq_true rfl) ?_
  refine aw_iconst (v := 1) K dX7_weightOf_5 (by decide) ?_
  refine aw_il1 K dX7_weightOf_6 ?_
  refine aw_ishl K dX7_weightOf_7 ?_
  refine aw_iconst (v := 1) K dX7_weightOf_8 (by decide) ?_
  refine aw_isub K dX7_weightOf_9 ?_
  refine aw_iand K dX7_weightOf_10 ?_
  rw [show syV h.1 N Wn b &&& ((1 : Int32) <<< (nI i &&& 31) - 1) = hd (syV h.1 N Wn b) i from rfl]
  refine aw_is3 K dX7_weightOf_11 (by decide) rfl ?_
  refine aw_al0 K dX7_weightOf_12 ?_
  refine aw_il3 K dX7_weightOf_13 ?_
  refine aw_iconst (v := 1) K dX7_weightOf_14 (by decide) ?_
  refine aw_il1 K dX7_weightOf_15 ?_
  refine aw_ishl K dX7_weightOf_16 ?_
  refine aw_ior K dX7_weightOf_17 ?_
  rw [hd_1 hi nb]
  refine aw_callV K (trB l g sta _ _ h H s FS.rf) rfl (by decide) fX7_trustOf lX7_220 dX7_weightOf_18 rfl clsX7 rfl (Nat.le_of_ble_eq_true rfl) (fun o h2 hq => ?_)
  obtain ⟨rfl, hx2, m1⟩ := hq
  refine (show AW _ _ _ _ _ _ _ (.int _ :: _) _ from ?_)
  refine aw_al0 K dX7_weightOf_21 ?_
  refine aw_il3 K dX7_weightOf_22 ?_
  refine aw_callV K (trB l g sta _ _ h H s hx2) rfl (by decide) fX7_trustOf lX7_220 dX7_weightOf_23 rfl clsX7 rfl (Nat.le_of_ble_eq_true rfl) (fun o h2 hq => ?_)
  obtain ⟨rfl, hx3, m0⟩ := hq
  refine (show AW _ _ _ _ _ _ _ (.int _ :: _) _ from ?_)
  refine aw_isub K dX7_weightOf_26 ?_
  refine aw_is4 K dX7_weightOf_27 (by decide) rfl ?_
  refine aw_il4 K dX7_weightOf_29 ?_
  refine aw_al0 K dX7_weightOf_31 ?_
  refine aw_getR K gX7_41 dX7_weightOf_32 rfl rfl ?_
  refine aw_iconst (v := 5) K dX7_weightOf_35 (by decide) ?_
  refine aw_iald K dX7_weightOf_36 rfl (vp_in_nI (n := 5) (by decide) (by decide)) ?_
  rw [show (5 : Int32).toNatClampNeg = 5 from rfl, hx3 11 rfl]
  refine aw_al0 K dX7_weightOf_37 ?_
  refine aw_getI K gX7_106 dX7_weightOf_38 rfl rfl ?_
  rw [hx3 0 rfl]
  refine aw_al0 K dX7_weightOf_41 ?_
  refine aw_getR K gX7_74 dX7_weightOf_42 rfl rfl ?_
  refine aw_al0 K dX7_weightOf_45 ?_
  refine aw_il1 K dX7_weightOf_46 ?_
  refine aw_il2 K dX7_weightOf_47 ?_
  refine aw_callV_I K (tX7_wordBy l g sta _ _ _ (H.f hx3)) rfl (by decide) fX7_wordBy lX7_252 dX7_weightOf_48 rfl clsX7 rfl (Nat.le_of_ble_eq_true rfl) ?_
  rw [hx3.ms.wb]
  refine aw_iald K dX7_weightOf_51 rfl (wb_at H.2.2.1.2 ((syV_b H.1.2 (by omega)).mp nb).2.2) ?_
  rw [hx3 22 rfl]
  refine aw_isub K dX7_weightOf_52 ?_
  refine aw_callS_I K (tX7_faded l g sta _ _ _ _) rfl (by decide) fX7_faded lX7_124 dX7_weightOf_53 rfl (Nat.le_of_ble_eq_true rfl) ?_
  refine aw_iret K rfl dX7_weightOf_56 ?_
  exact ⟨rfl, hx3, m0, m1⟩

set_option maxHeartbeats 4000000 in
set_option maxRecDepth 100000 in
theorem eX7_weight (l : Launch) (g : Geo) (sta : Nat → Nat) (h : HS) (a b : Int32) {N T Wn : Nat} (H : MW h N T Wn) (s : SML h.1 N T) : CT (wM l g sta) 8 mX7_weight [.ref (g.2.1 0), .int a, .int b] h (fun o h' => o = some (.int (wgV h.1 N T Wn a b)) ∧ MS h h') := by
  refine CT.at [some (.ref (g.2.1 0)), some (.int a), some (.int b)] 0 rfl (by decide) (Nat.le_of_ble_eq_true rfl) (fun k K => ?_)
  refine aw_al0 K dX7_weight_0 ?_
  refine aw_il1 K dX7_weight_1 ?_
  refine aw_callV_I K (tX7_isName l g sta _ _) rfl (by decide) fX7_isName lX7_111 dX7_weight_2 rfl clsX7 rfl (Nat.le_of_ble_eq_true rfl) ?_
  refine aw_if_eq (tgt := 21) K dX7_weight_5 (by decide) (fun b5 => ?_) (fun b5 => ?_)
  · refine aw_iconst (v := (-1)) K dX7_weight_21 (by decide) ?_
    refine aw_iret K rfl dX7_weight_22 ?_
    exact ⟨congrArg some (congrArg Value.int (if_neg (fun q => bI_0.mp b5 q.1)).symm), MS.rf⟩
  · refine aw_al0 K dX7_weight_8 ?_
    refine aw_il2 K dX7_weight_9 ?_
    refine aw_callV_I K (tX7_isName l g sta _ _) rfl (by decide) fX7_isName lX7_111 dX7_weight_10 rfl clsX7 rfl (Nat.le_of_ble_eq_true rfl) ?_
    refine aw_if_eq (tgt := 21) K dX7_weight_13 (by decide) (fun b13 => ?_) (fun b13 => ?_)
    · refine aw_iconst (v := (-1)) K dX7_weight_21 (by decide) ?_
      refine aw_iret K rfl dX7_weight_22 ?_
      exact ⟨congrArg some (congrArg Value.int (if_neg (fun q => bI_0.mp b13 q.2.1)).symm), MS.rf⟩
    · refine aw_il2 K dX7_weight_16 ?_
      refine aw_il1 K dX7_weight_17 ?_
      refine aw_icmp_ne (tgt := 23) K dX7_weight_18 (by decide) (fun b18 => ?_) (fun b18 => ?_)
      · have hN := H.1.2
        have ok := And.intro (bI_1.mp b5) (And.intro (bI_1.mp b13) (fun q : a = b => b18 q.symm))
        obtain ⟨j, hj, rfl⟩ := inNj H.1.1 (by omega) ok.2.1
        have cj := nI_clamp (show j < 2 ^ 31 by omega)
        refine aw_al0 K dX7_weight_23 ?_
        refine aw_il1 K dX7_weight_24 ?_
        refine aw_callV_I K (tX7_sayersOf l g sta _ _ H) rfl (by decide) fX7_sayersOf lX7_256 dX7_weight_25 rfl clsX7 rfl (Nat.le_of_ble_eq_true rfl) ?_
        refine aw_il2 K dX7_weight_28 ?_
        refine aw_ishr K dX7_weight_29 ?_
        refine aw_iconst (v := 1) K dX7_weight_30 (by decide) ?_
        refine aw_iand K dX7_weight_31 ?_
        refine aw_iconst (v := 1) K dX7_weight_32 (by decide) ?_
        refine aw_icmp_ne (tgt := 45) K dX7_weight_33 (by decide) (fun b33 => ?_) (fun b33 => ?_)
        · refine aw_bipush (v := (-4)) K dX7_weight_45 (by decide) ?_
          refine aw_iret K rfl dX7_weight_47 ?_
          exact ⟨congrArg some (congrArg Value.int ((if_pos ok).trans (if_neg (fun q => b33 ((hb1 (by omega)).mpr (by rw [cj] at q; exact q))))).symm), MS.rf⟩
        · refine aw_al0 K dX7_weight_36 ?_
          refine aw_il2 K dX7_weight_37 ?_
          refine aw_il1 K dX7_weight_38 ?_
          have nb := (hb1 (show j < 12 by omega)).mp b33
          refine aw_callV K (eX7_weightOf l g sta _ _ _ H s (by omega) nb) rfl (by decide) fX7_weightOf lX7_259 dX7_weight_39 rfl clsX7 rfl (Nat.le_of_ble_eq_true rfl) (fun o h2 hq => ?_)
          obtain ⟨rfl, hx, -⟩ := hq
          refine (show AW _ _ _ _ _ _ _ (.int _ :: _) _ from ?_)
          refine aw_goto (tgt := 47) K dX7_weight_42 (by decide) ?_
          refine aw_iret K rfl dX7_weight_47 ?_
          refine ⟨congrArg some (congrArg Value.int ?_), hx.ms⟩
          refine ((if_pos ok).trans ((if_pos ?_).trans ?_)).symm
          · rw [cj]
            exact nb
          · rw [cj]
            exact if_pos nb
      · refine aw_iconst (v := (-1)) K dX7_weight_21 (by decide) ?_
        refine aw_iret K rfl dX7_weight_22 ?_
        exact ⟨congrArg some (congrArg Value.int (if_neg (fun q => q.2.2 b18.symm)).symm), MS.rf⟩

