noncomputable def t1V (v : Nat → Nat → Int32) (N T i : Nat) : Int32 := trV v N T ((1 : Int32) <<< (nI i &&& 31))
noncomputable def t2V (v : Nat → Nat → Int32) (N T i j : Nat) : Int32 := t1V v N T i + t1V v N T j - trV v N T ((1 : Int32) <<< (nI i &&& 31) ||| (1 : Int32) <<< (nI j &&& 31))
noncomputable def twB (v : Nat → Nat → Int32) (N T i j : Nat) (p : Int32 × Int32) : Int32 × Int32 := if (v 2 i = 0 ∧ v 3 i = 0) ∧ (v 2 j = 0 ∧ v 3 j = 0) then (if t2V v N T i j ≤ p.2 then p else (16 * nI i + nI j, t2V v N T i j)) else p
noncomputable def twR (v : Nat → Nat → Int32) (N T i : Nat) : Nat → Nat → Int32 × Int32 → Int32 × Int32
  | 0, _, p => p
  | n + 1, j, p => twR v N T i n (j + 1) (twB v N T i j p)
noncomputable def twO (v : Nat → Nat → Int32) (N T : Nat) : Nat → Nat → Int32 × Int32 → Int32 × Int32
  | 0, _, p => p
  | n + 1, i, p => twO v N T n (i + 1) (twR v N T i (N - (i + 1)) (i + 1) p)
noncomputable def twX (v : Nat → Nat → Int32) (N T : Nat) (a : Int32) (p : Int32 × Int32) : Int32 := if a = 0 ∨ p.1 = -4 then p.1 else p.2
noncomputable def twM (v : Nat → Nat → Int32) (N T : Nat) (a : Int32) (p : Int32 × Int32) : Int32 := if p.1 = -4 then -4 else if a = 0 then p.1 else p.2
noncomputable def twV (v : Nat → Nat → Int32) (N T : Nat) (a : Int32) : Int32 := if 0 ≤ a ∧ a ≤ 1 then twM v N T a (twO v N T N 0 (-4, 0)) else -1
theorem twXM {v : Nat → Nat → Int32} {N T : Nat} {a : Int32} {p : Int32 × Int32} : twX v N T a p = twM v N T a p := by
  unfold twX twM
  by_cases q : p.1 = -4
  · rw [if_pos (Or.inr q), if_pos q, q]
  · rw [if_neg q]
    by_cases u : a = 0
    · rw [if_pos (Or.inl u), if_pos u]
    · rw [if_neg (fun z => z.elim u q), if_neg u]
theorem twB_eq {hx hm : HS} (r : REL hx hm) (N T i j : Nat) (p : Int32 × Int32) : twB hm.1 N T i j p = twB (vX hx) N T i j p := by
  unfold twB t2V t1V
  rw [trV_eq r, trV_eq r, trV_eq r, r.r (17, 2) (by decide), r.r (18, 3) (by decide)]
  rfl
theorem twR_eq {hx hm : HS} (r : REL hx hm) (N T i : Nat) : ∀ n j p, twR hm.1 N T i n j p = twR (vX hx) N T i n j p
  | 0, _, _ => rfl
  | n + 1, j, p => by
    unfold twR
    rw [twB_eq r]
    exact twR_eq r N T i n (j + 1) _
theorem twO_eq {hx hm : HS} (r : REL hx hm) (N T : Nat) : ∀ n i p, twO hm.1 N T n i p = twO (vX hx) N T n i p
  | 0, _, _ => rfl
  | n + 1, i, p => by
    unfold twO
    rw [twR_eq r]
    exact twO_eq r N T n (i + 1) _
theorem tw_eq {hx hm : HS} (r : REL hx hm) (N T : Nat) (a : Int32) : twV (vX hx) N T a = twV hm.1 N T a := by
  unfold twV
  rw [twO_eq r]
  rfl
theorem hp_2 {i j N : Nat} (hN : N ≤ 12) (hi : i < N) (hj : j < N) : ∀ x, x < 14 → bt ((1 : Int32) <<< (nI i &&& 31) ||| (1 : Int32) <<< (nI j &&& 31)) x = true → x < N := by
  intro x hx q
  rw [b_or, b_sh1 (by omega) (by omega), b_sh1 (by omega) (by omega), Bool.or_eq_true, decide_eq_true_iff, decide_eq_true_iff] at q
  omega
/-- the trusts of each alone -/
def STK (h0 h : HS) (N T i : Nat) : Prop := ∀ x, x < i → h.1 15 x = if vX h0 2 x = 0 ∧ vX h0 3 x = 0 then t1V (vX h0) N T x else 0
theorem STK.put {h0 h : HS} {N T i : Nat} {v : Int32} (s : STK h0 h N T i) (hv : v = if vX h0 2 i = 0 ∧ vX h0 3 i = 0 then t1V (vX h0) N T i else 0) : STK h0 (setI h 15 i v) N T (i + 1) := by
  intro x hx
  rw [rdI]
  by_cases q : x = i
  · rw [if_pos ⟨rfl, q⟩, q]
    exact hv
  · rw [if_neg (fun z => q z.2)]
    exact s x (by omega)
theorem LY.pt {h0 h : HS} {N T i : Nat} {v : Int32} (l : LY h0 h N T) : LY h0 (setI h 15 i v) N T := ⟨l.1.pt rfl (by decide), l.2⟩
set_option maxHeartbeats 4000000 in
set_option maxRecDepth 100000 in
theorem lrX6_fillTrusts {l : Launch} {g : Geo} {sta : Nat → Nat} {k : KT} (K : AOK (wX l g sta) mX6_fillTrusts k) (h0 : HS) {N T Wn : Nat} (H0 : XW h0 N T Wn) (s : SML (vX h0) N T) :
    ∀ (n i : Nat) (h : HS), i ≤ N → N - i < n → LY h0 h N T → STK h0 h N T i → AW (wX l g sta) (fun o h' => o = none ∧ LY h0 h' N T ∧ STK h0 h' N T N) 6 mX6_fillTrusts k 6 [some (.ref (g.2.1 0)), some (.int (nI i))] [] h := by
  intro n
  have hN := H0.1.2
  induction n with
  | zero => intro i h h1 h2; omega
  | succ n ih =>
    intro i h h1 h2 ly st
    have H := H0.q ly.1
    have e2 : vX h 2 = vX h0 2 := ly.1.1 17 rfl
    have e3 : vX h 3 = vX h0 3 := ly.1.1 18 rfl
    refine aw_il1 K dX6_fillTrusts_6 ?_
    refine aw_al0 K dX6_fillTrusts_7 ?_
    refine aw_getR K gX6_12 dX6_fillTrusts_8 rfl rfl ?_
    refine aw_getI K gX6_161 dX6_fillTrusts_11 rfl rfl ?_
    rw [H.1.1]
    refine aw_icmp_ge (tgt := 51) K dX6_fillTrusts_14 (by decide) (fun b14 => ?_) (fun b14 => ?_)
    · have hge : N ≤ i := (nI_leI (a := N) (by omega) (by omega : i < 2 ^ 31)).mp b14
      obtain rfl : i = N := by omega
      refine aw_vret K rfl dX6_fillTrusts_51 ?_
      exact ⟨rfl, ly, st⟩
    · have hlt : i < N := by
        rcases Nat.lt_or_ge i N with q | q
        · exact q
        · exact absurd (nI_le (a := N) q (by omega)) b14
      refine aw_al0 K dX6_fillTrusts_17 ?_
      refine aw_getR K gX6_63 dX6_fillTrusts_18 rfl rfl ?_
      refine aw_il1 K dX6_fillTrusts_21 ?_
      refine aw_al0 K dX6_fillTrusts_22 ?_
      refine aw_il1 K dX6_fillTrusts_23 ?_
      refine aw_callV_I K (tX6_isPlain l g sta _ _ (vp_in_nI (by omega) (by decide))) rfl (by decide) fX6_isPlain lX6_208 dX6_fillTrusts_24 rfl clsX6 rfl (Nat.le_of_ble_eq_true rfl) ?_
      refine aw_if_eq (tgt := 43) K dX6_fillTrusts_27 (by decide) (fun b27 => ?_) (fun b27 => ?_)
      · have pl := bI_0.mp b27
        rw [nI_clamp (show i < 2 ^ 31 by omega), e2, e3] at pl
        refine aw_iconst (v := 0) K dX6_fillTrusts_43 (by decide) ?_
        refine aw_iast K dX6_fillTrusts_44 rfl (vp_in_nI (by omega) (by decide)) ?_
        refine aw_ii1 (v := _ + 1) K dX6_fillTrusts_45 rfl (by decide) rfl ?_
        refine aw_goto (tgt := 6) K dX6_fillTrusts_48 (by decide) ?_
        rw [nI_1, nI_clamp (show i < 2 ^ 31 by omega)]
        exact ih (i + 1) _ (by omega) (by omega) ly.pt (st.put (if_neg pl).symm)
      · have pl := bI_1.mp b27
        rw [nI_clamp (show i < 2 ^ 31 by omega), e2, e3] at pl
        refine aw_al0 K dX6_fillTrusts_30 ?_
        refine aw_getR K gX6_40 dX6_fillTrusts_31 rfl rfl ?_
        refine aw_iconst (v := 1) K dX6_fillTrusts_34 (by decide) ?_
        refine aw_il1 K dX6_fillTrusts_35 ?_
        refine aw_ishl K dX6_fillTrusts_36 ?_
        refine aw_callV K (moT l g sta _ _ h0 H0 s ly (hp_1 hN hlt)) rfl (by decide) fX0_most lX6_193 dX6_fillTrusts_37 rfl clsX0 rfl (Nat.le_of_ble_eq_true rfl) (fun o h2 hq => ?_)
        obtain ⟨rfl, ly2, -, fr, -⟩ := hq
        refine (show AW _ _ _ _ _ _ _ (.int _ :: _) _ from ?_)
        have e15 : h2.1 15 = h.1 15 := fr 15 (by decide) (by decide) (by decide) (by decide) (by decide)
        refine aw_goto (tgt := 44) K dX6_fillTrusts_40 (by decide) ?_
        refine aw_iast K dX6_fillTrusts_44 rfl (vp_in_nI (by omega) (by decide)) ?_
        refine aw_ii1 (v := _ + 1) K dX6_fillTrusts_45 rfl (by decide) rfl ?_
        refine aw_goto (tgt := 6) K dX6_fillTrusts_48 (by decide) ?_
        rw [nI_1, nI_clamp (show i < 2 ^ 31 by omega)]
        exact ih (i + 1) _ (by omega) (by omega) ly2.pt (STK.put (fun x hx => by rw [e15]; exact st x hx) (if_pos pl).symm)
set_option maxHeartbeats 4000000 in
set_option maxRecDepth 100000 in
theorem eX6_fillTrusts (l : Launch) (g : Geo) (sta : Nat → Nat) (h : HS) {N T Wn : Nat} (H : XW h N T Wn) (s : SML (vX h) N T) : CT (wX l g sta) 6 mX6_fillTrusts [.ref (g.2.1 0)] h (fun o h' => o = none ∧ LY h h' N T ∧ STK h h' N T N) := by
  refine CT.at [some (.ref (g.2.1 0)), none] 1 rfl (by decide) (Nat.le_of_ble_eq_true rfl) (fun k K => ?_)
  refine aw_al0 K dX6_fillTrusts_0 ?_
  refine aw_callV K (laX l g sta _ H s) rfl (by decide) fX6_layFlow lX6_190 dX6_fillTrusts_1 rfl clsX6 rfl (Nat.le_of_ble_eq_true rfl) (fun o h2 hq => ?_)
  obtain ⟨rfl, ly⟩ := hq
  have ly : LY h h2 N T := ly
  refine aw_iconst (v := 0) K dX6_fillTrusts_4 (by decide) ?_
  refine aw_is1 K dX6_fillTrusts_5 (by decide) rfl ?_
  exact lrX6_fillTrusts K h H s (N + 1) 0 _ (by omega) (by omega) ly (fun x hx => absurd hx (Nat.not_lt_zero _))

set_option maxHeartbeats 4000000 in
set_option maxRecDepth 100000 in
theorem lr2X6_twins {l : Launch} {g : Geo} {sta : Nat → Nat} {k : KT} (K : AOK (wX l g sta) mX6_twins k) (h0 : HS) (a : Int32) {N T Wn : Nat} (H0 : XW h0 N T Wn) (s : SML (vX h0) N T) (i : Nat) (hi : i < N) :
    ∀ (n j : Nat) (p : Int32 × Int32) (h : HS), j + n = N → LY h0 h N T → STK h0 h N T N → (∀ h', LY h0 h' N T → STK h0 h' N T N → AW (wX l g sta) (fun o h' => o = some (.int (twV (vX h0) N T a)) ∧ XQ h0 h') 7 mX6_twins k 132 [some (.ref (g.2.1 0)), some (.int a), some (.int (twR (vX h0) N T i n j p).1), some (.int (twR (vX h0) N T i n j p).2), some (.int (nI i)), none, none] [] h') → AW (wX l g sta) (fun o h' => o = some (.int (twV (vX h0) N T a)) ∧ XQ h0 h') 7 mX6_twins k 41 [some (.ref (g.2.1 0)), some (.int a), some (.int p.1), some (.int p.2), some (.int (nI i)), some (.int (nI j)), none] [] h := by
  intro n
  have hN := H0.1.2
  induction n with
  | zero =>
    intro j p h k1 ly sk hk
    have H := H0.q ly.1
    obtain rfl : j = N := by omega
    refine aw_il5 K dX6_twins_41 ?_
    refine aw_al0 K dX6_twins_43 ?_
    refine aw_getR K gX6_12 dX6_twins_44 rfl rfl ?_
    refine aw_getI K gX6_161 dX6_twins_47 rfl rfl ?_
    rw [H.1.1]
    refine aw_icmp_ge (tgt := 132) K dX6_twins_50 (by decide) (fun b50 => ?_) (fun b50 => ?_)
    · refine aw_sub [some (.ref (g.2.1 0)), some (.int a), some (.int _), some (.int _), some (.int _), none, none] ⟨rfl, rfl, rfl, rfl, rfl, trivial⟩ ?_
      exact hk h ly sk
    · exact absurd (Int32.le_refl _) b50
  | succ n ih =>
    intro j p h k1 ly sk hk
    have H := H0.q ly.1
    have e2 : vX h 2 = vX h0 2 := ly.1.1 17 rfl
    have e3 : vX h 3 = vX h0 3 := ly.1.1 18 rfl
    refine aw_il5 K dX6_twins_41 ?_
    refine aw_al0 K dX6_twins_43 ?_
    refine aw_getR K gX6_12 dX6_twins_44 rfl rfl ?_
    refine aw_getI K gX6_161 dX6_twins_47 rfl rfl ?_
    rw [H.1.1]
    refine aw_icmp_ge (tgt := 132) K dX6_twins_50 (by decide) (fun b50 => ?_) (fun b50 => ?_)
    · exact absurd b50 (nI_ge (by omega) (by omega))
    · refine aw_al0 K dX6_twins_53 ?_
      refine aw_il4 K dX6_twins_54 ?_
      refine aw_callV_I K (tX6_isPlain l g sta _ _ (vp_in_nI (by omega) (by decide))) rfl (by decide) fX6_isPlain lX6_208 dX6_twins_56 rfl clsX6 rfl (Nat.le_of_ble_eq_true rfl) ?_
      refine aw_if_eq (tgt := 126) K dX6_twins_59 (by decide) (fun b59 => ?_) (fun b59 => ?_)
      · have pi := bI_0.mp b59
        rw [nI_clamp (show i < 2 ^ 31 by omega), e2, e3] at pi
        refine aw_ii5 (v := _ + 1) K dX6_twins_126 rfl (by decide) rfl ?_
        refine aw_goto (tgt := 41) K dX6_twins_129 (by decide) ?_
        rw [nI_1]
        refine aw_sub [some (.ref (g.2.1 0)), some (.int a), some (.int _), some (.int _), some (.int _), some (.int _), none] ⟨rfl, rfl, rfl, rfl, rfl, rfl, trivial⟩ ?_
        have z := ih (j + 1) (twB (vX h0) N T i j p) h (by omega) ly sk hk
        rw [show twB (vX h0) N T i j p = _ from if_neg (fun q => pi q.1)] at z
        exact z
      · have pi := bI_1.mp b59
        rw [nI_clamp (show i < 2 ^ 31 by omega), e2, e3] at pi
        refine aw_al0 K dX6_twins_62 ?_
        refine aw_il5 K dX6_twins_63 ?_
        refine aw_callV_I K (tX6_isPlain l g sta _ _ (vp_in_nI (by omega) (by decide))) rfl (by decide) fX6_isPlain lX6_208 dX6_twins_65 rfl clsX6 rfl (Nat.le_of_ble_eq_true rfl) ?_
        refine aw_if_ne (tgt := 74) K dX6_twins_68 (by decide) (fun b68 => ?_) (fun b68 => ?_)
        · have pj := bI_1.mp b68
          rw [nI_clamp (show j < 2 ^ 31 by omega), e2, e3] at pj
          refine aw_al0 K dX6_twins_74 ?_
          refine aw_getR K gX6_63 dX6_twins_75 rfl rfl ?_
          refine aw_il4 K dX6_twins_78 ?_
          refine aw_iald K dX6_twins_80 rfl (vp_in_nI (by omega) (by decide)) ?_
          rw [nI_clamp (show i < 2 ^ 31 by omega), sk i (by omega), if_pos pi]
          refine aw_al0 K dX6_twins_81 ?_
          refine aw_getR K gX6_63 dX6_twins_82 rfl rfl ?_
          refine aw_il5 K dX6_twins_85 ?_
          refine aw_iald K dX6_twins_87 rfl (vp_in_nI (by omega) (by decide)) ?_
          rw [nI_clamp (show j < 2 ^ 31 by omega), sk j (by omega), if_pos pj]
          refine aw_iadd K dX6_twins_88 ?_
          refine aw_al0 K dX6_twins_89 ?_
          refine aw_getR K gX6_40 dX6_twins_90 rfl rfl ?_
          refine aw_iconst (v := 1) K dX6_twins_93 (by decide) ?_
          refine aw_il4 K dX6_twins_94 ?_
          refine aw_ishl K dX6_twins_96 ?_
          refine aw_iconst (v := 1) K dX6_twins_97 (by decide) ?_
          refine aw_il5 K dX6_twins_98 ?_
          refine aw_ishl K dX6_twins_100 ?_
          refine aw_ior K dX6_twins_101 ?_
          refine aw_callV K (moT l g sta _ _ h0 H0 s ly (hp_2 hN (by omega) (by omega))) rfl (by decide) fX0_most lX6_193 dX6_twins_102 rfl clsX0 rfl (Nat.le_of_ble_eq_true rfl) (fun o h2 hq => ?_)
          obtain ⟨rfl, ly2, -, fr, -⟩ := hq
          refine (show AW _ _ _ _ _ _ _ (.int _ :: _) _ from ?_)
          have e15 : h2.1 15 = h.1 15 := fr 15 (by decide) (by decide) (by decide) (by decide) (by decide)
          refine aw_isub K dX6_twins_105 ?_
          refine aw_is6 K dX6_twins_106 (by decide) rfl ?_
          refine aw_il6 K dX6_twins_108 ?_
          refine aw_il3 K dX6_twins_110 ?_
          refine aw_icmp_le (tgt := 126) K dX6_twins_111 (by decide) (fun b111 => ?_) (fun b111 => ?_)
          · refine aw_ii5 (v := _ + 1) K dX6_twins_126 rfl (by decide) rfl ?_
            refine aw_goto (tgt := 41) K dX6_twins_129 (by decide) ?_
            rw [nI_1]
            refine aw_sub [some (.ref (g.2.1 0)), some (.int a), some (.int _), some (.int _), some (.int _), some (.int _), none] ⟨rfl, rfl, rfl, rfl, rfl, rfl, trivial⟩ ?_
            have z := ih (j + 1) (twB (vX h0) N T i j p) h2 (by omega) ly2 (fun x hx => by rw [e15]; exact sk x hx) hk
            rw [show twB (vX h0) N T i j p = _ from (if_pos ⟨pi, pj⟩).trans (if_pos b111)] at z
            exact z
          · refine aw_bipush (v := 16) K dX6_twins_114 (by decide) ?_
            refine aw_il4 K dX6_twins_116 ?_
            refine aw_imul K dX6_twins_118 ?_
            refine aw_il5 K dX6_twins_119 ?_
            refine aw_iadd K dX6_twins_121 ?_
            refine aw_is2 K dX6_twins_122 (by decide) rfl ?_
            refine aw_il6 K dX6_twins_123 ?_
            refine aw_is3 K dX6_twins_125 (by decide) rfl ?_
            refine aw_ii5 (v := _ + 1) K dX6_twins_126 rfl (by decide) rfl ?_
            refine aw_goto (tgt := 41) K dX6_twins_129 (by decide) ?_
            rw [nI_1]
            refine aw_sub [some (.ref (g.2.1 0)), some (.int a), some (.int _), some (.int _), some (.int _), some (.int _), none] ⟨rfl, rfl, rfl, rfl, rfl, rfl, trivial⟩ ?_
            have z := ih (j + 1) (twB (vX h0) N T i j p) h2 (by omega) ly2 (fun x hx => by rw [e15]; exact sk x hx) hk
            rw [show twB (vX h0) N T i j p = _ from (if_pos ⟨pi, pj⟩).trans (if_neg b111)] at z
            exact z
        · have pj := bI_0.mp b68
          rw [nI_clamp (show j < 2 ^ 31 by omega), e2, e3] at pj
          refine aw_goto (tgt := 126) K dX6_twins_71 (by decide) ?_
          refine aw_ii5 (v := _ + 1) K dX6_twins_126 rfl (by decide) rfl ?_
          refine aw_goto (tgt := 41) K dX6_twins_129 (by decide) ?_
          rw [nI_1]
          refine aw_sub [some (.ref (g.2.1 0)), some (.int a), some (.int _), some (.int _), some (.int _), some (.int _), none] ⟨rfl, rfl, rfl, rfl, rfl, rfl, trivial⟩ ?_
          have z := ih (j + 1) (twB (vX h0) N T i j p) h (by omega) ly sk hk
          rw [show twB (vX h0) N T i j p = _ from if_neg (fun q => pj q.2)] at z
          exact z
set_option maxHeartbeats 4000000 in
set_option maxRecDepth 100000 in
theorem lr1X6_twins {l : Launch} {g : Geo} {sta : Nat → Nat} {k : KT} (K : AOK (wX l g sta) mX6_twins k) (h0 : HS) (a : Int32) (ok : 0 ≤ a ∧ a ≤ 1) {N T Wn : Nat} (H0 : XW h0 N T Wn) (s : SML (vX h0) N T) :
    ∀ (n i : Nat) (p : Int32 × Int32) (h : HS), i + n = N → LY h0 h N T → STK h0 h N T N → twO (vX h0) N T n i p = twO (vX h0) N T N 0 (-4, 0) → AW (wX l g sta) (fun o h' => o = some (.int (twV (vX h0) N T a)) ∧ XQ h0 h') 7 mX6_twins k 23 [some (.ref (g.2.1 0)), some (.int a), some (.int p.1), some (.int p.2), some (.int (nI i)), none, none] [] h := by
  intro n
  have hN := H0.1.2
  induction n with
  | zero =>
    intro i p h k1 ly sk e
    have H := H0.q ly.1
    have e : p = twO (vX h0) N T N 0 (-4, 0) := e
    have tv : twV (vX h0) N T a = twX (vX h0) N T a p := by rw [twV, if_pos ok, ← e, twXM]
    obtain rfl : i = N := by omega
    refine aw_il4 K dX6_twins_23 ?_
    refine aw_al0 K dX6_twins_25 ?_
    refine aw_getR K gX6_12 dX6_twins_26 rfl rfl ?_
    refine aw_getI K gX6_161 dX6_twins_29 rfl rfl ?_
    rw [H.1.1]
    refine aw_icmp_ge (tgt := 138) K dX6_twins_32 (by decide) (fun b32 => ?_) (fun b32 => ?_)
    · refine aw_il1 K dX6_twins_138 ?_
      refine aw_if_eq (tgt := 148) K dX6_twins_139 (by decide) (fun b139 => ?_) (fun b139 => ?_)
      · refine aw_il2 K dX6_twins_148 ?_
        refine aw_goto (tgt := 153) K dX6_twins_149 (by decide) ?_
        refine aw_iret K rfl dX6_twins_153 ?_
        exact ⟨congrArg some (congrArg Value.int (tv.trans (if_pos (Or.inl b139))).symm), ly.1⟩
      · refine aw_il2 K dX6_twins_142 ?_
        refine aw_bipush (v := (-4)) K dX6_twins_143 (by decide) ?_
        refine aw_icmp_ne (tgt := 152) K dX6_twins_145 (by decide) (fun b145 => ?_) (fun b145 => ?_)
        · refine aw_il3 K dX6_twins_152 ?_
          refine aw_iret K rfl dX6_twins_153 ?_
          exact ⟨congrArg some (congrArg Value.int (tv.trans (if_neg (fun z => z.elim b139 b145))).symm), ly.1⟩
        · refine aw_il2 K dX6_twins_148 ?_
          refine aw_goto (tgt := 153) K dX6_twins_149 (by decide) ?_
          refine aw_iret K rfl dX6_twins_153 ?_
          exact ⟨congrArg some (congrArg Value.int (tv.trans (if_pos (Or.inr b145))).symm), ly.1⟩
    · exact absurd (Int32.le_refl _) b32
  | succ n ih =>
    intro i p h k1 ly sk e
    have H := H0.q ly.1
    refine aw_il4 K dX6_twins_23 ?_
    refine aw_al0 K dX6_twins_25 ?_
    refine aw_getR K gX6_12 dX6_twins_26 rfl rfl ?_
    refine aw_getI K gX6_161 dX6_twins_29 rfl rfl ?_
    rw [H.1.1]
    refine aw_icmp_ge (tgt := 138) K dX6_twins_32 (by decide) (fun b32 => ?_) (fun b32 => ?_)
    · exact absurd b32 (nI_ge (by omega) (by omega))
    · refine aw_il4 K dX6_twins_35 ?_
      refine aw_iconst (v := 1) K dX6_twins_37 (by decide) ?_
      refine aw_iadd K dX6_twins_38 ?_
      refine aw_is5 K dX6_twins_39 (by decide) rfl ?_
      rw [nI_1]
      refine lr2X6_twins K h0 a H0 s i (by omega) (N - (i + 1)) (i + 1) p h (by omega) ly sk (fun h' ly' sk' => ?_)
      refine aw_ii4 (v := _ + 1) K dX6_twins_132 rfl (by decide) rfl ?_
      refine aw_goto (tgt := 23) K dX6_twins_135 (by decide) ?_
      rw [nI_1]
      exact ih (i + 1) _ h' (by omega) ly' sk' e
set_option maxHeartbeats 4000000 in
set_option maxRecDepth 100000 in
theorem eX6_twins (l : Launch) (g : Geo) (sta : Nat → Nat) (h : HS) (a : Int32) {N T Wn : Nat} (H : XW h N T Wn) (s : SML (vX h) N T) : CT (wX l g sta) 7 mX6_twins [.ref (g.2.1 0), .int a] h (fun o h' => o = some (.int (twV (vX h) N T a)) ∧ XQ h h') := by
  refine CT.at [some (.ref (g.2.1 0)), some (.int a), none, none, none, none, none] 5 rfl (by decide) (Nat.le_of_ble_eq_true rfl) (fun k K => ?_)
  refine aw_il1 K dX6_twins_0 ?_
  refine aw_iconst (v := 0) K dX6_twins_1 (by decide) ?_
  refine aw_iconst (v := 1) K dX6_twins_2 (by decide) ?_
  refine aw_callS_I K (tX6_within l g sta _ _ _ _) rfl (by decide) fX6_within lX6_76 dX6_twins_3 rfl (Nat.le_of_ble_eq_true rfl) ?_
  refine aw_if_ne (tgt := 11) K dX6_twins_6 (by decide) (fun b6 => ?_) (fun b6 => ?_)
  · refine aw_al0 K dX6_twins_11 ?_
    refine aw_callV K (eX6_fillTrusts l g sta _ H s) rfl (by decide) fX6_fillTrusts lX6_211 dX6_twins_12 rfl clsX6 rfl (Nat.le_of_ble_eq_true rfl) (fun o h2 hq => ?_)
    obtain ⟨rfl, ly, sk⟩ := hq
    refine aw_bipush (v := (-4)) K dX6_twins_15 (by decide) ?_
    refine aw_is2 K dX6_twins_17 (by decide) rfl ?_
    refine aw_iconst (v := 0) K dX6_twins_18 (by decide) ?_
    refine aw_is3 K dX6_twins_19 (by decide) rfl ?_
    refine aw_iconst (v := 0) K dX6_twins_20 (by decide) ?_
    refine aw_is4 K dX6_twins_21 (by decide) rfl ?_
    exact lr1X6_twins K h a (bI_1.mp b6) H s N 0 (-4, 0) _ (by omega) ly sk rfl
  · refine aw_iconst (v := (-1)) K dX6_twins_9 (by decide) ?_
    refine aw_iret K rfl dX6_twins_10 ?_
    exact ⟨congrArg some (congrArg Value.int (if_neg (bI_0.mp b6)).symm), H.s⟩

set_option maxHeartbeats 4000000 in
set_option maxRecDepth 100000 in
theorem lr2X7_twins {l : Launch} {g : Geo} {sta : Nat → Nat} {k : KT} (K : AOK (wM l g sta) mX7_twins k) (h0 : HS) (a : Int32) {N T Wn : Nat} (H0 : MW h0 N T Wn) (s : SML h0.1 N T) (i : Nat) (hi : i < N) :
    ∀ (n j : Nat) (p : Int32 × Int32) (h : HS), j + n = N → FS h0 h → (∀ h', FS h0 h' → AW (wM l g sta) (fun o h' => o = some (.int (twV h0.1 N T a)) ∧ MS h0 h') 7 mX7_twins k 133 [some (.ref (g.2.1 0)), some (.int a), some (.int (twR h0.1 N T i n j p).1), some (.int (twR h0.1 N T i n j p).2), some (.int (nI i)), none, none] [] h') → AW (wM l g sta) (fun o h' => o = some (.int (twV h0.1 N T a)) ∧ MS h0 h') 7 mX7_twins k 35 [some (.ref (g.2.1 0)), some (.int a), some (.int p.1), some (.int p.2), some (.int (nI i)), some (.int (nI j)), none] [] h := by
  intro n
  have hN := H0.1.2
  induction n with
  | zero =>
    intro j p h k1 hx hk
    have H := H0.f hx
    obtain rfl : j = N := by omega
    refine aw_il5 K dX7_twins_35 ?_
    refine aw_al0 K dX7_twins_37 ?_
    refine aw_getI K gX7_98 dX7_twins_38 rfl rfl ?_
    rw [H.1.1]
    refine aw_icmp_ge (tgt := 133) K dX7_twins_41 (by decide) (fun b41 => ?_) (fun b41 => ?_)
    · refine aw_sub [some (.ref (g.2.1 0)), some (.int a), some (.int _), some (.int _), some (.int _), none, none] ⟨rfl, rfl, rfl, rfl, rfl, trivial⟩ ?_
      exact hk h hx
    · exact absurd (Int32.le_refl _) b41
  | succ n ih =>
    intro j p h k1 hx hk
    have H := H0.f hx
    have e2 := hx 2 rfl
    have e3 := hx 3 rfl
    refine aw_il5 K dX7_twins_35 ?_
    refine aw_al0 K dX7_twins_37 ?_
    refine aw_getI K gX7_98 dX7_twins_38 rfl rfl ?_
    rw [H.1.1]
    refine aw_icmp_ge (tgt := 133) K dX7_twins_41 (by decide) (fun b41 => ?_) (fun b41 => ?_)
    · exact absurd b41 (nI_ge (by omega) (by omega))
    · refine aw_al0 K dX7_twins_44 ?_
      refine aw_il4 K dX7_twins_45 ?_
      refine aw_callV_I K (tX7_isPlain l g sta _ _ (vp_in_nI (by omega) (by decide))) rfl (by decide) fX7_isPlain lX7_228 dX7_twins_47 rfl clsX7 rfl (Nat.le_of_ble_eq_true rfl) ?_
      refine aw_if_eq (tgt := 127) K dX7_twins_50 (by decide) (fun b50 => ?_) (fun b50 => ?_)
      · have pi := bI_0.mp b50
        rw [nI_clamp (show i < 2 ^ 31 by omega), e2, e3] at pi
        refine aw_ii5 (v := _ + 1) K dX7_twins_127 rfl (by decide) rfl ?_
        refine aw_goto (tgt := 35) K dX7_twins_130 (by decide) ?_
        rw [nI_1]
        refine aw_sub [some (.ref (g.2.1 0)), some (.int a), some (.int _), some (.int _), some (.int _), some (.int _), none] ⟨rfl, rfl, rfl, rfl, rfl, rfl, trivial⟩ ?_
        have z := ih (j + 1) (twB (h0.1) N T i j p) h (by omega) hx hk
        rw [show twB (h0.1) N T i j p = _ from if_neg (fun q => pi q.1)] at z
        exact z
      · have pi := bI_1.mp b50
        rw [nI_clamp (show i < 2 ^ 31 by omega), e2, e3] at pi
        refine aw_al0 K dX7_twins_53 ?_
        refine aw_il5 K dX7_twins_54 ?_
        refine aw_callV_I K (tX7_isPlain l g sta _ _ (vp_in_nI (by omega) (by decide))) rfl (by decide) fX7_isPlain lX7_228 dX7_twins_56 rfl clsX7 rfl (Nat.le_of_ble_eq_true rfl) ?_
        refine aw_if_eq (tgt := 127) K dX7_twins_59 (by decide) (fun b59 => ?_) (fun b59 => ?_)
        · have pj := bI_0.mp b59
          rw [nI_clamp (show j < 2 ^ 31 by omega), e2, e3] at pj
          refine aw_ii5 (v := _ + 1) K dX7_twins_127 rfl (by decide) rfl ?_
          refine aw_goto (tgt := 35) K dX7_twins_130 (by decide) ?_
          rw [nI_1]
          refine aw_sub [some (.ref (g.2.1 0)), some (.int a), some (.int _), some (.int _), some (.int _), some (.int _), none] ⟨rfl, rfl, rfl, rfl, rfl, rfl, trivial⟩ ?_
          have z := ih (j + 1) (twB (h0.1) N T i j p) h (by omega) hx hk
          rw [show twB (h0.1) N T i j p = _ from if_neg (fun q => pj q.2)] at z
          exact z
        · have pj := bI_1.mp b59
          rw [nI_clamp (show j < 2 ^ 31 by omega), e2, e3] at pj
          refine aw_al0 K dX7_twins_62 ?_
          refine aw_iconst (v := 1) K dX7_twins_63 (by decide) ?_
          refine aw_il4 K dX7_twins_64 ?_
          refine aw_ishl K dX7_twins_66 ?_
          refine aw_callV K (trT l g sta _ _ h0 H0 s hx) rfl (by decide) fX7_trustOf lX7_220 dX7_twins_67 rfl clsX7 rfl (Nat.le_of_ble_eq_true rfl) (fun o h2 hq => ?_)
          obtain ⟨rfl, hx2, -⟩ := hq
          refine (show AW _ _ _ _ _ _ _ (.int _ :: _) _ from ?_)
          refine aw_al0 K dX7_twins_70 ?_
          refine aw_iconst (v := 1) K dX7_twins_71 (by decide) ?_
          refine aw_il5 K dX7_twins_72 ?_
          refine aw_ishl K dX7_twins_74 ?_
          refine aw_callV K (trT l g sta _ _ h0 H0 s hx2) rfl (by decide) fX7_trustOf lX7_220 dX7_twins_75 rfl clsX7 rfl (Nat.le_of_ble_eq_true rfl) (fun o h2 hq => ?_)
          obtain ⟨rfl, hx3, -⟩ := hq
          refine (show AW _ _ _ _ _ _ _ (.int _ :: _) _ from ?_)
          refine aw_iadd K dX7_twins_78 ?_
          refine aw_al0 K dX7_twins_79 ?_
          refine aw_iconst (v := 1) K dX7_twins_80 (by decide) ?_
          refine aw_il4 K dX7_twins_81 ?_
          refine aw_ishl K dX7_twins_83 ?_
          refine aw_iconst (v := 1) K dX7_twins_84 (by decide) ?_
          refine aw_il5 K dX7_twins_85 ?_
          refine aw_ishl K dX7_twins_87 ?_
          refine aw_ior K dX7_twins_88 ?_
          refine aw_callV K (trT l g sta _ _ h0 H0 s hx3) rfl (by decide) fX7_trustOf lX7_220 dX7_twins_89 rfl clsX7 rfl (Nat.le_of_ble_eq_true rfl) (fun o h2 hq => ?_)
          obtain ⟨rfl, hx4, -⟩ := hq
          refine (show AW _ _ _ _ _ _ _ (.int _ :: _) _ from ?_)
          refine aw_isub K dX7_twins_92 ?_
          refine aw_is6 K dX7_twins_93 (by decide) rfl ?_
          refine aw_il6 K dX7_twins_95 ?_
          refine aw_il3 K dX7_twins_97 ?_
          refine aw_icmp_le (tgt := 112) K dX7_twins_98 (by decide) (fun b98 => ?_) (fun b98 => ?_)
          · refine aw_il2 K dX7_twins_112 ?_
            refine aw_is2 K dX7_twins_113 (by decide) rfl ?_
            refine aw_il6 K dX7_twins_114 ?_
            refine aw_il3 K dX7_twins_116 ?_
            refine aw_icmp_le (tgt := 125) K dX7_twins_117 (by decide) (fun b117 => ?_) (fun b117 => ?_)
            · refine aw_il3 K dX7_twins_125 ?_
              refine aw_is3 K dX7_twins_126 (by decide) rfl ?_
              refine aw_ii5 (v := _ + 1) K dX7_twins_127 rfl (by decide) rfl ?_
              refine aw_goto (tgt := 35) K dX7_twins_130 (by decide) ?_
              rw [nI_1]
              refine aw_sub [some (.ref (g.2.1 0)), some (.int a), some (.int _), some (.int _), some (.int _), some (.int _), none] ⟨rfl, rfl, rfl, rfl, rfl, rfl, trivial⟩ ?_
              have z := ih (j + 1) (twB (h0.1) N T i j p) _ (by omega) hx4 hk
              rw [show twB (h0.1) N T i j p = _ from (if_pos ⟨pi, pj⟩).trans (if_pos b98)] at z
              exact z
            · exact absurd b98 b117
          · refine aw_bipush (v := 16) K dX7_twins_101 (by decide) ?_
            refine aw_il4 K dX7_twins_103 ?_
            refine aw_imul K dX7_twins_105 ?_
            refine aw_il5 K dX7_twins_106 ?_
            refine aw_iadd K dX7_twins_108 ?_
            refine aw_goto (tgt := 113) K dX7_twins_109 (by decide) ?_
            refine aw_is2 K dX7_twins_113 (by decide) rfl ?_
            refine aw_il6 K dX7_twins_114 ?_
            refine aw_il3 K dX7_twins_116 ?_
            refine aw_icmp_le (tgt := 125) K dX7_twins_117 (by decide) (fun b117 => ?_) (fun b117 => ?_)
            · exact absurd b117 b98
            · refine aw_il6 K dX7_twins_120 ?_
              refine aw_goto (tgt := 126) K dX7_twins_122 (by decide) ?_
              refine aw_is3 K dX7_twins_126 (by decide) rfl ?_
              refine aw_ii5 (v := _ + 1) K dX7_twins_127 rfl (by decide) rfl ?_
              refine aw_goto (tgt := 35) K dX7_twins_130 (by decide) ?_
              rw [nI_1]
              refine aw_sub [some (.ref (g.2.1 0)), some (.int a), some (.int _), some (.int _), some (.int _), some (.int _), none] ⟨rfl, rfl, rfl, rfl, rfl, rfl, trivial⟩ ?_
              have z := ih (j + 1) (twB (h0.1) N T i j p) _ (by omega) hx4 hk
              rw [show twB (h0.1) N T i j p = _ from (if_pos ⟨pi, pj⟩).trans (if_neg b98)] at z
              exact z
set_option maxHeartbeats 4000000 in
set_option maxRecDepth 100000 in
theorem lr1X7_twins {l : Launch} {g : Geo} {sta : Nat → Nat} {k : KT} (K : AOK (wM l g sta) mX7_twins k) (h0 : HS) (a : Int32) (ok : 0 ≤ a ∧ a ≤ 1) {N T Wn : Nat} (H0 : MW h0 N T Wn) (s : SML h0.1 N T) :
    ∀ (n i : Nat) (p : Int32 × Int32) (h : HS), i + n = N → FS h0 h → twO h0.1 N T n i p = twO h0.1 N T N 0 (-4, 0) → AW (wM l g sta) (fun o h' => o = some (.int (twV h0.1 N T a)) ∧ MS h0 h') 7 mX7_twins k 20 [some (.ref (g.2.1 0)), some (.int a), some (.int p.1), some (.int p.2), some (.int (nI i)), none, none] [] h := by
  intro n
  have hN := H0.1.2
  induction n with
  | zero =>
    intro i p h k1 hx e
    have H := H0.f hx
    have e : p = twO h0.1 N T N 0 (-4, 0) := e
    obtain rfl : i = N := by omega
    refine aw_il4 K dX7_twins_20 ?_
    refine aw_al0 K dX7_twins_22 ?_
    refine aw_getI K gX7_98 dX7_twins_23 rfl rfl ?_
    rw [H.1.1]
    refine aw_icmp_ge (tgt := 139) K dX7_twins_26 (by decide) (fun b26 => ?_) (fun b26 => ?_)
    · refine aw_il2 K dX7_twins_139 ?_
      refine aw_bipush (v := (-4)) K dX7_twins_140 (by decide) ?_
      refine aw_icmp_ne (tgt := 150) K dX7_twins_142 (by decide) (fun b142 => ?_) (fun b142 => ?_)
      · refine aw_il1 K dX7_twins_150 ?_
        refine aw_if_ne (tgt := 158) K dX7_twins_151 (by decide) (fun b151 => ?_) (fun b151 => ?_)
        · refine aw_il3 K dX7_twins_158 ?_
          refine aw_iret K rfl dX7_twins_159 ?_
          exact ⟨congrArg some (congrArg Value.int ((if_pos ok).trans (e ▸ ((if_neg b142).trans (if_neg b151)))).symm), hx.ms⟩
        · refine aw_il2 K dX7_twins_154 ?_
          refine aw_goto (tgt := 159) K dX7_twins_155 (by decide) ?_
          refine aw_iret K rfl dX7_twins_159 ?_
          exact ⟨congrArg some (congrArg Value.int ((if_pos ok).trans (e ▸ ((if_neg b142).trans (if_pos b151)))).symm), hx.ms⟩
      · refine aw_bipush (v := (-4)) K dX7_twins_145 (by decide) ?_
        refine aw_goto (tgt := 159) K dX7_twins_147 (by decide) ?_
        refine aw_iret K rfl dX7_twins_159 ?_
        exact ⟨congrArg some (congrArg Value.int ((if_pos ok).trans (e ▸ (if_pos b142))).symm), hx.ms⟩
    · exact absurd (Int32.le_refl _) b26
  | succ n ih =>
    intro i p h k1 hx e
    have H := H0.f hx
    refine aw_il4 K dX7_twins_20 ?_
    refine aw_al0 K dX7_twins_22 ?_
    refine aw_getI K gX7_98 dX7_twins_23 rfl rfl ?_
    rw [H.1.1]
    refine aw_icmp_ge (tgt := 139) K dX7_twins_26 (by decide) (fun b26 => ?_) (fun b26 => ?_)
    · exact absurd b26 (nI_ge (by omega) (by omega))
    · refine aw_il4 K dX7_twins_29 ?_
      refine aw_iconst (v := 1) K dX7_twins_31 (by decide) ?_
      refine aw_iadd K dX7_twins_32 ?_
      refine aw_is5 K dX7_twins_33 (by decide) rfl ?_
      rw [nI_1]
      refine lr2X7_twins K h0 a H0 s i (by omega) (N - (i + 1)) (i + 1) p h (by omega) hx (fun h' hx' => ?_)
      refine aw_ii4 (v := _ + 1) K dX7_twins_133 rfl (by decide) rfl ?_
      refine aw_goto (tgt := 20) K dX7_twins_136 (by decide) ?_
      rw [nI_1]
      exact ih (i + 1) _ h' (by omega) hx' e
set_option maxHeartbeats 4000000 in
set_option maxRecDepth 100000 in
theorem eX7_twins (l : Launch) (g : Geo) (sta : Nat → Nat) (h : HS) (a : Int32) {N T Wn : Nat} (H : MW h N T Wn) (s : SML h.1 N T) : CT (wM l g sta) 7 mX7_twins [.ref (g.2.1 0), .int a] h (fun o h' => o = some (.int (twV h.1 N T a)) ∧ MS h h') := by
  refine CT.at [some (.ref (g.2.1 0)), some (.int a), none, none, none, none, none] 5 rfl (by decide) (Nat.le_of_ble_eq_true rfl) (fun k K => ?_)
  refine aw_il1 K dX7_twins_0 ?_
  refine aw_i2l K dX7_twins_1 ?_
  refine aw_lconst (v := 0) K dX7_twins_2 (by decide) ?_
  refine aw_lconst (v := 1) K dX7_twins_3 (by decide) ?_
  refine aw_callS_I K (in32 l g sta _ _ (0) (1) (by decide) (by decide)) rfl (by decide) fX7_in lX7_102 dX7_twins_4 rfl (Nat.le_of_ble_eq_true rfl) ?_
  refine aw_if_ne (tgt := 12) K dX7_twins_7 (by decide) (fun b7 => ?_) (fun b7 => ?_)
  · refine aw_bipush (v := (-4)) K dX7_twins_12 (by decide) ?_
    refine aw_is2 K dX7_twins_14 (by decide) rfl ?_
    refine aw_iconst (v := 0) K dX7_twins_15 (by decide) ?_
    refine aw_is3 K dX7_twins_16 (by decide) rfl ?_
    refine aw_iconst (v := 0) K dX7_twins_17 (by decide) ?_
    refine aw_is4 K dX7_twins_18 (by decide) rfl ?_
    exact lr1X7_twins K h a (bI_1.mp b7) H s N 0 (-4, 0) h (by omega) FS.rf rfl
  · refine aw_iconst (v := (-1)) K dX7_twins_10 (by decide) ?_
    refine aw_iret K rfl dX7_twins_11 ?_
    exact ⟨congrArg some (congrArg Value.int (if_neg (bI_0.mp b7)).symm), MS.rf⟩

