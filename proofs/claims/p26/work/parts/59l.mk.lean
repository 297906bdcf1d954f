def smN (q : Nat → Nat) : Nat → Nat
  | 0 => 0
  | n + 1 => smN q n + q n
theorem sumU_n {f : Nat → Int32} {q : Nat → Nat} : ∀ n, (∀ x, x < n → f x = nI (q x)) → sumU f n = nI (smN q n)
  | 0, _ => nI_0.symm
  | n + 1, h => by
    unfold sumU smN
    rw [sumU_n n (fun x hx => h x (by omega)), h n (by omega), nI_add]
theorem smN_c {q q' : Nat → Nat} : ∀ n, (∀ x, x < n → q x = q' x) → smN q n = smN q' n
  | 0, _ => rfl
  | n + 1, h => by
    unfold smN
    rw [smN_c n (fun x hx => h x (by omega)), h n (by omega)]
theorem smN_z {q : Nat → Nat} {N : Nat} : ∀ k, (∀ x, N ≤ x → x < N + k → q x = 0) → smN q (N + k) = smN q N
  | 0, _ => rfl
  | k + 1, h => by
    show smN q (N + k) + q (N + k) = smN q N
    rw [smN_z k (fun x h1 h2 => h x h1 (by omega)), h (N + k) (by omega) (by omega)]
    omega
theorem smN_m {q q' : Nat → Nat} {B : Nat} : ∀ n, (∀ x, x < n → q' x ≤ B) → smN (fun x => q x * q' x) n ≤ B * smN q n
  | 0, _ => Nat.zero_le _
  | n + 1, h => by
    show smN (fun x => q x * q' x) n + q n * q' n ≤ B * (smN q n + q n)
    have h1 := smN_m (q := q) n (fun x hx => h x (by omega))
    have h2 := Nat.mul_le_mul_left (q n) (h n (by omega))
    have h3 : q n * B = B * q n := Nat.mul_comm _ _
    rw [Nat.mul_add]
    omega
theorem smN_1 {q : Nat → Nat} {x : Nat} : ∀ n, x < n → q x ≤ smN q n
  | 0, h => absurd h (Nat.not_lt_zero _)
  | n + 1, h => by
    show q x ≤ smN q n + q n
    by_cases z : x = n
    · rw [z]
      omega
    · have := smN_1 (q := q) n (show x < n by omega)
      omega
theorem N_toInt {x : Int32} (h : 0 ≤ x.toInt) : (x.toNatClampNeg : Int) = x.toInt := Int.toNat_of_nonneg h
theorem nI_N {x : Int32} (h : 0 ≤ x.toInt) : x = nI x.toNatClampNeg := by
  have h1 := N_toInt h
  have h2 := Int32.toInt_lt x
  exact Int32.toInt_inj.mp (by rw [nI_toInt (by omega), h1])
/-- what keeps the weights small -/
def WBD (v : Nat → Nat → Int32) : Prop := rg (v 11 5) (100 : Nat) ∧ (∀ w, rg (v 0 12 - v 22 w) (9999 : Nat)) ∧ ∀ w, rg (v 21 w) (10 : Nat)
theorem BN.wbd {h : HS} {n : Nat} (b : BN h n) : WBD (vX h) := ⟨rg_rule b (k := 5) (m := 100) (by decide) (by decide) (by decide) (by decide), fun w => b.age (b.2.2.2.2.2.2.1 w), fun w => b.2.2.2.2.2.1 w⟩
theorem WBD.eq {hx hm : HS} (r : REL hx hm) (b : WBD (vX hx)) : WBD hm.1 := by
  unfold WBD
  rw [r.r (11, 11) (by decide), r.r (30, 22) (by decide), r.r (29, 21) (by decide), INV.b4 r]
  exact b
theorem kF_m {F : Int} (hF : 0 ≤ F) {s s' : Int32} {N a : Nat} (ha : a < 12) (sub : bt s a = true → bt s' a = true) : kF F s N a ≤ kF F s' N a := by
  unfold kF
  by_cases q : a < N ∧ (s >>> (nI a &&& 31)) &&& 1 = 1
  · rw [if_pos q, if_pos ⟨q.1, (hb1 ha).mpr (sub ((hb1 ha).mp q.2))⟩]
    exact Int.le_refl _
  · rw [if_neg q]
    split
    · exact hF
    · exact Int.le_refl _
theorem tb_mono {v : Nat → Nat → Int32} {N T : Nat} {s s' : Int32} (m : SML v N T) (e : MCE v N T s) (e' : MCE v N T s') (sub : ∀ x, x < 12 → bt s x = true → bt s' x = true) : (tbV v N T s).toInt ≤ (tbV v N T s').toInt := by
  obtain ⟨-, -, h3, -⟩ := tbI m e
  obtain ⟨-, -, -, X, h4⟩ := tbI m e'
  rw [h4]
  refine Int.le_trans (h3 X) (sm_le 12 (fun a ha => ?_))
  show (if X a = true then kF 100000000 s N a else gI v N a) + _ ≤ (if X a = true then kF 100000000 s' N a else gI v N a) + _
  refine Int.add_le_add_right ?_ _
  split
  · exact kF_m (by decide) ha (sub a ha)
  · exact Int.le_refl _
theorem w_b {v : Nat → Nat → Int32} {N T Wn : Nat} {b : Int32} (m : SML v N T) (wb : WBD v) (me : ME v N T (syV v N Wn b) 12) {i : Nat} (hi : i < 12) : 0 ≤ (wV v N T Wn b i).toInt ∧ (wV v N T Wn b i).toInt ≤ (tbV v N T (hd (syV v N Wn b) (i + 1))).toInt - (tbV v N T (hd (syV v N Wn b) i)).toInt := by
  obtain ⟨p1, p2, -, -⟩ := tbI m (me i (by omega))
  obtain ⟨p3, p4, -, -⟩ := tbI m (me (i + 1) (by omega))
  have h3 := tb_mono m (me i (by omega)) (me (i + 1) (by omega)) (hd_mono (Nat.le_succ i) (by omega))
  unfold wV
  split
  · have ed : (dfV v N T (syV v N Wn b) i).toInt = (tbV v N T (hd (syV v N Wn b) (i + 1))).toInt - (tbV v N T (hd (syV v N Wn b) i)).toInt := toI_sub (by omega) (by omega)
    have rd : rg (dfV v N T (syV v N Wn b) i) ((dfV v N T (syV v N Wn b) i).toInt.toNat : Nat) := ⟨by omega, by omega⟩
    have z : rg (wtV v N T Wn b i) ((dfV v N T (syV v N Wn b) i).toInt.toNat : Nat) := rg_fd rd (by omega) wb.1 (wb.2.1 _)
    have z1 := z.1
    have z2 := z.2
    exact ⟨z1, by omega⟩
  · have e : (0 : Int32).toInt = 0 := rfl
    rw [e]
    omega
noncomputable def wN (v : Nat → Nat → Int32) (N T Wn : Nat) (b : Int32) (i : Nat) : Nat := (wV v N T Wn b i).toNatClampNeg
def mN (v : Nat → Nat → Int32) (N Wn : Nat) (b : Int32) (i : Nat) : Nat := (mV v N Wn b i).toNatClampNeg
noncomputable def aN (v : Nat → Nat → Int32) (N T Wn : Nat) (b : Int32) : Nat := smN (wN v N T Wn b) N
noncomputable def uN (v : Nat → Nat → Int32) (N T Wn : Nat) (b : Int32) : Nat := smN (fun x => wN v N T Wn b x * mN v N Wn b x) N
theorem w_n {v : Nat → Nat → Int32} {N T Wn : Nat} {b : Int32} (m : SML v N T) (wb : WBD v) (me : ME v N T (syV v N Wn b) 12) {i : Nat} (hi : i < 12) : wV v N T Wn b i = nI (wN v N T Wn b i) := nI_N (w_b m wb me hi).1
theorem m_b {v : Nat → Nat → Int32} {N Wn : Nat} {b : Int32} (wb : WBD v) (i : Nat) : rg (mV v N Wn b i) (10 : Nat) := by
  unfold mV
  split
  · exact wb.2.2 _
  · exact ⟨by decide, by decide⟩
theorem m_n {v : Nat → Nat → Int32} {N Wn : Nat} {b : Int32} (wb : WBD v) (i : Nat) : mV v N Wn b i = nI (mN v N Wn b i) ∧ mN v N Wn b i ≤ 10 := by
  obtain ⟨h1, h2⟩ := m_b (N := N) (Wn := Wn) (b := b) wb i
  have h3 := N_toInt h1
  refine ⟨nI_N h1, ?_⟩
  have e : ((mN v N Wn b i : Nat) : Int) = (mV v N Wn b i).toInt := h3
  omega
theorem w_z {v : Nat → Nat → Int32} {N T Wn : Nat} {b : Int32} {x : Nat} (h : bt (syV v N Wn b) x = false) : wV v N T Wn b x = 0 ∧ mV v N Wn b x = 0 := ⟨if_neg (by rw [h]; decide), if_neg (by rw [h]; decide)⟩
theorem sy_f {v : Nat → Nat → Int32} {N Wn : Nat} {b : Int32} (hN : N ≤ 12) {x : Nat} (h1 : N ≤ x) (h2 : x < 32) : bt (syV v N Wn b) x = false := by
  cases q : bt (syV v N Wn b) x
  · rfl
  · have := sy_lt hN x h2 q
    omega
theorem sm_w {v : Nat → Nat → Int32} {N T Wn : Nat} {b : Int32} (m : SML v N T) (wb : WBD v) (me : ME v N T (syV v N Wn b) 12) : ∀ i, i ≤ 12 → ((smN (wN v N T Wn b) i : Nat) : Int) ≤ (tbV v N T (hd (syV v N Wn b) i)).toInt
  | 0, _ => (tbI m (me 0 (by omega))).1
  | i + 1, hi => by
    have h1 := sm_w m wb me i (by omega)
    have h2 := w_b m wb me (i := i) (by omega)
    have e : ((wN v N T Wn b i : Nat) : Int) = (wV v N T Wn b i).toInt := N_toInt h2.1
    show ((smN (wN v N T Wn b) i + wN v N T Wn b i : Nat) : Int) ≤ _
    omega
theorem sm_12 {v : Nat → Nat → Int32} {N T Wn : Nat} {b : Int32} (hN : N ≤ 12) : smN (wN v N T Wn b) 12 = aN v N T Wn b ∧ smN (fun x => wN v N T Wn b x * mN v N Wn b x) 12 = uN v N T Wn b := by
  have z : ∀ x, N ≤ x → x < N + (12 - N) → wN v N T Wn b x = 0 := by
    intro x h1 h2
    unfold wN
    rw [(w_z (T := T) (sy_f hN h1 (by omega))).1]
    rfl
  have e : N + (12 - N) = 12 := by omega
  have z1 := smN_z (12 - N) z
  have z2 := smN_z (q := fun x => wN v N T Wn b x * mN v N Wn b x) (N := N) (12 - N) (fun x h1 h2 => by
    show wN v N T Wn b x * mN v N Wn b x = 0
    rw [z x h1 h2, Nat.zero_mul])
  rw [e] at z1 z2
  exact ⟨z1, z2⟩
theorem au_b {v : Nat → Nat → Int32} {N T Wn : Nat} {b : Int32} (hN : N ≤ 12) (m : SML v N T) (wb : WBD v) (me : ME v N T (syV v N Wn b) 12) : aN v N T Wn b ≤ 7200000 ∧ uN v N T Wn b ≤ 10 * aN v N T Wn b := by
  have h1 := sm_w m wb me 12 (Nat.le_refl _)
  obtain ⟨-, h2, -, -⟩ := tbI m (me 12 (Nat.le_refl _))
  rw [(sm_12 hN).1] at h1
  exact ⟨by omega, smN_m N (fun x _ => (m_n wb x).2)⟩
theorem su_a {v : Nat → Nat → Int32} {N T Wn : Nat} {b : Int32} (m : SML v N T) (wb : WBD v) (me : ME v N T (syV v N Wn b) 12) (n : Nat) (hn : n ≤ 12) : sumU (wV v N T Wn b) n = nI (smN (wN v N T Wn b) n) ∧ sumU (fun x => wV v N T Wn b x * mV v N Wn b x) n = nI (smN (fun x => wN v N T Wn b x * mN v N Wn b x) n) := by
  refine ⟨sumU_n n (fun x hx => w_n m wb me (by omega)), sumU_n n (fun x hx => ?_)⟩
  show wV v N T Wn b x * mV v N Wn b x = _
  rw [w_n m wb me (show x < 12 by omega), (m_n wb x).1, pk_mul]
theorem ME.up {v : Nat → Nat → Int32} {N T Wn : Nat} {b : Int32} (hN : N ≤ 12) (me : ME v N T (syV v N Wn b) N) : ∀ k, N + k ≤ 12 → ME v N T (syV v N Wn b) (N + k)
  | 0, _ => me
  | k + 1, h => (ME.up hN me k (by omega)).n (by omega) (sy_f hN (by omega) (by omega))
def frJ (U A j : Nat) : Int32 := if j % 2 = 0 then nI (U / Nat.gcd U A) else nI (A / Nat.gcd U A)
noncomputable def maV (v : Nat → Nat → Int32) (N T Wn : Nat) (a b : Int32) : Int32 := if (0 ≤ a ∧ a ≤ v 0 0 - 1) ∧ (0 ≤ b ∧ b ≤ 1) then (if aN v N T Wn a = 0 then -4 else frJ (uN v N T Wn a) (aN v N T Wn a) b.toNatClampNeg) else -1
theorem wN_eq {hx hm : HS} (r : REL hx hm) (N T Wn : Nat) (b : Int32) (x : Nat) : wN hm.1 N T Wn b x = wN (vX hx) N T Wn b x := by
  unfold wN
  rw [wV_eq r]
theorem mN_eq {hx hm : HS} (r : REL hx hm) (N Wn : Nat) (b : Int32) (x : Nat) : mN hm.1 N Wn b x = mN (vX hx) N Wn b x := by
  unfold mN
  rw [mV_eq r]
theorem aN_eq {hx hm : HS} (r : REL hx hm) (N T Wn : Nat) (b : Int32) : aN hm.1 N T Wn b = aN (vX hx) N T Wn b := smN_c N (fun x _ => wN_eq r N T Wn b x)
theorem uN_eq {hx hm : HS} (r : REL hx hm) (N T Wn : Nat) (b : Int32) : uN hm.1 N T Wn b = uN (vX hx) N T Wn b := smN_c N (fun x _ => by
  show wN hm.1 N T Wn b x * mN hm.1 N Wn b x = wN (vX hx) N T Wn b x * mN (vX hx) N Wn b x
  rw [wN_eq r, mN_eq r])
theorem maV_eq {hx hm : HS} (r : REL hx hm) (N T Wn : Nat) (a b : Int32) : maV (vX hx) N T Wn a b = maV hm.1 N T Wn a b := by
  unfold maV
  rw [aN_eq r, uN_eq r, INV.b1 r]
  rfl
set_option maxHeartbeats 4000000 in
set_option maxRecDepth 100000 in
theorem lrX6_summedMarks {l : Launch} {g : Geo} {sta : Nat → Nat} {k : KT} (K : AOK (wX l g sta) mX6_summedMarks k) (h : HS) (f : Nat → Int32) (hf : ∀ x, x < 12 → h.1 13 x * h.1 14 x = f x) :
    ∀ (n i : Nat), i + n = 12 → AW (wX l g sta) (DI (sumU f 12) h) 1 mX6_summedMarks k 4 [some (.ref (g.2.1 0)), some (.int (sumU f i)), some (.int (nI i))] [] h := by
  intro n
  induction n with
  | zero =>
    intro i k1
    obtain rfl : i = 12 := by omega
    refine aw_il2 K dX6_summedMarks_4 ?_
    refine aw_bipush (v := 12) K dX6_summedMarks_5 (by decide) ?_
    refine aw_icmp_ge (tgt := 32) K dX6_summedMarks_7 (by decide) (fun b7 => ?_) (fun b7 => ?_)
    · refine aw_il1 K dX6_summedMarks_32 ?_
      refine aw_iret K rfl dX6_summedMarks_33 ?_
      exact ⟨rfl, rfl⟩
    · exact absurd (Int32.le_refl _) b7
  | succ n ih =>
    intro i k1
    refine aw_il2 K dX6_summedMarks_4 ?_
    refine aw_bipush (v := 12) K dX6_summedMarks_5 (by decide) ?_
    refine aw_icmp_ge (tgt := 32) K dX6_summedMarks_7 (by decide) (fun b7 => ?_) (fun b7 => ?_)
    · exact absurd b7 (nI_ge (b := 12) (by omega) (by omega))
    · refine aw_il1 K dX6_summedMarks_10 ?_
      refine aw_al0 K dX6_summedMarks_11 ?_
      refine aw_getR K gX6_57 dX6_summedMarks_12 rfl rfl ?_
      refine aw_il2 K dX6_summedMarks_15 ?_
      refine aw_iald K dX6_summedMarks_16 rfl (vp_in_nI (by omega) (by decide)) ?_
      refine aw_al0 K dX6_summedMarks_17 ?_
      refine aw_getR K gX6_60 dX6_summedMarks_18 rfl rfl ?_
      refine aw_il2 K dX6_summedMarks_21 ?_
      refine aw_iald K dX6_summedMarks_22 rfl (vp_in_nI (by omega) (by decide)) ?_
      refine aw_imul K dX6_summedMarks_23 ?_
      rw [nI_clamp (show i < 2 ^ 31 by omega), hf i (by omega)]
      refine aw_iadd K dX6_summedMarks_24 ?_
      refine aw_is1 K dX6_summedMarks_25 (by decide) rfl ?_
      refine aw_ii2 (v := _ + 1) K dX6_summedMarks_26 rfl (by decide) rfl ?_
      refine aw_goto (tgt := 4) K dX6_summedMarks_29 (by decide) ?_
      rw [nI_1]
      exact ih (i + 1) (by omega)
set_option maxHeartbeats 4000000 in
set_option maxRecDepth 100000 in
theorem eX6_summedMarks (l : Launch) (g : Geo) (sta : Nat → Nat) (h : HS) (f : Nat → Int32) (hf : ∀ x, x < 12 → h.1 13 x * h.1 14 x = f x) : CT (wX l g sta) 1 mX6_summedMarks [.ref (g.2.1 0)] h (DI (sumU f 12) h) := by
  refine CT.at [some (.ref (g.2.1 0)), none, none] 2 rfl (by decide) (Nat.le_of_ble_eq_true rfl) (fun k K => ?_)
  refine aw_iconst (v := 0) K dX6_summedMarks_0 (by decide) ?_
  refine aw_is1 K dX6_summedMarks_1 (by decide) rfl ?_
  refine aw_iconst (v := 0) K dX6_summedMarks_2 (by decide) ?_
  refine aw_is2 K dX6_summedMarks_3 (by decide) rfl ?_
  exact lrX6_summedMarks K h f hf 12 0 (by omega)

set_option maxHeartbeats 4000000 in
set_option maxRecDepth 100000 in
theorem eX6_mark (l : Launch) (g : Geo) (sta : Nat → Nat) (h : HS) (a b : Int32) {N T Wn : Nat} (H : XW h N T Wn) (ww : wrdW h N Wn) (s : SML (vX h) N T) (wb : WBD (vX h)) : CT (wX l g sta) 7 mX6_mark [.ref (g.2.1 0), .int a, .int b] h (fun o h' => o = some (.int (maV (vX h) N T Wn a b)) ∧ XQ h h') := by
  refine CT.at [some (.ref (g.2.1 0)), some (.int a), some (.int b), none] 1 rfl (by decide) (Nat.le_of_ble_eq_true rfl) (fun k K => ?_)
  refine aw_al0 K dX6_mark_0 ?_
  refine aw_il1 K dX6_mark_1 ?_
  refine aw_callV_I K (tX6_isName l g sta _ _) rfl (by decide) fX6_isName lX6_84 dX6_mark_2 rfl clsX6 rfl (Nat.le_of_ble_eq_true rfl) ?_
  refine aw_if_eq (tgt := 17) K dX6_mark_5 (by decide) (fun b5 => ?_) (fun b5 => ?_)
  · refine aw_iconst (v := (-1)) K dX6_mark_17 (by decide) ?_
    refine aw_iret K rfl dX6_mark_18 ?_
    exact ⟨congrArg some (congrArg Value.int (if_neg (fun q => bI_0.mp b5 q.1)).symm), H.s⟩
  · refine aw_il2 K dX6_mark_8 ?_
    refine aw_iconst (v := 0) K dX6_mark_9 (by decide) ?_
    refine aw_iconst (v := 1) K dX6_mark_10 (by decide) ?_
    refine aw_callS_I K (tX6_within l g sta _ _ _ _) rfl (by decide) fX6_within lX6_76 dX6_mark_11 rfl (Nat.le_of_ble_eq_true rfl) ?_
    refine aw_if_ne (tgt := 19) K dX6_mark_14 (by decide) (fun b14 => ?_) (fun b14 => ?_)
    · have ok := And.intro (bI_1.mp b5) (bI_1.mp b14)
      obtain ⟨j, hj, rfl⟩ := nI_of2 (M := 1) (n := 1) (by decide) (Int32.not_lt.mpr ok.2.1) ok.2.2
      have cj := nI_clamp (show j < 2 ^ 31 by omega)
      refine aw_al0 K dX6_mark_19 ?_
      refine aw_il1 K dX6_mark_20 ?_
      refine aw_callV K (eX6_weighSayers l g sta _ _ H ww s) rfl (by decide) fX6_weighSayers lX6_240 dX6_mark_21 rfl clsX6 rfl (Nat.le_of_ble_eq_true rfl) (fun o h2 hq => ?_)
      obtain ⟨rfl, hq2, rm, me⟩ := hq
      refine (show AW _ _ _ _ _ _ _ (.int _ :: _) _ from ?_)
      have hN := H.1.2
      obtain ⟨bA, bU⟩ := au_b hN s wb me
      obtain ⟨sA, sU⟩ := su_a s wb me 12 (Nat.le_refl _)
      rw [(sm_12 hN).1] at sA
      rw [(sm_12 hN).2] at sU
      rw [sA]
      refine aw_is3 K dX6_mark_24 (by decide) rfl ?_
      refine aw_il3 K dX6_mark_25 ?_
      refine aw_if_ne (tgt := 32) K dX6_mark_26 (by decide) (fun b26 => ?_) (fun b26 => ?_)
      · have hA : ¬ aN (vX h) N T Wn a = 0 := fun q => b26 (by rw [q]; rfl)
        refine aw_al0 K dX6_mark_32 ?_
        refine aw_callV_I K (eX6_summedMarks l g sta _ (fun x => wV (vX h) N T Wn a x * mV (vX h) N Wn a x) (fun x hx => by rw [(rm x hx).1, (rm x hx).2])) rfl (by decide) fX6_summedMarks lX6_243 dX6_mark_33 rfl clsX6 rfl (Nat.le_of_ble_eq_true rfl) ?_
        rw [sU]
        refine aw_i2l K dX6_mark_36 ?_
        rw [nI_l (show uN (vX h) N T Wn a < 2 ^ 31 by omega)]
        refine aw_il3 K dX6_mark_37 ?_
        refine aw_i2l K dX6_mark_38 ?_
        rw [nI_l (show aN (vX h) N T Wn a < 2 ^ 31 by omega)]
        refine aw_il2 K dX6_mark_39 ?_
        refine aw_if_ne (tgt := 47) K dX6_mark_40 (by decide) (fun b40 => ?_) (fun b40 => ?_)
        · refine aw_iconst (v := 0) K dX6_mark_47 (by decide) ?_
          refine aw_callS_L K (eX6_inLowest l g sta _ _ _ _ (by omega) (by omega) (by omega)) rfl (by decide) fX6_inLowest lX6_247 dX6_mark_48 rfl (Nat.le_of_ble_eq_true rfl) ?_
          rw [show lowV (uN (vX h) N T Wn a) (aN (vX h) N T Wn a) 0 = _ from if_pos rfl]
          refine aw_l2i K dX6_mark_51 ?_
          refine aw_iret K rfl dX6_mark_52 ?_
          have h1 : j % 2 = 1 := by
            have : ¬ j = 0 := fun q => b40 (by rw [q]; rfl)
            omega
          refine ⟨congrArg some (congrArg Value.int ?_), hq2⟩
          rw [lN_i]
          refine ((if_pos ok).trans ((if_neg hA).trans ?_)).symm
          rw [cj, frJ, if_neg (by omega)]
        · refine aw_iconst (v := 1) K dX6_mark_43 (by decide) ?_
          refine aw_goto (tgt := 48) K dX6_mark_44 (by decide) ?_
          refine aw_callS_L K (eX6_inLowest l g sta _ _ _ _ (by omega) (by omega) (by omega)) rfl (by decide) fX6_inLowest lX6_247 dX6_mark_48 rfl (Nat.le_of_ble_eq_true rfl) ?_
          rw [show lowV (uN (vX h) N T Wn a) (aN (vX h) N T Wn a) 1 = _ from if_neg (by decide)]
          refine aw_l2i K dX6_mark_51 ?_
          refine aw_iret K rfl dX6_mark_52 ?_
          have h1 : j = 0 := (nI_eq (b := 0) (by omega) (by decide)).mp b40
          refine ⟨congrArg some (congrArg Value.int ?_), hq2⟩
          rw [lN_i]
          refine ((if_pos ok).trans ((if_neg hA).trans ?_)).symm
          rw [cj, frJ, if_pos (by omega)]
      · have hA : aN (vX h) N T Wn a = 0 := (nI_eq (b := 0) (by omega) (by decide)).mp b26
        refine aw_bipush (v := (-4)) K dX6_mark_29 (by decide) ?_
        refine aw_iret K rfl dX6_mark_31 ?_
        exact ⟨congrArg some (congrArg Value.int ((if_pos ok).trans (if_pos hA)).symm), hq2⟩
    · refine aw_iconst (v := (-1)) K dX6_mark_17 (by decide) ?_
      refine aw_iret K rfl dX6_mark_18 ?_
      exact ⟨congrArg some (congrArg Value.int (if_neg (fun q => bI_0.mp b14 q.2)).symm), H.s⟩

theorem MS.gv {h h' : HS} (q : MS h h') (a : Nat) : gvV h'.1 a = gvV h.1 a := by
  unfold gvV plV
  simp only [q.1 3 rfl, q.1 5 rfl, q.1 2 rfl, q.1 11 rfl]
theorem MS.rm {h h' : HS} (q : MS h h') (t : Nat) : rmV h'.1 t = rmV h.1 t := by
  unfold rmV
  simp only [q.1 3 rfl, q.1 4 rfl, q.1 6 rfl, q.1 7 rfl, q.1 8 rfl, q.1 9 rfl, q.1 10 rfl, q.1 11 rfl, q.2 12 (by decide) (by decide) (by decide)]
theorem MS.gI {h h' : HS} (q : MS h h') (N : Nat) : gI h'.1 N = gI h.1 N := by
  funext a
  show (if a < N then (gvV h'.1 a).toInt else 0) = (if a < N then (gvV h.1 a).toInt else 0)
  rw [q.gv]
theorem MS.wI {h h' : HS} (q : MS h h') (T : Nat) : wI h'.1 T = wI h.1 T := by
  funext a b
  refine sm_c T (fun t _ => ?_)
  unfold wT
  rw [q.rm, q.1 6 rfl, q.1 7 rfl]
theorem SML.ms {h h' : HS} {N T : Nat} (s : SML h.1 N T) (q : MS h h') : SML h'.1 N T := ⟨fun a ha => by rw [q.gv]; exact s.1 a ha, fun t ht => by rw [q.rm]; exact s.2 t ht⟩
theorem MS.tb {h h' : HS} (q : MS h h') (N T : Nat) (s : Int32) : tbV h'.1 N T s = tbV h.1 N T s := by
  unfold tbV trV
  rw [q.gI, q.wI]
theorem MS.sy {h h' : HS} (q : MS h h') (N Wn : Nat) (b : Int32) : syV h'.1 N Wn b = syV h.1 N Wn b := by
  unfold syV
  simp only [q.wb]
  rw [q.1 3 rfl]
theorem MS.wt {h h' : HS} (q : MS h h') (N T Wn : Nat) (b : Int32) (i : Nat) : wtV h'.1 N T Wn b i = wtV h.1 N T Wn b i := by
  unfold wtV dfV
  rw [q.tb, q.tb, q.sy, q.wb, q.1 11 rfl, q.1 22 rfl, q.2 12 (by decide) (by decide) (by decide)]
theorem MCE.ms {h h' : HS} {N T : Nat} {s : Int32} (e : MCE h'.1 N T s) (q : MS h h') : MCE h.1 N T s := by
  unfold MCE at e
  rw [q.gI, q.wI] at e
  exact e
/-- how many of s below i -/
def cn (s : Int32) : Nat → Nat
  | 0 => 0
  | i + 1 => cn s i + (if bt s i = true then 1 else 0)
theorem cn_le (s : Int32) : ∀ i, cn s i ≤ i
  | 0 => Nat.le_refl _
  | i + 1 => by
    unfold cn
    have := cn_le s i
    split <;> omega
theorem cn_1 {s : Int32} {i : Nat} (h : bt s i = true) : cn s (i + 1) = cn s i + 1 := congrArg (cn s i + ·) (if_pos h)
theorem cn_n {s : Int32} {i : Nat} (h : bt s i = false) : cn s (i + 1) = cn s i := congrArg (cn s i + ·) (if_neg (by rw [h]; decide))
theorem cn_lt {s : Int32} {x : Nat} (h : bt s x = true) : ∀ n, x < n → cn s x < cn s n
  | 0, hn => absurd hn (Nat.not_lt_zero _)
  | n + 1, hn => by
    have e : cn s n ≤ cn s (n + 1) := by
      show cn s n ≤ cn s n + _
      exact Nat.le_add_right _ _
    by_cases q : x = n
    · subst q
      rw [cn_1 h]
      omega
    · have := cn_lt h n (by omega)
      omega
/-- the lists as far as i -/
def LSS (h0 h : HS) (N T Wn : Nat) (b : Int32) (i : Nat) : Prop := h.1 0 33 = nI (cn (syV h0.1 N Wn b) i) ∧ h.1 0 36 = sumU (wV h0.1 N T Wn b) i ∧ h.1 0 37 = sumU (fun x => wV h0.1 N T Wn b x * mV h0.1 N Wn b x) i ∧ ∀ x, x < i → bt (syV h0.1 N Wn b) x = true → h.1 23 (cn (syV h0.1 N Wn b) x) = wV h0.1 N T Wn b x ∧ h.1 24 (cn (syV h0.1 N Wn b) x) = mV h0.1 N Wn b x
theorem LSS.n {h0 h : HS} {N T Wn : Nat} {b : Int32} {i : Nat} (l : LSS h0 h N T Wn b i) (nb : bt (syV h0.1 N Wn b) i = false) : LSS h0 h N T Wn b (i + 1) := by
  obtain ⟨l1, l2, l3, l4⟩ := l
  obtain ⟨z1, z2⟩ := w_z (T := T) nb
  refine ⟨by rw [cn_n nb]; exact l1, ?_, ?_, fun x hx q => l4 x ?_ q⟩
  · rw [l2]
    show _ = _ + wV h0.1 N T Wn b i
    rw [z1, Int32.add_zero]
  · rw [l3]
    show _ = _ + wV h0.1 N T Wn b i * mV h0.1 N Wn b i
    rw [z1, z2, Int32.mul_zero, Int32.add_zero]
  · rcases Nat.lt_or_ge x i with y | y
    · exact y
    · rw [show x = i by omega, nb] at q
      cases q
theorem LSS.s {h0 h h' : HS} {N T Wn : Nat} {b : Int32} {i : Nat} (l : LSS h0 h N T Wn b i) (nb : bt (syV h0.1 N Wn b) i = true) (e1 : h'.1 0 33 = nI (cn (syV h0.1 N Wn b) i + 1)) (e2 : h'.1 0 36 = sumU (wV h0.1 N T Wn b) i + wV h0.1 N T Wn b i) (e3 : h'.1 0 37 = sumU (fun x => wV h0.1 N T Wn b x * mV h0.1 N Wn b x) i + wV h0.1 N T Wn b i * mV h0.1 N Wn b i) (e4 : h'.1 23 (cn (syV h0.1 N Wn b) i) = wV h0.1 N T Wn b i ∧ h'.1 24 (cn (syV h0.1 N Wn b) i) = mV h0.1 N Wn b i) (e5 : ∀ j, j < cn (syV h0.1 N Wn b) i → h'.1 23 j = h.1 23 j ∧ h'.1 24 j = h.1 24 j) : LSS h0 h' N T Wn b (i + 1) := by
  obtain ⟨l1, l2, l3, l4⟩ := l
  refine ⟨by rw [cn_1 nb]; exact e1, e2, e3, fun x hx q => ?_⟩
  by_cases y : x = i
  · rw [y]
    exact e4
  · have c := cn_lt q i (by omega)
    rw [(e5 _ c).1, (e5 _ c).2]
    exact l4 x (by omega) q
set_option maxHeartbeats 4000000 in
set_option maxRecDepth 100000 in
theorem lrX7_lists {l : Launch} {g : Geo} {sta : Nat → Nat} {k : KT} (K : AOK (wM l g sta) mX7_lists k) (h0 : HS) (b : Int32) {N T Wn : Nat} (H0 : MW h0 N T Wn) (s : SML h0.1 N T) :
    ∀ (n i : Nat) (h : HS), i + n = N → MS h0 h → LSS h0 h N T Wn b i → ME h0.1 N T (syV h0.1 N Wn b) i → AW (wM l g sta) (fun o h' => o = none ∧ MS h0 h' ∧ LSS h0 h' N T Wn b N ∧ ME h0.1 N T (syV h0.1 N Wn b) N) 8 mX7_lists k 23 [some (.ref (g.2.1 0)), some (.int b), some (.int (syV h0.1 N Wn b)), some (.int (nI i))] [] h := by
  intro n
  have hN := H0.1.2
  have hW := H0.2.2.1.2
  induction n with
  | zero =>
    intro i h k1 hx ls me
    have H := H0.q hx
    obtain rfl : i = N := by omega
    refine aw_il3 K dX7_lists_23 ?_
    refine aw_al0 K dX7_lists_24 ?_
    refine aw_getI K gX7_98 dX7_lists_25 rfl rfl ?_
    rw [H.1.1]
    refine aw_icmp_ge (tgt := 137) K dX7_lists_28 (by decide) (fun b28 => ?_) (fun b28 => ?_)
    · refine aw_vret K rfl dX7_lists_137 ?_
      exact ⟨rfl, hx, ls, me⟩
    · exact absurd (Int32.le_refl _) b28
  | succ n ih =>
    intro i h k1 hx ls me
    have H := H0.q hx
    have ci := cn_le (syV h0.1 N Wn b) i
    refine aw_il3 K dX7_lists_23 ?_
    refine aw_al0 K dX7_lists_24 ?_
    refine aw_getI K gX7_98 dX7_lists_25 rfl rfl ?_
    rw [H.1.1]
    refine aw_icmp_ge (tgt := 137) K dX7_lists_28 (by decide) (fun b28 => ?_) (fun b28 => ?_)
    · exact absurd b28 (nI_ge (by omega) (by omega))
    · refine aw_il2 K dX7_lists_31 ?_
      refine aw_il3 K dX7_lists_32 ?_
      refine aw_ishr K dX7_lists_33 ?_
      refine aw_iconst (v := 1) K dX7_lists_34 (by decide) ?_
      refine aw_iand K dX7_lists_35 ?_
      refine aw_iconst (v := 1) K dX7_lists_36 (by decide) ?_
      refine aw_icmp_ne (tgt := 131) K dX7_lists_37 (by decide) (fun b37 => ?_) (fun b37 => ?_)
      · have nb : bt (syV h0.1 N Wn b) i = false := by
          cases q : bt (syV h0.1 N Wn b) i
          · rfl
          · exact absurd ((hb1 (by omega)).mpr q) b37
        refine aw_ii3 (v := _ + 1) K dX7_lists_131 rfl (by decide) rfl ?_
        refine aw_goto (tgt := 23) K dX7_lists_134 (by decide) ?_
        rw [nI_1]
        exact ih (i + 1) h (by omega) hx (ls.n nb) (me.n (by omega) nb)
      · have nb : bt (syV h0.1 N Wn b) i = true := (hb1 (by omega)).mp b37
        obtain ⟨j, hj, ej⟩ := sy_wj hN (by omega) nb
        refine aw_al0 K dX7_lists_40 ?_
        refine aw_getR K gX7_77 dX7_lists_41 rfl rfl ?_
        refine aw_al0 K dX7_lists_44 ?_
        refine aw_getI K gX7_262 dX7_lists_45 rfl rfl ?_
        rw [ls.1]
        refine aw_al0 K dX7_lists_48 ?_
        refine aw_il3 K dX7_lists_49 ?_
        refine aw_il1 K dX7_lists_50 ?_
        refine aw_callV K (eX7_weightOf l g sta _ _ _ H (s.ms hx) (by omega) (by rw [hx.sy]; exact nb)) rfl (by decide) fX7_weightOf lX7_259 dX7_lists_51 rfl clsX7 rfl (Nat.le_of_ble_eq_true rfl) (fun o h2 hq => ?_)
        obtain ⟨rfl, hf, m0, m1⟩ := hq
        refine (show AW _ _ _ _ _ _ _ (.int _ :: _) _ from ?_)
        rw [hx.sy] at m1
        have m1 := m1.ms hx
        rw [hx.wt, show wtV h0.1 N T Wn b i = wV h0.1 N T Wn b i from (if_pos nb).symm]
        have hx2 := hx.tr hf.ms
        have e33 : h2.1 0 33 = nI (cn (syV h0.1 N Wn b) i) := (congrFun (hf 0 rfl) 33).trans ls.1
        have e36 := (congrFun (hf 0 rfl) 36).trans ls.2.1
        have e37 := (congrFun (hf 0 rfl) 37).trans ls.2.2.1
        have r23 := hf 23 rfl
        have r24 := hf 24 rfl
        have mte : h0.1 21 j = mV h0.1 N Wn b i := by
          unfold mV
          rw [if_pos nb, ej, nI_clamp (show j < 2 ^ 31 by omega)]
        refine aw_iast K dX7_lists_54 rfl (vp_in_nI (by omega) (by decide)) ?_
        rw [nI_clamp (show cn (syV h0.1 N Wn b) i < 2 ^ 31 by omega)]
        have hx3 : MS h0 (setI h2 23 (cn (syV h0.1 N Wn b) i) (wV h0.1 N T Wn b i)) := hx2.pt rfl (by decide)
        refine aw_al0 K dX7_lists_55 ?_
        refine aw_getR K gX7_80 dX7_lists_56 rfl rfl ?_
        refine aw_al0 K dX7_lists_59 ?_
        refine aw_getI K gX7_262 dX7_lists_60 rfl rfl ?_
        rw [rdI, if_neg (fun z => by omega), e33]
        refine aw_al0 K dX7_lists_63 ?_
        refine aw_getR K gX7_71 dX7_lists_64 rfl rfl ?_
        refine aw_al0 K dX7_lists_67 ?_
        refine aw_il3 K dX7_lists_68 ?_
        refine aw_il1 K dX7_lists_69 ?_
        refine aw_callV_I K (tX7_wordBy l g sta _ _ _ (H0.q hx3)) rfl (by decide) fX7_wordBy lX7_252 dX7_lists_70 rfl clsX7 rfl (Nat.le_of_ble_eq_true rfl) ?_
        rw [hx3.wb, ej]
        refine aw_iald K dX7_lists_73 rfl (vp_in_nI (by omega) (by decide)) ?_
        rw [nI_clamp (show j < 2 ^ 31 by omega), hx3.1 21 rfl, mte]
        refine aw_iast K dX7_lists_74 rfl (vp_in_nI (by omega) (by decide)) ?_
        rw [nI_clamp (show cn (syV h0.1 N Wn b) i < 2 ^ 31 by omega)]
        refine aw_al0 K dX7_lists_75 ?_
        refine aw_dup K dX7_lists_76 rfl ?_
        refine aw_getI K gX7_265 dX7_lists_77 rfl rfl ?_
        rw [rdI, if_neg (fun z => by omega), rdI, if_neg (fun z => by omega), e36]
        refine aw_al0 K dX7_lists_80 ?_
        refine aw_getR K gX7_77 dX7_lists_81 rfl rfl ?_
        refine aw_al0 K dX7_lists_84 ?_
        refine aw_getI K gX7_262 dX7_lists_85 rfl rfl ?_
        rw [rdI, if_neg (fun z => by omega), rdI, if_neg (fun z => by omega), e33]
        refine aw_iald K dX7_lists_88 rfl (vp_in_nI (by omega) (by decide)) ?_
        rw [nI_clamp (show cn (syV h0.1 N Wn b) i < 2 ^ 31 by omega), rdI, if_neg (fun z => by omega), rdI, if_pos ⟨rfl, rfl⟩]
        refine aw_iadd K dX7_lists_89 ?_
        refine aw_putI K gX7_265 fpX7_36 dX7_lists_90 rfl rfl ?_
        refine aw_al0 K dX7_lists_93 ?_
        refine aw_dup K dX7_lists_94 rfl ?_
        refine aw_getI K gX7_268 dX7_lists_95 rfl rfl ?_
        rw [rdI, if_neg (fun z => by omega), rdI, if_neg (fun z => by omega), rdI, if_neg (fun z => by omega), e37]
        refine aw_al0 K dX7_lists_98 ?_
        refine aw_getR K gX7_77 dX7_lists_99 rfl rfl ?_
        refine aw_al0 K dX7_lists_102 ?_
        refine aw_getI K gX7_262 dX7_lists_103 rfl rfl ?_
        rw [rdI, if_neg (fun z => by omega), rdI, if_neg (fun z => by omega), rdI, if_neg (fun z => by omega), e33]
        refine aw_iald K dX7_lists_106 rfl (vp_in_nI (by omega) (by decide)) ?_
        rw [nI_clamp (show cn (syV h0.1 N Wn b) i < 2 ^ 31 by omega), rdI, if_neg (fun z => by omega), rdI, if_neg (fun z => by omega), rdI, if_pos ⟨rfl, rfl⟩]
        refine aw_al0 K dX7_lists_107 ?_
        refine aw_getR K gX7_80 dX7_lists_108 rfl rfl ?_
        refine aw_al0 K dX7_lists_111 ?_
        refine aw_getI K gX7_262 dX7_lists_112 rfl rfl ?_
        rw [rdI, if_neg (fun z => by omega), rdI, if_neg (fun z => by omega), rdI, if_neg (fun z => by omega), e33]
        refine aw_iald K dX7_lists_115 rfl (vp_in_nI (by omega) (by decide)) ?_
        rw [nI_clamp (show cn (syV h0.1 N Wn b) i < 2 ^ 31 by omega), rdI, if_neg (fun z => by omega), rdI, if_pos ⟨rfl, rfl⟩]
        refine aw_imul K dX7_lists_116 ?_
        refine aw_iadd K dX7_lists_117 ?_
        refine aw_putI K gX7_268 fpX7_37 dX7_lists_118 rfl rfl ?_
        refine aw_al0 K dX7_lists_121 ?_
        refine aw_dup K dX7_lists_122 rfl ?_
        refine aw_getI K gX7_262 dX7_lists_123 rfl rfl ?_
        rw [rdI, if_neg (fun z => by omega), rdI, if_neg (fun z => by omega), rdI, if_neg (fun z => by omega), rdI, if_neg (fun z => by omega), e33]
        refine aw_iconst (v := 1) K dX7_lists_126 (by decide) ?_
        refine aw_iadd K dX7_lists_127 ?_
        rw [nI_1]
        refine aw_putI K gX7_262 fpX7_33 dX7_lists_128 rfl rfl ?_
        refine aw_ii3 (v := _ + 1) K dX7_lists_131 rfl (by decide) rfl ?_
        refine aw_goto (tgt := 23) K dX7_lists_134 (by decide) ?_
        rw [nI_1]
        refine ih (i + 1) _ (by omega) ((((hx3.pt rfl (by decide)).fl (Or.inr (Or.inl rfl))).fl (Or.inr (Or.inr rfl))).fl (Or.inl rfl)) (ls.s nb ?_ ?_ ?_ ?_ ?_) (me.s m1)
        · rw [rdI, if_pos ⟨rfl, rfl⟩]
        · rw [rdI, if_neg (fun z => by omega), rdI, if_neg (fun z => by omega), rdI, if_pos ⟨rfl, rfl⟩]
        · rw [rdI, if_neg (fun z => by omega), rdI, if_pos ⟨rfl, rfl⟩]
        · constructor
          · rw [rdI, if_neg (fun z => by omega), rdI, if_neg (fun z => by omega), rdI, if_neg (fun z => by omega), rdI, if_neg (fun z => by omega), rdI, if_pos ⟨rfl, rfl⟩]
          · rw [rdI, if_neg (fun z => by omega), rdI, if_neg (fun z => by omega), rdI, if_neg (fun z => by omega), rdI, if_pos ⟨rfl, rfl⟩]
        · intro y hy
          constructor
          · rw [rdI, if_neg (fun z => by omega), rdI, if_neg (fun z => by omega), rdI, if_neg (fun z => by omega), rdI, if_neg (fun z => by omega), rdI, if_neg (fun z => by omega), r23]
          · rw [rdI, if_neg (fun z => by omega), rdI, if_neg (fun z => by omega), rdI, if_neg (fun z => by omega), rdI, if_neg (fun z => by omega), rdI, if_neg (fun z => by omega), r24]
set_option maxHeartbeats 4000000 in
set_option maxRecDepth 100000 in
theorem eX7_lists (l : Launch) (g : Geo) (sta : Nat → Nat) (h : HS) (b : Int32) {N T Wn : Nat} (H : MW h N T Wn) (s : SML h.1 N T) : CT (wM l g sta) 8 mX7_lists [.ref (g.2.1 0), .int b] h ((fun o h' => o = none ∧ MS h h' ∧ LSS h h' N T Wn b N ∧ ME h.1 N T (syV h.1 N Wn b) N)) := by
  refine CT.at [some (.ref (g.2.1 0)), some (.int b), none, none] 2 rfl (by decide) (Nat.le_of_ble_eq_true rfl) (fun k K => ?_)
  refine aw_al0 K dX7_lists_0 ?_
  refine aw_il1 K dX7_lists_1 ?_
  refine aw_callV_I K (tX7_sayersOf l g sta _ _ H) rfl (by decide) fX7_sayersOf lX7_256 dX7_lists_2 rfl clsX7 rfl (Nat.le_of_ble_eq_true rfl) ?_
  refine aw_is2 K dX7_lists_5 (by decide) rfl ?_
  refine aw_al0 K dX7_lists_6 ?_
  refine aw_iconst (v := 0) K dX7_lists_7 (by decide) ?_
  refine aw_putI K gX7_262 fpX7_33 dX7_lists_8 rfl rfl ?_
  refine aw_al0 K dX7_lists_11 ?_
  refine aw_iconst (v := 0) K dX7_lists_12 (by decide) ?_
  refine aw_putI K gX7_265 fpX7_36 dX7_lists_13 rfl rfl ?_
  refine aw_al0 K dX7_lists_16 ?_
  refine aw_iconst (v := 0) K dX7_lists_17 (by decide) ?_
  refine aw_putI K gX7_268 fpX7_37 dX7_lists_18 rfl rfl ?_
  refine aw_iconst (v := 0) K dX7_lists_21 (by decide) ?_
  refine aw_is3 K dX7_lists_22 (by decide) rfl ?_
  exact lrX7_lists K h b H s N 0 _ (by omega) (((MS.rf.fl (Or.inl rfl)).fl (Or.inr (Or.inl rfl))).fl (Or.inr (Or.inr rfl))) ⟨rfl, rfl, rfl, fun x hx => absurd hx (Nat.not_lt_zero _)⟩ (ME.z _ _ _ _)

set_option maxHeartbeats 4000000 in
set_option maxRecDepth 100000 in
theorem eX7_fraction (l : Launch) (g : Geo) (sta : Nat → Nat) (h : HS) (U A j : Nat) (hU : U < 2 ^ 31) (hA0 : 0 < A) (hA : A < 2 ^ 31) (e : h.1 0 36 = nI A) (hj : j < 4) : CT (wM l g sta) 3 mX7_fraction [.ref (g.2.1 0), .int (nI U), .int (nI j)] h (DI (frJ U A j) h) := by
  refine CT.at [some (.ref (g.2.1 0)), some (.int (nI U)), some (.int (nI j)), none] 1 rfl (by decide) (Nat.le_of_ble_eq_true rfl) (fun k K => ?_)
  refine aw_il1 K dX7_fraction_0 ?_
  refine aw_i2l K dX7_fraction_1 ?_
  rw [nI_l hU]
  refine aw_al0 K dX7_fraction_2 ?_
  refine aw_getI K gX7_265 dX7_fraction_3 rfl rfl ?_
  rw [e]
  refine aw_i2l K dX7_fraction_6 ?_
  rw [nI_l hA]
  refine aw_callS_L K (eX7_common l g sta _ U A (by omega) (by omega)) rfl (by decide) fX7_common lX7_271 dX7_fraction_7 rfl (Nat.le_of_ble_eq_true rfl) ?_
  refine aw_l2i K dX7_fraction_10 ?_
  rw [lN_i]
  have g1 := Nat.gcd_pos_of_pos_right U hA0
  have g2 := Nat.gcd_le_right U hA0
  have hg : ¬ nI (Nat.gcd U A) = 0 := nI_ne0 g1 (by omega)
  refine aw_is3 K dX7_fraction_11 (by decide) rfl ?_
  refine aw_il2 K dX7_fraction_12 ?_
  refine aw_iconst (v := 2) K dX7_fraction_13 (by decide) ?_
  refine aw_irem K dX7_fraction_14 (by decide) ?_
  rw [show nI j - nI j / 2 * 2 = nI (j % 2) from pk_rem (d := 2) (by omega) (by decide) (by decide)]
  refine aw_if_ne (tgt := 24) K dX7_fraction_15 (by decide) (fun b15 => ?_) (fun b15 => ?_)
  · refine aw_al0 K dX7_fraction_24 ?_
    refine aw_getI K gX7_265 dX7_fraction_25 rfl rfl ?_
    rw [e]
    refine aw_il3 K dX7_fraction_28 ?_
    refine aw_idiv K dX7_fraction_29 hg ?_
    refine aw_iret K rfl dX7_fraction_30 ?_
    refine ⟨congrArg some (congrArg Value.int ?_), rfl⟩
    rw [pk_div hA g1 (by omega)]
    exact (if_neg (fun q => b15 (by rw [q]; rfl))).symm
  · refine aw_il1 K dX7_fraction_18 ?_
    refine aw_il3 K dX7_fraction_19 ?_
    refine aw_idiv K dX7_fraction_20 hg ?_
    refine aw_goto (tgt := 30) K dX7_fraction_21 (by decide) ?_
    refine aw_iret K rfl dX7_fraction_30 ?_
    refine ⟨congrArg some (congrArg Value.int ?_), rfl⟩
    rw [pk_div hU g1 (by omega)]
    exact (if_pos ((nI_eq (b := 0) (by omega) (by decide)).mp b15)).symm

set_option maxHeartbeats 4000000 in
set_option maxRecDepth 100000 in
theorem eX7_mark (l : Launch) (g : Geo) (sta : Nat → Nat) (h : HS) (a b : Int32) {N T Wn : Nat} (H : MW h N T Wn) (s : SML h.1 N T) (wb : WBD h.1) : CT (wM l g sta) 9 mX7_mark [.ref (g.2.1 0), .int a, .int b] h (fun o h' => o = some (.int (maV h.1 N T Wn a b)) ∧ MS h h') := by
  refine CT.at [some (.ref (g.2.1 0)), some (.int a), some (.int b)] 0 rfl (by decide) (Nat.le_of_ble_eq_true rfl) (fun k K => ?_)
  refine aw_al0 K dX7_mark_0 ?_
  refine aw_il1 K dX7_mark_1 ?_
  refine aw_callV_I K (tX7_isName l g sta _ _) rfl (by decide) fX7_isName lX7_111 dX7_mark_2 rfl clsX7 rfl (Nat.le_of_ble_eq_true rfl) ?_
  refine aw_if_eq (tgt := 18) K dX7_mark_5 (by decide) (fun b5 => ?_) (fun b5 => ?_)
  · refine aw_iconst (v := (-1)) K dX7_mark_18 (by decide) ?_
    refine aw_iret K rfl dX7_mark_19 ?_
    exact ⟨congrArg some (congrArg Value.int (if_neg (fun q => bI_0.mp b5 q.1)).symm), MS.rf⟩
  · refine aw_il2 K dX7_mark_8 ?_
    refine aw_i2l K dX7_mark_9 ?_
    refine aw_lconst (v := 0) K dX7_mark_10 (by decide) ?_
    refine aw_lconst (v := 1) K dX7_mark_11 (by decide) ?_
    refine aw_callS_I K (in32 l g sta _ _ (0) (1) (by decide) (by decide)) rfl (by decide) fX7_in lX7_102 dX7_mark_12 rfl (Nat.le_of_ble_eq_true rfl) ?_
    refine aw_if_ne (tgt := 20) K dX7_mark_15 (by decide) (fun b15 => ?_) (fun b15 => ?_)
    · have ok := And.intro (bI_1.mp b5) (bI_1.mp b15)
      obtain ⟨j, hj, rfl⟩ := nI_of2 (M := 1) (n := 1) (by decide) (Int32.not_lt.mpr ok.2.1) ok.2.2
      have cj := nI_clamp (show j < 2 ^ 31 by omega)
      refine aw_al0 K dX7_mark_20 ?_
      refine aw_il1 K dX7_mark_21 ?_
      refine aw_callV K (eX7_lists l g sta _ _ H s) rfl (by decide) fX7_lists lX7_275 dX7_mark_22 rfl clsX7 rfl (Nat.le_of_ble_eq_true rfl) (fun o h2 hq => ?_)
      obtain ⟨rfl, hx, ls, me0⟩ := hq
      have hN := H.1.2
      have me : ME h.1 N T (syV h.1 N Wn a) 12 := by
        have z := ME.up hN me0 (12 - N) (by omega)
        rw [show N + (12 - N) = 12 by omega] at z
        exact z
      obtain ⟨bA, bU⟩ := au_b hN s wb me
      obtain ⟨sA, sU⟩ := su_a s wb me N hN
      have e36 : h2.1 0 36 = nI (aN h.1 N T Wn a) := ls.2.1.trans sA
      have e37 : h2.1 0 37 = nI (uN h.1 N T Wn a) := ls.2.2.1.trans sU
      refine aw_al0 K dX7_mark_25 ?_
      refine aw_getI K gX7_265 dX7_mark_26 rfl rfl ?_
      rw [e36]
      refine aw_if_ne (tgt := 37) K dX7_mark_29 (by decide) (fun b29 => ?_) (fun b29 => ?_)
      · have hA : ¬ aN h.1 N T Wn a = 0 := fun q => b29 (by rw [q]; rfl)
        refine aw_al0 K dX7_mark_37 ?_
        refine aw_al0 K dX7_mark_38 ?_
        refine aw_getI K gX7_268 dX7_mark_39 rfl rfl ?_
        rw [e37]
        refine aw_il2 K dX7_mark_42 ?_
        refine aw_callV K (eX7_fraction l g sta _ _ _ _ (by omega) (by omega) (by omega) e36 (by omega)) rfl (by decide) fX7_fraction lX7_279 dX7_mark_43 rfl clsX7 rfl (Nat.le_of_ble_eq_true rfl) (fun o h2 hq => ?_)
        obtain ⟨rfl, rfl⟩ := hq
        refine (show AW _ _ _ _ _ _ _ (.int _ :: _) _ from ?_)
        refine aw_iret K rfl dX7_mark_46 ?_
        refine ⟨congrArg some (congrArg Value.int ?_), hx⟩
        refine ((if_pos ok).trans ((if_neg hA).trans ?_)).symm
        rw [cj]
      · have hA : aN h.1 N T Wn a = 0 := (nI_eq (b := 0) (by omega) (by decide)).mp b29
        refine aw_bipush (v := (-4)) K dX7_mark_32 (by decide) ?_
        refine aw_goto (tgt := 46) K dX7_mark_34 (by decide) ?_
        refine aw_iret K rfl dX7_mark_46 ?_
        exact ⟨congrArg some (congrArg Value.int ((if_pos ok).trans (if_pos hA)).symm), hx⟩
    · refine aw_iconst (v := (-1)) K dX7_mark_18 (by decide) ?_
      refine aw_iret K rfl dX7_mark_19 ?_
      exact ⟨congrArg some (congrArg Value.int (if_neg (fun q => bI_0.mp b15 q.2)).symm), MS.rf⟩

