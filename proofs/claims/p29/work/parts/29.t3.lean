/-! TOKENS: f the bytes, L how many -/
def endO (t : Int32 → Bool) (f : Nat → Int32) (L : Nat) : Nat → Nat → Nat
  | 0, p => p
  | n + 1, p => if p < L ∧ t (f p) = true then endO t f L n (p + 1) else p
def eO (t : Int32 → Bool) (f : Nat → Int32) (L p : Nat) : Nat := endO t f L (L - p) p
theorem eO_s {t : Int32 → Bool} {f : Nat → Int32} {L p : Nat} (h : p < L) (ht : t (f p) = true) : eO t f L p = eO t f L (p + 1) := by
  unfold eO
  obtain ⟨n, hn⟩ : ∃ n, L - p = n + 1 := ⟨L - p - 1, by omega⟩
  rw [hn, show L - (p + 1) = n by omega]
  exact if_pos ⟨h, ht⟩
theorem eO_x {t : Int32 → Bool} {f : Nat → Int32} {L p : Nat} (h : ¬ (p < L ∧ t (f p) = true)) : eO t f L p = p := by
  unfold eO
  cases hn : L - p with
  | zero => rfl
  | succ n => exact if_neg h
theorem endO_b {t : Int32 → Bool} {f : Nat → Int32} {L : Nat} : ∀ n p, p ≤ endO t f L n p ∧ (p ≤ L → endO t f L n p ≤ L)
  | 0, p => ⟨Nat.le_refl _, fun h => h⟩
  | n + 1, p => by
    unfold endO
    split
    · rename_i q
      have z := endO_b (t := t) (f := f) (L := L) n (p + 1)
      exact ⟨Nat.le_of_succ_le z.1, fun _ => z.2 q.1⟩
    · exact ⟨Nat.le_refl _, fun h => h⟩
theorem eO_ge {t : Int32 → Bool} {f : Nat → Int32} {L p : Nat} : p ≤ eO t f L p := (endO_b _ _).1
theorem eO_le {t : Int32 → Bool} {f : Nat → Int32} {L p : Nat} (h : p ≤ L) : eO t f L p ≤ L := (endO_b _ _).2 h
def tW (v : Int32) : Bool := decide (v = 32)
def tL (v : Int32) : Bool := decide (97 ≤ v ∧ v ≤ 122)
def tF (v : Int32) : Bool := decide (48 ≤ v ∧ v ≤ 57)
theorem tW_i {v : Int32} : tW v = true ↔ v = 32 := decide_eq_true_iff
theorem tL_i {v : Int32} : tL v = true ↔ (97 ≤ v ∧ v ≤ 122) := decide_eq_true_iff
theorem tF_i {v : Int32} : tF v = true ↔ (48 ≤ v ∧ v ≤ 57) := decide_eq_true_iff
def numTo (f : Nat → Int32) (s : Nat) : Nat → Int32
  | 0 => 0
  | k + 1 => if k < 4 then 10 * numTo f s k + f (s + k) - 48 else numTo f s k
/-- whether the bytes from s to e are text i -/
def txA (f : Nat → Int32) (s i : Nat) : Nat → Bool
  | 0 => true
  | n + 1 => if aw_tc i n = f (s + n) then txA f s i n else false
def txQ (f : Nat → Int32) (s e i : Nat) : Bool := if aw_tl i = e - s then txA f s i (aw_tl i) else false
def rix (q : Nat → Bool) : Nat → Nat → Nat
  | 0, i => i
  | n + 1, i => if q i = true then i else rix q n (i + 1)
def ruleIx (f : Nat → Int32) (s e : Nat) : Nat := rix (txQ f s e) 10 0
/-- the token at s: where it begins, where it ends, its kind (4: a fault), its value -/
def tk1 (f : Nat → Int32) (L s : Nat) : Nat × Nat × Nat × Int32 :=
  if s < L then
    (if tL (f s) = true then (if ruleIx f s (eO tL f L s) < 10 then (s, eO tL f L s, 1, nI (ruleIx f s (eO tL f L s))) else (s, eO tL f L s, 4, 0))
    else if tF (f s) = true then (if eO tF f L s - s ≤ 4 then (s, eO tF f L s, 2, numTo f s (eO tF f L s - s)) else (s, eO tF f L s, 4, 0))
    else if f s = 59 then (s, s + 1, 3, 0) else (s, s + 1, 4, 0))
  else (s, s, 0, 0)
def tok (f : Nat → Int32) (L p : Nat) : Nat × Nat × Nat × Int32 := tk1 f L (eO tW f L p)
theorem tk1_s {f : Nat → Int32} {L s : Nat} : (tk1 f L s).1 = s := by
  unfold tk1
  repeat' split
  all_goals rfl
theorem tk1_e {f : Nat → Int32} {L s : Nat} (h : s ≤ L) (hk : (tk1 f L s).2.2.1 < 4) : s ≤ (tk1 f L s).2.1 ∧ (tk1 f L s).2.1 ≤ L := by
  revert hk
  unfold tk1
  repeat' split
  all_goals intro hk
  · exact ⟨eO_ge, eO_le h⟩
  · exact absurd hk (Nat.lt_irrefl 4)
  · exact ⟨eO_ge, eO_le h⟩
  · exact absurd hk (Nat.lt_irrefl 4)
  · exact ⟨Nat.le_succ _, by assumption⟩
  · exact absurd hk (Nat.lt_irrefl 4)
  · exact ⟨Nat.le_refl _, h⟩
theorem tok_e {f : Nat → Int32} {L p : Nat} (h : p ≤ L) (hk : (tok f L p).2.2.1 < 4) : (tok f L p).2.1 ≤ L := (tk1_e (eO_le h) hk).2
theorem rix_b (q : Nat → Bool) : ∀ n i, rix q n i ≤ i + n
  | 0, i => Nat.le_refl _
  | n + 1, i => by
    unfold rix
    split
    · omega
    · have := rix_b q n (i + 1)
      omega
theorem tok_v {f : Nat → Int32} {L p : Nat} (hk : (tok f L p).2.2.1 = 1) : ∃ r : Nat, r < 10 ∧ (tok f L p).2.2.2 = nI r := by
  unfold tok at hk ⊢
  generalize eO tW f L p = s at hk ⊢
  revert hk
  unfold tk1
  repeat' split
  all_goals intro hk
  · exact ⟨_, by assumption, rfl⟩
  all_goals exact absurd hk (by simp)
theorem tok_k {f : Nat → Int32} {L p : Nat} : (tok f L p).2.2.1 ≤ 4 := by
  unfold tok tk1
  repeat' split
  all_goals simp
/-! the class's tape: what a reading leaves as it was -/
def TF (h h' : HS) : Prop := (∀ c, c ≠ 4 → h'.1 c = h.1 c) ∧ h'.1 4 1 = h.1 4 1 ∧ h'.1 4 7 = h.1 4 7
theorem TF.rf {h : HS} : TF h h := ⟨fun _ _ => rfl, rfl, rfl⟩
theorem TF.tr {h h1 h2 : HS} (a : TF h h1) (b : TF h1 h2) : TF h h2 := ⟨fun c hc => (b.1 c hc).trans (a.1 c hc), b.2.1.trans a.2.1, b.2.2.trans a.2.2⟩
theorem TF.pt {h h1 : HS} {j : Nat} {v : Int32} (a : TF h h1) (hj : (j == 1 || j == 7) = false) : TF h (setI h1 4 j v) := by
  simp only [Bool.or_eq_false_iff, beq_eq_false_iff_ne] at hj
  refine ⟨fun c hc => ?_, ?_, ?_⟩
  · rw [setI_w hc]
    exact a.1 c hc
  · rw [rdI, if_neg (fun q => hj.1 q.2.symm)]
    exact a.2.1
  · rw [rdI, if_neg (fun q => hj.2 q.2.symm)]
    exact a.2.2
/-- on the way: length, fault as before, place q, start s -/
def TQ (h0 h : HS) (L q : Nat) : Prop := TF h0 h ∧ h.1 4 1 = nI L ∧ h.1 4 2 = h0.1 4 2 ∧ h.1 4 3 = nI q ∧ q ≤ L ∧ L ≤ 200
def TS (h0 h : HS) (L s q : Nat) : Prop := TQ h0 h L q ∧ h.1 4 4 = nI s ∧ s ≤ q
theorem TQ.nx {h0 h : HS} {L q : Nat} (a : TQ h0 h L q) (hq : q < L) : TQ h0 (setI h 4 3 (h.1 4 3 + 1)) L (q + 1) := by
  obtain ⟨a1, a2, a3, a4, a7, a8⟩ := a
  refine ⟨a1.pt rfl, a2, a3, ?_, by omega, a8⟩
  rw [rdI, if_pos ⟨rfl, rfl⟩, a4, nI_1]
theorem TQ.pt {h0 h : HS} {L q j : Nat} {v : Int32} (a : TQ h0 h L q) (hj : j = 4 ∨ j = 5 ∨ j = 6) : TQ h0 (setI h 4 j v) L q := by
  obtain ⟨a1, a2, a3, a4, a7, a8⟩ := a
  rcases hj with rfl | rfl | rfl <;> exact ⟨a1.pt rfl, a2, a3, a4, a7, a8⟩
theorem TQ.in {h0 h : HS} {L q : Nat} (a : TQ h0 h L q) (hq : q < L) : vp_in (h.1 4 3) 200 := by
  rw [a.2.2.2.1]
  have := a.2.2.2.2.2
  exact vp_in_nI (by omega) (by decide)
theorem TQ.lt {h0 h : HS} {L q : Nat} (a : TQ h0 h L q) : h.1 4 1 ≤ h.1 4 3 ↔ L ≤ q := by
  rw [a.2.2.2.1, a.2.1]
  have := a.2.2.2.2
  exact nI_leI (by omega) (by omega)
theorem TQ.by {h0 h : HS} {L q : Nat} (a : TQ h0 h L q) : h.1 33 (h.1 4 3).toNatClampNeg = h0.1 33 q := by
  have := a.2.2.2.2
  rw [a.2.2.2.1, a.1.1 33 (by decide), nI_clamp (by omega)]
theorem TS.nx {h0 h : HS} {L s q : Nat} (a : TS h0 h L s q) (hq : q < L) : TS h0 (setI h 4 3 (h.1 4 3 + 1)) L s (q + 1) := ⟨a.1.nx hq, a.2.1, Nat.le_succ_of_le a.2.2⟩
theorem TS.pt {h0 h : HS} {L s q j : Nat} {v : Int32} (a : TS h0 h L s q) (hj : j = 5 ∨ j = 6) : TS h0 (setI h 4 j v) L s q := by
  refine ⟨a.1.pt (Or.inr hj), ?_, a.2.2⟩
  rcases hj with rfl | rfl <;> exact a.2.1
theorem TS.in {h0 h : HS} {L s q : Nat} (a : TS h0 h L s q) (hq : q < L) : vp_in (h.1 4 3) 200 := a.1.in hq
theorem TS.lt {h0 h : HS} {L s q : Nat} (a : TS h0 h L s q) : h.1 4 1 ≤ h.1 4 3 ↔ L ≤ q := a.1.lt
theorem TS.by {h0 h : HS} {L s q : Nat} (a : TS h0 h L s q) : h.1 33 (h.1 4 3).toNatClampNeg = h0.1 33 q := a.1.by
theorem TS.tf {h0 h : HS} {L s q : Nat} (a : TS h0 h L s q) : TF h0 h := a.1.1
theorem TS.fa {h0 h : HS} {L s q : Nat} (a : TS h0 h L s q) : h.1 4 2 = h0.1 4 2 := a.1.2.2.1
theorem TS.pl {h0 h : HS} {L s q : Nat} (a : TS h0 h L s q) : h.1 4 3 = nI q := a.1.2.2.2.1
theorem TS.sa {h0 h : HS} {L s q : Nat} (a : TS h0 h L s q) : h.1 4 4 = nI s := a.2.1
theorem TS.bd {h0 h : HS} {L s q : Nat} (a : TS h0 h L s q) : s ≤ q ∧ q ≤ L ∧ L ≤ 200 := ⟨a.2.2, a.1.2.2.2.2⟩
/-- the token at p has been read -/
def TKR (h0 h : HS) (T : Nat × Nat × Nat × Int32) : Prop := TF h0 h ∧ h.1 4 4 = nI T.1 ∧ ((T.2.2.1 = 4 ∧ h.1 4 2 = 1) ∨ (T.2.2.1 < 4 ∧ h.1 4 2 = h0.1 4 2 ∧ h.1 4 3 = nI T.2.1 ∧ h.1 4 5 = nI T.2.2.1 ∧ (T.2.2.1 = 1 ∨ T.2.2.1 = 2 → h.1 4 6 = T.2.2.2)))
theorem txB_Q {h : HS} {f : Nat → Int32} {s i : Nat} (hf : ∀ n, n < 6 → h.1 33 (h.1 4 4 + nI n).toNatClampNeg = f (s + n)) : ∀ n, n ≤ 6 → (txB h i n = 0 ↔ txA f s i n = false)
  | 0, _ => by simp [txB, txA]
  | n + 1, hn => by
    unfold txB txA
    rw [hf n (by omega)]
    split
    · exact txB_Q hf n (by omega)
    · simp
theorem txV_Q {h : HS} {f : Nat → Int32} {s e i : Nat} (hi : i < 11) (hs : h.1 4 4 = nI s) (he : h.1 4 3 = nI e) (hse : s ≤ e) (he2 : e ≤ 200) (hf : h.1 33 = f) : txV h i = 0 ↔ txQ f s e i = false := by
  have h6 := tl_6 hi
  unfold txV txQ
  rw [hs, he, nI_sub hse]
  by_cases q : aw_tl i = e - s
  · rw [if_pos q, if_pos (by rw [q])]
    refine txB_Q (f := f) (s := s) (fun n hn => ?_) _ h6
    rw [hf, hs, nI_add, nI_clamp (by omega)]
  · rw [if_neg q, if_neg (fun z => q ((nI_eq (by omega) (by omega)).mp z))]
    simp
set_option maxHeartbeats 4000000 in
set_option maxRecDepth 100000 in
theorem lp2X3_readRule {l : Launch} {g : Geo} {sta : Nat → Nat} {k : KT} (K : AOK (wX l g sta) mX3_readRule k) (h0 h : HS) (f : Nat → Int32) (L s : Nat) (hf : h0.1 33 = f) (a : TS h0 h L s (eO tL f L s)) (h5 : h.1 4 5 = 1) :
    ∀ (n i : Nat), i + n = 10 → rix (txQ f s (eO tL f L s)) n i = ruleIx f s (eO tL f L s) → AW (wX l g sta) (fun o h' => o = none ∧ TKR h0 h' (if ruleIx f s (eO tL f L s) < 10 then (s, eO tL f L s, 1, nI (ruleIx f s (eO tL f L s))) else (s, eO tL f L s, 4, 0))) 6 mX3_readRule k 42 [some (.ref (g.2.1 4)), some (.int (nI i))] [] h := by
  intro n
  induction n with
  | zero =>
    intro i k1 k2
    obtain rfl : i = 10 := by omega
    refine aw_il1 K dX3_readRule_42 ?_
    refine aw_bipush (v := 10) K dX3_readRule_43 (by decide) ?_
    refine aw_icmp_ge (tgt := 71) K dX3_readRule_45 (by decide) (fun b45 => ?_) (fun b45 => ?_)
    · refine aw_al0 K dX3_readRule_71 ?_
      refine aw_iconst (v := 1) K dX3_readRule_72 (by decide) ?_
      refine aw_putI K gX3_25 fpX3_2 dX3_readRule_73 rfl rfl ?_
      refine aw_vret K rfl dX3_readRule_76 ?_
      refine ⟨rfl, ?_⟩
      rw [← k2, show rix (txQ f s (eO tL f L s)) 0 10 = 10 from rfl, if_neg (Nat.lt_irrefl 10)]
      exact ⟨a.tf.pt rfl, a.sa, Or.inl ⟨rfl, rfl⟩⟩
    · exact absurd (by decide) b45
  | succ n ih =>
    intro i k1 k2
    have e := a.bd
    refine aw_il1 K dX3_readRule_42 ?_
    refine aw_bipush (v := 10) K dX3_readRule_43 (by decide) ?_
    refine aw_icmp_ge (tgt := 71) K dX3_readRule_45 (by decide) (fun b45 => ?_) (fun b45 => ?_)
    · exact absurd b45 (nI_ge (b := 10) (by omega) (by decide))
    · refine aw_al0 K dX3_readRule_48 ?_
      refine aw_il1 K dX3_readRule_49 ?_
      refine aw_callS K (tX3_textOf l g sta _ i (by omega)) rfl (by decide) fX3_textOf lX3_74 dX3_readRule_50 rfl (Nat.le_of_ble_eq_true rfl) (fun o h2 hq => ?_)
      obtain ⟨rfl, rfl⟩ := hq
      refine (show AW _ _ _ _ _ _ _ (.ref _ :: _) _ from ?_)
      refine aw_callV_I K (tX3_isText l g sta _ i (by omega) a.sa a.pl e.1 (by omega)) rfl (by decide) fX3_isText lX3_78 dX3_readRule_53 rfl clsX3 rfl (Nat.le_of_ble_eq_true rfl) ?_
      refine aw_if_eq (tgt := 65) K dX3_readRule_56 (by decide) (fun b56 => ?_) (fun b56 => ?_)
      · have hz := (txV_Q (i := i) (f := f) (by omega) a.sa a.pl e.1 (by omega) ((a.tf.1 33 (by decide)).trans hf)).mp b56
        refine aw_ii1 (v := _ + 1) K dX3_readRule_65 rfl (by decide) rfl ?_
        refine aw_goto (tgt := 42) K dX3_readRule_68 (by decide) ?_
        rw [nI_1]
        exact ih (i + 1) (by omega) (k2 ▸ (if_neg (by rw [hz]; decide)).symm)
      · have hz : txQ f s (eO tL f L s) i = true := by
          rcases hb : txQ f s (eO tL f L s) i with _ | _
          · exact absurd ((txV_Q (i := i) (f := f) (by omega) a.sa a.pl e.1 (by omega) ((a.tf.1 33 (by decide)).trans hf)).mpr hb) b56
          · rfl
        refine aw_al0 K dX3_readRule_59 ?_
        refine aw_il1 K dX3_readRule_60 ?_
        refine aw_putI K gX3_45 fpX3_6 dX3_readRule_61 rfl rfl ?_
        refine aw_vret K rfl dX3_readRule_64 ?_
        refine ⟨rfl, ?_⟩
        have e2 : ruleIx f s (eO tL f L s) = i := by rw [← k2]; exact if_pos hz
        rw [e2, if_pos (show i < 10 by omega)]
        exact ⟨a.tf.pt rfl, a.sa, Or.inr ⟨Nat.le_of_ble_eq_true rfl, a.fa, a.pl, h5, fun _ => rfl⟩⟩
set_option maxHeartbeats 4000000 in
set_option maxRecDepth 100000 in
theorem lp1X3_readRule {l : Launch} {g : Geo} {sta : Nat → Nat} {k : KT} (K : AOK (wX l g sta) mX3_readRule k) (h0 : HS) (f : Nat → Int32) (L s : Nat) (hf : h0.1 33 = f) :
    ∀ (n q : Nat) (h : HS), TS h0 h L s q → L - q < n → eO tL f L q = eO tL f L s → AW (wX l g sta) (fun o h' => o = none ∧ TKR h0 h' (if ruleIx f s (eO tL f L s) < 10 then (s, eO tL f L s, 1, nI (ruleIx f s (eO tL f L s))) else (s, eO tL f L s, 4, 0))) 6 mX3_readRule k 0 [some (.ref (g.2.1 4)), none] [] h := by
  intro n
  induction n with
  | zero => intro q h a h2; omega
  | succ n ih =>
    intro q h a h2 he
    refine aw_al0 K dX3_readRule_0 ?_
    refine aw_getI K gX3_19 dX3_readRule_1 rfl rfl ?_
    refine aw_al0 K dX3_readRule_4 ?_
    refine aw_getI K gX3_15 dX3_readRule_5 rfl rfl ?_
    refine aw_icmp_ge (tgt := 35) K dX3_readRule_8 (by decide) (fun b8 => ?_) (fun b8 => ?_)
    · have hx : eO tL f L s = q := he ▸ eO_x (fun z => absurd (a.lt.mp b8) (Nat.not_le.mpr z.1))
      refine aw_al0 K dX3_readRule_35 ?_
      refine aw_iconst (v := 1) K dX3_readRule_36 (by decide) ?_
      refine aw_putI K gX3_31 fpX3_5 dX3_readRule_37 rfl rfl ?_
      refine aw_iconst (v := 0) K dX3_readRule_40 (by decide) ?_
      refine aw_is1 K dX3_readRule_41 (by decide) rfl ?_
      exact lp2X3_readRule K h0 _ f L s hf (by rw [hx]; exact a.pt (Or.inl rfl)) rfl 10 0 rfl rfl
    · have hlt : q < L := by
        rcases Nat.lt_or_ge q L with z | z
        · exact z
        · exact absurd (a.lt.mpr z) b8
      refine aw_al0 K dX3_readRule_11 ?_
      refine aw_al0 K dX3_readRule_12 ?_
      refine aw_getI K gX3_19 dX3_readRule_13 rfl rfl ?_
      refine aw_callV_I K (tX3_isLetter l g sta _ _ (a.in hlt)) rfl (by decide) fX3_isLetter lX3_62 dX3_readRule_16 rfl clsX3 rfl (Nat.le_of_ble_eq_true rfl) ?_
      refine aw_if_eq (tgt := 35) K dX3_readRule_19 (by decide) (fun b19 => ?_) (fun b19 => ?_)
      · have hx : eO tL f L s = q := he ▸ eO_x (fun z => bI_0.mp b19 (by rw [a.by, hf]; exact tL_i.mp z.2))
        refine aw_al0 K dX3_readRule_35 ?_
        refine aw_iconst (v := 1) K dX3_readRule_36 (by decide) ?_
        refine aw_putI K gX3_31 fpX3_5 dX3_readRule_37 rfl rfl ?_
        refine aw_iconst (v := 0) K dX3_readRule_40 (by decide) ?_
        refine aw_is1 K dX3_readRule_41 (by decide) rfl ?_
        exact lp2X3_readRule K h0 _ f L s hf (by rw [hx]; exact a.pt (Or.inl rfl)) rfl 10 0 rfl rfl
      · have hy : tL (f q) = true := tL_i.mpr (by rw [← hf, ← a.by]; exact bI_1.mp b19)
        refine aw_al0 K dX3_readRule_22 ?_
        refine aw_dup K dX3_readRule_23 rfl ?_
        refine aw_getI K gX3_19 dX3_readRule_24 rfl rfl ?_
        refine aw_iconst (v := 1) K dX3_readRule_27 (by decide) ?_
        refine aw_iadd K dX3_readRule_28 ?_
        refine aw_putI K gX3_19 fpX3_3 dX3_readRule_29 rfl rfl ?_
        refine aw_goto (tgt := 0) K dX3_readRule_32 (by decide) ?_
        exact ih (q + 1) _ (a.nx hlt) (by omega) ((eO_s hlt hy).symm.trans he)
set_option maxHeartbeats 4000000 in
set_option maxRecDepth 100000 in
theorem tX3_readRule (l : Launch) (g : Geo) (sta : Nat → Nat) (h : HS) (h0 : HS) (f : Nat → Int32) (L s : Nat) (hf : h0.1 33 = f) (a : TS h0 h L s s) : CT (wX l g sta) 6 mX3_readRule [.ref (g.2.1 4)] h (fun o h' => o = none ∧ TKR h0 h' (if ruleIx f s (eO tL f L s) < 10 then (s, eO tL f L s, 1, nI (ruleIx f s (eO tL f L s))) else (s, eO tL f L s, 4, 0))) := by
  refine CT.at [some (.ref (g.2.1 4)), none] 1 rfl (by decide) (Nat.le_of_ble_eq_true rfl) (fun k K => ?_)
  exact lp1X3_readRule K h0 f L s hf (L - s + 1) s h a (by omega) rfl
theorem nu_le {p s : Nat} (h : s ≤ p) (hp : p ≤ 200) : (4 : Int32) ≤ nI p - nI s ↔ 4 ≤ p - s := by
  rw [nI_sub h]
  exact nI_leI (a := 4) (by decide) (by omega)
theorem nu_le2 {p s : Nat} (h : s ≤ p) (hp : p ≤ 200) : nI p - nI s ≤ (4 : Int32) ↔ p - s ≤ 4 := by
  rw [nI_sub h]
  exact nI_leI (b := 4) (by omega) (by decide)
def NS (h0 h : HS) (f : Nat → Int32) (L s q : Nat) : Prop := TS h0 h L s q ∧ h.1 4 5 = 2 ∧ h.1 4 6 = numTo f s (q - s)
theorem NS.nx {h0 h : HS} {f : Nat → Int32} {L s q : Nat} {v : Int32} (a : NS h0 h f L s q) (hq : q < L) (hv : v = numTo f s (q - s + 1)) : NS h0 (setI (setI h 4 6 v) 4 3 (h.1 4 3 + 1)) f L s (q + 1) := by
  have hs := a.1.bd.1
  refine ⟨(a.1.pt (v := v) (Or.inr rfl)).nx hq, a.2.1, ?_⟩
  rw [show q + 1 - s = q - s + 1 by omega, ← hv]
  rfl
set_option maxHeartbeats 4000000 in
set_option maxRecDepth 100000 in
theorem lpnX3_readNumber {l : Launch} {g : Geo} {sta : Nat → Nat} {k : KT} (K : AOK (wX l g sta) mX3_readNumber k) (h0 : HS) (f : Nat → Int32) (L s : Nat) (hf : h0.1 33 = f) :
    ∀ (n q : Nat) (h : HS), NS h0 h f L s q → L - q < n → eO tF f L q = eO tF f L s → AW (wX l g sta) (fun o h' => o = none ∧ TKR h0 h' (if eO tF f L s - s ≤ 4 then (s, eO tF f L s, 2, numTo f s (eO tF f L s - s)) else (s, eO tF f L s, 4, 0))) 3 mX3_readNumber k 10 [some (.ref (g.2.1 4))] [] h := by
  intro n
  induction n with
  | zero => intro q h a h2; omega
  | succ n ih =>
    intro q h aa h2 he
    have a := aa.1
    have ab := a.bd
    refine aw_al0 K dX3_readNumber_10 ?_
    refine aw_getI K gX3_19 dX3_readNumber_11 rfl rfl ?_
    refine aw_al0 K dX3_readNumber_14 ?_
    refine aw_getI K gX3_15 dX3_readNumber_15 rfl rfl ?_
    refine aw_icmp_ge (tgt := 89) K dX3_readNumber_18 (by decide) (fun b18 => ?_) (fun b18 => ?_)
    · have hx : eO tF f L s = q := he ▸ eO_x (fun z => absurd (a.lt.mp b18) (Nat.not_le.mpr z.1))
      refine aw_al0 K dX3_readNumber_89 ?_
      refine aw_getI K gX3_19 dX3_readNumber_90 rfl rfl ?_
      refine aw_al0 K dX3_readNumber_93 ?_
      refine aw_getI K gX3_38 dX3_readNumber_94 rfl rfl ?_
      refine aw_isub K dX3_readNumber_97 ?_
      refine aw_iconst (v := 4) K dX3_readNumber_98 (by decide) ?_
      refine aw_icmp_le (tgt := 107) K dX3_readNumber_99 (by decide) (fun b99 => ?_) (fun b99 => ?_)
      · rw [a.pl, a.sa] at b99
        have hz := (nu_le2 ab.1 (by omega)).mp b99
        refine aw_vret K rfl dX3_readNumber_107 ?_
        refine ⟨rfl, ?_⟩
        rw [hx, if_pos hz]
        exact ⟨a.tf, a.sa, Or.inr ⟨Nat.le_of_ble_eq_true rfl, a.fa, a.pl, aa.2.1, fun _ => aa.2.2⟩⟩
      · rw [a.pl, a.sa] at b99
        have hz := fun z => b99 ((nu_le2 ab.1 (by omega)).mpr z)
        refine aw_al0 K dX3_readNumber_102 ?_
        refine aw_iconst (v := 1) K dX3_readNumber_103 (by decide) ?_
        refine aw_putI K gX3_25 fpX3_2 dX3_readNumber_104 rfl rfl ?_
        refine aw_vret K rfl dX3_readNumber_107 ?_
        refine ⟨rfl, ?_⟩
        rw [hx, if_neg hz]
        exact ⟨a.tf.pt rfl, a.sa, Or.inl ⟨rfl, rfl⟩⟩
    · have hlt : q < L := by
        rcases Nat.lt_or_ge q L with z | z
        · exact z
        · exact absurd (a.lt.mpr z) b18
      refine aw_al0 K dX3_readNumber_21 ?_
      refine aw_al0 K dX3_readNumber_22 ?_
      refine aw_getI K gX3_19 dX3_readNumber_23 rfl rfl ?_
      refine aw_callV_I K (tX3_isFigure l g sta _ _ (a.in hlt)) rfl (by decide) fX3_isFigure lX3_68 dX3_readNumber_26 rfl clsX3 rfl (Nat.le_of_ble_eq_true rfl) ?_
      refine aw_if_eq (tgt := 89) K dX3_readNumber_29 (by decide) (fun b29 => ?_) (fun b29 => ?_)
      · have hx : eO tF f L s = q := he ▸ eO_x (fun z => bI_0.mp b29 (by rw [a.by, hf]; exact tF_i.mp z.2))
        refine aw_al0 K dX3_readNumber_89 ?_
        refine aw_getI K gX3_19 dX3_readNumber_90 rfl rfl ?_
        refine aw_al0 K dX3_readNumber_93 ?_
        refine aw_getI K gX3_38 dX3_readNumber_94 rfl rfl ?_
        refine aw_isub K dX3_readNumber_97 ?_
        refine aw_iconst (v := 4) K dX3_readNumber_98 (by decide) ?_
        refine aw_icmp_le (tgt := 107) K dX3_readNumber_99 (by decide) (fun b99 => ?_) (fun b99 => ?_)
        · rw [a.pl, a.sa] at b99
          have hz := (nu_le2 ab.1 (by omega)).mp b99
          refine aw_vret K rfl dX3_readNumber_107 ?_
          refine ⟨rfl, ?_⟩
          rw [hx, if_pos hz]
          exact ⟨a.tf, a.sa, Or.inr ⟨Nat.le_of_ble_eq_true rfl, a.fa, a.pl, aa.2.1, fun _ => aa.2.2⟩⟩
        · rw [a.pl, a.sa] at b99
          have hz := fun z => b99 ((nu_le2 ab.1 (by omega)).mpr z)
          refine aw_al0 K dX3_readNumber_102 ?_
          refine aw_iconst (v := 1) K dX3_readNumber_103 (by decide) ?_
          refine aw_putI K gX3_25 fpX3_2 dX3_readNumber_104 rfl rfl ?_
          refine aw_vret K rfl dX3_readNumber_107 ?_
          refine ⟨rfl, ?_⟩
          rw [hx, if_neg hz]
          exact ⟨a.tf.pt rfl, a.sa, Or.inl ⟨rfl, rfl⟩⟩
      · have hy : tF (f q) = true := tF_i.mpr (by rw [← hf, ← a.by]; exact bI_1.mp b29)
        refine aw_al0 K dX3_readNumber_32 ?_
        refine aw_al0 K dX3_readNumber_33 ?_
        refine aw_getI K gX3_19 dX3_readNumber_34 rfl rfl ?_
        refine aw_al0 K dX3_readNumber_37 ?_
        refine aw_getI K gX3_38 dX3_readNumber_38 rfl rfl ?_
        refine aw_isub K dX3_readNumber_41 ?_
        refine aw_iconst (v := 4) K dX3_readNumber_42 (by decide) ?_
        refine aw_icmp_ge (tgt := 69) K dX3_readNumber_43 (by decide) (fun b43 => ?_) (fun b43 => ?_)
        · refine aw_al0 K dX3_readNumber_69 ?_
          refine aw_getI K gX3_45 dX3_readNumber_70 rfl rfl ?_
          refine aw_putI K gX3_45 fpX3_6 dX3_readNumber_73 rfl rfl ?_
          refine aw_al0 K dX3_readNumber_76 ?_
          refine aw_dup K dX3_readNumber_77 rfl ?_
          refine aw_getI K gX3_19 dX3_readNumber_78 rfl rfl ?_
          refine aw_iconst (v := 1) K dX3_readNumber_81 (by decide) ?_
          refine aw_iadd K dX3_readNumber_82 ?_
          refine aw_putI K gX3_19 fpX3_3 dX3_readNumber_83 rfl rfl ?_
          refine aw_goto (tgt := 10) K dX3_readNumber_86 (by decide) ?_
          rw [a.pl, a.sa] at b43
          have hz := (nu_le ab.1 (by omega)).mp b43
          exact ih (q + 1) _ (aa.nx hlt (by rw [aa.2.2]; exact (if_neg (by omega)).symm)) (by omega) ((eO_s hlt hy).symm.trans he)
        · refine aw_bipush (v := 10) K dX3_readNumber_46 (by decide) ?_
          refine aw_al0 K dX3_readNumber_48 ?_
          refine aw_getI K gX3_45 dX3_readNumber_49 rfl rfl ?_
          refine aw_imul K dX3_readNumber_52 ?_
          refine aw_al0 K dX3_readNumber_53 ?_
          refine aw_getR K gX3_11 dX3_readNumber_54 rfl rfl ?_
          refine aw_al0 K dX3_readNumber_57 ?_
          refine aw_getI K gX3_19 dX3_readNumber_58 rfl rfl ?_
          refine aw_iald K dX3_readNumber_61 rfl (a.in hlt) ?_
          refine aw_iadd K dX3_readNumber_62 ?_
          refine aw_bipush (v := 48) K dX3_readNumber_63 (by decide) ?_
          refine aw_isub K dX3_readNumber_65 ?_
          refine aw_goto (tgt := 73) K dX3_readNumber_66 (by decide) ?_
          refine aw_putI K gX3_45 fpX3_6 dX3_readNumber_73 rfl rfl ?_
          refine aw_al0 K dX3_readNumber_76 ?_
          refine aw_dup K dX3_readNumber_77 rfl ?_
          refine aw_getI K gX3_19 dX3_readNumber_78 rfl rfl ?_
          refine aw_iconst (v := 1) K dX3_readNumber_81 (by decide) ?_
          refine aw_iadd K dX3_readNumber_82 ?_
          refine aw_putI K gX3_19 fpX3_3 dX3_readNumber_83 rfl rfl ?_
          refine aw_goto (tgt := 10) K dX3_readNumber_86 (by decide) ?_
          rw [a.pl, a.sa] at b43
          have hz : ¬ 4 ≤ q - s := fun z => b43 ((nu_le ab.1 (by omega)).mpr z)
          exact ih (q + 1) _ (aa.nx hlt (by rw [a.by, aa.2.2, hf]; exact ((if_pos (by omega)).trans (by rw [show s + (q - s) = q by omega])).symm)) (by omega) ((eO_s hlt hy).symm.trans he)
set_option maxHeartbeats 4000000 in
set_option maxRecDepth 100000 in
theorem tX3n (l : Launch) (g : Geo) (sta : Nat → Nat) (h : HS) (h0 : HS) (f : Nat → Int32) (L s : Nat) (hf : h0.1 33 = f) (a : TS h0 h L s s) : CT (wX l g sta) 3 mX3_readNumber [.ref (g.2.1 4)] h ((fun o h' => o = none ∧ TKR h0 h' (if eO tF f L s - s ≤ 4 then (s, eO tF f L s, 2, numTo f s (eO tF f L s - s)) else (s, eO tF f L s, 4, 0)))) := by
  refine CT.at [some (.ref (g.2.1 4))] 0 rfl (by decide) (Nat.le_of_ble_eq_true rfl) (fun k K => ?_)
  refine aw_al0 K dX3_readNumber_0 ?_
  refine aw_iconst (v := 2) K dX3_readNumber_1 (by decide) ?_
  refine aw_putI K gX3_31 fpX3_5 dX3_readNumber_2 rfl rfl ?_
  refine aw_al0 K dX3_readNumber_5 ?_
  refine aw_iconst (v := 0) K dX3_readNumber_6 (by decide) ?_
  refine aw_putI K gX3_45 fpX3_6 dX3_readNumber_7 rfl rfl ?_
  exact lpnX3_readNumber K h0 f L s hf (L - s + 1) s _ ⟨(a.pt (Or.inl rfl)).pt (Or.inr rfl), rfl, by rw [Nat.sub_self]; rfl⟩ (by omega) rfl

theorem TQ.st {h0 h : HS} {L q : Nat} (a : TQ h0 h L q) : TS h0 (setI h 4 4 (h.1 4 3)) L q q := by
  exact ⟨a.pt (Or.inl rfl), a.2.2.2.1, Nat.le_refl _⟩
set_option maxHeartbeats 4000000 in
set_option maxRecDepth 100000 in
theorem lp2X3_readToken {l : Launch} {g : Geo} {sta : Nat → Nat} {k : KT} (K : AOK (wX l g sta) mX3_readToken k) (h0 h : HS) (f : Nat → Int32) (L p q : Nat) (hf : h0.1 33 = f) (a : TS h0 h L q q) (he : eO tW f L p = q) : AW (wX l g sta) (fun o h' => o = none ∧ TKR h0 h' (tok f L p)) 7 mX3_readToken k 46 [some (.ref (g.2.1 4))] [] h := by
  have ab := a.bd
  have e0 : tok f L p = tk1 f L q := by rw [tok, he]
  refine aw_al0 K dX3_readToken_46 ?_
  refine aw_getI K gX3_19 dX3_readToken_47 rfl rfl ?_
  refine aw_al0 K dX3_readToken_50 ?_
  refine aw_getI K gX3_15 dX3_readToken_51 rfl rfl ?_
  refine aw_icmp_lt (tgt := 65) K dX3_readToken_54 (by decide) (fun b54 => ?_) (fun b54 => ?_)
  · have hlt : q < L := by
      rcases Nat.lt_or_ge q L with z | z
      · exact z
      · exact absurd b54 (Int32.not_lt.mpr (a.lt.mpr z))
    refine aw_al0 K dX3_readToken_65 ?_
    refine aw_al0 K dX3_readToken_66 ?_
    refine aw_getI K gX3_19 dX3_readToken_67 rfl rfl ?_
    refine aw_callV_I K (tX3_isLetter l g sta _ _ (a.in hlt)) rfl (by decide) fX3_isLetter lX3_62 dX3_readToken_70 rfl clsX3 rfl (Nat.le_of_ble_eq_true rfl) ?_
    refine aw_if_eq (tgt := 83) K dX3_readToken_73 (by decide) (fun b73 => ?_) (fun b73 => ?_)
    · have hy : ¬ tL (f q) = true := fun z => bI_0.mp b73 (by rw [a.by, hf]; exact tL_i.mp z)
      refine aw_al0 K dX3_readToken_83 ?_
      refine aw_al0 K dX3_readToken_84 ?_
      refine aw_getI K gX3_19 dX3_readToken_85 rfl rfl ?_
      refine aw_callV_I K (tX3_isFigure l g sta _ _ (a.in hlt)) rfl (by decide) fX3_isFigure lX3_68 dX3_readToken_88 rfl clsX3 rfl (Nat.le_of_ble_eq_true rfl) ?_
      refine aw_if_eq (tgt := 101) K dX3_readToken_91 (by decide) (fun b91 => ?_) (fun b91 => ?_)
      · have hw : ¬ tF (f q) = true := fun z => bI_0.mp b91 (by rw [a.by, hf]; exact tF_i.mp z)
        refine aw_al0 K dX3_readToken_101 ?_
        refine aw_getR K gX3_11 dX3_readToken_102 rfl rfl ?_
        refine aw_al0 K dX3_readToken_105 ?_
        refine aw_getI K gX3_19 dX3_readToken_106 rfl rfl ?_
        refine aw_iald K dX3_readToken_109 rfl (a.in hlt) ?_
        refine aw_bipush (v := 59) K dX3_readToken_110 (by decide) ?_
        refine aw_icmp_ne (tgt := 133) K dX3_readToken_112 (by decide) (fun b112 => ?_) (fun b112 => ?_)
        · rw [a.by, hf] at b112
          refine aw_al0 K dX3_readToken_133 ?_
          refine aw_iconst (v := 1) K dX3_readToken_134 (by decide) ?_
          refine aw_putI K gX3_25 fpX3_2 dX3_readToken_135 rfl rfl ?_
          refine aw_vret K rfl dX3_readToken_138 ?_
          refine ⟨rfl, ?_⟩
          rw [e0, tk1, if_pos hlt, if_neg hy, if_neg hw, if_neg b112]
          exact ⟨a.tf.pt rfl, a.sa, Or.inl ⟨rfl, rfl⟩⟩
        · rw [a.by, hf] at b112
          refine aw_al0 K dX3_readToken_115 ?_
          refine aw_iconst (v := 3) K dX3_readToken_116 (by decide) ?_
          refine aw_putI K gX3_31 fpX3_5 dX3_readToken_117 rfl rfl ?_
          refine aw_al0 K dX3_readToken_120 ?_
          refine aw_dup K dX3_readToken_121 rfl ?_
          refine aw_getI K gX3_19 dX3_readToken_122 rfl rfl ?_
          refine aw_iconst (v := 1) K dX3_readToken_125 (by decide) ?_
          refine aw_iadd K dX3_readToken_126 ?_
          refine aw_putI K gX3_19 fpX3_3 dX3_readToken_127 rfl rfl ?_
          refine aw_goto (tgt := 138) K dX3_readToken_130 (by decide) ?_
          refine aw_vret K rfl dX3_readToken_138 ?_
          refine ⟨rfl, ?_⟩
          rw [e0, tk1, if_pos hlt, if_neg hy, if_neg hw, if_pos b112]
          exact ⟨(a.tf.pt rfl).pt rfl, a.sa, Or.inr ⟨Nat.le_of_ble_eq_true rfl, a.fa, (by rw [rdI, if_pos ⟨rfl, rfl⟩]; exact (congrArg (· + 1) a.pl).trans (nI_1 _)), rfl, fun z => absurd z (by simp)⟩⟩
      · have hw : tF (f q) = true := tF_i.mpr (by rw [← hf, ← a.by]; exact bI_1.mp b91)
        refine aw_al0 K dX3_readToken_94 ?_
        refine aw_callV K (tX3n l g sta _ h0 f L q hf a) rfl (by decide) fX3_readNumber lX3_71 dX3_readToken_95 rfl clsX3 rfl (Nat.le_of_ble_eq_true rfl) (fun o h2 hq => ?_)
        obtain ⟨rfl, hq⟩ := hq
        refine aw_goto (tgt := 138) K dX3_readToken_98 (by decide) ?_
        refine aw_vret K rfl dX3_readToken_138 ?_
        refine ⟨rfl, ?_⟩
        rw [e0, tk1, if_pos hlt, if_neg hy, if_pos hw]
        exact hq
    · have hy : tL (f q) = true := tL_i.mpr (by rw [← hf, ← a.by]; exact bI_1.mp b73)
      refine aw_al0 K dX3_readToken_76 ?_
      refine aw_callV K (tX3_readRule l g sta _ h0 f L q hf a) rfl (by decide) fX3_readRule lX3_65 dX3_readToken_77 rfl clsX3 rfl (Nat.le_of_ble_eq_true rfl) (fun o h2 hq => ?_)
      obtain ⟨rfl, hq⟩ := hq
      refine aw_goto (tgt := 138) K dX3_readToken_80 (by decide) ?_
      refine aw_vret K rfl dX3_readToken_138 ?_
      refine ⟨rfl, ?_⟩
      rw [e0, tk1, if_pos hlt, if_pos hy]
      exact hq
  · have hge : L ≤ q := a.lt.mp (Int32.not_lt.mp b54)
    refine aw_al0 K dX3_readToken_57 ?_
    refine aw_iconst (v := 0) K dX3_readToken_58 (by decide) ?_
    refine aw_putI K gX3_31 fpX3_5 dX3_readToken_59 rfl rfl ?_
    refine aw_goto (tgt := 138) K dX3_readToken_62 (by decide) ?_
    refine aw_vret K rfl dX3_readToken_138 ?_
    refine ⟨rfl, ?_⟩
    rw [e0, tk1, if_neg (Nat.not_lt.mpr hge)]
    exact ⟨a.tf.pt rfl, a.sa, Or.inr ⟨Nat.le_of_ble_eq_true rfl, a.fa, a.pl, rfl, fun z => absurd z (by simp)⟩⟩
set_option maxHeartbeats 4000000 in
set_option maxRecDepth 100000 in
theorem lp1X3_readToken {l : Launch} {g : Geo} {sta : Nat → Nat} {k : KT} (K : AOK (wX l g sta) mX3_readToken k) (h0 : HS) (f : Nat → Int32) (L p : Nat) (hf : h0.1 33 = f) :
    ∀ (n q : Nat) (h : HS), TQ h0 h L q → L - q < n → eO tW f L q = eO tW f L p → AW (wX l g sta) (fun o h' => o = none ∧ TKR h0 h' (tok f L p)) 7 mX3_readToken k 0 [some (.ref (g.2.1 4))] [] h := by
  intro n
  induction n with
  | zero => intro q h a h2; omega
  | succ n ih =>
    intro q h a h2 he
    refine aw_al0 K dX3_readToken_0 ?_
    refine aw_getI K gX3_19 dX3_readToken_1 rfl rfl ?_
    refine aw_al0 K dX3_readToken_4 ?_
    refine aw_getI K gX3_15 dX3_readToken_5 rfl rfl ?_
    refine aw_icmp_ge (tgt := 38) K dX3_readToken_8 (by decide) (fun b8 => ?_) (fun b8 => ?_)
    · have hx : eO tW f L p = q := he ▸ eO_x (fun z => absurd (a.lt.mp b8) (Nat.not_le.mpr z.1))
      refine aw_al0 K dX3_readToken_38 ?_
      refine aw_al0 K dX3_readToken_39 ?_
      refine aw_getI K gX3_19 dX3_readToken_40 rfl rfl ?_
      refine aw_putI K gX3_38 fpX3_4 dX3_readToken_43 rfl rfl ?_
      exact lp2X3_readToken K h0 _ f L p q hf a.st hx
    · have hlt : q < L := by
        rcases Nat.lt_or_ge q L with z | z
        · exact z
        · exact absurd (a.lt.mpr z) b8
      refine aw_al0 K dX3_readToken_11 ?_
      refine aw_getR K gX3_11 dX3_readToken_12 rfl rfl ?_
      refine aw_al0 K dX3_readToken_15 ?_
      refine aw_getI K gX3_19 dX3_readToken_16 rfl rfl ?_
      refine aw_iald K dX3_readToken_19 rfl (a.in hlt) ?_
      refine aw_bipush (v := 32) K dX3_readToken_20 (by decide) ?_
      refine aw_icmp_ne (tgt := 38) K dX3_readToken_22 (by decide) (fun b22 => ?_) (fun b22 => ?_)
      · rw [a.by, hf] at b22
        have hx : eO tW f L p = q := he ▸ eO_x (fun z => b22 (tW_i.mp z.2))
        refine aw_al0 K dX3_readToken_38 ?_
        refine aw_al0 K dX3_readToken_39 ?_
        refine aw_getI K gX3_19 dX3_readToken_40 rfl rfl ?_
        refine aw_putI K gX3_38 fpX3_4 dX3_readToken_43 rfl rfl ?_
        exact lp2X3_readToken K h0 _ f L p q hf a.st hx
      · rw [a.by, hf] at b22
        refine aw_al0 K dX3_readToken_25 ?_
        refine aw_dup K dX3_readToken_26 rfl ?_
        refine aw_getI K gX3_19 dX3_readToken_27 rfl rfl ?_
        refine aw_iconst (v := 1) K dX3_readToken_30 (by decide) ?_
        refine aw_iadd K dX3_readToken_31 ?_
        refine aw_putI K gX3_19 fpX3_3 dX3_readToken_32 rfl rfl ?_
        refine aw_goto (tgt := 0) K dX3_readToken_35 (by decide) ?_
        exact ih (q + 1) _ (a.nx hlt) (by omega) ((eO_s hlt (tW_i.mpr b22)).symm.trans he)
/-- ready to read at p -/
def TR (h : HS) (f : Nat → Int32) (L p : Nat) : Prop := h.1 33 = f ∧ h.1 4 1 = nI L ∧ h.1 4 3 = nI p ∧ p ≤ L ∧ L ≤ 200
theorem TQ.of {h : HS} {f : Nat → Int32} {L p : Nat} (r : TR h f L p) : TQ h h L p := ⟨TF.rf, r.2.1, rfl, r.2.2.1, r.2.2.2⟩
set_option maxHeartbeats 4000000 in
set_option maxRecDepth 100000 in
theorem tX3_readToken (l : Launch) (g : Geo) (sta : Nat → Nat) (h : HS) (f : Nat → Int32) (L p : Nat) (r : TR h f L p) : CT (wX l g sta) 7 mX3_readToken [.ref (g.2.1 4)] h (fun o h' => o = none ∧ TKR h h' (tok f L p)) := by
  refine CT.at [some (.ref (g.2.1 4))] 0 rfl (by decide) (Nat.le_of_ble_eq_true rfl) (fun k K => ?_)
  exact lp1X3_readToken K h f L p r.1 (L - p + 1) p h (TQ.of r) (by omega) rfl
