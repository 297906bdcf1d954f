def bt (x : Int32) (i : Nat) : Bool := x.toBitVec.getLsbD i
theorem b_ext {x y : Int32} (h : ∀ i, i < 32 → bt x i = bt y i) : x = y := Int32.toBitVec_inj.mp (BitVec.eq_of_getLsbD_eq (fun i hi => h i hi))
theorem b_or (x y : Int32) (i : Nat) : bt (x ||| y) i = (bt x i || bt y i) := by unfold bt; rw [Int32.toBitVec_or, BitVec.getLsbD_or]
theorem b_and (x y : Int32) (i : Nat) : bt (x &&& y) i = (bt x i && bt y i) := by unfold bt; rw [Int32.toBitVec_and, BitVec.getLsbD_and]
theorem b_xor (x y : Int32) (i : Nat) : bt (x ^^^ y) i = (bt x i ^^ bt y i) := by unfold bt; rw [Int32.toBitVec_xor, BitVec.getLsbD_xor]
theorem b_0 (i : Nat) : bt 0 i = false := BitVec.getLsbD_zero
theorem s_l : ∀ n, n < 32 → ((nI n &&& 31).toBitVec.smod 32).toNat = n := by decide +kernel
theorem b_shl (n : Nat) (hn : n < 32) (x : Int32) {i : Nat} (hi : i < 32) : bt (x <<< (nI n &&& 31)) i = (decide (n ≤ i) && bt x (i - n)) := by
  unfold bt
  rw [Int32.toBitVec_shiftLeft]
  show (x.toBitVec <<< ((nI n &&& 31).toBitVec.smod 32).toNat).getLsbD i = _
  rw [s_l n hn, BitVec.getLsbD_shiftLeft]
  rcases Nat.lt_or_ge i n with h | h
  · simp [h, Nat.not_le.mpr h]
  · simp [hi, h, Nat.not_lt.mpr h]
theorem b_sshr (n : Nat) (hn : n < 32) (x : Int32) {i : Nat} (hi : i < 32) : bt (x >>> (nI n &&& 31)) i = if n + i < 32 then bt x (n + i) else bt x 31 := by
  unfold bt
  rw [Int32.toBitVec_shiftRight]
  show (x.toBitVec.sshiftRight ((nI n &&& 31).toBitVec.smod 32).toNat).getLsbD i = _
  rw [s_l n hn, BitVec.getLsbD_sshiftRight, BitVec.msb_eq_getLsbD_last]
  simp [hi]
theorem b_1 : ∀ i, i < 32 → bt 1 i = decide (i = 0) := by decide +kernel
theorem b_sh1 {r j : Nat} (hr : r < 32) (hj : j < 32) : bt ((1 : Int32) <<< (nI r &&& 31)) j = decide (j = r) := by
  rw [b_shl r hr 1 hj, b_1 (j - r) (by omega)]
  by_cases q : j = r
  · subst q
    simp
  · by_cases z : r ≤ j
    · simp [z, q, show ¬ j - r = 0 by omega]
    · simp [z, q]
theorem b_and1 (y : Int32) : y &&& 1 = 0 ↔ bt y 0 = false := by
  constructor
  · intro q
    have z : bt (y &&& 1) 0 = bt 0 0 := by rw [q]
    rw [b_and, b_0, b_1 0 (by decide)] at z
    simpa using z
  · intro q
    refine b_ext (fun i hi => ?_)
    rw [b_and, b_0, b_1 i hi]
    by_cases z : i = 0
    · subst z
      simp [q]
    · simp [z]
theorem hb_i {x : Int32} {i : Nat} (hi : i < 32) : ¬ (x >>> (nI i &&& 31)) &&& 1 = 0 ↔ bt x i = true := by
  rw [b_and1, b_sshr i hi x (by decide), if_pos (by omega), Nat.add_zero]
  simp
/-! a line, the lines -/
def lnC (C : Nat × Nat × Nat × Int32) (r : Nat) (v : Int32) : Int32 × Nat × Nat × Nat × Int32 := if C.2.2.1 = 4 then (1, C.1, 0, 0, 0) else if C.2.2.1 = 3 then (0, C.1, C.2.1, r, v) else (2, C.1, 0, 0, 0)
def lnB (f : Nat → Int32) (L : Nat) (B : Nat × Nat × Nat × Int32) (r : Nat) : Int32 × Nat × Nat × Nat × Int32 := if B.2.2.1 = 4 then (1, B.1, 0, 0, 0) else if B.2.2.1 = 2 then (if aw_r1 r ≤ B.2.2.2 ∧ B.2.2.2 ≤ aw_r2 r then lnC (tok f L B.2.1) r B.2.2.2 else (3, B.1, 0, 0, 0)) else (2, B.1, 0, 0, 0)
def lnF (f : Nat → Int32) (L : Nat) (t : Nat → Bool) (T : Nat × Nat × Nat × Int32) : Int32 × Nat × Nat × Nat × Int32 := if T.2.2.1 = 4 then (1, T.1, 0, 0, 0) else if T.2.2.1 = 1 then (if t T.2.2.2.toNatClampNeg = true then (4, T.1, 0, 0, 0) else lnB f L (tok f L T.2.1) T.2.2.2.toNatClampNeg) else (2, T.1, 0, 0, 0)
def tset (t : Nat → Bool) (r : Nat) : Nat → Bool := fun j => if j = r then true else t j
def prs (f : Nat → Int32) (L : Nat) : Nat → Nat → (Nat → Bool) → (Nat → Int32) → Nat → Int32 × Int32 × (Nat → Int32)
  | 0, _, _, d, n => (0, nI n, d)
  | k + 1, p, t, d, n => if (tok f L p).2.2.1 = 0 then (0, nI n, d) else if (lnF f L t (tok f L p)).1 = 0 then prs f L k (lnF f L t (tok f L p)).2.2.1 (tset t (lnF f L t (tok f L p)).2.2.2.1) (upd d (lnF f L t (tok f L p)).2.2.2.1 (lnF f L t (tok f L p)).2.2.2.2) (n + 1) else ((lnF f L t (tok f L p)).1, -10 - nI (lnF f L t (tok f L p)).2.1, d)
theorem lnC_0 {C : Nat × Nat × Nat × Int32} {r : Nat} {v : Int32} (h : (lnC C r v).1 = 0) : C.2.2.1 = 3 ∧ lnC C r v = (0, C.1, C.2.1, r, v) := by
  unfold lnC at h ⊢
  by_cases h1 : C.2.2.1 = 4
  · rw [if_pos h1] at h
    exact absurd h (by simp)
  · rw [if_neg h1] at h ⊢
    by_cases h2 : C.2.2.1 = 3
    · rw [if_pos h2]
      exact ⟨h2, rfl⟩
    · rw [if_neg h2] at h
      exact absurd h (by simp)
theorem lnB_0 {f : Nat → Int32} {L : Nat} {B : Nat × Nat × Nat × Int32} {r : Nat} (h : (lnB f L B r).1 = 0) : B.2.2.1 = 2 ∧ (aw_r1 r ≤ B.2.2.2 ∧ B.2.2.2 ≤ aw_r2 r) ∧ (tok f L B.2.1).2.2.1 = 3 ∧ lnB f L B r = (0, (tok f L B.2.1).1, (tok f L B.2.1).2.1, r, B.2.2.2) := by
  unfold lnB at h ⊢
  by_cases h1 : B.2.2.1 = 4
  · rw [if_pos h1] at h
    exact absurd h (by simp)
  · rw [if_neg h1] at h ⊢
    by_cases h2 : B.2.2.1 = 2
    · rw [if_pos h2] at h ⊢
      by_cases h3 : aw_r1 r ≤ B.2.2.2 ∧ B.2.2.2 ≤ aw_r2 r
      · rw [if_pos h3] at h ⊢
        exact ⟨h2, h3, (lnC_0 h).1, (lnC_0 h).2⟩
      · rw [if_neg h3] at h
        exact absurd h (by simp)
    · rw [if_neg h2] at h
      exact absurd h (by simp)
/-- a line that was taken -/
theorem lnF_0 {f : Nat → Int32} {L p : Nat} {t : Nat → Bool} (hp : p ≤ L) (h : (lnF f L t (tok f L p)).1 = 0) : (lnF f L t (tok f L p)).2.2.1 ≤ L ∧ (lnF f L t (tok f L p)).2.2.2.1 < 10 ∧ t (lnF f L t (tok f L p)).2.2.2.1 = false ∧ (tok f L p).2.2.1 = 1 := by
  unfold lnF at h ⊢
  by_cases h1 : (tok f L p).2.2.1 = 4
  · rw [if_pos h1] at h
    exact absurd h (by simp)
  · rw [if_neg h1] at h ⊢
    by_cases h2 : (tok f L p).2.2.1 = 1
    · rw [if_pos h2] at h ⊢
      obtain ⟨r, hr, er⟩ := tok_v h2
      have ec : (tok f L p).2.2.2.toNatClampNeg = r := by rw [er, nI_clamp (by omega)]
      rw [ec] at h ⊢
      by_cases h3 : t r = true
      · rw [if_pos h3] at h
        exact absurd h (by simp)
      · rw [if_neg h3] at h ⊢
        obtain ⟨b1, b2, b3, b4⟩ := lnB_0 h
        rw [b4]
        have c1 := tok_e hp (show (tok f L p).2.2.1 < 4 by omega)
        have c2 := tok_e c1 (show (tok f L (tok f L p).2.1).2.2.1 < 4 by omega)
        refine ⟨tok_e c2 (by omega), hr, ?_, h2⟩
        cases q : t r
        · rfl
        · exact absurd q h3
    · rw [if_neg h2] at h
      exact absurd h (by simp)
/-! the class -/
theorem std_b (l : Launch) (g : Geo) (sta : Nat → Nat) (h : HS) (a : Int32) (hf : ¬ h.1 4 2 = 0) : CT (wX l g sta) 1 mX3_stands [.ref (g.2.1 4), .int a] h (DI 0 h) := by
  have := tX3_stands l g sta h a
  rw [stdF, if_neg hf] at this
  exact this
theorem std_y (l : Launch) (g : Geo) (sta : Nat → Nat) (h : HS) (a : Int32) (hf : h.1 4 2 = 0) (ha : h.1 4 5 = a) : CT (wX l g sta) 1 mX3_stands [.ref (g.2.1 4), .int a] h (DI 1 h) := by
  have := tX3_stands l g sta h a
  rw [stdF, if_pos hf, if_pos ha] at this
  exact this
theorem std_n (l : Launch) (g : Geo) (sta : Nat → Nat) (h : HS) (a : Int32) (hf : h.1 4 2 = 0) (ha : ¬ h.1 4 5 = a) : CT (wX l g sta) 1 mX3_stands [.ref (g.2.1 4), .int a] h (DI 0 (setI h 4 2 2)) := by
  have := tX3_stands l g sta h a
  rw [stdF, if_pos hf, if_neg ha] at this
  exact this
def LF (h h' : HS) : Prop := (∀ c, c ≠ 4 → c ≠ 12 → h'.1 c = h.1 c) ∧ h'.1 4 1 = h.1 4 1
theorem LF.rf {h : HS} : LF h h := ⟨fun _ _ _ => rfl, rfl⟩
theorem LF.tr {h h1 h2 : HS} (a : LF h h1) (b : LF h1 h2) : LF h h2 := ⟨fun c h4 h12 => (b.1 c h4 h12).trans (a.1 c h4 h12), b.2.trans a.2⟩
theorem LF.tf {h h1 h2 : HS} (a : LF h h1) (b : TF h1 h2) : LF h h2 := ⟨fun c h4 h12 => (b.1 c h4).trans (a.1 c h4 h12), b.2.1.trans a.2⟩
theorem LF.pt {h h1 : HS} {j : Nat} {v : Int32} (a : LF h h1) (hj : (j == 1) = false) : LF h (setI h1 4 j v) := by
  simp only [beq_eq_false_iff_ne] at hj
  refine ⟨fun c h4 h12 => ?_, ?_⟩
  · rw [setI_w h4]
    exact a.1 c h4 h12
  · rw [rdI, if_neg (fun q => hj q.2.symm)]
    exact a.2
theorem LF.dr {h h1 : HS} {j : Nat} {v : Int32} (a : LF h h1) : LF h (setI h1 12 j v) := ⟨fun c h4 h12 => by rw [setI_w h12]; exact a.1 c h4 h12, a.2⟩
/-- what a line leaves -/
def LNR (h h' : HS) (R : Int32 × Nat × Nat × Nat × Int32) : Prop := LF h h' ∧ h'.1 4 2 = R.1 ∧ h'.1 4 4 = nI R.2.1 ∧ (R.1 = 0 → h'.1 4 3 = nI R.2.2.1 ∧ h'.1 4 7 = h.1 4 7 ||| (1 : Int32) <<< (nI R.2.2.2.1 &&& 31) ∧ h'.1 12 = upd (h.1 12) R.2.2.2.1 R.2.2.2.2)
theorem kn4 {T : Nat × Nat × Nat × Int32} {h0 h : HS} (z : TKR h0 h T) (f0 : h0.1 4 2 = 0) : (T.2.2.1 = 4 ∧ h.1 4 2 = 1) ∨ (T.2.2.1 < 4 ∧ h.1 4 2 = 0 ∧ h.1 4 3 = nI T.2.1 ∧ h.1 4 5 = nI T.2.2.1 ∧ (T.2.2.1 = 1 ∨ T.2.2.1 = 2 → h.1 4 6 = T.2.2.2)) := by
  rcases z.2.2 with q | q
  · exact Or.inl q
  · exact Or.inr ⟨q.1, q.2.1.trans f0, q.2.2⟩
theorem k_ne {T a : Nat} {x : Int32} (e : x = nI T) (h : T < 4) (ha : a < 4) (hn : ¬ T = a) : ¬ x = nI a := by
  rw [e]
  exact fun q => hn ((nI_eq (by omega) (by omega)).mp q)
set_option maxHeartbeats 4000000 in
set_option maxRecDepth 100000 in
theorem lnC_w {l : Launch} {g : Geo} {sta : Nat → Nat} {k : KT} (K : AOK (wX l g sta) mX3_readLine k) (hh h2 h3 : HS) (C : Nat × Nat × Nat × Int32) (r : Nat) (v : Int32) (hl : LF hh h2) (h7 : h2.1 4 7 = hh.1 4 7 ||| (1 : Int32) <<< (nI r &&& 31)) (h12 : h2.1 12 = upd (hh.1 12) r v) (f0 : h2.1 4 2 = 0) (z : TKR h2 h3 C) :
    AW (wX l g sta) (fun o h' => o = none ∧ LNR hh h' (lnC C r v)) 8 mX3_readLine k 93 [some (.ref (g.2.1 4)), some (.ref (g.2.1 12)), some (.int (nI r))] [] h3 := by
  rcases kn4 z f0 with q | q
  · rw [lnC, if_pos q.1]
    refine aw_al0 K dX3_readLine_93 ?_
    refine aw_iconst (v := 3) K dX3_readLine_94 (by decide) ?_
    refine aw_callV_I K (std_b l g sta _ _ (by rw [q.2]; decide)) rfl (by decide) fX3_stands lX3_41 dX3_readLine_95 rfl clsX3 rfl (Nat.le_of_ble_eq_true rfl) ?_
    refine aw_pop K dX3_readLine_98 rfl ?_
    refine aw_vret K rfl dX3_readLine_99 ?_
    exact ⟨rfl, hl.tf z.1, q.2, z.2.1, fun y => absurd y (by simp)⟩
  · rw [lnC, if_neg (show ¬ C.2.2.1 = 4 by omega)]
    by_cases y : C.2.2.1 = 3
    · rw [if_pos y]
      refine aw_al0 K dX3_readLine_93 ?_
      refine aw_iconst (v := 3) K dX3_readLine_94 (by decide) ?_
      refine aw_callV_I K (std_y l g sta _ _ q.2.1 (by rw [q.2.2.2.1, y]; rfl)) rfl (by decide) fX3_stands lX3_41 dX3_readLine_95 rfl clsX3 rfl (Nat.le_of_ble_eq_true rfl) ?_
      refine aw_pop K dX3_readLine_98 rfl ?_
      refine aw_vret K rfl dX3_readLine_99 ?_
      exact ⟨rfl, hl.tf z.1, q.2.1, z.2.1, fun _ => ⟨q.2.2.1, z.1.2.2.trans h7, (z.1.1 12 (by decide)).trans h12⟩⟩
    · rw [if_neg y]
      refine aw_al0 K dX3_readLine_93 ?_
      refine aw_iconst (v := 3) K dX3_readLine_94 (by decide) ?_
      refine aw_callV_I K (std_n l g sta _ _ q.2.1 (k_ne (a := 3) q.2.2.2.1 q.1 (by decide) y)) rfl (by decide) fX3_stands lX3_41 dX3_readLine_95 rfl clsX3 rfl (Nat.le_of_ble_eq_true rfl) ?_
      refine aw_pop K dX3_readLine_98 rfl ?_
      refine aw_vret K rfl dX3_readLine_99 ?_
      exact ⟨rfl, (hl.tf z.1).pt rfl, rfl, z.2.1, fun y => absurd y (by simp)⟩
set_option maxHeartbeats 4000000 in
set_option maxRecDepth 100000 in
theorem lnB_w {l : Launch} {g : Geo} {sta : Nat → Nat} {k : KT} (K : AOK (wX l g sta) mX3_readLine k) (hh h1 h2 : HS) (f : Nat → Int32) (L : Nat) (B : Nat × Nat × Nat × Int32) (r : Nat) (hr : r < 10) (hl : LF hh h1) (h7 : h1.1 4 7 = hh.1 4 7 ||| (1 : Int32) <<< (nI r &&& 31)) (h12 : h1.1 12 = hh.1 12) (f0 : h1.1 4 2 = 0) (hf : h1.1 33 = f) (hL : h1.1 4 1 = nI L) (hL2 : L ≤ 200) (hB : B.2.2.1 < 4 → B.2.1 ≤ L) (z : TKR h1 h2 B) :
    AW (wX l g sta) (fun o h' => o = none ∧ LNR hh h' (lnB f L B r)) 8 mX3_readLine k 47 [some (.ref (g.2.1 4)), some (.ref (g.2.1 12)), some (.int (nI r))] [] h2 := by
  rcases kn4 z f0 with q | q
  · rw [lnB, if_pos q.1]
    refine aw_al0 K dX3_readLine_47 ?_
    refine aw_iconst (v := 2) K dX3_readLine_48 (by decide) ?_
    refine aw_callV_I K (std_b l g sta _ _ (by rw [q.2]; decide)) rfl (by decide) fX3_stands lX3_41 dX3_readLine_49 rfl clsX3 rfl (Nat.le_of_ble_eq_true rfl) ?_
    refine aw_if_ne (tgt := 56) K dX3_readLine_52 (by decide) (fun b52 => ?_) (fun b52 => ?_)
    · exact absurd b52 (by decide)
    · refine aw_vret K rfl dX3_readLine_55 ?_
      refine ⟨rfl, ?_⟩
      exact ⟨hl.tf z.1, q.2, z.2.1, fun y => absurd y (by simp)⟩
  · rw [lnB, if_neg (show ¬ B.2.2.1 = 4 by omega)]
    by_cases y : B.2.2.1 = 2
    · rw [if_pos y]
      have e6 := q.2.2.2.2 (Or.inr y)
      refine aw_al0 K dX3_readLine_47 ?_
      refine aw_iconst (v := 2) K dX3_readLine_48 (by decide) ?_
      refine aw_callV_I K (std_y l g sta _ _ q.2.1 (by rw [q.2.2.2.1, y]; rfl)) rfl (by decide) fX3_stands lX3_41 dX3_readLine_49 rfl clsX3 rfl (Nat.le_of_ble_eq_true rfl) ?_
      refine aw_if_ne (tgt := 56) K dX3_readLine_52 (by decide) (fun b52 => ?_) (fun b52 => ?_)
      · refine aw_al0 K dX3_readLine_56 ?_
        refine aw_getI K gX3_45 dX3_readLine_57 rfl rfl ?_
        refine aw_getsN (i := 1) K (by decide) (List.mem_of_getElem? (i := 553) (by decide +kernel)) dX3_readLine_60 ?_
        refine aw_il2 K dX3_readLine_63 ?_
        refine aw_sld K (by decide) dX3_readLine_64 (vp_in_nI hr (by decide)) ?_
        refine aw_getsN (i := 2) K (by decide) (List.mem_of_getElem? (i := 555) (by decide +kernel)) dX3_readLine_65 ?_
        refine aw_il2 K dX3_readLine_68 ?_
        refine aw_sld K (by decide) dX3_readLine_69 (vp_in_nI hr (by decide)) ?_
        rw [e6, nI_clamp (show r < 2 ^ 31 by omega)]
        refine aw_callSN_I K (tX6_within l g sta _ _ _ _) rfl (by decide) fX6_within lX3_58 dX3_readLine_70 rfl (Nat.le_of_ble_eq_true rfl) ?_
        refine aw_if_ne (tgt := 82) K dX3_readLine_73 (by decide) (fun b73 => ?_) (fun b73 => ?_)
        · rw [if_pos (show aw_r1 r ≤ B.2.2.2 ∧ B.2.2.2 ≤ aw_r2 r from bI_1.mp b73)]
          refine aw_al1 K dX3_readLine_82 ?_
          refine aw_il2 K dX3_readLine_83 ?_
          refine aw_al0 K dX3_readLine_84 ?_
          refine aw_getI K gX3_45 dX3_readLine_85 rfl rfl ?_
          refine aw_iast K dX3_readLine_88 rfl (vp_in_nI hr (by decide)) ?_
          refine aw_al0 K dX3_readLine_89 ?_
          rw [nI_clamp (show r < 2 ^ 31 by omega)]
          have hT : TR (setI h2 12 r (h2.1 4 6)) f L B.2.1 := ⟨(z.1.1 33 (by decide)).trans hf, z.1.2.1.trans hL, q.2.2.1, hB q.1, hL2⟩
          refine aw_callV K (tX3_readToken l g sta _ f L B.2.1 hT) rfl (by decide) fX3_readToken lX3_28 dX3_readLine_90 rfl clsX3 rfl (Nat.le_of_ble_eq_true rfl) (fun o h2 hq => ?_)
          obtain ⟨rfl, z3⟩ := hq
          exact lnC_w K hh _ _ _ r _ (hl.tf z.1).dr (z.1.2.2.trans h7) (by rw [e6]; exact (congrArg (fun u => upd u r B.2.2.2) ((z.1.1 12 (by decide)).trans h12))) q.2.1 z3
        · rw [if_neg (show ¬ (aw_r1 r ≤ B.2.2.2 ∧ B.2.2.2 ≤ aw_r2 r) from bI_0.mp b73)]
          refine aw_al0 K dX3_readLine_76 ?_
          refine aw_iconst (v := 3) K dX3_readLine_77 (by decide) ?_
          refine aw_putI K gX3_25 fpX3_2 dX3_readLine_78 rfl rfl ?_
          refine aw_vret K rfl dX3_readLine_81 ?_
          refine ⟨rfl, ?_⟩
          exact ⟨(hl.tf z.1).pt rfl, rfl, z.2.1, fun y => absurd y (by simp)⟩
      · exact absurd b52 (by decide)
    · rw [if_neg y]
      refine aw_al0 K dX3_readLine_47 ?_
      refine aw_iconst (v := 2) K dX3_readLine_48 (by decide) ?_
      refine aw_callV_I K (std_n l g sta _ _ q.2.1 (k_ne (a := 2) q.2.2.2.1 q.1 (by decide) y)) rfl (by decide) fX3_stands lX3_41 dX3_readLine_49 rfl clsX3 rfl (Nat.le_of_ble_eq_true rfl) ?_
      refine aw_if_ne (tgt := 56) K dX3_readLine_52 (by decide) (fun b52 => ?_) (fun b52 => ?_)
      · exact absurd b52 (by decide)
      · refine aw_vret K rfl dX3_readLine_55 ?_
        refine ⟨rfl, ?_⟩
        exact ⟨(hl.tf z.1).pt rfl, rfl, z.2.1, fun y => absurd y (by simp)⟩
def tB (x : Int32) (j : Nat) : Bool := decide (¬ (x >>> (nI j &&& 31)) &&& 1 = 0)
set_option maxHeartbeats 4000000 in
set_option maxRecDepth 100000 in
theorem tX3_readLine (l : Launch) (g : Geo) (sta : Nat → Nat) (h : HS) (h0 : HS) (f : Nat → Int32) (L p : Nat) (t : Nat → Bool) (r0 : TR h0 f L p) (f0 : h0.1 4 2 = 0) (ht : ∀ j, j < 10 → tB (h.1 4 7) j = t j) (z : TKR h0 h (tok f L p)) : CT (wX l g sta) 8 mX3_readLine [.ref (g.2.1 4), .ref (g.2.1 12)] h ((fun o h' => o = none ∧ LNR h h' (lnF f L t (tok f L p)))) := by
  refine CT.at [some (.ref (g.2.1 4)), some (.ref (g.2.1 12)), none] 1 rfl (by decide) (Nat.le_of_ble_eq_true rfl) (fun k K => ?_)
  have hB := tok_e (f := f) (L := L) r0.2.2.2.1
  rcases kn4 z f0 with q | q
  · rw [lnF, if_pos q.1]
    refine aw_al0 K dX3_readLine_0 ?_
    refine aw_iconst (v := 1) K dX3_readLine_1 (by decide) ?_
    refine aw_callV_I K (std_b l g sta _ _ (by rw [q.2]; decide)) rfl (by decide) fX3_stands lX3_41 dX3_readLine_2 rfl clsX3 rfl (Nat.le_of_ble_eq_true rfl) ?_
    refine aw_if_ne (tgt := 9) K dX3_readLine_5 (by decide) (fun b5 => ?_) (fun b5 => ?_)
    · exact absurd b5 (by decide)
    · refine aw_vret K rfl dX3_readLine_8 ?_
      refine ⟨rfl, ?_⟩
      exact ⟨LF.rf, q.2, z.2.1, fun y => absurd y (by simp)⟩
  · rw [lnF, if_neg (show ¬ (tok f L p).2.2.1 = 4 by omega)]
    by_cases y : (tok f L p).2.2.1 = 1
    · rw [if_pos y]
      have e6 := q.2.2.2.2 (Or.inl y)
      obtain ⟨r, hr, er⟩ := tok_v y
      have ec : (tok f L p).2.2.2.toNatClampNeg = r := by rw [er, nI_clamp (by omega)]
      rw [er] at e6
      rw [ec]
      have hr2 := ht r hr
      refine aw_al0 K dX3_readLine_0 ?_
      refine aw_iconst (v := 1) K dX3_readLine_1 (by decide) ?_
      refine aw_callV_I K (std_y l g sta _ _ q.2.1 (by rw [q.2.2.2.1, y]; rfl)) rfl (by decide) fX3_stands lX3_41 dX3_readLine_2 rfl clsX3 rfl (Nat.le_of_ble_eq_true rfl) ?_
      refine aw_if_ne (tgt := 9) K dX3_readLine_5 (by decide) (fun b5 => ?_) (fun b5 => ?_)
      · refine aw_al0 K dX3_readLine_9 ?_
        refine aw_getI K gX3_45 dX3_readLine_10 rfl rfl ?_
        rw [e6]
        refine aw_is2 K dX3_readLine_13 (by decide) rfl ?_
        refine aw_al0 K dX3_readLine_14 ?_
        refine aw_getI K gX3_22 dX3_readLine_15 rfl rfl ?_
        refine aw_il2 K dX3_readLine_18 ?_
        refine aw_callSN_I K (tX6_hasBit l g sta _ _ _) rfl (by decide) fX6_hasBit lX3_48 dX3_readLine_19 rfl (Nat.le_of_ble_eq_true rfl) ?_
        refine aw_if_eq (tgt := 31) K dX3_readLine_22 (by decide) (fun b22 => ?_) (fun b22 => ?_)
        · rw [if_neg (show ¬ t r = true by rw [← hr2]; exact fun u => bI_0.mp b22 (of_decide_eq_true u))]
          refine aw_al0 K dX3_readLine_31 ?_
          refine aw_dup K dX3_readLine_32 rfl ?_
          refine aw_getI K gX3_22 dX3_readLine_33 rfl rfl ?_
          refine aw_iconst (v := 1) K dX3_readLine_36 (by decide) ?_
          refine aw_il2 K dX3_readLine_37 ?_
          refine aw_ishl K dX3_readLine_38 ?_
          refine aw_ior K dX3_readLine_39 ?_
          refine aw_putI K gX3_22 fpX3_7 dX3_readLine_40 rfl rfl ?_
          refine aw_al0 K dX3_readLine_43 ?_
          have hT : TR (setI h 4 7 (h.1 4 7 ||| (1 : Int32) <<< (nI r &&& 31))) f L (tok f L p).2.1 := ⟨(z.1.1 33 (by decide)).trans r0.1, z.1.2.1.trans r0.2.1, q.2.2.1, hB q.1, r0.2.2.2.2⟩
          refine aw_callV K (tX3_readToken l g sta _ f L (tok f L p).2.1 hT) rfl (by decide) fX3_readToken lX3_28 dX3_readLine_44 rfl clsX3 rfl (Nat.le_of_ble_eq_true rfl) (fun o h2 hq => ?_)
          obtain ⟨rfl, z3⟩ := hq
          exact lnB_w K h (setI h 4 7 (h.1 4 7 ||| (1 : Int32) <<< (nI r &&& 31))) _ f L _ r hr (LF.rf.pt rfl) rfl rfl q.2.1 hT.1 hT.2.1 hT.2.2.2.2 (tok_e hT.2.2.2.1) z3
        · rw [if_pos (show t r = true by rw [← hr2]; exact decide_eq_true (bI_1.mp b22))]
          refine aw_al0 K dX3_readLine_25 ?_
          refine aw_iconst (v := 4) K dX3_readLine_26 (by decide) ?_
          refine aw_putI K gX3_25 fpX3_2 dX3_readLine_27 rfl rfl ?_
          refine aw_vret K rfl dX3_readLine_30 ?_
          refine ⟨rfl, ?_⟩
          exact ⟨LF.rf.pt rfl, rfl, z.2.1, fun y => absurd y (by simp)⟩
      · exact absurd b5 (by decide)
    · rw [if_neg y]
      refine aw_al0 K dX3_readLine_0 ?_
      refine aw_iconst (v := 1) K dX3_readLine_1 (by decide) ?_
      refine aw_callV_I K (std_n l g sta _ _ q.2.1 (k_ne (a := 1) q.2.2.2.1 q.1 (by decide) y)) rfl (by decide) fX3_stands lX3_41 dX3_readLine_2 rfl clsX3 rfl (Nat.le_of_ble_eq_true rfl) ?_
      refine aw_if_ne (tgt := 9) K dX3_readLine_5 (by decide) (fun b5 => ?_) (fun b5 => ?_)
      · exact absurd b5 (by decide)
      · refine aw_vret K rfl dX3_readLine_8 ?_
        refine ⟨rfl, ?_⟩
        exact ⟨LF.rf.pt rfl, rfl, z.2.1, fun y => absurd y (by simp)⟩

theorem tB_set {x : Int32} {t : Nat → Bool} {r : Nat} (hr : r < 10) (ht : ∀ j, j < 10 → tB x j = t j) : ∀ j, j < 10 → tB (x ||| (1 : Int32) <<< (nI r &&& 31)) j = tset t r j := by
  intro j hj
  have e := ht j hj
  unfold tB at e ⊢
  unfold tset
  rw [← e]
  simp only [hb_i (show j < 32 by omega), b_or, b_sh1 (show r < 32 by omega) (show j < 32 by omega)]
  by_cases q : j = r <;> simp [q]
set_option maxHeartbeats 4000000 in
set_option maxRecDepth 100000 in
theorem lpX3_readLines {l : Launch} {g : Geo} {sta : Nat → Nat} {k : KT} (K : AOK (wX l g sta) mX3_readLines k) (hh : HS) (f : Nat → Int32) (L : Nat) :
    ∀ (m n p : Nat) (t : Nat → Bool) (d : Nat → Int32) (h : HS), m + n = 11 → TR h f L p → LF hh h → h.1 4 2 = 0 → (∀ j, j < 10 → tB (h.1 4 7) j = t j) → (∀ j, j < 10 → h.1 12 j = d j) →
      AW (wX l g sta) (fun o h' => o = some (.int (prs f L m p t d n).2.1) ∧ LF hh h' ∧ h'.1 4 2 = (prs f L m p t d n).1 ∧ ((prs f L m p t d n).1 = 0 → ∀ j, j < 10 → h'.1 12 j = (prs f L m p t d n).2.2 j)) 9 mX3_readLines k 17 [some (.ref (g.2.1 4)), some (.ref (g.2.1 12)), some (.int (nI n))] [] h := by
  intro m
  induction m with
  | zero =>
    intro n p t d h k1 r0 hl f0 ht hd
    obtain rfl : n = 11 := by omega
    refine aw_il2 K dX3_readLines_17 ?_
    refine aw_bipush (v := 10) K dX3_readLines_18 (by decide) ?_
    refine aw_icmp_gt (tgt := 69) K dX3_readLines_20 (by decide) (fun b20 => ?_) (fun b20 => ?_)
    · refine aw_il2 K dX3_readLines_69 ?_
      refine aw_iret K rfl dX3_readLines_70 ?_
      exact ⟨rfl, hl, f0, fun _ => hd⟩
    · exact absurd (by decide) b20
  | succ m ih =>
    intro n p t d h k1 r0 hl f0 ht hd
    rw [prs]
    refine aw_il2 K dX3_readLines_17 ?_
    refine aw_bipush (v := 10) K dX3_readLines_18 (by decide) ?_
    refine aw_icmp_gt (tgt := 69) K dX3_readLines_20 (by decide) (fun b20 => ?_) (fun b20 => ?_)
    · exact absurd b20 (nI_nlt (a := 10) (b := n) (by omega) (by decide))
    · refine aw_al0 K dX3_readLines_23 ?_
      refine aw_callV K (tX3_readToken l g sta _ f L p r0) rfl (by decide) fX3_readToken lX3_28 dX3_readLines_24 rfl clsX3 rfl (Nat.le_of_ble_eq_true rfl) (fun o h2 hq => ?_)
      obtain ⟨rfl, z⟩ := hq
      have y := kn4 z f0
      refine aw_al0 K dX3_readLines_27 ?_
      refine aw_getI K gX3_25 dX3_readLines_28 rfl rfl ?_
      refine aw_if_ne (tgt := 43) K dX3_readLines_31 (by decide) (fun b31 => ?_) (fun b31 => ?_)
      · have y1 : (tok f L p).2.2.1 = 4 := by
          rcases y with y | y
          · exact y.1
          · exact absurd y.2.1 b31
        have y0 : ¬ (tok f L p).2.2.1 = 0 := by omega
        refine aw_al0 K dX3_readLines_43 ?_
        refine aw_al1 K dX3_readLines_44 ?_
        refine aw_callV K (tX3_readLine l g sta _ h f L p t r0 f0 (by rw [z.1.2.2]; exact ht) z) rfl (by decide) fX3_readLine lX3_34 dX3_readLines_45 rfl clsX3 rfl (Nat.le_of_ble_eq_true rfl) (fun o h2 hq => ?_)
        obtain ⟨rfl, x⟩ := hq
        rw [if_neg y0]
        refine aw_al0 K dX3_readLines_48 ?_
        refine aw_getI K gX3_25 dX3_readLines_49 rfl rfl ?_
        refine aw_if_eq (tgt := 63) K dX3_readLines_52 (by decide) (fun b52 => ?_) (fun b52 => ?_)
        · have x0 := x.2.1.symm.trans b52
          rw [if_pos x0]
          refine aw_ii2 (v := _ + 1) K dX3_readLines_63 rfl (by decide) rfl ?_
          refine aw_goto (tgt := 17) K dX3_readLines_66 (by decide) ?_
          rw [nI_1]
          have w1 := lnF_0 (t := t) r0.2.2.2.1 x0
          have w2 := x.2.2.2 x0
          refine ih (n + 1) _ _ _ _ (by omega) ⟨(x.1.1 33 (by decide) (by decide)).trans ((z.1.1 33 (by decide)).trans r0.1), x.1.2.trans (z.1.2.1.trans r0.2.1), w2.1, w1.1, r0.2.2.2.2⟩ ((hl.tf z.1).tr x.1) (x.2.1.trans x0) ?_ ?_
          · rw [w2.2.1, z.1.2.2]
            exact tB_set w1.2.1 ht
          · intro j hj
            rw [w2.2.2, z.1.1 12 (by decide)]
            unfold upd
            split
            · rfl
            · exact hd j hj
        · have x0 : ¬ (lnF f L t (tok f L p)).1 = 0 := fun u => b52 (x.2.1.trans u)
          rw [if_neg x0]
          refine aw_bipush (v := (-10)) K dX3_readLines_55 (by decide) ?_
          refine aw_al0 K dX3_readLines_57 ?_
          refine aw_getI K gX3_38 dX3_readLines_58 rfl rfl ?_
          refine aw_isub K dX3_readLines_61 ?_
          refine aw_iret K rfl dX3_readLines_62 ?_
          exact ⟨by rw [x.2.2.1], (hl.tf z.1).tr x.1, x.2.1, fun u => absurd u x0⟩
      · refine aw_al0 K dX3_readLines_34 ?_
        refine aw_getI K gX3_31 dX3_readLines_35 rfl rfl ?_
        refine aw_if_ne (tgt := 43) K dX3_readLines_38 (by decide) (fun b38 => ?_) (fun b38 => ?_)
        · have y0 : ¬ (tok f L p).2.2.1 = 0 := by
            intro u
            rcases y with y | y
            · omega
            · exact b38 (by rw [y.2.2.2.1, u]; rfl)
          refine aw_al0 K dX3_readLines_43 ?_
          refine aw_al1 K dX3_readLines_44 ?_
          refine aw_callV K (tX3_readLine l g sta _ h f L p t r0 f0 (by rw [z.1.2.2]; exact ht) z) rfl (by decide) fX3_readLine lX3_34 dX3_readLines_45 rfl clsX3 rfl (Nat.le_of_ble_eq_true rfl) (fun o h2 hq => ?_)
          obtain ⟨rfl, x⟩ := hq
          rw [if_neg y0]
          refine aw_al0 K dX3_readLines_48 ?_
          refine aw_getI K gX3_25 dX3_readLines_49 rfl rfl ?_
          refine aw_if_eq (tgt := 63) K dX3_readLines_52 (by decide) (fun b52 => ?_) (fun b52 => ?_)
          · have x0 := x.2.1.symm.trans b52
            rw [if_pos x0]
            refine aw_ii2 (v := _ + 1) K dX3_readLines_63 rfl (by decide) rfl ?_
            refine aw_goto (tgt := 17) K dX3_readLines_66 (by decide) ?_
            rw [nI_1]
            have w1 := lnF_0 (t := t) r0.2.2.2.1 x0
            have w2 := x.2.2.2 x0
            refine ih (n + 1) _ _ _ _ (by omega) ⟨(x.1.1 33 (by decide) (by decide)).trans ((z.1.1 33 (by decide)).trans r0.1), x.1.2.trans (z.1.2.1.trans r0.2.1), w2.1, w1.1, r0.2.2.2.2⟩ ((hl.tf z.1).tr x.1) (x.2.1.trans x0) ?_ ?_
            · rw [w2.2.1, z.1.2.2]
              exact tB_set w1.2.1 ht
            · intro j hj
              rw [w2.2.2, z.1.1 12 (by decide)]
              unfold upd
              split
              · rfl
              · exact hd j hj
          · have x0 : ¬ (lnF f L t (tok f L p)).1 = 0 := fun u => b52 (x.2.1.trans u)
            rw [if_neg x0]
            refine aw_bipush (v := (-10)) K dX3_readLines_55 (by decide) ?_
            refine aw_al0 K dX3_readLines_57 ?_
            refine aw_getI K gX3_38 dX3_readLines_58 rfl rfl ?_
            refine aw_isub K dX3_readLines_61 ?_
            refine aw_iret K rfl dX3_readLines_62 ?_
            exact ⟨by rw [x.2.2.1], (hl.tf z.1).tr x.1, x.2.1, fun u => absurd u x0⟩
        · have y0 : (tok f L p).2.2.1 = 0 := by
            rcases y with y | y
            · rw [y.2] at b31
              exact absurd b31 (by decide)
            · have u := y.2.2.2.1
              rw [b38] at u
              exact ((nI_eq (a := 0) (by decide) (by omega)).mp u).symm
          refine aw_il2 K dX3_readLines_41 ?_
          refine aw_iret K rfl dX3_readLines_42 ?_
          rw [if_pos y0]
          exact ⟨rfl, hl.tf z.1, z.2.2.elim (fun u => absurd u.1 (by omega)) (fun u => u.2.1.trans f0), fun _ j hj => by rw [z.1.1 12 (by decide)]; exact hd j hj⟩
set_option maxHeartbeats 4000000 in
set_option maxRecDepth 100000 in
theorem tX3_readLines (l : Launch) (g : Geo) (sta : Nat → Nat) (h : HS) (f : Nat → Int32) (L : Nat) (hf : h.1 33 = f) (hL : h.1 4 1 = nI L) (hL2 : L ≤ 200) (hd : ∀ j, j < 10 → h.1 12 j = aw_r0 j) : CT (wX l g sta) 9 mX3_readLines [.ref (g.2.1 4), .ref (g.2.1 12)] h ((fun o h' => o = some (.int (prs f L 11 0 (fun _ => false) aw_r0 0).2.1) ∧ LF h h' ∧ h'.1 4 2 = (prs f L 11 0 (fun _ => false) aw_r0 0).1 ∧ ((prs f L 11 0 (fun _ => false) aw_r0 0).1 = 0 → ∀ j, j < 10 → h'.1 12 j = (prs f L 11 0 (fun _ => false) aw_r0 0).2.2 j))) := by
  refine CT.at [some (.ref (g.2.1 4)), some (.ref (g.2.1 12)), none] 1 rfl (by decide) (Nat.le_of_ble_eq_true rfl) (fun k K => ?_)
  refine aw_al0 K dX3_readLines_0 ?_
  refine aw_iconst (v := 0) K dX3_readLines_1 (by decide) ?_
  refine aw_putI K gX3_19 fpX3_3 dX3_readLines_2 rfl rfl ?_
  refine aw_al0 K dX3_readLines_5 ?_
  refine aw_iconst (v := 0) K dX3_readLines_6 (by decide) ?_
  refine aw_putI K gX3_22 fpX3_7 dX3_readLines_7 rfl rfl ?_
  refine aw_al0 K dX3_readLines_10 ?_
  refine aw_iconst (v := 0) K dX3_readLines_11 (by decide) ?_
  refine aw_putI K gX3_25 fpX3_2 dX3_readLines_12 rfl rfl ?_
  refine aw_iconst (v := 0) K dX3_readLines_15 (by decide) ?_
  refine aw_is2 K dX3_readLines_16 (by decide) rfl ?_
  refine lpX3_readLines K h f L 11 0 0 (fun _ => false) aw_r0 _ rfl ⟨hf, hL, rfl, Nat.zero_le _, hL2⟩ (((LF.rf.pt rfl).pt rfl).pt rfl) rfl (fun j hj => ?_) hd
  have q : ∀ i, i < 10 → tB 0 i = false := by decide
  exact q j hj

theorem cpy10 {f g : Nat → Int32} {j : Nat} (hj : j < 10) : va_cpy f g (Int32.toNatClampNeg 0) (Int32.toNatClampNeg 0) (Int32.toNatClampNeg 10) j = f j := by
  rw [show (Int32.toNatClampNeg 0) = 0 from rfl, show (Int32.toNatClampNeg 10) = 10 from rfl, pk_cpy_in (Nat.zero_le _) (by omega), Nat.zero_add, Nat.sub_zero]
theorem cpy10o {f g : Nat → Int32} {j : Nat} (hj : ¬ j < 10) : va_cpy f g (Int32.toNatClampNeg 0) (Int32.toNatClampNeg 0) (Int32.toNatClampNeg 10) j = g j := by
  rw [show (Int32.toNatClampNeg 0) = 0 from rfl, show (Int32.toNatClampNeg 10) = 10 from rfl, pk_cpy_out (Or.inr (by omega))]
/-- the rules as they are told, told of the class -/
def rulX (h h' : HS) (R : Int32 × Int32 × (Nat → Int32)) : Prop := (∀ c, c ≠ 4 → c ≠ 11 → c ≠ 12 → h'.1 c = h.1 c) ∧ h'.1 4 1 = 0 ∧ h'.1 4 2 = R.1 ∧ h'.1 11 = (if R.1 = 0 then (fun j => if j < 10 then R.2.2 j else h.1 11 j) else h.1 11)
set_option maxHeartbeats 4000000 in
set_option maxRecDepth 100000 in
theorem tX6_rules (l : Launch) (g : Geo) (sta : Nat → Nat) (h : HS) (f : Nat → Int32) (L : Nat) (hf : h.1 33 = f) (hL : h.1 4 1 = nI L) (hL2 : L ≤ 200) : CT (wX l g sta) 10 mX6_rules [.ref (g.2.1 0)] h ((fun o h' => o = some (.int (prs f L 11 0 (fun _ => false) aw_r0 0).2.1) ∧ rulX h h' (prs f L 11 0 (fun _ => false) aw_r0 0))) := by
  refine CT.at [some (.ref (g.2.1 0)), none] 1 rfl (by decide) (Nat.le_of_ble_eq_true rfl) (fun k K => ?_)
  refine aw_gets (i := 0) K (by decide) (aw_in 270 (by decide +kernel) rfl) dX6_rules_0 ?_
  refine aw_iconst (v := 0) K dX6_rules_3 (by decide) ?_
  refine aw_al0 K dX6_rules_4 ?_
  refine aw_getR K gX6_54 dX6_rules_5 rfl rfl ?_
  refine aw_iconst (v := 0) K dX6_rules_8 (by decide) ?_
  refine aw_bipush (v := 10) K dX6_rules_9 (by decide) ?_
  refine aw_copyS (i := 0) K (by decide) cpX6_69 cpnat rfl (by decide) (by decide) (by decide) (by decide) (by decide) (by decide) (by decide) dX6_rules_11 ?_
  refine aw_al0 K dX6_rules_14 ?_
  refine aw_getR K gX6_33 dX6_rules_15 rfl rfl ?_
  refine aw_al0 K dX6_rules_18 ?_
  refine aw_getR K gX6_54 dX6_rules_19 rfl rfl ?_
  refine aw_callV K (tX3_readLines l g sta _ f L hf hL hL2 (fun j hj => cpy10 hj)) rfl (by decide) fX3_readLines lX6_183 dX6_rules_22 rfl clsX3 rfl (Nat.le_of_ble_eq_true rfl) (fun o h2 hq => ?_)
  obtain ⟨rfl, x1, x2, x3⟩ := hq
  refine (show AW _ _ _ _ _ _ _ (.int _ :: _) _ from ?_)
  refine aw_is1 K dX6_rules_25 (by decide) rfl ?_
  refine aw_al0 K dX6_rules_26 ?_
  refine aw_getR K gX6_33 dX6_rules_27 rfl rfl ?_
  refine aw_getI K gX6_187 dX6_rules_30 rfl rfl ?_
  refine aw_if_ne (tgt := 51) K dX6_rules_33 (by decide) (fun b33 => ?_) (fun b33 => ?_)
  · refine aw_al0 K dX6_rules_51 ?_
    refine aw_getR K gX6_33 dX6_rules_52 rfl rfl ?_
    refine aw_iconst (v := 0) K dX6_rules_55 (by decide) ?_
    refine aw_putI K gX6_180 fpX3_1 dX6_rules_56 rfl rfl ?_
    refine aw_il1 K dX6_rules_59 ?_
    refine aw_iret K rfl dX6_rules_60 ?_
    have x0 : ¬ (prs f L 11 0 (fun _ => false) aw_r0 0).1 = 0 := fun u => b33 (x2.trans u)
    refine ⟨rfl, fun c h4 h11 h12 => ?_, rfl, x2, ?_⟩
    · rw [setI_w h4, x1.1 c h4 h12, rdR, if_neg h12]
    · rw [if_neg x0, setI_w (by decide), x1.1 11 (by decide) (by decide), rdR, if_neg (by decide)]
  · refine aw_al0 K dX6_rules_36 ?_
    refine aw_getR K gX6_54 dX6_rules_37 rfl rfl ?_
    refine aw_iconst (v := 0) K dX6_rules_40 (by decide) ?_
    refine aw_al0 K dX6_rules_41 ?_
    refine aw_getR K gX6_50 dX6_rules_42 rfl rfl ?_
    refine aw_iconst (v := 0) K dX6_rules_45 (by decide) ?_
    refine aw_bipush (v := 10) K dX6_rules_46 (by decide) ?_
    refine aw_copy K cpX6_69 cpnat rfl rfl (by decide) (by decide) (by decide) (by decide) (by decide) (by decide) (by decide) dX6_rules_48 ?_
    refine aw_al0 K dX6_rules_51 ?_
    refine aw_getR K gX6_33 dX6_rules_52 rfl rfl ?_
    refine aw_iconst (v := 0) K dX6_rules_55 (by decide) ?_
    refine aw_putI K gX6_180 fpX3_1 dX6_rules_56 rfl rfl ?_
    refine aw_il1 K dX6_rules_59 ?_
    refine aw_iret K rfl dX6_rules_60 ?_
    have x0 : (prs f L 11 0 (fun _ => false) aw_r0 0).1 = 0 := x2.symm.trans b33
    refine ⟨rfl, fun c h4 h11 h12 => ?_, rfl, x2, ?_⟩
    · rw [setI_w h4, rdR, if_neg h11, x1.1 c h4 h12, rdR, if_neg h12]
    · rw [if_pos x0, setI_w (by decide), rdR, if_pos rfl, x1.1 11 (by decide) (by decide), rdR, if_neg (by decide)]
      funext j
      by_cases hj : j < 10
      · rw [cpy10 hj, if_pos hj]
        exact x3 x0 j hj
      · rw [cpy10o hj, if_neg hj]

