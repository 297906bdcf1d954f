def rfV (h : HS) (j : Nat) (b : Int32) (p : Int64) : Int32 := if h.1 25 j = -4 then 1 else if h.1 25 j = b then (if p < 0 ∨ ¬ p < (h.1 26 j).toInt64 then 2 else 0) else 3
set_option maxHeartbeats 4000000 in
set_option maxRecDepth 100000 in
theorem tX7_refuses (l : Launch) (g : Geo) (sta : Nat → Nat) (h : HS) (j : Nat) (hj : j < 4) (b : Int32) (p : Int64) : CT (wM l g sta) 2 mX7_refuses [.ref (g.2.1 0), .int (nI j), .int b, .long p] h (DI (rfV h j b p) h) := by
  refine CT.at [some (.ref (g.2.1 0)), some (.int (nI j)), some (.int b), some (.long p), none] 0 rfl (by decide) (Nat.le_of_ble_eq_true rfl) (fun k K => ?_)
  refine aw_al0 K dX7_refuses_0 ?_
  refine aw_getR K gX7_83 dX7_refuses_1 rfl rfl ?_
  refine aw_il1 K dX7_refuses_4 ?_
  refine aw_iald K dX7_refuses_5 rfl (vp_in_nI hj (by decide)) ?_
  rw [nI_clamp (show j < 2 ^ 31 by omega)]
  refine aw_bipush (v := (-4)) K dX7_refuses_6 (by decide) ?_
  refine aw_icmp_ne (tgt := 15) K dX7_refuses_8 (by decide) (fun b8 => ?_) (fun b8 => ?_)
  · refine aw_al0 K dX7_refuses_15 ?_
    refine aw_getR K gX7_83 dX7_refuses_16 rfl rfl ?_
    refine aw_il1 K dX7_refuses_19 ?_
    refine aw_iald K dX7_refuses_20 rfl (vp_in_nI hj (by decide)) ?_
    rw [nI_clamp (show j < 2 ^ 31 by omega)]
    refine aw_il2 K dX7_refuses_21 ?_
    refine aw_icmp_eq (tgt := 29) K dX7_refuses_22 (by decide) (fun b22 => ?_) (fun b22 => ?_)
    · refine aw_ll3 K dX7_refuses_29 ?_
      refine aw_lconst (v := 0) K dX7_refuses_30 (by decide) ?_
      refine aw_lcmp K dX7_refuses_31 ?_
      refine aw_if_lt (tgt := 47) K dX7_refuses_32 (by decide) (fun b32 => ?_) (fun b32 => ?_)
      · refine aw_iconst (v := 2) K dX7_refuses_47 (by decide) ?_
        refine aw_goto (tgt := 52) K dX7_refuses_48 (by decide) ?_
        refine aw_iret K rfl dX7_refuses_52 ?_
        refine ⟨?_, rfl⟩
        rw [rfV, if_neg b8, if_pos b22, if_pos (Or.inl ((lg_cmp_lt _ _).mp b32))]
      · refine aw_ll3 K dX7_refuses_35 ?_
        refine aw_al0 K dX7_refuses_36 ?_
        refine aw_getR K gX7_86 dX7_refuses_37 rfl rfl ?_
        refine aw_il1 K dX7_refuses_40 ?_
        refine aw_iald K dX7_refuses_41 rfl (vp_in_nI hj (by decide)) ?_
        rw [nI_clamp (show j < 2 ^ 31 by omega)]
        refine aw_i2l K dX7_refuses_42 ?_
        refine aw_lcmp K dX7_refuses_43 ?_
        refine aw_if_lt (tgt := 51) K dX7_refuses_44 (by decide) (fun b44 => ?_) (fun b44 => ?_)
        · refine aw_iconst (v := 0) K dX7_refuses_51 (by decide) ?_
          refine aw_iret K rfl dX7_refuses_52 ?_
          refine ⟨?_, rfl⟩
          rw [rfV, if_neg b8, if_pos b22, if_neg (fun q => q.elim (fun z => b32 ((lg_cmp_lt _ _).mpr z)) (fun z => z ((lg_cmp_lt _ _).mp b44)))]
        · refine aw_iconst (v := 2) K dX7_refuses_47 (by decide) ?_
          refine aw_goto (tgt := 52) K dX7_refuses_48 (by decide) ?_
          refine aw_iret K rfl dX7_refuses_52 ?_
          refine ⟨?_, rfl⟩
          rw [rfV, if_neg b8, if_pos b22, if_pos (Or.inr (fun q => b44 ((lg_cmp_lt _ _).mpr q)))]
    · refine aw_iconst (v := 3) K dX7_refuses_25 (by decide) ?_
      refine aw_goto (tgt := 52) K dX7_refuses_26 (by decide) ?_
      refine aw_iret K rfl dX7_refuses_52 ?_
      refine ⟨?_, rfl⟩
      rw [rfV, if_neg b8, if_neg b22]
  · refine aw_iconst (v := 1) K dX7_refuses_11 (by decide) ?_
    refine aw_goto (tgt := 52) K dX7_refuses_12 (by decide) ?_
    refine aw_iret K rfl dX7_refuses_52 ?_
    refine ⟨?_, rfl⟩
    rw [rfV, if_pos b8]

def fst4 (q : Nat → Int32) : Nat → Nat → Int32
  | 0, _ => 0
  | n + 1, c => if q c = 0 then fst4 q n (c + 1) else q c
def posV (f : Int32) (i c : Nat) : Int64 := f.toInt64 + (4 * nI i).toInt64 + (nI c).toInt64
def wyV (h : HS) (j : Nat) (b f : Int32) (i : Nat) : Int32 := fst4 (fun c => rfV h j b (posV f i c)) 4 0
def ckM (h : HS) (j m i : Nat) : Prop := ((0 ≤ h.1 27 (48 * j + m + 4 * i) ∧ h.1 27 (48 * j + m + 4 * i) ≤ h.1 0 0 - 1) ∧ (0 ≤ h.1 27 (48 * j + m + 4 * i + 1) ∧ h.1 27 (48 * j + m + 4 * i + 1) ≤ h.1 0 0 - 1) ∧ ¬ h.1 27 (48 * j + m + 4 * i) = h.1 27 (48 * j + m + 4 * i + 1) ∧ (0 ≤ h.1 27 (48 * j + m + 4 * i + 2) ∧ h.1 27 (48 * j + m + 4 * i + 2) ≤ 99) ∧ (0 ≤ h.1 27 (48 * j + m + 4 * i + 3) ∧ h.1 27 (48 * j + m + 4 * i + 3) ≤ 10)) ∧ h.1 3 (h.1 27 (48 * j + m + 4 * i)).toNatClampNeg = 0 ∧ h.1 0 27 + nI i < 24
def syS (h : HS) (j m : Nat) : Nat → HS
  | 0 => h
  | i + 1 => sayM (syS h j m i) ((syS h j m i).1 27 (48 * j + m + 4 * i)) ((syS h j m i).1 27 (48 * j + m + 4 * i + 1)) ((syS h j m i).1 27 (48 * j + m + 4 * i + 2)) ((syS h j m i).1 27 (48 * j + m + 4 * i + 3))
/-- what a reading leaves -/
def RdO (h : HS) (j : Nat) (b f : Int32) (m : Nat) (nn : Nat) (h' : HS) : Prop := (∃ i, i < nn ∧ (∀ q, q < i → wyV h j b f q = 0 ∧ ckM h j m q) ∧ wyV h j b f i = 0 ∧ ¬ ckM h j m i ∧ h' = h) ∨ (∃ i, i ≤ nn ∧ (∀ q, q < i → wyV h j b f q = 0 ∧ ckM h j m q) ∧ ((i = nn ∧ h' = setI (syS h j m i) 0 43 0) ∨ (i < nn ∧ ¬ wyV h j b f i = 0 ∧ h' = setI (syS h j m i) 0 43 (wyV h j b f i))))
theorem i64_lt (a b : Int32) : a.toInt64 < b.toInt64 ↔ a < b := by
  rw [Int64.lt_iff_toInt_lt, Int32.lt_iff_toInt_lt, Int32.toInt_toInt64, Int32.toInt_toInt64]
theorem pos_n {m i c : Nat} (hm : m < 2 ^ 31) (hi : i ≤ 12) (hc : c < 4) : posV (nI m) i c = lN (m + 4 * i + c) := by
  unfold posV
  rw [show (4 : Int32) * nI i = nI (4 * i) from (Int32.ofNat_mul 4 i).symm, nI_l hm, nI_l (by omega), nI_l (by omega), lN_add, lN_add]
theorem pos_neg {f : Int32} (hf : f < 0) : posV f 0 0 < 0 := by
  unfold posV
  rw [show (4 * nI 0).toInt64 = 0 by decide, show (nI 0).toInt64 = 0 by decide, Int64.add_zero, Int64.add_zero]
  exact (i64_lt f 0).mpr hf
theorem rf_n {h : HS} {j m i c z : Nat} (hz : h.1 26 j = nI z) (hz2 : z ≤ 48) (hm : m < 2 ^ 31) (hi : i ≤ 12) (hc : c < 4) : (posV (nI m) i c < 0 ∨ ¬ posV (nI m) i c < (h.1 26 j).toInt64) ↔ z ≤ m + 4 * i + c := by
  rw [pos_n hm hi hc, hz, nI_l (by omega), show (0 : Int64) = lN 0 from rfl, pk_lLT (by omega) (by omega), pk_lLT (by omega) (by omega)]
  omega
theorem fst4_0 {q : Nat → Int32} : ∀ n c, fst4 q n c = 0 → ∀ d, c ≤ d → d < c + n → q d = 0
  | 0, c, _, d, h1, h2 => by omega
  | n + 1, c, h, d, h1, h2 => by
    unfold fst4 at h
    by_cases z : q c = 0
    · rw [if_pos z] at h
      by_cases y : d = c
      · subst y
        exact z
      · exact fst4_0 n (c + 1) h d (by omega) (by omega)
    · rw [if_neg z] at h
      exact absurd h z
theorem fst4_v {q : Nat → Int32} {v : Int32} : ∀ n c, (∀ d, c ≤ d → d < c + n → q d = 0 ∨ q d = v) → (∃ d, c ≤ d ∧ d < c + n ∧ q d = v) → ¬ v = 0 → fst4 q n c = v
  | 0, c, _, ⟨d, h1, h2, _⟩, _ => by omega
  | n + 1, c, ha, ⟨d, h1, h2, h3⟩, hv => by
    unfold fst4
    by_cases z : q c = 0
    · rw [if_pos z]
      refine fst4_v n (c + 1) (fun e h4 h5 => ha e (by omega) (by omega)) ⟨d, ?_, by omega, h3⟩ hv
      rcases Nat.lt_or_ge c d with y | y
      · exact y
      · obtain rfl : d = c := by omega
        exact absurd (h3.symm.trans z) hv
    · rw [if_neg z]
      exact (ha c (Nat.le_refl _) (by omega)).resolve_left z
theorem fst4_z {q : Nat → Int32} : ∀ n c, (∀ d, c ≤ d → d < c + n → q d = 0) → fst4 q n c = 0
  | 0, _, _ => rfl
  | n + 1, c, ha => by
    unfold fst4
    rw [if_pos (ha c (Nat.le_refl _) (by omega))]
    exact fst4_z n (c + 1) (fun d h1 h2 => ha d (by omega) (by omega))
/-- a whole word lies within its sheet -/
theorem wy_in {h : HS} {j : Nat} {b f : Int32} {i : Nat} (hz : MZ h) (hj : j < 4) (hi : i ≤ 12) (hf : i = 0 ∨ ¬ f < 0) (e : wyV h j b f i = 0) : f = nI f.toNatClampNeg ∧ f.toNatClampNeg + 4 * i + 3 < 48 := by
  have a := fst4_0 4 0 e
  have a0 := a 0 (by decide) (by decide)
  have a3 := a 3 (by decide) (by decide)
  have hl : ¬ h.1 25 j = -4 := by
    intro q
    simp only [rfV, if_pos q] at a0
    exact absurd a0 (by decide)
  have hb : h.1 25 j = b := by
    apply Classical.byContradiction
    intro q
    simp only [rfV, if_neg hl, if_neg q] at a0
    exact absurd a0 (by decide)
  have hf2 : ¬ f < 0 := by
    rcases hf with rfl | hf
    · intro q
      simp only [rfV, if_neg hl, if_pos hb] at a0
      rw [if_pos (Or.inl (pos_neg q))] at a0
      exact absurd a0 (by decide)
    · exact hf
  obtain ⟨m, hm, rfl⟩ := nI_of hf2
  rcases hz j hj with q | ⟨z, hz2, ez⟩
  · exact absurd q hl
  · rw [nI_clamp hm]
    refine ⟨rfl, ?_⟩
    simp only [rfV, if_neg hl, if_pos hb] at a3
    have y : ¬ (posV (nI m) i 3 < 0 ∨ ¬ posV (nI m) i 3 < (h.1 26 j).toInt64) := by
      intro q
      rw [if_pos q] at a3
      exact absurd a3 (by decide)
    rw [rf_n ez hz2 hm hi (by decide)] at y
    omega
theorem sy_o {h : HS} {j m c : Nat} (hc : (c == 0 || c == 18 || c == 19 || c == 20 || c == 21 || c == 22) = false) : ∀ i, (syS h j m i).1 c = h.1 c
  | 0 => rfl
  | i + 1 => by
    have z := sy_o (h := h) (j := j) (m := m) hc i
    simp only [Bool.or_eq_false_iff, beq_eq_false_iff_ne] at hc
    obtain ⟨⟨⟨⟨⟨q0, q1⟩, q2⟩, q3⟩, q4⟩, q5⟩ := hc
    show (sayM _ _ _ _ _).1 c = _
    unfold sayM
    rw [setI_w q0, setI_w q5, setI_w q4, setI_w q3, setI_w q2, setI_w q1]
    exact z
theorem say_w {h : HS} {a b c e : Int32} : (sayM h a b c e).1 0 27 = h.1 0 27 + 1 := rfl
theorem sy_w {h : HS} {j m Wn : Nat} (hw : h.1 0 27 = nI Wn) : ∀ i, (syS h j m i).1 0 27 = nI (Wn + i)
  | 0 => hw
  | i + 1 => by
    show (sayM _ _ _ _ _).1 0 27 = _
    rw [say_w, sy_w hw i, nI_1]
    rfl
set_option maxHeartbeats 4000000 in
set_option maxRecDepth 100000 in
theorem lpcX7_read {l : Launch} {g : Geo} {sta : Nat → Nat} {k : KT} {P : Option Value → HS → Prop} (K : AOK (wM l g sta) mX7_read k) (h : HS) (j : Nat) (hj : j < 4) (b f : Int32) (nn : Nat) (wh i : Nat) (hk : ∀ x : Int32, AW (wM l g sta) P 7 mX7_read k 84 [some (.ref (g.2.1 0)), some (.int (nI j)), some (.int b), some (.int f), some (.int (nI nn)), some (.int (wyV h j b f i)), some (.int (nI wh)), some (.int (nI i)), some (.int x)] [] h) :
    ∀ (n c : Nat), c + n = 4 → fst4 (fun c => rfV h j b (posV f i c)) n c = wyV h j b f i → AW (wM l g sta) P 7 mX7_read k 47 [some (.ref (g.2.1 0)), some (.int (nI j)), some (.int b), some (.int f), some (.int (nI nn)), some (.int 0), some (.int (nI wh)), some (.int (nI i)), some (.int (nI c))] [] h := by
  intro n
  induction n with
  | zero =>
    intro c k1 k2
    obtain rfl : c = 4 := by omega
    have e0 : (0 : Int32) = wyV h j b f i := k2
    refine aw_il8 K dX7_read_47 ?_
    refine aw_iconst (v := 4) K dX7_read_49 (by decide) ?_
    refine aw_icmp_ge (tgt := 84) K dX7_read_50 (by decide) (fun b50 => ?_) (fun b50 => ?_)
    · have z := hk (nI 4)
      rw [← e0] at z
      exact z
    · exact absurd (by decide) b50
  | succ n ih =>
    intro c k1 k2
    refine aw_il8 K dX7_read_47 ?_
    refine aw_iconst (v := 4) K dX7_read_49 (by decide) ?_
    refine aw_icmp_ge (tgt := 84) K dX7_read_50 (by decide) (fun b50 => ?_) (fun b50 => ?_)
    · exact absurd b50 (nI_ge (b := 4) (by omega) (by decide))
    · refine aw_il5 K dX7_read_53 ?_
      refine aw_if_ne (tgt := 84) K dX7_read_55 (by decide) (fun b55 => ?_) (fun b55 => ?_)
      · exact absurd rfl b55
      · refine aw_al0 K dX7_read_58 ?_
        refine aw_il1 K dX7_read_59 ?_
        refine aw_il2 K dX7_read_60 ?_
        refine aw_il3 K dX7_read_61 ?_
        refine aw_i2l K dX7_read_62 ?_
        refine aw_iconst (v := 4) K dX7_read_63 (by decide) ?_
        refine aw_il7 K dX7_read_64 ?_
        refine aw_imul K dX7_read_66 ?_
        refine aw_i2l K dX7_read_67 ?_
        refine aw_ladd K dX7_read_68 ?_
        refine aw_il8 K dX7_read_69 ?_
        refine aw_i2l K dX7_read_71 ?_
        refine aw_ladd K dX7_read_72 ?_
        refine aw_callV_I K (tX7_refuses l g sta _ j hj b (posV f i c)) rfl (by decide) fX7_refuses lX7_329 dX7_read_73 rfl clsX7 rfl (Nat.le_of_ble_eq_true rfl) ?_
        refine aw_is5 K dX7_read_76 (by decide) rfl ?_
        refine aw_ii8 (v := _ + 1) K dX7_read_78 rfl (by decide) rfl ?_
        refine aw_goto (tgt := 47) K dX7_read_81 (by decide) ?_
        rw [nI_1]
        by_cases q : rfV h j b (posV f i c) = 0
        · rw [q]
          exact ih (c + 1) (by omega) (k2 ▸ (if_pos q).symm)
        · have e1 : rfV h j b (posV f i c) = wyV h j b f i := k2 ▸ (if_neg q).symm
          refine aw_il8 K dX7_read_47 ?_
          refine aw_iconst (v := 4) K dX7_read_49 (by decide) ?_
          refine aw_icmp_ge (tgt := 84) K dX7_read_50 (by decide) (fun b50 => ?_) (fun b50 => ?_)
          · rw [e1]
            exact hk _
          · refine aw_il5 K dX7_read_53 ?_
            refine aw_if_ne (tgt := 84) K dX7_read_55 (by decide) (fun b55 => ?_) (fun b55 => ?_)
            · rw [e1]
              exact hk _
            · exact absurd b55 q
theorem at48 (j m i : Nat) : (48 : Int32) * nI j + nI m + 4 * nI i = nI (48 * j + m + 4 * i) := by
  rw [ix48, at4]
set_option maxHeartbeats 4000000 in
set_option maxRecDepth 100000 in
theorem lp2X7_read {l : Launch} {g : Geo} {sta : Nat → Nat} {k : KT} (K : AOK (wM l g sta) mX7_read k) (h : HS) (j : Nat) (hj : j < 4) (b f : Int32) (nn : Nat) (y : Int32) (wh : Nat) (hwh : wh ≤ 12) {N T Wn : Nat} (H : MW h N T Wn) (hroom : Wn + wh ≤ 24) (hin : wh = 0 ∨ (f = nI f.toNatClampNeg ∧ f.toNatClampNeg + 4 * wh ≤ 48)) (hP : RdO h j b f f.toNatClampNeg nn (setI (syS h j f.toNatClampNeg wh) 0 43 y)) :
    ∀ (n i : Nat), i + n = wh → AW (wM l g sta) (fun o h' => (∃ r : Int32, o = some (.int r)) ∧ RdO h j b f f.toNatClampNeg nn h') 7 mX7_read k 191 [some (.ref (g.2.1 0)), some (.int (nI j)), some (.int b), some (.int f), some (.int (nI nn)), some (.int y), some (.int (nI wh)), some (.int (nI i)), none] [] (syS h j f.toNatClampNeg i) := by
  intro n
  induction n with
  | zero =>
    intro i k1
    obtain rfl : i = wh := by omega
    refine aw_il7 K dX7_read_191 ?_
    refine aw_il6 K dX7_read_193 ?_
    refine aw_icmp_ge (tgt := 255) K dX7_read_195 (by decide) (fun b195 => ?_) (fun b195 => ?_)
    · refine aw_al0 K dX7_read_255 ?_
      refine aw_il5 K dX7_read_256 ?_
      refine aw_putI K gX7_333 fpX7_43 dX7_read_258 rfl rfl ?_
      refine aw_il6 K dX7_read_261 ?_
      refine aw_iret K rfl dX7_read_263 ?_
      exact ⟨⟨_, rfl⟩, hP⟩
    · exact absurd (Int32.le_refl _) b195
  | succ n ih =>
    intro i k1
    obtain ⟨hf, hm⟩ := hin.resolve_left (by omega)
    have hc : vp_in ((syS h j f.toNatClampNeg i).1 0 27) 24 := by
      rw [sy_w H.2.2.1.1]
      exact vp_in_nI (by omega) (by decide)
    refine aw_il7 K dX7_read_191 ?_
    refine aw_il6 K dX7_read_193 ?_
    refine aw_icmp_ge (tgt := 255) K dX7_read_195 (by decide) (fun b195 => ?_) (fun b195 => ?_)
    · exact absurd b195 (nI_ge (by omega) (by omega))
    · refine aw_bipush (v := 48) K dX7_read_198 (by decide) ?_
      refine aw_il1 K dX7_read_200 ?_
      refine aw_imul K dX7_read_201 ?_
      refine aw_il3 K dX7_read_202 ?_
      refine aw_iadd K dX7_read_203 ?_
      refine aw_iconst (v := 4) K dX7_read_204 (by decide) ?_
      refine aw_il7 K dX7_read_205 ?_
      refine aw_imul K dX7_read_207 ?_
      refine aw_iadd K dX7_read_208 ?_
      rw [hf, at48, ← hf]
      refine aw_is8 K dX7_read_209 (by decide) rfl ?_
      refine aw_al0 K dX7_read_211 ?_
      refine aw_al0 K dX7_read_212 ?_
      refine aw_getR K gX7_89 dX7_read_213 rfl rfl ?_
      refine aw_il8 K dX7_read_216 ?_
      refine aw_iald K dX7_read_218 rfl (vp_in_nI (by omega) (by decide)) ?_
      refine aw_al0 K dX7_read_219 ?_
      refine aw_getR K gX7_89 dX7_read_220 rfl rfl ?_
      refine aw_il8 K dX7_read_223 ?_
      refine aw_iconst (v := 1) K dX7_read_225 (by decide) ?_
      refine aw_iadd K dX7_read_226 ?_
      rw [show (1 : Int32) = nI 1 from rfl, nI_add]
      refine aw_iald K dX7_read_227 rfl (vp_in_nI (by omega) (by decide)) ?_
      refine aw_al0 K dX7_read_228 ?_
      refine aw_getR K gX7_89 dX7_read_229 rfl rfl ?_
      refine aw_il8 K dX7_read_232 ?_
      refine aw_iconst (v := 2) K dX7_read_234 (by decide) ?_
      refine aw_iadd K dX7_read_235 ?_
      rw [show (2 : Int32) = nI 2 from rfl, nI_add]
      refine aw_iald K dX7_read_236 rfl (vp_in_nI (by omega) (by decide)) ?_
      refine aw_al0 K dX7_read_237 ?_
      refine aw_getR K gX7_89 dX7_read_238 rfl rfl ?_
      refine aw_il8 K dX7_read_241 ?_
      refine aw_iconst (v := 3) K dX7_read_243 (by decide) ?_
      refine aw_iadd K dX7_read_244 ?_
      rw [show (3 : Int32) = nI 3 from rfl, nI_add]
      refine aw_iald K dX7_read_245 rfl (vp_in_nI (by omega) (by decide)) ?_
      rw [nI_clamp (show 48 * j + f.toNatClampNeg + 4 * i < 2 ^ 31 by omega), nI_clamp (show 48 * j + f.toNatClampNeg + 4 * i + 1 < 2 ^ 31 by omega), nI_clamp (show 48 * j + f.toNatClampNeg + 4 * i + 2 < 2 ^ 31 by omega), nI_clamp (show 48 * j + f.toNatClampNeg + 4 * i + 3 < 2 ^ 31 by omega)]
      refine aw_callV_V K (tX7_says l g sta _ _ _ _ _ hc) rfl (by decide) fX7_says lX7_242 dX7_read_246 rfl clsX7 rfl (Nat.le_of_ble_eq_true rfl) ?_
      refine aw_ii7 (v := _ + 1) K dX7_read_249 rfl (by decide) rfl ?_
      refine aw_goto (tgt := 191) K dX7_read_252 (by decide) ?_
      rw [nI_1]
      refine aw_sub [some (.ref (g.2.1 0)), some (.int _), some (.int _), some (.int _), some (.int _), some (.int _), some (.int _), some (.int _), none] ⟨rfl, rfl, rfl, rfl, rfl, rfl, rfl, rfl, trivial⟩ ?_
      exact ih (i + 1) (by omega)
theorem rd_room {h : HS} {j : Nat} {b f : Int32} {wh N T Wn : Nat} (H : MW h N T Wn) (hz : MZ h) (hj : j < 4) (hw : wh ≤ 12) (ka : ∀ q, q < wh → wyV h j b f q = 0 ∧ ckM h j f.toNatClampNeg q) : Wn + wh ≤ 24 ∧ (wh = 0 ∨ (f = nI f.toNatClampNeg ∧ f.toNatClampNeg + 4 * wh ≤ 48)) := by
  have h3 := H.2.2.1.2
  cases wh with
  | zero => exact ⟨by omega, Or.inl rfl⟩
  | succ n =>
    have q := ka n (by omega)
    have y := (ka 0 (by omega)).1
    obtain ⟨z1, z2⟩ := wy_in hz hj (by omega) (Or.inl rfl) y
    have hf : ¬ f < 0 := by
      rw [z1]
      exact nI_pos (by omega)
    obtain ⟨y1, y2⟩ := wy_in hz hj (by omega) (Or.inr hf) q.1
    have u := q.2.2.2
    rw [H.2.2.1.1, nI_add] at u
    have := (nI_ltI (b := 24) (by omega) (by decide)).mp u
    exact ⟨by omega, Or.inr ⟨y1, by omega⟩⟩
set_option maxHeartbeats 4000000 in
set_option maxRecDepth 100000 in
theorem lp1X7_read {l : Launch} {g : Geo} {sta : Nat → Nat} {k : KT} (K : AOK (wM l g sta) mX7_read k) (h : HS) (j : Nat) (hj : j < 4) (b f : Int32) (nn : Nat) (hnn : nn ≤ 12) {N T Wn : Nat} (H : MW h N T Wn) (hz : MZ h) :
    ∀ (n i : Nat), i + n = nn → (∀ q, q < i → wyV h j b f q = 0 ∧ ckM h j f.toNatClampNeg q) → AW (wM l g sta) (fun o h' => (∃ r : Int32, o = some (.int r)) ∧ RdO h j b f f.toNatClampNeg nn h') 7 mX7_read k 32 [some (.ref (g.2.1 0)), some (.int (nI j)), some (.int b), some (.int f), some (.int (nI nn)), some (.int 0), some (.int (nI i)), some (.int (nI i)), none] [] h := by
  intro n
  induction n with
  | zero =>
    intro i k1 ka
    obtain rfl : i = nn := by omega
    have w1 := rd_room H hz hj hnn ka
    refine aw_il7 K dX7_read_32 ?_
    refine aw_il4 K dX7_read_34 ?_
    refine aw_icmp_ge (tgt := 188) K dX7_read_36 (by decide) (fun b36 => ?_) (fun b36 => ?_)
    · refine aw_iconst (v := 0) K dX7_read_188 (by decide) ?_
      refine aw_is7 K dX7_read_189 (by decide) rfl ?_
      exact lp2X7_read K h j hj b f i 0 i hnn H w1.1 w1.2 (Or.inr ⟨i, Nat.le_refl _, ka, Or.inl ⟨rfl, rfl⟩⟩) i 0 (by omega)
    · exact absurd (Int32.le_refl _) b36
  | succ n ih =>
    intro i k1 ka
    refine aw_il7 K dX7_read_32 ?_
    refine aw_il4 K dX7_read_34 ?_
    refine aw_icmp_ge (tgt := 188) K dX7_read_36 (by decide) (fun b36 => ?_) (fun b36 => ?_)
    · exact absurd b36 (nI_ge (by omega) (by omega))
    · refine aw_il5 K dX7_read_39 ?_
      refine aw_if_ne (tgt := 188) K dX7_read_41 (by decide) (fun b41 => ?_) (fun b41 => ?_)
      · exact absurd rfl b41
      · refine aw_iconst (v := 0) K dX7_read_44 (by decide) ?_
        refine aw_is8 K dX7_read_45 (by decide) rfl ?_
        refine lpcX7_read K h j hj b f nn i i (fun x => ?_) 4 0 rfl rfl
        refine aw_il5 K dX7_read_84 ?_
        refine aw_if_ne (tgt := 182) K dX7_read_86 (by decide) (fun b86 => ?_) (fun b86 => ?_)
        · skip
          refine aw_ii7 (v := _ + 1) K dX7_read_182 rfl (by decide) rfl ?_
          refine aw_goto (tgt := 32) K dX7_read_185 (by decide) ?_
          rw [nI_1]
          have w1 := rd_room H hz hj (show i ≤ 12 by omega) ka
          refine aw_il7 K dX7_read_32 ?_
          refine aw_il4 K dX7_read_34 ?_
          refine aw_icmp_ge (tgt := 188) K dX7_read_36 (by decide) (fun b36 => ?_) (fun b36 => ?_)
          · refine aw_iconst (v := 0) K dX7_read_188 (by decide) ?_
            refine aw_is7 K dX7_read_189 (by decide) rfl ?_
            refine aw_sub [some (.ref (g.2.1 0)), some (.int _), some (.int _), some (.int _), some (.int _), some (.int _), some (.int _), some (.int _), none] ⟨rfl, rfl, rfl, rfl, rfl, rfl, rfl, rfl, trivial⟩ ?_
            exact lp2X7_read K h j hj b f nn (wyV h j b f i) i (by omega) H w1.1 w1.2 (Or.inr ⟨i, by omega, ka, Or.inr ⟨by omega, b86, rfl⟩⟩) i 0 (by omega)
          · refine aw_il5 K dX7_read_39 ?_
            refine aw_if_ne (tgt := 188) K dX7_read_41 (by decide) (fun b41 => ?_) (fun b41 => ?_)
            · refine aw_iconst (v := 0) K dX7_read_188 (by decide) ?_
              refine aw_is7 K dX7_read_189 (by decide) rfl ?_
              refine aw_sub [some (.ref (g.2.1 0)), some (.int _), some (.int _), some (.int _), some (.int _), some (.int _), some (.int _), some (.int _), none] ⟨rfl, rfl, rfl, rfl, rfl, rfl, rfl, rfl, trivial⟩ ?_
              exact lp2X7_read K h j hj b f nn (wyV h j b f i) i (by omega) H w1.1 w1.2 (Or.inr ⟨i, by omega, ka, Or.inr ⟨by omega, b86, rfl⟩⟩) i 0 (by omega)
            · exact absurd b41 b86
        · have hf0 : i = 0 ∨ ¬ f < 0 := by
            rcases Nat.eq_zero_or_pos i with q | q
            · exact Or.inl q
            · right
              have y := (wy_in hz hj (by omega) (Or.inl rfl) (ka 0 q).1).1
              have y2 := (wy_in hz hj (by omega) (Or.inl rfl) (ka 0 q).1).2
              rw [y]
              exact nI_pos (by omega)
          obtain ⟨hf, hm⟩ := wy_in hz hj (by omega) hf0 b86
          refine aw_bipush (v := 48) K dX7_read_89 (by decide) ?_
          refine aw_il1 K dX7_read_91 ?_
          refine aw_imul K dX7_read_92 ?_
          refine aw_il3 K dX7_read_93 ?_
          refine aw_iadd K dX7_read_94 ?_
          refine aw_iconst (v := 4) K dX7_read_95 (by decide) ?_
          refine aw_il7 K dX7_read_96 ?_
          refine aw_imul K dX7_read_98 ?_
          refine aw_iadd K dX7_read_99 ?_
          rw [hf, at48, ← hf]
          refine aw_is8 K dX7_read_100 (by decide) rfl ?_
          refine aw_al0 K dX7_read_102 ?_
          refine aw_al0 K dX7_read_103 ?_
          refine aw_getR K gX7_89 dX7_read_104 rfl rfl ?_
          refine aw_il8 K dX7_read_107 ?_
          refine aw_iald K dX7_read_109 rfl (vp_in_nI (by omega) (by decide)) ?_
          refine aw_al0 K dX7_read_110 ?_
          refine aw_getR K gX7_89 dX7_read_111 rfl rfl ?_
          refine aw_il8 K dX7_read_114 ?_
          refine aw_iconst (v := 1) K dX7_read_116 (by decide) ?_
          refine aw_iadd K dX7_read_117 ?_
          rw [show (1 : Int32) = nI 1 from rfl, nI_add]
          refine aw_iald K dX7_read_118 rfl (vp_in_nI (by omega) (by decide)) ?_
          refine aw_al0 K dX7_read_119 ?_
          refine aw_getR K gX7_89 dX7_read_120 rfl rfl ?_
          refine aw_il8 K dX7_read_123 ?_
          refine aw_iconst (v := 2) K dX7_read_125 (by decide) ?_
          refine aw_iadd K dX7_read_126 ?_
          rw [show (2 : Int32) = nI 2 from rfl, nI_add]
          refine aw_iald K dX7_read_127 rfl (vp_in_nI (by omega) (by decide)) ?_
          refine aw_al0 K dX7_read_128 ?_
          refine aw_getR K gX7_89 dX7_read_129 rfl rfl ?_
          refine aw_il8 K dX7_read_132 ?_
          refine aw_iconst (v := 3) K dX7_read_134 (by decide) ?_
          refine aw_iadd K dX7_read_135 ?_
          rw [show (3 : Int32) = nI 3 from rfl, nI_add]
          refine aw_iald K dX7_read_136 rfl (vp_in_nI (by omega) (by decide)) ?_
          rw [nI_clamp (show 48 * j + f.toNatClampNeg + 4 * i < 2 ^ 31 by omega), nI_clamp (show 48 * j + f.toNatClampNeg + 4 * i + 1 < 2 ^ 31 by omega), nI_clamp (show 48 * j + f.toNatClampNeg + 4 * i + 2 < 2 ^ 31 by omega), nI_clamp (show 48 * j + f.toNatClampNeg + 4 * i + 3 < 2 ^ 31 by omega)]
          refine aw_callV_I K (tX7_isWord l g sta _ _ _ _ _) rfl (by decide) fX7_isWord lX7_238 dX7_read_137 rfl clsX7 rfl (Nat.le_of_ble_eq_true rfl) ?_
          refine aw_if_eq (tgt := 158) K dX7_read_140 (by decide) (fun b140 => ?_) (fun b140 => ?_)
          · refine aw_bipush (v := (-20)) K dX7_read_158 (by decide) ?_
            refine aw_il7 K dX7_read_160 ?_
            refine aw_isub K dX7_read_162 ?_
            refine aw_iret K rfl dX7_read_163 ?_
            exact ⟨⟨_, rfl⟩, Or.inl ⟨i, by omega, ka, b86, fun q => bI_0.mp b140 q.1, rfl⟩⟩
          · refine aw_al0 K dX7_read_143 ?_
            refine aw_getR K gX7_17 dX7_read_144 rfl rfl ?_
            refine aw_al0 K dX7_read_147 ?_
            refine aw_getR K gX7_89 dX7_read_148 rfl rfl ?_
            refine aw_il8 K dX7_read_151 ?_
            refine aw_iald K dX7_read_153 rfl (vp_in_nI (by omega) (by decide)) ?_
            rw [nI_clamp (show 48 * j + f.toNatClampNeg + 4 * i < 2 ^ 31 by omega)]
            refine aw_zald K dX7_read_154 rfl (inN H.1.1 H.1.2 (by decide) (bI_1.mp b140).1) ?_
            refine aw_if_eq (tgt := 164) K dX7_read_155 (by decide) (fun b155 => ?_) (fun b155 => ?_)
            · refine aw_al0 K dX7_read_164 ?_
              refine aw_getI K gX7_235 dX7_read_165 rfl rfl ?_
              refine aw_il7 K dX7_read_168 ?_
              refine aw_iadd K dX7_read_170 ?_
              refine aw_bipush (v := 24) K dX7_read_171 (by decide) ?_
              refine aw_icmp_lt (tgt := 179) K dX7_read_173 (by decide) (fun b173 => ?_) (fun b173 => ?_)
              · refine aw_ii6 (v := _ + 1) K dX7_read_179 rfl (by decide) rfl ?_
                refine aw_ii7 (v := _ + 1) K dX7_read_182 rfl (by decide) rfl ?_
                refine aw_goto (tgt := 32) K dX7_read_185 (by decide) ?_
                rw [nI_1]
                refine aw_sub [some (.ref (g.2.1 0)), some (.int (nI j)), some (.int b), some (.int f), some (.int (nI nn)), some (.int 0), some (.int (nI (i + 1))), some (.int (nI (i + 1))), none] ⟨rfl, rfl, rfl, rfl, rfl, b86.symm ▸ rfl, rfl, rfl, trivial⟩ ?_
                exact ih (i + 1) (by omega) (fun q hq => by
                  rcases Nat.lt_or_ge q i with z | z
                  · exact ka q z
                  · obtain rfl : q = i := by omega
                    exact ⟨b86, bI_1.mp b140, b155, b173⟩)
              · refine aw_bipush (v := (-3)) K dX7_read_176 (by decide) ?_
                refine aw_iret K rfl dX7_read_178 ?_
                exact ⟨⟨_, rfl⟩, Or.inl ⟨i, by omega, ka, b86, fun q => b173 q.2.2, rfl⟩⟩
            · refine aw_bipush (v := (-20)) K dX7_read_158 (by decide) ?_
              refine aw_il7 K dX7_read_160 ?_
              refine aw_isub K dX7_read_162 ?_
              refine aw_iret K rfl dX7_read_163 ?_
              exact ⟨⟨_, rfl⟩, Or.inl ⟨i, by omega, ka, b86, fun q => b155 q.2.1, rfl⟩⟩
def RdP (h : HS) (a b f n : Int32) (h' : HS) : Prop := if ((0 ≤ a ∧ a ≤ 3) ∧ (0 ≤ b ∧ b ≤ 2)) ∧ (0 ≤ n ∧ n ≤ 12) then RdO h a.toNatClampNeg b f f.toNatClampNeg n.toNatClampNeg h' else h' = h
set_option maxHeartbeats 4000000 in
set_option maxRecDepth 100000 in
theorem tX7_read (l : Launch) (g : Geo) (sta : Nat → Nat) (h : HS) (a b f n : Int32) {N T Wn : Nat} (H : MW h N T Wn) (hz : MZ h) : CT (wM l g sta) 7 mX7_read [.ref (g.2.1 0), .int a, .int b, .int f, .int n] h ((fun o h' => (∃ r : Int32, o = some (.int r)) ∧ RdP h a b f n h')) := by
  refine CT.at [some (.ref (g.2.1 0)), some (.int a), some (.int b), some (.int f), some (.int n), none, none, none, none] 4 rfl (by decide) (Nat.le_of_ble_eq_true rfl) (fun k K => ?_)
  refine aw_il1 K dX7_read_0 ?_
  refine aw_il2 K dX7_read_1 ?_
  refine aw_callS_I K (tX7_isSheet l g sta _ _ _) rfl (by decide) fX7_isSheet lX7_324 dX7_read_2 rfl (Nat.le_of_ble_eq_true rfl) ?_
  refine aw_if_eq (tgt := 21) K dX7_read_5 (by decide) (fun b5 => ?_) (fun b5 => ?_)
  · refine aw_iconst (v := (-1)) K dX7_read_21 (by decide) ?_
    refine aw_iret K rfl dX7_read_22 ?_
    exact ⟨⟨_, rfl⟩, by rw [RdP, if_neg (fun q => bI_0.mp b5 q.1)]⟩
  · refine aw_il4 K dX7_read_8 ?_
    refine aw_i2l K dX7_read_10 ?_
    refine aw_lconst (v := 0) K dX7_read_11 (by decide) ?_
    refine aw_ldc2 K qX7_327 dX7_read_12 ?_
    refine aw_callS_I K (in32 l g sta _ _ (0) (12) (by decide) (by decide)) rfl (by decide) fX7_in lX7_102 dX7_read_15 rfl (Nat.le_of_ble_eq_true rfl) ?_
    refine aw_if_ne (tgt := 23) K dX7_read_18 (by decide) (fun b18 => ?_) (fun b18 => ?_)
    · refine aw_iconst (v := 0) K dX7_read_23 (by decide) ?_
      refine aw_is5 K dX7_read_24 (by decide) rfl ?_
      refine aw_iconst (v := 0) K dX7_read_26 (by decide) ?_
      refine aw_is6 K dX7_read_27 (by decide) rfl ?_
      refine aw_iconst (v := 0) K dX7_read_29 (by decide) ?_
      refine aw_is7 K dX7_read_30 (by decide) rfl ?_
      have hall := And.intro (bI_1.mp b5) (bI_1.mp b18)
      obtain ⟨j, hj, rfl⟩ := sh_in (bI_1.mp b5).1
      obtain ⟨nn, hnn, rfl⟩ := vp_in_of (inB (M := 12) (by decide) (bI_1.mp b18)) (by decide)
      have e1 : ∀ h', RdP h (nI j) b f (nI nn) h' = RdO h j b f f.toNatClampNeg nn h' := fun h' => by
        rw [RdP, if_pos hall, nI_clamp (show j < 2 ^ 31 by omega), nI_clamp (show nn < 2 ^ 31 by omega)]
      simp only [e1]
      exact lp1X7_read K h j hj b f nn (by omega) H hz nn 0 (by omega) (fun q hq => absurd hq (Nat.not_lt_zero _))
    · refine aw_iconst (v := (-1)) K dX7_read_21 (by decide) ?_
      refine aw_iret K rfl dX7_read_22 ?_
      exact ⟨⟨_, rfl⟩, by rw [RdP, if_neg (fun q => bI_0.mp b18 q.2)]⟩

