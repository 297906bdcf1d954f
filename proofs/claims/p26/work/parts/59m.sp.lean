/-- the first of the greatest of q up to n -/
def amx (q : Nat → Nat) : Nat → Nat
  | 0 => 0
  | n + 1 => if q (amx q n) < q (n + 1) then n + 1 else amx q n
theorem amx_s (q : Nat → Nat) : ∀ n, amx q n ≤ n ∧ (∀ x, x ≤ n → q x ≤ q (amx q n)) ∧ ∀ x, x < amx q n → q x < q (amx q n)
  | 0 => ⟨Nat.le_refl _, fun x hx => by rw [show x = 0 by omega]; exact Nat.le_refl _, fun x hx => absurd hx (Nat.not_lt_zero _)⟩
  | n + 1 => by
    obtain ⟨h1, h2, h3⟩ := amx_s q n
    by_cases z : q (amx q n) < q (n + 1)
    · rw [show amx q (n + 1) = n + 1 from if_pos z]
      refine ⟨Nat.le_refl _, fun x hx => ?_, fun x hx => ?_⟩
      · by_cases y : x = n + 1
        · rw [y]
          exact Nat.le_refl _
        · have := h2 x (by omega)
          omega
      · have := h2 x (by omega)
        omega
    · rw [show amx q (n + 1) = amx q n from if_neg z]
      refine ⟨by omega, fun x hx => ?_, h3⟩
      by_cases y : x = n + 1
      · rw [y]
        omega
      · exact h2 x (by omega)
/-- the greatest k taken out, one after the other: their sum, what is left -/
def tkN (q : Nat → Nat) : Nat → Nat × (Nat → Nat)
  | 0 => (0, q)
  | k + 1 => ((tkN q k).1 + (tkN q k).2 (amx (tkN q k).2 11), fun x => if x = amx (tkN q k).2 11 then 0 else (tkN q k).2 x)
theorem tk_2 (q : Nat → Nat) (k x : Nat) : (tkN q (k + 1)).2 x = if x = amx (tkN q k).2 11 then 0 else (tkN q k).2 x := rfl
theorem tk_1 (q : Nat → Nat) (k : Nat) : (tkN q (k + 1)).1 = (tkN q k).1 + (tkN q k).2 (amx (tkN q k).2 11) := rfl
theorem tk_le (q : Nat → Nat) : ∀ k x, (tkN q k).2 x ≤ q x
  | 0, _ => Nat.le_refl _
  | k + 1, x => by
    rw [tk_2]
    split
    · exact Nat.zero_le _
    · exact tk_le q k x
theorem smN_rm {q : Nat → Nat} {a : Nat} : ∀ n, smN (fun x => if x = a then 0 else q x) n + (if a < n then q a else 0) = smN q n
  | 0 => rfl
  | n + 1 => by
    have h := smN_rm (q := q) (a := a) n
    show smN (fun x => if x = a then 0 else q x) n + (if n = a then 0 else q n) + (if a < n + 1 then q a else 0) = smN q n + q n
    by_cases z : n = a
    · subst z
      rw [if_neg (Nat.lt_irrefl n)] at h
      rw [if_pos rfl, if_pos (Nat.lt_succ_self n)]
      omega
    · rw [if_neg z]
      by_cases y : a < n
      · rw [if_pos y] at h
        rw [if_pos (show a < n + 1 by omega)]
        omega
      · rw [if_neg y] at h
        rw [if_neg (show ¬ a < n + 1 by omega)]
        omega
theorem tk_s (q : Nat → Nat) : ∀ k, (tkN q k).1 + smN (tkN q k).2 12 = smN q 12
  | 0 => Nat.zero_add _
  | k + 1 => by
    have h := tk_s q k
    have h2 := smN_rm (q := (tkN q k).2) (a := amx (tkN q k).2 11) 12
    rw [if_pos (by have := (amx_s (tkN q k).2 11).1; omega)] at h2
    rw [tk_1]
    show _ + smN (fun x => if x = amx (tkN q k).2 11 then 0 else (tkN q k).2 x) 12 = _
    omega
theorem tk_z {q : Nat → Nat} {r : Nat} (h : ∀ x, x < 12 → (tkN q r).2 x = 0) : ∀ d, (tkN q (r + d)).1 = (tkN q r).1 ∧ ∀ x, x < 12 → (tkN q (r + d)).2 x = 0
  | 0 => ⟨rfl, h⟩
  | d + 1 => by
    obtain ⟨h1, h2⟩ := tk_z h d
    have ha := (amx_s (tkN q (r + d)).2 11).1
    refine ⟨?_, fun x hx => ?_⟩
    · show (tkN q (r + d)).1 + (tkN q (r + d)).2 (amx (tkN q (r + d)).2 11) = _
      rw [h2 _ (by omega), h1]
      rfl
    · show (if x = amx (tkN q (r + d)).2 11 then 0 else (tkN q (r + d)).2 x) = 0
      rw [h2 x hx]
      split <;> rfl
set_option maxHeartbeats 4000000 in
set_option maxRecDepth 100000 in
theorem lr3X6_greatestStakes {l : Launch} {g : Geo} {sta : Nat → Nat} {k : KT} {P : Option Value → HS → Prop} (K : AOK (wX l g sta) mX6_greatestStakes k) (kk : Nat) (up s3 s4 : Int32) (h : HS) (p : Nat → Nat) (hb : ∀ x, x < 12 → p x < 2 ^ 31) (hs : ∀ x, x < 12 → h.1 15 x = nI (p x))
    (hk : AW (wX l g sta) P 1 mX6_greatestStakes k 105 [some (.ref (g.2.1 0)), some (.int (nI kk)), some (.int up), some (.int s3), some (.int s4), some (.int (nI (amx p 11))), none] [] h) :
    ∀ (n m : Nat), m + 1 + n = 12 → AW (wX l g sta) P 1 mX6_greatestStakes k 66 [some (.ref (g.2.1 0)), some (.int (nI kk)), some (.int up), some (.int s3), some (.int s4), some (.int (nI (amx p m))), some (.int (nI (m + 1)))] [] h := by
  intro n
  induction n with
  | zero =>
    intro m k1
    obtain rfl : m = 11 := by omega
    refine aw_il6 K dX6_greatestStakes_66 ?_
    refine aw_bipush (v := 12) K dX6_greatestStakes_68 (by decide) ?_
    refine aw_icmp_ge (tgt := 105) K dX6_greatestStakes_70 (by decide) (fun b70 => ?_) (fun b70 => ?_)
    · refine aw_sub [some (.ref (g.2.1 0)), some (.int _), some (.int up), some (.int s3), some (.int s4), some (.int _), none] ⟨rfl, rfl, rfl, rfl, rfl, rfl, trivial⟩ ?_
      exact hk
    · exact absurd (nI_le (a := 12) (by omega) (by omega)) b70
  | succ n ih =>
    intro m k1
    have am := (amx_s p m).1
    have b1 := hb (m + 1) (by omega)
    have b2 := hb (amx p m) (by omega)
    refine aw_il6 K dX6_greatestStakes_66 ?_
    refine aw_bipush (v := 12) K dX6_greatestStakes_68 (by decide) ?_
    refine aw_icmp_ge (tgt := 105) K dX6_greatestStakes_70 (by decide) (fun b70 => ?_) (fun b70 => ?_)
    · exact absurd b70 (nI_ge (b := 12) (by omega) (by omega))
    · refine aw_al0 K dX6_greatestStakes_73 ?_
      refine aw_getR K gX6_63 dX6_greatestStakes_74 rfl rfl ?_
      refine aw_il6 K dX6_greatestStakes_77 ?_
      refine aw_iald K dX6_greatestStakes_79 rfl (vp_in_nI (by omega) (by decide)) ?_
      rw [nI_clamp (show m + 1 < 2 ^ 31 by omega), hs (m + 1) (by omega)]
      refine aw_al0 K dX6_greatestStakes_80 ?_
      refine aw_getR K gX6_63 dX6_greatestStakes_81 rfl rfl ?_
      refine aw_il5 K dX6_greatestStakes_84 ?_
      refine aw_iald K dX6_greatestStakes_86 rfl (vp_in_nI (by omega) (by decide)) ?_
      rw [nI_clamp (show amx p m < 2 ^ 31 by omega), hs (amx p m) (by omega)]
      refine aw_icmp_le (tgt := 95) K dX6_greatestStakes_87 (by decide) (fun b87 => ?_) (fun b87 => ?_)
      · refine aw_il5 K dX6_greatestStakes_95 ?_
        refine aw_is5 K dX6_greatestStakes_97 (by decide) rfl ?_
        refine aw_ii6 (v := _ + 1) K dX6_greatestStakes_99 rfl (by decide) rfl ?_
        refine aw_goto (tgt := 66) K dX6_greatestStakes_102 (by decide) ?_
        rw [nI_1]
        have z := ih (m + 1) (by omega)
        rw [show amx p (m + 1) = amx p m from if_neg (by have := (nI_leI b1 b2).mp b87; omega)] at z
        exact z
      · refine aw_il6 K dX6_greatestStakes_90 ?_
        refine aw_goto (tgt := 97) K dX6_greatestStakes_92 (by decide) ?_
        refine aw_is5 K dX6_greatestStakes_97 (by decide) rfl ?_
        refine aw_ii6 (v := _ + 1) K dX6_greatestStakes_99 rfl (by decide) rfl ?_
        refine aw_goto (tgt := 66) K dX6_greatestStakes_102 (by decide) ?_
        rw [nI_1]
        have z := ih (m + 1) (by omega)
        rw [show amx p (m + 1) = m + 1 from if_pos (by
          rcases Nat.lt_or_ge (p (amx p m)) (p (m + 1)) with y | y
          · exact y
          · exact absurd ((nI_leI b1 b2).mpr y) b87)] at z
        exact z
set_option maxHeartbeats 4000000 in
set_option maxRecDepth 100000 in
theorem lr2X6_greatestStakes {l : Launch} {g : Geo} {sta : Nat → Nat} {k : KT} (K : AOK (wX l g sta) mX6_greatestStakes k) (h0 h1 : HS) (kk : Nat) (up : Int32) (q : Nat → Nat) (hkk : kk ≤ 3) (hb : ∀ x, x < 12 → q x < 2 ^ 31) :
    ∀ (n r : Nat) (h : HS), r + n = kk → XQ h0 h → h.1 13 = h1.1 13 → h.1 14 = h1.1 14 → (∀ x, x < 12 → h.1 15 x = nI ((tkN q r).2 x)) → AW (wX l g sta) (fun o h' => o = some (.int (nI (tkN q kk).1)) ∧ XQ h0 h' ∧ h'.1 13 = h1.1 13 ∧ h'.1 14 = h1.1 14) 1 mX6_greatestStakes k 54 [some (.ref (g.2.1 0)), some (.int (nI kk)), some (.int up), some (.int (nI (tkN q r).1)), some (.int (nI r)), none, none] [] h := by
  intro n
  induction n with
  | zero =>
    intro r h k1 hx e13 e14 hs
    obtain rfl : r = kk := by omega
    refine aw_il4 K dX6_greatestStakes_54 ?_
    refine aw_il1 K dX6_greatestStakes_56 ?_
    refine aw_icmp_ge (tgt := 129) K dX6_greatestStakes_57 (by decide) (fun b57 => ?_) (fun b57 => ?_)
    · refine aw_il3 K dX6_greatestStakes_129 ?_
      refine aw_iret K rfl dX6_greatestStakes_130 ?_
      exact ⟨rfl, hx, e13, e14⟩
    · exact absurd (Int32.le_refl _) b57
  | succ n ih =>
    intro r h k1 hx e13 e14 hs
    have am := (amx_s (tkN q r).2 11).1
    have ca := nI_clamp (show amx (tkN q r).2 11 < 2 ^ 31 by omega)
    refine aw_il4 K dX6_greatestStakes_54 ?_
    refine aw_il1 K dX6_greatestStakes_56 ?_
    refine aw_icmp_ge (tgt := 129) K dX6_greatestStakes_57 (by decide) (fun b57 => ?_) (fun b57 => ?_)
    · exact absurd b57 (nI_ge (by omega) (by omega))
    · refine aw_iconst (v := 0) K dX6_greatestStakes_60 (by decide) ?_
      refine aw_is5 K dX6_greatestStakes_61 (by decide) rfl ?_
      refine aw_iconst (v := 1) K dX6_greatestStakes_63 (by decide) ?_
      refine aw_is6 K dX6_greatestStakes_64 (by decide) rfl ?_
      refine lr3X6_greatestStakes K kk up _ _ h (tkN q r).2 (fun x hx => Nat.lt_of_le_of_lt (tk_le q r x) (hb x hx)) hs ?_ 11 0 (by omega)
      refine aw_il3 K dX6_greatestStakes_105 ?_
      refine aw_al0 K dX6_greatestStakes_106 ?_
      refine aw_getR K gX6_63 dX6_greatestStakes_107 rfl rfl ?_
      refine aw_il5 K dX6_greatestStakes_110 ?_
      refine aw_iald K dX6_greatestStakes_112 rfl (vp_in_nI (by omega) (by decide)) ?_
      rw [ca, hs _ (by omega)]
      refine aw_iadd K dX6_greatestStakes_113 ?_
      rw [nI_add]
      refine aw_is3 K dX6_greatestStakes_114 (by decide) rfl ?_
      refine aw_al0 K dX6_greatestStakes_115 ?_
      refine aw_getR K gX6_63 dX6_greatestStakes_116 rfl rfl ?_
      refine aw_il5 K dX6_greatestStakes_119 ?_
      refine aw_iconst (v := 0) K dX6_greatestStakes_121 (by decide) ?_
      refine aw_iast K dX6_greatestStakes_122 rfl (vp_in_nI (by omega) (by decide)) ?_
      refine aw_ii4 (v := _ + 1) K dX6_greatestStakes_123 rfl (by decide) rfl ?_
      refine aw_goto (tgt := 54) K dX6_greatestStakes_126 (by decide) ?_
      rw [nI_1, ca]
      refine aw_sub [some (.ref (g.2.1 0)), some (.int _), some (.int up), some (.int _), some (.int _), none, none] ⟨rfl, rfl, rfl, rfl, rfl, trivial⟩ ?_
      refine ih (r + 1) _ (by omega) (hx.pt rfl (by decide)) e13 e14 (fun x hx => ?_)
      rw [rdI, tk_2]
      by_cases z : x = amx (tkN q r).2 11
      · rw [if_pos ⟨rfl, z⟩, if_pos z]
        exact nI_0.symm
      · rw [if_neg (fun y => z y.2), if_neg z]
        exact hs x hx
set_option maxHeartbeats 4000000 in
set_option maxRecDepth 100000 in
theorem lr1X6_greatestStakes {l : Launch} {g : Geo} {sta : Nat → Nat} {k : KT} (K : AOK (wX l g sta) mX6_greatestStakes k) (h0 h1 : HS) (kk : Nat) (up : Int32) (q : Nat → Nat) (hkk : kk ≤ 3) (hb : ∀ x, x < 12 → q x < 2 ^ 31) (hq : ∀ x, x < 12 → h1.1 13 x * (if up = 0 then h1.1 14 x else 10 - h1.1 14 x) = nI (q x)) :
    ∀ (n i : Nat) (h : HS), i + n = 12 → XQ h0 h → h.1 13 = h1.1 13 → h.1 14 = h1.1 14 → (∀ x, x < i → h.1 15 x = nI (q x)) → AW (wX l g sta) (fun o h' => o = some (.int (nI (tkN q kk).1)) ∧ XQ h0 h' ∧ h'.1 13 = h1.1 13 ∧ h'.1 14 = h1.1 14) 1 mX6_greatestStakes k 2 [some (.ref (g.2.1 0)), some (.int (nI kk)), some (.int up), some (.int (nI i)), none, none, none] [] h := by
  intro n
  induction n with
  | zero =>
    intro i h k1 hx e13 e14 hs
    obtain rfl : i = 12 := by omega
    refine aw_il3 K dX6_greatestStakes_2 ?_
    refine aw_bipush (v := 12) K dX6_greatestStakes_3 (by decide) ?_
    refine aw_icmp_ge (tgt := 49) K dX6_greatestStakes_5 (by decide) (fun b5 => ?_) (fun b5 => ?_)
    · refine aw_iconst (v := 0) K dX6_greatestStakes_49 (by decide) ?_
      refine aw_is3 K dX6_greatestStakes_50 (by decide) rfl ?_
      refine aw_iconst (v := 0) K dX6_greatestStakes_51 (by decide) ?_
      refine aw_is4 K dX6_greatestStakes_52 (by decide) rfl ?_
      exact lr2X6_greatestStakes K h0 h1 kk up q hkk hb kk 0 h (by omega) hx e13 e14 hs
    · exact absurd (Int32.le_refl _) b5
  | succ n ih =>
    intro i h k1 hx e13 e14 hs
    have vq := hq i (by omega)
    refine aw_il3 K dX6_greatestStakes_2 ?_
    refine aw_bipush (v := 12) K dX6_greatestStakes_3 (by decide) ?_
    refine aw_icmp_ge (tgt := 49) K dX6_greatestStakes_5 (by decide) (fun b5 => ?_) (fun b5 => ?_)
    · exact absurd b5 (nI_ge (b := 12) (by omega) (by omega))
    · refine aw_al0 K dX6_greatestStakes_8 ?_
      refine aw_getR K gX6_63 dX6_greatestStakes_9 rfl rfl ?_
      refine aw_il3 K dX6_greatestStakes_12 ?_
      refine aw_al0 K dX6_greatestStakes_13 ?_
      refine aw_getR K gX6_57 dX6_greatestStakes_14 rfl rfl ?_
      refine aw_il3 K dX6_greatestStakes_17 ?_
      refine aw_iald K dX6_greatestStakes_18 rfl (vp_in_nI (by omega) (by decide)) ?_
      refine aw_il2 K dX6_greatestStakes_19 ?_
      refine aw_if_eq (tgt := 35) K dX6_greatestStakes_20 (by decide) (fun b20 => ?_) (fun b20 => ?_)
      · refine aw_al0 K dX6_greatestStakes_35 ?_
        refine aw_getR K gX6_60 dX6_greatestStakes_36 rfl rfl ?_
        refine aw_il3 K dX6_greatestStakes_39 ?_
        refine aw_iald K dX6_greatestStakes_40 rfl (vp_in_nI (by omega) (by decide)) ?_
        refine aw_imul K dX6_greatestStakes_41 ?_
        rw [if_pos b20] at vq
        rw [nI_clamp (show i < 2 ^ 31 by omega), e13, e14, vq]
        refine aw_iast K dX6_greatestStakes_42 rfl (vp_in_nI (by omega) (by decide)) ?_
        refine aw_ii3 (v := _ + 1) K dX6_greatestStakes_43 rfl (by decide) rfl ?_
        refine aw_goto (tgt := 2) K dX6_greatestStakes_46 (by decide) ?_
        rw [nI_1, nI_clamp (show i < 2 ^ 31 by omega)]
        refine ih (i + 1) _ (by omega) (hx.pt rfl (by decide)) e13 e14 (fun x hx => ?_)
        rw [rdI]
        by_cases z : x = i
        · rw [if_pos ⟨rfl, z⟩, z]
        · rw [if_neg (fun y => z y.2)]
          exact hs x (by omega)
      · refine aw_bipush (v := 10) K dX6_greatestStakes_23 (by decide) ?_
        refine aw_al0 K dX6_greatestStakes_25 ?_
        refine aw_getR K gX6_60 dX6_greatestStakes_26 rfl rfl ?_
        refine aw_il3 K dX6_greatestStakes_29 ?_
        refine aw_iald K dX6_greatestStakes_30 rfl (vp_in_nI (by omega) (by decide)) ?_
        refine aw_isub K dX6_greatestStakes_31 ?_
        refine aw_goto (tgt := 41) K dX6_greatestStakes_32 (by decide) ?_
        refine aw_imul K dX6_greatestStakes_41 ?_
        rw [if_neg b20] at vq
        rw [nI_clamp (show i < 2 ^ 31 by omega), e13, e14, vq]
        refine aw_iast K dX6_greatestStakes_42 rfl (vp_in_nI (by omega) (by decide)) ?_
        refine aw_ii3 (v := _ + 1) K dX6_greatestStakes_43 rfl (by decide) rfl ?_
        refine aw_goto (tgt := 2) K dX6_greatestStakes_46 (by decide) ?_
        rw [nI_1, nI_clamp (show i < 2 ^ 31 by omega)]
        refine ih (i + 1) _ (by omega) (hx.pt rfl (by decide)) e13 e14 (fun x hx => ?_)
        rw [rdI]
        by_cases z : x = i
        · rw [if_pos ⟨rfl, z⟩, z]
        · rw [if_neg (fun y => z y.2)]
          exact hs x (by omega)
set_option maxHeartbeats 4000000 in
set_option maxRecDepth 100000 in
theorem eX6_greatestStakes (l : Launch) (g : Geo) (sta : Nat → Nat) (h : HS) (kk : Nat) (up : Int32) (q : Nat → Nat) (hkk : kk ≤ 3) (hb : ∀ x, x < 12 → q x < 2 ^ 31) (hq : ∀ x, x < 12 → h.1 13 x * (if up = 0 then h.1 14 x else 10 - h.1 14 x) = nI (q x)) (h0 : HS) (hx : XQ h0 h) : CT (wX l g sta) 1 mX6_greatestStakes [.ref (g.2.1 0), .int (nI kk), .int up] h ((fun o h' => o = some (.int (nI (tkN q kk).1)) ∧ XQ h0 h' ∧ h'.1 13 = h.1 13 ∧ h'.1 14 = h.1 14)) := by
  refine CT.at [some (.ref (g.2.1 0)), some (.int (nI kk)), some (.int up), none, none, none, none] 4 rfl (by decide) (Nat.le_of_ble_eq_true rfl) (fun k K => ?_)
  refine aw_iconst (v := 0) K dX6_greatestStakes_0 (by decide) ?_
  refine aw_is3 K dX6_greatestStakes_1 (by decide) rfl ?_
  exact lr1X6_greatestStakes K h0 h kk up q hkk hb hq 12 0 h (by omega) hx rfl rfl (fun x hx => absurd hx (Nat.not_lt_zero _))

theorem cn_sj {s : Int32} {j : Nat} : ∀ n, j < cn s n → ∃ x, x < n ∧ bt s x = true ∧ cn s x = j
  | 0, h => absurd h (Nat.not_lt_zero _)
  | n + 1, h => by
    cases q : bt s n
    · rw [cn_n q] at h
      obtain ⟨x, h1, h2⟩ := cn_sj n h
      exact ⟨x, by omega, h2⟩
    · rw [cn_1 q] at h
      by_cases z : j = cn s n
      · exact ⟨n, Nat.lt_succ_self n, q, z.symm⟩
      · obtain ⟨x, h1, h2⟩ := cn_sj n (show j < cn s n by omega)
        exact ⟨x, by omega, h2⟩
theorem cn_inj {s : Int32} {x y : Nat} (hx : bt s x = true) (hy : bt s y = true) (e : cn s x = cn s y) : x = y := by
  rcases Nat.lt_trichotomy x y with q | q | q
  · have := cn_lt hx y q
    omega
  · exact q
  · have := cn_lt hy x q
    omega
theorem cn_all {m : Int32} : ∀ L, (∀ j, j < L → bt m j = true) → cn m L = L
  | 0, _ => rfl
  | L + 1, h => by rw [cn_1 (h L (by omega)), cn_all L (fun j hj => h j (by omega))]
theorem cn_full {m : Int32} : ∀ L, cn m L = L → ∀ j, j < L → bt m j = true
  | 0, _, j, hj => absurd hj (Nat.not_lt_zero _)
  | L + 1, h, j, hj => by
    have c := cn_le m L
    cases q : bt m L
    · rw [cn_n q] at h
      omega
    · rw [cn_1 q] at h
      by_cases z : j = L
      · rw [z]
        exact q
      · exact cn_full L (by omega) j (by omega)
theorem or1_b {m : Int32} {i j : Nat} (hi : i < 32) (hj : j < 32) : bt (m ||| (1 : Int32) <<< (nI j &&& 31)) i = (bt m i || decide (i = j)) := by rw [b_or, b_sh1 hj hi]
theorem cn_or {m : Int32} {j : Nat} (h : bt m j = false) (hj : j < 32) : ∀ L, L ≤ 32 → cn (m ||| (1 : Int32) <<< (nI j &&& 31)) L = cn m L + (if j < L then 1 else 0)
  | 0, _ => rfl
  | L + 1, hL => by
    have ih := cn_or h hj L (by omega)
    have e := or1_b (m := m) (i := L) (j := j) (by omega) hj
    by_cases z : L = j
    · subst z
      rw [decide_eq_true rfl, Bool.or_true] at e
      rw [cn_1 e, cn_n h, ih, if_neg (Nat.lt_irrefl L), if_pos (Nat.lt_succ_self L)]
    · rw [decide_eq_false z, Bool.or_false] at e
      have c : (if j < L + 1 then 1 else 0) = (if j < L then 1 else 0) := by
        by_cases y : j < L
        · rw [if_pos y, if_pos (by omega)]
        · rw [if_neg y, if_neg (by omega)]
      rw [c]
      cases y : bt m L
      · rw [y] at e
        rw [cn_n e, cn_n y, ih]
      · rw [y] at e
        rw [cn_1 e, cn_1 y, ih]
        omega
/-- the best so far of those not taken -/
def IS (m S : Int32) (N : Nat) (q : Nat → Nat) (j : Nat) (be mo : Int32) : Prop := ((∀ x, x < N → bt S x = true → cn S x < j → bt m (cn S x) = true) ∧ be = -4 ∧ mo = -1) ∨ ∃ y, y < N ∧ bt S y = true ∧ cn S y < j ∧ bt m (cn S y) = false ∧ be = nI (cn S y) ∧ mo = nI (q y) ∧ ∀ x, x < N → bt S x = true → cn S x < j → bt m (cn S x) = false → q x ≤ q y ∧ (x < y → q x < q y)
theorem IS.z {m S : Int32} {N : Nat} {q : Nat → Nat} : IS m S N q 0 (-4) (-1) := Or.inl ⟨fun x _ _ h => absurd h (Nat.not_lt_zero _), rfl, rfl⟩
theorem IS.tk {m S : Int32} {N : Nat} {q : Nat → Nat} {j : Nat} {be mo : Int32} (i : IS m S N q j be mo) (t : bt m j = true) : IS m S N q (j + 1) be mo := by
  rcases i with ⟨h1, h2, h3⟩ | ⟨y, y1, y2, y3, y4, y5, y6, y7⟩
  · refine Or.inl ⟨fun x hx bx cx => ?_, h2, h3⟩
    by_cases z : cn S x = j
    · rw [z]
      exact t
    · exact h1 x hx bx (by omega)
  · refine Or.inr ⟨y, y1, y2, by omega, y4, y5, y6, fun x hx bx cx ux => ?_⟩
    by_cases z : cn S x = j
    · rw [z, t] at ux
      cases ux
    · exact y7 x hx bx (by omega) ux
theorem IS.le {m S : Int32} {N : Nat} {q : Nat → Nat} {j x : Nat} {be mo : Int32} (i : IS m S N q j be mo) (hB : ∀ x, x < N → q x < 2 ^ 31) (hx : x < N) (bx : bt S x = true) (cx : cn S x = j) (le : nI (q x) ≤ mo) : IS m S N q (j + 1) be mo := by
  rcases i with ⟨h1, h2, h3⟩ | ⟨y, y1, y2, y3, y4, y5, y6, y7⟩
  · rw [h3] at le
    exact absurd (Int32.le_trans (nI_pos' (hB x hx)) le) (by decide)
  · rw [y6] at le
    have l1 := (nI_leI (hB x hx) (hB y y1)).mp le
    refine Or.inr ⟨y, y1, y2, by omega, y4, y5, y6, fun u hu bu cu uu => ?_⟩
    by_cases z : cn S u = j
    · have e : u = x := cn_inj bu bx (by omega)
      subst e
      refine ⟨l1, fun lt => ?_⟩
      have := cn_lt bx y lt
      omega
    · exact y7 u hu bu (by omega) uu
theorem IS.gt {m S : Int32} {N : Nat} {q : Nat → Nat} {j x : Nat} {be mo : Int32} (i : IS m S N q j be mo) (hB : ∀ x, x < N → q x < 2 ^ 31) (hx : x < N) (bx : bt S x = true) (cx : cn S x = j) (t : bt m j = false) (gt : ¬ nI (q x) ≤ mo) : IS m S N q (j + 1) (nI j) (nI (q x)) := by
  refine Or.inr ⟨x, hx, bx, by omega, by rw [cx]; exact t, by rw [cx], rfl, fun u hu bu cu uu => ?_⟩
  by_cases z : cn S u = j
  · have e : u = x := cn_inj bu bx (by omega)
    subst e
    exact ⟨Nat.le_refl _, fun lt => absurd lt (Nat.lt_irrefl _)⟩
  · rcases i with ⟨h1, h2, h3⟩ | ⟨y, y1, y2, y3, y4, y5, y6, y7⟩
    · rw [h1 u hu bu (by omega)] at uu
      cases uu
    · have l1 := (y7 u hu bu (by omega) uu).1
      have l2 : ¬ q x ≤ q y := fun y' => gt (by rw [y6]; exact (nI_leI (hB x hx) (hB y y1)).mpr y')
      exact ⟨by omega, fun _ => by omega⟩
/-- what is taken, behind r rounds -/
def OS (m S : Int32) (N : Nat) (q : Nat → Nat) (r : Nat) : Prop := (∀ x, x < N → bt S x = true → (tkN q r).2 x = if bt m (cn S x) = true then 0 else q x) ∧ cn m (cn S N) = r
theorem OS.z {S : Int32} {N : Nat} {q : Nat → Nat} : OS 0 S N q 0 := by
  refine ⟨fun x _ _ => ?_, ?_⟩
  · rw [if_neg (by rw [b_0]; decide)]
    rfl
  · have e : ∀ n, cn 0 n = 0 := by
      intro n
      induction n with
      | zero => rfl
      | succ n ih => rw [cn_n (b_0 n), ih]
    exact e _
theorem rnd {m S : Int32} {N : Nat} {q : Nat → Nat} {r : Nat} {be mo : Int32} (hN : N ≤ 12) (hS : ∀ x, x < 32 → bt S x = true → x < N) (hz : ∀ x, x < 12 → bt S x = false → q x = 0) (o : OS m S N q r) (hr : r < cn S N) (i : IS m S N q (cn S N) be mo) : ∃ c, be = nI c ∧ mo = nI ((tkN q r).2 (amx (tkN q r).2 11)) ∧ OS (m ||| (1 : Int32) <<< (nI c &&& 31)) S N q (r + 1) := by
  have cN := cn_le S N
  rcases i with ⟨h1, h2, h3⟩ | ⟨y, y1, y2, y3, y4, y5, y6, y7⟩
  · have z := cn_all (m := m) (cn S N) (fun j hj => by
      obtain ⟨x, x1, x2, x3⟩ := cn_sj N hj
      rw [← x3]
      exact h1 x x1 x2 (by omega))
    have z2 := o.2
    omega
  · obtain ⟨a1, a2, a3⟩ := amx_s (tkN q r).2 11
    have py : (tkN q r).2 y = q y := by rw [o.1 y y1 y2, if_neg (by rw [y4]; decide)]
    have le1 := a2 y (by omega)
    have pos : 0 < (tkN q r).2 (amx (tkN q r).2 11) → amx (tkN q r).2 11 = y := by
      intro p0
      have l0 := tk_le q r (amx (tkN q r).2 11)
      have bS : bt S (amx (tkN q r).2 11) = true := by
        cases u : bt S (amx (tkN q r).2 11)
        · have := hz _ (by omega) u
          omega
        · rfl
      have aN := hS _ (by omega) bS
      have e := o.1 _ aN bS
      have ut : bt m (cn S (amx (tkN q r).2 11)) = false := by
        cases u : bt m (cn S (amx (tkN q r).2 11))
        · rfl
        · rw [u, if_pos rfl] at e
          omega
      rw [ut, if_neg (by decide)] at e
      obtain ⟨l1, l2⟩ := y7 _ aN bS (cn_lt bS N aN) ut
      rcases Nat.lt_trichotomy (amx (tkN q r).2 11) y with u | u | u
      · have := l2 u
        omega
      · exact u
      · have := a3 y u
        omega
    have em : (tkN q r).2 (amx (tkN q r).2 11) = q y := by
      rcases Nat.eq_zero_or_pos ((tkN q r).2 (amx (tkN q r).2 11)) with u | u
      · omega
      · rw [pos u, py]
    have c32 : ∀ x, x < N → bt S x = true → cn S x < 32 := fun x h1 h2 => by have := cn_lt h2 N h1; omega
    refine ⟨cn S y, y5, by rw [em]; exact y6, fun x hx bx => ?_, ?_⟩
    · rw [tk_2, o.1 x hx bx, or1_b (c32 x hx bx) (c32 y y1 y2)]
      by_cases z : x = y
      · subst z
        rw [decide_eq_true rfl, Bool.or_true, show (if true = true then 0 else q x) = 0 from if_pos rfl, show (if bt m (cn S x) = true then 0 else q x) = q x from if_neg (by rw [y4]; decide)]
        rcases Nat.eq_zero_or_pos ((tkN q r).2 (amx (tkN q r).2 11)) with u | u
        · split
          · rfl
          · omega
        · rw [if_pos (pos u).symm]
      · have nc : ¬ cn S x = cn S y := fun e => z (cn_inj bx y2 e)
        rw [decide_eq_false nc, Bool.or_false]
        by_cases w : x = amx (tkN q r).2 11
        · rw [if_pos w]
          rcases Nat.eq_zero_or_pos ((tkN q r).2 (amx (tkN q r).2 11)) with u | u
          · rw [← w, o.1 x hx bx] at u
            exact u.symm
          · exact absurd (w.trans (pos u)) z
        · rw [if_neg w]
    · rw [cn_or y4 (c32 y y1 y2) _ (by omega), if_pos y3, o.2]
theorem OS.end {m S : Int32} {N : Nat} {q : Nat → Nat} {r : Nat} (hN : N ≤ 12) (hS : ∀ x, x < 32 → bt S x = true → x < N) (hz : ∀ x, x < 12 → bt S x = false → q x = 0) (o : OS m S N q r) (hr : cn S N ≤ r) : ∀ x, x < 12 → (tkN q r).2 x = 0 := by
  intro x hx
  have c := cn_le m (cn S N)
  have f := cn_full (m := m) (cn S N) (by have := o.2; omega)
  cases u : bt S x
  · have := tk_le q r x
    have := hz x hx u
    omega
  · have xN := hS x (by omega) u
    rw [o.1 x xN u, if_pos (f _ (cn_lt u N xN))]
set_option maxHeartbeats 4000000 in
set_option maxRecDepth 100000 in
theorem lr2X7_moved {l : Launch} {g : Geo} {sta : Nat → Nat} {k : KT} {P : Option Value → HS → Prop} (K : AOK (wM l g sta) mX7_moved k) (h : HS) (kk : Nat) (dn m al it : Int32) (S : Int32) (N : Nat) (q : Nat → Nat) (hN : N ≤ 12) (hS : ∀ x, x < 32 → bt S x = true → x < N) (e33 : h.1 0 33 = nI (cn S N)) (hq : ∀ x, x < N → bt S x = true → h.1 23 (cn S x) * (if dn = 0 then 10 - h.1 24 (cn S x) else h.1 24 (cn S x)) = nI (q x)) (hB : ∀ x, x < 12 → q x < 2 ^ 31) (hz : ∀ x, x < 12 → bt S x = false → q x = 0)
    (hk : ∀ be mo : Int32, IS m S N q (cn S N) be mo → AW (wM l g sta) P 1 mX7_moved k 133 [some (.ref (g.2.1 0)), some (.int (nI kk)), some (.int dn), some (.int m), some (.int al), some (.int it), some (.int be), some (.int mo), none, none, none] [] h) :
    ∀ (n j : Nat) (be mo : Int32), j + n = cn S N → IS m S N q j be mo → AW (wM l g sta) P 1 mX7_moved k 33 [some (.ref (g.2.1 0)), some (.int (nI kk)), some (.int dn), some (.int m), some (.int al), some (.int it), some (.int be), some (.int mo), some (.int (nI j)), none, none] [] h := by
  intro n
  have cN := cn_le S N
  have hB' : ∀ x, x < N → q x < 2 ^ 31 := fun x hx => hB x (by omega)
  induction n with
  | zero =>
    intro j be mo k1 is
    obtain rfl : j = cn S N := by omega
    refine aw_il8 K dX7_moved_33 ?_
    refine aw_al0 K dX7_moved_35 ?_
    refine aw_getI K gX7_262 dX7_moved_36 rfl rfl ?_
    rw [e33]
    refine aw_icmp_ge (tgt := 133) K dX7_moved_39 (by decide) (fun b39 => ?_) (fun b39 => ?_)
    · refine aw_sub [some (.ref (g.2.1 0)), some (.int _), some (.int _), some (.int _), some (.int _), some (.int _), some (.int _), some (.int _), none, none, none] ⟨rfl, rfl, rfl, rfl, rfl, rfl, rfl, rfl, trivial⟩ ?_
      exact hk _ _ is
    · exact absurd (Int32.le_refl _) b39
  | succ n ih =>
    intro j be mo k1 is
    obtain ⟨x, hx, bx, cx⟩ := cn_sj N (show j < cn S N by omega)
    have vq := hq x hx bx
    rw [cx] at vq
    refine aw_il8 K dX7_moved_33 ?_
    refine aw_al0 K dX7_moved_35 ?_
    refine aw_getI K gX7_262 dX7_moved_36 rfl rfl ?_
    rw [e33]
    refine aw_icmp_ge (tgt := 133) K dX7_moved_39 (by decide) (fun b39 => ?_) (fun b39 => ?_)
    · exact absurd b39 (nI_ge (by omega) (by omega))
    · refine aw_al0 K dX7_moved_42 ?_
      refine aw_getR K gX7_77 dX7_moved_43 rfl rfl ?_
      refine aw_il8 K dX7_moved_46 ?_
      refine aw_iald K dX7_moved_48 rfl (vp_in_nI (by omega) (by decide)) ?_
      refine aw_il2 K dX7_moved_49 ?_
      refine aw_if_eq (tgt := 63) K dX7_moved_50 (by decide) (fun b50 => ?_) (fun b50 => ?_)
      · refine aw_bipush (v := 10) K dX7_moved_63 (by decide) ?_
        refine aw_al0 K dX7_moved_65 ?_
        refine aw_getR K gX7_80 dX7_moved_66 rfl rfl ?_
        refine aw_il8 K dX7_moved_69 ?_
        refine aw_iald K dX7_moved_71 rfl (vp_in_nI (by omega) (by decide)) ?_
        refine aw_isub K dX7_moved_72 ?_
        refine aw_imul K dX7_moved_73 ?_
        rw [if_pos b50] at vq
        rw [nI_clamp (show j < 2 ^ 31 by omega), vq]
        refine aw_is9 K dX7_moved_74 (by decide) rfl ?_
        refine aw_il3 K dX7_moved_76 ?_
        refine aw_il8 K dX7_moved_77 ?_
        refine aw_ishr K dX7_moved_79 ?_
        refine aw_iconst (v := 1) K dX7_moved_80 (by decide) ?_
        refine aw_iand K dX7_moved_81 ?_
        refine aw_if_ne (tgt := 96) K dX7_moved_82 (by decide) (fun b82 => ?_) (fun b82 => ?_)
        · refine aw_iconst (v := 0) K dX7_moved_96 (by decide) ?_
          refine aw_is10 K dX7_moved_97 (by decide) rfl ?_
          refine aw_il10 K dX7_moved_99 ?_
          refine aw_if_eq (tgt := 109) K dX7_moved_101 (by decide) (fun b101 => ?_) (fun b101 => ?_)
          · refine aw_il6 K dX7_moved_109 ?_
            refine aw_is6 K dX7_moved_111 (by decide) rfl ?_
            refine aw_il10 K dX7_moved_113 ?_
            refine aw_if_eq (tgt := 123) K dX7_moved_115 (by decide) (fun b115 => ?_) (fun b115 => ?_)
            · refine aw_il7 K dX7_moved_123 ?_
              refine aw_is7 K dX7_moved_125 (by decide) rfl ?_
              refine aw_ii8 (v := _ + 1) K dX7_moved_127 rfl (by decide) rfl ?_
              refine aw_goto (tgt := 33) K dX7_moved_130 (by decide) ?_
              rw [nI_1]
              refine aw_sub [some (.ref (g.2.1 0)), some (.int _), some (.int _), some (.int _), some (.int _), some (.int _), some (.int _), some (.int _), some (.int _), none, none] ⟨rfl, rfl, rfl, rfl, rfl, rfl, rfl, rfl, rfl, trivial⟩ ?_
              exact ih (j + 1) _ _ (by omega) (is.tk ((hb_i (by omega)).mp b82))
            · exact absurd rfl b115
          · exact absurd rfl b101
        · refine aw_il9 K dX7_moved_85 ?_
          refine aw_il7 K dX7_moved_87 ?_
          refine aw_icmp_le (tgt := 96) K dX7_moved_89 (by decide) (fun b89 => ?_) (fun b89 => ?_)
          · refine aw_iconst (v := 0) K dX7_moved_96 (by decide) ?_
            refine aw_is10 K dX7_moved_97 (by decide) rfl ?_
            refine aw_il10 K dX7_moved_99 ?_
            refine aw_if_eq (tgt := 109) K dX7_moved_101 (by decide) (fun b101 => ?_) (fun b101 => ?_)
            · refine aw_il6 K dX7_moved_109 ?_
              refine aw_is6 K dX7_moved_111 (by decide) rfl ?_
              refine aw_il10 K dX7_moved_113 ?_
              refine aw_if_eq (tgt := 123) K dX7_moved_115 (by decide) (fun b115 => ?_) (fun b115 => ?_)
              · refine aw_il7 K dX7_moved_123 ?_
                refine aw_is7 K dX7_moved_125 (by decide) rfl ?_
                refine aw_ii8 (v := _ + 1) K dX7_moved_127 rfl (by decide) rfl ?_
                refine aw_goto (tgt := 33) K dX7_moved_130 (by decide) ?_
                rw [nI_1]
                refine aw_sub [some (.ref (g.2.1 0)), some (.int _), some (.int _), some (.int _), some (.int _), some (.int _), some (.int _), some (.int _), some (.int _), none, none] ⟨rfl, rfl, rfl, rfl, rfl, rfl, rfl, rfl, rfl, trivial⟩ ?_
                exact ih (j + 1) _ _ (by omega) (is.le hB' hx bx cx b89)
              · exact absurd rfl b115
            · exact absurd rfl b101
          · refine aw_iconst (v := 1) K dX7_moved_92 (by decide) ?_
            refine aw_goto (tgt := 97) K dX7_moved_93 (by decide) ?_
            refine aw_is10 K dX7_moved_97 (by decide) rfl ?_
            refine aw_il10 K dX7_moved_99 ?_
            refine aw_if_eq (tgt := 109) K dX7_moved_101 (by decide) (fun b101 => ?_) (fun b101 => ?_)
            · exact absurd b101 (by decide)
            · refine aw_il8 K dX7_moved_104 ?_
              refine aw_goto (tgt := 111) K dX7_moved_106 (by decide) ?_
              refine aw_is6 K dX7_moved_111 (by decide) rfl ?_
              refine aw_il10 K dX7_moved_113 ?_
              refine aw_if_eq (tgt := 123) K dX7_moved_115 (by decide) (fun b115 => ?_) (fun b115 => ?_)
              · exact absurd b115 (by decide)
              · refine aw_il9 K dX7_moved_118 ?_
                refine aw_goto (tgt := 125) K dX7_moved_120 (by decide) ?_
                refine aw_is7 K dX7_moved_125 (by decide) rfl ?_
                refine aw_ii8 (v := _ + 1) K dX7_moved_127 rfl (by decide) rfl ?_
                refine aw_goto (tgt := 33) K dX7_moved_130 (by decide) ?_
                rw [nI_1]
                refine aw_sub [some (.ref (g.2.1 0)), some (.int _), some (.int _), some (.int _), some (.int _), some (.int _), some (.int _), some (.int _), some (.int _), none, none] ⟨rfl, rfl, rfl, rfl, rfl, rfl, rfl, rfl, rfl, trivial⟩ ?_
                exact ih (j + 1) _ _ (by omega) (is.gt hB' hx bx cx (by
                  cases y : bt m j
                  · rfl
                  · exact absurd b82 ((hb_i (by omega)).mpr y)) b89)
      · refine aw_al0 K dX7_moved_53 ?_
        refine aw_getR K gX7_80 dX7_moved_54 rfl rfl ?_
        refine aw_il8 K dX7_moved_57 ?_
        refine aw_iald K dX7_moved_59 rfl (vp_in_nI (by omega) (by decide)) ?_
        refine aw_goto (tgt := 73) K dX7_moved_60 (by decide) ?_
        refine aw_imul K dX7_moved_73 ?_
        rw [if_neg b50] at vq
        rw [nI_clamp (show j < 2 ^ 31 by omega), vq]
        refine aw_is9 K dX7_moved_74 (by decide) rfl ?_
        refine aw_il3 K dX7_moved_76 ?_
        refine aw_il8 K dX7_moved_77 ?_
        refine aw_ishr K dX7_moved_79 ?_
        refine aw_iconst (v := 1) K dX7_moved_80 (by decide) ?_
        refine aw_iand K dX7_moved_81 ?_
        refine aw_if_ne (tgt := 96) K dX7_moved_82 (by decide) (fun b82 => ?_) (fun b82 => ?_)
        · refine aw_iconst (v := 0) K dX7_moved_96 (by decide) ?_
          refine aw_is10 K dX7_moved_97 (by decide) rfl ?_
          refine aw_il10 K dX7_moved_99 ?_
          refine aw_if_eq (tgt := 109) K dX7_moved_101 (by decide) (fun b101 => ?_) (fun b101 => ?_)
          · refine aw_il6 K dX7_moved_109 ?_
            refine aw_is6 K dX7_moved_111 (by decide) rfl ?_
            refine aw_il10 K dX7_moved_113 ?_
            refine aw_if_eq (tgt := 123) K dX7_moved_115 (by decide) (fun b115 => ?_) (fun b115 => ?_)
            · refine aw_il7 K dX7_moved_123 ?_
              refine aw_is7 K dX7_moved_125 (by decide) rfl ?_
              refine aw_ii8 (v := _ + 1) K dX7_moved_127 rfl (by decide) rfl ?_
              refine aw_goto (tgt := 33) K dX7_moved_130 (by decide) ?_
              rw [nI_1]
              refine aw_sub [some (.ref (g.2.1 0)), some (.int _), some (.int _), some (.int _), some (.int _), some (.int _), some (.int _), some (.int _), some (.int _), none, none] ⟨rfl, rfl, rfl, rfl, rfl, rfl, rfl, rfl, rfl, trivial⟩ ?_
              exact ih (j + 1) _ _ (by omega) (is.tk ((hb_i (by omega)).mp b82))
            · exact absurd rfl b115
          · exact absurd rfl b101
        · refine aw_il9 K dX7_moved_85 ?_
          refine aw_il7 K dX7_moved_87 ?_
          refine aw_icmp_le (tgt := 96) K dX7_moved_89 (by decide) (fun b89 => ?_) (fun b89 => ?_)
          · refine aw_iconst (v := 0) K dX7_moved_96 (by decide) ?_
            refine aw_is10 K dX7_moved_97 (by decide) rfl ?_
            refine aw_il10 K dX7_moved_99 ?_
            refine aw_if_eq (tgt := 109) K dX7_moved_101 (by decide) (fun b101 => ?_) (fun b101 => ?_)
            · refine aw_il6 K dX7_moved_109 ?_
              refine aw_is6 K dX7_moved_111 (by decide) rfl ?_
              refine aw_il10 K dX7_moved_113 ?_
              refine aw_if_eq (tgt := 123) K dX7_moved_115 (by decide) (fun b115 => ?_) (fun b115 => ?_)
              · refine aw_il7 K dX7_moved_123 ?_
                refine aw_is7 K dX7_moved_125 (by decide) rfl ?_
                refine aw_ii8 (v := _ + 1) K dX7_moved_127 rfl (by decide) rfl ?_
                refine aw_goto (tgt := 33) K dX7_moved_130 (by decide) ?_
                rw [nI_1]
                refine aw_sub [some (.ref (g.2.1 0)), some (.int _), some (.int _), some (.int _), some (.int _), some (.int _), some (.int _), some (.int _), some (.int _), none, none] ⟨rfl, rfl, rfl, rfl, rfl, rfl, rfl, rfl, rfl, trivial⟩ ?_
                exact ih (j + 1) _ _ (by omega) (is.le hB' hx bx cx b89)
              · exact absurd rfl b115
            · exact absurd rfl b101
          · refine aw_iconst (v := 1) K dX7_moved_92 (by decide) ?_
            refine aw_goto (tgt := 97) K dX7_moved_93 (by decide) ?_
            refine aw_is10 K dX7_moved_97 (by decide) rfl ?_
            refine aw_il10 K dX7_moved_99 ?_
            refine aw_if_eq (tgt := 109) K dX7_moved_101 (by decide) (fun b101 => ?_) (fun b101 => ?_)
            · exact absurd b101 (by decide)
            · refine aw_il8 K dX7_moved_104 ?_
              refine aw_goto (tgt := 111) K dX7_moved_106 (by decide) ?_
              refine aw_is6 K dX7_moved_111 (by decide) rfl ?_
              refine aw_il10 K dX7_moved_113 ?_
              refine aw_if_eq (tgt := 123) K dX7_moved_115 (by decide) (fun b115 => ?_) (fun b115 => ?_)
              · exact absurd b115 (by decide)
              · refine aw_il9 K dX7_moved_118 ?_
                refine aw_goto (tgt := 125) K dX7_moved_120 (by decide) ?_
                refine aw_is7 K dX7_moved_125 (by decide) rfl ?_
                refine aw_ii8 (v := _ + 1) K dX7_moved_127 rfl (by decide) rfl ?_
                refine aw_goto (tgt := 33) K dX7_moved_130 (by decide) ?_
                rw [nI_1]
                refine aw_sub [some (.ref (g.2.1 0)), some (.int _), some (.int _), some (.int _), some (.int _), some (.int _), some (.int _), some (.int _), some (.int _), none, none] ⟨rfl, rfl, rfl, rfl, rfl, rfl, rfl, rfl, rfl, trivial⟩ ?_
                exact ih (j + 1) _ _ (by omega) (is.gt hB' hx bx cx (by
                  cases y : bt m j
                  · rfl
                  · exact absurd b82 ((hb_i (by omega)).mpr y)) b89)
set_option maxHeartbeats 4000000 in
set_option maxRecDepth 100000 in
theorem lr1X7_moved {l : Launch} {g : Geo} {sta : Nat → Nat} {k : KT} (K : AOK (wM l g sta) mX7_moved k) (h : HS) (kk : Nat) (dn : Int32) (S : Int32) (N : Nat) (q : Nat → Nat) (hN : N ≤ 12) (hS : ∀ x, x < 32 → bt S x = true → x < N) (e33 : h.1 0 33 = nI (cn S N)) (hq : ∀ x, x < N → bt S x = true → h.1 23 (cn S x) * (if dn = 0 then 10 - h.1 24 (cn S x) else h.1 24 (cn S x)) = nI (q x)) (hB : ∀ x, x < 12 → q x < 2 ^ 31) (hz : ∀ x, x < 12 → bt S x = false → q x = 0) (hkk : kk ≤ 3) :
    ∀ (n r : Nat) (m : Int32), r + n = kk → OS m S N q r → AW (wM l g sta) (DI (nI (tkN q kk).1) h) 1 mX7_moved k 8 [some (.ref (g.2.1 0)), some (.int (nI kk)), some (.int dn), some (.int m), some (.int (nI (tkN q r).1)), some (.int (nI r)), none, none, none, none, none] [] h := by
  intro n
  have cN := cn_le S N
  induction n with
  | zero =>
    intro r m k1 os
    obtain rfl : r = kk := by omega
    refine aw_il5 K dX7_moved_8 ?_
    refine aw_il1 K dX7_moved_10 ?_
    refine aw_icmp_ge (tgt := 153) K dX7_moved_11 (by decide) (fun b11 => ?_) (fun b11 => ?_)
    · refine aw_il4 K dX7_moved_153 ?_
      refine aw_iret K rfl dX7_moved_155 ?_
      exact ⟨rfl, rfl⟩
    · exact absurd (Int32.le_refl _) b11
  | succ n ih =>
    intro r m k1 os
    refine aw_il5 K dX7_moved_8 ?_
    refine aw_il1 K dX7_moved_10 ?_
    refine aw_icmp_ge (tgt := 153) K dX7_moved_11 (by decide) (fun b11 => ?_) (fun b11 => ?_)
    · exact absurd b11 (nI_ge (by omega) (by omega))
    · refine aw_il5 K dX7_moved_14 ?_
      refine aw_al0 K dX7_moved_16 ?_
      refine aw_getI K gX7_262 dX7_moved_17 rfl rfl ?_
      rw [e33]
      refine aw_icmp_ge (tgt := 153) K dX7_moved_20 (by decide) (fun b20 => ?_) (fun b20 => ?_)
      · have hge : cn S N ≤ r := (nI_leI (by omega) (by omega)).mp b20
        have z := tk_z (os.end hN hS hz hge) (kk - r)
        rw [show r + (kk - r) = kk by omega] at z
        refine aw_il4 K dX7_moved_153 ?_
        refine aw_iret K rfl dX7_moved_155 ?_
        refine ⟨?_, rfl⟩
        rw [z.1]
      · have hlt : r < cn S N := by
          rcases Nat.lt_or_ge r (cn S N) with y | y
          · exact y
          · exact absurd (nI_le (a := cn S N) y (by omega)) b20
        refine aw_bipush (v := (-4)) K dX7_moved_23 (by decide) ?_
        refine aw_is6 K dX7_moved_25 (by decide) rfl ?_
        refine aw_iconst (v := (-1)) K dX7_moved_27 (by decide) ?_
        refine aw_is7 K dX7_moved_28 (by decide) rfl ?_
        refine aw_iconst (v := 0) K dX7_moved_30 (by decide) ?_
        refine aw_is8 K dX7_moved_31 (by decide) rfl ?_
        refine lr2X7_moved K h kk dn m _ _ S N q hN hS e33 hq hB hz (fun be mo is => ?_) (cn S N) 0 _ _ (by omega) IS.z
        obtain ⟨c, rfl, rfl, os2⟩ := rnd hN hS hz os hlt is
        refine aw_il3 K dX7_moved_133 ?_
        refine aw_iconst (v := 1) K dX7_moved_134 (by decide) ?_
        refine aw_il6 K dX7_moved_135 ?_
        refine aw_ishl K dX7_moved_137 ?_
        refine aw_ior K dX7_moved_138 ?_
        refine aw_is3 K dX7_moved_139 (by decide) rfl ?_
        refine aw_il4 K dX7_moved_140 ?_
        refine aw_il7 K dX7_moved_142 ?_
        refine aw_iadd K dX7_moved_144 ?_
        rw [nI_add]
        refine aw_is4 K dX7_moved_145 (by decide) rfl ?_
        refine aw_ii5 (v := _ + 1) K dX7_moved_147 rfl (by decide) rfl ?_
        refine aw_goto (tgt := 8) K dX7_moved_150 (by decide) ?_
        rw [nI_1]
        refine aw_sub [some (.ref (g.2.1 0)), some (.int _), some (.int _), some (.int _), some (.int _), some (.int _), none, none, none, none, none] ⟨rfl, rfl, rfl, rfl, rfl, rfl, trivial⟩ ?_
        exact ih (r + 1) _ (by omega) os2
set_option maxHeartbeats 4000000 in
set_option maxRecDepth 100000 in
theorem eX7_moved (l : Launch) (g : Geo) (sta : Nat → Nat) (h : HS) (kk : Nat) (dn : Int32) (S : Int32) (N : Nat) (q : Nat → Nat) (hN : N ≤ 12) (hS : ∀ x, x < 32 → bt S x = true → x < N) (e33 : h.1 0 33 = nI (cn S N)) (hq : ∀ x, x < N → bt S x = true → h.1 23 (cn S x) * (if dn = 0 then 10 - h.1 24 (cn S x) else h.1 24 (cn S x)) = nI (q x)) (hB : ∀ x, x < 12 → q x < 2 ^ 31) (hz : ∀ x, x < 12 → bt S x = false → q x = 0) (hkk : kk ≤ 3) : CT (wM l g sta) 1 mX7_moved [.ref (g.2.1 0), .int (nI kk), .int dn] h (DI (nI (tkN q kk).1) h) := by
  refine CT.at [some (.ref (g.2.1 0)), some (.int (nI kk)), some (.int dn), none, none, none, none, none, none, none, none] 8 rfl (by decide) (Nat.le_of_ble_eq_true rfl) (fun k K => ?_)
  refine aw_iconst (v := 0) K dX7_moved_0 (by decide) ?_
  refine aw_is3 K dX7_moved_1 (by decide) rfl ?_
  refine aw_iconst (v := 0) K dX7_moved_2 (by decide) ?_
  refine aw_is4 K dX7_moved_3 (by decide) rfl ?_
  refine aw_iconst (v := 0) K dX7_moved_5 (by decide) ?_
  refine aw_is5 K dX7_moved_6 (by decide) rfl ?_
  exact lr1X7_moved K h kk dn S N q hN hS e33 hq hB hz hkk kk 0 0 (by omega) OS.z

noncomputable def qdN (v : Nat → Nat → Int32) (N T Wn : Nat) (b : Int32) (x : Nat) : Nat := wN v N T Wn b x * mN v N Wn b x
noncomputable def quN (v : Nat → Nat → Int32) (N T Wn : Nat) (b : Int32) (x : Nat) : Nat := wN v N T Wn b x * (10 - mN v N Wn b x)
noncomputable def spU (v : Nat → Nat → Int32) (N T Wn : Nat) (a : Int32) (k j : Nat) : Nat := if j < 2 then uN v N T Wn a - (tkN (qdN v N T Wn a) k).1 else uN v N T Wn a + (tkN (quN v N T Wn a) k).1
noncomputable def spV (v : Nat → Nat → Int32) (N T Wn : Nat) (a b c : Int32) : Int32 := if (0 ≤ a ∧ a ≤ v 0 0 - 1) ∧ (0 ≤ b ∧ b ≤ 3) ∧ (0 ≤ c ∧ c ≤ 3) then (if aN v N T Wn a = 0 then -4 else frJ (spU v N T Wn a b.toNatClampNeg c.toNatClampNeg) (aN v N T Wn a) c.toNatClampNeg) else -1
theorem spV_eq {hx hm : HS} (r : REL hx hm) (N T Wn : Nat) (a b c : Int32) : spV (vX hx) N T Wn a b c = spV hm.1 N T Wn a b c := by
  have e1 : qdN hm.1 N T Wn a = qdN (vX hx) N T Wn a := funext (fun x => by unfold qdN; rw [wN_eq r, mN_eq r])
  have e2 : quN hm.1 N T Wn a = quN (vX hx) N T Wn a := funext (fun x => by unfold quN; rw [wN_eq r, mN_eq r])
  unfold spV spU
  rw [aN_eq r, uN_eq r, INV.b1 r, e1, e2]
  rfl
/-- how far k of them can move it -/
theorem q_b {v : Nat → Nat → Int32} {N T Wn : Nat} {b : Int32} (hN : N ≤ 12) (m : SML v N T) (wb : WBD v) (me : ME v N T (syV v N Wn b) 12) (k : Nat) : (tkN (qdN v N T Wn b) k).1 ≤ uN v N T Wn b ∧ (tkN (quN v N T Wn b) k).1 ≤ 72000000 ∧ (∀ x, x < 12 → qdN v N T Wn b x < 2 ^ 31) ∧ ∀ x, x < 12 → quN v N T Wn b x < 2 ^ 31 := by
  obtain ⟨bA, bU⟩ := au_b hN m wb me
  have s1 := tk_s (qdN v N T Wn b) k
  have s2 := tk_s (quN v N T Wn b) k
  have e1 : smN (qdN v N T Wn b) 12 = uN v N T Wn b := (sm_12 hN).2
  have e2 : smN (quN v N T Wn b) 12 ≤ 10 * smN (wN v N T Wn b) 12 := smN_m 12 (fun x _ => Nat.sub_le _ _)
  rw [(sm_12 hN).1] at e2
  refine ⟨by omega, by omega, fun x hx => ?_, fun x hx => ?_⟩
  · have := smN_1 (q := qdN v N T Wn b) 12 hx
    omega
  · have := smN_1 (q := quN v N T Wn b) 12 hx
    omega
theorem q_d {v : Nat → Nat → Int32} {N T Wn : Nat} {b : Int32} (m : SML v N T) (wb : WBD v) (me : ME v N T (syV v N Wn b) 12) {x : Nat} (hx : x < 12) : wV v N T Wn b x * mV v N Wn b x = nI (qdN v N T Wn b x) ∧ wV v N T Wn b x * (10 - mV v N Wn b x) = nI (quN v N T Wn b x) := by
  rw [w_n m wb me hx, (m_n wb x).1]
  refine ⟨pk_mul _ _, ?_⟩
  rw [show (10 : Int32) = nI 10 from rfl, pk_sub (m_n wb x).2, pk_mul]
  rfl
theorem q_z {v : Nat → Nat → Int32} {N T Wn : Nat} {b : Int32} {x : Nat} (h : bt (syV v N Wn b) x = false) : qdN v N T Wn b x = 0 ∧ quN v N T Wn b x = 0 := by
  have e : wN v N T Wn b x = 0 := by
    unfold wN
    rw [(w_z h).1]
    rfl
  unfold qdN quN
  rw [e]
  exact ⟨Nat.zero_mul _, Nat.zero_mul _⟩
theorem low_0 (U A : Nat) : lowV U A 0 = lN (A / Nat.gcd U A) := if_pos rfl
theorem low_1 (U A : Nat) : lowV U A 1 = lN (U / Nat.gcd U A) := if_neg (by decide)
theorem lt2 {j : Nat} (hj : j ≤ 3) : nI j < 2 ↔ j < 2 := nI_ltI (b := 2) (by omega) (by decide)
set_option maxHeartbeats 4000000 in
set_option maxRecDepth 100000 in
theorem eX6_span (l : Launch) (g : Geo) (sta : Nat → Nat) (h : HS) (a b c : Int32) {N T Wn : Nat} (H : XW h N T Wn) (ww : wrdW h N Wn) (s : SML (vX h) N T) (wb : WBD (vX h)) : CT (wX l g sta) 7 mX6_span [.ref (g.2.1 0), .int a, .int b, .int c] h (fun o h' => o = some (.int (spV (vX h) N T Wn a b c)) ∧ XQ h h') := by
  refine CT.at [some (.ref (g.2.1 0)), some (.int a), some (.int b), some (.int c), none, none, none, none] 4 rfl (by decide) (Nat.le_of_ble_eq_true rfl) (fun k K => ?_)
  refine aw_al0 K dX6_span_0 ?_
  refine aw_il1 K dX6_span_1 ?_
  refine aw_callV_I K (tX6_isName l g sta _ _) rfl (by decide) fX6_isName lX6_84 dX6_span_2 rfl clsX6 rfl (Nat.le_of_ble_eq_true rfl) ?_
  refine aw_if_eq (tgt := 26) K dX6_span_5 (by decide) (fun b5 => ?_) (fun b5 => ?_)
  · refine aw_iconst (v := (-1)) K dX6_span_26 (by decide) ?_
    refine aw_iret K rfl dX6_span_27 ?_
    exact ⟨congrArg some (congrArg Value.int (if_neg (fun q => bI_0.mp b5 q.1)).symm), H.s⟩
  · refine aw_il2 K dX6_span_8 ?_
    refine aw_iconst (v := 0) K dX6_span_9 (by decide) ?_
    refine aw_iconst (v := 3) K dX6_span_10 (by decide) ?_
    refine aw_callS_I K (tX6_within l g sta _ _ _ _) rfl (by decide) fX6_within lX6_76 dX6_span_11 rfl (Nat.le_of_ble_eq_true rfl) ?_
    refine aw_if_eq (tgt := 26) K dX6_span_14 (by decide) (fun b14 => ?_) (fun b14 => ?_)
    · refine aw_iconst (v := (-1)) K dX6_span_26 (by decide) ?_
      refine aw_iret K rfl dX6_span_27 ?_
      exact ⟨congrArg some (congrArg Value.int (if_neg (fun q => bI_0.mp b14 q.2.1)).symm), H.s⟩
    · refine aw_il3 K dX6_span_17 ?_
      refine aw_iconst (v := 0) K dX6_span_18 (by decide) ?_
      refine aw_iconst (v := 3) K dX6_span_19 (by decide) ?_
      refine aw_callS_I K (tX6_within l g sta _ _ _ _) rfl (by decide) fX6_within lX6_76 dX6_span_20 rfl (Nat.le_of_ble_eq_true rfl) ?_
      refine aw_if_ne (tgt := 28) K dX6_span_23 (by decide) (fun b23 => ?_) (fun b23 => ?_)
      · have ok := And.intro (bI_1.mp b5) (And.intro (bI_1.mp b14) (bI_1.mp b23))
        obtain ⟨kk, hkk, rfl⟩ := nI_of2 (M := 3) (n := 3) (by decide) (Int32.not_lt.mpr ok.2.1.1) ok.2.1.2
        obtain ⟨j, hj, rfl⟩ := nI_of2 (M := 3) (n := 3) (by decide) (Int32.not_lt.mpr ok.2.2.1) ok.2.2.2
        have ck := nI_clamp (show kk < 2 ^ 31 by omega)
        have cj := nI_clamp (show j < 2 ^ 31 by omega)
        refine aw_al0 K dX6_span_28 ?_
        refine aw_il1 K dX6_span_29 ?_
        refine aw_callV K (eX6_weighSayers l g sta _ _ H ww s) rfl (by decide) fX6_weighSayers lX6_240 dX6_span_30 rfl clsX6 rfl (Nat.le_of_ble_eq_true rfl) (fun o h2 hq => ?_)
        obtain ⟨rfl, hq2, rm, me⟩ := hq
        refine (show AW _ _ _ _ _ _ _ (.int _ :: _) _ from ?_)
        have hN := H.1.2
        obtain ⟨bA, bU⟩ := au_b hN s wb me
        obtain ⟨bd, bu, b31, b32⟩ := q_b hN s wb me kk
        obtain ⟨sA, sU⟩ := su_a s wb me 12 (Nat.le_refl _)
        rw [(sm_12 hN).1] at sA
        rw [(sm_12 hN).2] at sU
        rw [sA]
        refine aw_is4 K dX6_span_33 (by decide) rfl ?_
        refine aw_il4 K dX6_span_35 ?_
        refine aw_if_ne (tgt := 43) K dX6_span_37 (by decide) (fun b37 => ?_) (fun b37 => ?_)
        · have hA : ¬ aN (vX h) N T Wn a = 0 := fun q => b37 (by rw [q]; rfl)
          refine aw_il3 K dX6_span_43 ?_
          refine aw_iconst (v := 2) K dX6_span_44 (by decide) ?_
          refine aw_icmp_lt (tgt := 52) K dX6_span_45 (by decide) (fun b45 => ?_) (fun b45 => ?_)
          · refine aw_iconst (v := 0) K dX6_span_52 (by decide) ?_
            refine aw_is5 K dX6_span_53 (by decide) rfl ?_
            refine aw_al0 K dX6_span_55 ?_
            refine aw_il2 K dX6_span_56 ?_
            refine aw_il5 K dX6_span_57 ?_
            refine aw_callV K (eX6_greatestStakes l g sta _ kk _ (qdN (vX h) N T Wn a) hkk b31 (fun x hx => by rw [(rm x hx).1, (rm x hx).2, if_pos rfl]; exact (q_d s wb me hx).1) h hq2) rfl (by decide) fX6_greatestStakes lX6_251 dX6_span_59 rfl clsX6 rfl (Nat.le_of_ble_eq_true rfl) (fun o h2 hq => ?_)
            obtain ⟨rfl, hq3, g13, g14⟩ := hq
            refine (show AW _ _ _ _ _ _ _ (.int _ :: _) _ from ?_)
            refine aw_is6 K dX6_span_62 (by decide) rfl ?_
            refine aw_il5 K dX6_span_64 ?_
            refine aw_if_eq (tgt := 79) K dX6_span_66 (by decide) (fun b66 => ?_) (fun b66 => ?_)
            · refine aw_al0 K dX6_span_79 ?_
              refine aw_callV_I K (eX6_summedMarks l g sta _ (fun x => wV (vX h) N T Wn a x * mV (vX h) N Wn a x) (fun x hx => by rw [g13, g14, (rm x hx).1, (rm x hx).2])) rfl (by decide) fX6_summedMarks lX6_243 dX6_span_80 rfl clsX6 rfl (Nat.le_of_ble_eq_true rfl) ?_
              rw [sU]
              refine aw_il6 K dX6_span_83 ?_
              refine aw_isub K dX6_span_85 ?_
              rw [pk_sub bd]
              refine aw_is7 K dX6_span_86 (by decide) rfl ?_
              refine aw_il7 K dX6_span_88 ?_
              refine aw_i2l K dX6_span_90 ?_
              rw [nI_l (show (uN (vX h) N T Wn a - (tkN (qdN (vX h) N T Wn a) kk).1) < 2 ^ 31 by omega)]
              refine aw_il4 K dX6_span_91 ?_
              refine aw_i2l K dX6_span_93 ?_
              rw [nI_l (show aN (vX h) N T Wn a < 2 ^ 31 by omega)]
              refine aw_il3 K dX6_span_94 ?_
              refine aw_iconst (v := 2) K dX6_span_95 (by decide) ?_
              refine aw_irem K dX6_span_96 (by decide) ?_
              rw [show nI j - nI j / 2 * 2 = nI (j % 2) from pk_rem (d := 2) (by omega) (by decide) (by decide)]
              refine aw_if_ne (tgt := 104) K dX6_span_97 (by decide) (fun b97 => ?_) (fun b97 => ?_)
              · refine aw_iconst (v := 0) K dX6_span_104 (by decide) ?_
                refine aw_callS_L K (eX6_inLowest l g sta _ _ _ _ (by omega) (by omega) (by omega)) rfl (by decide) fX6_inLowest lX6_247 dX6_span_105 rfl (Nat.le_of_ble_eq_true rfl) ?_
                rw [low_0]
                refine aw_l2i K dX6_span_108 ?_
                refine aw_iret K rfl dX6_span_109 ?_
                have su : spU (vX h) N T Wn a kk j = (uN (vX h) N T Wn a - (tkN (qdN (vX h) N T Wn a) kk).1) := if_pos ((lt2 hj).mp b45)
                refine ⟨congrArg some (congrArg Value.int ?_), hq3⟩
                rw [lN_i]
                refine ((if_pos ok).trans ((if_neg hA).trans ?_)).symm
                rw [ck, cj, su, frJ, if_neg (fun q => b97 (by rw [q]; rfl))]
              · refine aw_iconst (v := 1) K dX6_span_100 (by decide) ?_
                refine aw_goto (tgt := 105) K dX6_span_101 (by decide) ?_
                refine aw_callS_L K (eX6_inLowest l g sta _ _ _ _ (by omega) (by omega) (by omega)) rfl (by decide) fX6_inLowest lX6_247 dX6_span_105 rfl (Nat.le_of_ble_eq_true rfl) ?_
                rw [low_1]
                refine aw_l2i K dX6_span_108 ?_
                refine aw_iret K rfl dX6_span_109 ?_
                have su : spU (vX h) N T Wn a kk j = (uN (vX h) N T Wn a - (tkN (qdN (vX h) N T Wn a) kk).1) := if_pos ((lt2 hj).mp b45)
                refine ⟨congrArg some (congrArg Value.int ?_), hq3⟩
                rw [lN_i]
                refine ((if_pos ok).trans ((if_neg hA).trans ?_)).symm
                rw [ck, cj, su, frJ, if_pos ((nI_eq (b := 0) (by omega) (by decide)).mp b97)]
            · exact absurd rfl b66
          · refine aw_iconst (v := 1) K dX6_span_48 (by decide) ?_
            refine aw_goto (tgt := 53) K dX6_span_49 (by decide) ?_
            refine aw_is5 K dX6_span_53 (by decide) rfl ?_
            refine aw_al0 K dX6_span_55 ?_
            refine aw_il2 K dX6_span_56 ?_
            refine aw_il5 K dX6_span_57 ?_
            refine aw_callV K (eX6_greatestStakes l g sta _ kk _ (quN (vX h) N T Wn a) hkk b32 (fun x hx => by rw [(rm x hx).1, (rm x hx).2, if_neg (by decide)]; exact (q_d s wb me hx).2) h hq2) rfl (by decide) fX6_greatestStakes lX6_251 dX6_span_59 rfl clsX6 rfl (Nat.le_of_ble_eq_true rfl) (fun o h2 hq => ?_)
            obtain ⟨rfl, hq3, g13, g14⟩ := hq
            refine (show AW _ _ _ _ _ _ _ (.int _ :: _) _ from ?_)
            refine aw_is6 K dX6_span_62 (by decide) rfl ?_
            refine aw_il5 K dX6_span_64 ?_
            refine aw_if_eq (tgt := 79) K dX6_span_66 (by decide) (fun b66 => ?_) (fun b66 => ?_)
            · exact absurd b66 (by decide)
            · refine aw_al0 K dX6_span_69 ?_
              refine aw_callV_I K (eX6_summedMarks l g sta _ (fun x => wV (vX h) N T Wn a x * mV (vX h) N Wn a x) (fun x hx => by rw [g13, g14, (rm x hx).1, (rm x hx).2])) rfl (by decide) fX6_summedMarks lX6_243 dX6_span_70 rfl clsX6 rfl (Nat.le_of_ble_eq_true rfl) ?_
              rw [sU]
              refine aw_il6 K dX6_span_73 ?_
              refine aw_iadd K dX6_span_75 ?_
              refine aw_goto (tgt := 86) K dX6_span_76 (by decide) ?_
              rw [nI_add]
              refine aw_is7 K dX6_span_86 (by decide) rfl ?_
              refine aw_il7 K dX6_span_88 ?_
              refine aw_i2l K dX6_span_90 ?_
              rw [nI_l (show (uN (vX h) N T Wn a + (tkN (quN (vX h) N T Wn a) kk).1) < 2 ^ 31 by omega)]
              refine aw_il4 K dX6_span_91 ?_
              refine aw_i2l K dX6_span_93 ?_
              rw [nI_l (show aN (vX h) N T Wn a < 2 ^ 31 by omega)]
              refine aw_il3 K dX6_span_94 ?_
              refine aw_iconst (v := 2) K dX6_span_95 (by decide) ?_
              refine aw_irem K dX6_span_96 (by decide) ?_
              rw [show nI j - nI j / 2 * 2 = nI (j % 2) from pk_rem (d := 2) (by omega) (by decide) (by decide)]
              refine aw_if_ne (tgt := 104) K dX6_span_97 (by decide) (fun b97 => ?_) (fun b97 => ?_)
              · refine aw_iconst (v := 0) K dX6_span_104 (by decide) ?_
                refine aw_callS_L K (eX6_inLowest l g sta _ _ _ _ (by omega) (by omega) (by omega)) rfl (by decide) fX6_inLowest lX6_247 dX6_span_105 rfl (Nat.le_of_ble_eq_true rfl) ?_
                rw [low_0]
                refine aw_l2i K dX6_span_108 ?_
                refine aw_iret K rfl dX6_span_109 ?_
                have su : spU (vX h) N T Wn a kk j = (uN (vX h) N T Wn a + (tkN (quN (vX h) N T Wn a) kk).1) := if_neg (fun q => b45 ((lt2 hj).mpr q))
                refine ⟨congrArg some (congrArg Value.int ?_), hq3⟩
                rw [lN_i]
                refine ((if_pos ok).trans ((if_neg hA).trans ?_)).symm
                rw [ck, cj, su, frJ, if_neg (fun q => b97 (by rw [q]; rfl))]
              · refine aw_iconst (v := 1) K dX6_span_100 (by decide) ?_
                refine aw_goto (tgt := 105) K dX6_span_101 (by decide) ?_
                refine aw_callS_L K (eX6_inLowest l g sta _ _ _ _ (by omega) (by omega) (by omega)) rfl (by decide) fX6_inLowest lX6_247 dX6_span_105 rfl (Nat.le_of_ble_eq_true rfl) ?_
                rw [low_1]
                refine aw_l2i K dX6_span_108 ?_
                refine aw_iret K rfl dX6_span_109 ?_
                have su : spU (vX h) N T Wn a kk j = (uN (vX h) N T Wn a + (tkN (quN (vX h) N T Wn a) kk).1) := if_neg (fun q => b45 ((lt2 hj).mpr q))
                refine ⟨congrArg some (congrArg Value.int ?_), hq3⟩
                rw [lN_i]
                refine ((if_pos ok).trans ((if_neg hA).trans ?_)).symm
                rw [ck, cj, su, frJ, if_pos ((nI_eq (b := 0) (by omega) (by decide)).mp b97)]
        · have hA : aN (vX h) N T Wn a = 0 := (nI_eq (b := 0) (by omega) (by decide)).mp b37
          refine aw_bipush (v := (-4)) K dX6_span_40 (by decide) ?_
          refine aw_iret K rfl dX6_span_42 ?_
          exact ⟨congrArg some (congrArg Value.int ((if_pos ok).trans (if_pos hA)).symm), hq2⟩
      · refine aw_iconst (v := (-1)) K dX6_span_26 (by decide) ?_
        refine aw_iret K rfl dX6_span_27 ?_
        exact ⟨congrArg some (congrArg Value.int (if_neg (fun q => bI_0.mp b23 q.2.2)).symm), H.s⟩

set_option maxHeartbeats 4000000 in
set_option maxRecDepth 100000 in
theorem eX7_span (l : Launch) (g : Geo) (sta : Nat → Nat) (h : HS) (a b c : Int32) {N T Wn : Nat} (H : MW h N T Wn) (s : SML h.1 N T) (wb : WBD h.1) : CT (wM l g sta) 9 mX7_span [.ref (g.2.1 0), .int a, .int b, .int c] h (fun o h' => o = some (.int (spV h.1 N T Wn a b c)) ∧ MS h h') := by
  refine CT.at [some (.ref (g.2.1 0)), some (.int a), some (.int b), some (.int c)] 0 rfl (by decide) (Nat.le_of_ble_eq_true rfl) (fun k K => ?_)
  refine aw_al0 K dX7_span_0 ?_
  refine aw_il1 K dX7_span_1 ?_
  refine aw_callV_I K (tX7_isName l g sta _ _) rfl (by decide) fX7_isName lX7_111 dX7_span_2 rfl clsX7 rfl (Nat.le_of_ble_eq_true rfl) ?_
  refine aw_if_eq (tgt := 32) K dX7_span_5 (by decide) (fun b5 => ?_) (fun b5 => ?_)
  · refine aw_iconst (v := (-1)) K dX7_span_32 (by decide) ?_
    refine aw_iret K rfl dX7_span_33 ?_
    exact ⟨congrArg some (congrArg Value.int (if_neg (fun q => bI_0.mp b5 q.1)).symm), MS.rf⟩
  · refine aw_il2 K dX7_span_8 ?_
    refine aw_i2l K dX7_span_9 ?_
    refine aw_lconst (v := 0) K dX7_span_10 (by decide) ?_
    refine aw_ldc2 K qX7_119 dX7_span_11 ?_
    refine aw_callS_I K (in32 l g sta _ _ (0) (3) (by decide) (by decide)) rfl (by decide) fX7_in lX7_102 dX7_span_14 rfl (Nat.le_of_ble_eq_true rfl) ?_
    refine aw_if_eq (tgt := 32) K dX7_span_17 (by decide) (fun b17 => ?_) (fun b17 => ?_)
    · refine aw_iconst (v := (-1)) K dX7_span_32 (by decide) ?_
      refine aw_iret K rfl dX7_span_33 ?_
      exact ⟨congrArg some (congrArg Value.int (if_neg (fun q => bI_0.mp b17 q.2.1)).symm), MS.rf⟩
    · refine aw_il3 K dX7_span_20 ?_
      refine aw_i2l K dX7_span_21 ?_
      refine aw_lconst (v := 0) K dX7_span_22 (by decide) ?_
      refine aw_ldc2 K qX7_119 dX7_span_23 ?_
      refine aw_callS_I K (in32 l g sta _ _ (0) (3) (by decide) (by decide)) rfl (by decide) fX7_in lX7_102 dX7_span_26 rfl (Nat.le_of_ble_eq_true rfl) ?_
      refine aw_if_ne (tgt := 34) K dX7_span_29 (by decide) (fun b29 => ?_) (fun b29 => ?_)
      · have ok := And.intro (bI_1.mp b5) (And.intro (bI_1.mp b17) (bI_1.mp b29))
        obtain ⟨kk, hkk, rfl⟩ := nI_of2 (M := 3) (n := 3) (by decide) (Int32.not_lt.mpr ok.2.1.1) ok.2.1.2
        obtain ⟨j, hj, rfl⟩ := nI_of2 (M := 3) (n := 3) (by decide) (Int32.not_lt.mpr ok.2.2.1) ok.2.2.2
        have ck := nI_clamp (show kk < 2 ^ 31 by omega)
        have cj := nI_clamp (show j < 2 ^ 31 by omega)
        refine aw_al0 K dX7_span_34 ?_
        refine aw_il1 K dX7_span_35 ?_
        refine aw_callV K (eX7_lists l g sta _ _ H s) rfl (by decide) fX7_lists lX7_275 dX7_span_36 rfl clsX7 rfl (Nat.le_of_ble_eq_true rfl) (fun o h2 hq => ?_)
        obtain ⟨rfl, hx, ls, me0⟩ := hq
        have hN := H.1.2
        have me : ME h.1 N T (syV h.1 N Wn a) 12 := by
          have z := ME.up hN me0 (12 - N) (by omega)
          rw [show N + (12 - N) = 12 by omega] at z
          exact z
        obtain ⟨bA, bU⟩ := au_b hN s wb me
        obtain ⟨bd, bu, b31, b32⟩ := q_b hN s wb me kk
        obtain ⟨sA, sU⟩ := su_a s wb me N hN
        have e36 : h2.1 0 36 = nI (aN h.1 N T Wn a) := ls.2.1.trans sA
        have e37 : h2.1 0 37 = nI (uN h.1 N T Wn a) := ls.2.2.1.trans sU
        refine aw_al0 K dX7_span_39 ?_
        refine aw_getI K gX7_265 dX7_span_40 rfl rfl ?_
        rw [e36]
        refine aw_if_ne (tgt := 49) K dX7_span_43 (by decide) (fun b43 => ?_) (fun b43 => ?_)
        · have hA : ¬ aN h.1 N T Wn a = 0 := fun q => b43 (by rw [q]; rfl)
          refine aw_il3 K dX7_span_49 ?_
          refine aw_iconst (v := 2) K dX7_span_50 (by decide) ?_
          refine aw_icmp_ge (tgt := 73) K dX7_span_51 (by decide) (fun b51 => ?_) (fun b51 => ?_)
          · refine aw_al0 K dX7_span_73 ?_
            refine aw_al0 K dX7_span_74 ?_
            refine aw_getI K gX7_268 dX7_span_75 rfl rfl ?_
            rw [e37]
            refine aw_al0 K dX7_span_78 ?_
            refine aw_il2 K dX7_span_79 ?_
            refine aw_iconst (v := 0) K dX7_span_80 (by decide) ?_
            refine aw_callV K (eX7_moved l g sta _ kk _ (syV h.1 N Wn a) N (quN h.1 N T Wn a) hN (sy_lt hN) ls.1 (fun x hx bx => by rw [(ls.2.2.2 x hx bx).1, (ls.2.2.2 x hx bx).2, if_pos rfl]; exact (q_d s wb me (by omega)).2) b32 (fun x _ hb => (q_z hb).2) hkk) rfl (by decide) fX7_moved lX7_282 dX7_span_81 rfl clsX7 rfl (Nat.le_of_ble_eq_true rfl) (fun o h2 hq => ?_)
            obtain ⟨rfl, rfl⟩ := hq
            refine (show AW _ _ _ _ _ _ _ (.int _ :: _) _ from ?_)
            refine aw_iadd K dX7_span_84 ?_
            rw [nI_add]
            refine aw_il3 K dX7_span_85 ?_
            refine aw_callV K (eX7_fraction l g sta _ _ _ _ (by omega) (by omega) (by omega) e36 (by omega)) rfl (by decide) fX7_fraction lX7_279 dX7_span_86 rfl clsX7 rfl (Nat.le_of_ble_eq_true rfl) (fun o h2 hq => ?_)
            obtain ⟨rfl, rfl⟩ := hq
            refine (show AW _ _ _ _ _ _ _ (.int _ :: _) _ from ?_)
            refine aw_iret K rfl dX7_span_89 ?_
            have su : spU h.1 N T Wn a kk j = (uN h.1 N T Wn a + (tkN (quN h.1 N T Wn a) kk).1) := if_neg (fun q => Int32.not_lt.mpr b51 ((lt2 hj).mpr q))
            refine ⟨congrArg some (congrArg Value.int ?_), hx⟩
            refine ((if_pos ok).trans ((if_neg hA).trans ?_)).symm
            rw [ck, cj, su]
          · refine aw_al0 K dX7_span_54 ?_
            refine aw_al0 K dX7_span_55 ?_
            refine aw_getI K gX7_268 dX7_span_56 rfl rfl ?_
            rw [e37]
            refine aw_al0 K dX7_span_59 ?_
            refine aw_il2 K dX7_span_60 ?_
            refine aw_iconst (v := 1) K dX7_span_61 (by decide) ?_
            refine aw_callV K (eX7_moved l g sta _ kk _ (syV h.1 N Wn a) N (qdN h.1 N T Wn a) hN (sy_lt hN) ls.1 (fun x hx bx => by rw [(ls.2.2.2 x hx bx).1, (ls.2.2.2 x hx bx).2, if_neg (by decide)]; exact (q_d s wb me (by omega)).1) b31 (fun x _ hb => (q_z hb).1) hkk) rfl (by decide) fX7_moved lX7_282 dX7_span_62 rfl clsX7 rfl (Nat.le_of_ble_eq_true rfl) (fun o h2 hq => ?_)
            obtain ⟨rfl, rfl⟩ := hq
            refine (show AW _ _ _ _ _ _ _ (.int _ :: _) _ from ?_)
            refine aw_isub K dX7_span_65 ?_
            rw [pk_sub bd]
            refine aw_il3 K dX7_span_66 ?_
            refine aw_callV K (eX7_fraction l g sta _ _ _ _ (by omega) (by omega) (by omega) e36 (by omega)) rfl (by decide) fX7_fraction lX7_279 dX7_span_67 rfl clsX7 rfl (Nat.le_of_ble_eq_true rfl) (fun o h2 hq => ?_)
            obtain ⟨rfl, rfl⟩ := hq
            refine (show AW _ _ _ _ _ _ _ (.int _ :: _) _ from ?_)
            refine aw_goto (tgt := 89) K dX7_span_70 (by decide) ?_
            refine aw_iret K rfl dX7_span_89 ?_
            have su : spU h.1 N T Wn a kk j = (uN h.1 N T Wn a - (tkN (qdN h.1 N T Wn a) kk).1) := if_pos ((lt2 hj).mp (Int32.not_le.mp b51))
            refine ⟨congrArg some (congrArg Value.int ?_), hx⟩
            refine ((if_pos ok).trans ((if_neg hA).trans ?_)).symm
            rw [ck, cj, su]
        · have hA : aN h.1 N T Wn a = 0 := (nI_eq (b := 0) (by omega) (by decide)).mp b43
          refine aw_bipush (v := (-4)) K dX7_span_46 (by decide) ?_
          refine aw_iret K rfl dX7_span_48 ?_
          exact ⟨congrArg some (congrArg Value.int ((if_pos ok).trans (if_pos hA)).symm), hx⟩
      · refine aw_iconst (v := (-1)) K dX7_span_32 (by decide) ?_
        refine aw_iret K rfl dX7_span_33 ?_
        exact ⟨congrArg some (congrArg Value.int (if_neg (fun q => bI_0.mp b29 q.2.2)).symm), MS.rf⟩

