/-! words that count -/
def ndV (d : Nat → Int32) (a : Int32) : Nat → Int32
  | 0 => 1
  | n + 1 => if d n = a then 0 else ndV d a n
theorem ndV_01 (d : Nat → Int32) (a : Int32) : ∀ n, ndV d a n = 1 ∨ ndV d a n = 0
  | 0 => Or.inl rfl
  | n + 1 => by
    unfold ndV
    split
    · exact Or.inr rfl
    · exact ndV_01 d a n
theorem n01 {x : Int32} (h : x = 1 ∨ x = 0) : narrow .boolean (.int x) = .int x := by
  rcases h with rfl | rfl <;> rfl
/-- whether word w is the first of its deal -/
def isF (v : Nat → Nat → Int32) (w : Nat) : Int32 := ndV (v 20) (v 20 w) w
def csV (v : Nat → Nat → Int32) (w : Nat) : Nat → Nat → Int32
  | 0, _ => 1
  | n + 1, u => if v 18 u = v 18 w ∧ v 19 u = v 19 w ∧ ¬ isF v u = 0 then 0 else csV v w n (u + 1)
theorem csV_01 (v : Nat → Nat → Int32) (w : Nat) : ∀ n u, csV v w n u = 1 ∨ csV v w n u = 0
  | 0, _ => Or.inl rfl
  | n + 1, u => by
    unfold csV
    split
    · exact Or.inr rfl
    · exact csV_01 v w n (u + 1)
/-- whether word w counts, of Wn words -/
def ctV (v : Nat → Nat → Int32) (Wn w : Nat) : Int32 := if isF v w = 0 then 0 else csV v w (Wn - (w + 1)) (w + 1)
theorem ctV_01 (v : Nat → Nat → Int32) (Wn w : Nat) : ctV v Wn w = 1 ∨ ctV v Wn w = 0 := by
  unfold ctV
  split
  · exact Or.inr rfl
  · exact csV_01 v w _ _
/-- the word of a about b that counts -/
def wbV (v : Nat → Nat → Int32) (Wn : Nat) (a b : Int32) : Nat → Int32
  | 0 => -4
  | n + 1 => if v 18 n = a ∧ v 19 n = b ∧ ¬ ctV v Wn n = 0 then nI n else wbV v Wn a b n
theorem wbV_in (v : Nat → Nat → Int32) (Wn : Nat) (a b : Int32) : ∀ n, wbV v Wn a b n = -4 ∨ ∃ j, j < n ∧ wbV v Wn a b n = nI j
  | 0 => Or.inl rfl
  | n + 1 => by
    unfold wbV
    split
    · exact Or.inr ⟨n, by omega, rfl⟩
    · rcases wbV_in v Wn a b n with q | ⟨j, h1, h2⟩
      · exact Or.inl q
      · exact Or.inr ⟨j, by omega, h2⟩
def syV (v : Nat → Nat → Int32) (N Wn : Nat) (b : Int32) : Int32 := orU (fun a => if v 3 a = 0 ∧ ¬ wbV v Wn (nI a) b Wn = -4 then (1 : Int32) <<< (nI a &&& 31) else 0) N
set_option maxHeartbeats 4000000 in
set_option maxRecDepth 100000 in
theorem lpX7_isFirst {l : Launch} {g : Geo} {sta : Nat → Nat} {k : KT} (K : AOK (wM l g sta) mX7_isFirst k) (h : HS) (w0 : Nat) (hw : w0 < 24) :
    ∀ (n i : Nat), i + n = w0 → AW (wM l g sta) (DI (isF h.1 w0) h) 1 mX7_isFirst k 4 [some (.ref (g.2.1 0)), some (.int (nI w0)), some (.int (ndV (h.1 20) (h.1 20 w0) i)), some (.int (nI i))] [] h := by
  intro n
  induction n with
  | zero =>
    intro i k1
    obtain rfl : i = w0 := by omega
    refine aw_il3 K dX7_isFirst_4 ?_
    refine aw_il1 K dX7_isFirst_5 ?_
    refine aw_icmp_ge (tgt := 40) K dX7_isFirst_6 (by decide) (fun b6 => ?_) (fun b6 => ?_)
    · refine aw_il2 K dX7_isFirst_40 ?_
      refine aw_zret K rfl dX7_isFirst_41 (n01 (ndV_01 _ _ _)) ?_
      exact ⟨rfl, rfl⟩
    · exact absurd (Int32.le_refl _) b6
  | succ n ih =>
    intro i k1
    refine aw_il3 K dX7_isFirst_4 ?_
    refine aw_il1 K dX7_isFirst_5 ?_
    refine aw_icmp_ge (tgt := 40) K dX7_isFirst_6 (by decide) (fun b6 => ?_) (fun b6 => ?_)
    · exact absurd b6 (nI_ge (by omega) (by omega))
    · refine aw_il2 K dX7_isFirst_9 ?_
      refine aw_if_eq (tgt := 32) K dX7_isFirst_10 (by decide) (fun b10 => ?_) (fun b10 => ?_)
      · refine aw_iconst (v := 0) K dX7_isFirst_32 (by decide) ?_
        refine aw_is2 K dX7_isFirst_33 (by decide) rfl ?_
        refine aw_ii3 (v := _ + 1) K dX7_isFirst_34 rfl (by decide) rfl ?_
        refine aw_goto (tgt := 4) K dX7_isFirst_37 (by decide) ?_
        rw [nI_1]
        have e : ndV (h.1 20) (h.1 20 w0) (i + 1) = 0 := by
          unfold ndV
          split
          · rfl
          · exact b10
        have z := ih (i + 1) (by omega)
        rw [e] at z
        exact z
      · refine aw_al0 K dX7_isFirst_13 ?_
        refine aw_getR K gX7_68 dX7_isFirst_14 rfl rfl ?_
        refine aw_il3 K dX7_isFirst_17 ?_
        refine aw_iald K dX7_isFirst_18 rfl (vp_in_nI (by omega) (by decide)) ?_
        refine aw_al0 K dX7_isFirst_19 ?_
        refine aw_getR K gX7_68 dX7_isFirst_20 rfl rfl ?_
        refine aw_il1 K dX7_isFirst_23 ?_
        refine aw_iald K dX7_isFirst_24 rfl (vp_in_nI (by omega) (by decide)) ?_
        rw [nI_clamp (show i < 2 ^ 31 by omega), nI_clamp (show w0 < 2 ^ 31 by omega)]
        refine aw_icmp_eq (tgt := 32) K dX7_isFirst_25 (by decide) (fun b25 => ?_) (fun b25 => ?_)
        · refine aw_iconst (v := 0) K dX7_isFirst_32 (by decide) ?_
          refine aw_is2 K dX7_isFirst_33 (by decide) rfl ?_
          refine aw_ii3 (v := _ + 1) K dX7_isFirst_34 rfl (by decide) rfl ?_
          refine aw_goto (tgt := 4) K dX7_isFirst_37 (by decide) ?_
          rw [nI_1]
          have z := ih (i + 1) (by omega)
          rw [show ndV (h.1 20) (h.1 20 w0) (i + 1) = 0 from if_pos b25] at z
          exact z
        · refine aw_iconst (v := 1) K dX7_isFirst_28 (by decide) ?_
          refine aw_goto (tgt := 33) K dX7_isFirst_29 (by decide) ?_
          refine aw_is2 K dX7_isFirst_33 (by decide) rfl ?_
          refine aw_ii3 (v := _ + 1) K dX7_isFirst_34 rfl (by decide) rfl ?_
          refine aw_goto (tgt := 4) K dX7_isFirst_37 (by decide) ?_
          rw [nI_1]
          have z := ih (i + 1) (by omega)
          rw [show ndV (h.1 20) (h.1 20 w0) (i + 1) = 1 from (if_neg b25).trans ((ndV_01 _ _ _).resolve_right b10)] at z
          exact z
set_option maxHeartbeats 4000000 in
set_option maxRecDepth 100000 in
theorem tX7_isFirst (l : Launch) (g : Geo) (sta : Nat → Nat) (h : HS) (w0 : Nat) (hw : w0 < 24) : CT (wM l g sta) 1 mX7_isFirst [.ref (g.2.1 0), .int (nI w0)] h (DI (isF h.1 w0) h) := by
  refine CT.at [some (.ref (g.2.1 0)), some (.int (nI w0)), none, none] 2 rfl (by decide) (Nat.le_of_ble_eq_true rfl) (fun k K => ?_)
  refine aw_iconst (v := 1) K dX7_isFirst_0 (by decide) ?_
  refine aw_is2 K dX7_isFirst_1 (by decide) rfl ?_
  refine aw_iconst (v := 0) K dX7_isFirst_2 (by decide) ?_
  refine aw_is3 K dX7_isFirst_3 (by decide) rfl ?_
  exact lpX7_isFirst K h w0 hw w0 0 (by omega)

set_option maxHeartbeats 4000000 in
set_option maxRecDepth 100000 in
theorem lpX7_counts {l : Launch} {g : Geo} {sta : Nat → Nat} {k : KT} (K : AOK (wM l g sta) mX7_counts k) (h : HS) (w0 : Nat) (hw : w0 < 24) {N T Wn : Nat} (H : MW h N T Wn) (r : Int32) :
    ∀ (n i : Nat), i + n = Wn → csV h.1 w0 n i = r → AW (wM l g sta) (DI r h) 2 mX7_counts k 10 [some (.ref (g.2.1 0)), some (.int (nI w0)), some (.int 1), some (.int (nI i))] [] h := by
  intro n
  have h3 := H.2.2.1.2
  induction n with
  | zero =>
    intro i k1 k2
    obtain rfl : i = Wn := by omega
    have e : r = 1 := k2.symm
    subst e
    refine aw_il3 K dX7_counts_10 ?_
    refine aw_al0 K dX7_counts_11 ?_
    refine aw_getI K gX7_235 dX7_counts_12 rfl rfl ?_
    rw [H.2.2.1.1]
    refine aw_icmp_ge (tgt := 72) K dX7_counts_15 (by decide) (fun b15 => ?_) (fun b15 => ?_)
    · refine aw_il2 K dX7_counts_72 ?_
      refine aw_zret K rfl dX7_counts_73 (by first | rfl | exact bI_nar _) ?_
      exact ⟨rfl, rfl⟩
    · exact absurd (Int32.le_refl _) b15
  | succ n ih =>
    intro i k1 k2
    unfold csV at k2
    refine aw_il3 K dX7_counts_10 ?_
    refine aw_al0 K dX7_counts_11 ?_
    refine aw_getI K gX7_235 dX7_counts_12 rfl rfl ?_
    rw [H.2.2.1.1]
    refine aw_icmp_ge (tgt := 72) K dX7_counts_15 (by decide) (fun b15 => ?_) (fun b15 => ?_)
    · exact absurd b15 (nI_ge (by omega) (by omega))
    · refine aw_il2 K dX7_counts_18 ?_
      refine aw_if_eq (tgt := 72) K dX7_counts_19 (by decide) (fun b19 => ?_) (fun b19 => ?_)
      · exact absurd b19 (by decide)
      · refine aw_al0 K dX7_counts_22 ?_
        refine aw_getR K gX7_62 dX7_counts_23 rfl rfl ?_
        refine aw_il3 K dX7_counts_26 ?_
        refine aw_iald K dX7_counts_27 rfl (vp_in_nI (by omega) (by decide)) ?_
        refine aw_al0 K dX7_counts_28 ?_
        refine aw_getR K gX7_62 dX7_counts_29 rfl rfl ?_
        refine aw_il1 K dX7_counts_32 ?_
        refine aw_iald K dX7_counts_33 rfl (vp_in_nI (by omega) (by decide)) ?_
        rw [nI_clamp (show i < 2 ^ 31 by omega), nI_clamp (show w0 < 2 ^ 31 by omega)]
        refine aw_icmp_ne (tgt := 60) K dX7_counts_34 (by decide) (fun b34 => ?_) (fun b34 => ?_)
        · refine aw_iconst (v := 1) K dX7_counts_60 (by decide) ?_
          refine aw_goto (tgt := 65) K dX7_counts_61 (by decide) ?_
          refine aw_is2 K dX7_counts_65 (by decide) rfl ?_
          refine aw_ii3 (v := _ + 1) K dX7_counts_66 rfl (by decide) rfl ?_
          refine aw_goto (tgt := 10) K dX7_counts_69 (by decide) ?_
          rw [nI_1]
          rw [if_neg (fun q => b34 q.1)] at k2
          exact ih (i + 1) (by omega) k2
        · refine aw_al0 K dX7_counts_37 ?_
          refine aw_getR K gX7_65 dX7_counts_38 rfl rfl ?_
          refine aw_il3 K dX7_counts_41 ?_
          refine aw_iald K dX7_counts_42 rfl (vp_in_nI (by omega) (by decide)) ?_
          refine aw_al0 K dX7_counts_43 ?_
          refine aw_getR K gX7_65 dX7_counts_44 rfl rfl ?_
          refine aw_il1 K dX7_counts_47 ?_
          refine aw_iald K dX7_counts_48 rfl (vp_in_nI (by omega) (by decide)) ?_
          rw [nI_clamp (show i < 2 ^ 31 by omega), nI_clamp (show w0 < 2 ^ 31 by omega)]
          refine aw_icmp_ne (tgt := 60) K dX7_counts_49 (by decide) (fun b49 => ?_) (fun b49 => ?_)
          · refine aw_iconst (v := 1) K dX7_counts_60 (by decide) ?_
            refine aw_goto (tgt := 65) K dX7_counts_61 (by decide) ?_
            refine aw_is2 K dX7_counts_65 (by decide) rfl ?_
            refine aw_ii3 (v := _ + 1) K dX7_counts_66 rfl (by decide) rfl ?_
            refine aw_goto (tgt := 10) K dX7_counts_69 (by decide) ?_
            rw [nI_1]
            rw [if_neg (fun q => b49 q.2.1)] at k2
            exact ih (i + 1) (by omega) k2
          · refine aw_al0 K dX7_counts_52 ?_
            refine aw_il3 K dX7_counts_53 ?_
            refine aw_callV_I K (tX7_isFirst l g sta _ i (by omega)) rfl (by decide) fX7_isFirst lX7_246 dX7_counts_54 rfl clsX7 rfl (Nat.le_of_ble_eq_true rfl) ?_
            refine aw_if_ne (tgt := 64) K dX7_counts_57 (by decide) (fun b57 => ?_) (fun b57 => ?_)
            · refine aw_iconst (v := 0) K dX7_counts_64 (by decide) ?_
              refine aw_is2 K dX7_counts_65 (by decide) rfl ?_
              refine aw_ii3 (v := _ + 1) K dX7_counts_66 rfl (by decide) rfl ?_
              refine aw_goto (tgt := 10) K dX7_counts_69 (by decide) ?_
              rw [nI_1]
              rw [if_pos ⟨b34, b49, b57⟩] at k2
              subst k2
              refine aw_il3 K dX7_counts_10 ?_
              refine aw_al0 K dX7_counts_11 ?_
              refine aw_getI K gX7_235 dX7_counts_12 rfl rfl ?_
              rw [H.2.2.1.1]
              refine aw_icmp_ge (tgt := 72) K dX7_counts_15 (by decide) (fun b15 => ?_) (fun b15 => ?_)
              · refine aw_il2 K dX7_counts_72 ?_
                refine aw_zret K rfl dX7_counts_73 (n01 (Or.inr rfl)) ?_
                exact ⟨rfl, rfl⟩
              · refine aw_il2 K dX7_counts_18 ?_
                refine aw_if_eq (tgt := 72) K dX7_counts_19 (by decide) (fun b19 => ?_) (fun b19 => ?_)
                · refine aw_il2 K dX7_counts_72 ?_
                  refine aw_zret K rfl dX7_counts_73 (n01 (Or.inr rfl)) ?_
                  exact ⟨rfl, rfl⟩
                · exact absurd rfl b19
            · refine aw_iconst (v := 1) K dX7_counts_60 (by decide) ?_
              refine aw_goto (tgt := 65) K dX7_counts_61 (by decide) ?_
              refine aw_is2 K dX7_counts_65 (by decide) rfl ?_
              refine aw_ii3 (v := _ + 1) K dX7_counts_66 rfl (by decide) rfl ?_
              refine aw_goto (tgt := 10) K dX7_counts_69 (by decide) ?_
              rw [nI_1]
              rw [if_neg (fun q => q.2.2 b57)] at k2
              exact ih (i + 1) (by omega) k2
set_option maxHeartbeats 4000000 in
set_option maxRecDepth 100000 in
theorem tX7_counts (l : Launch) (g : Geo) (sta : Nat → Nat) (h : HS) (w0 : Nat) (hw : w0 < 24) {N T Wn : Nat} (H : MW h N T Wn) (hw2 : w0 < Wn) : CT (wM l g sta) 2 mX7_counts [.ref (g.2.1 0), .int (nI w0)] h (DI (ctV h.1 Wn w0) h) := by
  refine CT.at [some (.ref (g.2.1 0)), some (.int (nI w0)), none, none] 2 rfl (by decide) (Nat.le_of_ble_eq_true rfl) (fun k K => ?_)
  refine aw_al0 K dX7_counts_0 ?_
  refine aw_il1 K dX7_counts_1 ?_
  refine aw_callV_I K (tX7_isFirst l g sta _ w0 hw) rfl (by decide) fX7_isFirst lX7_246 dX7_counts_2 rfl clsX7 rfl (Nat.le_of_ble_eq_true rfl) ?_
  refine aw_is2 K dX7_counts_5 (by decide) rfl ?_
  refine aw_il1 K dX7_counts_6 ?_
  refine aw_iconst (v := 1) K dX7_counts_7 (by decide) ?_
  refine aw_iadd K dX7_counts_8 ?_
  rw [nI_1]
  refine aw_is3 K dX7_counts_9 (by decide) rfl ?_
  unfold ctV
  by_cases q : isF h.1 w0 = 0
  · rw [q, if_pos rfl]
    refine aw_il3 K dX7_counts_10 ?_
    refine aw_al0 K dX7_counts_11 ?_
    refine aw_getI K gX7_235 dX7_counts_12 rfl rfl ?_
    rw [H.2.2.1.1]
    refine aw_icmp_ge (tgt := 72) K dX7_counts_15 (by decide) (fun b15 => ?_) (fun b15 => ?_)
    · refine aw_il2 K dX7_counts_72 ?_
      refine aw_zret K rfl dX7_counts_73 (n01 (Or.inr rfl)) ?_
      exact ⟨rfl, rfl⟩
    · refine aw_il2 K dX7_counts_18 ?_
      refine aw_if_eq (tgt := 72) K dX7_counts_19 (by decide) (fun b19 => ?_) (fun b19 => ?_)
      · refine aw_il2 K dX7_counts_72 ?_
        refine aw_zret K rfl dX7_counts_73 (n01 (Or.inr rfl)) ?_
        exact ⟨rfl, rfl⟩
      · exact absurd rfl b19
  · rw [if_neg q, show isF h.1 w0 = 1 from (ndV_01 _ _ _).resolve_right q]
    exact lpX7_counts K h w0 hw H _ (Wn - (w0 + 1)) (w0 + 1) (by omega) rfl

set_option maxHeartbeats 4000000 in
set_option maxRecDepth 100000 in
theorem lpX7_wordBy {l : Launch} {g : Geo} {sta : Nat → Nat} {k : KT} (K : AOK (wM l g sta) mX7_wordBy k) (h : HS) (a b : Int32) {N T Wn : Nat} (H : MW h N T Wn) :
    ∀ (n i : Nat), i + n = Wn → AW (wM l g sta) (DI (wbV h.1 Wn a b Wn) h) 3 mX7_wordBy k 6 [some (.ref (g.2.1 0)), some (.int a), some (.int b), some (.int (wbV h.1 Wn a b i)), some (.int (nI i))] [] h := by
  intro n
  have h3 := H.2.2.1.2
  induction n with
  | zero =>
    intro i k1
    obtain rfl : i = Wn := by omega
    refine aw_il4 K dX7_wordBy_6 ?_
    refine aw_al0 K dX7_wordBy_8 ?_
    refine aw_getI K gX7_235 dX7_wordBy_9 rfl rfl ?_
    rw [H.2.2.1.1]
    refine aw_icmp_ge (tgt := 59) K dX7_wordBy_12 (by decide) (fun b12 => ?_) (fun b12 => ?_)
    · refine aw_il3 K dX7_wordBy_59 ?_
      refine aw_iret K rfl dX7_wordBy_60 ?_
      exact ⟨rfl, rfl⟩
    · exact absurd (Int32.le_refl _) b12
  | succ n ih =>
    intro i k1
    refine aw_il4 K dX7_wordBy_6 ?_
    refine aw_al0 K dX7_wordBy_8 ?_
    refine aw_getI K gX7_235 dX7_wordBy_9 rfl rfl ?_
    rw [H.2.2.1.1]
    refine aw_icmp_ge (tgt := 59) K dX7_wordBy_12 (by decide) (fun b12 => ?_) (fun b12 => ?_)
    · exact absurd b12 (nI_ge (by omega) (by omega))
    · refine aw_al0 K dX7_wordBy_15 ?_
      refine aw_getR K gX7_62 dX7_wordBy_16 rfl rfl ?_
      refine aw_il4 K dX7_wordBy_19 ?_
      refine aw_iald K dX7_wordBy_21 rfl (vp_in_nI (by omega) (by decide)) ?_
      rw [nI_clamp (show i < 2 ^ 31 by omega)]
      refine aw_il1 K dX7_wordBy_22 ?_
      refine aw_icmp_ne (tgt := 51) K dX7_wordBy_23 (by decide) (fun b23 => ?_) (fun b23 => ?_)
      · refine aw_il3 K dX7_wordBy_51 ?_
        refine aw_is3 K dX7_wordBy_52 (by decide) rfl ?_
        refine aw_ii4 (v := _ + 1) K dX7_wordBy_53 rfl (by decide) rfl ?_
        refine aw_goto (tgt := 6) K dX7_wordBy_56 (by decide) ?_
        rw [nI_1]
        have z := ih (i + 1) (by omega)
        rw [show wbV h.1 Wn a b (i + 1) = wbV h.1 Wn a b i from if_neg (fun q => b23 q.1)] at z
        exact z
      · refine aw_al0 K dX7_wordBy_26 ?_
        refine aw_getR K gX7_65 dX7_wordBy_27 rfl rfl ?_
        refine aw_il4 K dX7_wordBy_30 ?_
        refine aw_iald K dX7_wordBy_32 rfl (vp_in_nI (by omega) (by decide)) ?_
        rw [nI_clamp (show i < 2 ^ 31 by omega)]
        refine aw_il2 K dX7_wordBy_33 ?_
        refine aw_icmp_ne (tgt := 51) K dX7_wordBy_34 (by decide) (fun b34 => ?_) (fun b34 => ?_)
        · refine aw_il3 K dX7_wordBy_51 ?_
          refine aw_is3 K dX7_wordBy_52 (by decide) rfl ?_
          refine aw_ii4 (v := _ + 1) K dX7_wordBy_53 rfl (by decide) rfl ?_
          refine aw_goto (tgt := 6) K dX7_wordBy_56 (by decide) ?_
          rw [nI_1]
          have z := ih (i + 1) (by omega)
          rw [show wbV h.1 Wn a b (i + 1) = wbV h.1 Wn a b i from if_neg (fun q => b34 q.2.1)] at z
          exact z
        · refine aw_al0 K dX7_wordBy_37 ?_
          refine aw_il4 K dX7_wordBy_38 ?_
          refine aw_callV_I K (tX7_counts l g sta _ i (by omega) H (by omega)) rfl (by decide) fX7_counts lX7_249 dX7_wordBy_40 rfl clsX7 rfl (Nat.le_of_ble_eq_true rfl) ?_
          refine aw_if_eq (tgt := 51) K dX7_wordBy_43 (by decide) (fun b43 => ?_) (fun b43 => ?_)
          · refine aw_il3 K dX7_wordBy_51 ?_
            refine aw_is3 K dX7_wordBy_52 (by decide) rfl ?_
            refine aw_ii4 (v := _ + 1) K dX7_wordBy_53 rfl (by decide) rfl ?_
            refine aw_goto (tgt := 6) K dX7_wordBy_56 (by decide) ?_
            rw [nI_1]
            have z := ih (i + 1) (by omega)
            rw [show wbV h.1 Wn a b (i + 1) = wbV h.1 Wn a b i from if_neg (fun q => q.2.2 b43)] at z
            exact z
          · refine aw_il4 K dX7_wordBy_46 ?_
            refine aw_goto (tgt := 52) K dX7_wordBy_48 (by decide) ?_
            refine aw_is3 K dX7_wordBy_52 (by decide) rfl ?_
            refine aw_ii4 (v := _ + 1) K dX7_wordBy_53 rfl (by decide) rfl ?_
            refine aw_goto (tgt := 6) K dX7_wordBy_56 (by decide) ?_
            rw [nI_1]
            have z := ih (i + 1) (by omega)
            rw [show wbV h.1 Wn a b (i + 1) = nI i from if_pos ⟨b23, b34, b43⟩] at z
            exact z
set_option maxHeartbeats 4000000 in
set_option maxRecDepth 100000 in
theorem tX7_wordBy (l : Launch) (g : Geo) (sta : Nat → Nat) (h : HS) (a b : Int32) {N T Wn : Nat} (H : MW h N T Wn) : CT (wM l g sta) 3 mX7_wordBy [.ref (g.2.1 0), .int a, .int b] h (DI (wbV h.1 Wn a b Wn) h) := by
  refine CT.at [some (.ref (g.2.1 0)), some (.int a), some (.int b), none, none] 2 rfl (by decide) (Nat.le_of_ble_eq_true rfl) (fun k K => ?_)
  refine aw_bipush (v := (-4)) K dX7_wordBy_0 (by decide) ?_
  refine aw_is3 K dX7_wordBy_2 (by decide) rfl ?_
  refine aw_iconst (v := 0) K dX7_wordBy_3 (by decide) ?_
  refine aw_is4 K dX7_wordBy_4 (by decide) rfl ?_
  exact lpX7_wordBy K h a b H Wn 0 (by omega)

set_option maxHeartbeats 4000000 in
set_option maxRecDepth 100000 in
theorem lpX7_sayersOf {l : Launch} {g : Geo} {sta : Nat → Nat} {k : KT} (K : AOK (wM l g sta) mX7_sayersOf k) (h : HS) (b : Int32) {N T Wn : Nat} (H : MW h N T Wn) :
    ∀ (n i : Nat), i + n = N → AW (wM l g sta) (DI (syV h.1 N Wn b) h) 4 mX7_sayersOf k 4 [some (.ref (g.2.1 0)), some (.int b), some (.int (syV h.1 i Wn b)), some (.int (nI i))] [] h := by
  intro n
  have h3 := H.1.2
  induction n with
  | zero =>
    intro i k1
    obtain rfl : i = N := by omega
    refine aw_il3 K dX7_sayersOf_4 ?_
    refine aw_al0 K dX7_sayersOf_5 ?_
    refine aw_getI K gX7_98 dX7_sayersOf_6 rfl rfl ?_
    rw [H.1.1]
    refine aw_icmp_ge (tgt := 48) K dX7_sayersOf_9 (by decide) (fun b9 => ?_) (fun b9 => ?_)
    · refine aw_il2 K dX7_sayersOf_48 ?_
      refine aw_iret K rfl dX7_sayersOf_49 ?_
      exact ⟨rfl, rfl⟩
    · exact absurd (Int32.le_refl _) b9
  | succ n ih =>
    intro i k1
    refine aw_il3 K dX7_sayersOf_4 ?_
    refine aw_al0 K dX7_sayersOf_5 ?_
    refine aw_getI K gX7_98 dX7_sayersOf_6 rfl rfl ?_
    rw [H.1.1]
    refine aw_icmp_ge (tgt := 48) K dX7_sayersOf_9 (by decide) (fun b9 => ?_) (fun b9 => ?_)
    · exact absurd b9 (nI_ge (by omega) (by omega))
    · refine aw_il2 K dX7_sayersOf_12 ?_
      refine aw_al0 K dX7_sayersOf_13 ?_
      refine aw_getR K gX7_17 dX7_sayersOf_14 rfl rfl ?_
      refine aw_il3 K dX7_sayersOf_17 ?_
      refine aw_zald K dX7_sayersOf_18 rfl (vp_in_nI (by omega) (by decide)) ?_
      rw [nI_clamp (show i < 2 ^ 31 by omega)]
      refine aw_if_ne (tgt := 39) K dX7_sayersOf_19 (by decide) (fun b19 => ?_) (fun b19 => ?_)
      · refine aw_iconst (v := 0) K dX7_sayersOf_39 (by decide) ?_
        refine aw_ior K dX7_sayersOf_40 ?_
        refine aw_is2 K dX7_sayersOf_41 (by decide) rfl ?_
        refine aw_ii3 (v := _ + 1) K dX7_sayersOf_42 rfl (by decide) rfl ?_
        refine aw_goto (tgt := 4) K dX7_sayersOf_45 (by decide) ?_
        rw [nI_1]
        have z := ih (i + 1) (by omega)
        rw [show syV h.1 (i + 1) Wn b = syV h.1 i Wn b ||| 0 from congrArg (syV h.1 i Wn b ||| ·) (if_neg (fun q => b19 q.1))] at z
        exact z
      · refine aw_al0 K dX7_sayersOf_22 ?_
        refine aw_il3 K dX7_sayersOf_23 ?_
        refine aw_il1 K dX7_sayersOf_24 ?_
        refine aw_callV_I K (tX7_wordBy l g sta _ _ _ H) rfl (by decide) fX7_wordBy lX7_252 dX7_sayersOf_25 rfl clsX7 rfl (Nat.le_of_ble_eq_true rfl) ?_
        refine aw_bipush (v := (-4)) K dX7_sayersOf_28 (by decide) ?_
        refine aw_icmp_eq (tgt := 39) K dX7_sayersOf_30 (by decide) (fun b30 => ?_) (fun b30 => ?_)
        · refine aw_iconst (v := 0) K dX7_sayersOf_39 (by decide) ?_
          refine aw_ior K dX7_sayersOf_40 ?_
          refine aw_is2 K dX7_sayersOf_41 (by decide) rfl ?_
          refine aw_ii3 (v := _ + 1) K dX7_sayersOf_42 rfl (by decide) rfl ?_
          refine aw_goto (tgt := 4) K dX7_sayersOf_45 (by decide) ?_
          rw [nI_1]
          have z := ih (i + 1) (by omega)
          rw [show syV h.1 (i + 1) Wn b = syV h.1 i Wn b ||| 0 from congrArg (syV h.1 i Wn b ||| ·) (if_neg (fun q => q.2 b30))] at z
          exact z
        · refine aw_iconst (v := 1) K dX7_sayersOf_33 (by decide) ?_
          refine aw_il3 K dX7_sayersOf_34 ?_
          refine aw_ishl K dX7_sayersOf_35 ?_
          refine aw_goto (tgt := 40) K dX7_sayersOf_36 (by decide) ?_
          refine aw_ior K dX7_sayersOf_40 ?_
          refine aw_is2 K dX7_sayersOf_41 (by decide) rfl ?_
          refine aw_ii3 (v := _ + 1) K dX7_sayersOf_42 rfl (by decide) rfl ?_
          refine aw_goto (tgt := 4) K dX7_sayersOf_45 (by decide) ?_
          rw [nI_1]
          have z := ih (i + 1) (by omega)
          rw [show syV h.1 (i + 1) Wn b = syV h.1 i Wn b ||| (1 : Int32) <<< (nI i &&& 31) from congrArg (syV h.1 i Wn b ||| ·) (if_pos ⟨b19, b30⟩)] at z
          exact z
set_option maxHeartbeats 4000000 in
set_option maxRecDepth 100000 in
theorem tX7_sayersOf (l : Launch) (g : Geo) (sta : Nat → Nat) (h : HS) (b : Int32) {N T Wn : Nat} (H : MW h N T Wn) : CT (wM l g sta) 4 mX7_sayersOf [.ref (g.2.1 0), .int b] h (DI (syV h.1 N Wn b) h) := by
  refine CT.at [some (.ref (g.2.1 0)), some (.int b), none, none] 2 rfl (by decide) (Nat.le_of_ble_eq_true rfl) (fun k K => ?_)
  refine aw_iconst (v := 0) K dX7_sayersOf_0 (by decide) ?_
  refine aw_is2 K dX7_sayersOf_1 (by decide) rfl ?_
  refine aw_iconst (v := 0) K dX7_sayersOf_2 (by decide) ?_
  refine aw_is3 K dX7_sayersOf_3 (by decide) rfl ?_
  exact lpX7_sayersOf K h b H N 0 (by omega)

theorem orU_b {f : Nat → Int32} {i : Nat} (hi : i < 32) : ∀ n, bt (orU f n) i = true ↔ ∃ j, j < n ∧ bt (f j) i = true
  | 0 => by
    simp only [orU, b_0]
    exact ⟨fun h => absurd h (by decide), fun ⟨j, h, _⟩ => absurd h (Nat.not_lt_zero _)⟩
  | n + 1 => by
    simp only [orU, b_or, Bool.or_eq_true, orU_b hi n]
    constructor
    · rintro (⟨j, h1, h2⟩ | h)
      · exact ⟨j, by omega, h2⟩
      · exact ⟨n, by omega, h⟩
    · rintro ⟨j, h1, h2⟩
      rcases Nat.lt_or_ge j n with q | q
      · exact Or.inl ⟨j, q, h2⟩
      · obtain rfl : j = n := by omega
        exact Or.inr h2
theorem syV_b {v : Nat → Nat → Int32} {N Wn : Nat} {b : Int32} (hN : N ≤ 12) {a : Nat} (ha : a < 32) : bt (syV v N Wn b) a = true ↔ a < N ∧ v 3 a = 0 ∧ ¬ wbV v Wn (nI a) b Wn = -4 := by
  unfold syV
  rw [orU_b ha]
  constructor
  · rintro ⟨j, h1, h2⟩
    split at h2
    · rename_i q
      rw [b_sh1 (by omega) ha] at h2
      have e : a = j := of_decide_eq_true h2
      subst e
      exact ⟨h1, q⟩
    · rw [b_0] at h2
      exact absurd h2 (by decide)
  · rintro ⟨h1, h2⟩
    refine ⟨a, h1, ?_⟩
    rw [if_pos h2, b_sh1 ha ha]
    simp
/-- cells that a query of the reference may change -/
def msc (c : Nat) : Bool := c == 0 || c == 15 || c == 16 || c == 17 || c == 23 || c == 24
def MS (h h' : HS) : Prop := (∀ c, msc c = false → h'.1 c = h.1 c) ∧ ∀ j, j ≠ 33 → j ≠ 36 → j ≠ 37 → h'.1 0 j = h.1 0 j
theorem MS.rf {h : HS} : MS h h := ⟨fun _ _ => rfl, fun _ _ _ _ => rfl⟩
theorem MS.tr {h h1 h2 : HS} (a : MS h h1) (b : MS h1 h2) : MS h h2 := ⟨fun c hc => (b.1 c hc).trans (a.1 c hc), fun j q1 q2 q3 => (b.2 j q1 q2 q3).trans (a.2 j q1 q2 q3)⟩
theorem MS.row {h h1 : HS} {c0 : Nat} {f : Nat → Int32} (a : MS h h1) (hc0 : msc c0 = true) (h0 : c0 ≠ 0) : MS h (setR h1 c0 f) := by
  refine ⟨fun c hc => ?_, fun j q1 q2 q3 => ?_⟩
  · rw [rdR, if_neg (fun q => by rw [q, hc0] at hc; cases hc)]
    exact a.1 c hc
  · rw [rdR, if_neg (Ne.symm h0)]
    exact a.2 j q1 q2 q3
theorem MS.pt {h h1 : HS} {c0 j0 : Nat} {v : Int32} (a : MS h h1) (hc0 : msc c0 = true) (h0 : c0 ≠ 0) : MS h (setI h1 c0 j0 v) := a.row hc0 h0
theorem MS.fl {h h1 : HS} {j0 : Nat} {v : Int32} (a : MS h h1) (hj : j0 = 33 ∨ j0 = 36 ∨ j0 = 37) : MS h (setI h1 0 j0 v) := by
  refine ⟨fun c hc => ?_, fun j q1 q2 q3 => ?_⟩
  · rw [setI_w (fun q => by rw [q] at hc; cases hc)]
    exact a.1 c hc
  · rw [rdI, if_neg (fun q => by omega)]
    exact a.2 j q1 q2 q3
theorem MS.lo {h h1 : HS} {c0 j0 : Nat} {v : Int64} (a : MS h h1) : MS h (setL h1 c0 j0 v) := a
theorem MW.q {h h' : HS} {N T Wn : Nat} (H : MW h N T Wn) (q : MS h h') : MW h' N T Wn := by
  refine H.e (fun c hc => q.1 c ?_) (q.2 0 (by decide) (by decide) (by decide)) (q.2 6 (by decide) (by decide) (by decide)) (q.2 27 (by decide) (by decide) (by decide))
  rcases hc with rfl | rfl | rfl | rfl | rfl <;> rfl
def MSV (h0 : HS) : Option Value → HS → Prop := fun o h' => o = none ∧ MS h0 h'
def MSI (h0 : HS) : Option Value → HS → Prop := fun o h' => (∃ r : Int32, o = some (.int r)) ∧ MS h0 h'
def MSL (h0 : HS) : Option Value → HS → Prop := fun o h' => (∃ r : Int64, o = some (.long r)) ∧ MS h0 h'
/-- cells that the flow may change -/
def fsc (c : Nat) : Bool := c == 15 || c == 16 || c == 17
def FS (h h' : HS) : Prop := ∀ c, fsc c = false → h'.1 c = h.1 c
theorem FS.rf {h : HS} : FS h h := fun _ _ => rfl
theorem FS.tr {h h1 h2 : HS} (a : FS h h1) (b : FS h1 h2) : FS h h2 := fun c hc => (b c hc).trans (a c hc)
theorem FS.pt {h h1 : HS} {c0 j0 : Nat} {v : Int32} (a : FS h h1) (hc0 : fsc c0 = true) (_ : c0 ≠ 0) : FS h (setI h1 c0 j0 v) := fun c hc => by
  rw [setI_w (fun q => by rw [q, hc0] at hc; cases hc)]
  exact a c hc
theorem FS.ms {h h' : HS} (a : FS h h') : MS h h' := by
  refine ⟨fun c hc => a c ?_, fun j _ _ _ => by rw [a 0 rfl]⟩
  cases q : fsc c
  · rfl
  · simp only [fsc, Bool.or_eq_true, beq_iff_eq] at q
    rcases q with (rfl | rfl) | rfl <;> cases hc
theorem MW.f {h h' : HS} {N T Wn : Nat} (H : MW h N T Wn) (q : FS h h') : MW h' N T Wn := H.q q.ms
def FSV (h0 : HS) : Option Value → HS → Prop := fun o h' => o = none ∧ FS h0 h'
def FSI (h0 : HS) : Option Value → HS → Prop := fun o h' => (∃ r : Int32, o = some (.int r)) ∧ FS h0 h'
theorem ix14m {a b : Int32} (ha : vp_in a 14) (hb : vp_in b 14) : vp_in (14 * a + b) 196 := by
  rw [Int32.mul_comm]
  exact ix14 ha hb
theorem xm {a b : Nat} : (14 : Int32) * nI a + nI b = nI (14 * a + b) := by
  rw [show (14 : Int32) = nI 14 from rfl, pk_mul, nI_add]
set_option maxHeartbeats 4000000 in
set_option maxRecDepth 100000 in
theorem lp3X7_begins {l : Launch} {g : Geo} {sta : Nat → Nat} {k : KT} (K : AOK (wM l g sta) mX7_begins k) (h0 : HS) {N T Wn : Nat} (H0 : MW h0 N T Wn) :
    ∀ (n i : Nat) (h : HS), i + n = T → FS h0 h → AW (wM l g sta) (FSV h0) 5 mX7_begins k 55 [some (.ref (g.2.1 0)), some (.int (nI i)), none] [] h := by
  intro n
  have h3 := H0.2.1.2
  induction n with
  | zero =>
    intro i h k1 hx
    have H := H0.f hx
    obtain rfl : i = T := by omega
    refine aw_il1 K dX7_begins_55 ?_
    refine aw_al0 K dX7_begins_56 ?_
    refine aw_getI K gX7_121 dX7_begins_57 rfl rfl ?_
    rw [H.2.1.1]
    refine aw_icmp_ge (tgt := 125) K dX7_begins_60 (by decide) (fun b60 => ?_) (fun b60 => ?_)
    · refine aw_vret K rfl dX7_begins_125 ?_
      exact ⟨rfl, hx⟩
    · exact absurd (Int32.le_refl _) b60
  | succ n ih =>
    intro i h k1 hx
    have H := H0.f hx
    have v1 := vp_mono (H.2.2.2.1 i) (show 12 ≤ 14 by decide)
    have v2 := vp_mono (H.2.2.2.2.1 i) (show 12 ≤ 14 by decide)
    refine aw_il1 K dX7_begins_55 ?_
    refine aw_al0 K dX7_begins_56 ?_
    refine aw_getI K gX7_121 dX7_begins_57 rfl rfl ?_
    rw [H.2.1.1]
    refine aw_icmp_ge (tgt := 125) K dX7_begins_60 (by decide) (fun b60 => ?_) (fun b60 => ?_)
    · exact absurd b60 (nI_ge (by omega) (by omega))
    · refine aw_al0 K dX7_begins_63 ?_
      refine aw_il1 K dX7_begins_64 ?_
      refine aw_callV_I K (tX7_roomOf l g sta _ _ (vp_in_nI (by omega) (by decide)) H) rfl (by decide) fX7_roomOf lX7_136 dX7_begins_65 rfl clsX7 rfl (Nat.le_of_ble_eq_true rfl) ?_
      refine aw_is2 K dX7_begins_68 (by decide) rfl ?_
      refine aw_al0 K dX7_begins_69 ?_
      refine aw_getR K gX7_53 dX7_begins_70 rfl rfl ?_
      refine aw_bipush (v := 14) K dX7_begins_73 (by decide) ?_
      refine aw_al0 K dX7_begins_75 ?_
      refine aw_getR K gX7_26 dX7_begins_76 rfl rfl ?_
      refine aw_il1 K dX7_begins_79 ?_
      refine aw_iald K dX7_begins_80 rfl (vp_in_nI (by omega) (by decide)) ?_
      rw [nI_clamp (show i < 2 ^ 31 by omega)]
      refine aw_imul K dX7_begins_81 ?_
      refine aw_al0 K dX7_begins_82 ?_
      refine aw_getR K gX7_29 dX7_begins_83 rfl rfl ?_
      refine aw_il1 K dX7_begins_86 ?_
      refine aw_iald K dX7_begins_87 rfl (vp_in_nI (by omega) (by decide)) ?_
      rw [nI_clamp (show i < 2 ^ 31 by omega)]
      refine aw_iadd K dX7_begins_88 ?_
      refine aw_dup2_11 K dX7_begins_89 rfl rfl ?_
      refine aw_iald K dX7_begins_90 rfl (ix14m v1 v2) ?_
      refine aw_il2 K dX7_begins_91 ?_
      refine aw_iadd K dX7_begins_92 ?_
      refine aw_iast K dX7_begins_93 rfl (ix14m v1 v2) ?_
      refine aw_al0 K dX7_begins_94 ?_
      refine aw_getR K gX7_53 dX7_begins_95 rfl rfl ?_
      refine aw_bipush (v := 14) K dX7_begins_98 (by decide) ?_
      refine aw_al0 K dX7_begins_100 ?_
      refine aw_getR K gX7_29 dX7_begins_101 rfl rfl ?_
      refine aw_il1 K dX7_begins_104 ?_
      refine aw_iald K dX7_begins_105 rfl (vp_in_nI (by omega) (by decide)) ?_
      rw [nI_clamp (show i < 2 ^ 31 by omega)]
      refine aw_imul K dX7_begins_106 ?_
      refine aw_al0 K dX7_begins_107 ?_
      refine aw_getR K gX7_26 dX7_begins_108 rfl rfl ?_
      refine aw_il1 K dX7_begins_111 ?_
      refine aw_iald K dX7_begins_112 rfl (vp_in_nI (by omega) (by decide)) ?_
      rw [nI_clamp (show i < 2 ^ 31 by omega)]
      refine aw_iadd K dX7_begins_113 ?_
      refine aw_dup2_11 K dX7_begins_114 rfl rfl ?_
      refine aw_iald K dX7_begins_115 rfl (ix14m v2 v1) ?_
      refine aw_il2 K dX7_begins_116 ?_
      refine aw_iadd K dX7_begins_117 ?_
      refine aw_iast K dX7_begins_118 rfl (ix14m v2 v1) ?_
      refine aw_ii1 (v := _ + 1) K dX7_begins_119 rfl (by decide) rfl ?_
      refine aw_goto (tgt := 55) K dX7_begins_122 (by decide) ?_
      rw [nI_1]
      refine aw_sub [some (.ref (g.2.1 0)), some (.int _), none] ⟨rfl, rfl, trivial⟩ ?_
      exact ih (i + 1) _ (by omega) ((hx.pt rfl (by decide)).pt rfl (by decide))
set_option maxHeartbeats 4000000 in
set_option maxRecDepth 100000 in
theorem lp2X7_begins {l : Launch} {g : Geo} {sta : Nat → Nat} {k : KT} (K : AOK (wM l g sta) mX7_begins k) (h0 : HS) {N T Wn : Nat} (H0 : MW h0 N T Wn) :
    ∀ (n i : Nat) (h : HS), i + n = N → FS h0 h → AW (wM l g sta) (FSV h0) 5 mX7_begins k 24 [some (.ref (g.2.1 0)), some (.int (nI i)), none] [] h := by
  intro n
  have h3 := H0.1.2
  induction n with
  | zero =>
    intro i h k1 hx
    have H := H0.f hx
    obtain rfl : i = N := by omega
    refine aw_il1 K dX7_begins_24 ?_
    refine aw_al0 K dX7_begins_25 ?_
    refine aw_getI K gX7_98 dX7_begins_26 rfl rfl ?_
    rw [H.1.1]
    refine aw_icmp_ge (tgt := 53) K dX7_begins_29 (by decide) (fun b29 => ?_) (fun b29 => ?_)
    · refine aw_iconst (v := 0) K dX7_begins_53 (by decide) ?_
      refine aw_is1 K dX7_begins_54 (by decide) rfl ?_
      exact lp3X7_begins K h0 H0 T 0 h (by omega) hx
    · exact absurd (Int32.le_refl _) b29
  | succ n ih =>
    intro i h k1 hx
    have H := H0.f hx
    refine aw_il1 K dX7_begins_24 ?_
    refine aw_al0 K dX7_begins_25 ?_
    refine aw_getI K gX7_98 dX7_begins_26 rfl rfl ?_
    rw [H.1.1]
    refine aw_icmp_ge (tgt := 53) K dX7_begins_29 (by decide) (fun b29 => ?_) (fun b29 => ?_)
    · exact absurd b29 (nI_ge (by omega) (by omega))
    · refine aw_al0 K dX7_begins_32 ?_
      refine aw_getR K gX7_53 dX7_begins_33 rfl rfl ?_
      refine aw_sipush (v := 168) K dX7_begins_36 (by decide) ?_
      refine aw_il1 K dX7_begins_39 ?_
      refine aw_iadd K dX7_begins_40 ?_
      refine aw_al0 K dX7_begins_41 ?_
      refine aw_il1 K dX7_begins_42 ?_
      refine aw_callV_I K (tX7_given l g sta _ _ (vp_in_nI (by omega) (by decide))) rfl (by decide) fX7_given lX7_141 dX7_begins_43 rfl clsX7 rfl (Nat.le_of_ble_eq_true rfl) ?_
      rw [show (168 : Int32) = nI 168 from rfl, nI_add]
      refine aw_iast K dX7_begins_46 rfl (vp_in_nI (by omega) (by decide)) ?_
      refine aw_ii1 (v := _ + 1) K dX7_begins_47 rfl (by decide) rfl ?_
      refine aw_goto (tgt := 24) K dX7_begins_50 (by decide) ?_
      rw [nI_1]
      exact ih (i + 1) _ (by omega) (hx.pt rfl (by decide))
set_option maxHeartbeats 4000000 in
set_option maxRecDepth 100000 in
theorem lp1X7_begins {l : Launch} {g : Geo} {sta : Nat → Nat} {k : KT} (K : AOK (wM l g sta) mX7_begins k) (h0 : HS) {N T Wn : Nat} (H0 : MW h0 N T Wn) :
    ∀ (n i : Nat) (h : HS), i + n = 196 → FS h0 h → AW (wM l g sta) (FSV h0) 5 mX7_begins k 2 [some (.ref (g.2.1 0)), some (.int (nI i)), none] [] h := by
  intro n
  induction n with
  | zero =>
    intro i h k1 hx
    obtain rfl : i = 196 := by omega
    refine aw_il1 K dX7_begins_2 ?_
    refine aw_sipush (v := 196) K dX7_begins_3 (by decide) ?_
    refine aw_icmp_ge (tgt := 22) K dX7_begins_6 (by decide) (fun b6 => ?_) (fun b6 => ?_)
    · refine aw_iconst (v := 0) K dX7_begins_22 (by decide) ?_
      refine aw_is1 K dX7_begins_23 (by decide) rfl ?_
      exact lp2X7_begins K h0 H0 N 0 h (by omega) hx
    · exact absurd (by decide) b6
  | succ n ih =>
    intro i h k1 hx
    refine aw_il1 K dX7_begins_2 ?_
    refine aw_sipush (v := 196) K dX7_begins_3 (by decide) ?_
    refine aw_icmp_ge (tgt := 22) K dX7_begins_6 (by decide) (fun b6 => ?_) (fun b6 => ?_)
    · exact absurd b6 (nI_ge (b := 196) (by omega) (by decide))
    · refine aw_al0 K dX7_begins_9 ?_
      refine aw_getR K gX7_53 dX7_begins_10 rfl rfl ?_
      refine aw_il1 K dX7_begins_13 ?_
      refine aw_iconst (v := 0) K dX7_begins_14 (by decide) ?_
      refine aw_iast K dX7_begins_15 rfl (vp_in_nI (by omega) (by decide)) ?_
      refine aw_ii1 (v := _ + 1) K dX7_begins_16 rfl (by decide) rfl ?_
      refine aw_goto (tgt := 2) K dX7_begins_19 (by decide) ?_
      rw [nI_1]
      exact ih (i + 1) _ (by omega) (hx.pt rfl (by decide))
set_option maxHeartbeats 4000000 in
set_option maxRecDepth 100000 in
theorem tX7_begins (l : Launch) (g : Geo) (sta : Nat → Nat) (h : HS) (h0 : HS) {N T Wn : Nat} (H0 : MW h0 N T Wn) (hx : FS h0 h) : CT (wM l g sta) 5 mX7_begins [.ref (g.2.1 0)] h (FSV h0) := by
  refine CT.at [some (.ref (g.2.1 0)), none, none] 2 rfl (by decide) (Nat.le_of_ble_eq_true rfl) (fun k K => ?_)
  refine aw_iconst (v := 0) K dX7_begins_0 (by decide) ?_
  refine aw_is1 K dX7_begins_1 (by decide) rfl ?_
  exact lp1X7_begins K h0 H0 196 0 h (by omega) hx

/-- how many are reached -/
def cby (b : Nat → Int32) : Nat → Nat
  | 0 => 0
  | n + 1 => cby b n + (if b n = -4 then 0 else 1)
theorem cby_le (b : Nat → Int32) : ∀ n, cby b n ≤ n
  | 0 => Nat.le_refl _
  | n + 1 => by
    have := cby_le b n
    unfold cby
    split <;> omega
theorem cby_lt {b : Nat → Int32} {i : Nat} (hi : b i = -4) : ∀ n, i < n → cby b n < n
  | 0, h => absurd h (Nat.not_lt_zero _)
  | n + 1, h => by
    unfold cby
    by_cases q : i = n
    · subst q
      rw [if_pos hi]
      have := cby_le b i
      omega
    · have := cby_lt hi n (by omega)
      split <;> omega
theorem cby_o {b : Nat → Int32} {i : Nat} {v : Int32} : ∀ n, n ≤ i → cby (upd b i v) n = cby b n
  | 0, _ => rfl
  | n + 1, h => by
    have e : upd b i v n = b n := if_neg (by omega)
    unfold cby
    rw [cby_o n (by omega), e]
theorem cby_s {b : Nat → Int32} {i : Nat} {v : Int32} (hi : b i = -4) (hv : ¬ v = -4) : ∀ n, i < n → cby (upd b i v) n = cby b n + 1
  | 0, h => absurd h (Nat.not_lt_zero _)
  | n + 1, h => by
    unfold cby
    by_cases q : n = i
    · subst q
      have e : upd b n v n = v := if_pos rfl
      rw [cby_o n (Nat.le_refl _), e, hi, if_neg hv, if_pos rfl]
    · have e : upd b i v n = b n := if_neg q
      rw [cby_s hi hv n (by omega), e]
      omega
/-- the ways found: by whom each is reached (b), from what is left (f) -/
def WF (b f : Nat → Int32) (rk : Nat → Nat) (mn : Nat) : Prop := b 12 = 12 ∧ ∀ x, x < 14 → ¬ b x = -4 → rk x < mn ∧ (x = 12 ∨ ∃ a, a < 14 ∧ b x = nI a ∧ ¬ b a = -4 ∧ rk a < rk x ∧ 0 < f (14 * a + x))
def RO (b r : Nat → Int32) (rk : Nat → Nat) (mn : Nat) : Prop := ∀ j, j < mn → ∃ x, x < 14 ∧ r j = nI x ∧ ¬ b x = -4 ∧ rk x = j
/-- a search on its way -/
def SR (h0 h : HS) (mn : Nat) : Prop := (∀ c, c ≠ 16 → c ≠ 17 → h.1 c = h0.1 c) ∧ mn ≤ 14 ∧ cby (h.1 16) 14 = mn ∧ ∃ rk, WF (h.1 16) (h.1 15) rk mn ∧ RO (h.1 16) (h.1 17) rk mn
theorem nI_n4 {a : Nat} (h : a < 14) : ¬ nI a = -4 := by
  have q : ∀ a : Fin 14, ¬ nI a.1 = -4 := by decide
  exact q ⟨a, h⟩
theorem SR.add {h0 h : HS} {mn i x : Nat} (s : SR h0 h mn) (hi : i < mn) (hx : x < 14) (hb : h.1 16 x = -4) (hf : 0 < h.1 15 (14 * (h.1 17 i).toNatClampNeg + x)) : SR h0 (setI (setI h 16 x (h.1 17 i)) 17 mn (nI x)) (mn + 1) := by
  obtain ⟨s1, s2, s3, rk, ⟨s4, s5⟩, s6⟩ := s
  obtain ⟨a, ha, ea, na, ra⟩ := s6 i hi
  rw [ea, nI_clamp (by omega)] at hf
  have hlt := cby_lt hb 14 hx
  have e16 : (setI (setI h 16 x (h.1 17 i)) 17 mn (nI x)).1 16 = upd (h.1 16) x (nI a) := by rw [setI_w (by decide), ea]; rfl
  have e17 : (setI (setI h 16 x (h.1 17 i)) 17 mn (nI x)).1 17 = upd (h.1 17) mn (nI x) := rfl
  have e15 : (setI (setI h 16 x (h.1 17 i)) 17 mn (nI x)).1 15 = h.1 15 := by rw [setI_w (by decide), setI_w (by decide)]
  have n12 : x ≠ 12 := by
    intro q
    subst q
    rw [s4] at hb
    exact absurd hb (by decide)
  refine ⟨fun c q1 q2 => ?_, by omega, ?_, fun y => if y = x then mn else rk y, ⟨?_, fun y hy ny => ?_⟩, fun j hj => ?_⟩
  · rw [setI_w q2, setI_w q1]
    exact s1 c q1 q2
  · rw [e16, cby_s hb (nI_n4 ha) 14 hx, s3]
  · rw [e16]
    exact (if_neg (Ne.symm n12)).trans s4
  · rw [e16] at ny ⊢
    rw [e15]
    by_cases q : y = x
    · subst q
      have ax : a ≠ y := fun z => na (z ▸ hb)
      have e1 : upd (h.1 16) y (nI a) y = nI a := if_pos rfl
      have e2 : upd (h.1 16) y (nI a) a = h.1 16 a := if_neg ax
      refine ⟨by show (if y = y then mn else rk y) < mn + 1; rw [if_pos rfl]; omega, Or.inr ⟨a, ha, e1, by rw [e2]; exact na, ?_, hf⟩⟩
      show (if a = y then mn else rk a) < (if y = y then mn else rk y)
      rw [if_neg ax, if_pos rfl]
      exact (s5 a ha na).1
    · have e1 : upd (h.1 16) x (nI a) y = h.1 16 y := if_neg q
      rw [e1] at ny ⊢
      obtain ⟨t1, t2⟩ := s5 y hy ny
      refine ⟨by show (if y = x then mn else rk y) < mn + 1; rw [if_neg q]; omega, t2.imp id ?_⟩
      rintro ⟨c, c1, c2, c3, c4, c5⟩
      have cx : c ≠ x := fun z => c3 (z ▸ hb)
      refine ⟨c, c1, c2, ?_, ?_, c5⟩
      · rw [show upd (h.1 16) x (nI a) c = h.1 16 c from if_neg cx]
        exact c3
      · show (if c = x then mn else rk c) < (if y = x then mn else rk y)
        rw [if_neg cx, if_neg q]
        exact c4
  · rw [e16, e17]
    by_cases q : j = mn
    · subst q
      exact ⟨x, hx, if_pos rfl, by rw [show upd (h.1 16) x (nI a) x = nI a from if_pos rfl]; exact nI_n4 ha, if_pos rfl⟩
    · obtain ⟨y, y1, y2, y3, y4⟩ := s6 j (by omega)
      have yx : y ≠ x := fun z => y3 (z ▸ hb)
      exact ⟨y, y1, (if_neg q).trans y2, by rw [show upd (h.1 16) x (nI a) y = h.1 16 y from if_neg yx]; exact y3, (if_neg yx).trans y4⟩
theorem SR.in {h0 h : HS} {mn i : Nat} (s : SR h0 h mn) (hi : i < mn) : vp_in (h.1 17 i) 14 := by
  obtain ⟨s1, s2, s3, rk, s5, s6⟩ := s
  obtain ⟨a, ha, ea, na, ra⟩ := s6 i hi
  rw [ea]
  exact vp_in_nI ha (by decide)
/-- what a search leaves -/
def SE_ (h0 h : HS) : Prop := (∀ c, c ≠ 16 → c ≠ 17 → h.1 c = h0.1 c) ∧ ∃ rk mn, WF (h.1 16) (h.1 15) rk mn
set_option maxHeartbeats 4000000 in
set_option maxRecDepth 100000 in
theorem lp3X7_reaches {l : Launch} {g : Geo} {sta : Nat → Nat} {k : KT} (K : AOK (wM l g sta) mX7_reaches k) (h0 : HS) (i : Nat)
    (hk : ∀ (mn : Nat) (h : HS), SR h0 h mn → i < mn → AW (wM l g sta) (fun o h' => o = some (.int (bI (¬ h'.1 16 13 = -4))) ∧ SE_ h0 h') 1 mX7_reaches k 114 [some (.ref (g.2.1 0)), some (.int (nI mn)), some (.int (nI i)), none] [] h) :
    ∀ (n x mn : Nat) (h : HS), x + n = 14 → i < mn → SR h0 h mn → AW (wM l g sta) (fun o h' => o = some (.int (bI (¬ h'.1 16 13 = -4))) ∧ SE_ h0 h') 1 mX7_reaches k 50 [some (.ref (g.2.1 0)), some (.int (nI mn)), some (.int (nI i)), some (.int (nI x))] [] h := by
  intro n
  induction n with
  | zero =>
    intro x mn h k1 k2 s
    obtain rfl : x = 14 := by omega
    refine aw_il3 K dX7_reaches_50 ?_
    refine aw_bipush (v := 14) K dX7_reaches_51 (by decide) ?_
    refine aw_icmp_ge (tgt := 114) K dX7_reaches_53 (by decide) (fun b53 => ?_) (fun b53 => ?_)
    · refine aw_sub [some (.ref (g.2.1 0)), some (.int _), some (.int _), none] ⟨rfl, rfl, rfl, trivial⟩ ?_
      exact hk mn h s k2
    · exact absurd (by decide) b53
  | succ n ih =>
    intro x mn h k1 k2 s
    have s2 := s.2.1
    have c1 := s.2.2.1
    have vi := s.in k2
    refine aw_il3 K dX7_reaches_50 ?_
    refine aw_bipush (v := 14) K dX7_reaches_51 (by decide) ?_
    refine aw_icmp_ge (tgt := 114) K dX7_reaches_53 (by decide) (fun b53 => ?_) (fun b53 => ?_)
    · exact absurd b53 (nI_ge (b := 14) (by omega) (by decide))
    · refine aw_al0 K dX7_reaches_56 ?_
      refine aw_getR K gX7_56 dX7_reaches_57 rfl rfl ?_
      refine aw_il3 K dX7_reaches_60 ?_
      refine aw_iald K dX7_reaches_61 rfl (vp_in_nI (by omega) (by decide)) ?_
      rw [nI_clamp (show x < 2 ^ 31 by omega)]
      refine aw_bipush (v := (-4)) K dX7_reaches_62 (by decide) ?_
      refine aw_icmp_ne (tgt := 108) K dX7_reaches_64 (by decide) (fun b64 => ?_) (fun b64 => ?_)
      · refine aw_ii3 (v := _ + 1) K dX7_reaches_108 rfl (by decide) rfl ?_
        refine aw_goto (tgt := 50) K dX7_reaches_111 (by decide) ?_
        rw [nI_1]
        exact ih (x + 1) mn h (by omega) k2 s
      · have hlt := cby_lt b64 14 (by omega)
        refine aw_al0 K dX7_reaches_67 ?_
        refine aw_getR K gX7_53 dX7_reaches_68 rfl rfl ?_
        refine aw_bipush (v := 14) K dX7_reaches_71 (by decide) ?_
        refine aw_al0 K dX7_reaches_73 ?_
        refine aw_getR K gX7_59 dX7_reaches_74 rfl rfl ?_
        refine aw_il2 K dX7_reaches_77 ?_
        refine aw_iald K dX7_reaches_78 rfl (vp_in_nI (by omega) (by decide)) ?_
        rw [nI_clamp (show i < 2 ^ 31 by omega)]
        refine aw_imul K dX7_reaches_79 ?_
        refine aw_il3 K dX7_reaches_80 ?_
        refine aw_iadd K dX7_reaches_81 ?_
        refine aw_iald K dX7_reaches_82 rfl (ix14m vi (vp_in_nI (by omega) (by decide))) ?_
        refine aw_if_le (tgt := 108) K dX7_reaches_83 (by decide) (fun b83 => ?_) (fun b83 => ?_)
        · refine aw_ii3 (v := _ + 1) K dX7_reaches_108 rfl (by decide) rfl ?_
          refine aw_goto (tgt := 50) K dX7_reaches_111 (by decide) ?_
          rw [nI_1]
          exact ih (x + 1) mn h (by omega) k2 s
        · refine aw_al0 K dX7_reaches_86 ?_
          refine aw_getR K gX7_56 dX7_reaches_87 rfl rfl ?_
          refine aw_il3 K dX7_reaches_90 ?_
          refine aw_al0 K dX7_reaches_91 ?_
          refine aw_getR K gX7_59 dX7_reaches_92 rfl rfl ?_
          refine aw_il2 K dX7_reaches_95 ?_
          refine aw_iald K dX7_reaches_96 rfl (vp_in_nI (by omega) (by decide)) ?_
          refine aw_iast K dX7_reaches_97 rfl (vp_in_nI (by omega) (by decide)) ?_
          refine aw_al0 K dX7_reaches_98 ?_
          refine aw_getR K gX7_59 dX7_reaches_99 rfl rfl ?_
          refine aw_il1 K dX7_reaches_102 ?_
          refine aw_il3 K dX7_reaches_103 ?_
          refine aw_iast K dX7_reaches_104 rfl (vp_in_nI (by omega) (by decide)) ?_
          refine aw_ii1 (v := _ + 1) K dX7_reaches_105 rfl (by decide) rfl ?_
          refine aw_ii3 (v := _ + 1) K dX7_reaches_108 rfl (by decide) rfl ?_
          refine aw_goto (tgt := 50) K dX7_reaches_111 (by decide) ?_
          rw [nI_1, nI_1]
          rw [nI_clamp (show x < 2 ^ 31 by omega), nI_clamp (show i < 2 ^ 31 by omega), nI_clamp (show mn < 2 ^ 31 by omega)]
          refine ih (x + 1) (mn + 1) _ (by omega) (by omega) (s.add k2 (by omega) b64 ?_)
          have q := Int32.not_le.mp b83
          obtain ⟨a, ha, ea⟩ := vp_in_of vi (by decide)
          rw [ea] at q ⊢
          rw [xm, nI_clamp (by omega)] at q
          rw [nI_clamp (by omega)]
          exact q
set_option maxHeartbeats 4000000 in
set_option maxRecDepth 100000 in
theorem lp2X7_reaches {l : Launch} {g : Geo} {sta : Nat → Nat} {k : KT} (K : AOK (wM l g sta) mX7_reaches k) (h0 : HS) :
    ∀ (n i mn : Nat) (h : HS), 14 - i < n → i ≤ mn → SR h0 h mn → AW (wM l g sta) (fun o h' => o = some (.int (bI (¬ h'.1 16 13 = -4))) ∧ SE_ h0 h') 1 mX7_reaches k 43 [some (.ref (g.2.1 0)), some (.int (nI mn)), some (.int (nI i)), none] [] h := by
  intro n
  induction n with
  | zero => intro i mn h k1; omega
  | succ n ih =>
    intro i mn h k1 k2 s
    have s2 := s.2.1
    refine aw_il2 K dX7_reaches_43 ?_
    refine aw_il1 K dX7_reaches_44 ?_
    refine aw_icmp_ge (tgt := 120) K dX7_reaches_45 (by decide) (fun b45 => ?_) (fun b45 => ?_)
    · refine aw_al0 K dX7_reaches_120 ?_
      refine aw_getR K gX7_56 dX7_reaches_121 rfl rfl ?_
      refine aw_bipush (v := 13) K dX7_reaches_124 (by decide) ?_
      refine aw_iald K dX7_reaches_126 rfl (vp_in_nI (n := 13) (by decide) (by decide)) ?_
      refine aw_bipush (v := (-4)) K dX7_reaches_127 (by decide) ?_
      refine aw_icmp_eq (tgt := 136) K dX7_reaches_129 (by decide) (fun b129 => ?_) (fun b129 => ?_)
      · refine aw_iconst (v := 0) K dX7_reaches_136 (by decide) ?_
        refine aw_zret K rfl dX7_reaches_137 (by first | rfl | exact bI_nar _) ?_
        exact ⟨congrArg some (congrArg Value.int (bI_f (fun q => q b129)).symm), s.1, s.2.2.2.imp (fun rk z => ⟨_, z.1⟩)⟩
      · refine aw_iconst (v := 1) K dX7_reaches_132 (by decide) ?_
        refine aw_goto (tgt := 137) K dX7_reaches_133 (by decide) ?_
        refine aw_zret K rfl dX7_reaches_137 (by first | rfl | exact bI_nar _) ?_
        exact ⟨congrArg some (congrArg Value.int (bI_t b129).symm), s.1, s.2.2.2.imp (fun rk z => ⟨_, z.1⟩)⟩
    · have hlt : i < mn := by
        rcases Nat.lt_or_ge i mn with q | q
        · exact q
        · exact absurd (nI_le (a := mn) q (by omega)) b45
      refine aw_iconst (v := 0) K dX7_reaches_48 (by decide) ?_
      refine aw_is3 K dX7_reaches_49 (by decide) rfl ?_
      refine lp3X7_reaches K h0 i (fun mn h s hi => ?_) 14 0 mn h rfl hlt s
      have s3 := s.2.1
      refine aw_ii2 (v := _ + 1) K dX7_reaches_114 rfl (by decide) rfl ?_
      refine aw_goto (tgt := 43) K dX7_reaches_117 (by decide) ?_
      rw [nI_1]
      exact ih (i + 1) mn h (by omega) (by omega) s
theorem cby_f {b : Nat → Int32} : ∀ n, (∀ x, x < n → b x = -4) → cby b n = 0
  | 0, _ => rfl
  | n + 1, h => by
    unfold cby
    rw [cby_f n (fun x hx => h x (by omega)), if_pos (h n (by omega))]
theorem SR.st {h : HS} : SR h (setI (setI (setR h 16 (fil (h.1 16) 14 (-4))) 16 12 12) 17 0 12) 1 := by
  have e16 : (setI (setI (setR h 16 (fil (h.1 16) 14 (-4))) 16 12 12) 17 0 12).1 16 = upd (fil (h.1 16) 14 (-4)) 12 12 := by rw [setI_w (by decide), set_set]; rfl
  have e17 : (setI (setI (setR h 16 (fil (h.1 16) 14 (-4))) 16 12 12) 17 0 12).1 17 = upd (h.1 17) 0 12 := rfl
  have ef : ∀ x, x < 14 → x ≠ 12 → upd (fil (h.1 16) 14 (-4)) 12 12 x = -4 := fun x hx h2 => (if_neg h2).trans (if_pos hx)
  refine ⟨fun c q1 q2 => ?_, by decide, ?_, fun _ => 0, ⟨?_, fun x hx nx => ?_⟩, fun j hj => ?_⟩
  · rw [setI_w q2, setI_w q1, rdR, if_neg q1]
  · rw [e16, cby_s (if_pos (by decide)) (by decide) 14 (by decide), cby_f (b := fil (h.1 16) 14 (-4)) 14 (fun x hx => if_pos hx)]
  · rw [e16]
    rfl
  · rw [e16] at nx
    refine ⟨Nat.one_pos, Or.inl ?_⟩
    apply Classical.byContradiction
    intro q
    exact nx (ef x hx q)
  · obtain rfl : j = 0 := by omega
    refine ⟨12, by decide, rfl, ?_, rfl⟩
    rw [e16]
    show ¬ (12 : Int32) = -4
    decide
set_option maxHeartbeats 4000000 in
set_option maxRecDepth 100000 in
theorem lp1X7_reaches {l : Launch} {g : Geo} {sta : Nat → Nat} {k : KT} (K : AOK (wM l g sta) mX7_reaches k) (h : HS) :
    ∀ (n i : Nat), i + n = 14 → AW (wM l g sta) (fun o h' => o = some (.int (bI (¬ h'.1 16 13 = -4))) ∧ SE_ h h') 1 mX7_reaches k 2 [some (.ref (g.2.1 0)), some (.int (nI i)), none, none] [] (setR h 16 (fil (h.1 16) i (-4))) := by
  intro n
  induction n with
  | zero =>
    intro i k1
    obtain rfl : i = 14 := by omega
    refine aw_il1 K dX7_reaches_2 ?_
    refine aw_bipush (v := 14) K dX7_reaches_3 (by decide) ?_
    refine aw_icmp_ge (tgt := 22) K dX7_reaches_5 (by decide) (fun b5 => ?_) (fun b5 => ?_)
    · refine aw_al0 K dX7_reaches_22 ?_
      refine aw_getR K gX7_56 dX7_reaches_23 rfl rfl ?_
      refine aw_bipush (v := 12) K dX7_reaches_26 (by decide) ?_
      refine aw_bipush (v := 12) K dX7_reaches_28 (by decide) ?_
      refine aw_iast K dX7_reaches_30 rfl (vp_in_nI (n := 12) (by decide) (by decide)) ?_
      refine aw_al0 K dX7_reaches_31 ?_
      refine aw_getR K gX7_59 dX7_reaches_32 rfl rfl ?_
      refine aw_iconst (v := 0) K dX7_reaches_35 (by decide) ?_
      refine aw_bipush (v := 12) K dX7_reaches_36 (by decide) ?_
      refine aw_iast K dX7_reaches_38 rfl (vp_in_nI (n := 0) (by decide) (by decide)) ?_
      refine aw_iconst (v := 1) K dX7_reaches_39 (by decide) ?_
      refine aw_is1 K dX7_reaches_40 (by decide) rfl ?_
      refine aw_iconst (v := 0) K dX7_reaches_41 (by decide) ?_
      refine aw_is2 K dX7_reaches_42 (by decide) rfl ?_
      exact lp2X7_reaches K h 15 0 1 _ (by omega) (by omega) SR.st
    · exact absurd (by decide) b5
  | succ n ih =>
    intro i k1
    refine aw_il1 K dX7_reaches_2 ?_
    refine aw_bipush (v := 14) K dX7_reaches_3 (by decide) ?_
    refine aw_icmp_ge (tgt := 22) K dX7_reaches_5 (by decide) (fun b5 => ?_) (fun b5 => ?_)
    · exact absurd b5 (nI_ge (b := 14) (by omega) (by decide))
    · refine aw_al0 K dX7_reaches_8 ?_
      refine aw_getR K gX7_56 dX7_reaches_9 rfl rfl ?_
      refine aw_il1 K dX7_reaches_12 ?_
      refine aw_bipush (v := (-4)) K dX7_reaches_13 (by decide) ?_
      refine aw_iast K dX7_reaches_15 rfl (vp_in_nI (by omega) (by decide)) ?_
      refine aw_ii1 (v := _ + 1) K dX7_reaches_16 rfl (by decide) rfl ?_
      refine aw_goto (tgt := 2) K dX7_reaches_19 (by decide) ?_
      rw [nI_1, nI_clamp (by omega), setI_setR, fil_s]
      exact ih (i + 1) (by omega)
set_option maxHeartbeats 4000000 in
set_option maxRecDepth 100000 in
theorem tX7_reaches (l : Launch) (g : Geo) (sta : Nat → Nat) (h : HS) : CT (wM l g sta) 1 mX7_reaches [.ref (g.2.1 0)] h ((fun o h' => o = some (.int (bI (¬ h'.1 16 13 = -4))) ∧ SE_ h h')) := by
  refine CT.at [some (.ref (g.2.1 0)), none, none, none] 3 rfl (by decide) (Nat.le_of_ble_eq_true rfl) (fun k K => ?_)
  refine aw_iconst (v := 0) K dX7_reaches_0 (by decide) ?_
  refine aw_is1 K dX7_reaches_1 (by decide) rfl ?_
  have z := lp1X7_reaches K h 14 0 rfl
  rw [fil_0, setR_id] at z
  exact z

def pN (x : Int32) : Nat := x.toInt.toNat
/-- what the source may still give -/
def muS (f : Nat → Int32) : Nat → Nat
  | 0 => 0
  | n + 1 => muS f n + pN (f (168 + n))
theorem muS_eq {f f' : Nat → Int32} : ∀ n, (∀ b, b < n → f' (168 + b) = f (168 + b)) → muS f' n = muS f n
  | 0, _ => rfl
  | n + 1, h => by
    unfold muS
    rw [muS_eq n (fun b hb => h b (by omega)), h n (by omega)]
theorem muS_lt {f f' : Nat → Int32} {x : Nat} (hx : pN (f' (168 + x)) < pN (f (168 + x))) : ∀ n, x < n → (∀ b, b < n → b ≠ x → f' (168 + b) = f (168 + b)) → muS f' n < muS f n
  | 0, h, _ => absurd h (Nat.not_lt_zero _)
  | n + 1, h, ha => by
    unfold muS
    by_cases q : x = n
    · subst q
      rw [muS_eq x (fun b hb => ha b (by omega) (by omega))]
      omega
    · have := muS_lt hx n (by omega) (fun b hb => ha b (by omega))
      rw [ha n (by omega) (fun z => q z.symm)]
      omega
theorem pN_sub {x v : Int32} (h1 : 0 < v) (h2 : v ≤ x) : pN (x - v) < pN x := by
  rw [Int32.lt_iff_toInt_lt] at h1
  rw [Int32.le_iff_toInt_le] at h2
  have hz : (0 : Int32).toInt = 0 := by decide
  rw [hz] at h1
  have hb := Int32.toInt_lt x
  have e : (x - v).toInt = x.toInt - v.toInt := by
    rw [Int32.toInt_sub, Int.bmod_eq_of_le (by omega) (by omega)]
  unfold pN
  rw [e]
  omega
def nxB (b : Nat → Int32) (x : Nat) : Nat := (b x).toNatClampNeg
/-- v fits through the way behind x -/
def okP (b f : Nat → Int32) (v : Int32) : Nat → Nat → Prop
  | 0, _ => True
  | n + 1, x => x = 12 ∨ (v ≤ f (14 * nxB b x + x) ∧ okP b f v n (nxB b x))
theorem WF.at {b f : Nat → Int32} {rk : Nat → Nat} {mn x : Nat} (hw : WF b f rk mn) (hx : x < 14) (nx : ¬ b x = -4) (h12 : x ≠ 12) : ∃ a, a < 14 ∧ b x = nI a ∧ ¬ b a = -4 ∧ rk a < rk x ∧ 0 < f (14 * a + x) ∧ nxB b x = a := by
  obtain ⟨a, h1, h2, h3, h4, h5⟩ := (hw.2 x hx nx).2.resolve_left h12
  exact ⟨a, h1, h2, h3, h4, h5, by rw [nxB, h2, nI_clamp (by omega)]⟩
set_option maxHeartbeats 4000000 in
set_option maxRecDepth 100000 in
theorem lp1X7_flows {l : Launch} {g : Geo} {sta : Nat → Nat} {k : KT} {P : Option Value → HS → Prop} (K : AOK (wM l g sta) mX7_flows k) (h : HS) (al : Int32) (rk : Nat → Nat) (mn : Nat) (hw : WF (h.1 16) (h.1 15) rk mn) :
    ∀ (n x : Nat) (v : Int32), rk x < n → x < 14 → ¬ h.1 16 x = -4 → 0 < v → (∀ u : Int32, 0 < u → u ≤ v → (∀ m, okP (h.1 16) (h.1 15) u m x) → AW (wM l g sta) P 3 mX7_flows k 62 [some (.ref (g.2.1 0)), some (.int al), some (.int u), none, none] [] h) → AW (wM l g sta) P 3 mX7_flows k 15 [some (.ref (g.2.1 0)), some (.int al), some (.int v), some (.int (nI x)), none] [] h := by
  intro n
  induction n with
  | zero => intro x v k1; omega
  | succ n ih =>
    intro x v k1 hx nx hv hk
    by_cases q : x = 12
    · subst q
      refine aw_il3 K dX7_flows_15 ?_
      refine aw_bipush (v := 12) K dX7_flows_16 (by decide) ?_
      refine aw_icmp_eq (tgt := 62) K dX7_flows_18 (by decide) (fun b18 => ?_) (fun b18 => ?_)
      · refine aw_sub [some (.ref (g.2.1 0)), some (.int _), some (.int _), none, none] ⟨rfl, rfl, rfl, trivial⟩ ?_
        exact hk v hv (Int32.le_refl _) (fun m => by
          cases m with
          | zero => trivial
          | succ m => exact Or.inl rfl)
      · exact absurd rfl b18
    · obtain ⟨a, ha, e1, na, ra, pa, ea⟩ := hw.at hx nx q
      refine aw_il3 K dX7_flows_15 ?_
      refine aw_bipush (v := 12) K dX7_flows_16 (by decide) ?_
      refine aw_icmp_eq (tgt := 62) K dX7_flows_18 (by decide) (fun b18 => ?_) (fun b18 => ?_)
      · exact absurd ((nI_eq (b := 12) (by omega) (by decide)).mp b18) q
      · refine aw_al0 K dX7_flows_21 ?_
        refine aw_getR K gX7_53 dX7_flows_22 rfl rfl ?_
        refine aw_bipush (v := 14) K dX7_flows_25 (by decide) ?_
        refine aw_al0 K dX7_flows_27 ?_
        refine aw_getR K gX7_56 dX7_flows_28 rfl rfl ?_
        refine aw_il3 K dX7_flows_31 ?_
        refine aw_iald K dX7_flows_32 rfl (vp_in_nI hx (by decide)) ?_
        rw [nI_clamp (show x < 2 ^ 31 by omega), e1]
        refine aw_imul K dX7_flows_33 ?_
        refine aw_il3 K dX7_flows_34 ?_
        refine aw_iadd K dX7_flows_35 ?_
        rw [xm]
        refine aw_iald K dX7_flows_36 rfl (vp_in_nI (by omega) (by decide)) ?_
        rw [nI_clamp (show 14 * a + x < 2 ^ 31 by omega)]
        refine aw_is4 K dX7_flows_37 (by decide) rfl ?_
        refine aw_il4 K dX7_flows_39 ?_
        refine aw_il2 K dX7_flows_41 ?_
        refine aw_icmp_ge (tgt := 50) K dX7_flows_42 (by decide) (fun b42 => ?_) (fun b42 => ?_)
        · refine aw_il2 K dX7_flows_50 ?_
          refine aw_is2 K dX7_flows_51 (by decide) rfl ?_
          refine aw_al0 K dX7_flows_52 ?_
          refine aw_getR K gX7_56 dX7_flows_53 rfl rfl ?_
          refine aw_il3 K dX7_flows_56 ?_
          refine aw_iald K dX7_flows_57 rfl (vp_in_nI hx (by decide)) ?_
          rw [nI_clamp (show x < 2 ^ 31 by omega), e1]
          refine aw_is3 K dX7_flows_58 (by decide) rfl ?_
          refine aw_goto (tgt := 15) K dX7_flows_59 (by decide) ?_
          refine aw_sub [some (.ref (g.2.1 0)), some (.int al), some (.int v), some (.int (nI a)), none] ⟨rfl, rfl, rfl, rfl, trivial⟩ ?_
          refine ih a v (by omega) ha na hv (fun u hu hu2 ho => hk u hu hu2 (fun m => ?_))
          cases m with
          | zero => trivial
          | succ m =>
            refine Or.inr ⟨?_, ?_⟩
            · rw [ea]
              exact Int32.le_trans hu2 b42
            · rw [ea]
              exact ho m
        · refine aw_il4 K dX7_flows_45 ?_
          refine aw_goto (tgt := 51) K dX7_flows_47 (by decide) ?_
          refine aw_is2 K dX7_flows_51 (by decide) rfl ?_
          refine aw_al0 K dX7_flows_52 ?_
          refine aw_getR K gX7_56 dX7_flows_53 rfl rfl ?_
          refine aw_il3 K dX7_flows_56 ?_
          refine aw_iald K dX7_flows_57 rfl (vp_in_nI hx (by decide)) ?_
          rw [nI_clamp (show x < 2 ^ 31 by omega), e1]
          refine aw_is3 K dX7_flows_58 (by decide) rfl ?_
          refine aw_goto (tgt := 15) K dX7_flows_59 (by decide) ?_
          refine aw_sub [some (.ref (g.2.1 0)), some (.int al), some (.int (h.1 15 (14 * a + x))), some (.int (nI a)), none] ⟨rfl, rfl, rfl, rfl, trivial⟩ ?_
          refine ih a _ (by omega) ha na pa (fun u hu hu2 ho => hk u hu (Int32.le_trans hu2 (Int32.le_of_lt (Int32.not_le.mp b42))) (fun m => ?_))
          cases m with
          | zero => trivial
          | succ m =>
            refine Or.inr ⟨?_, ?_⟩
            · rw [ea]
              exact hu2
            · rw [ea]
              exact ho m
set_option maxHeartbeats 4000000 in
set_option maxRecDepth 100000 in
theorem lp2X7_flows {l : Launch} {g : Geo} {sta : Nat → Nat} {k : KT} {P : Option Value → HS → Prop} (K : AOK (wM l g sta) mX7_flows k) (h1 : HS) (al v : Int32) (rk : Nat → Nat) (mn : Nat) (hw : WF (h1.1 16) (h1.1 15) rk mn) (hv : 0 < v)
    (hk : ∀ h : HS, (∀ c, c ≠ 15 → h.1 c = h1.1 c) → muS (h.1 15) 14 < muS (h1.1 15) 14 → AW (wM l g sta) P 3 mX7_flows k 121 [some (.ref (g.2.1 0)), some (.int al), some (.int v), none, none] [] h) :
    ∀ (n x : Nat) (h : HS), rk x < n → x < 14 → x ≠ 12 → ¬ h1.1 16 x = -4 → (∀ c, c ≠ 15 → h.1 c = h1.1 c) → (∀ b, b < 14 → h.1 15 (168 + b) = h1.1 15 (168 + b)) → (∀ m, okP (h1.1 16) (h1.1 15) v m x) → AW (wM l g sta) P 3 mX7_flows k 65 [some (.ref (g.2.1 0)), some (.int al), some (.int v), some (.int (nI x)), none] [] h := by
  intro n
  induction n with
  | zero => intro x h k1; omega
  | succ n ih =>
    intro x h k1 hx q nx hc h15 ho
    obtain ⟨a, ha, e1, na, ra, pa, ea⟩ := hw.at hx nx q
    have e16 := hc 16 (by decide)
    rw [← e16] at e1
    have hi1 : vp_in (nI (14 * a + x)) 196 := vp_in_nI (by omega) (by decide)
    have hi2 : vp_in (nI (14 * x + a)) 196 := vp_in_nI (by omega) (by decide)
    refine aw_il3 K dX7_flows_65 ?_
    refine aw_bipush (v := 12) K dX7_flows_66 (by decide) ?_
    refine aw_icmp_eq (tgt := 121) K dX7_flows_68 (by decide) (fun b68 => ?_) (fun b68 => ?_)
    · exact absurd ((nI_eq (b := 12) (by omega) (by decide)).mp b68) q
    · refine aw_al0 K dX7_flows_71 ?_
      refine aw_getR K gX7_53 dX7_flows_72 rfl rfl ?_
      refine aw_bipush (v := 14) K dX7_flows_75 (by decide) ?_
      refine aw_al0 K dX7_flows_77 ?_
      refine aw_getR K gX7_56 dX7_flows_78 rfl rfl ?_
      refine aw_il3 K dX7_flows_81 ?_
      refine aw_iald K dX7_flows_82 rfl (vp_in_nI hx (by decide)) ?_
      rw [nI_clamp (show x < 2 ^ 31 by omega), e1]
      refine aw_imul K dX7_flows_83 ?_
      refine aw_il3 K dX7_flows_84 ?_
      refine aw_iadd K dX7_flows_85 ?_
      rw [xm]
      refine aw_dup2_11 K dX7_flows_86 rfl rfl ?_
      refine aw_iald K dX7_flows_87 rfl hi1 ?_
      refine aw_il2 K dX7_flows_88 ?_
      refine aw_isub K dX7_flows_89 ?_
      refine aw_iast K dX7_flows_90 rfl hi1 ?_
      refine aw_al0 K dX7_flows_91 ?_
      refine aw_getR K gX7_53 dX7_flows_92 rfl rfl ?_
      refine aw_bipush (v := 14) K dX7_flows_95 (by decide) ?_
      refine aw_il3 K dX7_flows_97 ?_
      refine aw_imul K dX7_flows_98 ?_
      refine aw_al0 K dX7_flows_99 ?_
      refine aw_getR K gX7_56 dX7_flows_100 rfl rfl ?_
      refine aw_il3 K dX7_flows_103 ?_
      refine aw_iald K dX7_flows_104 rfl (vp_in_nI hx (by decide)) ?_
      rw [nI_clamp (show x < 2 ^ 31 by omega), show (setI h 15 (nI (14 * a + x)).toNatClampNeg (h.1 15 (nI (14 * a + x)).toNatClampNeg - v)).1 16 x = nI a from e1]
      refine aw_iadd K dX7_flows_105 ?_
      rw [xm]
      refine aw_dup2_11 K dX7_flows_106 rfl rfl ?_
      refine aw_iald K dX7_flows_107 rfl hi2 ?_
      refine aw_il2 K dX7_flows_108 ?_
      refine aw_iadd K dX7_flows_109 ?_
      refine aw_iast K dX7_flows_110 rfl hi2 ?_
      refine aw_al0 K dX7_flows_111 ?_
      refine aw_getR K gX7_56 dX7_flows_112 rfl rfl ?_
      refine aw_il3 K dX7_flows_115 ?_
      refine aw_iald K dX7_flows_116 rfl (vp_in_nI hx (by decide)) ?_
      refine aw_is3 K dX7_flows_117 (by decide) rfl ?_
      refine aw_goto (tgt := 65) K dX7_flows_118 (by decide) ?_
      rw [nI_clamp (show x < 2 ^ 31 by omega), nI_clamp (show 14 * a + x < 2 ^ 31 by omega), nI_clamp (show 14 * x + a < 2 ^ 31 by omega)]
      rw [show (setI (setI h 15 (14 * a + x) (h.1 15 (14 * a + x) - v)) 15 (14 * x + a) ((setI h 15 (14 * a + x) (h.1 15 (14 * a + x) - v)).1 15 (14 * x + a) + v)).1 16 x = nI a from e1]
      have hc2 : ∀ c, c ≠ 15 → (setI (setI h 15 (14 * a + x) (h.1 15 (14 * a + x) - v)) 15 (14 * x + a) ((setI h 15 (14 * a + x) (h.1 15 (14 * a + x) - v)).1 15 (14 * x + a) + v)).1 c = h1.1 c := by
        intro c q1
        rw [setI_w q1, setI_w q1]
        exact hc c q1
      have hr : ∀ b, b < 14 → ¬ (a = 12 ∧ b = x) → (setI (setI h 15 (14 * a + x) (h.1 15 (14 * a + x) - v)) 15 (14 * x + a) ((setI h 15 (14 * a + x) (h.1 15 (14 * a + x) - v)).1 15 (14 * x + a) + v)).1 15 (168 + b) = h1.1 15 (168 + b) := by
        intro b hb hn
        rw [rdI, if_neg (fun z => by omega), rdI, if_neg (fun z => by omega)]
        exact h15 b hb
      by_cases y : a = 12
      · subst y
        refine aw_il3 K dX7_flows_65 ?_
        refine aw_bipush (v := 12) K dX7_flows_66 (by decide) ?_
        refine aw_icmp_eq (tgt := 121) K dX7_flows_68 (by decide) (fun b68 => ?_) (fun b68 => ?_)
        · refine aw_sub [some (.ref (g.2.1 0)), some (.int _), some (.int _), none, none] ⟨rfl, rfl, rfl, trivial⟩ ?_
          refine hk _ hc2 (muS_lt (x := x) ?_ 14 hx (fun b hb hn => hr b hb (fun z => hn z.2)))
          rw [rdI, if_neg (fun z => by omega), rdI, if_pos ⟨rfl, by omega⟩, show 14 * 12 + x = 168 + x by omega, h15 x hx]
          refine pN_sub hv ?_
          have o1 := ((ho 1).resolve_left q).1
          rw [ea] at o1
          exact o1
        · exact absurd rfl b68
      · refine ih a _ (by omega) ha y na hc2 (fun b hb => hr b hb (fun z => y z.1)) (fun m => ?_)
        have o1 := ((ho (m + 1)).resolve_left q).2
        rw [ea] at o1
        exact o1
set_option maxHeartbeats 4000000 in
set_option maxRecDepth 100000 in
theorem lp0X7_flows {l : Launch} {g : Geo} {sta : Nat → Nat} {k : KT} (K : AOK (wM l g sta) mX7_flows k) (h0 : HS) :
    ∀ (n : Nat) (al : Int32) (h : HS) (x y z : Option Value), muS (h.1 15) 14 < n → FS h0 h → AW (wM l g sta) (FSI h0) 3 mX7_flows k 2 [some (.ref (g.2.1 0)), some (.int al), none, none, none] [] h := by
  intro n
  induction n with
  | zero => intro al h x y z k1; omega
  | succ n ih =>
    intro al h x y z k1 hx
    refine aw_al0 K dX7_flows_2 ?_
    refine aw_callV K (tX7_reaches l g sta h) rfl (by decide) fX7_reaches lX7_209 dX7_flows_3 rfl clsX7 rfl (Nat.le_of_ble_eq_true rfl) (fun o h2 hq => ?_)
    obtain ⟨rfl, hc, rk, mn, hw⟩ := hq
    have hx2 : FS h0 h2 := fun c hc2 => (hc c (fun u => by rw [u] at hc2; cases hc2) (fun u => by rw [u] at hc2; cases hc2)).trans (hx c hc2)
    refine (show AW _ _ _ _ _ _ _ (.int _ :: _) _ from ?_)
    refine aw_if_eq (tgt := 128) K dX7_flows_6 (by decide) (fun b6 => ?_) (fun b6 => ?_)
    · refine aw_il1 K dX7_flows_128 ?_
      refine aw_iret K rfl dX7_flows_129 ?_
      exact ⟨⟨_, rfl⟩, hx2⟩
    · have n13 := bI_1.mp b6
      refine aw_ldc K qX7_213 dX7_flows_9 ?_
      refine aw_is2 K dX7_flows_11 (by decide) rfl ?_
      refine aw_bipush (v := 13) K dX7_flows_12 (by decide) ?_
      refine aw_is3 K dX7_flows_14 (by decide) rfl ?_
      refine lp1X7_flows K h2 al rk mn hw (rk 13 + 1) 13 _ (by omega) (by decide) n13 (by decide) (fun u hu hu2 ho => ?_)
      refine aw_bipush (v := 13) K dX7_flows_62 (by decide) ?_
      refine aw_is3 K dX7_flows_64 (by decide) rfl ?_
      refine lp2X7_flows K h2 al u rk mn hw hu (fun h3 hc3 hmu => ?_) (rk 13 + 1) 13 h2 (by omega) (by decide) (by decide) n13 (fun _ _ => rfl) (fun _ _ => rfl) ho
      refine aw_il1 K dX7_flows_121 ?_
      refine aw_il2 K dX7_flows_122 ?_
      refine aw_iadd K dX7_flows_123 ?_
      refine aw_is1 K dX7_flows_124 (by decide) rfl ?_
      refine aw_goto (tgt := 2) K dX7_flows_125 (by decide) ?_
      refine aw_sub [some (.ref (g.2.1 0)), some (.int _), none, none, none] ⟨rfl, rfl, trivial⟩ ?_
      refine ih _ h3 none none none ?_ (fun c hc2 => (hc3 c (fun u => by rw [u] at hc2; cases hc2)).trans (hx2 c hc2))
      rw [← hc 15 (by decide) (by decide)] at k1
      omega
set_option maxHeartbeats 4000000 in
set_option maxRecDepth 100000 in
theorem tX7_flows (l : Launch) (g : Geo) (sta : Nat → Nat) (h : HS) (h0 : HS) (hx : FS h0 h) : CT (wM l g sta) 3 mX7_flows [.ref (g.2.1 0)] h (FSI h0) := by
  refine CT.at [some (.ref (g.2.1 0)), none, none, none, none] 4 rfl (by decide) (Nat.le_of_ble_eq_true rfl) (fun k K => ?_)
  refine aw_iconst (v := 0) K dX7_flows_0 (by decide) ?_
  refine aw_is1 K dX7_flows_1 (by decide) rfl ?_
  exact lp0X7_flows K h0 (muS (h.1 15) 14 + 1) 0 h none none none (by omega) hx

set_option maxHeartbeats 4000000 in
set_option maxRecDepth 100000 in
theorem lpX7_trustOf {l : Launch} {g : Geo} {sta : Nat → Nat} {k : KT} (K : AOK (wM l g sta) mX7_trustOf k) (h0 : HS) (a : Int32) {N T Wn : Nat} (H0 : MW h0 N T Wn) :
    ∀ (n i : Nat) (h : HS), i + n = N → FS h0 h → AW (wM l g sta) (FSI h0) 6 mX7_trustOf k 6 [some (.ref (g.2.1 0)), some (.int a), some (.int (nI i))] [] h := by
  intro n
  have h3 := H0.1.2
  induction n with
  | zero =>
    intro i h k1 hx
    have H := H0.f hx
    obtain rfl : i = N := by omega
    refine aw_il2 K dX7_trustOf_6 ?_
    refine aw_al0 K dX7_trustOf_7 ?_
    refine aw_getI K gX7_98 dX7_trustOf_8 rfl rfl ?_
    rw [H.1.1]
    refine aw_icmp_ge (tgt := 47) K dX7_trustOf_11 (by decide) (fun b11 => ?_) (fun b11 => ?_)
    · refine aw_al0 K dX7_trustOf_47 ?_
      refine aw_callV K (tX7_flows l g sta _ h0 hx) rfl (by decide) fX7_flows lX7_217 dX7_trustOf_48 rfl clsX7 rfl (Nat.le_of_ble_eq_true rfl) (fun o h2 hq => ?_)
      obtain ⟨⟨r, rfl⟩, hx2⟩ := hq
      refine (show AW _ _ _ _ _ _ _ (.int r :: _) _ from ?_)
      refine aw_iret K rfl dX7_trustOf_51 ?_
      exact ⟨⟨_, rfl⟩, hx2⟩
    · exact absurd (Int32.le_refl _) b11
  | succ n ih =>
    intro i h k1 hx
    have H := H0.f hx
    refine aw_il2 K dX7_trustOf_6 ?_
    refine aw_al0 K dX7_trustOf_7 ?_
    refine aw_getI K gX7_98 dX7_trustOf_8 rfl rfl ?_
    rw [H.1.1]
    refine aw_icmp_ge (tgt := 47) K dX7_trustOf_11 (by decide) (fun b11 => ?_) (fun b11 => ?_)
    · exact absurd b11 (nI_ge (by omega) (by omega))
    · refine aw_al0 K dX7_trustOf_14 ?_
      refine aw_getR K gX7_53 dX7_trustOf_15 rfl rfl ?_
      refine aw_bipush (v := 14) K dX7_trustOf_18 (by decide) ?_
      refine aw_il2 K dX7_trustOf_20 ?_
      refine aw_imul K dX7_trustOf_21 ?_
      refine aw_bipush (v := 13) K dX7_trustOf_22 (by decide) ?_
      refine aw_iadd K dX7_trustOf_24 ?_
      refine aw_il1 K dX7_trustOf_25 ?_
      refine aw_il2 K dX7_trustOf_26 ?_
      refine aw_ishr K dX7_trustOf_27 ?_
      refine aw_iconst (v := 1) K dX7_trustOf_28 (by decide) ?_
      refine aw_iand K dX7_trustOf_29 ?_
      refine aw_iconst (v := 1) K dX7_trustOf_30 (by decide) ?_
      refine aw_icmp_ne (tgt := 39) K dX7_trustOf_31 (by decide) (fun b31 => ?_) (fun b31 => ?_)
      · refine aw_iconst (v := 0) K dX7_trustOf_39 (by decide) ?_
        rw [show (13 : Int32) = nI 13 from rfl, xm]
        refine aw_iast K dX7_trustOf_40 rfl (vp_in_nI (by omega) (by decide)) ?_
        refine aw_ii2 (v := _ + 1) K dX7_trustOf_41 rfl (by decide) rfl ?_
        refine aw_goto (tgt := 6) K dX7_trustOf_44 (by decide) ?_
        rw [nI_1]
        exact ih (i + 1) _ (by omega) (hx.pt rfl (by decide))
      · refine aw_ldc K qX7_213 dX7_trustOf_34 ?_
        refine aw_goto (tgt := 40) K dX7_trustOf_36 (by decide) ?_
        rw [show (13 : Int32) = nI 13 from rfl, xm]
        refine aw_iast K dX7_trustOf_40 rfl (vp_in_nI (by omega) (by decide)) ?_
        refine aw_ii2 (v := _ + 1) K dX7_trustOf_41 rfl (by decide) rfl ?_
        refine aw_goto (tgt := 6) K dX7_trustOf_44 (by decide) ?_
        rw [nI_1]
        exact ih (i + 1) _ (by omega) (hx.pt rfl (by decide))
set_option maxHeartbeats 4000000 in
set_option maxRecDepth 100000 in
theorem trF (l : Launch) (g : Geo) (sta : Nat → Nat) (h : HS) (a : Int32) (h0 : HS) {N T Wn : Nat} (H0 : MW h0 N T Wn) (hx : FS h0 h) : CT (wM l g sta) 6 mX7_trustOf [.ref (g.2.1 0), .int a] h (FSI h0) := by
  refine CT.at [some (.ref (g.2.1 0)), some (.int a), none] 1 rfl (by decide) (Nat.le_of_ble_eq_true rfl) (fun k K => ?_)
  refine aw_al0 K dX7_trustOf_0 ?_
  refine aw_callV K (tX7_begins l g sta _ h0 H0 hx) rfl (by decide) fX7_begins lX7_214 dX7_trustOf_1 rfl clsX7 rfl (Nat.le_of_ble_eq_true rfl) (fun o h2 hq => ?_)
  obtain ⟨rfl, hx2⟩ := hq
  refine aw_iconst (v := 0) K dX7_trustOf_4 (by decide) ?_
  refine aw_is2 K dX7_trustOf_5 (by decide) rfl ?_
  exact lpX7_trustOf K h0 a H0 N 0 _ (by omega) hx2

theorem tX7_trustOf (l : Launch) (g : Geo) (sta : Nat → Nat) (h : HS) (a : Int32) (h0 : HS) {N T Wn : Nat} (H0 : MW h0 N T Wn) (hx : MS h0 h) : CT (wM l g sta) 6 mX7_trustOf [.ref (g.2.1 0), .int a] h (MSI h0) := CT.imp (trF l g sta h a h (H0.q hx) FS.rf) (fun o h' q => ⟨q.1, hx.tr q.2.ms⟩)
set_option maxHeartbeats 4000000 in
set_option maxRecDepth 100000 in
theorem lpX7_gainOf {l : Launch} {g : Geo} {sta : Nat → Nat} {k : KT} (K : AOK (wM l g sta) mX7_gainOf k) (h0 : HS) (a b c : Int32) {N T Wn : Nat} (H0 : MW h0 N T Wn) :
    ∀ (n i : Nat) (co : Int32) (h : HS), i + n = N → FS h0 h → AW (wM l g sta) (FSI h0) 6 mX7_gainOf k 10 [some (.ref (g.2.1 0)), some (.int a), some (.int b), some (.int c), some (.int co), some (.int (nI i)), none] [] h := by
  intro n
  have h3 := H0.1.2
  induction n with
  | zero =>
    intro i co h k1 hx
    have H := H0.f hx
    obtain rfl : i = N := by omega
    refine aw_il5 K dX7_gainOf_10 ?_
    refine aw_al0 K dX7_gainOf_12 ?_
    refine aw_getI K gX7_98 dX7_gainOf_13 rfl rfl ?_
    rw [H.1.1]
    refine aw_icmp_ge (tgt := 96) K dX7_gainOf_16 (by decide) (fun b16 => ?_) (fun b16 => ?_)
    · refine aw_il3 K dX7_gainOf_96 ?_
      refine aw_al0 K dX7_gainOf_97 ?_
      refine aw_callV K (tX7_flows l g sta _ h0 hx) rfl (by decide) fX7_flows lX7_217 dX7_gainOf_98 rfl clsX7 rfl (Nat.le_of_ble_eq_true rfl) (fun o h2 hq => ?_)
      obtain ⟨⟨r, rfl⟩, hx2⟩ := hq
      refine (show AW _ _ _ _ _ _ _ (.int r :: _) _ from ?_)
      refine aw_imul K dX7_gainOf_101 ?_
      refine aw_il4 K dX7_gainOf_102 ?_
      refine aw_isub K dX7_gainOf_104 ?_
      refine aw_iret K rfl dX7_gainOf_105 ?_
      exact ⟨⟨_, rfl⟩, hx2⟩
    · exact absurd (Int32.le_refl _) b16
  | succ n ih =>
    intro i co h k1 hx
    have H := H0.f hx
    refine aw_il5 K dX7_gainOf_10 ?_
    refine aw_al0 K dX7_gainOf_12 ?_
    refine aw_getI K gX7_98 dX7_gainOf_13 rfl rfl ?_
    rw [H.1.1]
    refine aw_icmp_ge (tgt := 96) K dX7_gainOf_16 (by decide) (fun b16 => ?_) (fun b16 => ?_)
    · exact absurd b16 (nI_ge (by omega) (by omega))
    · refine aw_il1 K dX7_gainOf_19 ?_
      refine aw_il5 K dX7_gainOf_20 ?_
      refine aw_ishr K dX7_gainOf_22 ?_
      refine aw_iconst (v := 1) K dX7_gainOf_23 (by decide) ?_
      refine aw_iand K dX7_gainOf_24 ?_
      refine aw_iconst (v := 1) K dX7_gainOf_25 (by decide) ?_
      refine aw_icmp_ne (tgt := 33) K dX7_gainOf_26 (by decide) (fun b26 => ?_) (fun b26 => ?_)
      · refine aw_iconst (v := 0) K dX7_gainOf_33 (by decide) ?_
        refine aw_is6 K dX7_gainOf_34 (by decide) rfl ?_
        refine aw_al0 K dX7_gainOf_36 ?_
        refine aw_getR K gX7_53 dX7_gainOf_37 rfl rfl ?_
        refine aw_bipush (v := 14) K dX7_gainOf_40 (by decide) ?_
        refine aw_il5 K dX7_gainOf_42 ?_
        refine aw_imul K dX7_gainOf_44 ?_
        refine aw_bipush (v := 13) K dX7_gainOf_45 (by decide) ?_
        refine aw_iadd K dX7_gainOf_47 ?_
        refine aw_il6 K dX7_gainOf_48 ?_
        refine aw_if_eq (tgt := 67) K dX7_gainOf_50 (by decide) (fun b50 => ?_) (fun b50 => ?_)
        · refine aw_iconst (v := 0) K dX7_gainOf_67 (by decide) ?_
          rw [show (13 : Int32) = nI 13 from rfl, xm]
          refine aw_iast K dX7_gainOf_68 rfl (vp_in_nI (by omega) (by decide)) ?_
          refine aw_il4 K dX7_gainOf_69 ?_
          refine aw_il6 K dX7_gainOf_71 ?_
          refine aw_if_eq (tgt := 86) K dX7_gainOf_73 (by decide) (fun b73 => ?_) (fun b73 => ?_)
          · refine aw_iconst (v := 0) K dX7_gainOf_86 (by decide) ?_
            refine aw_iadd K dX7_gainOf_87 ?_
            refine aw_is4 K dX7_gainOf_88 (by decide) rfl ?_
            refine aw_ii5 (v := _ + 1) K dX7_gainOf_90 rfl (by decide) rfl ?_
            refine aw_goto (tgt := 10) K dX7_gainOf_93 (by decide) ?_
            rw [nI_1]
            refine aw_sub [some (.ref (g.2.1 0)), some (.int _), some (.int _), some (.int _), some (.int _), some (.int _), none] ⟨rfl, rfl, rfl, rfl, rfl, rfl, trivial⟩ ?_
            exact ih (i + 1) _ _ (by omega) (hx.pt rfl (by decide))
          · refine aw_al0 K dX7_gainOf_76 ?_
            refine aw_getR K gX7_7 dX7_gainOf_77 rfl rfl ?_
            refine aw_il5 K dX7_gainOf_80 ?_
            refine aw_iald K dX7_gainOf_82 rfl (vp_in_nI (by omega) (by decide)) ?_
            refine aw_goto (tgt := 87) K dX7_gainOf_83 (by decide) ?_
            refine aw_iadd K dX7_gainOf_87 ?_
            refine aw_is4 K dX7_gainOf_88 (by decide) rfl ?_
            refine aw_ii5 (v := _ + 1) K dX7_gainOf_90 rfl (by decide) rfl ?_
            refine aw_goto (tgt := 10) K dX7_gainOf_93 (by decide) ?_
            rw [nI_1]
            refine aw_sub [some (.ref (g.2.1 0)), some (.int _), some (.int _), some (.int _), some (.int _), some (.int _), none] ⟨rfl, rfl, rfl, rfl, rfl, rfl, trivial⟩ ?_
            exact ih (i + 1) _ _ (by omega) (hx.pt rfl (by decide))
        · refine aw_il2 K dX7_gainOf_53 ?_
          refine aw_al0 K dX7_gainOf_54 ?_
          refine aw_getR K gX7_41 dX7_gainOf_55 rfl rfl ?_
          refine aw_iconst (v := 3) K dX7_gainOf_58 (by decide) ?_
          refine aw_iald K dX7_gainOf_59 rfl (vp_in_nI (n := 3) (by decide) (by decide)) ?_
          refine aw_imul K dX7_gainOf_60 ?_
          refine aw_bipush (v := 100) K dX7_gainOf_61 (by decide) ?_
          refine aw_idiv K dX7_gainOf_63 (by decide) ?_
          refine aw_goto (tgt := 68) K dX7_gainOf_64 (by decide) ?_
          rw [show (13 : Int32) = nI 13 from rfl, xm]
          refine aw_iast K dX7_gainOf_68 rfl (vp_in_nI (by omega) (by decide)) ?_
          refine aw_il4 K dX7_gainOf_69 ?_
          refine aw_il6 K dX7_gainOf_71 ?_
          refine aw_if_eq (tgt := 86) K dX7_gainOf_73 (by decide) (fun b73 => ?_) (fun b73 => ?_)
          · refine aw_iconst (v := 0) K dX7_gainOf_86 (by decide) ?_
            refine aw_iadd K dX7_gainOf_87 ?_
            refine aw_is4 K dX7_gainOf_88 (by decide) rfl ?_
            refine aw_ii5 (v := _ + 1) K dX7_gainOf_90 rfl (by decide) rfl ?_
            refine aw_goto (tgt := 10) K dX7_gainOf_93 (by decide) ?_
            rw [nI_1]
            refine aw_sub [some (.ref (g.2.1 0)), some (.int _), some (.int _), some (.int _), some (.int _), some (.int _), none] ⟨rfl, rfl, rfl, rfl, rfl, rfl, trivial⟩ ?_
            exact ih (i + 1) _ _ (by omega) (hx.pt rfl (by decide))
          · refine aw_al0 K dX7_gainOf_76 ?_
            refine aw_getR K gX7_7 dX7_gainOf_77 rfl rfl ?_
            refine aw_il5 K dX7_gainOf_80 ?_
            refine aw_iald K dX7_gainOf_82 rfl (vp_in_nI (by omega) (by decide)) ?_
            refine aw_goto (tgt := 87) K dX7_gainOf_83 (by decide) ?_
            refine aw_iadd K dX7_gainOf_87 ?_
            refine aw_is4 K dX7_gainOf_88 (by decide) rfl ?_
            refine aw_ii5 (v := _ + 1) K dX7_gainOf_90 rfl (by decide) rfl ?_
            refine aw_goto (tgt := 10) K dX7_gainOf_93 (by decide) ?_
            rw [nI_1]
            refine aw_sub [some (.ref (g.2.1 0)), some (.int _), some (.int _), some (.int _), some (.int _), some (.int _), none] ⟨rfl, rfl, rfl, rfl, rfl, rfl, trivial⟩ ?_
            exact ih (i + 1) _ _ (by omega) (hx.pt rfl (by decide))
      · refine aw_iconst (v := 1) K dX7_gainOf_29 (by decide) ?_
        refine aw_goto (tgt := 34) K dX7_gainOf_30 (by decide) ?_
        refine aw_is6 K dX7_gainOf_34 (by decide) rfl ?_
        refine aw_al0 K dX7_gainOf_36 ?_
        refine aw_getR K gX7_53 dX7_gainOf_37 rfl rfl ?_
        refine aw_bipush (v := 14) K dX7_gainOf_40 (by decide) ?_
        refine aw_il5 K dX7_gainOf_42 ?_
        refine aw_imul K dX7_gainOf_44 ?_
        refine aw_bipush (v := 13) K dX7_gainOf_45 (by decide) ?_
        refine aw_iadd K dX7_gainOf_47 ?_
        refine aw_il6 K dX7_gainOf_48 ?_
        refine aw_if_eq (tgt := 67) K dX7_gainOf_50 (by decide) (fun b50 => ?_) (fun b50 => ?_)
        · refine aw_iconst (v := 0) K dX7_gainOf_67 (by decide) ?_
          rw [show (13 : Int32) = nI 13 from rfl, xm]
          refine aw_iast K dX7_gainOf_68 rfl (vp_in_nI (by omega) (by decide)) ?_
          refine aw_il4 K dX7_gainOf_69 ?_
          refine aw_il6 K dX7_gainOf_71 ?_
          refine aw_if_eq (tgt := 86) K dX7_gainOf_73 (by decide) (fun b73 => ?_) (fun b73 => ?_)
          · refine aw_iconst (v := 0) K dX7_gainOf_86 (by decide) ?_
            refine aw_iadd K dX7_gainOf_87 ?_
            refine aw_is4 K dX7_gainOf_88 (by decide) rfl ?_
            refine aw_ii5 (v := _ + 1) K dX7_gainOf_90 rfl (by decide) rfl ?_
            refine aw_goto (tgt := 10) K dX7_gainOf_93 (by decide) ?_
            rw [nI_1]
            refine aw_sub [some (.ref (g.2.1 0)), some (.int _), some (.int _), some (.int _), some (.int _), some (.int _), none] ⟨rfl, rfl, rfl, rfl, rfl, rfl, trivial⟩ ?_
            exact ih (i + 1) _ _ (by omega) (hx.pt rfl (by decide))
          · refine aw_al0 K dX7_gainOf_76 ?_
            refine aw_getR K gX7_7 dX7_gainOf_77 rfl rfl ?_
            refine aw_il5 K dX7_gainOf_80 ?_
            refine aw_iald K dX7_gainOf_82 rfl (vp_in_nI (by omega) (by decide)) ?_
            refine aw_goto (tgt := 87) K dX7_gainOf_83 (by decide) ?_
            refine aw_iadd K dX7_gainOf_87 ?_
            refine aw_is4 K dX7_gainOf_88 (by decide) rfl ?_
            refine aw_ii5 (v := _ + 1) K dX7_gainOf_90 rfl (by decide) rfl ?_
            refine aw_goto (tgt := 10) K dX7_gainOf_93 (by decide) ?_
            rw [nI_1]
            refine aw_sub [some (.ref (g.2.1 0)), some (.int _), some (.int _), some (.int _), some (.int _), some (.int _), none] ⟨rfl, rfl, rfl, rfl, rfl, rfl, trivial⟩ ?_
            exact ih (i + 1) _ _ (by omega) (hx.pt rfl (by decide))
        · refine aw_il2 K dX7_gainOf_53 ?_
          refine aw_al0 K dX7_gainOf_54 ?_
          refine aw_getR K gX7_41 dX7_gainOf_55 rfl rfl ?_
          refine aw_iconst (v := 3) K dX7_gainOf_58 (by decide) ?_
          refine aw_iald K dX7_gainOf_59 rfl (vp_in_nI (n := 3) (by decide) (by decide)) ?_
          refine aw_imul K dX7_gainOf_60 ?_
          refine aw_bipush (v := 100) K dX7_gainOf_61 (by decide) ?_
          refine aw_idiv K dX7_gainOf_63 (by decide) ?_
          refine aw_goto (tgt := 68) K dX7_gainOf_64 (by decide) ?_
          rw [show (13 : Int32) = nI 13 from rfl, xm]
          refine aw_iast K dX7_gainOf_68 rfl (vp_in_nI (by omega) (by decide)) ?_
          refine aw_il4 K dX7_gainOf_69 ?_
          refine aw_il6 K dX7_gainOf_71 ?_
          refine aw_if_eq (tgt := 86) K dX7_gainOf_73 (by decide) (fun b73 => ?_) (fun b73 => ?_)
          · refine aw_iconst (v := 0) K dX7_gainOf_86 (by decide) ?_
            refine aw_iadd K dX7_gainOf_87 ?_
            refine aw_is4 K dX7_gainOf_88 (by decide) rfl ?_
            refine aw_ii5 (v := _ + 1) K dX7_gainOf_90 rfl (by decide) rfl ?_
            refine aw_goto (tgt := 10) K dX7_gainOf_93 (by decide) ?_
            rw [nI_1]
            refine aw_sub [some (.ref (g.2.1 0)), some (.int _), some (.int _), some (.int _), some (.int _), some (.int _), none] ⟨rfl, rfl, rfl, rfl, rfl, rfl, trivial⟩ ?_
            exact ih (i + 1) _ _ (by omega) (hx.pt rfl (by decide))
          · refine aw_al0 K dX7_gainOf_76 ?_
            refine aw_getR K gX7_7 dX7_gainOf_77 rfl rfl ?_
            refine aw_il5 K dX7_gainOf_80 ?_
            refine aw_iald K dX7_gainOf_82 rfl (vp_in_nI (by omega) (by decide)) ?_
            refine aw_goto (tgt := 87) K dX7_gainOf_83 (by decide) ?_
            refine aw_iadd K dX7_gainOf_87 ?_
            refine aw_is4 K dX7_gainOf_88 (by decide) rfl ?_
            refine aw_ii5 (v := _ + 1) K dX7_gainOf_90 rfl (by decide) rfl ?_
            refine aw_goto (tgt := 10) K dX7_gainOf_93 (by decide) ?_
            rw [nI_1]
            refine aw_sub [some (.ref (g.2.1 0)), some (.int _), some (.int _), some (.int _), some (.int _), some (.int _), none] ⟨rfl, rfl, rfl, rfl, rfl, rfl, trivial⟩ ?_
            exact ih (i + 1) _ _ (by omega) (hx.pt rfl (by decide))
set_option maxHeartbeats 4000000 in
set_option maxRecDepth 100000 in
theorem gnF (l : Launch) (g : Geo) (sta : Nat → Nat) (h : HS) (a b c : Int32) (h0 : HS) {N T Wn : Nat} (H0 : MW h0 N T Wn) (hx : FS h0 h) : CT (wM l g sta) 6 mX7_gainOf [.ref (g.2.1 0), .int a, .int b, .int c] h (FSI h0) := by
  refine CT.at [some (.ref (g.2.1 0)), some (.int a), some (.int b), some (.int c), none, none, none] 3 rfl (by decide) (Nat.le_of_ble_eq_true rfl) (fun k K => ?_)
  refine aw_al0 K dX7_gainOf_0 ?_
  refine aw_callV K (tX7_begins l g sta _ h0 H0 hx) rfl (by decide) fX7_begins lX7_214 dX7_gainOf_1 rfl clsX7 rfl (Nat.le_of_ble_eq_true rfl) (fun o h2 hq => ?_)
  obtain ⟨rfl, hx2⟩ := hq
  refine aw_iconst (v := 0) K dX7_gainOf_4 (by decide) ?_
  refine aw_is4 K dX7_gainOf_5 (by decide) rfl ?_
  refine aw_iconst (v := 0) K dX7_gainOf_7 (by decide) ?_
  refine aw_is5 K dX7_gainOf_8 (by decide) rfl ?_
  exact lpX7_gainOf K h0 a b c H0 N 0 0 _ (by omega) hx2

theorem tX7_gainOf (l : Launch) (g : Geo) (sta : Nat → Nat) (h : HS) (a b c : Int32) (h0 : HS) {N T Wn : Nat} (H0 : MW h0 N T Wn) (hx : MS h0 h) : CT (wM l g sta) 6 mX7_gainOf [.ref (g.2.1 0), .int a, .int b, .int c] h (MSI h0) := CT.imp (gnF l g sta h a b c h (H0.q hx) FS.rf) (fun o h' q => ⟨q.1, hx.tr q.2.ms⟩)
