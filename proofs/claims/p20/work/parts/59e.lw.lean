noncomputable def lwS (v : Nat → Nat → Int32) (N T : Nat) (z : Int32) : Nat → Int32 × Int32
  | 0 => (-4, z)
  | i + 1 => if v 2 i = 0 ∧ v 3 i = 0 then (if (lwS v N T z i).1 = -4 ∨ trV v N T ((1 : Int32) <<< (nI i &&& 31)) < (lwS v N T z i).2 then (nI i, trV v N T ((1 : Int32) <<< (nI i &&& 31))) else lwS v N T z i) else lwS v N T z i
noncomputable def lwX (v : Nat → Nat → Int32) (N T : Nat) (a : Int32) : Int32 := if 0 ≤ a ∧ a ≤ 1 then (if a = 0 ∨ (lwS v N T 0 N).1 = -4 then (lwS v N T 0 N).1 else (lwS v N T 0 N).2) else -1
noncomputable def lwM (v : Nat → Nat → Int32) (N T : Nat) (a : Int32) : Int32 := if 0 ≤ a ∧ a ≤ 1 then (if a = 0 then (lwS v N T (-4) N).1 else (lwS v N T (-4) N).2) else -1
theorem lwS_eq {hx hm : HS} (r : REL hx hm) (N T : Nat) (z : Int32) : ∀ i, lwS hm.1 N T z i = lwS (vX hx) N T z i
  | 0 => rfl
  | i + 1 => by
    unfold lwS
    rw [lwS_eq r N T z i, trV_eq r, r.r (17, 2) (by decide), r.r (18, 3) (by decide)]
    rfl
theorem lwS_z {v : Nat → Nat → Int32} {N T : Nat} : ∀ i, i ≤ 12 → (lwS v N T 0 i).1 = (lwS v N T (-4) i).1 ∧ ((lwS v N T 0 i).1 = -4 → (lwS v N T (-4) i).2 = -4) ∧ (¬ (lwS v N T 0 i).1 = -4 → (lwS v N T 0 i).2 = (lwS v N T (-4) i).2)
  | 0, _ => ⟨rfl, fun _ => rfl, fun q => absurd rfl q⟩
  | i + 1, hi => by
    obtain ⟨h1, h2, h3⟩ := lwS_z (v := v) (N := N) (T := T) i (by omega)
    unfold lwS
    by_cases p : v 2 i = 0 ∧ v 3 i = 0
    · rw [if_pos p, if_pos p]
      by_cases q : (lwS v N T 0 i).1 = -4
      · rw [if_pos (Or.inl q), if_pos (Or.inl (h1 ▸ q))]
        exact ⟨rfl, fun z => absurd z (nI_n4 (by omega)), fun _ => rfl⟩
      · have q' : ¬ (lwS v N T (-4) i).1 = -4 := fun z => q (h1.trans z)
        by_cases u : trV v N T ((1 : Int32) <<< (nI i &&& 31)) < (lwS v N T 0 i).2
        · rw [if_pos (Or.inr u), if_pos (Or.inr (h3 q ▸ u))]
          exact ⟨rfl, fun z => absurd z (nI_n4 (by omega)), fun _ => rfl⟩
        · rw [if_neg (fun z => z.elim q u), if_neg (fun z => z.elim q' (fun y => u (by rw [h3 q]; exact y)))]
          exact ⟨h1, h2, h3⟩
    · rw [if_neg p, if_neg p]
      exact ⟨h1, h2, h3⟩
theorem lw_eq {hx hm : HS} {N T Wn : Nat} (r : REL hx hm) (H : XW hx N T Wn) (a : Int32) : lwX (vX hx) N T a = lwM hm.1 N T a := by
  obtain ⟨h1, h2, h3⟩ := lwS_z (v := vX hx) (N := N) (T := T) N H.1.2
  unfold lwX lwM
  rw [lwS_eq r]
  split
  · by_cases q : a = 0
    · rw [if_pos (Or.inl q), if_pos q]
      exact h1
    · rw [if_neg q]
      by_cases u : (lwS (vX hx) N T 0 N).1 = -4
      · rw [if_pos (Or.inr u), u, h2 u]
      · rw [if_neg (fun z => z.elim q u)]
        exact h3 u
  · rfl
set_option maxHeartbeats 4000000 in
set_option maxRecDepth 100000 in
theorem lrX6_low {l : Launch} {g : Geo} {sta : Nat → Nat} {k : KT} (K : AOK (wX l g sta) mX6_low k) (h0 : HS) (a : Int32) (ok : 0 ≤ a ∧ a ≤ 1) {N T Wn : Nat} (H0 : XW h0 N T Wn) (s : SML (vX h0) N T) :
    ∀ (n i : Nat) (h : HS), i ≤ N → N - i < n → LY h0 h N T → AW (wX l g sta) (fun o h' => o = some (.int (lwX (vX h0) N T a)) ∧ XQ h0 h') 7 mX6_low k 23 [some (.ref (g.2.1 0)), some (.int a), some (.int (lwS (vX h0) N T 0 i).1), some (.int (lwS (vX h0) N T 0 i).2), some (.int (nI i)), none] [] h := by
  intro n
  have hN := H0.1.2
  induction n with
  | zero => intro i h h1 h2; omega
  | succ n ih =>
    intro i h h1 h2 ly
    have H := H0.q ly.1
    have e2 : vX h 2 = vX h0 2 := ly.1.1 17 rfl
    have e3 : vX h 3 = vX h0 3 := ly.1.1 18 rfl
    refine aw_il4 K dX6_low_23 ?_
    refine aw_al0 K dX6_low_25 ?_
    refine aw_getR K gX6_12 dX6_low_26 rfl rfl ?_
    refine aw_getI K gX6_161 dX6_low_29 rfl rfl ?_
    rw [H.1.1]
    refine aw_icmp_ge (tgt := 84) K dX6_low_32 (by decide) (fun b32 => ?_) (fun b32 => ?_)
    · have hge : N ≤ i := (nI_leI (a := N) (by omega) (by omega : i < 2 ^ 31)).mp b32
      obtain rfl : i = N := by omega
      refine aw_il1 K dX6_low_84 ?_
      refine aw_if_eq (tgt := 94) K dX6_low_85 (by decide) (fun b85 => ?_) (fun b85 => ?_)
      · refine aw_il2 K dX6_low_94 ?_
        refine aw_goto (tgt := 99) K dX6_low_95 (by decide) ?_
        refine aw_iret K rfl dX6_low_99 ?_
        exact ⟨congrArg some (congrArg Value.int ((if_pos ok).trans (if_pos (Or.inl b85))).symm), ly.1⟩
      · refine aw_il2 K dX6_low_88 ?_
        refine aw_bipush (v := (-4)) K dX6_low_89 (by decide) ?_
        refine aw_icmp_ne (tgt := 98) K dX6_low_91 (by decide) (fun b91 => ?_) (fun b91 => ?_)
        · refine aw_il3 K dX6_low_98 ?_
          refine aw_iret K rfl dX6_low_99 ?_
          exact ⟨congrArg some (congrArg Value.int ((if_pos ok).trans (if_neg (fun z => z.elim b85 b91))).symm), ly.1⟩
        · refine aw_il2 K dX6_low_94 ?_
          refine aw_goto (tgt := 99) K dX6_low_95 (by decide) ?_
          refine aw_iret K rfl dX6_low_99 ?_
          exact ⟨congrArg some (congrArg Value.int ((if_pos ok).trans (if_pos (Or.inr b91))).symm), ly.1⟩
    · have hlt : i < N := by
        rcases Nat.lt_or_ge i N with q | q
        · exact q
        · exact absurd (nI_le (a := N) q (by omega)) b32
      refine aw_al0 K dX6_low_35 ?_
      refine aw_il4 K dX6_low_36 ?_
      refine aw_callV_I K (tX6_isPlain l g sta _ _ (vp_in_nI (by omega) (by decide))) rfl (by decide) fX6_isPlain lX6_208 dX6_low_38 rfl clsX6 rfl (Nat.le_of_ble_eq_true rfl) ?_
      refine aw_if_ne (tgt := 47) K dX6_low_41 (by decide) (fun b41 => ?_) (fun b41 => ?_)
      · have pl := bI_1.mp b41
        rw [nI_clamp (show i < 2 ^ 31 by omega), e2, e3] at pl
        refine aw_al0 K dX6_low_47 ?_
        refine aw_getR K gX6_40 dX6_low_48 rfl rfl ?_
        refine aw_iconst (v := 1) K dX6_low_51 (by decide) ?_
        refine aw_il4 K dX6_low_52 ?_
        refine aw_ishl K dX6_low_54 ?_
        refine aw_callV K (moT l g sta _ _ h0 H0 s ly (hp_1 hN hlt)) rfl (by decide) fX0_most lX6_193 dX6_low_55 rfl clsX0 rfl (Nat.le_of_ble_eq_true rfl) (fun o h2 hq => ?_)
        obtain ⟨rfl, ly2, re⟩ := hq
        refine (show AW _ _ _ _ _ _ _ (.int _ :: _) _ from ?_)
        refine aw_is5 K dX6_low_58 (by decide) rfl ?_
        refine aw_il2 K dX6_low_60 ?_
        refine aw_bipush (v := (-4)) K dX6_low_61 (by decide) ?_
        refine aw_icmp_eq (tgt := 72) K dX6_low_63 (by decide) (fun b63 => ?_) (fun b63 => ?_)
        · refine aw_il4 K dX6_low_72 ?_
          refine aw_is2 K dX6_low_74 (by decide) rfl ?_
          refine aw_il5 K dX6_low_75 ?_
          refine aw_is3 K dX6_low_77 (by decide) rfl ?_
          refine aw_ii4 (v := _ + 1) K dX6_low_78 rfl (by decide) rfl ?_
          refine aw_goto (tgt := 23) K dX6_low_81 (by decide) ?_
          rw [nI_1]
          refine aw_sub [some (.ref (g.2.1 0)), some (.int a), some (.int _), some (.int _), some (.int _), none] ⟨rfl, rfl, rfl, rfl, rfl, trivial⟩ ?_
          have z := ih (i + 1) h2 (by omega) (by omega) ly2
          rw [show lwS (vX h0) N T 0 (i + 1) = _ from (if_pos pl).trans (if_pos (Or.inl b63))] at z
          exact z
        · refine aw_il5 K dX6_low_66 ?_
          refine aw_il3 K dX6_low_68 ?_
          refine aw_icmp_ge (tgt := 78) K dX6_low_69 (by decide) (fun b69 => ?_) (fun b69 => ?_)
          · refine aw_ii4 (v := _ + 1) K dX6_low_78 rfl (by decide) rfl ?_
            refine aw_goto (tgt := 23) K dX6_low_81 (by decide) ?_
            rw [nI_1]
            refine aw_sub [some (.ref (g.2.1 0)), some (.int a), some (.int _), some (.int _), some (.int _), none] ⟨rfl, rfl, rfl, rfl, rfl, trivial⟩ ?_
            have z := ih (i + 1) h2 (by omega) (by omega) ly2
            rw [show lwS (vX h0) N T 0 (i + 1) = _ from (if_pos pl).trans (if_neg (fun z => z.elim b63 (Int32.not_lt.mpr b69)))] at z
            exact z
          · refine aw_il4 K dX6_low_72 ?_
            refine aw_is2 K dX6_low_74 (by decide) rfl ?_
            refine aw_il5 K dX6_low_75 ?_
            refine aw_is3 K dX6_low_77 (by decide) rfl ?_
            refine aw_ii4 (v := _ + 1) K dX6_low_78 rfl (by decide) rfl ?_
            refine aw_goto (tgt := 23) K dX6_low_81 (by decide) ?_
            rw [nI_1]
            refine aw_sub [some (.ref (g.2.1 0)), some (.int a), some (.int _), some (.int _), some (.int _), none] ⟨rfl, rfl, rfl, rfl, rfl, trivial⟩ ?_
            have z := ih (i + 1) h2 (by omega) (by omega) ly2
            rw [show lwS (vX h0) N T 0 (i + 1) = _ from (if_pos pl).trans (if_pos (Or.inr (Int32.not_le.mp b69)))] at z
            exact z
      · have pl := bI_0.mp b41
        rw [nI_clamp (show i < 2 ^ 31 by omega), e2, e3] at pl
        refine aw_goto (tgt := 78) K dX6_low_44 (by decide) ?_
        refine aw_ii4 (v := _ + 1) K dX6_low_78 rfl (by decide) rfl ?_
        refine aw_goto (tgt := 23) K dX6_low_81 (by decide) ?_
        rw [nI_1]
        skip
        have z := ih (i + 1) h (by omega) (by omega) ly
        rw [show lwS (vX h0) N T 0 (i + 1) = _ from if_neg pl] at z
        exact z
set_option maxHeartbeats 4000000 in
set_option maxRecDepth 100000 in
theorem eX6_low (l : Launch) (g : Geo) (sta : Nat → Nat) (h : HS) (a : Int32) {N T Wn : Nat} (H : XW h N T Wn) (s : SML (vX h) N T) : CT (wX l g sta) 7 mX6_low [.ref (g.2.1 0), .int a] h (fun o h' => o = some (.int (lwX (vX h) N T a)) ∧ XQ h h') := by
  refine CT.at [some (.ref (g.2.1 0)), some (.int a), none, none, none, none] 4 rfl (by decide) (Nat.le_of_ble_eq_true rfl) (fun k K => ?_)
  refine aw_il1 K dX6_low_0 ?_
  refine aw_iconst (v := 0) K dX6_low_1 (by decide) ?_
  refine aw_iconst (v := 1) K dX6_low_2 (by decide) ?_
  refine aw_callS_I K (tX6_within l g sta _ _ _ _) rfl (by decide) fX6_within lX6_76 dX6_low_3 rfl (Nat.le_of_ble_eq_true rfl) ?_
  refine aw_if_ne (tgt := 11) K dX6_low_6 (by decide) (fun b6 => ?_) (fun b6 => ?_)
  · refine aw_al0 K dX6_low_11 ?_
    refine aw_callV K (laX l g sta _ H s) rfl (by decide) fX6_layFlow lX6_190 dX6_low_12 rfl clsX6 rfl (Nat.le_of_ble_eq_true rfl) (fun o h2 hq => ?_)
    obtain ⟨rfl, ly⟩ := hq
    have ly : LY h h2 N T := ly
    refine aw_bipush (v := (-4)) K dX6_low_15 (by decide) ?_
    refine aw_is2 K dX6_low_17 (by decide) rfl ?_
    refine aw_iconst (v := 0) K dX6_low_18 (by decide) ?_
    refine aw_is3 K dX6_low_19 (by decide) rfl ?_
    refine aw_iconst (v := 0) K dX6_low_20 (by decide) ?_
    refine aw_is4 K dX6_low_21 (by decide) rfl ?_
    exact lrX6_low K h a (bI_1.mp b6) H s (N + 1) 0 _ (by omega) (by omega) ly
  · refine aw_iconst (v := (-1)) K dX6_low_9 (by decide) ?_
    refine aw_iret K rfl dX6_low_10 ?_
    exact ⟨congrArg some (congrArg Value.int (if_neg (bI_0.mp b6)).symm), H.s⟩

set_option maxHeartbeats 4000000 in
set_option maxRecDepth 100000 in
theorem lrX7_low {l : Launch} {g : Geo} {sta : Nat → Nat} {k : KT} (K : AOK (wM l g sta) mX7_low k) (h0 : HS) (a : Int32) (ok : 0 ≤ a ∧ a ≤ 1) {N T Wn : Nat} (H0 : MW h0 N T Wn) (s : SML h0.1 N T) :
    ∀ (n i : Nat) (h : HS), i + n = N → FS h0 h → AW (wM l g sta) (fun o h' => o = some (.int (lwM h0.1 N T a)) ∧ MS h0 h') 7 mX7_low k 21 [some (.ref (g.2.1 0)), some (.int a), some (.int (lwS h0.1 N T (-4) i).1), some (.int (lwS h0.1 N T (-4) i).2), some (.int (nI i)), none, none] [] h := by
  intro n
  have hN := H0.1.2
  induction n with
  | zero =>
    intro i h k1 hx
    have H := H0.f hx
    obtain rfl : i = N := by omega
    refine aw_il4 K dX7_low_21 ?_
    refine aw_al0 K dX7_low_23 ?_
    refine aw_getI K gX7_98 dX7_low_24 rfl rfl ?_
    rw [H.1.1]
    refine aw_icmp_ge (tgt := 98) K dX7_low_27 (by decide) (fun b27 => ?_) (fun b27 => ?_)
    · refine aw_il1 K dX7_low_98 ?_
      refine aw_if_ne (tgt := 106) K dX7_low_99 (by decide) (fun b99 => ?_) (fun b99 => ?_)
      · refine aw_il3 K dX7_low_106 ?_
        refine aw_iret K rfl dX7_low_107 ?_
        exact ⟨congrArg some (congrArg Value.int ((if_pos ok).trans (if_neg b99)).symm), hx.ms⟩
      · refine aw_il2 K dX7_low_102 ?_
        refine aw_goto (tgt := 107) K dX7_low_103 (by decide) ?_
        refine aw_iret K rfl dX7_low_107 ?_
        exact ⟨congrArg some (congrArg Value.int ((if_pos ok).trans (if_pos b99)).symm), hx.ms⟩
    · exact absurd (Int32.le_refl _) b27
  | succ n ih =>
    intro i h k1 hx
    have H := H0.f hx
    have e2 := hx 2 rfl
    have e3 := hx 3 rfl
    refine aw_il4 K dX7_low_21 ?_
    refine aw_al0 K dX7_low_23 ?_
    refine aw_getI K gX7_98 dX7_low_24 rfl rfl ?_
    rw [H.1.1]
    refine aw_icmp_ge (tgt := 98) K dX7_low_27 (by decide) (fun b27 => ?_) (fun b27 => ?_)
    · exact absurd b27 (nI_ge (by omega) (by omega))
    · refine aw_al0 K dX7_low_30 ?_
      refine aw_il4 K dX7_low_31 ?_
      refine aw_callV_I K (tX7_isPlain l g sta _ _ (vp_in_nI (by omega) (by decide))) rfl (by decide) fX7_isPlain lX7_228 dX7_low_33 rfl clsX7 rfl (Nat.le_of_ble_eq_true rfl) ?_
      refine aw_if_eq (tgt := 92) K dX7_low_36 (by decide) (fun b36 => ?_) (fun b36 => ?_)
      · have pl := bI_0.mp b36
        rw [nI_clamp (show i < 2 ^ 31 by omega), e2, e3] at pl
        refine aw_ii4 (v := _ + 1) K dX7_low_92 rfl (by decide) rfl ?_
        refine aw_goto (tgt := 21) K dX7_low_95 (by decide) ?_
        rw [nI_1]
        skip
        have z := ih (i + 1) h (by omega) hx
        rw [show lwS h0.1 N T (-4) (i + 1) = _ from if_neg pl] at z
        exact z
      · have pl := bI_1.mp b36
        rw [nI_clamp (show i < 2 ^ 31 by omega), e2, e3] at pl
        refine aw_al0 K dX7_low_39 ?_
        refine aw_iconst (v := 1) K dX7_low_40 (by decide) ?_
        refine aw_il4 K dX7_low_41 ?_
        refine aw_ishl K dX7_low_43 ?_
        refine aw_callV K (trT l g sta _ _ h0 H0 s hx) rfl (by decide) fX7_trustOf lX7_220 dX7_low_44 rfl clsX7 rfl (Nat.le_of_ble_eq_true rfl) (fun o h2 hq => ?_)
        obtain ⟨rfl, hx2, re⟩ := hq
        refine (show AW _ _ _ _ _ _ _ (.int _ :: _) _ from ?_)
        refine aw_is5 K dX7_low_47 (by decide) rfl ?_
        refine aw_il2 K dX7_low_49 ?_
        refine aw_bipush (v := (-4)) K dX7_low_50 (by decide) ?_
        refine aw_icmp_eq (tgt := 61) K dX7_low_52 (by decide) (fun b52 => ?_) (fun b52 => ?_)
        · refine aw_iconst (v := 1) K dX7_low_61 (by decide) ?_
          refine aw_goto (tgt := 66) K dX7_low_62 (by decide) ?_
          refine aw_is6 K dX7_low_66 (by decide) rfl ?_
          refine aw_il6 K dX7_low_68 ?_
          refine aw_if_eq (tgt := 78) K dX7_low_70 (by decide) (fun b70 => ?_) (fun b70 => ?_)
          · exact absurd b70 (by decide)
          · refine aw_il4 K dX7_low_73 ?_
            refine aw_goto (tgt := 79) K dX7_low_75 (by decide) ?_
            refine aw_is2 K dX7_low_79 (by decide) rfl ?_
            refine aw_il6 K dX7_low_80 ?_
            refine aw_if_eq (tgt := 90) K dX7_low_82 (by decide) (fun b82 => ?_) (fun b82 => ?_)
            · exact absurd b82 (by decide)
            · refine aw_il5 K dX7_low_85 ?_
              refine aw_goto (tgt := 91) K dX7_low_87 (by decide) ?_
              refine aw_is3 K dX7_low_91 (by decide) rfl ?_
              refine aw_ii4 (v := _ + 1) K dX7_low_92 rfl (by decide) rfl ?_
              refine aw_goto (tgt := 21) K dX7_low_95 (by decide) ?_
              rw [nI_1]
              refine aw_sub [some (.ref (g.2.1 0)), some (.int a), some (.int _), some (.int _), some (.int _), none, none] ⟨rfl, rfl, rfl, rfl, rfl, trivial⟩ ?_
              have z := ih (i + 1) h2 (by omega) hx2
              rw [show lwS h0.1 N T (-4) (i + 1) = _ from (if_pos pl).trans (if_pos (Or.inl b52))] at z
              exact z
        · refine aw_il5 K dX7_low_55 ?_
          refine aw_il3 K dX7_low_57 ?_
          refine aw_icmp_ge (tgt := 65) K dX7_low_58 (by decide) (fun b58 => ?_) (fun b58 => ?_)
          · refine aw_iconst (v := 0) K dX7_low_65 (by decide) ?_
            refine aw_is6 K dX7_low_66 (by decide) rfl ?_
            refine aw_il6 K dX7_low_68 ?_
            refine aw_if_eq (tgt := 78) K dX7_low_70 (by decide) (fun b70 => ?_) (fun b70 => ?_)
            · refine aw_il2 K dX7_low_78 ?_
              refine aw_is2 K dX7_low_79 (by decide) rfl ?_
              refine aw_il6 K dX7_low_80 ?_
              refine aw_if_eq (tgt := 90) K dX7_low_82 (by decide) (fun b82 => ?_) (fun b82 => ?_)
              · refine aw_il3 K dX7_low_90 ?_
                refine aw_is3 K dX7_low_91 (by decide) rfl ?_
                refine aw_ii4 (v := _ + 1) K dX7_low_92 rfl (by decide) rfl ?_
                refine aw_goto (tgt := 21) K dX7_low_95 (by decide) ?_
                rw [nI_1]
                refine aw_sub [some (.ref (g.2.1 0)), some (.int a), some (.int _), some (.int _), some (.int _), none, none] ⟨rfl, rfl, rfl, rfl, rfl, trivial⟩ ?_
                have z := ih (i + 1) h2 (by omega) hx2
                rw [show lwS h0.1 N T (-4) (i + 1) = _ from (if_pos pl).trans (if_neg (fun z => z.elim b52 (Int32.not_lt.mpr b58)))] at z
                exact z
              · exact absurd rfl b82
            · exact absurd rfl b70
          · refine aw_iconst (v := 1) K dX7_low_61 (by decide) ?_
            refine aw_goto (tgt := 66) K dX7_low_62 (by decide) ?_
            refine aw_is6 K dX7_low_66 (by decide) rfl ?_
            refine aw_il6 K dX7_low_68 ?_
            refine aw_if_eq (tgt := 78) K dX7_low_70 (by decide) (fun b70 => ?_) (fun b70 => ?_)
            · exact absurd b70 (by decide)
            · refine aw_il4 K dX7_low_73 ?_
              refine aw_goto (tgt := 79) K dX7_low_75 (by decide) ?_
              refine aw_is2 K dX7_low_79 (by decide) rfl ?_
              refine aw_il6 K dX7_low_80 ?_
              refine aw_if_eq (tgt := 90) K dX7_low_82 (by decide) (fun b82 => ?_) (fun b82 => ?_)
              · exact absurd b82 (by decide)
              · refine aw_il5 K dX7_low_85 ?_
                refine aw_goto (tgt := 91) K dX7_low_87 (by decide) ?_
                refine aw_is3 K dX7_low_91 (by decide) rfl ?_
                refine aw_ii4 (v := _ + 1) K dX7_low_92 rfl (by decide) rfl ?_
                refine aw_goto (tgt := 21) K dX7_low_95 (by decide) ?_
                rw [nI_1]
                refine aw_sub [some (.ref (g.2.1 0)), some (.int a), some (.int _), some (.int _), some (.int _), none, none] ⟨rfl, rfl, rfl, rfl, rfl, trivial⟩ ?_
                have z := ih (i + 1) h2 (by omega) hx2
                rw [show lwS h0.1 N T (-4) (i + 1) = _ from (if_pos pl).trans (if_pos (Or.inr (Int32.not_le.mp b58)))] at z
                exact z
set_option maxHeartbeats 4000000 in
set_option maxRecDepth 100000 in
theorem eX7_low (l : Launch) (g : Geo) (sta : Nat → Nat) (h : HS) (a : Int32) {N T Wn : Nat} (H : MW h N T Wn) (s : SML h.1 N T) : CT (wM l g sta) 7 mX7_low [.ref (g.2.1 0), .int a] h (fun o h' => o = some (.int (lwM h.1 N T a)) ∧ MS h h') := by
  refine CT.at [some (.ref (g.2.1 0)), some (.int a), none, none, none, none, none] 5 rfl (by decide) (Nat.le_of_ble_eq_true rfl) (fun k K => ?_)
  refine aw_il1 K dX7_low_0 ?_
  refine aw_i2l K dX7_low_1 ?_
  refine aw_lconst (v := 0) K dX7_low_2 (by decide) ?_
  refine aw_lconst (v := 1) K dX7_low_3 (by decide) ?_
  refine aw_callS_I K (in32 l g sta _ _ (0) (1) (by decide) (by decide)) rfl (by decide) fX7_in lX7_102 dX7_low_4 rfl (Nat.le_of_ble_eq_true rfl) ?_
  refine aw_if_ne (tgt := 12) K dX7_low_7 (by decide) (fun b7 => ?_) (fun b7 => ?_)
  · refine aw_bipush (v := (-4)) K dX7_low_12 (by decide) ?_
    refine aw_is2 K dX7_low_14 (by decide) rfl ?_
    refine aw_bipush (v := (-4)) K dX7_low_15 (by decide) ?_
    refine aw_is3 K dX7_low_17 (by decide) rfl ?_
    refine aw_iconst (v := 0) K dX7_low_18 (by decide) ?_
    refine aw_is4 K dX7_low_19 (by decide) rfl ?_
    exact lrX7_low K h a (bI_1.mp b7) H s N 0 h (by omega) FS.rf
  · refine aw_iconst (v := (-1)) K dX7_low_10 (by decide) ?_
    refine aw_iret K rfl dX7_low_11 ?_
    exact ⟨congrArg some (congrArg Value.int (if_neg (bI_0.mp b7)).symm), MS.rf⟩

