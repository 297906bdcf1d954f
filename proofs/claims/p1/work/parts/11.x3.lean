/-- a fresh object of the class, as far as a first call looks -/
def XF (h : HS) : Prop := h.1 1 5 = 0 ∧ h.1 2 5 = 0 ∧ h.1 3 7 = 0 ∧ h.1 0 11 = 0 ∧ h.1 0 12 = 0 ∧ h.1 4 1 = 0 ∧ h.1 4 2 = 0 ∧ (∀ j, j < 10 → h.1 11 j = aw_r0 j) ∧ h.1 7 2 = -1 ∧ h.1 8 2 = -1 ∧ h.1 9 2 = -1 ∧ h.1 10 2 = -1
theorem no_in (a : Int32) : ¬ (0 ≤ a ∧ a ≤ 0 - 1) := by
  rintro ⟨h1, h2⟩
  exact absurd (Int32.le_trans h1 h2) (by decide)
theorem xf_nm {h : HS} (F : XF h) (a : Int32) : bI (0 ≤ a ∧ a ≤ h.1 1 5 - 1) = 0 := by rw [F.1]; exact bI_f (no_in a)
theorem xf_ti {h : HS} (F : XF h) (a : Int32) : bI (0 ≤ a ∧ a ≤ h.1 2 5 - 1) = 0 := by rw [F.2.1]; exact bI_f (no_in a)
theorem xf_wo {h : HS} (F : XF h) (a : Int32) : bI (0 ≤ a ∧ a ≤ h.1 3 7 - 1) = 0 := by rw [F.2.2.1]; exact bI_f (no_in a)
theorem in_00 (a : Int32) : (0 ≤ a ∧ a ≤ 0) ↔ a = 0 := ⟨fun q => Int32.le_antisymm q.2 q.1, fun q => by rw [q]; exact ⟨Int32.le_refl _, Int32.le_refl _⟩⟩
theorem xf_hp {h : HS} (F : XF h) (a : Int32) : bI (0 ≤ a ∧ a ≤ 1 <<< (h.1 1 5 &&& 31) - 1) = bI (a = 0) := by
  rw [F.1, show (1 : Int32) <<< ((0 : Int32) &&& 31) - 1 = 0 by decide]
  exact bI_congr (in_00 a)
theorem xf_pr {h : HS} (F : XF h) (a b : Int32) : bI ((0 ≤ a ∧ a ≤ h.1 1 5 - 1) ∧ (0 ≤ b ∧ b ≤ h.1 1 5 - 1) ∧ ¬ a = b) = 0 := by
  rw [F.1]
  exact bI_f (fun q => no_in a q.1)
theorem sh_in {k : Int32} (h : 0 ≤ k ∧ k ≤ 3) : ∃ j : Nat, j < 4 ∧ k = nI j := by
  obtain ⟨j, h1, h2⟩ := nI_of2 (x := k) (M := 3) (n := 3) (by decide) (Int32.not_lt.mpr h.1) h.2
  exact ⟨j, by omega, h2⟩
theorem ru_in {k : Int32} (h : 0 ≤ k ∧ k ≤ 9) : ∃ j : Nat, j < 10 ∧ k = nI j := by
  obtain ⟨j, h1, h2⟩ := nI_of2 (x := k) (M := 9) (n := 9) (by decide) (Int32.not_lt.mpr h.1) h.2
  exact ⟨j, by omega, h2⟩
set_option maxHeartbeats 4000000 in
set_option maxRecDepth 100000 in
theorem uX6_seed (l : Launch) (g : Geo) (sta : Nat → Nat) (h : HS) (a b : Int32) (F : XF h) : CT (wX l g sta) 6 mX6_seed [.ref (g.2.1 0), .int a, .int b] h (DR (-1)) := by
  refine CT.at [some (.ref (g.2.1 0)), some (.int a), some (.int b), none] 1 rfl (by decide) (Nat.le_of_ble_eq_true rfl) (fun k K => ?_)
  refine aw_al0 K dX6_seed_0 ?_
  refine aw_il1 K dX6_seed_1 ?_
  refine aw_callV_I K (tX6_isName l g sta _ _) rfl (by decide) fX6_isName lX6_84 dX6_seed_2 rfl clsX6 rfl (Nat.le_of_ble_eq_true rfl) ?_
  refine aw_if_ne (tgt := 10) K dX6_seed_5 (by decide) (fun b5 => ?_) (fun b5 => ?_)
  · exact absurd (xf_nm F a) b5
  · refine aw_iconst (v := (-1)) K dX6_seed_8 (by decide) ?_
    refine aw_iret K rfl dX6_seed_9 ?_
    exact rfl

set_option maxHeartbeats 4000000 in
set_option maxRecDepth 100000 in
theorem uX6_pledge (l : Launch) (g : Geo) (sta : Nat → Nat) (h : HS) (a b : Int32) (F : XF h) : CT (wX l g sta) 6 mX6_pledge [.ref (g.2.1 0), .int a, .int b] h (DR (-1)) := by
  refine CT.at [some (.ref (g.2.1 0)), some (.int a), some (.int b)] 0 rfl (by decide) (Nat.le_of_ble_eq_true rfl) (fun k K => ?_)
  refine aw_al0 K dX6_pledge_0 ?_
  refine aw_il1 K dX6_pledge_1 ?_
  refine aw_callV_I K (tX6_isName l g sta _ _) rfl (by decide) fX6_isName lX6_84 dX6_pledge_2 rfl clsX6 rfl (Nat.le_of_ble_eq_true rfl) ?_
  refine aw_if_eq (tgt := 19) K dX6_pledge_5 (by decide) (fun b5 => ?_) (fun b5 => ?_)
  · refine aw_iconst (v := (-1)) K dX6_pledge_19 (by decide) ?_
    refine aw_iret K rfl dX6_pledge_20 ?_
    exact rfl
  · exact absurd (xf_nm F a) b5

set_option maxHeartbeats 4000000 in
set_option maxRecDepth 100000 in
theorem uX6_tie (l : Launch) (g : Geo) (sta : Nat → Nat) (h : HS) (a b c e : Int32) (F : XF h) : CT (wX l g sta) 6 mX6_tie [.ref (g.2.1 0), .int a, .int b, .int c, .int e] h (DR (-1)) := by
  refine CT.at [some (.ref (g.2.1 0)), some (.int a), some (.int b), some (.int c), some (.int e)] 0 rfl (by decide) (Nat.le_of_ble_eq_true rfl) (fun k K => ?_)
  refine aw_al0 K dX6_tie_0 ?_
  refine aw_il1 K dX6_tie_1 ?_
  refine aw_il2 K dX6_tie_2 ?_
  refine aw_callV_I K (tX6_arePair l g sta _ _ _) rfl (by decide) fX6_arePair lX6_105 dX6_tie_3 rfl clsX6 rfl (Nat.le_of_ble_eq_true rfl) ?_
  refine aw_if_eq (tgt := 30) K dX6_tie_6 (by decide) (fun b6 => ?_) (fun b6 => ?_)
  · refine aw_iconst (v := (-1)) K dX6_tie_30 (by decide) ?_
    refine aw_iret K rfl dX6_tie_31 ?_
    exact rfl
  · exact absurd (xf_pr F a b) b6

set_option maxHeartbeats 4000000 in
set_option maxRecDepth 100000 in
theorem uX6_tieOf (l : Launch) (g : Geo) (sta : Nat → Nat) (h : HS) (a b : Int32) (F : XF h) : CT (wX l g sta) 6 mX6_tieOf [.ref (g.2.1 0), .int a, .int b] h (DR (-1)) := by
  refine CT.at [some (.ref (g.2.1 0)), some (.int a), some (.int b)] 0 rfl (by decide) (Nat.le_of_ble_eq_true rfl) (fun k K => ?_)
  refine aw_al0 K dX6_tieOf_0 ?_
  refine aw_il1 K dX6_tieOf_1 ?_
  refine aw_callV_I K (tX6_isTie l g sta _ _) rfl (by decide) fX6_isTie lX6_119 dX6_tieOf_2 rfl clsX6 rfl (Nat.le_of_ble_eq_true rfl) ?_
  refine aw_if_ne (tgt := 10) K dX6_tieOf_5 (by decide) (fun b5 => ?_) (fun b5 => ?_)
  · exact absurd (xf_ti F a) b5
  · refine aw_iconst (v := (-1)) K dX6_tieOf_8 (by decide) ?_
    refine aw_iret K rfl dX6_tieOf_9 ?_
    exact rfl

set_option maxHeartbeats 4000000 in
set_option maxRecDepth 100000 in
theorem uX6_renew (l : Launch) (g : Geo) (sta : Nat → Nat) (h : HS) (a : Int32) (F : XF h) : CT (wX l g sta) 6 mX6_renew [.ref (g.2.1 0), .int a] h (DR (-1)) := by
  refine CT.at [some (.ref (g.2.1 0)), some (.int a), none] 1 rfl (by decide) (Nat.le_of_ble_eq_true rfl) (fun k K => ?_)
  refine aw_al0 K dX6_renew_0 ?_
  refine aw_il1 K dX6_renew_1 ?_
  refine aw_callV_I K (tX6_isTie l g sta _ _) rfl (by decide) fX6_isTie lX6_119 dX6_renew_2 rfl clsX6 rfl (Nat.le_of_ble_eq_true rfl) ?_
  refine aw_if_ne (tgt := 10) K dX6_renew_5 (by decide) (fun b5 => ?_) (fun b5 => ?_)
  · exact absurd (xf_ti F a) b5
  · refine aw_iconst (v := (-1)) K dX6_renew_8 (by decide) ?_
    refine aw_iret K rfl dX6_renew_9 ?_
    exact rfl

set_option maxHeartbeats 4000000 in
set_option maxRecDepth 100000 in
theorem uX6_of (l : Launch) (g : Geo) (sta : Nat → Nat) (h : HS) (a b : Int32) (F : XF h) : CT (wX l g sta) 6 mX6_of [.ref (g.2.1 0), .int a, .int b] h (DR (-1)) := by
  refine CT.at [some (.ref (g.2.1 0)), some (.int a), some (.int b)] 0 rfl (by decide) (Nat.le_of_ble_eq_true rfl) (fun k K => ?_)
  refine aw_al0 K dX6_of_0 ?_
  refine aw_il1 K dX6_of_1 ?_
  refine aw_callV_I K (tX6_isName l g sta _ _) rfl (by decide) fX6_isName lX6_84 dX6_of_2 rfl clsX6 rfl (Nat.le_of_ble_eq_true rfl) ?_
  refine aw_if_ne (tgt := 10) K dX6_of_5 (by decide) (fun b5 => ?_) (fun b5 => ?_)
  · exact absurd (xf_nm F a) b5
  · refine aw_iconst (v := (-1)) K dX6_of_8 (by decide) ?_
    refine aw_iret K rfl dX6_of_9 ?_
    exact rfl

set_option maxHeartbeats 4000000 in
set_option maxRecDepth 100000 in
theorem uX6_made (l : Launch) (g : Geo) (sta : Nat → Nat) (h : HS) (a : Int32) (F : XF h) : CT (wX l g sta) 6 mX6_made [.ref (g.2.1 0), .int a] h (DR (-1)) := by
  refine CT.at [some (.ref (g.2.1 0)), some (.int a), none, none] 2 rfl (by decide) (Nat.le_of_ble_eq_true rfl) (fun k K => ?_)
  refine aw_al0 K dX6_made_0 ?_
  refine aw_il1 K dX6_made_1 ?_
  refine aw_callV_I K (tX6_isName l g sta _ _) rfl (by decide) fX6_isName lX6_84 dX6_made_2 rfl clsX6 rfl (Nat.le_of_ble_eq_true rfl) ?_
  refine aw_if_ne (tgt := 10) K dX6_made_5 (by decide) (fun b5 => ?_) (fun b5 => ?_)
  · exact absurd (xf_nm F a) b5
  · refine aw_iconst (v := (-1)) K dX6_made_8 (by decide) ?_
    refine aw_iret K rfl dX6_made_9 ?_
    exact rfl

set_option maxHeartbeats 4000000 in
set_option maxRecDepth 100000 in
theorem uX6_trust (l : Launch) (g : Geo) (sta : Nat → Nat) (h : HS) (a : Int32) (F : XF h) : CT (wX l g sta) 6 mX6_trust [.ref (g.2.1 0), .int a] h (DR (-1)) := by
  refine CT.at [some (.ref (g.2.1 0)), some (.int a)] 0 rfl (by decide) (Nat.le_of_ble_eq_true rfl) (fun k K => ?_)
  refine aw_al0 K dX6_trust_0 ?_
  refine aw_il1 K dX6_trust_1 ?_
  refine aw_callV_I K (tX6_isName l g sta _ _) rfl (by decide) fX6_isName lX6_84 dX6_trust_2 rfl clsX6 rfl (Nat.le_of_ble_eq_true rfl) ?_
  refine aw_if_ne (tgt := 10) K dX6_trust_5 (by decide) (fun b5 => ?_) (fun b5 => ?_)
  · exact absurd (xf_nm F a) b5
  · refine aw_iconst (v := (-1)) K dX6_trust_8 (by decide) ?_
    refine aw_iret K rfl dX6_trust_9 ?_
    exact rfl

set_option maxHeartbeats 4000000 in
set_option maxRecDepth 100000 in
theorem uX6_cut (l : Launch) (g : Geo) (sta : Nat → Nat) (h : HS) (a b : Int32) (F : XF h) : CT (wX l g sta) 6 mX6_cut [.ref (g.2.1 0), .int a, .int b] h (DR (-1)) := by
  refine CT.at [some (.ref (g.2.1 0)), some (.int a), some (.int b), none] 1 rfl (by decide) (Nat.le_of_ble_eq_true rfl) (fun k K => ?_)
  refine aw_al0 K dX6_cut_0 ?_
  refine aw_il1 K dX6_cut_1 ?_
  refine aw_callV_I K (tX6_isHeap l g sta _ _) rfl (by decide) fX6_isHeap lX6_196 dX6_cut_2 rfl clsX6 rfl (Nat.le_of_ble_eq_true rfl) ?_
  refine aw_if_eq (tgt := 21) K dX6_cut_5 (by decide) (fun b5 => ?_) (fun b5 => ?_)
  · refine aw_iconst (v := (-1)) K dX6_cut_21 (by decide) ?_
    refine aw_iret K rfl dX6_cut_22 ?_
    exact rfl
  · refine aw_il1 K dX6_cut_8 ?_
    refine aw_if_eq (tgt := 21) K dX6_cut_9 (by decide) (fun b9 => ?_) (fun b9 => ?_)
    · refine aw_iconst (v := (-1)) K dX6_cut_21 (by decide) ?_
      refine aw_iret K rfl dX6_cut_22 ?_
      exact rfl
    · rw [xf_hp F] at b5
      exact absurd (bI_1.mp b5) b9

set_option maxHeartbeats 4000000 in
set_option maxRecDepth 100000 in
theorem uX6_refusalOf (l : Launch) (g : Geo) (sta : Nat → Nat) (h : HS) (a b c e f : Int32) (F : XF h) : CT (wX l g sta) 4 mX6_refusalOf [.ref (g.2.1 0), .int a, .int b, .int c, .int e, .int f] h (DI (-1) h) := by
  refine CT.at [some (.ref (g.2.1 0)), some (.int a), some (.int b), some (.int c), some (.int e), some (.int f)] 0 rfl (by decide) (Nat.le_of_ble_eq_true rfl) (fun k K => ?_)
  refine aw_al0 K dX6_refusalOf_0 ?_
  refine aw_il1 K dX6_refusalOf_1 ?_
  refine aw_il2 K dX6_refusalOf_2 ?_
  refine aw_callV_I K (tX6_arePair l g sta _ _ _) rfl (by decide) fX6_arePair lX6_105 dX6_refusalOf_3 rfl clsX6 rfl (Nat.le_of_ble_eq_true rfl) ?_
  refine aw_if_eq (tgt := 30) K dX6_refusalOf_6 (by decide) (fun b6 => ?_) (fun b6 => ?_)
  · refine aw_iconst (v := (-1)) K dX6_refusalOf_30 (by decide) ?_
    refine aw_iret K rfl dX6_refusalOf_31 ?_
    exact ⟨rfl, rfl⟩
  · exact absurd (xf_pr F a b) b6

set_option maxHeartbeats 4000000 in
set_option maxRecDepth 100000 in
theorem uX6_word (l : Launch) (g : Geo) (sta : Nat → Nat) (h : HS) (a b c e : Int32) (F : XF h) : CT (wX l g sta) 6 mX6_word [.ref (g.2.1 0), .int a, .int b, .int c, .int e] h (DR (-1)) := by
  refine CT.at [some (.ref (g.2.1 0)), some (.int a), some (.int b), some (.int c), some (.int e), none] 1 rfl (by decide) (Nat.le_of_ble_eq_true rfl) (fun k K => ?_)
  refine aw_al0 K dX6_word_0 ?_
  refine aw_il1 K dX6_word_1 ?_
  refine aw_il2 K dX6_word_2 ?_
  refine aw_il3 K dX6_word_3 ?_
  refine aw_il4 K dX6_word_4 ?_
  refine aw_iconst (v := 0) K dX6_word_6 (by decide) ?_
  refine aw_callV_I K (uX6_refusalOf l g sta _ _ _ _ _ _ F) rfl (by decide) fX6_refusalOf lX6_214 dX6_word_7 rfl clsX6 rfl (Nat.le_of_ble_eq_true rfl) ?_
  refine aw_is5 K dX6_word_10 (by decide) rfl ?_
  refine aw_il5 K dX6_word_12 ?_
  refine aw_if_eq (tgt := 22) K dX6_word_14 (by decide) (fun b14 => ?_) (fun b14 => ?_)
  · exact absurd b14 (by decide)
  · refine aw_il5 K dX6_word_17 ?_
    refine aw_goto (tgt := 38) K dX6_word_19 (by decide) ?_
    refine aw_iret K rfl dX6_word_38 ?_
    exact rfl

set_option maxHeartbeats 4000000 in
set_option maxRecDepth 100000 in
theorem uX6_wordOf (l : Launch) (g : Geo) (sta : Nat → Nat) (h : HS) (a b : Int32) (F : XF h) : CT (wX l g sta) 6 mX6_wordOf [.ref (g.2.1 0), .int a, .int b] h (DR (-1)) := by
  refine CT.at [some (.ref (g.2.1 0)), some (.int a), some (.int b)] 0 rfl (by decide) (Nat.le_of_ble_eq_true rfl) (fun k K => ?_)
  refine aw_al0 K dX6_wordOf_0 ?_
  refine aw_il1 K dX6_wordOf_1 ?_
  refine aw_callV_I K (tX6_isWord l g sta _ _) rfl (by decide) fX6_isWord lX6_218 dX6_wordOf_2 rfl clsX6 rfl (Nat.le_of_ble_eq_true rfl) ?_
  refine aw_if_ne (tgt := 10) K dX6_wordOf_5 (by decide) (fun b5 => ?_) (fun b5 => ?_)
  · exact absurd (xf_wo F a) b5
  · refine aw_iconst (v := (-1)) K dX6_wordOf_8 (by decide) ?_
    refine aw_iret K rfl dX6_wordOf_9 ?_
    exact rfl

set_option maxHeartbeats 4000000 in
set_option maxRecDepth 100000 in
theorem uX6_weight (l : Launch) (g : Geo) (sta : Nat → Nat) (h : HS) (a b : Int32) (F : XF h) : CT (wX l g sta) 6 mX6_weight [.ref (g.2.1 0), .int a, .int b] h (DR (-1)) := by
  refine CT.at [some (.ref (g.2.1 0)), some (.int a), some (.int b)] 0 rfl (by decide) (Nat.le_of_ble_eq_true rfl) (fun k K => ?_)
  refine aw_al0 K dX6_weight_0 ?_
  refine aw_il1 K dX6_weight_1 ?_
  refine aw_il2 K dX6_weight_2 ?_
  refine aw_callV_I K (tX6_arePair l g sta _ _ _) rfl (by decide) fX6_arePair lX6_105 dX6_weight_3 rfl clsX6 rfl (Nat.le_of_ble_eq_true rfl) ?_
  refine aw_if_ne (tgt := 11) K dX6_weight_6 (by decide) (fun b6 => ?_) (fun b6 => ?_)
  · exact absurd (xf_pr F a b) b6
  · refine aw_iconst (v := (-1)) K dX6_weight_9 (by decide) ?_
    refine aw_iret K rfl dX6_weight_10 ?_
    exact rfl

set_option maxHeartbeats 4000000 in
set_option maxRecDepth 100000 in
theorem uX6_sayers (l : Launch) (g : Geo) (sta : Nat → Nat) (h : HS) (a : Int32) (F : XF h) : CT (wX l g sta) 6 mX6_sayers [.ref (g.2.1 0), .int a] h (DR (-1)) := by
  refine CT.at [some (.ref (g.2.1 0)), some (.int a)] 0 rfl (by decide) (Nat.le_of_ble_eq_true rfl) (fun k K => ?_)
  refine aw_al0 K dX6_sayers_0 ?_
  refine aw_il1 K dX6_sayers_1 ?_
  refine aw_callV_I K (tX6_isName l g sta _ _) rfl (by decide) fX6_isName lX6_84 dX6_sayers_2 rfl clsX6 rfl (Nat.le_of_ble_eq_true rfl) ?_
  refine aw_if_eq (tgt := 16) K dX6_sayers_5 (by decide) (fun b5 => ?_) (fun b5 => ?_)
  · refine aw_iconst (v := (-1)) K dX6_sayers_16 (by decide) ?_
    refine aw_iret K rfl dX6_sayers_17 ?_
    exact rfl
  · exact absurd (xf_nm F a) b5

set_option maxHeartbeats 4000000 in
set_option maxRecDepth 100000 in
theorem uX6_mark (l : Launch) (g : Geo) (sta : Nat → Nat) (h : HS) (a b : Int32) (F : XF h) : CT (wX l g sta) 6 mX6_mark [.ref (g.2.1 0), .int a, .int b] h (DR (-1)) := by
  refine CT.at [some (.ref (g.2.1 0)), some (.int a), some (.int b), none] 1 rfl (by decide) (Nat.le_of_ble_eq_true rfl) (fun k K => ?_)
  refine aw_al0 K dX6_mark_0 ?_
  refine aw_il1 K dX6_mark_1 ?_
  refine aw_callV_I K (tX6_isName l g sta _ _) rfl (by decide) fX6_isName lX6_84 dX6_mark_2 rfl clsX6 rfl (Nat.le_of_ble_eq_true rfl) ?_
  refine aw_if_eq (tgt := 17) K dX6_mark_5 (by decide) (fun b5 => ?_) (fun b5 => ?_)
  · refine aw_iconst (v := (-1)) K dX6_mark_17 (by decide) ?_
    refine aw_iret K rfl dX6_mark_18 ?_
    exact rfl
  · exact absurd (xf_nm F a) b5

set_option maxHeartbeats 4000000 in
set_option maxRecDepth 100000 in
theorem uX6_span (l : Launch) (g : Geo) (sta : Nat → Nat) (h : HS) (a b c : Int32) (F : XF h) : CT (wX l g sta) 6 mX6_span [.ref (g.2.1 0), .int a, .int b, .int c] h (DR (-1)) := by
  refine CT.at [some (.ref (g.2.1 0)), some (.int a), some (.int b), some (.int c), none, none, none, none] 4 rfl (by decide) (Nat.le_of_ble_eq_true rfl) (fun k K => ?_)
  refine aw_al0 K dX6_span_0 ?_
  refine aw_il1 K dX6_span_1 ?_
  refine aw_callV_I K (tX6_isName l g sta _ _) rfl (by decide) fX6_isName lX6_84 dX6_span_2 rfl clsX6 rfl (Nat.le_of_ble_eq_true rfl) ?_
  refine aw_if_eq (tgt := 26) K dX6_span_5 (by decide) (fun b5 => ?_) (fun b5 => ?_)
  · refine aw_iconst (v := (-1)) K dX6_span_26 (by decide) ?_
    refine aw_iret K rfl dX6_span_27 ?_
    exact rfl
  · exact absurd (xf_nm F a) b5

set_option maxHeartbeats 4000000 in
set_option maxRecDepth 100000 in
theorem uX1_enter (l : Launch) (g : Geo) (sta : Nat → Nat) (h : HS) (a : Int32) (F : XF h) : CT (wX l g sta) 1 mX1_enter [.ref (g.2.1 1), .int a] h (DR 0) := by
  refine CT.at [some (.ref (g.2.1 1)), some (.int a)] 0 rfl (by decide) (Nat.le_of_ble_eq_true rfl) (fun k K => ?_)
  refine aw_al0 K dX1_enter_0 ?_
  refine aw_getI K gX1_28 dX1_enter_1 rfl rfl ?_
  refine aw_bipush (v := 12) K dX1_enter_4 (by decide) ?_
  refine aw_icmp_lt (tgt := 12) K dX1_enter_6 (by decide) (fun b6 => ?_) (fun b6 => ?_)
  · refine aw_al0 K dX1_enter_12 ?_
    refine aw_getR K gX1_9 dX1_enter_13 rfl rfl ?_
    refine aw_al0 K dX1_enter_16 ?_
    refine aw_getI K gX1_28 dX1_enter_17 rfl rfl ?_
    refine aw_il1 K dX1_enter_20 ?_
    refine aw_iast K dX1_enter_21 rfl (by rw [F.1]; exact (vp_in_nI (n := 0) (N := 12) (by decide) (by decide))) ?_
    refine aw_al0 K dX1_enter_22 ?_
    refine aw_dup K dX1_enter_23 rfl ?_
    refine aw_getI K gX1_28 dX1_enter_24 rfl rfl ?_
    refine aw_dup_x1 K dX1_enter_27 rfl rfl ?_
    refine aw_iconst (v := 1) K dX1_enter_28 (by decide) ?_
    refine aw_iadd K dX1_enter_29 ?_
    refine aw_putI K gX1_28 fpX1_5 dX1_enter_30 rfl rfl ?_
    refine aw_iret K rfl dX1_enter_33 ?_
    exact congrArg some (congrArg Value.int F.1)
  · rw [F.1] at b6
    exact absurd (by decide) b6

set_option maxHeartbeats 4000000 in
set_option maxRecDepth 100000 in
theorem uX6_name (l : Launch) (g : Geo) (sta : Nat → Nat) (h : HS) (a : Int32) (F : XF h) : CT (wX l g sta) 6 mX6_name [.ref (g.2.1 0), .int a] h (DR (if 0 ≤ a ∧ a ≤ 999 then 0 else -1)) := by
  refine CT.at [some (.ref (g.2.1 0)), some (.int a)] 0 rfl (by decide) (Nat.le_of_ble_eq_true rfl) (fun k K => ?_)
  refine aw_il1 K dX6_name_0 ?_
  refine aw_iconst (v := 0) K dX6_name_1 (by decide) ?_
  refine aw_sipush (v := 999) K dX6_name_2 (by decide) ?_
  refine aw_callS_I K (tX6_within l g sta _ _ _ _) rfl (by decide) fX6_within lX6_76 dX6_name_5 rfl (Nat.le_of_ble_eq_true rfl) ?_
  refine aw_if_ne (tgt := 13) K dX6_name_8 (by decide) (fun b8 => ?_) (fun b8 => ?_)
  · refine aw_al0 K dX6_name_13 ?_
    refine aw_getR K gX6_12 dX6_name_14 rfl rfl ?_
    refine aw_il1 K dX6_name_17 ?_
    refine aw_callV K (uX1_enter l g sta _ _ F) rfl (by decide) fX1_enter lX6_80 dX6_name_18 rfl clsX1 rfl (Nat.le_of_ble_eq_true rfl) (fun o h2 q => ?_)
    subst q
    refine aw_iret K rfl dX6_name_21 ?_
    exact congrArg some (congrArg Value.int (if_pos (bI_1.mp b8)).symm)
  · refine aw_iconst (v := (-1)) K dX6_name_11 (by decide) ?_
    refine aw_iret K rfl dX6_name_12 ?_
    exact congrArg some (congrArg Value.int (if_neg (bI_0.mp b8)).symm)

set_option maxHeartbeats 4000000 in
set_option maxRecDepth 100000 in
theorem uX6_day (l : Launch) (g : Geo) (sta : Nat → Nat) (h : HS) (a : Int32) (F : XF h) : CT (wX l g sta) 6 mX6_day [.ref (g.2.1 0), .int a] h (DR (if 0 ≤ a ∧ a ≤ 9999 then 0 else -1)) := by
  refine CT.at [some (.ref (g.2.1 0)), some (.int a), none] 1 rfl (by decide) (Nat.le_of_ble_eq_true rfl) (fun k K => ?_)
  refine aw_il1 K dX6_day_0 ?_
  refine aw_al0 K dX6_day_1 ?_
  refine aw_getI K gX6_113 dX6_day_2 rfl rfl ?_
  refine aw_sipush (v := 9999) K dX6_day_5 (by decide) ?_
  refine aw_callS_I K (tX6_within l g sta _ _ _ _) rfl (by decide) fX6_within lX6_76 dX6_day_8 rfl (Nat.le_of_ble_eq_true rfl) ?_
  refine aw_if_ne (tgt := 16) K dX6_day_11 (by decide) (fun b11 => ?_) (fun b11 => ?_)
  · refine aw_al0 K dX6_day_16 ?_
    refine aw_getI K gX6_113 dX6_day_17 rfl rfl ?_
    refine aw_is2 K dX6_day_20 (by decide) rfl ?_
    refine aw_al0 K dX6_day_21 ?_
    refine aw_il1 K dX6_day_22 ?_
    refine aw_putI K gX6_113 fpX6_11 dX6_day_23 rfl rfl ?_
    refine aw_il2 K dX6_day_26 ?_
    refine aw_iret K rfl dX6_day_27 ?_
    rw [F.2.2.2.1] at b11
    exact congrArg some (congrArg Value.int (F.2.2.2.1.trans (if_pos (bI_1.mp b11)).symm))
  · refine aw_iconst (v := (-1)) K dX6_day_14 (by decide) ?_
    refine aw_iret K rfl dX6_day_15 ?_
    rw [F.2.2.2.1] at b11
    exact congrArg some (congrArg Value.int (if_neg (bI_0.mp b11)).symm)

set_option maxHeartbeats 4000000 in
set_option maxRecDepth 100000 in
theorem uX6_end (l : Launch) (g : Geo) (sta : Nat → Nat) (h : HS) (a : Int32) (F : XF h) : CT (wX l g sta) 6 mX6_end [.ref (g.2.1 0), .int a] h (DR (if 0 ≤ a ∧ a ≤ 0 then 0 else -1)) := by
  refine CT.at [some (.ref (g.2.1 0)), some (.int a), none] 1 rfl (by decide) (Nat.le_of_ble_eq_true rfl) (fun k K => ?_)
  refine aw_il1 K dX6_end_0 ?_
  refine aw_iconst (v := 0) K dX6_end_1 (by decide) ?_
  refine aw_al0 K dX6_end_2 ?_
  refine aw_getR K gX6_33 dX6_end_3 rfl rfl ?_
  refine aw_getI K gX6_180 dX6_end_6 rfl rfl ?_
  refine aw_callS_I K (tX6_within l g sta _ _ _ _) rfl (by decide) fX6_within lX6_76 dX6_end_9 rfl (Nat.le_of_ble_eq_true rfl) ?_
  refine aw_if_ne (tgt := 17) K dX6_end_12 (by decide) (fun b12 => ?_) (fun b12 => ?_)
  · refine aw_al0 K dX6_end_17 ?_
    refine aw_getR K gX6_33 dX6_end_18 rfl rfl ?_
    refine aw_getI K gX6_180 dX6_end_21 rfl rfl ?_
    refine aw_is2 K dX6_end_24 (by decide) rfl ?_
    refine aw_al0 K dX6_end_25 ?_
    refine aw_getR K gX6_33 dX6_end_26 rfl rfl ?_
    refine aw_il1 K dX6_end_29 ?_
    refine aw_putI K gX6_180 fpX3_1 dX6_end_30 rfl rfl ?_
    refine aw_il2 K dX6_end_33 ?_
    refine aw_iret K rfl dX6_end_34 ?_
    rw [F.2.2.2.2.2.1] at b12
    exact congrArg some (congrArg Value.int (F.2.2.2.2.2.1.trans (if_pos (bI_1.mp b12)).symm))
  · refine aw_iconst (v := (-1)) K dX6_end_15 (by decide) ?_
    refine aw_iret K rfl dX6_end_16 ?_
    rw [F.2.2.2.2.2.1] at b12
    exact congrArg some (congrArg Value.int (if_neg (bI_0.mp b12)).symm)

set_option maxHeartbeats 4000000 in
set_option maxRecDepth 100000 in
theorem uX6_fault (l : Launch) (g : Geo) (sta : Nat → Nat) (h : HS) (F : XF h) : CT (wX l g sta) 6 mX6_fault [.ref (g.2.1 0)] h (DR 0) := by
  refine CT.at [some (.ref (g.2.1 0))] 0 rfl (by decide) (Nat.le_of_ble_eq_true rfl) (fun k K => ?_)
  refine aw_al0 K dX6_fault_0 ?_
  refine aw_getR K gX6_33 dX6_fault_1 rfl rfl ?_
  refine aw_getI K gX6_187 dX6_fault_4 rfl rfl ?_
  refine aw_iret K rfl dX6_fault_7 ?_
  exact congrArg some (congrArg Value.int F.2.2.2.2.2.2.1)

set_option maxHeartbeats 4000000 in
set_option maxRecDepth 100000 in
theorem uX6_rule (l : Launch) (g : Geo) (sta : Nat → Nat) (h : HS) (a : Int32) (F : XF h) : CT (wX l g sta) 6 mX6_rule [.ref (g.2.1 0), .int a] h (DR (if 0 ≤ a ∧ a ≤ 9 then aw_r0 a.toNatClampNeg else -1)) := by
  refine CT.at [some (.ref (g.2.1 0)), some (.int a)] 0 rfl (by decide) (Nat.le_of_ble_eq_true rfl) (fun k K => ?_)
  refine aw_il1 K dX6_rule_0 ?_
  refine aw_iconst (v := 0) K dX6_rule_1 (by decide) ?_
  refine aw_bipush (v := 9) K dX6_rule_2 (by decide) ?_
  refine aw_callS_I K (tX6_within l g sta _ _ _ _) rfl (by decide) fX6_within lX6_76 dX6_rule_4 rfl (Nat.le_of_ble_eq_true rfl) ?_
  refine aw_if_eq (tgt := 19) K dX6_rule_7 (by decide) (fun b7 => ?_) (fun b7 => ?_)
  · refine aw_iconst (v := (-1)) K dX6_rule_19 (by decide) ?_
    refine aw_iret K rfl dX6_rule_20 ?_
    first
      | exact congrArg some (congrArg Value.int (if_neg (bI_0.mp b7)).symm)
      | (obtain ⟨j, hj, rfl⟩ := ru_in (bI_1.mp b7)
         exact congrArg some (congrArg Value.int ((F.2.2.2.2.2.2.2.1 _ (by rw [nI_clamp (by omega)]; exact hj)).trans (if_pos (bI_1.mp b7)).symm)))
  · refine aw_al0 K dX6_rule_10 ?_
    refine aw_getR K gX6_50 dX6_rule_11 rfl rfl ?_
    refine aw_il1 K dX6_rule_14 ?_
    refine aw_iald K dX6_rule_15 rfl (by obtain ⟨j, hj, rfl⟩ := ru_in (bI_1.mp b7); exact vp_in_nI hj (by decide)) ?_
    refine aw_goto (tgt := 20) K dX6_rule_16 (by decide) ?_
    refine aw_iret K rfl dX6_rule_20 ?_
    first
      | exact congrArg some (congrArg Value.int (if_neg (bI_0.mp b7)).symm)
      | (obtain ⟨j, hj, rfl⟩ := ru_in (bI_1.mp b7)
         exact congrArg some (congrArg Value.int ((F.2.2.2.2.2.2.2.1 _ (by rw [nI_clamp (by omega)]; exact hj)).trans (if_pos (bI_1.mp b7)).symm)))

set_option maxHeartbeats 4000000 in
set_option maxRecDepth 100000 in
theorem uX6_lost (l : Launch) (g : Geo) (sta : Nat → Nat) (h : HS) (F : XF h) : CT (wX l g sta) 6 mX6_lost [.ref (g.2.1 0)] h (DR 0) := by
  refine CT.at [some (.ref (g.2.1 0))] 0 rfl (by decide) (Nat.le_of_ble_eq_true rfl) (fun k K => ?_)
  refine aw_al0 K dX6_lost_0 ?_
  refine aw_getI K gX6_309 dX6_lost_1 rfl rfl ?_
  refine aw_iret K rfl dX6_lost_4 ?_
  exact congrArg some (congrArg Value.int F.2.2.2.2.1)

theorem tk_sh : ∀ i, i < 8 → ¬ nI (56 - 8 * i) < 0 ∧ nI (56 - 8 * i) + -8 = if i = 7 then -8 else nI (56 - 8 * (i + 1)) := by decide
set_option maxHeartbeats 4000000 in
set_option maxRecDepth 100000 in
theorem ul_takeEight {l : Launch} {g : Geo} {sta : Nat → Nat} {k : KT} (K : AOK (wX l g sta) mX3_takeEight k) (v : Int64) :
    ∀ (n i : Nat) (s : Int32) (h : HS), i ≤ 8 → 8 - i < n → s = (if i = 8 then -8 else nI (56 - 8 * i)) → h.1 4 1 = nI i → AW (wX l g sta) (DR 8) 1 mX3_takeEight k 16 [some (.ref (g.2.1 4)), some (.long v), none, some (.int s)] [] h := by
  intro n
  induction n with
  | zero => intro i s h h1 h2; omega
  | succ n ih =>
    intro i s h h1 h2 hs hl
    refine aw_il3 K dX3_takeEight_16 ?_
    refine aw_if_lt (tgt := 53) K dX3_takeEight_17 (by decide) (fun b17 => ?_) (fun b17 => ?_)
    · have hi : i = 8 := by
        rcases Nat.lt_or_ge i 8 with q | q
        · rw [hs, if_neg (by omega)] at b17
          exact absurd b17 (tk_sh i q).1
        · omega
      refine aw_al0 K dX3_takeEight_53 ?_
      refine aw_getI K gX3_15 dX3_takeEight_54 rfl rfl ?_
      refine aw_iret K rfl dX3_takeEight_57 ?_
      show some _ = some _
      rw [hl, hi]
      rfl
    · have hi : i < 8 := by
        rcases Nat.lt_or_ge i 8 with q | q
        · exact q
        · rw [hs, if_pos (by omega)] at b17
          exact absurd (by decide) b17
      refine aw_al0 K dX3_takeEight_20 ?_
      refine aw_getR K gX3_11 dX3_takeEight_21 rfl rfl ?_
      refine aw_al0 K dX3_takeEight_24 ?_
      refine aw_getI K gX3_15 dX3_takeEight_25 rfl rfl ?_
      refine aw_ll1 K dX3_takeEight_28 ?_
      refine aw_il3 K dX3_takeEight_29 ?_
      refine aw_lushr K dX3_takeEight_30 ?_
      refine aw_l2i K dX3_takeEight_31 ?_
      refine aw_sipush (v := 255) K dX3_takeEight_32 (by decide) ?_
      refine aw_iand K dX3_takeEight_35 ?_
      refine aw_iast K dX3_takeEight_36 rfl (by rw [hl]; exact vp_in_nI (by omega) (by decide)) ?_
      refine aw_al0 K dX3_takeEight_37 ?_
      refine aw_dup K dX3_takeEight_38 rfl ?_
      refine aw_getI K gX3_15 dX3_takeEight_39 rfl rfl ?_
      refine aw_iconst (v := 1) K dX3_takeEight_42 (by decide) ?_
      refine aw_iadd K dX3_takeEight_43 ?_
      refine aw_putI K gX3_15 fpX3_1 dX3_takeEight_44 rfl rfl ?_
      refine aw_ii3 (v := _ + (-8)) K dX3_takeEight_47 rfl (by decide) rfl ?_
      refine aw_goto (tgt := 16) K dX3_takeEight_50 (by decide) ?_
      refine ih (i + 1) _ _ (by omega) (by omega) ?_ ?_
      · rw [hs, if_neg (by omega), (tk_sh i hi).2]
        by_cases q : i = 7
        · rw [if_pos q, if_pos (by omega)]
        · rw [if_neg q, if_neg (by omega)]
      · simp only [rdI]
        simp [hl, nI_1]
set_option maxHeartbeats 4000000 in
set_option maxRecDepth 100000 in
theorem uX3_takeEight (l : Launch) (g : Geo) (sta : Nat → Nat) (h : HS) (v : Int64) (F : XF h) : CT (wX l g sta) 1 mX3_takeEight [.ref (g.2.1 4), .long v] h (DR 8) := by
  refine CT.at [some (.ref (g.2.1 4)), some (.long v), none, none] 1 rfl (by decide) (Nat.le_of_ble_eq_true rfl) (fun k K => ?_)
  refine aw_al0 K dX3_takeEight_0 ?_
  refine aw_getI K gX3_15 dX3_takeEight_1 rfl rfl ?_
  refine aw_sipush (v := 192) K dX3_takeEight_4 (by decide) ?_
  refine aw_icmp_le (tgt := 13) K dX3_takeEight_7 (by decide) (fun b7 => ?_) (fun b7 => ?_)
  · refine aw_bipush (v := 56) K dX3_takeEight_13 (by decide) ?_
    refine aw_is3 K dX3_takeEight_15 (by decide) rfl ?_
    exact ul_takeEight K v 9 0 56 h (by omega) (by omega) (by decide) F.2.2.2.2.2.1
  · rw [F.2.2.2.2.2.1] at b7
    exact absurd (by decide) b7

set_option maxHeartbeats 4000000 in
set_option maxRecDepth 100000 in
theorem uX6_feed (l : Launch) (g : Geo) (sta : Nat → Nat) (h : HS) (v : Int64) (F : XF h) : CT (wX l g sta) 6 mX6_feed [.ref (g.2.1 0), .long v] h (DR 8) := by
  refine CT.at [some (.ref (g.2.1 0)), some (.long v), none] 0 rfl (by decide) (Nat.le_of_ble_eq_true rfl) (fun k K => ?_)
  refine aw_al0 K dX6_feed_0 ?_
  refine aw_getR K gX6_33 dX6_feed_1 rfl rfl ?_
  refine aw_ll1 K dX6_feed_4 ?_
  refine aw_callV K (uX3_takeEight l g sta _ _ F) rfl (by decide) fX3_takeEight lX6_176 dX6_feed_5 rfl clsX3 rfl (Nat.le_of_ble_eq_true rfl) (fun o h2 q => ?_)
  subst q
  refine aw_iret K rfl dX6_feed_8 ?_
  exact rfl

def LF (h : HS) : HS := setR (setR h 34 (fil (h.1 34) 196 0)) 35 (fil (h.1 35) 14 0)
theorem xf_LF {h : HS} (F : XF h) : XF (LF h) := F
theorem lf_ways (h : HS) (j : Nat) (hj : j < 14) : (LF h).1 35 j = 0 := by simp [LF, rdR, fil, hj]
set_option maxHeartbeats 4000000 in
set_option maxRecDepth 100000 in
theorem uX6_layFlow (l : Launch) (g : Geo) (sta : Nat → Nat) (h : HS) (F : XF h) : CT (wX l g sta) 3 mX6_layFlow [.ref (g.2.1 0)] h (DV (LF h)) := by
  refine CT.at [some (.ref (g.2.1 0)), none] 1 rfl (by decide) (Nat.le_of_ble_eq_true rfl) (fun k K => ?_)
  refine aw_al0 K dX6_layFlow_0 ?_
  refine aw_getR K gX6_40 dX6_layFlow_1 rfl rfl ?_
  refine aw_callV_V K (show CT _ _ _ _ _ (DV (LF h)) from tX0_clear l g sta h) rfl (by decide) fX0_clear lX6_332 dX6_layFlow_4 rfl clsX0 rfl (Nat.le_of_ble_eq_true rfl) ?_
  refine aw_iconst (v := 0) K dX6_layFlow_7 (by decide) ?_
  refine aw_is1 K dX6_layFlow_8 (by decide) rfl ?_
  refine aw_il1 K dX6_layFlow_9 ?_
  refine aw_al0 K dX6_layFlow_10 ?_
  refine aw_getR K gX6_12 dX6_layFlow_11 rfl rfl ?_
  refine aw_getI K gX6_161 dX6_layFlow_14 rfl rfl ?_
  refine aw_icmp_ge (tgt := 39) K dX6_layFlow_17 (by decide) (fun b17 => ?_) (fun b17 => ?_)
  · refine aw_iconst (v := 0) K dX6_layFlow_39 (by decide) ?_
    refine aw_is1 K dX6_layFlow_40 (by decide) rfl ?_
    refine aw_il1 K dX6_layFlow_41 ?_
    refine aw_al0 K dX6_layFlow_42 ?_
    refine aw_getR K gX6_19 dX6_layFlow_43 rfl rfl ?_
    refine aw_getI K gX6_109 dX6_layFlow_46 rfl rfl ?_
    refine aw_icmp_ge (tgt := 88) K dX6_layFlow_49 (by decide) (fun b49 => ?_) (fun b49 => ?_)
    · refine aw_vret K rfl dX6_layFlow_88 ?_
      exact ⟨rfl, rfl⟩
    · exact absurd (by rw [(xf_LF F).2.1]; decide) b49
  · exact absurd (by rw [(xf_LF F).1]; decide) b17

set_option maxHeartbeats 4000000 in
set_option maxRecDepth 100000 in
theorem uX0_search (l : Launch) (g : Geo) (sta : Nat → Nat) (h : HS) (q : Int32) (hw : h.1 37 13 = 0) : CT (wX l g sta) 2 mX0_search [.ref (g.2.1 5), .int q] h (DR (-4)) := by
  refine CT.at [some (.ref (g.2.1 5)), some (.int q), none, none, none, none, none] 5 rfl (by decide) (Nat.le_of_ble_eq_true rfl) (fun k K => ?_)
  refine aw_al0 K dX0_search_0 ?_
  refine aw_sipush (v := 8192) K dX0_search_1 (by decide) ?_
  refine aw_putI K gX0_53 fpX0_6 dX0_search_4 rfl rfl ?_
  refine aw_al0 K dX0_search_7 ?_
  refine aw_getR K gX0_27 dX0_search_8 rfl rfl ?_
  refine aw_iconst (v := 0) K dX0_search_11 (by decide) ?_
  refine aw_bipush (v := 13) K dX0_search_12 (by decide) ?_
  refine aw_iast K dX0_search_14 rfl (vp_in_nI (n := 0) (N := 14) (by decide) (by decide)) ?_
  refine aw_iconst (v := 1) K dX0_search_15 (by decide) ?_
  refine aw_is2 K dX0_search_16 (by decide) rfl ?_
  refine aw_iconst (v := 0) K dX0_search_17 (by decide) ?_
  refine aw_is3 K dX0_search_18 (by decide) rfl ?_
  refine aw_il3 K dX0_search_19 ?_
  refine aw_il2 K dX0_search_20 ?_
  refine aw_icmp_ge (tgt := 146) K dX0_search_21 (by decide) (fun b21 => ?_) (fun b21 => ?_)
  · exact absurd b21 (by decide)
  · refine aw_il3 K dX0_search_24 ?_
    refine aw_bipush (v := 14) K dX0_search_25 (by decide) ?_
    refine aw_icmp_ge (tgt := 146) K dX0_search_27 (by decide) (fun b27 => ?_) (fun b27 => ?_)
    · exact absurd b27 (by decide)
    · refine aw_al0 K dX0_search_30 ?_
      refine aw_getR K gX0_27 dX0_search_31 rfl rfl ?_
      refine aw_il3 K dX0_search_34 ?_
      refine aw_iald K dX0_search_35 rfl (vp_in_nI (n := 0) (N := 14) (by decide) (by decide)) ?_
      have e1 : (setI (setI h 5 6 8192) 39 (Int32.toNatClampNeg 0) 13).1 39 (Int32.toNatClampNeg 0) = nI 13 := by
        simp only [rdI, and_self, if_true]
        rfl
      rw [e1]
      refine aw_is4 K dX0_search_36 (by decide) rfl ?_
      refine aw_al0 K dX0_search_38 ?_
      refine aw_getR K gX0_21 dX0_search_39 rfl rfl ?_
      refine aw_il4 K dX0_search_42 ?_
      refine aw_iald K dX0_search_44 rfl (vp_in_nI (n := 13) (N := 14) (by decide) (by decide)) ?_
      have e2 : (setI (setI h 5 6 8192) 39 (Int32.toNatClampNeg 0) 13).1 37 (nI 13).toNatClampNeg = 0 := by
        rw [nI_clamp (by decide)]
        simp [rdI, hw]
      rw [e2]
      refine aw_al0 K dX0_search_45 ?_
      refine aw_getI K gX0_53 dX0_search_46 rfl rfl ?_
      refine aw_iconst (v := (-1)) K dX0_search_49 (by decide) ?_
      refine aw_ixor K dX0_search_50 ?_
      refine aw_iand K dX0_search_51 ?_
      rw [show ∀ x : Int32, (0 : Int32) &&& x = 0 from fun x => Int32.zero_and]
      refine aw_is5 K dX0_search_52 (by decide) rfl ?_
      refine aw_al0 K dX0_search_54 ?_
      refine aw_dup K dX0_search_55 rfl ?_
      refine aw_getI K gX0_53 dX0_search_56 rfl rfl ?_
      refine aw_il5 K dX0_search_59 ?_
      refine aw_ior K dX0_search_61 ?_
      refine aw_putI K gX0_53 fpX0_6 dX0_search_62 rfl rfl ?_
      refine aw_iconst (v := 0) K dX0_search_65 (by decide) ?_
      refine aw_is6 K dX0_search_66 (by decide) rfl ?_
      refine aw_il6 K dX0_search_68 ?_
      refine aw_bipush (v := 14) K dX0_search_70 (by decide) ?_
      refine aw_icmp_ge (tgt := 140) K dX0_search_72 (by decide) (fun b72 => ?_) (fun b72 => ?_)
      · exact absurd b72 (by decide)
      · refine aw_il2 K dX0_search_75 ?_
        refine aw_bipush (v := 14) K dX0_search_76 (by decide) ?_
        refine aw_icmp_ge (tgt := 140) K dX0_search_78 (by decide) (fun b78 => ?_) (fun b78 => ?_)
        · exact absurd b78 (by decide)
        · refine aw_il5 K dX0_search_81 ?_
          refine aw_il6 K dX0_search_83 ?_
          refine aw_ishr K dX0_search_85 ?_
          refine aw_if_eq (tgt := 140) K dX0_search_86 (by decide) (fun b86 => ?_) (fun b86 => ?_)
          · refine aw_ii3 (v := _ + 1) K dX0_search_140 rfl (by decide) rfl ?_
            refine aw_goto (tgt := 19) K dX0_search_143 (by decide) ?_
            refine aw_il3 K dX0_search_19 ?_
            refine aw_il2 K dX0_search_20 ?_
            refine aw_icmp_ge (tgt := 146) K dX0_search_21 (by decide) (fun b21 => ?_) (fun b21 => ?_)
            · refine aw_bipush (v := (-4)) K dX0_search_146 (by decide) ?_
              refine aw_iret K rfl dX0_search_148 ?_
              exact rfl
            · exact absurd (by decide) b21
          · exact absurd (by decide) b86

theorem cpnat : Cond.native arraycopyName ∈ aw_tb := aw_in 274 (by decide +kernel) rfl
theorem cpX6_69 : CPW RX6 69 := ⟨aw_in 272 (by decide +kernel) rfl, List.mem_of_getElem? (i := 274) (by decide +kernel), aw_in 273 (by decide +kernel) rfl, aw_in 86 (by decide +kernel) rfl⟩
theorem cpX0_40 : CPW RX0 40 := ⟨aw_in 597 (by decide +kernel) rfl, List.mem_of_getElem? (i := 274) (by decide +kernel), aw_in 273 (by decide +kernel) rfl, aw_in 86 (by decide +kernel) rfl⟩
set_option maxHeartbeats 4000000 in
set_option maxRecDepth 100000 in
theorem uX0_most (l : Launch) (g : Geo) (sta : Nat → Nat) (h : HS) (q : Int32) (hw : ∀ j, j < 14 → h.1 35 j = 0) : CT (wX l g sta) 3 mX0_most [.ref (g.2.1 5), .int q] h (DR 0) := by
  refine CT.at [some (.ref (g.2.1 5)), some (.int q), none, none, none] 3 rfl (by decide) (Nat.le_of_ble_eq_true rfl) (fun k K => ?_)
  refine aw_al0 K dX0_most_0 ?_
  refine aw_getR K gX0_11 dX0_most_1 rfl rfl ?_
  refine aw_iconst (v := 0) K dX0_most_4 (by decide) ?_
  refine aw_al0 K dX0_most_5 ?_
  refine aw_getR K gX0_18 dX0_most_6 rfl rfl ?_
  refine aw_iconst (v := 0) K dX0_most_9 (by decide) ?_
  refine aw_sipush (v := 196) K dX0_most_10 (by decide) ?_
  refine aw_copy K cpX0_40 cpnat rfl rfl (by decide) (by decide) (by decide) (by decide) (by decide) (by decide) (by decide) dX0_most_13 ?_
  refine aw_al0 K dX0_most_16 ?_
  refine aw_getR K gX0_15 dX0_most_17 rfl rfl ?_
  refine aw_iconst (v := 0) K dX0_most_20 (by decide) ?_
  refine aw_al0 K dX0_most_21 ?_
  refine aw_getR K gX0_21 dX0_most_22 rfl rfl ?_
  refine aw_iconst (v := 0) K dX0_most_25 (by decide) ?_
  refine aw_bipush (v := 14) K dX0_most_26 (by decide) ?_
  refine aw_copy K cpX0_40 cpnat rfl rfl (by decide) (by decide) (by decide) (by decide) (by decide) (by decide) (by decide) dX0_most_28 ?_
  refine aw_iconst (v := 0) K dX0_most_31 (by decide) ?_
  refine aw_is2 K dX0_most_32 (by decide) rfl ?_
  refine aw_iconst (v := 0) K dX0_most_33 (by decide) ?_
  refine aw_is3 K dX0_most_34 (by decide) rfl ?_
  refine aw_il3 K dX0_most_35 ?_
  refine aw_sipush (v := 10000) K dX0_most_36 (by decide) ?_
  refine aw_icmp_ge (tgt := 72) K dX0_most_39 (by decide) (fun b39 => ?_) (fun b39 => ?_)
  · exact absurd b39 (by decide)
  · refine aw_al0 K dX0_most_42 ?_
    refine aw_il1 K dX0_most_43 ?_
    refine aw_callV K (uX0_search l g sta _ q (by simp only [rdR]; simp [va_cpy]; exact hw 13 (by decide))) rfl (by decide) fX0_search lX0_46 dX0_most_44 rfl clsX0 rfl (Nat.le_of_ble_eq_true rfl) (fun o h2 hq => ?_)
    subst hq
    refine aw_is4 K dX0_most_47 (by decide) rfl ?_
    refine aw_il4 K dX0_most_49 ?_
    refine aw_if_ge (tgt := 57) K dX0_most_51 (by decide) (fun b51 => ?_) (fun b51 => ?_)
    · exact absurd b51 (by decide)
    · refine aw_goto (tgt := 72) K dX0_most_54 (by decide) ?_
      refine aw_il2 K dX0_most_72 ?_
      refine aw_iret K rfl dX0_most_73 ?_
      exact rfl

theorem x6 : True := trivial
set_option maxHeartbeats 4000000 in
set_option maxRecDepth 100000 in
theorem uX6_heap (l : Launch) (g : Geo) (sta : Nat → Nat) (h : HS) (a : Int32) (F : XF h) : CT (wX l g sta) 6 mX6_heap [.ref (g.2.1 0), .int a] h (DR (if a = 0 then 0 else -1)) := by
  refine CT.at [some (.ref (g.2.1 0)), some (.int a)] 0 rfl (by decide) (Nat.le_of_ble_eq_true rfl) (fun k K => ?_)
  refine aw_al0 K dX6_heap_0 ?_
  refine aw_il1 K dX6_heap_1 ?_
  refine aw_callV_I K (tX6_isHeap l g sta _ _) rfl (by decide) fX6_isHeap lX6_196 dX6_heap_2 rfl clsX6 rfl (Nat.le_of_ble_eq_true rfl) ?_
  refine aw_if_ne (tgt := 10) K dX6_heap_5 (by decide) (fun b5 => ?_) (fun b5 => ?_)
  · refine aw_al0 K dX6_heap_10 ?_
    refine aw_callV_V K (uX6_layFlow l g sta _ F) rfl (by decide) fX6_layFlow lX6_190 dX6_heap_11 rfl clsX6 rfl (Nat.le_of_ble_eq_true rfl) ?_
    refine aw_al0 K dX6_heap_14 ?_
    refine aw_getR K gX6_40 dX6_heap_15 rfl rfl ?_
    refine aw_il1 K dX6_heap_18 ?_
    refine aw_callV K (uX0_most l g sta _ _ (fun j hj => lf_ways h j hj)) rfl (by decide) fX0_most lX6_193 dX6_heap_19 rfl clsX0 rfl (Nat.le_of_ble_eq_true rfl) (fun o h2 hq => ?_)
    subst hq
    refine aw_iret K rfl dX6_heap_22 ?_
    rw [xf_hp F] at b5
    exact congrArg some (congrArg Value.int (if_pos (bI_1.mp b5)).symm)
  · refine aw_iconst (v := (-1)) K dX6_heap_8 (by decide) ?_
    refine aw_iret K rfl dX6_heap_9 ?_
    rw [xf_hp F] at b5
    exact congrArg some (congrArg Value.int (if_neg (bI_0.mp b5)).symm)

set_option maxHeartbeats 4000000 in
set_option maxRecDepth 100000 in
theorem uX6_low (l : Launch) (g : Geo) (sta : Nat → Nat) (h : HS) (a : Int32) (F : XF h) : CT (wX l g sta) 6 mX6_low [.ref (g.2.1 0), .int a] h (DR (if 0 ≤ a ∧ a ≤ 1 then -4 else -1)) := by
  refine CT.at [some (.ref (g.2.1 0)), some (.int a), none, none, none, none] 4 rfl (by decide) (Nat.le_of_ble_eq_true rfl) (fun k K => ?_)
  refine aw_il1 K dX6_low_0 ?_
  refine aw_iconst (v := 0) K dX6_low_1 (by decide) ?_
  refine aw_iconst (v := 1) K dX6_low_2 (by decide) ?_
  refine aw_callS_I K (tX6_within l g sta _ _ _ _) rfl (by decide) fX6_within lX6_76 dX6_low_3 rfl (Nat.le_of_ble_eq_true rfl) ?_
  refine aw_if_ne (tgt := 11) K dX6_low_6 (by decide) (fun b6 => ?_) (fun b6 => ?_)
  · refine aw_al0 K dX6_low_11 ?_
    refine aw_callV_V K (uX6_layFlow l g sta _ F) rfl (by decide) fX6_layFlow lX6_190 dX6_low_12 rfl clsX6 rfl (Nat.le_of_ble_eq_true rfl) ?_
    refine aw_bipush (v := (-4)) K dX6_low_15 (by decide) ?_
    refine aw_is2 K dX6_low_17 (by decide) rfl ?_
    refine aw_iconst (v := 0) K dX6_low_18 (by decide) ?_
    refine aw_is3 K dX6_low_19 (by decide) rfl ?_
    refine aw_iconst (v := 0) K dX6_low_20 (by decide) ?_
    refine aw_is4 K dX6_low_21 (by decide) rfl ?_
    refine aw_il4 K dX6_low_23 ?_
    refine aw_al0 K dX6_low_25 ?_
    refine aw_getR K gX6_12 dX6_low_26 rfl rfl ?_
    refine aw_getI K gX6_161 dX6_low_29 rfl rfl ?_
    refine aw_icmp_ge (tgt := 84) K dX6_low_32 (by decide) (fun b32 => ?_) (fun b32 => ?_)
    · refine aw_il1 K dX6_low_84 ?_
      refine aw_if_eq (tgt := 94) K dX6_low_85 (by decide) (fun b85 => ?_) (fun b85 => ?_)
      · refine aw_il2 K dX6_low_94 ?_
        refine aw_goto (tgt := 99) K dX6_low_95 (by decide) ?_
        refine aw_iret K rfl dX6_low_99 ?_
        exact congrArg some (congrArg Value.int (if_pos (bI_1.mp b6)).symm)
      · refine aw_il2 K dX6_low_88 ?_
        refine aw_bipush (v := (-4)) K dX6_low_89 (by decide) ?_
        refine aw_icmp_ne (tgt := 98) K dX6_low_91 (by decide) (fun b91 => ?_) (fun b91 => ?_)
        · exact absurd rfl b91
        · refine aw_il2 K dX6_low_94 ?_
          refine aw_goto (tgt := 99) K dX6_low_95 (by decide) ?_
          refine aw_iret K rfl dX6_low_99 ?_
          exact congrArg some (congrArg Value.int (if_pos (bI_1.mp b6)).symm)
    · exact absurd (by rw [(xf_LF F).1]; decide) b32
  · refine aw_iconst (v := (-1)) K dX6_low_9 (by decide) ?_
    refine aw_iret K rfl dX6_low_10 ?_
    exact congrArg some (congrArg Value.int (if_neg (bI_0.mp b6)).symm)

set_option maxHeartbeats 4000000 in
set_option maxRecDepth 100000 in
theorem uX6_fillTrusts (l : Launch) (g : Geo) (sta : Nat → Nat) (h : HS) (F : XF h) : CT (wX l g sta) 5 mX6_fillTrusts [.ref (g.2.1 0)] h (DV (LF h)) := by
  refine CT.at [some (.ref (g.2.1 0)), none] 1 rfl (by decide) (Nat.le_of_ble_eq_true rfl) (fun k K => ?_)
  refine aw_al0 K dX6_fillTrusts_0 ?_
  refine aw_callV_V K (uX6_layFlow l g sta _ F) rfl (by decide) fX6_layFlow lX6_190 dX6_fillTrusts_1 rfl clsX6 rfl (Nat.le_of_ble_eq_true rfl) ?_
  refine aw_iconst (v := 0) K dX6_fillTrusts_4 (by decide) ?_
  refine aw_is1 K dX6_fillTrusts_5 (by decide) rfl ?_
  refine aw_il1 K dX6_fillTrusts_6 ?_
  refine aw_al0 K dX6_fillTrusts_7 ?_
  refine aw_getR K gX6_12 dX6_fillTrusts_8 rfl rfl ?_
  refine aw_getI K gX6_161 dX6_fillTrusts_11 rfl rfl ?_
  refine aw_icmp_ge (tgt := 51) K dX6_fillTrusts_14 (by decide) (fun b14 => ?_) (fun b14 => ?_)
  · refine aw_vret K rfl dX6_fillTrusts_51 ?_
    exact ⟨rfl, rfl⟩
  · exact absurd (by rw [(xf_LF F).1]; decide) b14

set_option maxHeartbeats 4000000 in
set_option maxRecDepth 100000 in
theorem uX6_twins (l : Launch) (g : Geo) (sta : Nat → Nat) (h : HS) (a : Int32) (F : XF h) : CT (wX l g sta) 6 mX6_twins [.ref (g.2.1 0), .int a] h (DR (if 0 ≤ a ∧ a ≤ 1 then -4 else -1)) := by
  refine CT.at [some (.ref (g.2.1 0)), some (.int a), none, none, none, none, none] 5 rfl (by decide) (Nat.le_of_ble_eq_true rfl) (fun k K => ?_)
  refine aw_il1 K dX6_twins_0 ?_
  refine aw_iconst (v := 0) K dX6_twins_1 (by decide) ?_
  refine aw_iconst (v := 1) K dX6_twins_2 (by decide) ?_
  refine aw_callS_I K (tX6_within l g sta _ _ _ _) rfl (by decide) fX6_within lX6_76 dX6_twins_3 rfl (Nat.le_of_ble_eq_true rfl) ?_
  refine aw_if_ne (tgt := 11) K dX6_twins_6 (by decide) (fun b6 => ?_) (fun b6 => ?_)
  · refine aw_al0 K dX6_twins_11 ?_
    refine aw_callV_V K (uX6_fillTrusts l g sta _ F) rfl (by decide) fX6_fillTrusts lX6_211 dX6_twins_12 rfl clsX6 rfl (Nat.le_of_ble_eq_true rfl) ?_
    refine aw_bipush (v := (-4)) K dX6_twins_15 (by decide) ?_
    refine aw_is2 K dX6_twins_17 (by decide) rfl ?_
    refine aw_iconst (v := 0) K dX6_twins_18 (by decide) ?_
    refine aw_is3 K dX6_twins_19 (by decide) rfl ?_
    refine aw_iconst (v := 0) K dX6_twins_20 (by decide) ?_
    refine aw_is4 K dX6_twins_21 (by decide) rfl ?_
    refine aw_il4 K dX6_twins_23 ?_
    refine aw_al0 K dX6_twins_25 ?_
    refine aw_getR K gX6_12 dX6_twins_26 rfl rfl ?_
    refine aw_getI K gX6_161 dX6_twins_29 rfl rfl ?_
    refine aw_icmp_ge (tgt := 138) K dX6_twins_32 (by decide) (fun b32 => ?_) (fun b32 => ?_)
    · refine aw_il1 K dX6_twins_138 ?_
      refine aw_if_eq (tgt := 148) K dX6_twins_139 (by decide) (fun b139 => ?_) (fun b139 => ?_)
      · refine aw_il2 K dX6_twins_148 ?_
        refine aw_goto (tgt := 153) K dX6_twins_149 (by decide) ?_
        refine aw_iret K rfl dX6_twins_153 ?_
        exact congrArg some (congrArg Value.int (if_pos (bI_1.mp b6)).symm)
      · refine aw_il2 K dX6_twins_142 ?_
        refine aw_bipush (v := (-4)) K dX6_twins_143 (by decide) ?_
        refine aw_icmp_ne (tgt := 152) K dX6_twins_145 (by decide) (fun b145 => ?_) (fun b145 => ?_)
        · exact absurd rfl b145
        · refine aw_il2 K dX6_twins_148 ?_
          refine aw_goto (tgt := 153) K dX6_twins_149 (by decide) ?_
          refine aw_iret K rfl dX6_twins_153 ?_
          exact congrArg some (congrArg Value.int (if_pos (bI_1.mp b6)).symm)
    · exact absurd (by rw [(xf_LF F).1]; decide) b32
  · refine aw_iconst (v := (-1)) K dX6_twins_9 (by decide) ?_
    refine aw_iret K rfl dX6_twins_10 ?_
    exact congrArg some (congrArg Value.int (if_neg (bI_0.mp b6)).symm)

set_option maxHeartbeats 4000000 in
set_option maxRecDepth 100000 in
theorem uX6_wordsWithin (l : Launch) (g : Geo) (sta : Nat → Nat) (h : HS) (a b : Int32) (F : XF h) : CT (wX l g sta) 2 mX6_wordsWithin [.ref (g.2.1 0), .int a, .int b] h (DI 0 h) := by
  refine CT.at [some (.ref (g.2.1 0)), some (.int a), some (.int b), none, none, none] 3 rfl (by decide) (Nat.le_of_ble_eq_true rfl) (fun k K => ?_)
  refine aw_iconst (v := 0) K dX6_wordsWithin_0 (by decide) ?_
  refine aw_is3 K dX6_wordsWithin_1 (by decide) rfl ?_
  refine aw_iconst (v := 0) K dX6_wordsWithin_2 (by decide) ?_
  refine aw_is4 K dX6_wordsWithin_3 (by decide) rfl ?_
  refine aw_il4 K dX6_wordsWithin_5 ?_
  refine aw_al0 K dX6_wordsWithin_7 ?_
  refine aw_getR K gX6_26 dX6_wordsWithin_8 rfl rfl ?_
  refine aw_getI K gX6_255 dX6_wordsWithin_11 rfl rfl ?_
  refine aw_icmp_ge (tgt := 87) K dX6_wordsWithin_14 (by decide) (fun b14 => ?_) (fun b14 => ?_)
  · refine aw_il3 K dX6_wordsWithin_87 ?_
    refine aw_iret K rfl dX6_wordsWithin_88 ?_
    exact ⟨rfl, rfl⟩
  · exact absurd (by rw [F.2.2.1]; decide) b14

set_option maxHeartbeats 4000000 in
set_option maxRecDepth 100000 in
theorem uX6_ring (l : Launch) (g : Geo) (sta : Nat → Nat) (h : HS) (a b : Int32) (F : XF h) : CT (wX l g sta) 6 mX6_ring [.ref (g.2.1 0), .int a, .int b] h (DR (if a = 0 ∧ 0 ≤ b ∧ b ≤ 3 then 0 else -1)) := by
  refine CT.at [some (.ref (g.2.1 0)), some (.int a), some (.int b)] 0 rfl (by decide) (Nat.le_of_ble_eq_true rfl) (fun k K => ?_)
  refine aw_al0 K dX6_ring_0 ?_
  refine aw_il1 K dX6_ring_1 ?_
  refine aw_callV_I K (tX6_isHeap l g sta _ _) rfl (by decide) fX6_isHeap lX6_196 dX6_ring_2 rfl clsX6 rfl (Nat.le_of_ble_eq_true rfl) ?_
  rw [xf_hp F]
  refine aw_if_ne (tgt := 10) K dX6_ring_5 (by decide) (fun b5 => ?_) (fun b5 => ?_)
  · refine aw_il2 K dX6_ring_10 ?_
    refine aw_tsw (tgt := 71) K dX6_ring_11 (by decide) (by decide) (by decide) ⟨fun s0 => ?_, fun s1 => ?_, fun s2 => ?_, fun s3 => ?_, trivial⟩ (fun sd => ?_)
    · show AW _ _ _ _ _ 40 _ _ _
      refine aw_al0 K dX6_ring_40 ?_
      refine aw_getR K gX6_26 dX6_ring_41 rfl rfl ?_
      refine aw_getI K gX6_255 dX6_ring_44 rfl rfl ?_
      refine aw_iret K rfl dX6_ring_47 ?_
      exact congrArg some (congrArg Value.int (F.2.2.1.trans (Eq.symm (if_pos ⟨bI_1.mp b5, Int32.le_iff_toInt_le.mpr (by rw [s0]; decide), Int32.le_iff_toInt_le.mpr (by rw [s0]; decide)⟩))))
    · show AW _ _ _ _ _ 48 _ _ _
      refine aw_al0 K dX6_ring_48 ?_
      refine aw_il1 K dX6_ring_49 ?_
      refine aw_iconst (v := 0) K dX6_ring_50 (by decide) ?_
      refine aw_callV_I K (uX6_wordsWithin l g sta _ _ _ F) rfl (by decide) fX6_wordsWithin lX6_256 dX6_ring_51 rfl clsX6 rfl (Nat.le_of_ble_eq_true rfl) ?_
      refine aw_iret K rfl dX6_ring_54 ?_
      exact congrArg some (congrArg Value.int (Eq.symm (if_pos ⟨bI_1.mp b5, Int32.le_iff_toInt_le.mpr (by rw [s1]; decide), Int32.le_iff_toInt_le.mpr (by rw [s1]; decide)⟩)))
    · show AW _ _ _ _ _ 55 _ _ _
      refine aw_al0 K dX6_ring_55 ?_
      refine aw_sipush (v := 4095) K dX6_ring_56 (by decide) ?_
      refine aw_iconst (v := 1) K dX6_ring_59 (by decide) ?_
      refine aw_callV_I K (uX6_wordsWithin l g sta _ _ _ F) rfl (by decide) fX6_wordsWithin lX6_256 dX6_ring_60 rfl clsX6 rfl (Nat.le_of_ble_eq_true rfl) ?_
      refine aw_iret K rfl dX6_ring_63 ?_
      exact congrArg some (congrArg Value.int (Eq.symm (if_pos ⟨bI_1.mp b5, Int32.le_iff_toInt_le.mpr (by rw [s2]; decide), Int32.le_iff_toInt_le.mpr (by rw [s2]; decide)⟩)))
    · show AW _ _ _ _ _ 64 _ _ _
      refine aw_al0 K dX6_ring_64 ?_
      refine aw_il1 K dX6_ring_65 ?_
      refine aw_iconst (v := 1) K dX6_ring_66 (by decide) ?_
      refine aw_callV_I K (uX6_wordsWithin l g sta _ _ _ F) rfl (by decide) fX6_wordsWithin lX6_256 dX6_ring_67 rfl clsX6 rfl (Nat.le_of_ble_eq_true rfl) ?_
      refine aw_iret K rfl dX6_ring_70 ?_
      exact congrArg some (congrArg Value.int (Eq.symm (if_pos ⟨bI_1.mp b5, Int32.le_iff_toInt_le.mpr (by rw [s3]; decide), Int32.le_iff_toInt_le.mpr (by rw [s3]; decide)⟩)))
    · show AW _ _ _ _ _ 71 _ _ _
      refine aw_iconst (v := (-1)) K dX6_ring_71 (by decide) ?_
      refine aw_iret K rfl dX6_ring_72 ?_
      refine congrArg some (congrArg Value.int (Eq.symm (if_neg (fun q => ?_))))
      have q1 := Int32.le_iff_toInt_le.mp q.2.1
      have q2 := Int32.le_iff_toInt_le.mp q.2.2
      rw [show (0 : Int32).toInt = 0 from by decide] at q1
      rw [show (3 : Int32).toInt = 3 from by decide] at q2
      omega
  · refine aw_iconst (v := (-1)) K dX6_ring_8 (by decide) ?_
    refine aw_iret K rfl dX6_ring_9 ?_
    exact congrArg some (congrArg Value.int (if_neg (fun q => bI_0.mp b5 q.1)).symm)

set_option maxHeartbeats 4000000 in
set_option maxRecDepth 100000 in
theorem uX6_choose (l : Launch) (g : Geo) (sta : Nat → Nat) (h : HS) : CT (wX l g sta) 1 mX6_choose [.int 0, .int 0] h (DL 1 h) := by
  refine CT.at [some (.int 0), some (.int 0), none, none, none] 3 rfl (by decide) (Nat.le_of_ble_eq_true rfl) (fun k K => ?_)
  refine aw_il1 K dX6_choose_0 ?_
  refine aw_if_lt (tgt := 9) K dX6_choose_1 (by decide) (fun b1 => ?_) (fun b1 => ?_)
  · exact absurd b1 (by decide)
  · refine aw_il1 K dX6_choose_4 ?_
    refine aw_il0 K dX6_choose_5 ?_
    refine aw_icmp_le (tgt := 11) K dX6_choose_6 (by decide) (fun b6 => ?_) (fun b6 => ?_)
    · refine aw_lconst (v := 1) K dX6_choose_11 (by decide) ?_
      refine aw_ls2 K dX6_choose_12 (by decide) rfl ?_
      refine aw_iconst (v := 0) K dX6_choose_13 (by decide) ?_
      refine aw_is4 K dX6_choose_14 (by decide) rfl ?_
      refine aw_il4 K dX6_choose_16 ?_
      refine aw_il1 K dX6_choose_18 ?_
      refine aw_icmp_ge (tgt := 42) K dX6_choose_19 (by decide) (fun b19 => ?_) (fun b19 => ?_)
      · refine aw_ll2 K dX6_choose_42 ?_
        refine aw_lret K rfl dX6_choose_43 ?_
        exact ⟨rfl, rfl⟩
      · exact absurd (by decide) b19
    · exact absurd (by decide) b6

set_option maxHeartbeats 4000000 in
set_option maxRecDepth 100000 in
theorem uX6_waysOf (l : Launch) (g : Geo) (sta : Nat → Nat) (h : HS) (F : XF h) : CT (wX l g sta) 3 mX6_waysOf [.ref (g.2.1 0), .int 0, .int 0] h (DL 1 h) := by
  refine CT.at [some (.ref (g.2.1 0)), some (.int 0), some (.int 0), none, none, none, none, none] 5 rfl (by decide) (Nat.le_of_ble_eq_true rfl) (fun k K => ?_)
  refine aw_al0 K dX6_waysOf_0 ?_
  refine aw_il1 K dX6_waysOf_1 ?_
  refine aw_iconst (v := 0) K dX6_waysOf_2 (by decide) ?_
  refine aw_callV_I K (uX6_wordsWithin l g sta _ _ _ F) rfl (by decide) fX6_wordsWithin lX6_256 dX6_waysOf_3 rfl clsX6 rfl (Nat.le_of_ble_eq_true rfl) ?_
  refine aw_is3 K dX6_waysOf_6 (by decide) rfl ?_
  refine aw_al0 K dX6_waysOf_7 ?_
  refine aw_getR K gX6_26 dX6_waysOf_8 rfl rfl ?_
  refine aw_getI K gX6_255 dX6_waysOf_11 rfl rfl ?_
  rw [F.2.2.1]
  refine aw_il3 K dX6_waysOf_14 ?_
  refine aw_isub K dX6_waysOf_15 ?_
  refine aw_is4 K dX6_waysOf_16 (by decide) rfl ?_
  refine aw_lconst (v := 0) K dX6_waysOf_18 (by decide) ?_
  refine aw_ls5 K dX6_waysOf_19 (by decide) rfl ?_
  refine aw_al0 K dX6_waysOf_21 ?_
  refine aw_il1 K dX6_waysOf_22 ?_
  refine aw_iconst (v := 1) K dX6_waysOf_23 (by decide) ?_
  refine aw_callV_I K (uX6_wordsWithin l g sta _ _ _ F) rfl (by decide) fX6_wordsWithin lX6_256 dX6_waysOf_24 rfl clsX6 rfl (Nat.le_of_ble_eq_true rfl) ?_
  refine aw_is7 K dX6_waysOf_27 (by decide) rfl ?_
  refine aw_il7 K dX6_waysOf_29 ?_
  refine aw_il3 K dX6_waysOf_31 ?_
  refine aw_icmp_gt (tgt := 68) K dX6_waysOf_32 (by decide) (fun b32 => ?_) (fun b32 => ?_)
  · exact absurd b32 (by decide)
  · refine aw_il7 K dX6_waysOf_35 ?_
    refine aw_il2 K dX6_waysOf_37 ?_
    refine aw_icmp_gt (tgt := 68) K dX6_waysOf_38 (by decide) (fun b38 => ?_) (fun b38 => ?_)
    · exact absurd b38 (by decide)
    · refine aw_ll5 K dX6_waysOf_41 ?_
      refine aw_il3 K dX6_waysOf_43 ?_
      refine aw_il7 K dX6_waysOf_44 ?_
      refine aw_callS_L K (uX6_choose l g sta _) rfl (by decide) fX6_choose lX6_265 dX6_waysOf_46 rfl (Nat.le_of_ble_eq_true rfl) ?_
      refine aw_il4 K dX6_waysOf_49 ?_
      refine aw_il2 K dX6_waysOf_51 ?_
      refine aw_il7 K dX6_waysOf_52 ?_
      try rw [show (0 : Int32) - 0 = 0 from by decide]
      refine aw_isub K dX6_waysOf_54 ?_
      rw [show (0 : Int32) - 0 = 0 from by decide]
      refine aw_callS_L K (uX6_choose l g sta _) rfl (by decide) fX6_choose lX6_265 dX6_waysOf_55 rfl (Nat.le_of_ble_eq_true rfl) ?_
      refine aw_lmul K dX6_waysOf_58 ?_
      refine aw_ladd K dX6_waysOf_59 ?_
      refine aw_ls5 K dX6_waysOf_60 (by decide) rfl ?_
      refine aw_ii7 (v := _ + 1) K dX6_waysOf_62 rfl (by decide) rfl ?_
      refine aw_goto (tgt := 29) K dX6_waysOf_65 (by decide) ?_
      refine aw_il7 K dX6_waysOf_29 ?_
      refine aw_il3 K dX6_waysOf_31 ?_
      refine aw_icmp_gt (tgt := 68) K dX6_waysOf_32 (by decide) (fun b32 => ?_) (fun b32 => ?_)
      · refine aw_ll5 K dX6_waysOf_68 ?_
        refine aw_lret K rfl dX6_waysOf_70 ?_
        exact ⟨rfl, rfl⟩
      · exact absurd (by decide) b32

set_option maxHeartbeats 4000000 in
set_option maxRecDepth 100000 in
theorem uX6_commonPart (l : Launch) (g : Geo) (sta : Nat → Nat) (h : HS) : CT (wX l g sta) 2 mX6_commonPart [.long 1, .long 1] h (DL 1 h) := by
  refine CT.at [some (.long 1), none, some (.long 1), none, none, none, none, none, none, none, none] 7 rfl (by decide) (Nat.le_of_ble_eq_true rfl) (fun k K => ?_)
  refine aw_ll0 K dX6_commonPart_0 ?_
  refine aw_ls4 K dX6_commonPart_1 (by decide) rfl ?_
  refine aw_ll2 K dX6_commonPart_3 ?_
  refine aw_ls6 K dX6_commonPart_4 (by decide) rfl ?_
  refine aw_iconst (v := 0) K dX6_commonPart_6 (by decide) ?_
  refine aw_is8 K dX6_commonPart_7 (by decide) rfl ?_
  refine aw_il8 K dX6_commonPart_9 ?_
  refine aw_sipush (v := 200) K dX6_commonPart_11 (by decide) ?_
  refine aw_icmp_ge (tgt := 45) K dX6_commonPart_14 (by decide) (fun b14 => ?_) (fun b14 => ?_)
  · exact absurd b14 (by decide)
  · refine aw_ll6 K dX6_commonPart_17 ?_
    refine aw_lconst (v := 0) K dX6_commonPart_19 (by decide) ?_
    refine aw_lcmp K dX6_commonPart_20 ?_
    refine aw_if_eq (tgt := 45) K dX6_commonPart_21 (by decide) (fun b21 => ?_) (fun b21 => ?_)
    · exact absurd b21 (by decide)
    · refine aw_ll4 K dX6_commonPart_24 ?_
      refine aw_ll6 K dX6_commonPart_26 ?_
      refine aw_lrem K dX6_commonPart_28 (by decide) ?_
      refine aw_ls9 K dX6_commonPart_29 (by decide) rfl ?_
      refine aw_ll6 K dX6_commonPart_31 ?_
      refine aw_ls4 K dX6_commonPart_33 (by decide) rfl ?_
      refine aw_ll9 K dX6_commonPart_35 ?_
      refine aw_ls6 K dX6_commonPart_37 (by decide) rfl ?_
      refine aw_ii8 (v := _ + 1) K dX6_commonPart_39 rfl (by decide) rfl ?_
      refine aw_goto (tgt := 9) K dX6_commonPart_42 (by decide) ?_
      refine aw_il8 K dX6_commonPart_9 ?_
      refine aw_sipush (v := 200) K dX6_commonPart_11 (by decide) ?_
      refine aw_icmp_ge (tgt := 45) K dX6_commonPart_14 (by decide) (fun b14 => ?_) (fun b14 => ?_)
      · exact absurd b14 (by decide)
      · refine aw_ll6 K dX6_commonPart_17 ?_
        refine aw_lconst (v := 0) K dX6_commonPart_19 (by decide) ?_
        refine aw_lcmp K dX6_commonPart_20 ?_
        refine aw_if_eq (tgt := 45) K dX6_commonPart_21 (by decide) (fun b21 => ?_) (fun b21 => ?_)
        · refine aw_lconst (v := 1) K dX6_commonPart_45 (by decide) ?_
          refine aw_ll4 K dX6_commonPart_46 ?_
          refine aw_mmaxL K (aw_in 709 (by decide +kernel) rfl) cw_maxl1 cw_max2 cw_maxl3 (by decide) (Nat.le_of_ble_eq_true rfl) dX6_commonPart_48 ?_
          refine aw_lret K rfl dX6_commonPart_51 ?_
          exact ⟨rfl, rfl⟩
        · exact absurd (by decide) b21

set_option maxHeartbeats 4000000 in
set_option maxRecDepth 100000 in
theorem uX6_inLowest (l : Launch) (g : Geo) (sta : Nat → Nat) (h : HS) (b : Int32) : CT (wX l g sta) 3 mX6_inLowest [.long 1, .long 1, .int b] h (DL 1 h) := by
  refine CT.at [some (.long 1), none, some (.long 1), none, some (.int b), none, none] 2 rfl (by decide) (Nat.le_of_ble_eq_true rfl) (fun k K => ?_)
  refine aw_ll0 K dX6_inLowest_0 ?_
  refine aw_ll2 K dX6_inLowest_1 ?_
  refine aw_callS_L K (uX6_commonPart l g sta _) rfl (by decide) fX6_commonPart lX6_345 dX6_inLowest_2 rfl (Nat.le_of_ble_eq_true rfl) ?_
  refine aw_ls5 K dX6_inLowest_5 (by decide) rfl ?_
  refine aw_il4 K dX6_inLowest_7 ?_
  refine aw_if_eq (tgt := 19) K dX6_inLowest_9 (by decide) (fun b9 => ?_) (fun b9 => ?_)
  · refine aw_ll2 K dX6_inLowest_19 ?_
    refine aw_ll5 K dX6_inLowest_20 ?_
    refine aw_ldiv K dX6_inLowest_22 (by decide) ?_
    refine aw_lret K rfl dX6_inLowest_23 ?_
    exact ⟨rfl, rfl⟩
  · refine aw_ll0 K dX6_inLowest_12 ?_
    refine aw_ll5 K dX6_inLowest_13 ?_
    refine aw_ldiv K dX6_inLowest_15 (by decide) ?_
    refine aw_goto (tgt := 23) K dX6_inLowest_16 (by decide) ?_
    refine aw_lret K rfl dX6_inLowest_23 ?_
    exact ⟨rfl, rfl⟩

set_option maxHeartbeats 4000000 in
set_option maxRecDepth 100000 in
theorem uX6_odds (l : Launch) (g : Geo) (sta : Nat → Nat) (h : HS) (a b : Int32) (F : XF h) : CT (wX l g sta) 6 mX6_odds [.ref (g.2.1 0), .int a, .int b] h ((fun o _ => o = some (.long (if a = 0 ∧ 0 ≤ b ∧ b ≤ 1 then 1 else -1)))) := by
  refine CT.at [some (.ref (g.2.1 0)), some (.int a), some (.int b), none] 1 rfl (by decide) (Nat.le_of_ble_eq_true rfl) (fun k K => ?_)
  refine aw_al0 K dX6_odds_0 ?_
  refine aw_il1 K dX6_odds_1 ?_
  refine aw_callV_I K (tX6_isHeap l g sta _ _) rfl (by decide) fX6_isHeap lX6_196 dX6_odds_2 rfl clsX6 rfl (Nat.le_of_ble_eq_true rfl) ?_
  rw [xf_hp F]
  refine aw_if_eq (tgt := 17) K dX6_odds_5 (by decide) (fun b5 => ?_) (fun b5 => ?_)
  · refine aw_ldc2 K qX6_259 dX6_odds_17 ?_
    refine aw_lret K rfl dX6_odds_20 ?_
    first
      | exact congrArg some (congrArg Value.long (if_neg (fun q => bI_0.mp b14 q.2)).symm)
      | exact congrArg some (congrArg Value.long (if_neg (fun q => bI_0.mp b5 q.1)).symm)
  · have ha := bI_1.mp b5
    refine aw_il2 K dX6_odds_8 ?_
    refine aw_iconst (v := 0) K dX6_odds_9 (by decide) ?_
    refine aw_iconst (v := 1) K dX6_odds_10 (by decide) ?_
    refine aw_callS_I K (tX6_within l g sta _ _ _ _) rfl (by decide) fX6_within lX6_76 dX6_odds_11 rfl (Nat.le_of_ble_eq_true rfl) ?_
    refine aw_if_ne (tgt := 21) K dX6_odds_14 (by decide) (fun b14 => ?_) (fun b14 => ?_)
    · refine aw_al0 K dX6_odds_21 ?_
      refine aw_sipush (v := 4095) K dX6_odds_22 (by decide) ?_
      refine aw_iconst (v := 1) K dX6_odds_25 (by decide) ?_
      refine aw_callV_I K (uX6_wordsWithin l g sta _ _ _ F) rfl (by decide) fX6_wordsWithin lX6_256 dX6_odds_26 rfl clsX6 rfl (Nat.le_of_ble_eq_true rfl) ?_
      refine aw_is3 K dX6_odds_29 (by decide) rfl ?_
      refine aw_al0 K dX6_odds_30 ?_
      refine aw_il1 K dX6_odds_31 ?_
      refine aw_il3 K dX6_odds_32 ?_
      rw [ha]
      refine aw_callV_L K (uX6_waysOf l g sta _ F) rfl (by decide) fX6_waysOf lX6_261 dX6_odds_33 rfl clsX6 rfl (Nat.le_of_ble_eq_true rfl) ?_
      refine aw_al0 K dX6_odds_36 ?_
      refine aw_getR K gX6_26 dX6_odds_37 rfl rfl ?_
      refine aw_getI K gX6_255 dX6_odds_40 rfl rfl ?_
      refine aw_il3 K dX6_odds_43 ?_
      rw [F.2.2.1]
      refine aw_callS_L K (uX6_choose l g sta _) rfl (by decide) fX6_choose lX6_265 dX6_odds_44 rfl (Nat.le_of_ble_eq_true rfl) ?_
      refine aw_il2 K dX6_odds_47 ?_
      refine aw_if_ne (tgt := 55) K dX6_odds_48 (by decide) (fun b48 => ?_) (fun b48 => ?_)
      · refine aw_iconst (v := 0) K dX6_odds_55 (by decide) ?_
        refine aw_callS_L K (uX6_inLowest l g sta _ _) rfl (by decide) fX6_inLowest lX6_247 dX6_odds_56 rfl (Nat.le_of_ble_eq_true rfl) ?_
        refine aw_lret K rfl dX6_odds_59 ?_
        exact congrArg some (congrArg Value.long (if_pos ⟨rfl, bI_1.mp b14⟩).symm)
      · refine aw_iconst (v := 1) K dX6_odds_51 (by decide) ?_
        refine aw_goto (tgt := 56) K dX6_odds_52 (by decide) ?_
        refine aw_callS_L K (uX6_inLowest l g sta _ _) rfl (by decide) fX6_inLowest lX6_247 dX6_odds_56 rfl (Nat.le_of_ble_eq_true rfl) ?_
        refine aw_lret K rfl dX6_odds_59 ?_
        exact congrArg some (congrArg Value.long (if_pos ⟨rfl, bI_1.mp b14⟩).symm)
    · refine aw_ldc2 K qX6_259 dX6_odds_17 ?_
      refine aw_lret K rfl dX6_odds_20 ?_
      first
        | exact congrArg some (congrArg Value.long (if_neg (fun q => bI_0.mp b14 q.2)).symm)
        | exact congrArg some (congrArg Value.long (if_neg (fun q => bI_0.mp b5 q.1)).symm)

set_option maxHeartbeats 4000000 in
set_option maxRecDepth 100000 in
theorem uJ6_bitCount (l : Launch) (g : Geo) (sta : Nat → Nat) (h : HS) : CT (wX l g sta) 1 mJ6_bitCount_0f7a4 [.int 0] h (DI 0 h) := by
  refine CT.at [some (.int 0)] 0 rfl (by decide) (Nat.le_of_ble_eq_true rfl) (fun k K => ?_)
  refine aw_il0 K dJ6_bitCount_0f7a4_0 ?_
  refine aw_il0 K dJ6_bitCount_0f7a4_1 ?_
  refine aw_iconst (v := 1) K dJ6_bitCount_0f7a4_2 (by decide) ?_
  refine aw_iushr K dJ6_bitCount_0f7a4_3 ?_
  refine aw_ldcw K qJ6_265 dJ6_bitCount_0f7a4_4 ?_
  refine aw_iand K dJ6_bitCount_0f7a4_7 ?_
  refine aw_isub K dJ6_bitCount_0f7a4_8 ?_
  refine aw_is0 K dJ6_bitCount_0f7a4_9 (by decide) ?_
  refine aw_il0 K dJ6_bitCount_0f7a4_10 ?_
  refine aw_ldcw K qJ6_266 dJ6_bitCount_0f7a4_11 ?_
  refine aw_iand K dJ6_bitCount_0f7a4_14 ?_
  refine aw_il0 K dJ6_bitCount_0f7a4_15 ?_
  refine aw_iconst (v := 2) K dJ6_bitCount_0f7a4_16 (by decide) ?_
  refine aw_iushr K dJ6_bitCount_0f7a4_17 ?_
  refine aw_ldcw K qJ6_266 dJ6_bitCount_0f7a4_18 ?_
  refine aw_iand K dJ6_bitCount_0f7a4_21 ?_
  refine aw_iadd K dJ6_bitCount_0f7a4_22 ?_
  refine aw_is0 K dJ6_bitCount_0f7a4_23 (by decide) ?_
  refine aw_il0 K dJ6_bitCount_0f7a4_24 ?_
  refine aw_il0 K dJ6_bitCount_0f7a4_25 ?_
  refine aw_iconst (v := 4) K dJ6_bitCount_0f7a4_26 (by decide) ?_
  refine aw_iushr K dJ6_bitCount_0f7a4_27 ?_
  refine aw_iadd K dJ6_bitCount_0f7a4_28 ?_
  refine aw_ldcw K qJ6_267 dJ6_bitCount_0f7a4_29 ?_
  refine aw_iand K dJ6_bitCount_0f7a4_32 ?_
  refine aw_is0 K dJ6_bitCount_0f7a4_33 (by decide) ?_
  refine aw_il0 K dJ6_bitCount_0f7a4_34 ?_
  refine aw_il0 K dJ6_bitCount_0f7a4_35 ?_
  refine aw_bipush (v := 8) K dJ6_bitCount_0f7a4_36 (by decide) ?_
  refine aw_iushr K dJ6_bitCount_0f7a4_38 ?_
  refine aw_iadd K dJ6_bitCount_0f7a4_39 ?_
  refine aw_is0 K dJ6_bitCount_0f7a4_40 (by decide) ?_
  refine aw_il0 K dJ6_bitCount_0f7a4_41 ?_
  refine aw_il0 K dJ6_bitCount_0f7a4_42 ?_
  refine aw_bipush (v := 16) K dJ6_bitCount_0f7a4_43 (by decide) ?_
  refine aw_iushr K dJ6_bitCount_0f7a4_45 ?_
  refine aw_iadd K dJ6_bitCount_0f7a4_46 ?_
  refine aw_is0 K dJ6_bitCount_0f7a4_47 (by decide) ?_
  refine aw_il0 K dJ6_bitCount_0f7a4_48 ?_
  refine aw_bipush (v := 63) K dJ6_bitCount_0f7a4_49 (by decide) ?_
  refine aw_iand K dJ6_bitCount_0f7a4_51 ?_
  refine aw_iret K rfl dJ6_bitCount_0f7a4_52 ?_
  exact ⟨rfl, rfl⟩

set_option maxHeartbeats 4000000 in
set_option maxRecDepth 100000 in
theorem uX6_oddest (l : Launch) (g : Geo) (sta : Nat → Nat) (h : HS) (a : Int32) (F : XF h) : CT (wX l g sta) 6 mX6_oddest [.ref (g.2.1 0), .int a] h ((fun o _ => o = some (.long (if 0 ≤ a ∧ a ≤ 2 then -4 else -1)))) := by
  refine CT.at [some (.ref (g.2.1 0)), some (.int a), none, none, none, none, none, none, none, none, none] 9 rfl (by decide) (Nat.le_of_ble_eq_true rfl) (fun k K => ?_)
  refine aw_il1 K dX6_oddest_0 ?_
  refine aw_iconst (v := 0) K dX6_oddest_1 (by decide) ?_
  refine aw_iconst (v := 2) K dX6_oddest_2 (by decide) ?_
  refine aw_callS_I K (tX6_within l g sta _ _ _ _) rfl (by decide) fX6_within lX6_76 dX6_oddest_3 rfl (Nat.le_of_ble_eq_true rfl) ?_
  refine aw_if_ne (tgt := 13) K dX6_oddest_6 (by decide) (fun b6 => ?_) (fun b6 => ?_)
  · refine aw_al0 K dX6_oddest_13 ?_
    refine aw_sipush (v := 4095) K dX6_oddest_14 (by decide) ?_
    refine aw_iconst (v := 1) K dX6_oddest_17 (by decide) ?_
    refine aw_callV_I K (uX6_wordsWithin l g sta _ _ _ F) rfl (by decide) fX6_wordsWithin lX6_256 dX6_oddest_18 rfl clsX6 rfl (Nat.le_of_ble_eq_true rfl) ?_
    refine aw_is2 K dX6_oddest_21 (by decide) rfl ?_
    refine aw_al0 K dX6_oddest_22 ?_
    refine aw_getR K gX6_26 dX6_oddest_23 rfl rfl ?_
    refine aw_getI K gX6_255 dX6_oddest_26 rfl rfl ?_
    refine aw_il2 K dX6_oddest_29 ?_
    rw [F.2.2.1]
    refine aw_callS_L K (uX6_choose l g sta _) rfl (by decide) fX6_choose lX6_265 dX6_oddest_30 rfl (Nat.le_of_ble_eq_true rfl) ?_
    refine aw_ls3 K dX6_oddest_33 (by decide) rfl ?_
    refine aw_ll3 K dX6_oddest_34 ?_
    refine aw_ls5 K dX6_oddest_35 (by decide) rfl ?_
    refine aw_iconst (v := 0) K dX6_oddest_37 (by decide) ?_
    refine aw_is7 K dX6_oddest_38 (by decide) rfl ?_
    refine aw_iconst (v := 0) K dX6_oddest_40 (by decide) ?_
    refine aw_is8 K dX6_oddest_41 (by decide) rfl ?_
    refine aw_il8 K dX6_oddest_43 ?_
    refine aw_iconst (v := 1) K dX6_oddest_45 (by decide) ?_
    refine aw_al0 K dX6_oddest_46 ?_
    refine aw_getR K gX6_12 dX6_oddest_47 rfl rfl ?_
    refine aw_getI K gX6_161 dX6_oddest_50 rfl rfl ?_
    refine aw_ishl K dX6_oddest_53 ?_
    rw [F.1, show (1 : Int32) <<< ((0 : Int32) &&& 31) = 1 from by decide]
    refine aw_icmp_ge (tgt := 104) K dX6_oddest_54 (by decide) (fun b54 => ?_) (fun b54 => ?_)
    · exact absurd b54 (by decide)
    · refine aw_il8 K dX6_oddest_57 ?_
      refine aw_callS_I K (uJ6_bitCount l g sta _) rfl (by decide) fJ6_bitCount_0f7a4 lX6_171 dX6_oddest_59 rfl (Nat.le_of_ble_eq_true rfl) ?_
      refine aw_iconst (v := 3) K dX6_oddest_62 (by decide) ?_
      refine aw_iconst (v := 4) K dX6_oddest_63 (by decide) ?_
      refine aw_callS_I K (tX6_within l g sta _ _ _ _) rfl (by decide) fX6_within lX6_76 dX6_oddest_64 rfl (Nat.le_of_ble_eq_true rfl) ?_
      refine aw_if_ne (tgt := 73) K dX6_oddest_67 (by decide) (fun b67 => ?_) (fun b67 => ?_)
      · exact absurd (bI_1.mp b67) (by decide)
      · refine aw_goto (tgt := 98) K dX6_oddest_70 (by decide) ?_
        refine aw_ii8 (v := _ + 1) K dX6_oddest_98 rfl (by decide) rfl ?_
        refine aw_goto (tgt := 43) K dX6_oddest_101 (by decide) ?_
        refine aw_il8 K dX6_oddest_43 ?_
        refine aw_iconst (v := 1) K dX6_oddest_45 (by decide) ?_
        refine aw_al0 K dX6_oddest_46 ?_
        refine aw_getR K gX6_12 dX6_oddest_47 rfl rfl ?_
        refine aw_getI K gX6_161 dX6_oddest_50 rfl rfl ?_
        refine aw_ishl K dX6_oddest_53 ?_
        rw [F.1, show (1 : Int32) <<< ((0 : Int32) &&& 31) = 1 from by decide]
        refine aw_icmp_ge (tgt := 104) K dX6_oddest_54 (by decide) (fun b54 => ?_) (fun b54 => ?_)
        · refine aw_il7 K dX6_oddest_104 ?_
          refine aw_if_ne (tgt := 113) K dX6_oddest_106 (by decide) (fun b106 => ?_) (fun b106 => ?_)
          · exact absurd rfl b106
          · refine aw_ldc2 K qX6_268 dX6_oddest_109 ?_
            refine aw_lret K rfl dX6_oddest_112 ?_
            exact congrArg some (congrArg Value.long (if_pos (bI_1.mp b6)).symm)
        · exact absurd (by decide) b54
  · refine aw_ldc2 K qX6_259 dX6_oddest_9 ?_
    refine aw_lret K rfl dX6_oddest_12 ?_
    exact congrArg some (congrArg Value.long (if_neg (bI_0.mp b6)).symm)

set_option maxHeartbeats 4000000 in
set_option maxRecDepth 100000 in
theorem uX6_sellingNames (l : Launch) (g : Geo) (sta : Nat → Nat) (h : HS) (F : XF h) : CT (wX l g sta) 1 mX6_sellingNames [.ref (g.2.1 0)] h (DI 0 h) := by
  refine CT.at [some (.ref (g.2.1 0)), none, none] 2 rfl (by decide) (Nat.le_of_ble_eq_true rfl) (fun k K => ?_)
  refine aw_iconst (v := 0) K dX6_sellingNames_0 (by decide) ?_
  refine aw_is1 K dX6_sellingNames_1 (by decide) rfl ?_
  refine aw_iconst (v := 0) K dX6_sellingNames_2 (by decide) ?_
  refine aw_is2 K dX6_sellingNames_3 (by decide) rfl ?_
  refine aw_il2 K dX6_sellingNames_4 ?_
  refine aw_al0 K dX6_sellingNames_5 ?_
  refine aw_getR K gX6_12 dX6_sellingNames_6 rfl rfl ?_
  refine aw_getI K gX6_161 dX6_sellingNames_9 rfl rfl ?_
  refine aw_icmp_ge (tgt := 51) K dX6_sellingNames_12 (by decide) (fun b12 => ?_) (fun b12 => ?_)
  · refine aw_il1 K dX6_sellingNames_51 ?_
    refine aw_iret K rfl dX6_sellingNames_52 ?_
    exact ⟨rfl, rfl⟩
  · exact absurd (by rw [F.1]; decide) b12

set_option maxHeartbeats 4000000 in
set_option maxRecDepth 100000 in
theorem tX6_boughtRoom (l : Launch) (g : Geo) (sta : Nat → Nat) (h : HS) (a : Int32) : CT (wX l g sta) 1 mX6_boughtRoom [.ref (g.2.1 0), .int a] h (DI (a * h.1 11 3 / 100) h) := by
  refine CT.at [some (.ref (g.2.1 0)), some (.int a)] 0 rfl (by decide) (Nat.le_of_ble_eq_true rfl) (fun k K => ?_)
  refine aw_il1 K dX6_boughtRoom_0 ?_
  refine aw_al0 K dX6_boughtRoom_1 ?_
  refine aw_getR K gX6_50 dX6_boughtRoom_2 rfl rfl ?_
  refine aw_iconst (v := 3) K dX6_boughtRoom_5 (by decide) ?_
  refine aw_iald K dX6_boughtRoom_6 rfl (vp_in_nI (n := 3) (N := 10) (by decide) (by decide)) ?_
  refine aw_imul K dX6_boughtRoom_7 ?_
  refine aw_bipush (v := 100) K dX6_boughtRoom_8 (by decide) ?_
  refine aw_idiv K dX6_boughtRoom_10 (by decide) ?_
  refine aw_iret K rfl dX6_boughtRoom_11 ?_
  exact ⟨rfl, rfl⟩

set_option maxHeartbeats 4000000 in
set_option maxRecDepth 100000 in
theorem ul_partCheat {l : Launch} {g : Geo} {sta : Nat → Nat} {P : Option Value → HS → Prop} {k : KT} (K : AOK (wX l g sta) mX0_partCheat k) (h0 : HS) (hP : ∀ h, (∀ j, j < 14 → h.1 35 j = 0) → (∀ c, c ≠ 34 → c ≠ 35 → h.1 c = h0.1 c) → P none h) :
    ∀ (n i : Nat) (h : HS), i ≤ 14 → 14 - i < n → (∀ j, j < 14 → h.1 35 j = 0) → (∀ c, c ≠ 34 → c ≠ 35 → h.1 c = h0.1 c) → AW (wX l g sta) P 1 mX0_partCheat k 2 [some (.ref (g.2.1 5)), some (.int (nI i))] [] h := by
  intro n
  induction n with
  | zero => intro i h h1 h2; omega
  | succ n ih =>
    intro i h h1 h2 hz hf
    refine aw_il1 K dX0_partCheat_2 ?_
    refine aw_bipush (v := 14) K dX0_partCheat_3 (by decide) ?_
    refine aw_icmp_ge (tgt := 50) K dX0_partCheat_5 (by decide) (fun b5 => ?_) (fun b5 => ?_)
    · refine aw_al0 K dX0_partCheat_50 ?_
      refine aw_getR K gX0_15 dX0_partCheat_51 rfl rfl ?_
      refine aw_bipush (v := 12) K dX0_partCheat_54 (by decide) ?_
      refine aw_iconst (v := 0) K dX0_partCheat_56 (by decide) ?_
      refine aw_iast K dX0_partCheat_57 rfl (vp_in_nI (n := 12) (by decide) (by decide)) ?_
      refine aw_vret K rfl dX0_partCheat_58 ?_
      refine hP _ (fun j hj => ?_) (fun c c1 c2 => ?_)
      · simp only [rdI]
        split
        · rfl
        · exact hz j hj
      · simp only [setI, rdR, c1, c2, if_false]
        exact hf c c1 c2
    · have hi : i < 14 := by
        rcases Nat.lt_or_ge i 14 with q | q
        · exact q
        · exact absurd (nI_le (a := 14) q (by omega)) b5
      refine aw_al0 K dX0_partCheat_8 ?_
      refine aw_getR K gX0_11 dX0_partCheat_9 rfl rfl ?_
      refine aw_il1 K dX0_partCheat_12 ?_
      refine aw_bipush (v := 14) K dX0_partCheat_13 (by decide) ?_
      refine aw_imul K dX0_partCheat_15 ?_
      refine aw_bipush (v := 12) K dX0_partCheat_16 (by decide) ?_
      refine aw_iadd K dX0_partCheat_18 ?_
      refine aw_iconst (v := 0) K dX0_partCheat_19 (by decide) ?_
      rw [show (14 : Int32) = nI 14 from rfl, show (12 : Int32) = nI 12 from rfl, pk_mul, nI_add]
      refine aw_iast K dX0_partCheat_20 rfl (vp_in_nI (by omega) (by decide)) ?_
      refine aw_al0 K dX0_partCheat_21 ?_
      refine aw_getR K gX0_11 dX0_partCheat_22 rfl rfl ?_
      refine aw_sipush (v := 168) K dX0_partCheat_25 (by decide) ?_
      refine aw_il1 K dX0_partCheat_28 ?_
      refine aw_iadd K dX0_partCheat_29 ?_
      refine aw_iconst (v := 0) K dX0_partCheat_30 (by decide) ?_
      rw [show (168 : Int32) = nI 168 from rfl, nI_add]
      refine aw_iast K dX0_partCheat_31 rfl (vp_in_nI (by omega) (by decide)) ?_
      refine aw_al0 K dX0_partCheat_32 ?_
      refine aw_getR K gX0_15 dX0_partCheat_33 rfl rfl ?_
      refine aw_il1 K dX0_partCheat_36 ?_
      refine aw_dup2_11 K dX0_partCheat_37 rfl rfl ?_
      refine aw_iald K dX0_partCheat_38 rfl (vp_in_nI hi (by decide)) ?_
      refine aw_sipush (v := (-4097)) K dX0_partCheat_39 (by decide) ?_
      refine aw_iand K dX0_partCheat_42 ?_
      refine aw_iast K dX0_partCheat_43 rfl (vp_in_nI hi (by decide)) ?_
      refine aw_ii1 (v := _ + 1) K dX0_partCheat_44 rfl (by decide) rfl ?_
      refine aw_goto (tgt := 2) K dX0_partCheat_47 (by decide) ?_
      rw [nI_1]
      refine ih (i + 1) _ (by omega) (by omega) (fun j hj => ?_) (fun c c1 c2 => ?_)
      · simp only [rdI, nI_clamp (show i < 2 ^ 31 by omega)]
        simp only [show (35 = 34) = False by decide, false_and, if_false, hz i hi, Int32.zero_and]
        split
        · rfl
        · exact hz j hj
      · simp only [setI, rdR, c1, c2, if_false]
        exact hf c c1 c2
set_option maxHeartbeats 4000000 in
set_option maxRecDepth 100000 in
theorem uX0_partCheat (l : Launch) (g : Geo) (sta : Nat → Nat) (h : HS) (hz : ∀ j, j < 14 → h.1 35 j = 0) : CT (wX l g sta) 1 mX0_partCheat [.ref (g.2.1 5)] h (fun o h' => o = none ∧ (∀ j, j < 14 → h'.1 35 j = 0) ∧ (∀ c, c ≠ 34 → c ≠ 35 → h'.1 c = h.1 c)) := by
  refine CT.at [some (.ref (g.2.1 5)), none] 1 rfl (by decide) (Nat.le_of_ble_eq_true rfl) (fun k K => ?_)
  refine aw_iconst (v := 0) K dX0_partCheat_0 (by decide) ?_
  refine aw_is1 K dX0_partCheat_1 (by decide) rfl ?_
  exact ul_partCheat K h (fun h q q2 => ⟨rfl, q, q2⟩) 15 0 h (by omega) (by omega) hz (fun _ _ _ => rfl)
set_option maxHeartbeats 4000000 in
set_option maxRecDepth 100000 in
theorem uX6_gainBy (l : Launch) (g : Geo) (sta : Nat → Nat) (h : HS) (a b c : Int32) (hz : ∀ j, j < 14 → h.1 35 j = 0) (F : XF h) : CT (wX l g sta) 4 mX6_gainBy [.ref (g.2.1 0), .int a, .int b, .int c] h (DR 0) := by
  refine CT.at [some (.ref (g.2.1 0)), some (.int a), some (.int b), some (.int c), none, none] 2 rfl (by decide) (Nat.le_of_ble_eq_true rfl) (fun k K => ?_)
  refine aw_iconst (v := 0) K dX6_gainBy_0 (by decide) ?_
  refine aw_is4 K dX6_gainBy_1 (by decide) rfl ?_
  refine aw_al0 K dX6_gainBy_3 ?_
  refine aw_getR K gX6_40 dX6_gainBy_4 rfl rfl ?_
  refine aw_callV K (uX0_partCheat l g sta _ hz) rfl (by decide) fX0_partCheat lX6_354 dX6_gainBy_7 rfl clsX0 rfl (Nat.le_of_ble_eq_true rfl) (fun o h2 hq => ?_)
  obtain ⟨rfl, hz2, hf2⟩ := hq
  have hc2 : h2.1 1 5 = 0 := by rw [hf2 1 (by decide) (by decide)]; exact F.1
  refine aw_iconst (v := 0) K dX6_gainBy_10 (by decide) ?_
  refine aw_is5 K dX6_gainBy_11 (by decide) rfl ?_
  refine aw_il5 K dX6_gainBy_13 ?_
  refine aw_al0 K dX6_gainBy_15 ?_
  refine aw_getR K gX6_12 dX6_gainBy_16 rfl rfl ?_
  refine aw_getI K gX6_161 dX6_gainBy_19 rfl rfl ?_
  refine aw_icmp_ge (tgt := 67) K dX6_gainBy_22 (by decide) (fun b22 => ?_) (fun b22 => ?_)
  · refine aw_il3 K dX6_gainBy_67 ?_
    refine aw_al0 K dX6_gainBy_68 ?_
    refine aw_getR K gX6_40 dX6_gainBy_69 rfl rfl ?_
    refine aw_sipush (v := 4096) K dX6_gainBy_72 (by decide) ?_
    refine aw_callV K (uX0_most l g sta _ _ hz2) rfl (by decide) fX0_most lX6_193 dX6_gainBy_75 rfl clsX0 rfl (Nat.le_of_ble_eq_true rfl) (fun o h2 hq => ?_)
    subst hq
    refine aw_imul K dX6_gainBy_78 ?_
    refine aw_il4 K dX6_gainBy_79 ?_
    refine aw_isub K dX6_gainBy_81 ?_
    refine aw_iret K rfl dX6_gainBy_82 ?_
    show some _ = some _
    simp
  · exact absurd (by rw [hc2]; decide) b22

set_option maxHeartbeats 4000000 in
set_option maxRecDepth 100000 in
theorem uX6_gain (l : Launch) (g : Geo) (sta : Nat → Nat) (h : HS) (a b c : Int32) (F : XF h) : CT (wX l g sta) 7 mX6_gain [.ref (g.2.1 0), .int a, .int b, .int c] h (DR (if a = 0 ∧ (1 ≤ b ∧ b ≤ 999) ∧ (0 ≤ c ∧ c ≤ 99) then 0 else -1000000)) := by
  refine CT.at [some (.ref (g.2.1 0)), some (.int a), some (.int b), some (.int c)] 0 rfl (by decide) (Nat.le_of_ble_eq_true rfl) (fun k K => ?_)
  refine aw_al0 K dX6_gain_0 ?_
  refine aw_il1 K dX6_gain_1 ?_
  refine aw_callV_I K (tX6_isHeap l g sta _ _) rfl (by decide) fX6_isHeap lX6_196 dX6_gain_2 rfl clsX6 rfl (Nat.le_of_ble_eq_true rfl) ?_
  rw [xf_hp F]
  refine aw_if_eq (tgt := 27) K dX6_gain_5 (by decide) (fun b5 => ?_) (fun b5 => ?_)
  · refine aw_ldcw K qX6_276 dX6_gain_27 ?_
    refine aw_iret K rfl dX6_gain_30 ?_
    first
      | exact congrArg some (congrArg Value.int (if_neg (fun q => bI_0.mp b13 q.2)).symm)
      | exact congrArg some (congrArg Value.int (if_neg (fun q => bI_0.mp b5 q.1)).symm)
  · have ha := bI_1.mp b5
    refine aw_il2 K dX6_gain_8 ?_
    refine aw_il3 K dX6_gain_9 ?_
    refine aw_callS_I K (tX6_isOffer l g sta _ _ _) rfl (by decide) fX6_isOffer lX6_270 dX6_gain_10 rfl (Nat.le_of_ble_eq_true rfl) ?_
    refine aw_if_eq (tgt := 27) K dX6_gain_13 (by decide) (fun b13 => ?_) (fun b13 => ?_)
    · refine aw_ldcw K qX6_276 dX6_gain_27 ?_
      refine aw_iret K rfl dX6_gain_30 ?_
      first
        | exact congrArg some (congrArg Value.int (if_neg (fun q => bI_0.mp b13 q.2)).symm)
        | exact congrArg some (congrArg Value.int (if_neg (fun q => bI_0.mp b5 q.1)).symm)
    · refine aw_il1 K dX6_gain_16 ?_
      refine aw_al0 K dX6_gain_17 ?_
      refine aw_callV_I K (uX6_sellingNames l g sta _ F) rfl (by decide) fX6_sellingNames lX6_273 dX6_gain_18 rfl clsX6 rfl (Nat.le_of_ble_eq_true rfl) ?_
      refine aw_iconst (v := (-1)) K dX6_gain_21 (by decide) ?_
      refine aw_ixor K dX6_gain_22 ?_
      refine aw_iand K dX6_gain_23 ?_
      refine aw_if_eq (tgt := 31) K dX6_gain_24 (by decide) (fun b24 => ?_) (fun b24 => ?_)
      · refine aw_al0 K dX6_gain_31 ?_
        refine aw_callV_V K (uX6_layFlow l g sta _ F) rfl (by decide) fX6_layFlow lX6_190 dX6_gain_32 rfl clsX6 rfl (Nat.le_of_ble_eq_true rfl) ?_
        refine aw_al0 K dX6_gain_35 ?_
        refine aw_il1 K dX6_gain_36 ?_
        refine aw_al0 K dX6_gain_37 ?_
        refine aw_il2 K dX6_gain_38 ?_
        refine aw_callV_I K (tX6_boughtRoom l g sta _ _) rfl (by decide) fX6_boughtRoom lX6_277 dX6_gain_39 rfl clsX6 rfl (Nat.le_of_ble_eq_true rfl) ?_
        refine aw_il3 K dX6_gain_42 ?_
        refine aw_callV K (uX6_gainBy l g sta _ _ _ _ (fun j hj => lf_ways h j hj) (xf_LF F)) rfl (by decide) fX6_gainBy lX6_280 dX6_gain_43 rfl clsX6 rfl (Nat.le_of_ble_eq_true rfl) (fun o h2 hq => ?_)
        subst hq
        refine aw_iret K rfl dX6_gain_46 ?_
        exact congrArg some (congrArg Value.int (if_pos ⟨ha, bI_1.mp b13⟩).symm)
      · rw [ha] at b24
        exact absurd (by decide) b24

set_option maxHeartbeats 4000000 in
set_option maxRecDepth 100000 in
theorem uX6_best (l : Launch) (g : Geo) (sta : Nat → Nat) (h : HS) (a b c : Int32) (F : XF h) : CT (wX l g sta) 7 mX6_best [.ref (g.2.1 0), .int a, .int b, .int c] h (DR (if ((1 ≤ a ∧ a ≤ 999) ∧ (0 ≤ b ∧ b ≤ 99)) ∧ (0 ≤ c ∧ c ≤ 1) then 0 else -1)) := by
  refine CT.at [some (.ref (g.2.1 0)), some (.int a), some (.int b), some (.int c), none, none, none, none, none, none] 6 rfl (by decide) (Nat.le_of_ble_eq_true rfl) (fun k K => ?_)
  refine aw_il1 K dX6_best_0 ?_
  refine aw_il2 K dX6_best_1 ?_
  refine aw_callS_I K (tX6_isOffer l g sta _ _ _) rfl (by decide) fX6_isOffer lX6_270 dX6_best_2 rfl (Nat.le_of_ble_eq_true rfl) ?_
  refine aw_if_eq (tgt := 17) K dX6_best_5 (by decide) (fun b5 => ?_) (fun b5 => ?_)
  · refine aw_iconst (v := (-1)) K dX6_best_17 (by decide) ?_
    refine aw_iret K rfl dX6_best_18 ?_
    first
      | exact congrArg some (congrArg Value.int (if_neg (fun q => bI_0.mp b14 q.2)).symm)
      | exact congrArg some (congrArg Value.int (if_neg (fun q => bI_0.mp b5 q.1)).symm)
  · refine aw_il3 K dX6_best_8 ?_
    refine aw_iconst (v := 0) K dX6_best_9 (by decide) ?_
    refine aw_iconst (v := 1) K dX6_best_10 (by decide) ?_
    refine aw_callS_I K (tX6_within l g sta _ _ _ _) rfl (by decide) fX6_within lX6_76 dX6_best_11 rfl (Nat.le_of_ble_eq_true rfl) ?_
    refine aw_if_ne (tgt := 19) K dX6_best_14 (by decide) (fun b14 => ?_) (fun b14 => ?_)
    · refine aw_al0 K dX6_best_19 ?_
      refine aw_callV_I K (uX6_sellingNames l g sta _ F) rfl (by decide) fX6_sellingNames lX6_273 dX6_best_20 rfl clsX6 rfl (Nat.le_of_ble_eq_true rfl) ?_
      refine aw_is4 K dX6_best_23 (by decide) rfl ?_
      refine aw_il4 K dX6_best_25 ?_
      refine aw_callS_I K (uJ6_bitCount l g sta _) rfl (by decide) fJ6_bitCount_0f7a4 lX6_171 dX6_best_27 rfl (Nat.le_of_ble_eq_true rfl) ?_
      refine aw_bipush (v := 8) K dX6_best_30 (by decide) ?_
      refine aw_icmp_le (tgt := 38) K dX6_best_32 (by decide) (fun b32 => ?_) (fun b32 => ?_)
      · refine aw_al0 K dX6_best_38 ?_
        refine aw_callV_V K (uX6_layFlow l g sta _ F) rfl (by decide) fX6_layFlow lX6_190 dX6_best_39 rfl clsX6 rfl (Nat.le_of_ble_eq_true rfl) ?_
        refine aw_al0 K dX6_best_42 ?_
        refine aw_il1 K dX6_best_43 ?_
        refine aw_callV_I K (tX6_boughtRoom l g sta _ _) rfl (by decide) fX6_boughtRoom lX6_277 dX6_best_44 rfl clsX6 rfl (Nat.le_of_ble_eq_true rfl) ?_
        refine aw_is5 K dX6_best_47 (by decide) rfl ?_
        refine aw_iconst (v := 0) K dX6_best_49 (by decide) ?_
        refine aw_is6 K dX6_best_50 (by decide) rfl ?_
        refine aw_iconst (v := 0) K dX6_best_52 (by decide) ?_
        refine aw_is7 K dX6_best_53 (by decide) rfl ?_
        refine aw_iconst (v := 1) K dX6_best_55 (by decide) ?_
        refine aw_is8 K dX6_best_56 (by decide) rfl ?_
        refine aw_il8 K dX6_best_58 ?_
        refine aw_iconst (v := 1) K dX6_best_60 (by decide) ?_
        refine aw_al0 K dX6_best_61 ?_
        refine aw_getR K gX6_12 dX6_best_62 rfl rfl ?_
        refine aw_getI K gX6_161 dX6_best_65 rfl rfl ?_
        refine aw_ishl K dX6_best_68 ?_
        rw [(xf_LF F).1, show (1 : Int32) <<< ((0 : Int32) &&& 31) = 1 from by decide]
        refine aw_icmp_ge (tgt := 118) K dX6_best_69 (by decide) (fun b69 => ?_) (fun b69 => ?_)
        · refine aw_il3 K dX6_best_118 ?_
          refine aw_if_ne (tgt := 127) K dX6_best_119 (by decide) (fun b119 => ?_) (fun b119 => ?_)
          · refine aw_il7 K dX6_best_127 ?_
            refine aw_iret K rfl dX6_best_129 ?_
            exact congrArg some (congrArg Value.int (if_pos ⟨bI_1.mp b5, bI_1.mp b14⟩).symm)
          · refine aw_il6 K dX6_best_122 ?_
            refine aw_goto (tgt := 129) K dX6_best_124 (by decide) ?_
            refine aw_iret K rfl dX6_best_129 ?_
            exact congrArg some (congrArg Value.int (if_pos ⟨bI_1.mp b5, bI_1.mp b14⟩).symm)
        · exact absurd (by decide) b69
      · exact absurd (by decide) b32
    · refine aw_iconst (v := (-1)) K dX6_best_17 (by decide) ?_
      refine aw_iret K rfl dX6_best_18 ?_
      first
        | exact congrArg some (congrArg Value.int (if_neg (fun q => bI_0.mp b14 q.2)).symm)
        | exact congrArg some (congrArg Value.int (if_neg (fun q => bI_0.mp b5 q.1)).symm)

theorem sh_lay : ∀ j, j < 4 → layX[7 + j]? = some (5, 0, [7 + j + 33 + 2, 0, 0]) ∧ layX[7 + j + 33]? = some (0, 48, []) ∧ ([7, 8, 9, 10] : List Nat)[j]? = some (7 + j) := by decide
theorem xf_sh {h : HS} (F : XF h) : ∀ j, j < 4 → h.1 (7 + j) 2 = -1 := by
  intro j hj
  match j, hj with
  | 0, _ => exact F.2.2.2.2.2.2.2.2.1
  | 1, _ => exact F.2.2.2.2.2.2.2.2.2.1
  | 2, _ => exact F.2.2.2.2.2.2.2.2.2.2.1
  | 3, _ => exact F.2.2.2.2.2.2.2.2.2.2.2
set_option maxHeartbeats 4000000 in
set_option maxRecDepth 100000 in
theorem tX2_renewRow (l : Launch) (g : Geo) (sta : Nat → Nat) (h : HS) (c : Nat) (a b : Int32) (hc : layX[c]? = some (5, 0, [c + 33 + 2, 0, 0])) (hc2 : layX[c + 33]? = some (0, 48, [])) : CT (wX l g sta) 2 mX2_renewRow [.ref (g.2.1 c), .int a, .int b] h (DV (setI (setI (setR h (c + 33) (fil (h.1 (c + 33)) 48 0)) c 1 a) c 2 b)) := by
  refine CT.at [some (.ref (g.2.1 c)), some (.int a), some (.int b)] 0 rfl (by decide) (Nat.le_of_ble_eq_true rfl) (fun k K => ?_)
  refine aw_al0 K dX2_renewRow_0 ?_
  refine aw_getR K gX2_11 dX2_renewRow_1 hc rfl ?_
  refine aw_iconst (v := 0) K dX2_renewRow_4 (by decide) ?_
  refine aw_callS_V K (tJ7_fill_53178 l g sta _ (c + 33) 48 [] 0 hc2 (by decide)) rfl (by decide) fJ7_fill_53178 lX2_19 dX2_renewRow_5 rfl (Nat.le_of_ble_eq_true rfl) ?_
  refine aw_al0 K dX2_renewRow_8 ?_
  refine aw_il1 K dX2_renewRow_9 ?_
  refine aw_putI K gX2_25 fpX2_1 dX2_renewRow_10 hc rfl ?_
  refine aw_al0 K dX2_renewRow_13 ?_
  refine aw_il2 K dX2_renewRow_14 ?_
  refine aw_putI K gX2_15 fpX2_2 dX2_renewRow_15 hc rfl ?_
  refine aw_vret K rfl dX2_renewRow_18 ?_
  exact ⟨rfl, rfl⟩

set_option maxHeartbeats 4000000 in
set_option maxRecDepth 100000 in
theorem uX6_sheet (l : Launch) (g : Geo) (sta : Nat → Nat) (h : HS) (a b c : Int32) (F : XF h) : CT (wX l g sta) 7 mX6_sheet [.ref (g.2.1 0), .int a, .int b, .int c] h (DR (if (0 ≤ a ∧ a ≤ 3) ∧ (0 ≤ b ∧ b ≤ 2) ∧ c ≤ 48 then (if c < 0 then -14 else 1) else -1)) := by
  refine CT.at [some (.ref (g.2.1 0)), some (.int a), some (.int b), some (.int c)] 0 rfl (by decide) (Nat.le_of_ble_eq_true rfl) (fun k K => ?_)
  refine aw_il1 K dX6_sheet_0 ?_
  refine aw_callS_I K (tX6_isSheet l g sta _ _) rfl (by decide) fX6_isSheet lX6_284 dX6_sheet_1 rfl (Nat.le_of_ble_eq_true rfl) ?_
  refine aw_if_eq (tgt := 20) K dX6_sheet_4 (by decide) (fun b4 => ?_) (fun b4 => ?_)
  · refine aw_iconst (v := (-1)) K dX6_sheet_20 (by decide) ?_
    refine aw_iret K rfl dX6_sheet_21 ?_
    first
      | exact congrArg some (congrArg Value.int (if_neg (fun q => b17 q.2.2)).symm)
      | exact congrArg some (congrArg Value.int (if_neg (fun q => bI_0.mp b11 q.2.1)).symm)
      | exact congrArg some (congrArg Value.int (if_neg (fun q => bI_0.mp b4 q.1)).symm)
  · refine aw_il2 K dX6_sheet_7 ?_
    refine aw_callS_I K (tX6_isLane l g sta _ _) rfl (by decide) fX6_isLane lX6_287 dX6_sheet_8 rfl (Nat.le_of_ble_eq_true rfl) ?_
    refine aw_if_eq (tgt := 20) K dX6_sheet_11 (by decide) (fun b11 => ?_) (fun b11 => ?_)
    · refine aw_iconst (v := (-1)) K dX6_sheet_20 (by decide) ?_
      refine aw_iret K rfl dX6_sheet_21 ?_
      first
        | exact congrArg some (congrArg Value.int (if_neg (fun q => b17 q.2.2)).symm)
        | exact congrArg some (congrArg Value.int (if_neg (fun q => bI_0.mp b11 q.2.1)).symm)
        | exact congrArg some (congrArg Value.int (if_neg (fun q => bI_0.mp b4 q.1)).symm)
    · refine aw_il3 K dX6_sheet_14 ?_
      refine aw_bipush (v := 48) K dX6_sheet_15 (by decide) ?_
      refine aw_icmp_le (tgt := 22) K dX6_sheet_17 (by decide) (fun b17 => ?_) (fun b17 => ?_)
      · refine aw_il3 K dX6_sheet_22 ?_
        refine aw_if_ge (tgt := 29) K dX6_sheet_23 (by decide) (fun b23 => ?_) (fun b23 => ?_)
        · obtain ⟨j, hj, rfl⟩ := sh_in (bI_1.mp b4)
          obtain ⟨hl1, hl2, hl3⟩ := sh_lay j hj
          refine aw_al0 K dX6_sheet_29 ?_
          refine aw_getR K gX6_46 dX6_sheet_30 rfl rfl ?_
          refine aw_il1 K dX6_sheet_33 ?_
          refine aw_aald K dX6_sheet_34 rfl (vp_in_nI hj (by decide)) (by rw [nI_clamp (by omega)]; exact hl3) ?_
          refine aw_il2 K dX6_sheet_35 ?_
          refine aw_il3 K dX6_sheet_36 ?_
          refine aw_callV_V K (tX2_renewRow l g sta _ (7 + j) _ _ hl1 hl2) rfl (by decide) fX2_renewRow lX6_290 dX6_sheet_37 hl1 clsX2 rfl (Nat.le_of_ble_eq_true rfl) ?_
          refine aw_iconst (v := 1) K dX6_sheet_40 (by decide) ?_
          refine aw_iret K rfl dX6_sheet_41 ?_
          exact congrArg some (congrArg Value.int (Eq.symm ((if_pos ⟨bI_1.mp b4, bI_1.mp b11, b17⟩).trans (if_neg (Int32.not_lt.mpr b23)))))
        · refine aw_bipush (v := (-14)) K dX6_sheet_26 (by decide) ?_
          refine aw_iret K rfl dX6_sheet_28 ?_
          exact congrArg some (congrArg Value.int (Eq.symm ((if_pos ⟨bI_1.mp b4, bI_1.mp b11, b17⟩).trans (if_pos (not_le32 b23)))))
      · refine aw_iconst (v := (-1)) K dX6_sheet_20 (by decide) ?_
        refine aw_iret K rfl dX6_sheet_21 ?_
        first
          | exact congrArg some (congrArg Value.int (if_neg (fun q => b17 q.2.2)).symm)
          | exact congrArg some (congrArg Value.int (if_neg (fun q => bI_0.mp b11 q.2.1)).symm)
          | exact congrArg some (congrArg Value.int (if_neg (fun q => bI_0.mp b4 q.1)).symm)

set_option maxHeartbeats 4000000 in
set_option maxRecDepth 100000 in
theorem uX2_faultAt (l : Launch) (g : Geo) (sta : Nat → Nat) (h : HS) (c : Nat) (a : Int32) (hc : layX[c]? = some (5, 0, [c + 33 + 2, 0, 0])) (h1 : h.1 c 2 = -1) (F : XF h) : CT (wX l g sta) 3 mX2_faultAt [.ref (g.2.1 c), .int a] h (DI 1 h) := by
  refine CT.at [some (.ref (g.2.1 c)), some (.int a)] 0 rfl (by decide) (Nat.le_of_ble_eq_true rfl) (fun k K => ?_)
  refine aw_al0 K dX2_faultAt_0 ?_
  refine aw_callV_I K (tX2_isNothing l g sta _ c hc) rfl (by decide) fX2_isNothing lX2_28 dX2_faultAt_1 hc clsX2 rfl (Nat.le_of_ble_eq_true rfl) ?_
  refine aw_if_eq (tgt := 9) K dX2_faultAt_4 (by decide) (fun b4 => ?_) (fun b4 => ?_)
  · exact absurd h1 (bI_0.mp b4)
  · refine aw_iconst (v := 1) K dX2_faultAt_7 (by decide) ?_
    refine aw_iret K rfl dX2_faultAt_8 ?_
    exact ⟨rfl, rfl⟩

set_option maxHeartbeats 4000000 in
set_option maxRecDepth 100000 in
theorem uX6_lay (l : Launch) (g : Geo) (sta : Nat → Nat) (h : HS) (a b c : Int32) (F : XF h) : CT (wX l g sta) 7 mX6_lay [.ref (g.2.1 0), .int a, .int b, .int c] h (DR (if 0 ≤ a ∧ a ≤ 3 then -11 else -1)) := by
  refine CT.at [some (.ref (g.2.1 0)), some (.int a), some (.int b), some (.int c), none] 1 rfl (by decide) (Nat.le_of_ble_eq_true rfl) (fun k K => ?_)
  refine aw_il1 K dX6_lay_0 ?_
  refine aw_callS_I K (tX6_isSheet l g sta _ _) rfl (by decide) fX6_isSheet lX6_284 dX6_lay_1 rfl (Nat.le_of_ble_eq_true rfl) ?_
  refine aw_if_ne (tgt := 9) K dX6_lay_4 (by decide) (fun b4 => ?_) (fun b4 => ?_)
  · obtain ⟨j, hj, rfl⟩ := sh_in (bI_1.mp b4)
    obtain ⟨hl1, hl2, hl3⟩ := sh_lay j hj
    refine aw_al0 K dX6_lay_9 ?_
    refine aw_getR K gX6_46 dX6_lay_10 rfl rfl ?_
    refine aw_il1 K dX6_lay_13 ?_
    refine aw_aald K dX6_lay_14 rfl (vp_in_nI hj (by decide)) (by rw [nI_clamp (by omega)]; exact hl3) ?_
    refine aw_il2 K dX6_lay_15 ?_
    refine aw_callV_I K (uX2_faultAt l g sta _ (7 + j) _ hl1 (xf_sh F j hj) F) rfl (by decide) fX2_faultAt lX6_294 dX6_lay_16 hl1 clsX2 rfl (Nat.le_of_ble_eq_true rfl) ?_
    refine aw_is4 K dX6_lay_19 (by decide) rfl ?_
    refine aw_il4 K dX6_lay_21 ?_
    refine aw_if_eq (tgt := 32) K dX6_lay_23 (by decide) (fun b23 => ?_) (fun b23 => ?_)
    · exact absurd b23 (by decide)
    · refine aw_bipush (v := (-10)) K dX6_lay_26 (by decide) ?_
      refine aw_il4 K dX6_lay_28 ?_
      refine aw_isub K dX6_lay_30 ?_
      refine aw_iret K rfl dX6_lay_31 ?_
      exact congrArg some (congrArg Value.int (if_pos (bI_1.mp b4)).symm)
  · refine aw_iconst (v := (-1)) K dX6_lay_7 (by decide) ?_
    refine aw_iret K rfl dX6_lay_8 ?_
    exact congrArg some (congrArg Value.int (if_neg (bI_0.mp b4)).symm)

set_option maxHeartbeats 4000000 in
set_option maxRecDepth 100000 in
theorem uX2_wholeWords (l : Launch) (g : Geo) (sta : Nat → Nat) (h : HS) (c : Nat) (a b e : Int32) (hc : layX[c]? = some (5, 0, [c + 33 + 2, 0, 0])) (h1 : h.1 c 2 = -1) (F : XF h) : CT (wX l g sta) 3 mX2_wholeWords [.ref (g.2.1 c), .int a, .int b, .int e] h (DI 0 h) := by
  refine CT.at [some (.ref (g.2.1 c)), some (.int a), some (.int b), some (.int e)] 0 rfl (by decide) (Nat.le_of_ble_eq_true rfl) (fun k K => ?_)
  refine aw_al0 K dX2_wholeWords_0 ?_
  refine aw_callV_I K (tX2_isNothing l g sta _ c hc) rfl (by decide) fX2_isNothing lX2_28 dX2_wholeWords_1 hc clsX2 rfl (Nat.le_of_ble_eq_true rfl) ?_
  refine aw_if_ne (tgt := 27) K dX2_wholeWords_4 (by decide) (fun b4 => ?_) (fun b4 => ?_)
  · refine aw_iconst (v := 0) K dX2_wholeWords_27 (by decide) ?_
    refine aw_iret K rfl dX2_wholeWords_28 ?_
    exact ⟨rfl, rfl⟩
  · exact absurd h1 (bI_0.mp b4)

set_option maxHeartbeats 4000000 in
set_option maxRecDepth 100000 in
theorem uX2_faultOfReading (l : Launch) (g : Geo) (sta : Nat → Nat) (h : HS) (c : Nat) (a b e : Int32) (hc : layX[c]? = some (5, 0, [c + 33 + 2, 0, 0])) (h1 : h.1 c 2 = -1) (F : XF h) : CT (wX l g sta) 3 mX2_faultOfReading [.ref (g.2.1 c), .int a, .int b, .int e] h (DI (if e = b then 0 else 1) h) := by
  refine CT.at [some (.ref (g.2.1 c)), some (.int a), some (.int b), some (.int e)] 0 rfl (by decide) (Nat.le_of_ble_eq_true rfl) (fun k K => ?_)
  refine aw_il3 K dX2_faultOfReading_0 ?_
  refine aw_il2 K dX2_faultOfReading_1 ?_
  refine aw_icmp_ne (tgt := 7) K dX2_faultOfReading_2 (by decide) (fun b2 => ?_) (fun b2 => ?_)
  · refine aw_al0 K dX2_faultOfReading_7 ?_
    refine aw_callV_I K (tX2_isNothing l g sta _ c hc) rfl (by decide) fX2_isNothing lX2_28 dX2_faultOfReading_8 hc clsX2 rfl (Nat.le_of_ble_eq_true rfl) ?_
    refine aw_if_eq (tgt := 16) K dX2_faultOfReading_11 (by decide) (fun b11 => ?_) (fun b11 => ?_)
    · exact absurd h1 (bI_0.mp b11)
    · refine aw_iconst (v := 1) K dX2_faultOfReading_14 (by decide) ?_
      refine aw_iret K rfl dX2_faultOfReading_15 ?_
      exact ⟨congrArg some (congrArg Value.int (if_neg b2).symm), rfl⟩
  · refine aw_iconst (v := 0) K dX2_faultOfReading_5 (by decide) ?_
    refine aw_iret K rfl dX2_faultOfReading_6 ?_
    exact ⟨congrArg some (congrArg Value.int (if_pos b2).symm), rfl⟩

set_option maxHeartbeats 4000000 in
set_option maxRecDepth 100000 in
theorem uX6_read (l : Launch) (g : Geo) (sta : Nat → Nat) (h : HS) (a b c e : Int32) (F : XF h) : CT (wX l g sta) 7 mX6_read [.ref (g.2.1 0), .int a, .int b, .int c, .int e] h (DR (if (0 ≤ a ∧ a ≤ 3) ∧ (0 ≤ b ∧ b ≤ 2) ∧ (0 ≤ e ∧ e ≤ 12) then 0 else -1)) := by
  refine CT.at [some (.ref (g.2.1 0)), some (.int a), some (.int b), some (.int c), some (.int e), none, none, none, none, none] 5 rfl (by decide) (Nat.le_of_ble_eq_true rfl) (fun k K => ?_)
  refine aw_il1 K dX6_read_0 ?_
  refine aw_callS_I K (tX6_isSheet l g sta _ _) rfl (by decide) fX6_isSheet lX6_284 dX6_read_1 rfl (Nat.le_of_ble_eq_true rfl) ?_
  refine aw_if_eq (tgt := 25) K dX6_read_4 (by decide) (fun b4 => ?_) (fun b4 => ?_)
  · refine aw_iconst (v := (-1)) K dX6_read_25 (by decide) ?_
    refine aw_iret K rfl dX6_read_26 ?_
    first
      | exact congrArg some (congrArg Value.int (if_neg (fun q => bI_0.mp b22 q.2.2)).symm)
      | exact congrArg some (congrArg Value.int (if_neg (fun q => bI_0.mp b11 q.2.1)).symm)
      | exact congrArg some (congrArg Value.int (if_neg (fun q => bI_0.mp b4 q.1)).symm)
  · refine aw_il2 K dX6_read_7 ?_
    refine aw_callS_I K (tX6_isLane l g sta _ _) rfl (by decide) fX6_isLane lX6_287 dX6_read_8 rfl (Nat.le_of_ble_eq_true rfl) ?_
    refine aw_if_eq (tgt := 25) K dX6_read_11 (by decide) (fun b11 => ?_) (fun b11 => ?_)
    · refine aw_iconst (v := (-1)) K dX6_read_25 (by decide) ?_
      refine aw_iret K rfl dX6_read_26 ?_
      first
        | exact congrArg some (congrArg Value.int (if_neg (fun q => bI_0.mp b22 q.2.2)).symm)
        | exact congrArg some (congrArg Value.int (if_neg (fun q => bI_0.mp b11 q.2.1)).symm)
        | exact congrArg some (congrArg Value.int (if_neg (fun q => bI_0.mp b4 q.1)).symm)
    · refine aw_il4 K dX6_read_14 ?_
      refine aw_iconst (v := 0) K dX6_read_16 (by decide) ?_
      refine aw_bipush (v := 12) K dX6_read_17 (by decide) ?_
      refine aw_callS_I K (tX6_within l g sta _ _ _ _) rfl (by decide) fX6_within lX6_76 dX6_read_19 rfl (Nat.le_of_ble_eq_true rfl) ?_
      refine aw_if_ne (tgt := 27) K dX6_read_22 (by decide) (fun b22 => ?_) (fun b22 => ?_)
      · obtain ⟨j, hj, rfl⟩ := sh_in (bI_1.mp b4)
        obtain ⟨hl1, hl2, hl3⟩ := sh_lay j hj
        refine aw_al0 K dX6_read_27 ?_
        refine aw_getR K gX6_46 dX6_read_28 rfl rfl ?_
        refine aw_il1 K dX6_read_31 ?_
        refine aw_aald K dX6_read_32 rfl (vp_in_nI hj (by decide)) (by rw [nI_clamp (by omega)]; exact hl3) ?_
        refine aw_as5 K dX6_read_33 (by decide) rfl ?_
        refine aw_al5 K dX6_read_35 ?_
        refine aw_il2 K dX6_read_37 ?_
        refine aw_il3 K dX6_read_38 ?_
        refine aw_il4 K dX6_read_39 ?_
        refine aw_callV_I K (uX2_wholeWords l g sta _ (7 + j) _ _ _ hl1 (xf_sh F j hj) F) rfl (by decide) fX2_wholeWords lX6_300 dX6_read_41 hl1 clsX2 rfl (Nat.le_of_ble_eq_true rfl) ?_
        refine aw_is6 K dX6_read_44 (by decide) rfl ?_
        refine aw_iconst (v := 0) K dX6_read_46 (by decide) ?_
        refine aw_is7 K dX6_read_47 (by decide) rfl ?_
        refine aw_il7 K dX6_read_49 ?_
        refine aw_il6 K dX6_read_51 ?_
        refine aw_icmp_ge (tgt := 139) K dX6_read_53 (by decide) (fun b53 => ?_) (fun b53 => ?_)
        · refine aw_iconst (v := 0) K dX6_read_139 (by decide) ?_
          refine aw_is7 K dX6_read_140 (by decide) rfl ?_
          refine aw_il7 K dX6_read_142 ?_
          refine aw_il6 K dX6_read_144 ?_
          refine aw_icmp_ge (tgt := 213) K dX6_read_146 (by decide) (fun b146 => ?_) (fun b146 => ?_)
          · refine aw_al0 K dX6_read_213 ?_
            refine aw_al5 K dX6_read_214 ?_
            refine aw_il2 K dX6_read_216 ?_
            refine aw_il4 K dX6_read_217 ?_
            refine aw_il6 K dX6_read_219 ?_
            refine aw_callV_I K (uX2_faultOfReading l g sta _ (7 + j) _ _ _ hl1 (xf_sh F j hj) F) rfl (by decide) fX2_faultOfReading lX6_306 dX6_read_221 hl1 clsX2 rfl (Nat.le_of_ble_eq_true rfl) ?_
            refine aw_putI K gX6_309 fpX6_12 dX6_read_224 rfl rfl ?_
            refine aw_il6 K dX6_read_227 ?_
            refine aw_iret K rfl dX6_read_229 ?_
            exact congrArg some (congrArg Value.int (Eq.symm (if_pos ⟨bI_1.mp b4, bI_1.mp b11, bI_1.mp b22⟩)))
          · exact absurd (by decide) b146
        · exact absurd (by decide) b53
      · refine aw_iconst (v := (-1)) K dX6_read_25 (by decide) ?_
        refine aw_iret K rfl dX6_read_26 ?_
        first
          | exact congrArg some (congrArg Value.int (if_neg (fun q => bI_0.mp b22 q.2.2)).symm)
          | exact congrArg some (congrArg Value.int (if_neg (fun q => bI_0.mp b11 q.2.1)).symm)
          | exact congrArg some (congrArg Value.int (if_neg (fun q => bI_0.mp b4 q.1)).symm)

set_option maxHeartbeats 4000000 in
set_option maxRecDepth 100000 in
theorem uX6_countTrue (l : Launch) (g : Geo) (sta : Nat → Nat) (h : HS) (c : Nat) (F : XF h) : CT (wX l g sta) 2 mX6_countTrue [.ref (g.2.1 0), .ref (g.2.1 c)] h (DI 0 h) := by
  refine CT.at [some (.ref (g.2.1 0)), some (.ref (g.2.1 c)), none, none] 2 rfl (by decide) (Nat.le_of_ble_eq_true rfl) (fun k K => ?_)
  refine aw_iconst (v := 0) K dX6_countTrue_0 (by decide) ?_
  refine aw_is2 K dX6_countTrue_1 (by decide) rfl ?_
  refine aw_iconst (v := 0) K dX6_countTrue_2 (by decide) ?_
  refine aw_is3 K dX6_countTrue_3 (by decide) rfl ?_
  refine aw_il3 K dX6_countTrue_4 ?_
  refine aw_al0 K dX6_countTrue_5 ?_
  refine aw_getR K gX6_12 dX6_countTrue_6 rfl rfl ?_
  refine aw_getI K gX6_161 dX6_countTrue_9 rfl rfl ?_
  refine aw_icmp_ge (tgt := 30) K dX6_countTrue_12 (by decide) (fun b12 => ?_) (fun b12 => ?_)
  · refine aw_il2 K dX6_countTrue_30 ?_
    refine aw_iret K rfl dX6_countTrue_31 ?_
    exact ⟨rfl, rfl⟩
  · exact absurd (by rw [F.1]; decide) b12

set_option maxHeartbeats 4000000 in
set_option maxRecDepth 100000 in
theorem uX6_countFined (l : Launch) (g : Geo) (sta : Nat → Nat) (h : HS) (F : XF h) : CT (wX l g sta) 2 mX6_countFined [.ref (g.2.1 0)] h (DI 0 h) := by
  refine CT.at [some (.ref (g.2.1 0)), none, none] 2 rfl (by decide) (Nat.le_of_ble_eq_true rfl) (fun k K => ?_)
  refine aw_iconst (v := 0) K dX6_countFined_0 (by decide) ?_
  refine aw_is1 K dX6_countFined_1 (by decide) rfl ?_
  refine aw_iconst (v := 0) K dX6_countFined_2 (by decide) ?_
  refine aw_is2 K dX6_countFined_3 (by decide) rfl ?_
  refine aw_il2 K dX6_countFined_4 ?_
  refine aw_al0 K dX6_countFined_5 ?_
  refine aw_getR K gX6_12 dX6_countFined_6 rfl rfl ?_
  refine aw_getI K gX6_161 dX6_countFined_9 rfl rfl ?_
  refine aw_icmp_ge (tgt := 32) K dX6_countFined_12 (by decide) (fun b12 => ?_) (fun b12 => ?_)
  · refine aw_il1 K dX6_countFined_32 ?_
    refine aw_iret K rfl dX6_countFined_33 ?_
    exact ⟨rfl, rfl⟩
  · exact absurd (by rw [F.1]; decide) b12

set_option maxHeartbeats 4000000 in
set_option maxRecDepth 100000 in
theorem uX6_openTies (l : Launch) (g : Geo) (sta : Nat → Nat) (h : HS) (a : Int32) (F : XF h) : CT (wX l g sta) 2 mX6_openTies [.ref (g.2.1 0), .int a] h (DI 0 h) := by
  refine CT.at [some (.ref (g.2.1 0)), some (.int a), none, none, none] 3 rfl (by decide) (Nat.le_of_ble_eq_true rfl) (fun k K => ?_)
  refine aw_iconst (v := 0) K dX6_openTies_0 (by decide) ?_
  refine aw_is2 K dX6_openTies_1 (by decide) rfl ?_
  refine aw_iconst (v := 0) K dX6_openTies_2 (by decide) ?_
  refine aw_is3 K dX6_openTies_3 (by decide) rfl ?_
  refine aw_il3 K dX6_openTies_4 ?_
  refine aw_al0 K dX6_openTies_5 ?_
  refine aw_getR K gX6_19 dX6_openTies_6 rfl rfl ?_
  refine aw_getI K gX6_109 dX6_openTies_9 rfl rfl ?_
  refine aw_icmp_ge (tgt := 84) K dX6_openTies_12 (by decide) (fun b12 => ?_) (fun b12 => ?_)
  · refine aw_il2 K dX6_openTies_84 ?_
    refine aw_iret K rfl dX6_openTies_85 ?_
    exact ⟨rfl, rfl⟩
  · exact absurd (by rw [F.2.1]; decide) b12

set_option maxHeartbeats 4000000 in
set_option maxRecDepth 100000 in
theorem uX5_countingOnes (l : Launch) (g : Geo) (sta : Nat → Nat) (h : HS) (F : XF h) : CT (wX l g sta) 2 mX5_countingOnes [.ref (g.2.1 3)] h (DI 0 h) := by
  refine CT.at [some (.ref (g.2.1 3)), none, none] 2 rfl (by decide) (Nat.le_of_ble_eq_true rfl) (fun k K => ?_)
  refine aw_iconst (v := 0) K dX5_countingOnes_0 (by decide) ?_
  refine aw_is1 K dX5_countingOnes_1 (by decide) rfl ?_
  refine aw_iconst (v := 0) K dX5_countingOnes_2 (by decide) ?_
  refine aw_is2 K dX5_countingOnes_3 (by decide) rfl ?_
  refine aw_il2 K dX5_countingOnes_4 ?_
  refine aw_al0 K dX5_countingOnes_5 ?_
  refine aw_getI K gX5_34 dX5_countingOnes_6 rfl rfl ?_
  refine aw_icmp_ge (tgt := 29) K dX5_countingOnes_9 (by decide) (fun b9 => ?_) (fun b9 => ?_)
  · refine aw_il1 K dX5_countingOnes_29 ?_
    refine aw_iret K rfl dX5_countingOnes_30 ?_
    exact ⟨rfl, rfl⟩
  · exact absurd (by rw [F.2.2.1]; decide) b9

def cnR (a : Int32) : Int32 := if a.toInt = 10 then -4 else if a.toInt < 0 ∨ 10 < a.toInt then -1 else 0
theorem cn_z {a : Int32} {v : Int} (h : a.toInt = v) (h1 : 0 ≤ v) (h2 : v < 10) : cnR a = 0 := by
  unfold cnR
  rw [if_neg (by omega), if_neg (by omega)]
theorem cn_n {a : Int32} (h : a.toInt = 10) : cnR a = -4 := by
  unfold cnR
  rw [if_pos h]
theorem cn_d {a : Int32} (h : a.toInt < 0 ∨ 10 < a.toInt) : cnR a = -1 := by
  unfold cnR
  rw [if_neg (by omega), if_pos h]
set_option maxHeartbeats 4000000 in
set_option maxRecDepth 100000 in
theorem uX6_count (l : Launch) (g : Geo) (sta : Nat → Nat) (h : HS) (a : Int32) (F : XF h) : CT (wX l g sta) 7 mX6_count [.ref (g.2.1 0), .int a] h (DR (cnR a)) := by
  refine CT.at [some (.ref (g.2.1 0)), some (.int a)] 0 rfl (by decide) (Nat.le_of_ble_eq_true rfl) (fun k K => ?_)
  refine aw_il1 K dX6_count_0 ?_
  refine aw_tsw (tgt := 169) K dX6_count_1 (by decide) (by decide) (by decide) ⟨fun s0 => ?_, fun s1 => ?_, fun s2 => ?_, fun s3 => ?_, fun s4 => ?_, fun s5 => ?_, fun s6 => ?_, fun s7 => ?_, fun s8 => ?_, fun s9 => ?_, fun s10 => ?_, trivial⟩ (fun sd => ?_)
  · show AW _ _ _ _ _ 60 _ _ _
    refine aw_al0 K dX6_count_60 ?_
    refine aw_getR K gX6_12 dX6_count_61 rfl rfl ?_
    refine aw_getI K gX6_161 dX6_count_64 rfl rfl ?_
    refine aw_iret K rfl dX6_count_67 ?_
    show some _ = some _
    rw [F.1, cn_z s0 (by decide) (by decide)]
  · show AW _ _ _ _ _ 68 _ _ _
    refine aw_al0 K dX6_count_68 ?_
    refine aw_al0 K dX6_count_69 ?_
    refine aw_getR K gX6_12 dX6_count_70 rfl rfl ?_
    refine aw_getR K gX6_88 dX6_count_73 rfl rfl ?_
    refine aw_callV_I K (uX6_countTrue l g sta _ 17 F) rfl (by decide) fX6_countTrue lX6_312 dX6_count_76 rfl clsX6 rfl (Nat.le_of_ble_eq_true rfl) ?_
    refine aw_iret K rfl dX6_count_79 ?_
    show some _ = some _
    rw [cn_z s1 (by decide) (by decide)]
  · show AW _ _ _ _ _ 80 _ _ _
    refine aw_al0 K dX6_count_80 ?_
    refine aw_al0 K dX6_count_81 ?_
    refine aw_getR K gX6_12 dX6_count_82 rfl rfl ?_
    refine aw_getR K gX6_96 dX6_count_85 rfl rfl ?_
    refine aw_callV_I K (uX6_countTrue l g sta _ 18 F) rfl (by decide) fX6_countTrue lX6_312 dX6_count_88 rfl clsX6 rfl (Nat.le_of_ble_eq_true rfl) ?_
    refine aw_iret K rfl dX6_count_91 ?_
    show some _ = some _
    rw [cn_z s2 (by decide) (by decide)]
  · show AW _ _ _ _ _ 92 _ _ _
    refine aw_al0 K dX6_count_92 ?_
    refine aw_callV_I K (uX6_countFined l g sta _ F) rfl (by decide) fX6_countFined lX6_316 dX6_count_93 rfl clsX6 rfl (Nat.le_of_ble_eq_true rfl) ?_
    refine aw_iret K rfl dX6_count_96 ?_
    show some _ = some _
    rw [cn_z s3 (by decide) (by decide)]
  · show AW _ _ _ _ _ 97 _ _ _
    refine aw_al0 K dX6_count_97 ?_
    refine aw_getR K gX6_19 dX6_count_98 rfl rfl ?_
    refine aw_getI K gX6_109 dX6_count_101 rfl rfl ?_
    refine aw_iret K rfl dX6_count_104 ?_
    show some _ = some _
    rw [F.2.1, cn_z s4 (by decide) (by decide)]
  · show AW _ _ _ _ _ 105 _ _ _
    refine aw_al0 K dX6_count_105 ?_
    refine aw_sipush (v := 4095) K dX6_count_106 (by decide) ?_
    refine aw_callV_I K (uX6_openTies l g sta _ _ F) rfl (by decide) fX6_openTies lX6_155 dX6_count_109 rfl clsX6 rfl (Nat.le_of_ble_eq_true rfl) ?_
    refine aw_iret K rfl dX6_count_112 ?_
    show some _ = some _
    rw [cn_z s5 (by decide) (by decide)]
  · show AW _ _ _ _ _ 113 _ _ _
    refine aw_al0 K dX6_count_113 ?_
    refine aw_getR K gX6_26 dX6_count_114 rfl rfl ?_
    refine aw_getI K gX6_255 dX6_count_117 rfl rfl ?_
    refine aw_iret K rfl dX6_count_120 ?_
    show some _ = some _
    rw [F.2.2.1, cn_z s6 (by decide) (by decide)]
  · show AW _ _ _ _ _ 121 _ _ _
    refine aw_al0 K dX6_count_121 ?_
    refine aw_getR K gX6_26 dX6_count_122 rfl rfl ?_
    refine aw_callV_I K (uX5_countingOnes l g sta _ F) rfl (by decide) fX5_countingOnes lX6_319 dX6_count_125 rfl clsX5 rfl (Nat.le_of_ble_eq_true rfl) ?_
    refine aw_iret K rfl dX6_count_128 ?_
    show some _ = some _
    rw [cn_z s7 (by decide) (by decide)]
  · show AW _ _ _ _ _ 129 _ _ _
    refine aw_al0 K dX6_count_129 ?_
    refine aw_getI K gX6_113 dX6_count_130 rfl rfl ?_
    refine aw_iret K rfl dX6_count_133 ?_
    show some _ = some _
    rw [F.2.2.2.1, cn_z s8 (by decide) (by decide)]
  · show AW _ _ _ _ _ 134 _ _ _
    refine aw_al0 K dX6_count_134 ?_
    refine aw_getR K gX6_33 dX6_count_135 rfl rfl ?_
    refine aw_getI K gX6_180 dX6_count_138 rfl rfl ?_
    refine aw_iret K rfl dX6_count_141 ?_
    show some _ = some _
    rw [F.2.2.2.2.2.1, cn_z s9 (by decide) (by decide)]
  · show AW _ _ _ _ _ 142 _ _ _
    refine aw_al0 K dX6_count_142 ?_
    refine aw_getR K gX6_46 dX6_count_143 rfl rfl ?_
    refine aw_iconst (v := 0) K dX6_count_146 (by decide) ?_
    refine aw_aald K dX6_count_147 rfl (vp_in_nI (n := 0) (by decide) (by decide)) rfl ?_
    refine aw_callV_I K (tX2_isNothing l g sta _ 7 rfl) rfl (by decide) fX2_isNothing lX6_322 dX6_count_148 rfl clsX2 rfl (Nat.le_of_ble_eq_true rfl) ?_
    refine aw_if_eq (tgt := 159) K dX6_count_151 (by decide) (fun b151 => ?_) (fun b151 => ?_)
    · exact absurd F.2.2.2.2.2.2.2.2.1 (bI_0.mp b151)
    · refine aw_bipush (v := (-4)) K dX6_count_154 (by decide) ?_
      refine aw_goto (tgt := 168) K dX6_count_156 (by decide) ?_
      refine aw_iret K rfl dX6_count_168 ?_
      show some _ = some _
      rw [cn_n s10]
  · show AW _ _ _ _ _ 169 _ _ _
    refine aw_iconst (v := (-1)) K dX6_count_169 (by decide) ?_
    refine aw_iret K rfl dX6_count_170 ?_
    show some _ = some _
    rw [cn_d sd]

set_option maxHeartbeats 4000000 in
set_option maxRecDepth 100000 in
theorem uX3_readToken (l : Launch) (g : Geo) (sta : Nat → Nat) (h : HS) (h3 : h.1 4 3 = 0) (h1 : h.1 4 1 = 0) : CT (wX l g sta) 4 mX3_readToken [.ref (g.2.1 4)] h (DV (setI (setI h 4 4 (h.1 4 3)) 4 5 0)) := by
  refine CT.at [some (.ref (g.2.1 4))] 0 rfl (by decide) (Nat.le_of_ble_eq_true rfl) (fun k K => ?_)
  refine aw_al0 K dX3_readToken_0 ?_
  refine aw_getI K gX3_19 dX3_readToken_1 rfl rfl ?_
  refine aw_al0 K dX3_readToken_4 ?_
  refine aw_getI K gX3_15 dX3_readToken_5 rfl rfl ?_
  refine aw_icmp_ge (tgt := 38) K dX3_readToken_8 (by decide) (fun b8 => ?_) (fun b8 => ?_)
  · refine aw_al0 K dX3_readToken_38 ?_
    refine aw_al0 K dX3_readToken_39 ?_
    refine aw_getI K gX3_19 dX3_readToken_40 rfl rfl ?_
    refine aw_putI K gX3_38 fpX3_4 dX3_readToken_43 rfl rfl ?_
    refine aw_al0 K dX3_readToken_46 ?_
    refine aw_getI K gX3_19 dX3_readToken_47 rfl rfl ?_
    refine aw_al0 K dX3_readToken_50 ?_
    refine aw_getI K gX3_15 dX3_readToken_51 rfl rfl ?_
    refine aw_icmp_lt (tgt := 65) K dX3_readToken_54 (by decide) (fun b54 => ?_) (fun b54 => ?_)
    · simp only [rdI] at b54
      simp [h1, h3] at b54
    · refine aw_al0 K dX3_readToken_57 ?_
      refine aw_iconst (v := 0) K dX3_readToken_58 (by decide) ?_
      refine aw_putI K gX3_31 fpX3_5 dX3_readToken_59 rfl rfl ?_
      refine aw_goto (tgt := 138) K dX3_readToken_62 (by decide) ?_
      refine aw_vret K rfl dX3_readToken_138 ?_
      exact ⟨rfl, rfl⟩
  · rw [h1, h3] at b8
    exact absurd (by decide) b8

set_option maxHeartbeats 4000000 in
set_option maxRecDepth 100000 in
theorem uX3_readLines (l : Launch) (g : Geo) (sta : Nat → Nat) (h : HS) (F : XF h) : CT (wX l g sta) 6 mX3_readLines [.ref (g.2.1 4), .ref (g.2.1 12)] h (fun o h' => o = some (.int 0) ∧ h'.1 4 2 = 0) := by
  refine CT.at [some (.ref (g.2.1 4)), some (.ref (g.2.1 12)), none] 1 rfl (by decide) (Nat.le_of_ble_eq_true rfl) (fun k K => ?_)
  refine aw_al0 K dX3_readLines_0 ?_
  refine aw_iconst (v := 0) K dX3_readLines_1 (by decide) ?_
  refine aw_putI K gX3_19 fpX3_3 dX3_readLines_2 rfl rfl ?_
  refine aw_al0 K dX3_readLines_5 ?_
  refine aw_iconst (v := 0) K dX3_readLines_6 (by decide) ?_
  refine aw_putI K gX3_22 fpX3_7 dX3_readLines_7 rfl rfl ?_
  refine aw_al0 K dX3_readLines_10 ?_
  refine aw_iconst (v := 0) K dX3_readLines_11 (by decide) ?_
  refine aw_putI K gX3_25 fpX3_2 dX3_readLines_12 rfl rfl ?_
  refine aw_iconst (v := 0) K dX3_readLines_15 (by decide) ?_
  refine aw_is2 K dX3_readLines_16 (by decide) rfl ?_
  refine aw_il2 K dX3_readLines_17 ?_
  refine aw_bipush (v := 10) K dX3_readLines_18 (by decide) ?_
  refine aw_icmp_gt (tgt := 69) K dX3_readLines_20 (by decide) (fun b20 => ?_) (fun b20 => ?_)
  · exact absurd b20 (by decide)
  · refine aw_al0 K dX3_readLines_23 ?_
    refine aw_callV_V K (uX3_readToken l g sta _ (by simp [rdI]) (by simp [rdI, F.2.2.2.2.2.1])) rfl (by decide) fX3_readToken lX3_28 dX3_readLines_24 rfl clsX3 rfl (Nat.le_of_ble_eq_true rfl) ?_
    refine aw_al0 K dX3_readLines_27 ?_
    refine aw_getI K gX3_25 dX3_readLines_28 rfl rfl ?_
    refine aw_if_ne (tgt := 43) K dX3_readLines_31 (by decide) (fun b31 => ?_) (fun b31 => ?_)
    · exact absurd (by simp [rdI]) b31
    · refine aw_al0 K dX3_readLines_34 ?_
      refine aw_getI K gX3_31 dX3_readLines_35 rfl rfl ?_
      refine aw_if_ne (tgt := 43) K dX3_readLines_38 (by decide) (fun b38 => ?_) (fun b38 => ?_)
      · exact absurd (by simp [rdI]) b38
      · refine aw_il2 K dX3_readLines_41 ?_
        refine aw_iret K rfl dX3_readLines_42 ?_
        exact ⟨rfl, by simp [rdI]⟩

set_option maxHeartbeats 4000000 in
set_option maxRecDepth 100000 in
theorem uX6_rules (l : Launch) (g : Geo) (sta : Nat → Nat) (h : HS) (F : XF h) : CT (wX l g sta) 8 mX6_rules [.ref (g.2.1 0)] h (DR 0) := by
  refine CT.at [some (.ref (g.2.1 0)), none] 1 rfl (by decide) (Nat.le_of_ble_eq_true rfl) (fun k K => ?_)
  refine aw_gets (i := 0) K (by decide) (aw_in 270 (by decide +kernel) rfl) dX6_rules_0 ?_
  refine aw_iconst (v := 0) K dX6_rules_3 (by decide) ?_
  refine aw_al0 K dX6_rules_4 ?_
  refine aw_getR K gX6_54 dX6_rules_5 rfl rfl ?_
  refine aw_iconst (v := 0) K dX6_rules_8 (by decide) ?_
  refine aw_bipush (v := 10) K dX6_rules_9 (by decide) ?_
  refine aw_copyS K (by decide) cpX6_69 cpnat rfl (by decide) (by decide) (by decide) (by decide) (by decide) (by decide) (by decide) dX6_rules_11 ?_
  refine aw_al0 K dX6_rules_14 ?_
  refine aw_getR K gX6_33 dX6_rules_15 rfl rfl ?_
  refine aw_al0 K dX6_rules_18 ?_
  refine aw_getR K gX6_54 dX6_rules_19 rfl rfl ?_
  refine aw_callV K (uX3_readLines l g sta _ F) rfl (by decide) fX3_readLines lX6_183 dX6_rules_22 rfl clsX3 rfl (Nat.le_of_ble_eq_true rfl) (fun o h2 hq => ?_)
  obtain ⟨rfl, hf⟩ := hq
  refine aw_is1 K dX6_rules_25 (by decide) rfl ?_
  refine aw_al0 K dX6_rules_26 ?_
  refine aw_getR K gX6_33 dX6_rules_27 rfl rfl ?_
  refine aw_getI K gX6_187 dX6_rules_30 rfl rfl ?_
  refine aw_if_ne (tgt := 51) K dX6_rules_33 (by decide) (fun b33 => ?_) (fun b33 => ?_)
  · exact absurd hf b33
  · refine aw_al0 K dX6_rules_36 ?_
    refine aw_getR K gX6_54 dX6_rules_37 rfl rfl ?_
    refine aw_iconst (v := 0) K dX6_rules_40 (by decide) ?_
    refine aw_al0 K dX6_rules_41 ?_
    refine aw_getR K gX6_50 dX6_rules_42 rfl rfl ?_
    refine aw_iconst (v := 0) K dX6_rules_45 (by decide) ?_
    refine aw_bipush (v := 10) K dX6_rules_46 (by decide) ?_
    refine aw_copy K cpX6_69 cpnat rfl rfl (by decide) (by decide) (by decide) (by decide) (by decide) (by decide) (by decide) dX6_rules_48 ?_
    refine aw_al0 K dX6_rules_51 ?_
    refine aw_getR K gX6_33 dX6_rules_52 rfl rfl ?_
    refine aw_iconst (v := 0) K dX6_rules_55 (by decide) ?_
    refine aw_putI K gX6_180 fpX3_1 dX6_rules_56 rfl rfl ?_
    refine aw_il1 K dX6_rules_59 ?_
    refine aw_iret K rfl dX6_rules_60 ?_
    exact rfl

