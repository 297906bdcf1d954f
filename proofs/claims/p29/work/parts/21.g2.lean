/-- an int comes back, nothing has changed -/
def AI (h : HS) : Option Value → HS → Prop := fun o h' => (∃ r : Int32, o = some (.int r)) ∧ h' = h
/-- an int of 0 to n comes back -/
def AN (n : Nat) (h : HS) : Option Value → HS → Prop := fun o h' => (∃ j : Nat, j ≤ n ∧ o = some (.int (nI j))) ∧ h' = h
def AL (h : HS) : Option Value → HS → Prop := fun o h' => (∃ r : Int64, o = some (.long r)) ∧ h' = h
set_option maxHeartbeats 4000000 in
set_option maxRecDepth 100000 in
theorem lpX6_openTies {l : Launch} {g : Geo} {sta : Nat → Nat} {k : KT} (K : AOK (wX l g sta) mX6_openTies k) (h : HS) (a : Int32) {N T Wn : Nat} (H : XW h N T Wn) :
    ∀ (n i : Nat) (acc : Int32), i ≤ T → T - i < n → AW (wX l g sta) (AI h) 4 mX6_openTies k 4 [some (.ref (g.2.1 0)), some (.int a), some (.int acc), some (.int (nI i)), none] [] h := by
  intro n
  induction n with
  | zero => intro i acc h1 h2; omega
  | succ n ih =>
    intro i acc h1 h2
    have hT := H.2.1.2
    refine aw_il3 K dX6_openTies_4 ?_
    refine aw_al0 K dX6_openTies_5 ?_
    refine aw_getR K gX6_19 dX6_openTies_6 rfl rfl ?_
    refine aw_getI K gX6_109 dX6_openTies_9 rfl rfl ?_
    rw [H.2.1.1]
    refine aw_icmp_ge (tgt := 84) K dX6_openTies_12 (by decide) (fun b12 => ?_) (fun b12 => ?_)
    · refine aw_il2 K dX6_openTies_84 ?_
      refine aw_iret K rfl dX6_openTies_85 ?_
      exact ⟨⟨_, rfl⟩, rfl⟩
    · have hlt : i < T := by
        rcases Nat.lt_or_ge i T with q | q
        · exact q
        · exact absurd (nI_le (a := T) q (by omega)) b12
      refine aw_il1 K dX6_openTies_15 ?_
      refine aw_al0 K dX6_openTies_16 ?_
      refine aw_getR K gX6_19 dX6_openTies_17 rfl rfl ?_
      refine aw_getR K gX6_122 dX6_openTies_20 rfl rfl ?_
      refine aw_il3 K dX6_openTies_23 ?_
      refine aw_iald K dX6_openTies_24 rfl (vp_in_nI (by omega) (by decide)) ?_
      refine aw_callS_I K (tX6_hasBit l g sta _ _ _) rfl (by decide) fX6_hasBit lX6_162 dX6_openTies_25 rfl (Nat.le_of_ble_eq_true rfl) ?_
      refine aw_if_ne (tgt := 47) K dX6_openTies_28 (by decide) (fun b28 => ?_) (fun b28 => ?_)
      · refine aw_iconst (v := 1) K dX6_openTies_47 (by decide) ?_
        refine aw_goto (tgt := 52) K dX6_openTies_48 (by decide) ?_
        refine aw_is4 K dX6_openTies_52 (by decide) rfl ?_
        refine aw_il2 K dX6_openTies_54 ?_
        refine aw_il4 K dX6_openTies_55 ?_
        refine aw_if_eq (tgt := 72) K dX6_openTies_57 (by decide) (fun b57 => ?_) (fun b57 => ?_)
        · refine aw_iconst (v := 0) K dX6_openTies_72 (by decide) ?_
          refine aw_callS_I K (tX6_oneIf l g sta _ _) rfl (by decide) fX6_oneIf lX6_92 dX6_openTies_73 rfl (Nat.le_of_ble_eq_true rfl) ?_
          refine aw_iadd K dX6_openTies_76 ?_
          refine aw_is2 K dX6_openTies_77 (by decide) rfl ?_
          refine aw_ii3 (v := _ + 1) K dX6_openTies_78 rfl (by decide) rfl ?_
          refine aw_goto (tgt := 4) K dX6_openTies_81 (by decide) ?_
          rw [nI_1]
          refine aw_sub [some (.ref (g.2.1 0)), some (.int a), some (.int _), some (.int _), none] ⟨rfl, rfl, rfl, rfl, trivial⟩ ?_
          exact ih (i + 1) _ (by omega) (by omega)
        · refine aw_al0 K dX6_openTies_60 ?_
          refine aw_il3 K dX6_openTies_61 ?_
          refine aw_callV_I K (tX6_roomOf l g sta _ _ (vp_in_nI (by omega) (by decide)) H) rfl (by decide) fX6_roomOf lX6_137 dX6_openTies_62 rfl clsX6 rfl (Nat.le_of_ble_eq_true rfl) ?_
          refine aw_if_le (tgt := 72) K dX6_openTies_65 (by decide) (fun b65 => ?_) (fun b65 => ?_)
          · refine aw_iconst (v := 0) K dX6_openTies_72 (by decide) ?_
            refine aw_callS_I K (tX6_oneIf l g sta _ _) rfl (by decide) fX6_oneIf lX6_92 dX6_openTies_73 rfl (Nat.le_of_ble_eq_true rfl) ?_
            refine aw_iadd K dX6_openTies_76 ?_
            refine aw_is2 K dX6_openTies_77 (by decide) rfl ?_
            refine aw_ii3 (v := _ + 1) K dX6_openTies_78 rfl (by decide) rfl ?_
            refine aw_goto (tgt := 4) K dX6_openTies_81 (by decide) ?_
            rw [nI_1]
            refine aw_sub [some (.ref (g.2.1 0)), some (.int a), some (.int _), some (.int _), none] ⟨rfl, rfl, rfl, rfl, trivial⟩ ?_
            exact ih (i + 1) _ (by omega) (by omega)
          · refine aw_iconst (v := 1) K dX6_openTies_68 (by decide) ?_
            refine aw_goto (tgt := 73) K dX6_openTies_69 (by decide) ?_
            refine aw_callS_I K (tX6_oneIf l g sta _ _) rfl (by decide) fX6_oneIf lX6_92 dX6_openTies_73 rfl (Nat.le_of_ble_eq_true rfl) ?_
            refine aw_iadd K dX6_openTies_76 ?_
            refine aw_is2 K dX6_openTies_77 (by decide) rfl ?_
            refine aw_ii3 (v := _ + 1) K dX6_openTies_78 rfl (by decide) rfl ?_
            refine aw_goto (tgt := 4) K dX6_openTies_81 (by decide) ?_
            rw [nI_1]
            refine aw_sub [some (.ref (g.2.1 0)), some (.int a), some (.int _), some (.int _), none] ⟨rfl, rfl, rfl, rfl, trivial⟩ ?_
            exact ih (i + 1) _ (by omega) (by omega)
      · refine aw_il1 K dX6_openTies_31 ?_
        refine aw_al0 K dX6_openTies_32 ?_
        refine aw_getR K gX6_19 dX6_openTies_33 rfl rfl ?_
        refine aw_getR K gX6_125 dX6_openTies_36 rfl rfl ?_
        refine aw_il3 K dX6_openTies_39 ?_
        refine aw_iald K dX6_openTies_40 rfl (vp_in_nI (by omega) (by decide)) ?_
        refine aw_callS_I K (tX6_hasBit l g sta _ _ _) rfl (by decide) fX6_hasBit lX6_162 dX6_openTies_41 rfl (Nat.le_of_ble_eq_true rfl) ?_
        refine aw_if_eq (tgt := 51) K dX6_openTies_44 (by decide) (fun b44 => ?_) (fun b44 => ?_)
        · refine aw_iconst (v := 0) K dX6_openTies_51 (by decide) ?_
          refine aw_is4 K dX6_openTies_52 (by decide) rfl ?_
          refine aw_il2 K dX6_openTies_54 ?_
          refine aw_il4 K dX6_openTies_55 ?_
          refine aw_if_eq (tgt := 72) K dX6_openTies_57 (by decide) (fun b57 => ?_) (fun b57 => ?_)
          · refine aw_iconst (v := 0) K dX6_openTies_72 (by decide) ?_
            refine aw_callS_I K (tX6_oneIf l g sta _ _) rfl (by decide) fX6_oneIf lX6_92 dX6_openTies_73 rfl (Nat.le_of_ble_eq_true rfl) ?_
            refine aw_iadd K dX6_openTies_76 ?_
            refine aw_is2 K dX6_openTies_77 (by decide) rfl ?_
            refine aw_ii3 (v := _ + 1) K dX6_openTies_78 rfl (by decide) rfl ?_
            refine aw_goto (tgt := 4) K dX6_openTies_81 (by decide) ?_
            rw [nI_1]
            refine aw_sub [some (.ref (g.2.1 0)), some (.int a), some (.int _), some (.int _), none] ⟨rfl, rfl, rfl, rfl, trivial⟩ ?_
            exact ih (i + 1) _ (by omega) (by omega)
          · refine aw_al0 K dX6_openTies_60 ?_
            refine aw_il3 K dX6_openTies_61 ?_
            refine aw_callV_I K (tX6_roomOf l g sta _ _ (vp_in_nI (by omega) (by decide)) H) rfl (by decide) fX6_roomOf lX6_137 dX6_openTies_62 rfl clsX6 rfl (Nat.le_of_ble_eq_true rfl) ?_
            refine aw_if_le (tgt := 72) K dX6_openTies_65 (by decide) (fun b65 => ?_) (fun b65 => ?_)
            · refine aw_iconst (v := 0) K dX6_openTies_72 (by decide) ?_
              refine aw_callS_I K (tX6_oneIf l g sta _ _) rfl (by decide) fX6_oneIf lX6_92 dX6_openTies_73 rfl (Nat.le_of_ble_eq_true rfl) ?_
              refine aw_iadd K dX6_openTies_76 ?_
              refine aw_is2 K dX6_openTies_77 (by decide) rfl ?_
              refine aw_ii3 (v := _ + 1) K dX6_openTies_78 rfl (by decide) rfl ?_
              refine aw_goto (tgt := 4) K dX6_openTies_81 (by decide) ?_
              rw [nI_1]
              refine aw_sub [some (.ref (g.2.1 0)), some (.int a), some (.int _), some (.int _), none] ⟨rfl, rfl, rfl, rfl, trivial⟩ ?_
              exact ih (i + 1) _ (by omega) (by omega)
            · refine aw_iconst (v := 1) K dX6_openTies_68 (by decide) ?_
              refine aw_goto (tgt := 73) K dX6_openTies_69 (by decide) ?_
              refine aw_callS_I K (tX6_oneIf l g sta _ _) rfl (by decide) fX6_oneIf lX6_92 dX6_openTies_73 rfl (Nat.le_of_ble_eq_true rfl) ?_
              refine aw_iadd K dX6_openTies_76 ?_
              refine aw_is2 K dX6_openTies_77 (by decide) rfl ?_
              refine aw_ii3 (v := _ + 1) K dX6_openTies_78 rfl (by decide) rfl ?_
              refine aw_goto (tgt := 4) K dX6_openTies_81 (by decide) ?_
              rw [nI_1]
              refine aw_sub [some (.ref (g.2.1 0)), some (.int a), some (.int _), some (.int _), none] ⟨rfl, rfl, rfl, rfl, trivial⟩ ?_
              exact ih (i + 1) _ (by omega) (by omega)
        · refine aw_iconst (v := 1) K dX6_openTies_47 (by decide) ?_
          refine aw_goto (tgt := 52) K dX6_openTies_48 (by decide) ?_
          refine aw_is4 K dX6_openTies_52 (by decide) rfl ?_
          refine aw_il2 K dX6_openTies_54 ?_
          refine aw_il4 K dX6_openTies_55 ?_
          refine aw_if_eq (tgt := 72) K dX6_openTies_57 (by decide) (fun b57 => ?_) (fun b57 => ?_)
          · refine aw_iconst (v := 0) K dX6_openTies_72 (by decide) ?_
            refine aw_callS_I K (tX6_oneIf l g sta _ _) rfl (by decide) fX6_oneIf lX6_92 dX6_openTies_73 rfl (Nat.le_of_ble_eq_true rfl) ?_
            refine aw_iadd K dX6_openTies_76 ?_
            refine aw_is2 K dX6_openTies_77 (by decide) rfl ?_
            refine aw_ii3 (v := _ + 1) K dX6_openTies_78 rfl (by decide) rfl ?_
            refine aw_goto (tgt := 4) K dX6_openTies_81 (by decide) ?_
            rw [nI_1]
            refine aw_sub [some (.ref (g.2.1 0)), some (.int a), some (.int _), some (.int _), none] ⟨rfl, rfl, rfl, rfl, trivial⟩ ?_
            exact ih (i + 1) _ (by omega) (by omega)
          · refine aw_al0 K dX6_openTies_60 ?_
            refine aw_il3 K dX6_openTies_61 ?_
            refine aw_callV_I K (tX6_roomOf l g sta _ _ (vp_in_nI (by omega) (by decide)) H) rfl (by decide) fX6_roomOf lX6_137 dX6_openTies_62 rfl clsX6 rfl (Nat.le_of_ble_eq_true rfl) ?_
            refine aw_if_le (tgt := 72) K dX6_openTies_65 (by decide) (fun b65 => ?_) (fun b65 => ?_)
            · refine aw_iconst (v := 0) K dX6_openTies_72 (by decide) ?_
              refine aw_callS_I K (tX6_oneIf l g sta _ _) rfl (by decide) fX6_oneIf lX6_92 dX6_openTies_73 rfl (Nat.le_of_ble_eq_true rfl) ?_
              refine aw_iadd K dX6_openTies_76 ?_
              refine aw_is2 K dX6_openTies_77 (by decide) rfl ?_
              refine aw_ii3 (v := _ + 1) K dX6_openTies_78 rfl (by decide) rfl ?_
              refine aw_goto (tgt := 4) K dX6_openTies_81 (by decide) ?_
              rw [nI_1]
              refine aw_sub [some (.ref (g.2.1 0)), some (.int a), some (.int _), some (.int _), none] ⟨rfl, rfl, rfl, rfl, trivial⟩ ?_
              exact ih (i + 1) _ (by omega) (by omega)
            · refine aw_iconst (v := 1) K dX6_openTies_68 (by decide) ?_
              refine aw_goto (tgt := 73) K dX6_openTies_69 (by decide) ?_
              refine aw_callS_I K (tX6_oneIf l g sta _ _) rfl (by decide) fX6_oneIf lX6_92 dX6_openTies_73 rfl (Nat.le_of_ble_eq_true rfl) ?_
              refine aw_iadd K dX6_openTies_76 ?_
              refine aw_is2 K dX6_openTies_77 (by decide) rfl ?_
              refine aw_ii3 (v := _ + 1) K dX6_openTies_78 rfl (by decide) rfl ?_
              refine aw_goto (tgt := 4) K dX6_openTies_81 (by decide) ?_
              rw [nI_1]
              refine aw_sub [some (.ref (g.2.1 0)), some (.int a), some (.int _), some (.int _), none] ⟨rfl, rfl, rfl, rfl, trivial⟩ ?_
              exact ih (i + 1) _ (by omega) (by omega)
set_option maxHeartbeats 4000000 in
set_option maxRecDepth 100000 in
theorem tX6_openTies (l : Launch) (g : Geo) (sta : Nat → Nat) (h : HS) (a : Int32) {N T Wn : Nat} (H : XW h N T Wn) : CT (wX l g sta) 4 mX6_openTies [.ref (g.2.1 0), .int a] h (AI h) := by
  refine CT.at [some (.ref (g.2.1 0)), some (.int a), none, none, none] 3 rfl (by decide) (Nat.le_of_ble_eq_true rfl) (fun k K => ?_)
  refine aw_iconst (v := 0) K dX6_openTies_0 (by decide) ?_
  refine aw_is2 K dX6_openTies_1 (by decide) rfl ?_
  refine aw_iconst (v := 0) K dX6_openTies_2 (by decide) ?_
  refine aw_is3 K dX6_openTies_3 (by decide) rfl ?_
  exact lpX6_openTies K h a H (T + 1) 0 0 (by omega) (by omega)

set_option maxHeartbeats 4000000 in
set_option maxRecDepth 100000 in
theorem lpX6_tiesOutOf {l : Launch} {g : Geo} {sta : Nat → Nat} {k : KT} (K : AOK (wX l g sta) mX6_tiesOutOf k) (h : HS) (a : Int32) {N T Wn : Nat} (H : XW h N T Wn) :
    ∀ (n i : Nat) (acc : Int32), i ≤ T → T - i < n → AW (wX l g sta) (AI h) 4 mX6_tiesOutOf k 4 [some (.ref (g.2.1 0)), some (.int a), some (.int acc), some (.int (nI i)), none] [] h := by
  intro n
  induction n with
  | zero => intro i acc h1 h2; omega
  | succ n ih =>
    intro i acc h1 h2
    have hT := H.2.1.2
    refine aw_il3 K dX6_tiesOutOf_4 ?_
    refine aw_al0 K dX6_tiesOutOf_5 ?_
    refine aw_getR K gX6_19 dX6_tiesOutOf_6 rfl rfl ?_
    refine aw_getI K gX6_109 dX6_tiesOutOf_9 rfl rfl ?_
    rw [H.2.1.1]
    refine aw_icmp_ge (tgt := 76) K dX6_tiesOutOf_12 (by decide) (fun b12 => ?_) (fun b12 => ?_)
    · refine aw_il2 K dX6_tiesOutOf_76 ?_
      refine aw_iret K rfl dX6_tiesOutOf_77 ?_
      exact ⟨⟨_, rfl⟩, rfl⟩
    · have hlt : i < T := by
        rcases Nat.lt_or_ge i T with q | q
        · exact q
        · exact absurd (nI_le (a := T) q (by omega)) b12
      refine aw_il1 K dX6_tiesOutOf_15 ?_
      refine aw_al0 K dX6_tiesOutOf_16 ?_
      refine aw_getR K gX6_19 dX6_tiesOutOf_17 rfl rfl ?_
      refine aw_getR K gX6_122 dX6_tiesOutOf_20 rfl rfl ?_
      refine aw_il3 K dX6_tiesOutOf_23 ?_
      refine aw_iald K dX6_tiesOutOf_24 rfl (vp_in_nI (by omega) (by decide)) ?_
      refine aw_callS_I K (tX6_hasBit l g sta _ _ _) rfl (by decide) fX6_hasBit lX6_162 dX6_tiesOutOf_25 rfl (Nat.le_of_ble_eq_true rfl) ?_
      refine aw_il1 K dX6_tiesOutOf_28 ?_
      refine aw_al0 K dX6_tiesOutOf_29 ?_
      refine aw_getR K gX6_19 dX6_tiesOutOf_30 rfl rfl ?_
      refine aw_getR K gX6_125 dX6_tiesOutOf_33 rfl rfl ?_
      refine aw_il3 K dX6_tiesOutOf_36 ?_
      refine aw_iald K dX6_tiesOutOf_37 rfl (vp_in_nI (by omega) (by decide)) ?_
      refine aw_callS_I K (tX6_hasBit l g sta _ _ _) rfl (by decide) fX6_hasBit lX6_162 dX6_tiesOutOf_38 rfl (Nat.le_of_ble_eq_true rfl) ?_
      refine aw_icmp_eq (tgt := 48) K dX6_tiesOutOf_41 (by decide) (fun b41 => ?_) (fun b41 => ?_)
      · refine aw_iconst (v := 0) K dX6_tiesOutOf_48 (by decide) ?_
        refine aw_is4 K dX6_tiesOutOf_49 (by decide) rfl ?_
        refine aw_il4 K dX6_tiesOutOf_51 ?_
        refine aw_if_eq (tgt := 70) K dX6_tiesOutOf_53 (by decide) (fun b53 => ?_) (fun b53 => ?_)
        · refine aw_ii3 (v := _ + 1) K dX6_tiesOutOf_70 rfl (by decide) rfl ?_
          refine aw_goto (tgt := 4) K dX6_tiesOutOf_73 (by decide) ?_
          rw [nI_1]
          refine aw_sub [some (.ref (g.2.1 0)), some (.int a), some (.int _), some (.int _), none] ⟨rfl, rfl, rfl, rfl, trivial⟩ ?_
          exact ih (i + 1) _ (by omega) (by omega)
        · refine aw_al0 K dX6_tiesOutOf_56 ?_
          refine aw_il3 K dX6_tiesOutOf_57 ?_
          refine aw_callV_I K (tX6_roomOf l g sta _ _ (vp_in_nI (by omega) (by decide)) H) rfl (by decide) fX6_roomOf lX6_137 dX6_tiesOutOf_58 rfl clsX6 rfl (Nat.le_of_ble_eq_true rfl) ?_
          refine aw_if_le (tgt := 70) K dX6_tiesOutOf_61 (by decide) (fun b61 => ?_) (fun b61 => ?_)
          · refine aw_ii3 (v := _ + 1) K dX6_tiesOutOf_70 rfl (by decide) rfl ?_
            refine aw_goto (tgt := 4) K dX6_tiesOutOf_73 (by decide) ?_
            rw [nI_1]
            refine aw_sub [some (.ref (g.2.1 0)), some (.int a), some (.int _), some (.int _), none] ⟨rfl, rfl, rfl, rfl, trivial⟩ ?_
            exact ih (i + 1) _ (by omega) (by omega)
          · refine aw_il2 K dX6_tiesOutOf_64 ?_
            refine aw_iconst (v := 1) K dX6_tiesOutOf_65 (by decide) ?_
            refine aw_il3 K dX6_tiesOutOf_66 ?_
            refine aw_ishl K dX6_tiesOutOf_67 ?_
            refine aw_ior K dX6_tiesOutOf_68 ?_
            refine aw_is2 K dX6_tiesOutOf_69 (by decide) rfl ?_
            refine aw_ii3 (v := _ + 1) K dX6_tiesOutOf_70 rfl (by decide) rfl ?_
            refine aw_goto (tgt := 4) K dX6_tiesOutOf_73 (by decide) ?_
            rw [nI_1]
            refine aw_sub [some (.ref (g.2.1 0)), some (.int a), some (.int _), some (.int _), none] ⟨rfl, rfl, rfl, rfl, trivial⟩ ?_
            exact ih (i + 1) _ (by omega) (by omega)
      · refine aw_iconst (v := 1) K dX6_tiesOutOf_44 (by decide) ?_
        refine aw_goto (tgt := 49) K dX6_tiesOutOf_45 (by decide) ?_
        refine aw_is4 K dX6_tiesOutOf_49 (by decide) rfl ?_
        refine aw_il4 K dX6_tiesOutOf_51 ?_
        refine aw_if_eq (tgt := 70) K dX6_tiesOutOf_53 (by decide) (fun b53 => ?_) (fun b53 => ?_)
        · refine aw_ii3 (v := _ + 1) K dX6_tiesOutOf_70 rfl (by decide) rfl ?_
          refine aw_goto (tgt := 4) K dX6_tiesOutOf_73 (by decide) ?_
          rw [nI_1]
          refine aw_sub [some (.ref (g.2.1 0)), some (.int a), some (.int _), some (.int _), none] ⟨rfl, rfl, rfl, rfl, trivial⟩ ?_
          exact ih (i + 1) _ (by omega) (by omega)
        · refine aw_al0 K dX6_tiesOutOf_56 ?_
          refine aw_il3 K dX6_tiesOutOf_57 ?_
          refine aw_callV_I K (tX6_roomOf l g sta _ _ (vp_in_nI (by omega) (by decide)) H) rfl (by decide) fX6_roomOf lX6_137 dX6_tiesOutOf_58 rfl clsX6 rfl (Nat.le_of_ble_eq_true rfl) ?_
          refine aw_if_le (tgt := 70) K dX6_tiesOutOf_61 (by decide) (fun b61 => ?_) (fun b61 => ?_)
          · refine aw_ii3 (v := _ + 1) K dX6_tiesOutOf_70 rfl (by decide) rfl ?_
            refine aw_goto (tgt := 4) K dX6_tiesOutOf_73 (by decide) ?_
            rw [nI_1]
            refine aw_sub [some (.ref (g.2.1 0)), some (.int a), some (.int _), some (.int _), none] ⟨rfl, rfl, rfl, rfl, trivial⟩ ?_
            exact ih (i + 1) _ (by omega) (by omega)
          · refine aw_il2 K dX6_tiesOutOf_64 ?_
            refine aw_iconst (v := 1) K dX6_tiesOutOf_65 (by decide) ?_
            refine aw_il3 K dX6_tiesOutOf_66 ?_
            refine aw_ishl K dX6_tiesOutOf_67 ?_
            refine aw_ior K dX6_tiesOutOf_68 ?_
            refine aw_is2 K dX6_tiesOutOf_69 (by decide) rfl ?_
            refine aw_ii3 (v := _ + 1) K dX6_tiesOutOf_70 rfl (by decide) rfl ?_
            refine aw_goto (tgt := 4) K dX6_tiesOutOf_73 (by decide) ?_
            rw [nI_1]
            refine aw_sub [some (.ref (g.2.1 0)), some (.int a), some (.int _), some (.int _), none] ⟨rfl, rfl, rfl, rfl, trivial⟩ ?_
            exact ih (i + 1) _ (by omega) (by omega)
set_option maxHeartbeats 4000000 in
set_option maxRecDepth 100000 in
theorem tX6_tiesOutOf (l : Launch) (g : Geo) (sta : Nat → Nat) (h : HS) (a : Int32) {N T Wn : Nat} (H : XW h N T Wn) : CT (wX l g sta) 4 mX6_tiesOutOf [.ref (g.2.1 0), .int a] h (AI h) := by
  refine CT.at [some (.ref (g.2.1 0)), some (.int a), none, none, none] 3 rfl (by decide) (Nat.le_of_ble_eq_true rfl) (fun k K => ?_)
  refine aw_iconst (v := 0) K dX6_tiesOutOf_0 (by decide) ?_
  refine aw_is2 K dX6_tiesOutOf_1 (by decide) rfl ?_
  refine aw_iconst (v := 0) K dX6_tiesOutOf_2 (by decide) ?_
  refine aw_is3 K dX6_tiesOutOf_3 (by decide) rfl ?_
  exact lpX6_tiesOutOf K h a H (T + 1) 0 0 (by omega) (by omega)

set_option maxHeartbeats 4000000 in
set_option maxRecDepth 100000 in
theorem lpX6_givenBeyond {l : Launch} {g : Geo} {sta : Nat → Nat} {k : KT} (K : AOK (wX l g sta) mX6_givenBeyond k) (h : HS) (a : Int32) {N T Wn : Nat} (H : XW h N T Wn) :
    ∀ (n i : Nat) (acc : Int32), i ≤ N → N - i < n → AW (wX l g sta) (AI h) 4 mX6_givenBeyond k 4 [some (.ref (g.2.1 0)), some (.int a), some (.int acc), some (.int (nI i))] [] h := by
  intro n
  induction n with
  | zero => intro i acc h1 h2; omega
  | succ n ih =>
    intro i acc h1 h2
    have hT := H.1.2
    refine aw_il3 K dX6_givenBeyond_4 ?_
    refine aw_al0 K dX6_givenBeyond_5 ?_
    refine aw_getR K gX6_12 dX6_givenBeyond_6 rfl rfl ?_
    refine aw_getI K gX6_161 dX6_givenBeyond_9 rfl rfl ?_
    rw [H.1.1]
    refine aw_icmp_ge (tgt := 37) K dX6_givenBeyond_12 (by decide) (fun b12 => ?_) (fun b12 => ?_)
    · refine aw_il2 K dX6_givenBeyond_37 ?_
      refine aw_iret K rfl dX6_givenBeyond_38 ?_
      exact ⟨⟨_, rfl⟩, rfl⟩
    · have hlt : i < N := by
        rcases Nat.lt_or_ge i N with q | q
        · exact q
        · exact absurd (nI_le (a := N) q (by omega)) b12
      refine aw_il1 K dX6_givenBeyond_15 ?_
      refine aw_il3 K dX6_givenBeyond_16 ?_
      refine aw_callS_I K (tX6_hasBit l g sta _ _ _) rfl (by decide) fX6_hasBit lX6_162 dX6_givenBeyond_17 rfl (Nat.le_of_ble_eq_true rfl) ?_
      refine aw_if_ne (tgt := 31) K dX6_givenBeyond_20 (by decide) (fun b20 => ?_) (fun b20 => ?_)
      · refine aw_ii3 (v := _ + 1) K dX6_givenBeyond_31 rfl (by decide) rfl ?_
        refine aw_goto (tgt := 4) K dX6_givenBeyond_34 (by decide) ?_
        rw [nI_1]
        refine aw_sub [some (.ref (g.2.1 0)), some (.int a), some (.int _), some (.int _)] ⟨rfl, rfl, rfl, rfl, trivial⟩ ?_
        exact ih (i + 1) _ (by omega) (by omega)
      · refine aw_il2 K dX6_givenBeyond_23 ?_
        refine aw_al0 K dX6_givenBeyond_24 ?_
        refine aw_il3 K dX6_givenBeyond_25 ?_
        refine aw_callV_I K (tX6_givenTo l g sta _ _ (vp_in_nI (by omega) (by decide))) rfl (by decide) fX6_givenTo lX6_152 dX6_givenBeyond_26 rfl clsX6 rfl (Nat.le_of_ble_eq_true rfl) ?_
        refine aw_iadd K dX6_givenBeyond_29 ?_
        refine aw_is2 K dX6_givenBeyond_30 (by decide) rfl ?_
        refine aw_ii3 (v := _ + 1) K dX6_givenBeyond_31 rfl (by decide) rfl ?_
        refine aw_goto (tgt := 4) K dX6_givenBeyond_34 (by decide) ?_
        rw [nI_1]
        refine aw_sub [some (.ref (g.2.1 0)), some (.int a), some (.int _), some (.int _)] ⟨rfl, rfl, rfl, rfl, trivial⟩ ?_
        exact ih (i + 1) _ (by omega) (by omega)
set_option maxHeartbeats 4000000 in
set_option maxRecDepth 100000 in
theorem tX6_givenBeyond (l : Launch) (g : Geo) (sta : Nat → Nat) (h : HS) (a : Int32) {N T Wn : Nat} (H : XW h N T Wn) : CT (wX l g sta) 4 mX6_givenBeyond [.ref (g.2.1 0), .int a] h (AI h) := by
  refine CT.at [some (.ref (g.2.1 0)), some (.int a), none, none] 2 rfl (by decide) (Nat.le_of_ble_eq_true rfl) (fun k K => ?_)
  refine aw_iconst (v := 0) K dX6_givenBeyond_0 (by decide) ?_
  refine aw_is2 K dX6_givenBeyond_1 (by decide) rfl ?_
  refine aw_iconst (v := 0) K dX6_givenBeyond_2 (by decide) ?_
  refine aw_is3 K dX6_givenBeyond_3 (by decide) rfl ?_
  exact lpX6_givenBeyond K h a H (N + 1) 0 0 (by omega) (by omega)

set_option maxHeartbeats 4000000 in
set_option maxRecDepth 100000 in
theorem lpX6_sellingNames {l : Launch} {g : Geo} {sta : Nat → Nat} {k : KT} (K : AOK (wX l g sta) mX6_sellingNames k) (h : HS) {N T Wn : Nat} (H : XW h N T Wn) :
    ∀ (n i : Nat) (acc : Int32), i ≤ N → N - i < n → AW (wX l g sta) (AI h) 1 mX6_sellingNames k 4 [some (.ref (g.2.1 0)), some (.int acc), some (.int (nI i))] [] h := by
  intro n
  induction n with
  | zero => intro i acc h1 h2; omega
  | succ n ih =>
    intro i acc h1 h2
    have hT := H.1.2
    refine aw_il2 K dX6_sellingNames_4 ?_
    refine aw_al0 K dX6_sellingNames_5 ?_
    refine aw_getR K gX6_12 dX6_sellingNames_6 rfl rfl ?_
    refine aw_getI K gX6_161 dX6_sellingNames_9 rfl rfl ?_
    rw [H.1.1]
    refine aw_icmp_ge (tgt := 51) K dX6_sellingNames_12 (by decide) (fun b12 => ?_) (fun b12 => ?_)
    · refine aw_il1 K dX6_sellingNames_51 ?_
      refine aw_iret K rfl dX6_sellingNames_52 ?_
      exact ⟨⟨_, rfl⟩, rfl⟩
    · have hlt : i < N := by
        rcases Nat.lt_or_ge i N with q | q
        · exact q
        · exact absurd (nI_le (a := N) q (by omega)) b12
      refine aw_al0 K dX6_sellingNames_15 ?_
      refine aw_getR K gX6_12 dX6_sellingNames_16 rfl rfl ?_
      refine aw_getR K gX6_143 dX6_sellingNames_19 rfl rfl ?_
      refine aw_il2 K dX6_sellingNames_22 ?_
      refine aw_iald K dX6_sellingNames_23 rfl (vp_in_nI (by omega) (by decide)) ?_
      refine aw_if_le (tgt := 45) K dX6_sellingNames_24 (by decide) (fun b24 => ?_) (fun b24 => ?_)
      · refine aw_ii2 (v := _ + 1) K dX6_sellingNames_45 rfl (by decide) rfl ?_
        refine aw_goto (tgt := 4) K dX6_sellingNames_48 (by decide) ?_
        rw [nI_1]
        refine aw_sub [some (.ref (g.2.1 0)), some (.int _), some (.int _)] ⟨rfl, rfl, rfl, trivial⟩ ?_
        exact ih (i + 1) _ (by omega) (by omega)
      · refine aw_al0 K dX6_sellingNames_27 ?_
        refine aw_getR K gX6_12 dX6_sellingNames_28 rfl rfl ?_
        refine aw_getR K gX6_96 dX6_sellingNames_31 rfl rfl ?_
        refine aw_il2 K dX6_sellingNames_34 ?_
        refine aw_zald K dX6_sellingNames_35 rfl (vp_in_nI (by omega) (by decide)) ?_
        refine aw_if_ne (tgt := 45) K dX6_sellingNames_36 (by decide) (fun b36 => ?_) (fun b36 => ?_)
        · refine aw_ii2 (v := _ + 1) K dX6_sellingNames_45 rfl (by decide) rfl ?_
          refine aw_goto (tgt := 4) K dX6_sellingNames_48 (by decide) ?_
          rw [nI_1]
          refine aw_sub [some (.ref (g.2.1 0)), some (.int _), some (.int _)] ⟨rfl, rfl, rfl, trivial⟩ ?_
          exact ih (i + 1) _ (by omega) (by omega)
        · refine aw_il1 K dX6_sellingNames_39 ?_
          refine aw_iconst (v := 1) K dX6_sellingNames_40 (by decide) ?_
          refine aw_il2 K dX6_sellingNames_41 ?_
          refine aw_ishl K dX6_sellingNames_42 ?_
          refine aw_ior K dX6_sellingNames_43 ?_
          refine aw_is1 K dX6_sellingNames_44 (by decide) rfl ?_
          refine aw_ii2 (v := _ + 1) K dX6_sellingNames_45 rfl (by decide) rfl ?_
          refine aw_goto (tgt := 4) K dX6_sellingNames_48 (by decide) ?_
          rw [nI_1]
          refine aw_sub [some (.ref (g.2.1 0)), some (.int _), some (.int _)] ⟨rfl, rfl, rfl, trivial⟩ ?_
          exact ih (i + 1) _ (by omega) (by omega)
set_option maxHeartbeats 4000000 in
set_option maxRecDepth 100000 in
theorem tX6_sellingNames (l : Launch) (g : Geo) (sta : Nat → Nat) (h : HS) {N T Wn : Nat} (H : XW h N T Wn) : CT (wX l g sta) 1 mX6_sellingNames [.ref (g.2.1 0)] h (AI h) := by
  refine CT.at [some (.ref (g.2.1 0)), none, none] 2 rfl (by decide) (Nat.le_of_ble_eq_true rfl) (fun k K => ?_)
  refine aw_iconst (v := 0) K dX6_sellingNames_0 (by decide) ?_
  refine aw_is1 K dX6_sellingNames_1 (by decide) rfl ?_
  refine aw_iconst (v := 0) K dX6_sellingNames_2 (by decide) ?_
  refine aw_is2 K dX6_sellingNames_3 (by decide) rfl ?_
  exact lpX6_sellingNames K h H (N + 1) 0 0 (by omega) (by omega)

set_option maxHeartbeats 4000000 in
set_option maxRecDepth 100000 in
theorem tX6_boughtRoom (l : Launch) (g : Geo) (sta : Nat → Nat) (h : HS) (a : Int32) : CT (wX l g sta) 1 mX6_boughtRoom [.ref (g.2.1 0), .int a] h (DI (a * h.1 11 3 / 100) h) := by
  refine CT.at [some (.ref (g.2.1 0)), some (.int a)] 0 rfl (by decide) (Nat.le_of_ble_eq_true rfl) (fun k K => ?_)
  refine aw_il1 K dX6_boughtRoom_0 ?_
  refine aw_al0 K dX6_boughtRoom_1 ?_
  refine aw_getR K gX6_50 dX6_boughtRoom_2 rfl rfl ?_
  refine aw_iconst (v := 3) K dX6_boughtRoom_5 (by decide) ?_
  refine aw_iald K dX6_boughtRoom_6 rfl (vp_in_nI (n := 3) (N := 10) (by decide) (by decide)) ?_
  refine aw_imul K dX6_boughtRoom_7 ?_
  refine aw_bipush (v := 100) K dX6_boughtRoom_8 (by decide) ?_
  refine aw_idiv K dX6_boughtRoom_10 (by decide) ?_
  refine aw_iret K rfl dX6_boughtRoom_11 ?_
  exact ⟨rfl, rfl⟩

set_option maxHeartbeats 4000000 in
set_option maxRecDepth 100000 in
theorem tJ6_bitCount_0f7a4 (l : Launch) (g : Geo) (sta : Nat → Nat) (h : HS) (a : Int32) : CT (wX l g sta) 1 mJ6_bitCount_0f7a4 [.int a] h (AI h) := by
  refine CT.at [some (.int a)] 0 rfl (by decide) (Nat.le_of_ble_eq_true rfl) (fun k K => ?_)
  refine aw_il0 K dJ6_bitCount_0f7a4_0 ?_
  refine aw_il0 K dJ6_bitCount_0f7a4_1 ?_
  refine aw_iconst (v := 1) K dJ6_bitCount_0f7a4_2 (by decide) ?_
  refine aw_iushr K dJ6_bitCount_0f7a4_3 ?_
  refine aw_ldcw K qJ6_265 dJ6_bitCount_0f7a4_4 ?_
  refine aw_iand K dJ6_bitCount_0f7a4_7 ?_
  refine aw_isub K dJ6_bitCount_0f7a4_8 ?_
  refine aw_is0 K dJ6_bitCount_0f7a4_9 (by decide) ?_
  refine aw_il0 K dJ6_bitCount_0f7a4_10 ?_
  refine aw_ldcw K qJ6_266 dJ6_bitCount_0f7a4_11 ?_
  refine aw_iand K dJ6_bitCount_0f7a4_14 ?_
  refine aw_il0 K dJ6_bitCount_0f7a4_15 ?_
  refine aw_iconst (v := 2) K dJ6_bitCount_0f7a4_16 (by decide) ?_
  refine aw_iushr K dJ6_bitCount_0f7a4_17 ?_
  refine aw_ldcw K qJ6_266 dJ6_bitCount_0f7a4_18 ?_
  refine aw_iand K dJ6_bitCount_0f7a4_21 ?_
  refine aw_iadd K dJ6_bitCount_0f7a4_22 ?_
  refine aw_is0 K dJ6_bitCount_0f7a4_23 (by decide) ?_
  refine aw_il0 K dJ6_bitCount_0f7a4_24 ?_
  refine aw_il0 K dJ6_bitCount_0f7a4_25 ?_
  refine aw_iconst (v := 4) K dJ6_bitCount_0f7a4_26 (by decide) ?_
  refine aw_iushr K dJ6_bitCount_0f7a4_27 ?_
  refine aw_iadd K dJ6_bitCount_0f7a4_28 ?_
  refine aw_ldcw K qJ6_267 dJ6_bitCount_0f7a4_29 ?_
  refine aw_iand K dJ6_bitCount_0f7a4_32 ?_
  refine aw_is0 K dJ6_bitCount_0f7a4_33 (by decide) ?_
  refine aw_il0 K dJ6_bitCount_0f7a4_34 ?_
  refine aw_il0 K dJ6_bitCount_0f7a4_35 ?_
  refine aw_bipush (v := 8) K dJ6_bitCount_0f7a4_36 (by decide) ?_
  refine aw_iushr K dJ6_bitCount_0f7a4_38 ?_
  refine aw_iadd K dJ6_bitCount_0f7a4_39 ?_
  refine aw_is0 K dJ6_bitCount_0f7a4_40 (by decide) ?_
  refine aw_il0 K dJ6_bitCount_0f7a4_41 ?_
  refine aw_il0 K dJ6_bitCount_0f7a4_42 ?_
  refine aw_bipush (v := 16) K dJ6_bitCount_0f7a4_43 (by decide) ?_
  refine aw_iushr K dJ6_bitCount_0f7a4_45 ?_
  refine aw_iadd K dJ6_bitCount_0f7a4_46 ?_
  refine aw_is0 K dJ6_bitCount_0f7a4_47 (by decide) ?_
  refine aw_il0 K dJ6_bitCount_0f7a4_48 ?_
  refine aw_bipush (v := 63) K dJ6_bitCount_0f7a4_49 (by decide) ?_
  refine aw_iand K dJ6_bitCount_0f7a4_51 ?_
  refine aw_iret K rfl dJ6_bitCount_0f7a4_52 ?_
  exact ⟨⟨_, rfl⟩, rfl⟩

set_option maxHeartbeats 4000000 in
set_option maxRecDepth 100000 in
theorem lpX6_wordsWithin {l : Launch} {g : Geo} {sta : Nat → Nat} {k : KT} (K : AOK (wX l g sta) mX6_wordsWithin k) (h : HS) (a b : Int32) {N T Wn : Nat} (H : XW h N T Wn) :
    ∀ (n i j : Nat), i ≤ Wn → Wn - i < n → j ≤ i → AW (wX l g sta) (AN Wn h) 2 mX6_wordsWithin k 5 [some (.ref (g.2.1 0)), some (.int a), some (.int b), some (.int (nI j)), some (.int (nI i)), none] [] h := by
  intro n
  induction n with
  | zero => intro i j h1 h2; omega
  | succ n ih =>
    intro i j h1 h2 h3
    have hT := H.2.2.1.2
    refine aw_il4 K dX6_wordsWithin_5 ?_
    refine aw_al0 K dX6_wordsWithin_7 ?_
    refine aw_getR K gX6_26 dX6_wordsWithin_8 rfl rfl ?_
    refine aw_getI K gX6_255 dX6_wordsWithin_11 rfl rfl ?_
    rw [H.2.2.1.1]
    refine aw_icmp_ge (tgt := 87) K dX6_wordsWithin_14 (by decide) (fun b14 => ?_) (fun b14 => ?_)
    · refine aw_il3 K dX6_wordsWithin_87 ?_
      refine aw_iret K rfl dX6_wordsWithin_88 ?_
      exact ⟨⟨j, by omega, rfl⟩, rfl⟩
    · have hlt : i < Wn := by
        rcases Nat.lt_or_ge i Wn with q | q
        · exact q
        · exact absurd (nI_le (a := Wn) q (by omega)) b14
      refine aw_al0 K dX6_wordsWithin_17 ?_
      refine aw_getR K gX6_26 dX6_wordsWithin_18 rfl rfl ?_
      refine aw_getR K gX6_351 dX6_wordsWithin_21 rfl rfl ?_
      refine aw_il4 K dX6_wordsWithin_24 ?_
      refine aw_iald K dX6_wordsWithin_26 rfl (vp_in_nI (by omega) (by decide)) ?_
      refine aw_il1 K dX6_wordsWithin_27 ?_
      refine aw_iconst (v := (-1)) K dX6_wordsWithin_28 (by decide) ?_
      refine aw_ixor K dX6_wordsWithin_29 ?_
      refine aw_iand K dX6_wordsWithin_30 ?_
      refine aw_if_ne (tgt := 38) K dX6_wordsWithin_31 (by decide) (fun b31 => ?_) (fun b31 => ?_)
      · refine aw_iconst (v := 0) K dX6_wordsWithin_38 (by decide) ?_
        refine aw_is5 K dX6_wordsWithin_39 (by decide) rfl ?_
        refine aw_il3 K dX6_wordsWithin_41 ?_
        refine aw_il5 K dX6_wordsWithin_42 ?_
        refine aw_if_eq (tgt := 75) K dX6_wordsWithin_44 (by decide) (fun b44 => ?_) (fun b44 => ?_)
        · refine aw_iconst (v := 0) K dX6_wordsWithin_75 (by decide) ?_
          refine aw_callS_I K (tX6_oneIf l g sta _ _) rfl (by decide) fX6_oneIf lX6_92 dX6_wordsWithin_76 rfl (Nat.le_of_ble_eq_true rfl) ?_
          refine aw_iadd K dX6_wordsWithin_79 ?_
          refine aw_is3 K dX6_wordsWithin_80 (by decide) rfl ?_
          refine aw_ii4 (v := _ + 1) K dX6_wordsWithin_81 rfl (by decide) rfl ?_
          refine aw_goto (tgt := 5) K dX6_wordsWithin_84 (by decide) ?_
          rw [nI_1]
          refine aw_sub [some (.ref (g.2.1 0)), some (.int a), some (.int b), some (.int _), some (.int _), none] ⟨rfl, rfl, rfl, rfl, rfl, trivial⟩ ?_
          rw [bI00, Int32.add_zero]
          exact ih (i + 1) j (by omega) (by omega) (by omega)
        · refine aw_il2 K dX6_wordsWithin_47 ?_
          refine aw_if_eq (tgt := 71) K dX6_wordsWithin_48 (by decide) (fun b48 => ?_) (fun b48 => ?_)
          · refine aw_iconst (v := 1) K dX6_wordsWithin_71 (by decide) ?_
            refine aw_goto (tgt := 76) K dX6_wordsWithin_72 (by decide) ?_
            refine aw_callS_I K (tX6_oneIf l g sta _ _) rfl (by decide) fX6_oneIf lX6_92 dX6_wordsWithin_76 rfl (Nat.le_of_ble_eq_true rfl) ?_
            refine aw_iadd K dX6_wordsWithin_79 ?_
            refine aw_is3 K dX6_wordsWithin_80 (by decide) rfl ?_
            refine aw_ii4 (v := _ + 1) K dX6_wordsWithin_81 rfl (by decide) rfl ?_
            refine aw_goto (tgt := 5) K dX6_wordsWithin_84 (by decide) ?_
            rw [nI_1]
            refine aw_sub [some (.ref (g.2.1 0)), some (.int a), some (.int b), some (.int _), some (.int _), none] ⟨rfl, rfl, rfl, rfl, rfl, trivial⟩ ?_
            rw [bI11, nI_1]
            exact ih (i + 1) (j + 1) (by omega) (by omega) (by omega)
          · refine aw_al0 K dX6_wordsWithin_51 ?_
            refine aw_getR K gX6_26 dX6_wordsWithin_52 rfl rfl ?_
            refine aw_getR K gX6_230 dX6_wordsWithin_55 rfl rfl ?_
            refine aw_il4 K dX6_wordsWithin_58 ?_
            refine aw_iald K dX6_wordsWithin_60 rfl (vp_in_nI (by omega) (by decide)) ?_
            refine aw_al0 K dX6_wordsWithin_61 ?_
            refine aw_getR K gX6_50 dX6_wordsWithin_62 rfl rfl ?_
            refine aw_bipush (v := 9) K dX6_wordsWithin_65 (by decide) ?_
            refine aw_iald K dX6_wordsWithin_67 rfl (vp_in_nI (n := 9) (by decide) (by decide)) ?_
            refine aw_icmp_lt (tgt := 75) K dX6_wordsWithin_68 (by decide) (fun b68 => ?_) (fun b68 => ?_)
            · refine aw_iconst (v := 0) K dX6_wordsWithin_75 (by decide) ?_
              refine aw_callS_I K (tX6_oneIf l g sta _ _) rfl (by decide) fX6_oneIf lX6_92 dX6_wordsWithin_76 rfl (Nat.le_of_ble_eq_true rfl) ?_
              refine aw_iadd K dX6_wordsWithin_79 ?_
              refine aw_is3 K dX6_wordsWithin_80 (by decide) rfl ?_
              refine aw_ii4 (v := _ + 1) K dX6_wordsWithin_81 rfl (by decide) rfl ?_
              refine aw_goto (tgt := 5) K dX6_wordsWithin_84 (by decide) ?_
              rw [nI_1]
              refine aw_sub [some (.ref (g.2.1 0)), some (.int a), some (.int b), some (.int _), some (.int _), none] ⟨rfl, rfl, rfl, rfl, rfl, trivial⟩ ?_
              rw [bI00, Int32.add_zero]
              exact ih (i + 1) j (by omega) (by omega) (by omega)
            · refine aw_iconst (v := 1) K dX6_wordsWithin_71 (by decide) ?_
              refine aw_goto (tgt := 76) K dX6_wordsWithin_72 (by decide) ?_
              refine aw_callS_I K (tX6_oneIf l g sta _ _) rfl (by decide) fX6_oneIf lX6_92 dX6_wordsWithin_76 rfl (Nat.le_of_ble_eq_true rfl) ?_
              refine aw_iadd K dX6_wordsWithin_79 ?_
              refine aw_is3 K dX6_wordsWithin_80 (by decide) rfl ?_
              refine aw_ii4 (v := _ + 1) K dX6_wordsWithin_81 rfl (by decide) rfl ?_
              refine aw_goto (tgt := 5) K dX6_wordsWithin_84 (by decide) ?_
              rw [nI_1]
              refine aw_sub [some (.ref (g.2.1 0)), some (.int a), some (.int b), some (.int _), some (.int _), none] ⟨rfl, rfl, rfl, rfl, rfl, trivial⟩ ?_
              rw [bI11, nI_1]
              exact ih (i + 1) (j + 1) (by omega) (by omega) (by omega)
      · refine aw_iconst (v := 1) K dX6_wordsWithin_34 (by decide) ?_
        refine aw_goto (tgt := 39) K dX6_wordsWithin_35 (by decide) ?_
        refine aw_is5 K dX6_wordsWithin_39 (by decide) rfl ?_
        refine aw_il3 K dX6_wordsWithin_41 ?_
        refine aw_il5 K dX6_wordsWithin_42 ?_
        refine aw_if_eq (tgt := 75) K dX6_wordsWithin_44 (by decide) (fun b44 => ?_) (fun b44 => ?_)
        · refine aw_iconst (v := 0) K dX6_wordsWithin_75 (by decide) ?_
          refine aw_callS_I K (tX6_oneIf l g sta _ _) rfl (by decide) fX6_oneIf lX6_92 dX6_wordsWithin_76 rfl (Nat.le_of_ble_eq_true rfl) ?_
          refine aw_iadd K dX6_wordsWithin_79 ?_
          refine aw_is3 K dX6_wordsWithin_80 (by decide) rfl ?_
          refine aw_ii4 (v := _ + 1) K dX6_wordsWithin_81 rfl (by decide) rfl ?_
          refine aw_goto (tgt := 5) K dX6_wordsWithin_84 (by decide) ?_
          rw [nI_1]
          refine aw_sub [some (.ref (g.2.1 0)), some (.int a), some (.int b), some (.int _), some (.int _), none] ⟨rfl, rfl, rfl, rfl, rfl, trivial⟩ ?_
          rw [bI00, Int32.add_zero]
          exact ih (i + 1) j (by omega) (by omega) (by omega)
        · refine aw_il2 K dX6_wordsWithin_47 ?_
          refine aw_if_eq (tgt := 71) K dX6_wordsWithin_48 (by decide) (fun b48 => ?_) (fun b48 => ?_)
          · refine aw_iconst (v := 1) K dX6_wordsWithin_71 (by decide) ?_
            refine aw_goto (tgt := 76) K dX6_wordsWithin_72 (by decide) ?_
            refine aw_callS_I K (tX6_oneIf l g sta _ _) rfl (by decide) fX6_oneIf lX6_92 dX6_wordsWithin_76 rfl (Nat.le_of_ble_eq_true rfl) ?_
            refine aw_iadd K dX6_wordsWithin_79 ?_
            refine aw_is3 K dX6_wordsWithin_80 (by decide) rfl ?_
            refine aw_ii4 (v := _ + 1) K dX6_wordsWithin_81 rfl (by decide) rfl ?_
            refine aw_goto (tgt := 5) K dX6_wordsWithin_84 (by decide) ?_
            rw [nI_1]
            refine aw_sub [some (.ref (g.2.1 0)), some (.int a), some (.int b), some (.int _), some (.int _), none] ⟨rfl, rfl, rfl, rfl, rfl, trivial⟩ ?_
            rw [bI11, nI_1]
            exact ih (i + 1) (j + 1) (by omega) (by omega) (by omega)
          · refine aw_al0 K dX6_wordsWithin_51 ?_
            refine aw_getR K gX6_26 dX6_wordsWithin_52 rfl rfl ?_
            refine aw_getR K gX6_230 dX6_wordsWithin_55 rfl rfl ?_
            refine aw_il4 K dX6_wordsWithin_58 ?_
            refine aw_iald K dX6_wordsWithin_60 rfl (vp_in_nI (by omega) (by decide)) ?_
            refine aw_al0 K dX6_wordsWithin_61 ?_
            refine aw_getR K gX6_50 dX6_wordsWithin_62 rfl rfl ?_
            refine aw_bipush (v := 9) K dX6_wordsWithin_65 (by decide) ?_
            refine aw_iald K dX6_wordsWithin_67 rfl (vp_in_nI (n := 9) (by decide) (by decide)) ?_
            refine aw_icmp_lt (tgt := 75) K dX6_wordsWithin_68 (by decide) (fun b68 => ?_) (fun b68 => ?_)
            · refine aw_iconst (v := 0) K dX6_wordsWithin_75 (by decide) ?_
              refine aw_callS_I K (tX6_oneIf l g sta _ _) rfl (by decide) fX6_oneIf lX6_92 dX6_wordsWithin_76 rfl (Nat.le_of_ble_eq_true rfl) ?_
              refine aw_iadd K dX6_wordsWithin_79 ?_
              refine aw_is3 K dX6_wordsWithin_80 (by decide) rfl ?_
              refine aw_ii4 (v := _ + 1) K dX6_wordsWithin_81 rfl (by decide) rfl ?_
              refine aw_goto (tgt := 5) K dX6_wordsWithin_84 (by decide) ?_
              rw [nI_1]
              refine aw_sub [some (.ref (g.2.1 0)), some (.int a), some (.int b), some (.int _), some (.int _), none] ⟨rfl, rfl, rfl, rfl, rfl, trivial⟩ ?_
              rw [bI00, Int32.add_zero]
              exact ih (i + 1) j (by omega) (by omega) (by omega)
            · refine aw_iconst (v := 1) K dX6_wordsWithin_71 (by decide) ?_
              refine aw_goto (tgt := 76) K dX6_wordsWithin_72 (by decide) ?_
              refine aw_callS_I K (tX6_oneIf l g sta _ _) rfl (by decide) fX6_oneIf lX6_92 dX6_wordsWithin_76 rfl (Nat.le_of_ble_eq_true rfl) ?_
              refine aw_iadd K dX6_wordsWithin_79 ?_
              refine aw_is3 K dX6_wordsWithin_80 (by decide) rfl ?_
              refine aw_ii4 (v := _ + 1) K dX6_wordsWithin_81 rfl (by decide) rfl ?_
              refine aw_goto (tgt := 5) K dX6_wordsWithin_84 (by decide) ?_
              rw [nI_1]
              refine aw_sub [some (.ref (g.2.1 0)), some (.int a), some (.int b), some (.int _), some (.int _), none] ⟨rfl, rfl, rfl, rfl, rfl, trivial⟩ ?_
              rw [bI11, nI_1]
              exact ih (i + 1) (j + 1) (by omega) (by omega) (by omega)
set_option maxHeartbeats 4000000 in
set_option maxRecDepth 100000 in
theorem tX6_wordsWithin (l : Launch) (g : Geo) (sta : Nat → Nat) (h : HS) (a b : Int32) {N T Wn : Nat} (H : XW h N T Wn) : CT (wX l g sta) 2 mX6_wordsWithin [.ref (g.2.1 0), .int a, .int b] h (AN Wn h) := by
  refine CT.at [some (.ref (g.2.1 0)), some (.int a), some (.int b), none, none, none] 3 rfl (by decide) (Nat.le_of_ble_eq_true rfl) (fun k K => ?_)
  refine aw_iconst (v := 0) K dX6_wordsWithin_0 (by decide) ?_
  refine aw_is3 K dX6_wordsWithin_1 (by decide) rfl ?_
  refine aw_iconst (v := 0) K dX6_wordsWithin_2 (by decide) ?_
  refine aw_is4 K dX6_wordsWithin_3 (by decide) rfl ?_
  exact lpX6_wordsWithin K h a b H (Wn + 1) 0 0 (by omega) (by omega) (by omega)

set_option maxHeartbeats 4000000 in
set_option maxRecDepth 100000 in
theorem lpX5_isNewDeal {l : Launch} {g : Geo} {sta : Nat → Nat} {k : KT} (K : AOK (wX l g sta) mX5_isNewDeal k) (h : HS) (a : Int32) {N T Wn : Nat} (H : XW h N T Wn) :
    ∀ (n i : Nat), i ≤ Wn → Wn - i < n → AW (wX l g sta) ((fun o h' => (o = some (.int 1) ∨ o = some (.int 0)) ∧ h' = h)) 1 mX5_isNewDeal k 2 [some (.ref (g.2.1 3)), some (.int a), some (.int (nI i))] [] h := by
  intro n
  induction n with
  | zero => intro i h1 h2; omega
  | succ n ih =>
    intro i h1 h2
    have hT := H.2.2.1.2
    refine aw_il2 K dX5_isNewDeal_2 ?_
    refine aw_al0 K dX5_isNewDeal_3 ?_
    refine aw_getI K gX5_34 dX5_isNewDeal_4 rfl rfl ?_
    rw [H.2.2.1.1]
    refine aw_icmp_ge (tgt := 28) K dX5_isNewDeal_7 (by decide) (fun b7 => ?_) (fun b7 => ?_)
    · refine aw_iconst (v := 1) K dX5_isNewDeal_28 (by decide) ?_
      refine aw_zret K rfl dX5_isNewDeal_29 (by first | rfl | exact bI_nar _) ?_
      exact ⟨Or.inl rfl, rfl⟩
    · have hlt : i < Wn := by
        rcases Nat.lt_or_ge i Wn with q | q
        · exact q
        · exact absurd (nI_le (a := Wn) q (by omega)) b7
      refine aw_al0 K dX5_isNewDeal_10 ?_
      refine aw_getR K gX5_18 dX5_isNewDeal_11 rfl rfl ?_
      refine aw_il2 K dX5_isNewDeal_14 ?_
      refine aw_iald K dX5_isNewDeal_15 rfl (vp_in_nI (by omega) (by decide)) ?_
      refine aw_il1 K dX5_isNewDeal_16 ?_
      refine aw_icmp_ne (tgt := 22) K dX5_isNewDeal_17 (by decide) (fun b17 => ?_) (fun b17 => ?_)
      · refine aw_ii2 (v := _ + 1) K dX5_isNewDeal_22 rfl (by decide) rfl ?_
        refine aw_goto (tgt := 2) K dX5_isNewDeal_25 (by decide) ?_
        rw [nI_1]
        refine aw_sub [some (.ref (g.2.1 3)), some (.int a), some (.int _)] ⟨rfl, rfl, rfl, trivial⟩ ?_
        exact ih (i + 1) (by omega) (by omega)
      · refine aw_iconst (v := 0) K dX5_isNewDeal_20 (by decide) ?_
        refine aw_zret K rfl dX5_isNewDeal_21 (by first | rfl | exact bI_nar _) ?_
        exact ⟨Or.inr rfl, rfl⟩
set_option maxHeartbeats 4000000 in
set_option maxRecDepth 100000 in
theorem tX5_isNewDeal (l : Launch) (g : Geo) (sta : Nat → Nat) (h : HS) (a : Int32) {N T Wn : Nat} (H : XW h N T Wn) : CT (wX l g sta) 1 mX5_isNewDeal [.ref (g.2.1 3), .int a] h ((fun o h' => (o = some (.int 1) ∨ o = some (.int 0)) ∧ h' = h)) := by
  refine CT.at [some (.ref (g.2.1 3)), some (.int a), none] 1 rfl (by decide) (Nat.le_of_ble_eq_true rfl) (fun k K => ?_)
  refine aw_iconst (v := 0) K dX5_isNewDeal_0 (by decide) ?_
  refine aw_is2 K dX5_isNewDeal_1 (by decide) rfl ?_
  exact lpX5_isNewDeal K h a H (Wn + 1) 0 (by omega) (by omega)

/-- a word's number, or NONE -/
def AW_ (h : HS) : Option Value → HS → Prop := fun o h' => (o = some (.int (-4)) ∨ ∃ j : Nat, j < 24 ∧ o = some (.int (nI j))) ∧ h' = h
set_option maxHeartbeats 4000000 in
set_option maxRecDepth 100000 in
theorem lpX5_countingOf {l : Launch} {g : Geo} {sta : Nat → Nat} {k : KT} (K : AOK (wX l g sta) mX5_countingOf k) (h : HS) (a b : Int32) :
    ∀ (n : Nat), n ≤ 24 → AW (wX l g sta) (AW_ h) 1 mX5_countingOf k 7 [some (.ref (g.2.1 3)), some (.int a), some (.int b), some (.int (nI n - 1))] [] h := by
  intro n
  induction n with
  | zero =>
    intro h1
    refine aw_il3 K dX5_countingOf_7 ?_
    refine aw_if_lt (tgt := 48) K dX5_countingOf_8 (by decide) (fun b8 => ?_) (fun b8 => ?_)
    · refine aw_bipush (v := (-4)) K dX5_countingOf_48 (by decide) ?_
      refine aw_iret K rfl dX5_countingOf_50 ?_
      exact ⟨Or.inl rfl, rfl⟩
    · exact absurd (by decide) b8
  | succ n ih =>
    intro h1
    rw [nI_pred]
    refine aw_il3 K dX5_countingOf_7 ?_
    refine aw_if_lt (tgt := 48) K dX5_countingOf_8 (by decide) (fun b8 => ?_) (fun b8 => ?_)
    · exact absurd b8 (nI_pos (by omega))
    · refine aw_al0 K dX5_countingOf_11 ?_
      refine aw_getR K gX5_30 dX5_countingOf_12 rfl rfl ?_
      refine aw_il3 K dX5_countingOf_15 ?_
      refine aw_zald K dX5_countingOf_16 rfl (vp_in_nI (by omega) (by decide)) ?_
      refine aw_if_eq (tgt := 42) K dX5_countingOf_17 (by decide) (fun b17 => ?_) (fun b17 => ?_)
      · refine aw_ii3 (v := _ + (-1)) K dX5_countingOf_42 rfl (by decide) rfl ?_
        refine aw_goto (tgt := 7) K dX5_countingOf_45 (by decide) ?_
        rw [show nI n + -1 = nI n - 1 from (Int32.sub_eq_add_neg _ _).symm]
        exact ih (by omega)
      · refine aw_al0 K dX5_countingOf_20 ?_
        refine aw_getR K gX5_9 dX5_countingOf_21 rfl rfl ?_
        refine aw_il3 K dX5_countingOf_24 ?_
        refine aw_iald K dX5_countingOf_25 rfl (vp_in_nI (by omega) (by decide)) ?_
        refine aw_il1 K dX5_countingOf_26 ?_
        refine aw_icmp_ne (tgt := 42) K dX5_countingOf_27 (by decide) (fun b27 => ?_) (fun b27 => ?_)
        · refine aw_ii3 (v := _ + (-1)) K dX5_countingOf_42 rfl (by decide) rfl ?_
          refine aw_goto (tgt := 7) K dX5_countingOf_45 (by decide) ?_
          rw [show nI n + -1 = nI n - 1 from (Int32.sub_eq_add_neg _ _).symm]
          exact ih (by omega)
        · refine aw_al0 K dX5_countingOf_30 ?_
          refine aw_getR K gX5_15 dX5_countingOf_31 rfl rfl ?_
          refine aw_il3 K dX5_countingOf_34 ?_
          refine aw_iald K dX5_countingOf_35 rfl (vp_in_nI (by omega) (by decide)) ?_
          refine aw_il2 K dX5_countingOf_36 ?_
          refine aw_icmp_ne (tgt := 42) K dX5_countingOf_37 (by decide) (fun b37 => ?_) (fun b37 => ?_)
          · refine aw_ii3 (v := _ + (-1)) K dX5_countingOf_42 rfl (by decide) rfl ?_
            refine aw_goto (tgt := 7) K dX5_countingOf_45 (by decide) ?_
            rw [show nI n + -1 = nI n - 1 from (Int32.sub_eq_add_neg _ _).symm]
            exact ih (by omega)
          · refine aw_il3 K dX5_countingOf_40 ?_
            refine aw_iret K rfl dX5_countingOf_41 ?_
            exact ⟨Or.inr ⟨n, by omega, rfl⟩, rfl⟩
set_option maxHeartbeats 4000000 in
set_option maxRecDepth 100000 in
theorem tX5_countingOf (l : Launch) (g : Geo) (sta : Nat → Nat) (h : HS) (a b : Int32) {N T Wn : Nat} (H : XW h N T Wn) : CT (wX l g sta) 1 mX5_countingOf [.ref (g.2.1 3), .int a, .int b] h (AW_ h) := by
  refine CT.at [some (.ref (g.2.1 3)), some (.int a), some (.int b), none] 1 rfl (by decide) (Nat.le_of_ble_eq_true rfl) (fun k K => ?_)
  refine aw_al0 K dX5_countingOf_0 ?_
  refine aw_getI K gX5_34 dX5_countingOf_1 rfl rfl ?_
  refine aw_iconst (v := 1) K dX5_countingOf_4 (by decide) ?_
  rw [H.2.2.1.1]
  refine aw_isub K dX5_countingOf_5 ?_
  refine aw_is3 K dX5_countingOf_6 (by decide) rfl ?_
  exact lpX5_countingOf K h a b Wn H.2.2.1.2

set_option maxHeartbeats 4000000 in
set_option maxRecDepth 100000 in
theorem tX5_doesCount (l : Launch) (g : Geo) (sta : Nat → Nat) (h : HS) (a : Int32) (ha : vp_in a 24) {N T Wn : Nat} (H : XW h N T Wn) : CT (wX l g sta) 2 mX5_doesCount [.ref (g.2.1 3), .int a] h (AI h) := by
  refine CT.at [some (.ref (g.2.1 3)), some (.int a)] 0 rfl (by decide) (Nat.le_of_ble_eq_true rfl) (fun k K => ?_)
  refine aw_al0 K dX5_doesCount_0 ?_
  refine aw_al0 K dX5_doesCount_1 ?_
  refine aw_getR K gX5_9 dX5_doesCount_2 rfl rfl ?_
  refine aw_il1 K dX5_doesCount_5 ?_
  refine aw_iald K dX5_doesCount_6 rfl ha ?_
  refine aw_al0 K dX5_doesCount_7 ?_
  refine aw_getR K gX5_15 dX5_doesCount_8 rfl rfl ?_
  refine aw_il1 K dX5_doesCount_11 ?_
  refine aw_iald K dX5_doesCount_12 rfl ha ?_
  refine aw_callV K (tX5_countingOf l g sta _ _ _ H) rfl (by decide) fX5_countingOf lX5_42 dX5_doesCount_13 rfl clsX5 rfl (Nat.le_of_ble_eq_true rfl) (fun o h2 hq => ?_)
  obtain ⟨hq1, rfl⟩ := hq
  obtain ⟨r, rfl⟩ : ∃ r : Int32, o = some (.int r) := by
    rcases hq1 with rfl | ⟨j, -, rfl⟩
    · exact ⟨_, rfl⟩
    · exact ⟨_, rfl⟩
  refine (show AW _ _ _ _ _ _ _ (.int r :: _) _ from ?_)
  refine aw_il1 K dX5_doesCount_16 ?_
  refine aw_icmp_ne (tgt := 24) K dX5_doesCount_17 (by decide) (fun b17 => ?_) (fun b17 => ?_)
  · refine aw_iconst (v := 0) K dX5_doesCount_24 (by decide) ?_
    refine aw_zret K rfl dX5_doesCount_25 (by first | rfl | exact bI_nar _) ?_
    exact ⟨⟨_, rfl⟩, rfl⟩
  · refine aw_iconst (v := 1) K dX5_doesCount_20 (by decide) ?_
    refine aw_goto (tgt := 25) K dX5_doesCount_21 (by decide) ?_
    refine aw_zret K rfl dX5_doesCount_25 (by first | rfl | exact bI_nar _) ?_
    exact ⟨⟨_, rfl⟩, rfl⟩

set_option maxHeartbeats 4000000 in
set_option maxRecDepth 100000 in
theorem lpX5_countingOnes {l : Launch} {g : Geo} {sta : Nat → Nat} {k : KT} (K : AOK (wX l g sta) mX5_countingOnes k) (h : HS) {N T Wn : Nat} (H : XW h N T Wn) :
    ∀ (n i : Nat) (acc : Int32), i ≤ Wn → Wn - i < n → AW (wX l g sta) (AI h) 4 mX5_countingOnes k 4 [some (.ref (g.2.1 3)), some (.int acc), some (.int (nI i))] [] h := by
  intro n
  induction n with
  | zero => intro i acc h1 h2; omega
  | succ n ih =>
    intro i acc h1 h2
    have hT := H.2.2.1.2
    refine aw_il2 K dX5_countingOnes_4 ?_
    refine aw_al0 K dX5_countingOnes_5 ?_
    refine aw_getI K gX5_34 dX5_countingOnes_6 rfl rfl ?_
    rw [H.2.2.1.1]
    refine aw_icmp_ge (tgt := 29) K dX5_countingOnes_9 (by decide) (fun b9 => ?_) (fun b9 => ?_)
    · refine aw_il1 K dX5_countingOnes_29 ?_
      refine aw_iret K rfl dX5_countingOnes_30 ?_
      exact ⟨⟨_, rfl⟩, rfl⟩
    · have hlt : i < Wn := by
        rcases Nat.lt_or_ge i Wn with q | q
        · exact q
        · exact absurd (nI_le (a := Wn) q (by omega)) b9
      refine aw_il1 K dX5_countingOnes_12 ?_
      refine aw_al0 K dX5_countingOnes_13 ?_
      refine aw_il2 K dX5_countingOnes_14 ?_
      refine aw_callV K (tX5_doesCount l g sta _ _ (vp_in_nI (by omega) (by decide)) H) rfl (by decide) fX5_doesCount lX5_46 dX5_countingOnes_15 rfl clsX5 rfl (Nat.le_of_ble_eq_true rfl) (fun o h2 hq => ?_)
      obtain ⟨⟨r, rfl⟩, rfl⟩ := hq
      refine (show AW _ _ _ _ _ _ _ (.int r :: _) _ from ?_)
      refine aw_callSN_I K (tX6_oneIf l g sta _ _) rfl (by decide) fX6_oneIf lX5_49 dX5_countingOnes_18 rfl (Nat.le_of_ble_eq_true rfl) ?_
      refine aw_iadd K dX5_countingOnes_21 ?_
      refine aw_is1 K dX5_countingOnes_22 (by decide) rfl ?_
      refine aw_ii2 (v := _ + 1) K dX5_countingOnes_23 rfl (by decide) rfl ?_
      refine aw_goto (tgt := 4) K dX5_countingOnes_26 (by decide) ?_
      rw [nI_1]
      refine aw_sub [some (.ref (g.2.1 3)), some (.int _), some (.int _)] ⟨rfl, rfl, rfl, trivial⟩ ?_
      exact ih (i + 1) _ (by omega) (by omega)
set_option maxHeartbeats 4000000 in
set_option maxRecDepth 100000 in
theorem tX5_countingOnes (l : Launch) (g : Geo) (sta : Nat → Nat) (h : HS) {N T Wn : Nat} (H : XW h N T Wn) : CT (wX l g sta) 4 mX5_countingOnes [.ref (g.2.1 3)] h (AI h) := by
  refine CT.at [some (.ref (g.2.1 3)), none, none] 2 rfl (by decide) (Nat.le_of_ble_eq_true rfl) (fun k K => ?_)
  refine aw_iconst (v := 0) K dX5_countingOnes_0 (by decide) ?_
  refine aw_is1 K dX5_countingOnes_1 (by decide) rfl ?_
  refine aw_iconst (v := 0) K dX5_countingOnes_2 (by decide) ?_
  refine aw_is2 K dX5_countingOnes_3 (by decide) rfl ?_
  exact lpX5_countingOnes K h H (Wn + 1) 0 0 (by omega) (by omega)

set_option maxHeartbeats 4000000 in
set_option maxRecDepth 100000 in
theorem lpX6_sayersOf {l : Launch} {g : Geo} {sta : Nat → Nat} {k : KT} (K : AOK (wX l g sta) mX6_sayersOf k) (h : HS) (a : Int32) {N T Wn : Nat} (H : XW h N T Wn) :
    ∀ (n i : Nat) (acc : Int32), i ≤ Wn → Wn - i < n → AW (wX l g sta) (AI h) 4 mX6_sayersOf k 4 [some (.ref (g.2.1 0)), some (.int a), some (.int acc), some (.int (nI i)), none] [] h := by
  intro n
  induction n with
  | zero => intro i acc h1 h2; omega
  | succ n ih =>
    intro i acc h1 h2
    have hT := H.2.2.1.2
    refine aw_il3 K dX6_sayersOf_4 ?_
    refine aw_al0 K dX6_sayersOf_5 ?_
    refine aw_getR K gX6_26 dX6_sayersOf_6 rfl rfl ?_
    refine aw_getI K gX6_255 dX6_sayersOf_9 rfl rfl ?_
    rw [H.2.2.1.1]
    refine aw_icmp_ge (tgt := 76) K dX6_sayersOf_12 (by decide) (fun b12 => ?_) (fun b12 => ?_)
    · refine aw_il2 K dX6_sayersOf_76 ?_
      refine aw_iret K rfl dX6_sayersOf_77 ?_
      exact ⟨⟨_, rfl⟩, rfl⟩
    · have hlt : i < Wn := by
        rcases Nat.lt_or_ge i Wn with q | q
        · exact q
        · exact absurd (nI_le (a := Wn) q (by omega)) b12
      refine aw_al0 K dX6_sayersOf_15 ?_
      refine aw_getR K gX6_26 dX6_sayersOf_16 rfl rfl ?_
      refine aw_getR K gX6_221 dX6_sayersOf_19 rfl rfl ?_
      refine aw_il3 K dX6_sayersOf_22 ?_
      refine aw_iald K dX6_sayersOf_23 rfl (vp_in_nI (by omega) (by decide)) ?_
      refine aw_is4 K dX6_sayersOf_24 (by decide) rfl ?_
      refine aw_al0 K dX6_sayersOf_26 ?_
      refine aw_getR K gX6_26 dX6_sayersOf_27 rfl rfl ?_
      refine aw_getR K gX6_224 dX6_sayersOf_30 rfl rfl ?_
      refine aw_il3 K dX6_sayersOf_33 ?_
      refine aw_iald K dX6_sayersOf_34 rfl (vp_in_nI (by omega) (by decide)) ?_
      refine aw_il1 K dX6_sayersOf_35 ?_
      refine aw_icmp_ne (tgt := 70) K dX6_sayersOf_36 (by decide) (fun b36 => ?_) (fun b36 => ?_)
      · refine aw_ii3 (v := _ + 1) K dX6_sayersOf_70 rfl (by decide) rfl ?_
        refine aw_goto (tgt := 4) K dX6_sayersOf_73 (by decide) ?_
        rw [nI_1]
        refine aw_sub [some (.ref (g.2.1 0)), some (.int a), some (.int _), some (.int _), none] ⟨rfl, rfl, rfl, rfl, trivial⟩ ?_
        exact ih (i + 1) _ (by omega) (by omega)
      · refine aw_al0 K dX6_sayersOf_39 ?_
        refine aw_getR K gX6_12 dX6_sayersOf_40 rfl rfl ?_
        refine aw_getR K gX6_96 dX6_sayersOf_43 rfl rfl ?_
        refine aw_il4 K dX6_sayersOf_46 ?_
        refine aw_zald K dX6_sayersOf_48 rfl (H.2.2.2.2.2.2.1 _) ?_
        refine aw_if_ne (tgt := 70) K dX6_sayersOf_49 (by decide) (fun b49 => ?_) (fun b49 => ?_)
        · refine aw_ii3 (v := _ + 1) K dX6_sayersOf_70 rfl (by decide) rfl ?_
          refine aw_goto (tgt := 4) K dX6_sayersOf_73 (by decide) ?_
          rw [nI_1]
          refine aw_sub [some (.ref (g.2.1 0)), some (.int a), some (.int _), some (.int _), none] ⟨rfl, rfl, rfl, rfl, trivial⟩ ?_
          exact ih (i + 1) _ (by omega) (by omega)
        · refine aw_al0 K dX6_sayersOf_52 ?_
          refine aw_getR K gX6_26 dX6_sayersOf_53 rfl rfl ?_
          refine aw_il3 K dX6_sayersOf_56 ?_
          refine aw_callV K (tX5_doesCount l g sta _ _ (vp_in_nI (by omega) (by decide)) H) rfl (by decide) fX5_doesCount lX6_234 dX6_sayersOf_57 rfl clsX5 rfl (Nat.le_of_ble_eq_true rfl) (fun o h2 hq => ?_)
          obtain ⟨⟨r, rfl⟩, rfl⟩ := hq
          refine (show AW _ _ _ _ _ _ _ (.int r :: _) _ from ?_)
          refine aw_if_eq (tgt := 70) K dX6_sayersOf_60 (by decide) (fun b60 => ?_) (fun b60 => ?_)
          · refine aw_ii3 (v := _ + 1) K dX6_sayersOf_70 rfl (by decide) rfl ?_
            refine aw_goto (tgt := 4) K dX6_sayersOf_73 (by decide) ?_
            rw [nI_1]
            refine aw_sub [some (.ref (g.2.1 0)), some (.int a), some (.int _), some (.int _), none] ⟨rfl, rfl, rfl, rfl, trivial⟩ ?_
            exact ih (i + 1) _ (by omega) (by omega)
          · refine aw_il2 K dX6_sayersOf_63 ?_
            refine aw_iconst (v := 1) K dX6_sayersOf_64 (by decide) ?_
            refine aw_il4 K dX6_sayersOf_65 ?_
            refine aw_ishl K dX6_sayersOf_67 ?_
            refine aw_ior K dX6_sayersOf_68 ?_
            refine aw_is2 K dX6_sayersOf_69 (by decide) rfl ?_
            refine aw_ii3 (v := _ + 1) K dX6_sayersOf_70 rfl (by decide) rfl ?_
            refine aw_goto (tgt := 4) K dX6_sayersOf_73 (by decide) ?_
            rw [nI_1]
            refine aw_sub [some (.ref (g.2.1 0)), some (.int a), some (.int _), some (.int _), none] ⟨rfl, rfl, rfl, rfl, trivial⟩ ?_
            exact ih (i + 1) _ (by omega) (by omega)
set_option maxHeartbeats 4000000 in
set_option maxRecDepth 100000 in
theorem tX6_sayersOf (l : Launch) (g : Geo) (sta : Nat → Nat) (h : HS) (a : Int32) {N T Wn : Nat} (H : XW h N T Wn) : CT (wX l g sta) 4 mX6_sayersOf [.ref (g.2.1 0), .int a] h (AI h) := by
  refine CT.at [some (.ref (g.2.1 0)), some (.int a), none, none, none] 3 rfl (by decide) (Nat.le_of_ble_eq_true rfl) (fun k K => ?_)
  refine aw_iconst (v := 0) K dX6_sayersOf_0 (by decide) ?_
  refine aw_is2 K dX6_sayersOf_1 (by decide) rfl ?_
  refine aw_iconst (v := 0) K dX6_sayersOf_2 (by decide) ?_
  refine aw_is3 K dX6_sayersOf_3 (by decide) rfl ?_
  exact lpX6_sayersOf K h a H (Wn + 1) 0 0 (by omega) (by omega)

theorem lgne {y : Int64} (h : ¬ lg_cmp y 0 = 0) : ¬ y = 0 := fun q => h ((lg_cmp_eq _ _).mpr q)
def A1L (h : HS) : Option Value → HS → Prop := fun o h' => (∃ r : Int64, ¬ r = 0 ∧ o = some (.long r)) ∧ h' = h
theorem max1_ne (x : Int64) : ¬ (if x < 1 then (1 : Int64) else x) = 0 := by
  split
  · decide
  · rename_i q
    intro z
    rw [z] at q
    exact q (by decide)
theorem in_1 {i k : Nat} (h : i < k) (hk : k < 2 ^ 31) : ¬ (nI i + 1).toInt64 = 0 := by
  rw [nI_1, nI_l (by omega)]
  intro q
  have := (lN_eq (a := i + 1) (b := 0) (by omega) (by decide)).mp q
  omega
set_option maxHeartbeats 4000000 in
set_option maxRecDepth 100000 in
theorem lpX6_choose {l : Launch} {g : Geo} {sta : Nat → Nat} {k : KT} (K : AOK (wX l g sta) mX6_choose k) (h : HS) (a : Int32) (m : Nat) (hm : m < 2 ^ 31) :
    ∀ (n i : Nat) (acc : Int64), i ≤ m → m - i < n → AW (wX l g sta) (AL h) 1 mX6_choose k 16 [some (.int a), some (.int (nI m)), some (.long acc), none, some (.int (nI i))] [] h := by
  intro n
  induction n with
  | zero => intro i acc h1 h2; omega
  | succ n ih =>
    intro i acc h1 h2
    refine aw_il4 K dX6_choose_16 ?_
    refine aw_il1 K dX6_choose_18 ?_
    refine aw_icmp_ge (tgt := 42) K dX6_choose_19 (by decide) (fun b19 => ?_) (fun b19 => ?_)
    · refine aw_ll2 K dX6_choose_42 ?_
      refine aw_lret K rfl dX6_choose_43 ?_
      exact ⟨⟨_, rfl⟩, rfl⟩
    · have hlt : i < m := by
        rcases Nat.lt_or_ge i m with q | q
        · exact q
        · exact absurd (nI_le q (by omega)) b19
      refine aw_ll2 K dX6_choose_22 ?_
      refine aw_il0 K dX6_choose_23 ?_
      refine aw_il4 K dX6_choose_24 ?_
      refine aw_isub K dX6_choose_26 ?_
      refine aw_i2l K dX6_choose_27 ?_
      refine aw_lmul K dX6_choose_28 ?_
      refine aw_il4 K dX6_choose_29 ?_
      refine aw_iconst (v := 1) K dX6_choose_31 (by decide) ?_
      refine aw_iadd K dX6_choose_32 ?_
      refine aw_i2l K dX6_choose_33 ?_
      refine aw_ldiv K dX6_choose_34 (in_1 hlt hm) ?_
      refine aw_ls2 K dX6_choose_35 (by decide) rfl ?_
      refine aw_ii4 (v := _ + 1) K dX6_choose_36 rfl (by decide) rfl ?_
      refine aw_goto (tgt := 16) K dX6_choose_39 (by decide) ?_
      rw [nI_1]
      exact ih (i + 1) _ (by omega) (by omega)
set_option maxHeartbeats 4000000 in
set_option maxRecDepth 100000 in
theorem tX6_choose (l : Launch) (g : Geo) (sta : Nat → Nat) (h : HS) (a b : Int32) : CT (wX l g sta) 1 mX6_choose [.int a, .int b] h (AL h) := by
  refine CT.at [some (.int a), some (.int b), none, none, none] 3 rfl (by decide) (Nat.le_of_ble_eq_true rfl) (fun k K => ?_)
  refine aw_il1 K dX6_choose_0 ?_
  refine aw_if_lt (tgt := 9) K dX6_choose_1 (by decide) (fun b1 => ?_) (fun b1 => ?_)
  · refine aw_lconst (v := 0) K dX6_choose_9 (by decide) ?_
    refine aw_lret K rfl dX6_choose_10 ?_
    exact ⟨⟨_, rfl⟩, rfl⟩
  · refine aw_il1 K dX6_choose_4 ?_
    refine aw_il0 K dX6_choose_5 ?_
    refine aw_icmp_le (tgt := 11) K dX6_choose_6 (by decide) (fun b6 => ?_) (fun b6 => ?_)
    · obtain ⟨m, hm, rfl⟩ := nI_of b1
      refine aw_lconst (v := 1) K dX6_choose_11 (by decide) ?_
      refine aw_ls2 K dX6_choose_12 (by decide) rfl ?_
      refine aw_iconst (v := 0) K dX6_choose_13 (by decide) ?_
      refine aw_is4 K dX6_choose_14 (by decide) rfl ?_
      exact lpX6_choose K h a m hm (m + 1) 0 1 (by omega) (by omega)
    · refine aw_lconst (v := 0) K dX6_choose_9 (by decide) ?_
      refine aw_lret K rfl dX6_choose_10 ?_
      exact ⟨⟨_, rfl⟩, rfl⟩

set_option maxHeartbeats 4000000 in
set_option maxRecDepth 100000 in
theorem lpX6_commonPart {l : Launch} {g : Geo} {sta : Nat → Nat} {k : KT} (K : AOK (wX l g sta) mX6_commonPart k) (h : HS) (a b : Int64) :
    ∀ (n i : Nat) (x y : Int64), i ≤ 200 → 200 - i < n → AW (wX l g sta) (A1L h) 2 mX6_commonPart k 9 [some (.long a), none, some (.long b), none, some (.long x), none, some (.long y), none, some (.int (nI i)), none, none] [] h := by
  intro n
  induction n with
  | zero => intro i x y h1 h2; omega
  | succ n ih =>
    intro i x y h1 h2
    refine aw_il8 K dX6_commonPart_9 ?_
    refine aw_sipush (v := 200) K dX6_commonPart_11 (by decide) ?_
    refine aw_icmp_ge (tgt := 45) K dX6_commonPart_14 (by decide) (fun b14 => ?_) (fun b14 => ?_)
    · refine aw_lconst (v := 1) K dX6_commonPart_45 (by decide) ?_
      refine aw_ll4 K dX6_commonPart_46 ?_
      refine aw_mmaxL K (aw_in 709 (by decide +kernel) rfl) cw_maxl1 cw_max2 cw_maxl3 (by decide) (Nat.le_of_ble_eq_true rfl) dX6_commonPart_48 ?_
      refine aw_lret K rfl dX6_commonPart_51 ?_
      exact ⟨⟨_, max1_ne _, rfl⟩, rfl⟩
    · have hlt : i < 200 := by
        rcases Nat.lt_or_ge i 200 with q | q
        · exact q
        · exact absurd (nI_le (a := 200) q (by omega)) b14
      refine aw_ll6 K dX6_commonPart_17 ?_
      refine aw_lconst (v := 0) K dX6_commonPart_19 (by decide) ?_
      refine aw_lcmp K dX6_commonPart_20 ?_
      refine aw_if_eq (tgt := 45) K dX6_commonPart_21 (by decide) (fun b21 => ?_) (fun b21 => ?_)
      · refine aw_lconst (v := 1) K dX6_commonPart_45 (by decide) ?_
        refine aw_ll4 K dX6_commonPart_46 ?_
        refine aw_mmaxL K (aw_in 709 (by decide +kernel) rfl) cw_maxl1 cw_max2 cw_maxl3 (by decide) (Nat.le_of_ble_eq_true rfl) dX6_commonPart_48 ?_
        refine aw_lret K rfl dX6_commonPart_51 ?_
        exact ⟨⟨_, max1_ne _, rfl⟩, rfl⟩
      · refine aw_ll4 K dX6_commonPart_24 ?_
        refine aw_ll6 K dX6_commonPart_26 ?_
        refine aw_lrem K dX6_commonPart_28 (lgne b21) ?_
        refine aw_ls9 K dX6_commonPart_29 (by decide) rfl ?_
        refine aw_ll6 K dX6_commonPart_31 ?_
        refine aw_ls4 K dX6_commonPart_33 (by decide) rfl ?_
        refine aw_ll9 K dX6_commonPart_35 ?_
        refine aw_ls6 K dX6_commonPart_37 (by decide) rfl ?_
        refine aw_ii8 (v := _ + 1) K dX6_commonPart_39 rfl (by decide) rfl ?_
        refine aw_goto (tgt := 9) K dX6_commonPart_42 (by decide) ?_
        rw [nI_1]
        refine aw_sub [some (.long a), none, some (.long b), none, some (.long _), none, some (.long _), none, some (.int _), none, none] ⟨rfl, rfl, rfl, rfl, rfl, trivial⟩ ?_
        exact ih (i + 1) _ _ (by omega) (by omega)
set_option maxHeartbeats 4000000 in
set_option maxRecDepth 100000 in
theorem tX6_commonPart (l : Launch) (g : Geo) (sta : Nat → Nat) (h : HS) (a b : Int64) : CT (wX l g sta) 2 mX6_commonPart [.long a, .long b] h (A1L h) := by
  refine CT.at [some (.long a), none, some (.long b), none, none, none, none, none, none, none, none] 7 rfl (by decide) (Nat.le_of_ble_eq_true rfl) (fun k K => ?_)
  refine aw_ll0 K dX6_commonPart_0 ?_
  refine aw_ls4 K dX6_commonPart_1 (by decide) rfl ?_
  refine aw_ll2 K dX6_commonPart_3 ?_
  refine aw_ls6 K dX6_commonPart_4 (by decide) rfl ?_
  refine aw_iconst (v := 0) K dX6_commonPart_6 (by decide) ?_
  refine aw_is8 K dX6_commonPart_7 (by decide) rfl ?_
  exact lpX6_commonPart K h a b 201 0 a b (by omega) (by omega)

set_option maxHeartbeats 4000000 in
set_option maxRecDepth 100000 in
theorem tX6_inLowest (l : Launch) (g : Geo) (sta : Nat → Nat) (h : HS) (a b : Int64) (c : Int32) : CT (wX l g sta) 3 mX6_inLowest [.long a, .long b, .int c] h (AL h) := by
  refine CT.at [some (.long a), none, some (.long b), none, some (.int c), none, none] 2 rfl (by decide) (Nat.le_of_ble_eq_true rfl) (fun k K => ?_)
  refine aw_ll0 K dX6_inLowest_0 ?_
  refine aw_ll2 K dX6_inLowest_1 ?_
  refine aw_callS K (tX6_commonPart l g sta _ _ _) rfl (by decide) fX6_commonPart lX6_345 dX6_inLowest_2 rfl (Nat.le_of_ble_eq_true rfl) (fun o h2 hq => ?_)
  obtain ⟨⟨r, hr, rfl⟩, rfl⟩ := hq
  refine (show AW _ _ _ _ _ _ _ (.long r :: _) _ from ?_)
  refine aw_ls5 K dX6_inLowest_5 (by decide) rfl ?_
  refine aw_il4 K dX6_inLowest_7 ?_
  refine aw_if_eq (tgt := 19) K dX6_inLowest_9 (by decide) (fun b9 => ?_) (fun b9 => ?_)
  · refine aw_ll2 K dX6_inLowest_19 ?_
    refine aw_ll5 K dX6_inLowest_20 ?_
    refine aw_ldiv K dX6_inLowest_22 hr ?_
    refine aw_lret K rfl dX6_inLowest_23 ?_
    exact ⟨⟨_, rfl⟩, rfl⟩
  · refine aw_ll0 K dX6_inLowest_12 ?_
    refine aw_ll5 K dX6_inLowest_13 ?_
    refine aw_ldiv K dX6_inLowest_15 hr ?_
    refine aw_goto (tgt := 23) K dX6_inLowest_16 (by decide) ?_
    refine aw_lret K rfl dX6_inLowest_23 ?_
    exact ⟨⟨_, rfl⟩, rfl⟩

set_option maxHeartbeats 4000000 in
set_option maxRecDepth 100000 in
theorem lpX6_waysOf {l : Launch} {g : Geo} {sta : Nat → Nat} {k : KT} (K : AOK (wX l g sta) mX6_waysOf k) (h : HS) (a b c e : Int32) (m : Nat) (hm : m ≤ 24) :
    ∀ (n i : Nat) (acc : Int64), i ≤ 25 → 25 - i < n → AW (wX l g sta) (AL h) 3 mX6_waysOf k 29 [some (.ref (g.2.1 0)), some (.int a), some (.int b), some (.int (nI m)), some (.int e), some (.long acc), none, some (.int (nI i))] [] h := by
  intro n
  induction n with
  | zero => intro i acc h1 h2; omega
  | succ n ih =>
    intro i acc h1 h2
    refine aw_il7 K dX6_waysOf_29 ?_
    refine aw_il3 K dX6_waysOf_31 ?_
    refine aw_icmp_gt (tgt := 68) K dX6_waysOf_32 (by decide) (fun b32 => ?_) (fun b32 => ?_)
    · refine aw_ll5 K dX6_waysOf_68 ?_
      refine aw_lret K rfl dX6_waysOf_70 ?_
      exact ⟨⟨_, rfl⟩, rfl⟩
    · have hlt : i ≤ m := by
        rcases Nat.lt_or_ge m i with q | q
        · exact absurd (nI_lt q (by omega)) b32
        · exact q
      refine aw_il7 K dX6_waysOf_35 ?_
      refine aw_il2 K dX6_waysOf_37 ?_
      refine aw_icmp_gt (tgt := 68) K dX6_waysOf_38 (by decide) (fun b38 => ?_) (fun b38 => ?_)
      · refine aw_ll5 K dX6_waysOf_68 ?_
        refine aw_lret K rfl dX6_waysOf_70 ?_
        exact ⟨⟨_, rfl⟩, rfl⟩
      · refine aw_ll5 K dX6_waysOf_41 ?_
        refine aw_il3 K dX6_waysOf_43 ?_
        refine aw_il7 K dX6_waysOf_44 ?_
        refine aw_callS K (tX6_choose l g sta _ _ _) rfl (by decide) fX6_choose lX6_265 dX6_waysOf_46 rfl (Nat.le_of_ble_eq_true rfl) (fun o h2 hq => ?_)
        obtain ⟨⟨r, rfl⟩, rfl⟩ := hq
        refine (show AW _ _ _ _ _ _ _ (.long r :: _) _ from ?_)
        refine aw_il4 K dX6_waysOf_49 ?_
        refine aw_il2 K dX6_waysOf_51 ?_
        refine aw_il7 K dX6_waysOf_52 ?_
        refine aw_isub K dX6_waysOf_54 ?_
        refine aw_callS K (tX6_choose l g sta _ _ _) rfl (by decide) fX6_choose lX6_265 dX6_waysOf_55 rfl (Nat.le_of_ble_eq_true rfl) (fun o h2 hq => ?_)
        obtain ⟨⟨r2, rfl⟩, rfl⟩ := hq
        refine (show AW _ _ _ _ _ _ _ (.long r2 :: _) _ from ?_)
        refine aw_lmul K dX6_waysOf_58 ?_
        refine aw_ladd K dX6_waysOf_59 ?_
        refine aw_ls5 K dX6_waysOf_60 (by decide) rfl ?_
        refine aw_ii7 (v := _ + 1) K dX6_waysOf_62 rfl (by decide) rfl ?_
        refine aw_goto (tgt := 29) K dX6_waysOf_65 (by decide) ?_
        rw [nI_1]
        exact ih (i + 1) _ (by omega) (by omega)
set_option maxHeartbeats 4000000 in
set_option maxRecDepth 100000 in
theorem tX6_waysOf (l : Launch) (g : Geo) (sta : Nat → Nat) (h : HS) (a b : Int32) {N T Wn : Nat} (H : XW h N T Wn) : CT (wX l g sta) 3 mX6_waysOf [.ref (g.2.1 0), .int a, .int b] h (AL h) := by
  refine CT.at [some (.ref (g.2.1 0)), some (.int a), some (.int b), none, none, none, none, none] 5 rfl (by decide) (Nat.le_of_ble_eq_true rfl) (fun k K => ?_)
  refine aw_al0 K dX6_waysOf_0 ?_
  refine aw_il1 K dX6_waysOf_1 ?_
  refine aw_iconst (v := 0) K dX6_waysOf_2 (by decide) ?_
  refine aw_callV K (tX6_wordsWithin l g sta _ _ _ H) rfl (by decide) fX6_wordsWithin lX6_256 dX6_waysOf_3 rfl clsX6 rfl (Nat.le_of_ble_eq_true rfl) (fun o h2 hq => ?_)
  obtain ⟨⟨m1, hm1, rfl⟩, rfl⟩ := hq
  refine (show AW _ _ _ _ _ _ _ (.int (nI m1) :: _) _ from ?_)
  refine aw_is3 K dX6_waysOf_6 (by decide) rfl ?_
  refine aw_al0 K dX6_waysOf_7 ?_
  refine aw_getR K gX6_26 dX6_waysOf_8 rfl rfl ?_
  refine aw_getI K gX6_255 dX6_waysOf_11 rfl rfl ?_
  refine aw_il3 K dX6_waysOf_14 ?_
  refine aw_isub K dX6_waysOf_15 ?_
  refine aw_is4 K dX6_waysOf_16 (by decide) rfl ?_
  refine aw_lconst (v := 0) K dX6_waysOf_18 (by decide) ?_
  refine aw_ls5 K dX6_waysOf_19 (by decide) rfl ?_
  refine aw_al0 K dX6_waysOf_21 ?_
  refine aw_il1 K dX6_waysOf_22 ?_
  refine aw_iconst (v := 1) K dX6_waysOf_23 (by decide) ?_
  refine aw_callV K (tX6_wordsWithin l g sta _ _ _ H) rfl (by decide) fX6_wordsWithin lX6_256 dX6_waysOf_24 rfl clsX6 rfl (Nat.le_of_ble_eq_true rfl) (fun o h2 hq => ?_)
  obtain ⟨⟨m2, hm2, rfl⟩, rfl⟩ := hq
  refine (show AW _ _ _ _ _ _ _ (.int (nI m2) :: _) _ from ?_)
  refine aw_is7 K dX6_waysOf_27 (by decide) rfl ?_
  have hw := H.2.2.1.2
  exact lpX6_waysOf K _ a b 0 _ m1 (by omega) 26 m2 0 (by omega) (by omega)

/-- cells that a query may change -/
def scr (c : Nat) : Bool := c == 5 || c == 13 || c == 14 || c == 15 || c == 34 || c == 35 || c == 36 || c == 37 || c == 38 || c == 39
def XQ (h h' : HS) : Prop := (∀ c, scr c = false → h'.1 c = h.1 c) ∧ ∀ j, vp_in (h'.1 38 j) 14
theorem XQ.rf {h : HS} (h38 : ∀ j, vp_in (h.1 38 j) 14) : XQ h h := ⟨fun _ _ => rfl, h38⟩
theorem XQ.tr {h h1 h2 : HS} (a : XQ h h1) (b : XQ h1 h2) : XQ h h2 := ⟨fun c hc => (b.1 c hc).trans (a.1 c hc), b.2⟩
theorem XQ.row {h h1 : HS} {c0 : Nat} {f : Nat → Int32} (a : XQ h h1) (hs : scr c0 = true) (h8 : c0 ≠ 38) : XQ h (setR h1 c0 f) := by
  refine ⟨fun c hc => ?_, fun j => ?_⟩
  · rw [rdR, if_neg (fun q => by rw [q, hs] at hc; cases hc)]
    exact a.1 c hc
  · rw [rdR, if_neg (Ne.symm h8)]
    exact a.2 j
theorem XQ.pt {h h1 : HS} {c0 j0 : Nat} {v : Int32} (a : XQ h h1) (hs : scr c0 = true) (h8 : c0 ≠ 38) : XQ h (setI h1 c0 j0 v) := a.row hs h8
theorem XQ.fr {h h1 : HS} {j0 : Nat} {v : Int32} (a : XQ h h1) (hv : vp_in v 14) : XQ h (setI h1 38 j0 v) := by
  refine ⟨fun c hc => ?_, fun j => ?_⟩
  · show (setR h1 38 _).1 c = _
    rw [rdR, if_neg (fun q => by rw [q] at hc; cases hc)]
    exact a.1 c hc
  · rw [rdI]
    split
    · exact hv
    · exact a.2 j
theorem XW.q {h h' : HS} {N T Wn : Nat} (H : XW h N T Wn) (q : XQ h h') : XW h' N T Wn := by
  obtain ⟨h1, h2, h3, h4, h5, h6, h7, h8, h9⟩ := H
  unfold XW
  rw [q.1 1 rfl, q.1 2 rfl, q.1 3 rfl, q.1 21 rfl, q.1 22 rfl, q.1 24 rfl, q.1 26 rfl, q.1 27 rfl]
  exact ⟨h1, h2, h3, h4, h5, h6, h7, h8, q.2⟩
theorem XW.s {h : HS} {N T Wn : Nat} (H : XW h N T Wn) : XQ h h := XQ.rf H.2.2.2.2.2.2.2.2
def QV (h0 : HS) : Option Value → HS → Prop := fun o h' => o = none ∧ XQ h0 h'
def QI (h0 : HS) : Option Value → HS → Prop := fun o h' => (∃ r : Int32, o = some (.int r)) ∧ XQ h0 h'
def QL (h0 : HS) : Option Value → HS → Prop := fun o h' => (∃ r : Int64, o = some (.long r)) ∧ XQ h0 h'
theorem ix14 {a b : Int32} (ha : vp_in a 14) (hb : vp_in b 14) : vp_in (a * 14 + b) 196 := by
  obtain ⟨i, h1, rfl⟩ := vp_in_of ha (by decide)
  obtain ⟨j, h2, rfl⟩ := vp_in_of hb (by decide)
  rw [show (14 : Int32) = nI 14 from rfl, pk_mul, nI_add]
  exact vp_in_nI (by omega) (by decide)
theorem v13 : vp_in 13 14 := vp_in_nI (n := 13) (by decide) (by decide)
theorem v12 : vp_in 12 14 := vp_in_nI (n := 12) (by decide) (by decide)
set_option maxHeartbeats 4000000 in
set_option maxRecDepth 100000 in
theorem tX0_widen (l : Launch) (g : Geo) (sta : Nat → Nat) (h : HS) (a b c : Int32) (ha : vp_in a 14) (hb : vp_in b 14) (h0 : HS) (hq : XQ h0 h) : CT (wX l g sta) 1 mX0_widen [.ref (g.2.1 5), .int a, .int b, .int c] h (QV h0) := by
  refine CT.at [some (.ref (g.2.1 5)), some (.int a), some (.int b), some (.int c)] 0 rfl (by decide) (Nat.le_of_ble_eq_true rfl) (fun k K => ?_)
  refine aw_il3 K dX0_widen_0 ?_
  refine aw_if_le (tgt := 31) K dX0_widen_1 (by decide) (fun b1 => ?_) (fun b1 => ?_)
  · refine aw_vret K rfl dX0_widen_31 ?_
    exact ⟨rfl, hq⟩
  · refine aw_al0 K dX0_widen_4 ?_
    refine aw_getR K gX0_11 dX0_widen_5 rfl rfl ?_
    refine aw_il1 K dX0_widen_8 ?_
    refine aw_bipush (v := 14) K dX0_widen_9 (by decide) ?_
    refine aw_imul K dX0_widen_11 ?_
    refine aw_il2 K dX0_widen_12 ?_
    refine aw_iadd K dX0_widen_13 ?_
    refine aw_dup2_11 K dX0_widen_14 rfl rfl ?_
    refine aw_iald K dX0_widen_15 rfl (ix14 ha hb) ?_
    refine aw_il3 K dX0_widen_16 ?_
    refine aw_iadd K dX0_widen_17 ?_
    refine aw_iast K dX0_widen_18 rfl (ix14 ha hb) ?_
    refine aw_al0 K dX0_widen_19 ?_
    refine aw_getR K gX0_15 dX0_widen_20 rfl rfl ?_
    refine aw_il1 K dX0_widen_23 ?_
    refine aw_dup2_11 K dX0_widen_24 rfl rfl ?_
    refine aw_iald K dX0_widen_25 rfl ha ?_
    refine aw_iconst (v := 1) K dX0_widen_26 (by decide) ?_
    refine aw_il2 K dX0_widen_27 ?_
    refine aw_ishl K dX0_widen_28 ?_
    refine aw_ior K dX0_widen_29 ?_
    refine aw_iast K dX0_widen_30 rfl ha ?_
    refine aw_vret K rfl dX0_widen_31 ?_
    exact ⟨rfl, (hq.pt rfl (by decide)).pt rfl (by decide)⟩

set_option maxHeartbeats 4000000 in
set_option maxRecDepth 100000 in
theorem tX0_give (l : Launch) (g : Geo) (sta : Nat → Nat) (h : HS) (a c : Int32) (ha : vp_in a 14) (h0 : HS) (hq : XQ h0 h) : CT (wX l g sta) 2 mX0_give [.ref (g.2.1 5), .int a, .int c] h (QV h0) := by
  refine CT.at [some (.ref (g.2.1 5)), some (.int a), some (.int c)] 0 rfl (by decide) (Nat.le_of_ble_eq_true rfl) (fun k K => ?_)
  refine aw_al0 K dX0_give_0 ?_
  refine aw_bipush (v := 13) K dX0_give_1 (by decide) ?_
  refine aw_il1 K dX0_give_3 ?_
  refine aw_il2 K dX0_give_4 ?_
  refine aw_callV K (tX0_widen l g sta _ _ _ _ v13 ha h0 hq) rfl (by decide) fX0_widen lX0_36 dX0_give_5 rfl clsX0 rfl (Nat.le_of_ble_eq_true rfl) (fun o h2 hq => ?_)
  obtain ⟨rfl, hq2⟩ := hq
  refine aw_vret K rfl dX0_give_8 ?_
  exact ⟨rfl, hq2⟩

set_option maxHeartbeats 4000000 in
set_option maxRecDepth 100000 in
theorem tX0_join (l : Launch) (g : Geo) (sta : Nat → Nat) (h : HS) (a b c : Int32) (ha : vp_in a 14) (hb : vp_in b 14) (h0 : HS) (hq : XQ h0 h) : CT (wX l g sta) 2 mX0_join [.ref (g.2.1 5), .int a, .int b, .int c] h (QV h0) := by
  refine CT.at [some (.ref (g.2.1 5)), some (.int a), some (.int b), some (.int c)] 0 rfl (by decide) (Nat.le_of_ble_eq_true rfl) (fun k K => ?_)
  refine aw_al0 K dX0_join_0 ?_
  refine aw_il1 K dX0_join_1 ?_
  refine aw_il2 K dX0_join_2 ?_
  refine aw_il3 K dX0_join_3 ?_
  refine aw_callV K (tX0_widen l g sta _ _ _ _ ha hb h0 hq) rfl (by decide) fX0_widen lX0_36 dX0_join_4 rfl clsX0 rfl (Nat.le_of_ble_eq_true rfl) (fun o h2 hq => ?_)
  obtain ⟨rfl, hq2⟩ := hq
  refine aw_al0 K dX0_join_7 ?_
  refine aw_il2 K dX0_join_8 ?_
  refine aw_il1 K dX0_join_9 ?_
  refine aw_il3 K dX0_join_10 ?_
  refine aw_callV K (tX0_widen l g sta _ _ _ _ hb ha h0 hq2) rfl (by decide) fX0_widen lX0_36 dX0_join_11 rfl clsX0 rfl (Nat.le_of_ble_eq_true rfl) (fun o h2 hq => ?_)
  obtain ⟨rfl, hq3⟩ := hq
  refine aw_vret K rfl dX0_join_14 ?_
  exact ⟨rfl, hq3⟩

set_option maxHeartbeats 4000000 in
set_option maxRecDepth 100000 in
theorem lp2X6_layFlow {l : Launch} {g : Geo} {sta : Nat → Nat} {k : KT} (K : AOK (wX l g sta) mX6_layFlow k) (h0 : HS) {N T Wn : Nat} (H0 : XW h0 N T Wn) :
    ∀ (n i : Nat) (h : HS), i ≤ T → T - i < n → XQ h0 h → AW (wX l g sta) (QV h0) 5 mX6_layFlow k 41 [some (.ref (g.2.1 0)), some (.int (nI i))] [] h := by
  intro n
  induction n with
  | zero => intro i h h1 h2; omega
  | succ n ih =>
    intro i h h1 h2 hx
    have H := H0.q hx
    have hT := H.2.1.2
    refine aw_il1 K dX6_layFlow_41 ?_
    refine aw_al0 K dX6_layFlow_42 ?_
    refine aw_getR K gX6_19 dX6_layFlow_43 rfl rfl ?_
    refine aw_getI K gX6_109 dX6_layFlow_46 rfl rfl ?_
    rw [H.2.1.1]
    refine aw_icmp_ge (tgt := 88) K dX6_layFlow_49 (by decide) (fun b49 => ?_) (fun b49 => ?_)
    · refine aw_vret K rfl dX6_layFlow_88 ?_
      exact ⟨rfl, hx⟩
    · have hlt : i < T := by
        rcases Nat.lt_or_ge i T with q | q
        · exact q
        · exact absurd (nI_le q (by omega)) b49
      refine aw_al0 K dX6_layFlow_52 ?_
      refine aw_getR K gX6_40 dX6_layFlow_53 rfl rfl ?_
      refine aw_al0 K dX6_layFlow_56 ?_
      refine aw_getR K gX6_19 dX6_layFlow_57 rfl rfl ?_
      refine aw_getR K gX6_122 dX6_layFlow_60 rfl rfl ?_
      refine aw_il1 K dX6_layFlow_63 ?_
      refine aw_iald K dX6_layFlow_64 rfl (vp_in_nI (by omega) (by decide)) ?_
      refine aw_al0 K dX6_layFlow_65 ?_
      refine aw_getR K gX6_19 dX6_layFlow_66 rfl rfl ?_
      refine aw_getR K gX6_125 dX6_layFlow_69 rfl rfl ?_
      refine aw_il1 K dX6_layFlow_72 ?_
      refine aw_iald K dX6_layFlow_73 rfl (vp_in_nI (by omega) (by decide)) ?_
      refine aw_al0 K dX6_layFlow_74 ?_
      refine aw_il1 K dX6_layFlow_75 ?_
      refine aw_callV_I K (tX6_roomOf l g sta _ _ (vp_in_nI (by omega) (by decide)) H) rfl (by decide) fX6_roomOf lX6_137 dX6_layFlow_76 rfl clsX6 rfl (Nat.le_of_ble_eq_true rfl) ?_
      refine aw_callV K (tX0_join l g sta _ _ _ _ (vp_mono (H.2.2.2.1 _) (by decide)) (vp_mono (H.2.2.2.2.1 _) (by decide)) h0 hx) rfl (by decide) fX0_join lX6_338 dX6_layFlow_79 rfl clsX0 rfl (Nat.le_of_ble_eq_true rfl) (fun o h2 hq => ?_)
      obtain ⟨rfl, hq2⟩ := hq
      refine aw_ii1 (v := _ + 1) K dX6_layFlow_82 rfl (by decide) rfl ?_
      refine aw_goto (tgt := 41) K dX6_layFlow_85 (by decide) ?_
      rw [nI_1]
      exact ih (i + 1) _ (by omega) (by omega) hq2
set_option maxHeartbeats 4000000 in
set_option maxRecDepth 100000 in
theorem lp1X6_layFlow {l : Launch} {g : Geo} {sta : Nat → Nat} {k : KT} (K : AOK (wX l g sta) mX6_layFlow k) (h0 : HS) {N T Wn : Nat} (H0 : XW h0 N T Wn) :
    ∀ (n i : Nat) (h : HS), i ≤ N → N - i < n → XQ h0 h → AW (wX l g sta) (QV h0) 5 mX6_layFlow k 9 [some (.ref (g.2.1 0)), some (.int (nI i))] [] h := by
  intro n
  induction n with
  | zero => intro i h h1 h2; omega
  | succ n ih =>
    intro i h h1 h2 hx
    have H := H0.q hx
    have hT := H.1.2
    refine aw_il1 K dX6_layFlow_9 ?_
    refine aw_al0 K dX6_layFlow_10 ?_
    refine aw_getR K gX6_12 dX6_layFlow_11 rfl rfl ?_
    refine aw_getI K gX6_161 dX6_layFlow_14 rfl rfl ?_
    rw [H.1.1]
    refine aw_icmp_ge (tgt := 39) K dX6_layFlow_17 (by decide) (fun b17 => ?_) (fun b17 => ?_)
    · refine aw_iconst (v := 0) K dX6_layFlow_39 (by decide) ?_
      refine aw_is1 K dX6_layFlow_40 (by decide) rfl ?_
      exact lp2X6_layFlow K h0 H0 (T + 1) 0 h (by omega) (by omega) hx
    · have hlt : i < N := by
        rcases Nat.lt_or_ge i N with q | q
        · exact q
        · exact absurd (nI_le q (by omega)) b17
      refine aw_al0 K dX6_layFlow_20 ?_
      refine aw_getR K gX6_40 dX6_layFlow_21 rfl rfl ?_
      refine aw_il1 K dX6_layFlow_24 ?_
      refine aw_al0 K dX6_layFlow_25 ?_
      refine aw_il1 K dX6_layFlow_26 ?_
      refine aw_callV_I K (tX6_givenTo l g sta _ _ (vp_in_nI (by omega) (by decide))) rfl (by decide) fX6_givenTo lX6_152 dX6_layFlow_27 rfl clsX6 rfl (Nat.le_of_ble_eq_true rfl) ?_
      refine aw_callV K (tX0_give l g sta _ _ _ (vp_in_nI (by omega) (by decide)) h0 hx) rfl (by decide) fX0_give lX6_335 dX6_layFlow_30 rfl clsX0 rfl (Nat.le_of_ble_eq_true rfl) (fun o h2 hq => ?_)
      obtain ⟨rfl, hq2⟩ := hq
      refine aw_ii1 (v := _ + 1) K dX6_layFlow_33 rfl (by decide) rfl ?_
      refine aw_goto (tgt := 9) K dX6_layFlow_36 (by decide) ?_
      rw [nI_1]
      exact ih (i + 1) _ (by omega) (by omega) hq2
set_option maxHeartbeats 4000000 in
set_option maxRecDepth 100000 in
theorem tX6_layFlow (l : Launch) (g : Geo) (sta : Nat → Nat) (h : HS) {N T Wn : Nat} (H : XW h N T Wn) : CT (wX l g sta) 5 mX6_layFlow [.ref (g.2.1 0)] h (QV h) := by
  refine CT.at [some (.ref (g.2.1 0)), none] 1 rfl (by decide) (Nat.le_of_ble_eq_true rfl) (fun k K => ?_)
  refine aw_al0 K dX6_layFlow_0 ?_
  refine aw_getR K gX6_40 dX6_layFlow_1 rfl rfl ?_
  refine aw_callV_V K (tX0_clear l g sta _) rfl (by decide) fX0_clear lX6_332 dX6_layFlow_4 rfl clsX0 rfl (Nat.le_of_ble_eq_true rfl) ?_
  refine aw_iconst (v := 0) K dX6_layFlow_7 (by decide) ?_
  refine aw_is1 K dX6_layFlow_8 (by decide) rfl ?_
  exact lp1X6_layFlow K h H (N + 1) 0 _ (by omega) (by omega) ((H.s.row rfl (by decide)).row rfl (by decide))

