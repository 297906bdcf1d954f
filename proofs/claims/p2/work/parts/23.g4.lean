theorem inN {a x : Int32} {N m : Nat} (hx : x = nI N) (hN : N ≤ m) (hm : m < 2 ^ 31) (h : 0 ≤ a ∧ a ≤ x - 1) : vp_in a m := by
  subst hx
  obtain ⟨j, hj, rfl⟩ := nI_of (Int32.not_lt.mpr h.1)
  cases N with
  | zero => exact absurd (Int32.le_trans h.1 h.2) (by decide)
  | succ n =>
    rw [nI_pred] at h
    have := (nI_leI hj (by omega)).mp h.2
    exact vp_in_nI (by omega) hm
theorem inB {a : Int32} {M : Nat} (hM : M < 2 ^ 31 - 1) (h : 0 ≤ a ∧ a ≤ nI M) : vp_in a (M + 1) := by
  obtain ⟨j, hj, rfl⟩ := nI_of (Int32.not_lt.mpr h.1)
  have := (nI_leI hj (by omega)).mp h.2
  exact vp_in_nI (by omega) (by omega)
theorem shN {x : Int32} {N : Nat} (hx : x = nI N) (hN : N ≤ 12) : (1 : Int32) <<< (x &&& 31) = nI (2 ^ N) := by
  subst hx
  have q : ∀ n : Fin 13, (1 : Int32) <<< (nI n.1 &&& 31) = nI (2 ^ n.1) := by decide +kernel
  exact q ⟨N, by omega⟩
theorem p2N {N : Nat} (hN : N ≤ 12) : 2 ^ N ≤ 4096 := by
  have q : ∀ n : Fin 13, 2 ^ n.1 ≤ 4096 := by decide
  exact q ⟨N, by omega⟩
section LK
variable {w : WT} {P : Option Value → HS → Prop} {d : Nat} {mi : MI} {k : KT} {pc : Nat} {L : List (Option Value)} {st : List Value} {h : HS}
theorem aw_lk2 (K : AOK w mi k) {dflt a oa b ob : Int} {len ta tb td : Nat} {x : Int32} (hd : decode mi.2.1 pc = .ok (.lookupswitch dflt #[(a, oa), (b, ob)], len)) (hab : a < b) (ea : (pc : Int) + oa = (ta : Int)) (eb : (pc : Int) + ob = (tb : Int)) (ed : (pc : Int) + dflt = (td : Int))
    (h1 : x.toInt = a → AW w P d mi k ta L st h) (h2 : x.toInt = b → AW w P d mi k tb L st h) (h3 : x.toInt ≠ a → x.toInt ≠ b → AW w P d mi k td L st h) : AW w P d mi k pc L (.int x :: st) h := by
  have hp : ((#[(a, oa), (b, ob)] : Array (Int × Int)).toList.zip ((#[(a, oa), (b, ob)] : Array (Int × Int)).toList.drop 1)).all (fun (a, next) => a.1 < next.1) = true := by
    simp [hab]
  by_cases q1 : x.toInt = a
  · have hn := h1 q1
    obtain ⟨p, e, s, m, args, below, meth, c, A⟩ := k
    exact fun H l1 la a1 a2 a3 a4 => lv_lookup K.1 K.2.1 hd hp (by simp [Op.lookupswitch.offset, q1]) ea (hn H l1 la a1 a2 a3 a4)
  · by_cases q2 : x.toInt = b
    · have hn := h2 q2
      obtain ⟨p, e, s, m, args, below, meth, c, A⟩ := k
      exact fun H l1 la a1 a2 a3 a4 => lv_lookup K.1 K.2.1 hd hp (by simp [Op.lookupswitch.offset, q2, Int.ne_of_lt hab]) eb (hn H l1 la a1 a2 a3 a4)
    · have hn := h3 q1 q2
      obtain ⟨p, e, s, m, args, below, meth, c, A⟩ := k
      exact fun H l1 la a1 a2 a3 a4 => lv_lookup K.1 K.2.1 hd hp (by simp [Op.lookupswitch.offset, Ne.symm q1, Ne.symm q2]) ed (hn H l1 la a1 a2 a3 a4)
end LK
set_option maxHeartbeats 4000000 in
set_option maxRecDepth 100000 in
theorem tX6_tieOf (l : Launch) (g : Geo) (sta : Nat → Nat) (h : HS) (a b : Int32) {N T Wn : Nat} (H : XW h N T Wn) : CT (wX l g sta) 7 mX6_tieOf [.ref (g.2.1 0), .int a, .int b] h (QI h) := by
  refine CT.at [some (.ref (g.2.1 0)), some (.int a), some (.int b)] 0 rfl (by decide) (Nat.le_of_ble_eq_true rfl) (fun k K => ?_)
  refine aw_al0 K dX6_tieOf_0 ?_
  refine aw_il1 K dX6_tieOf_1 ?_
  refine aw_callV_I K (tX6_isTie l g sta _ _) rfl (by decide) fX6_isTie lX6_119 dX6_tieOf_2 rfl clsX6 rfl (Nat.le_of_ble_eq_true rfl) ?_
  refine aw_if_ne (tgt := 10) K dX6_tieOf_5 (by decide) (fun b5 => ?_) (fun b5 => ?_)
  · have ha : vp_in a 24 := inN H.2.1.1 H.2.1.2 (by decide) (bI_1.mp b5)
    refine aw_il2 K dX6_tieOf_10 ?_
    refine aw_tsw (tgt := 104) K dX6_tieOf_11 (by decide) (by decide) (by decide) ⟨fun s0 => ?_, fun s1 => ?_, fun s2 => ?_, fun s3 => ?_, fun s4 => ?_, fun s5 => ?_, trivial⟩ (fun sd => ?_)
    · show AW _ _ _ _ _ 48 _ _ _
      refine aw_al0 K dX6_tieOf_48 ?_
      refine aw_getR K gX6_19 dX6_tieOf_49 rfl rfl ?_
      refine aw_getR K gX6_122 dX6_tieOf_52 rfl rfl ?_
      refine aw_il1 K dX6_tieOf_55 ?_
      refine aw_iald K dX6_tieOf_56 rfl ha ?_
      refine aw_iret K rfl dX6_tieOf_57 ?_
      exact ⟨⟨_, rfl⟩, H.s⟩
    · show AW _ _ _ _ _ 58 _ _ _
      refine aw_al0 K dX6_tieOf_58 ?_
      refine aw_getR K gX6_19 dX6_tieOf_59 rfl rfl ?_
      refine aw_getR K gX6_125 dX6_tieOf_62 rfl rfl ?_
      refine aw_il1 K dX6_tieOf_65 ?_
      refine aw_iald K dX6_tieOf_66 rfl ha ?_
      refine aw_iret K rfl dX6_tieOf_67 ?_
      exact ⟨⟨_, rfl⟩, H.s⟩
    · show AW _ _ _ _ _ 68 _ _ _
      refine aw_al0 K dX6_tieOf_68 ?_
      refine aw_getR K gX6_19 dX6_tieOf_69 rfl rfl ?_
      refine aw_getR K gX6_128 dX6_tieOf_72 rfl rfl ?_
      refine aw_il1 K dX6_tieOf_75 ?_
      refine aw_iald K dX6_tieOf_76 rfl ha ?_
      refine aw_iret K rfl dX6_tieOf_77 ?_
      exact ⟨⟨_, rfl⟩, H.s⟩
    · show AW _ _ _ _ _ 78 _ _ _
      refine aw_al0 K dX6_tieOf_78 ?_
      refine aw_getR K gX6_19 dX6_tieOf_79 rfl rfl ?_
      refine aw_getR K gX6_131 dX6_tieOf_82 rfl rfl ?_
      refine aw_il1 K dX6_tieOf_85 ?_
      refine aw_iald K dX6_tieOf_86 rfl ha ?_
      refine aw_iret K rfl dX6_tieOf_87 ?_
      exact ⟨⟨_, rfl⟩, H.s⟩
    · show AW _ _ _ _ _ 88 _ _ _
      refine aw_al0 K dX6_tieOf_88 ?_
      refine aw_getR K gX6_19 dX6_tieOf_89 rfl rfl ?_
      refine aw_getR K gX6_134 dX6_tieOf_92 rfl rfl ?_
      refine aw_il1 K dX6_tieOf_95 ?_
      refine aw_iald K dX6_tieOf_96 rfl ha ?_
      refine aw_iret K rfl dX6_tieOf_97 ?_
      exact ⟨⟨_, rfl⟩, H.s⟩
    · show AW _ _ _ _ _ 98 _ _ _
      refine aw_al0 K dX6_tieOf_98 ?_
      refine aw_il1 K dX6_tieOf_99 ?_
      refine aw_callV_I K (tX6_roomOf l g sta _ _ ha H) rfl (by decide) fX6_roomOf lX6_137 dX6_tieOf_100 rfl clsX6 rfl (Nat.le_of_ble_eq_true rfl) ?_
      refine aw_iret K rfl dX6_tieOf_103 ?_
      exact ⟨⟨_, rfl⟩, H.s⟩
    · show AW _ _ _ _ _ 104 _ _ _
      refine aw_iconst (v := (-1)) K dX6_tieOf_104 (by decide) ?_
      refine aw_iret K rfl dX6_tieOf_105 ?_
      exact ⟨⟨_, rfl⟩, H.s⟩
  · refine aw_iconst (v := (-1)) K dX6_tieOf_8 (by decide) ?_
    refine aw_iret K rfl dX6_tieOf_9 ?_
    exact ⟨⟨_, rfl⟩, H.s⟩

set_option maxHeartbeats 4000000 in
set_option maxRecDepth 100000 in
theorem tX6_of (l : Launch) (g : Geo) (sta : Nat → Nat) (h : HS) (a b : Int32) {N T Wn : Nat} (H : XW h N T Wn) : CT (wX l g sta) 7 mX6_of [.ref (g.2.1 0), .int a, .int b] h (QI h) := by
  refine CT.at [some (.ref (g.2.1 0)), some (.int a), some (.int b)] 0 rfl (by decide) (Nat.le_of_ble_eq_true rfl) (fun k K => ?_)
  refine aw_al0 K dX6_of_0 ?_
  refine aw_il1 K dX6_of_1 ?_
  refine aw_callV_I K (tX6_isName l g sta _ _) rfl (by decide) fX6_isName lX6_84 dX6_of_2 rfl clsX6 rfl (Nat.le_of_ble_eq_true rfl) ?_
  refine aw_if_ne (tgt := 10) K dX6_of_5 (by decide) (fun b5 => ?_) (fun b5 => ?_)
  · have ha : vp_in a 12 := inN H.1.1 H.1.2 (by decide) (bI_1.mp b5)
    refine aw_il2 K dX6_of_10 ?_
    refine aw_tsw (tgt := 121) K dX6_of_11 (by decide) (by decide) (by decide) ⟨fun s0 => ?_, fun s1 => ?_, fun s2 => ?_, fun s3 => ?_, fun s4 => ?_, fun s5 => ?_, fun s6 => ?_, trivial⟩ (fun sd => ?_)
    · show AW _ _ _ _ _ 52 _ _ _
      refine aw_al0 K dX6_of_52 ?_
      refine aw_getR K gX6_12 dX6_of_53 rfl rfl ?_
      refine aw_getR K gX6_143 dX6_of_56 rfl rfl ?_
      refine aw_il1 K dX6_of_59 ?_
      refine aw_iald K dX6_of_60 rfl ha ?_
      refine aw_iret K rfl dX6_of_61 ?_
      exact ⟨⟨_, rfl⟩, H.s⟩
    · show AW _ _ _ _ _ 62 _ _ _
      refine aw_al0 K dX6_of_62 ?_
      refine aw_getR K gX6_12 dX6_of_63 rfl rfl ?_
      refine aw_getR K gX6_88 dX6_of_66 rfl rfl ?_
      refine aw_il1 K dX6_of_69 ?_
      refine aw_zald K dX6_of_70 rfl ha ?_
      refine aw_callS_I K (tX6_oneIf l g sta _ _) rfl (by decide) fX6_oneIf lX6_92 dX6_of_71 rfl (Nat.le_of_ble_eq_true rfl) ?_
      refine aw_iret K rfl dX6_of_74 ?_
      exact ⟨⟨_, rfl⟩, H.s⟩
    · show AW _ _ _ _ _ 75 _ _ _
      refine aw_al0 K dX6_of_75 ?_
      refine aw_getR K gX6_12 dX6_of_76 rfl rfl ?_
      refine aw_getR K gX6_96 dX6_of_79 rfl rfl ?_
      refine aw_il1 K dX6_of_82 ?_
      refine aw_zald K dX6_of_83 rfl ha ?_
      refine aw_callS_I K (tX6_oneIf l g sta _ _) rfl (by decide) fX6_oneIf lX6_92 dX6_of_84 rfl (Nat.le_of_ble_eq_true rfl) ?_
      refine aw_iret K rfl dX6_of_87 ?_
      exact ⟨⟨_, rfl⟩, H.s⟩
    · show AW _ _ _ _ _ 88 _ _ _
      refine aw_al0 K dX6_of_88 ?_
      refine aw_il1 K dX6_of_89 ?_
      refine aw_callV_I K (tX6_isFined l g sta _ _ ha) rfl (by decide) fX6_isFined lX6_146 dX6_of_90 rfl clsX6 rfl (Nat.le_of_ble_eq_true rfl) ?_
      refine aw_callS_I K (tX6_oneIf l g sta _ _) rfl (by decide) fX6_oneIf lX6_92 dX6_of_93 rfl (Nat.le_of_ble_eq_true rfl) ?_
      refine aw_iret K rfl dX6_of_96 ?_
      exact ⟨⟨_, rfl⟩, H.s⟩
    · show AW _ _ _ _ _ 97 _ _ _
      refine aw_al0 K dX6_of_97 ?_
      refine aw_getR K gX6_12 dX6_of_98 rfl rfl ?_
      refine aw_getR K gX6_149 dX6_of_101 rfl rfl ?_
      refine aw_il1 K dX6_of_104 ?_
      refine aw_iald K dX6_of_105 rfl ha ?_
      refine aw_iret K rfl dX6_of_106 ?_
      exact ⟨⟨_, rfl⟩, H.s⟩
    · show AW _ _ _ _ _ 107 _ _ _
      refine aw_al0 K dX6_of_107 ?_
      refine aw_il1 K dX6_of_108 ?_
      refine aw_callV_I K (tX6_givenTo l g sta _ _ ha) rfl (by decide) fX6_givenTo lX6_152 dX6_of_109 rfl clsX6 rfl (Nat.le_of_ble_eq_true rfl) ?_
      refine aw_iret K rfl dX6_of_112 ?_
      exact ⟨⟨_, rfl⟩, H.s⟩
    · show AW _ _ _ _ _ 113 _ _ _
      refine aw_al0 K dX6_of_113 ?_
      refine aw_iconst (v := 1) K dX6_of_114 (by decide) ?_
      refine aw_il1 K dX6_of_115 ?_
      refine aw_ishl K dX6_of_116 ?_
      refine aw_callV K (tX6_openTies l g sta _ _ H) rfl (by decide) fX6_openTies lX6_155 dX6_of_117 rfl clsX6 rfl (Nat.le_of_ble_eq_true rfl) (fun o h2 hq => ?_)
      obtain ⟨⟨r, rfl⟩, rfl⟩ := hq
      refine (show AW _ _ _ _ _ _ _ (.int r :: _) _ from ?_)
      refine aw_iret K rfl dX6_of_120 ?_
      exact ⟨⟨_, rfl⟩, H.s⟩
    · show AW _ _ _ _ _ 121 _ _ _
      refine aw_iconst (v := (-1)) K dX6_of_121 (by decide) ?_
      refine aw_iret K rfl dX6_of_122 ?_
      exact ⟨⟨_, rfl⟩, H.s⟩
  · refine aw_iconst (v := (-1)) K dX6_of_8 (by decide) ?_
    refine aw_iret K rfl dX6_of_9 ?_
    exact ⟨⟨_, rfl⟩, H.s⟩

set_option maxHeartbeats 4000000 in
set_option maxRecDepth 100000 in
theorem tX6_trust (l : Launch) (g : Geo) (sta : Nat → Nat) (h : HS) (a : Int32) {N T Wn : Nat} (H : XW h N T Wn) : CT (wX l g sta) 7 mX6_trust [.ref (g.2.1 0), .int a] h (QI h) := by
  refine CT.at [some (.ref (g.2.1 0)), some (.int a)] 0 rfl (by decide) (Nat.le_of_ble_eq_true rfl) (fun k K => ?_)
  refine aw_al0 K dX6_trust_0 ?_
  refine aw_il1 K dX6_trust_1 ?_
  refine aw_callV_I K (tX6_isName l g sta _ _) rfl (by decide) fX6_isName lX6_84 dX6_trust_2 rfl clsX6 rfl (Nat.le_of_ble_eq_true rfl) ?_
  refine aw_if_ne (tgt := 10) K dX6_trust_5 (by decide) (fun b5 => ?_) (fun b5 => ?_)
  · refine aw_al0 K dX6_trust_10 ?_
    refine aw_callV K (tX6_layFlow l g sta _ H) rfl (by decide) fX6_layFlow lX6_190 dX6_trust_11 rfl clsX6 rfl (Nat.le_of_ble_eq_true rfl) (fun o h2 hq => ?_)
    obtain ⟨rfl, hx⟩ := hq
    refine aw_al0 K dX6_trust_14 ?_
    refine aw_getR K gX6_40 dX6_trust_15 rfl rfl ?_
    refine aw_iconst (v := 1) K dX6_trust_18 (by decide) ?_
    refine aw_il1 K dX6_trust_19 ?_
    refine aw_ishl K dX6_trust_20 ?_
    refine aw_callV K (tX0_most l g sta _ _ h hx) rfl (by decide) fX0_most lX6_193 dX6_trust_21 rfl clsX0 rfl (Nat.le_of_ble_eq_true rfl) (fun o h2 hq => ?_)
    obtain ⟨⟨r, rfl⟩, hx2⟩ := hq
    refine (show AW _ _ _ _ _ _ _ (.int r :: _) _ from ?_)
    refine aw_iret K rfl dX6_trust_24 ?_
    exact ⟨⟨_, rfl⟩, hx2⟩
  · refine aw_iconst (v := (-1)) K dX6_trust_8 (by decide) ?_
    refine aw_iret K rfl dX6_trust_9 ?_
    exact ⟨⟨_, rfl⟩, H.s⟩

set_option maxHeartbeats 4000000 in
set_option maxRecDepth 100000 in
theorem tX6_heap (l : Launch) (g : Geo) (sta : Nat → Nat) (h : HS) (a : Int32) {N T Wn : Nat} (H : XW h N T Wn) : CT (wX l g sta) 7 mX6_heap [.ref (g.2.1 0), .int a] h (QI h) := by
  refine CT.at [some (.ref (g.2.1 0)), some (.int a)] 0 rfl (by decide) (Nat.le_of_ble_eq_true rfl) (fun k K => ?_)
  refine aw_al0 K dX6_heap_0 ?_
  refine aw_il1 K dX6_heap_1 ?_
  refine aw_callV_I K (tX6_isHeap l g sta _ _) rfl (by decide) fX6_isHeap lX6_196 dX6_heap_2 rfl clsX6 rfl (Nat.le_of_ble_eq_true rfl) ?_
  refine aw_if_ne (tgt := 10) K dX6_heap_5 (by decide) (fun b5 => ?_) (fun b5 => ?_)
  · refine aw_al0 K dX6_heap_10 ?_
    refine aw_callV K (tX6_layFlow l g sta _ H) rfl (by decide) fX6_layFlow lX6_190 dX6_heap_11 rfl clsX6 rfl (Nat.le_of_ble_eq_true rfl) (fun o h2 hq => ?_)
    obtain ⟨rfl, hx⟩ := hq
    refine aw_al0 K dX6_heap_14 ?_
    refine aw_getR K gX6_40 dX6_heap_15 rfl rfl ?_
    refine aw_il1 K dX6_heap_18 ?_
    refine aw_callV K (tX0_most l g sta _ _ h hx) rfl (by decide) fX0_most lX6_193 dX6_heap_19 rfl clsX0 rfl (Nat.le_of_ble_eq_true rfl) (fun o h2 hq => ?_)
    obtain ⟨⟨r, rfl⟩, hx2⟩ := hq
    refine (show AW _ _ _ _ _ _ _ (.int r :: _) _ from ?_)
    refine aw_iret K rfl dX6_heap_22 ?_
    exact ⟨⟨_, rfl⟩, hx2⟩
  · refine aw_iconst (v := (-1)) K dX6_heap_8 (by decide) ?_
    refine aw_iret K rfl dX6_heap_9 ?_
    exact ⟨⟨_, rfl⟩, H.s⟩

set_option maxHeartbeats 4000000 in
set_option maxRecDepth 100000 in
theorem tX6_cut (l : Launch) (g : Geo) (sta : Nat → Nat) (h : HS) (a b : Int32) {N T Wn : Nat} (H : XW h N T Wn) : CT (wX l g sta) 7 mX6_cut [.ref (g.2.1 0), .int a, .int b] h (QI h) := by
  refine CT.at [some (.ref (g.2.1 0)), some (.int a), some (.int b), none] 1 rfl (by decide) (Nat.le_of_ble_eq_true rfl) (fun k K => ?_)
  refine aw_al0 K dX6_cut_0 ?_
  refine aw_il1 K dX6_cut_1 ?_
  refine aw_callV_I K (tX6_isHeap l g sta _ _) rfl (by decide) fX6_isHeap lX6_196 dX6_cut_2 rfl clsX6 rfl (Nat.le_of_ble_eq_true rfl) ?_
  refine aw_if_eq (tgt := 21) K dX6_cut_5 (by decide) (fun b5 => ?_) (fun b5 => ?_)
  · refine aw_iconst (v := (-1)) K dX6_cut_21 (by decide) ?_
    refine aw_iret K rfl dX6_cut_22 ?_
    exact ⟨⟨_, rfl⟩, H.s⟩
  · refine aw_il1 K dX6_cut_8 ?_
    refine aw_if_eq (tgt := 21) K dX6_cut_9 (by decide) (fun b9 => ?_) (fun b9 => ?_)
    · refine aw_iconst (v := (-1)) K dX6_cut_21 (by decide) ?_
      refine aw_iret K rfl dX6_cut_22 ?_
      exact ⟨⟨_, rfl⟩, H.s⟩
    · refine aw_il2 K dX6_cut_12 ?_
      refine aw_iconst (v := 0) K dX6_cut_13 (by decide) ?_
      refine aw_iconst (v := 2) K dX6_cut_14 (by decide) ?_
      refine aw_callS_I K (tX6_within l g sta _ _ _ _) rfl (by decide) fX6_within lX6_76 dX6_cut_15 rfl (Nat.le_of_ble_eq_true rfl) ?_
      refine aw_if_ne (tgt := 23) K dX6_cut_18 (by decide) (fun b18 => ?_) (fun b18 => ?_)
      · refine aw_al0 K dX6_cut_23 ?_
        refine aw_callV K (tX6_layFlow l g sta _ H) rfl (by decide) fX6_layFlow lX6_190 dX6_cut_24 rfl clsX6 rfl (Nat.le_of_ble_eq_true rfl) (fun o h2 hq => ?_)
        obtain ⟨rfl, hx⟩ := hq
        refine aw_al0 K dX6_cut_27 ?_
        refine aw_getR K gX6_40 dX6_cut_28 rfl rfl ?_
        refine aw_il1 K dX6_cut_31 ?_
        refine aw_callV K (tX0_most l g sta _ _ h hx) rfl (by decide) fX0_most lX6_193 dX6_cut_32 rfl clsX0 rfl (Nat.le_of_ble_eq_true rfl) (fun o h2 hq => ?_)
        obtain ⟨⟨r, rfl⟩, hx2⟩ := hq
        refine (show AW _ _ _ _ _ _ _ (.int r :: _) _ from ?_)
        refine aw_pop K dX6_cut_35 rfl ?_
        refine aw_al0 K dX6_cut_36 ?_
        refine aw_getR K gX6_40 dX6_cut_37 rfl rfl ?_
        refine aw_getI K gX6_199 dX6_cut_40 rfl rfl ?_
        refine aw_sipush (v := 4095) K dX6_cut_43 (by decide) ?_
        refine aw_iand K dX6_cut_46 ?_
        refine aw_is3 K dX6_cut_47 (by decide) rfl ?_
        refine aw_il2 K dX6_cut_48 ?_
        refine aw_lk2 (ta := 76) (tb := 78) (td := 84) K dX6_cut_49 (by decide) (by decide) (by decide) (by decide) (fun s0 => ?_) (fun s1 => ?_) (fun s0 s1 => ?_)
        · refine aw_il3 K dX6_cut_76 ?_
          refine aw_iret K rfl dX6_cut_77 ?_
          exact ⟨⟨_, rfl⟩, hx2⟩
        · refine aw_al0 K dX6_cut_78 ?_
          refine aw_il3 K dX6_cut_79 ?_
          refine aw_callV K (tX6_tiesOutOf l g sta _ _ (H.q hx2)) rfl (by decide) fX6_tiesOutOf lX6_202 dX6_cut_80 rfl clsX6 rfl (Nat.le_of_ble_eq_true rfl) (fun o h2 hq => ?_)
          obtain ⟨⟨r, rfl⟩, rfl⟩ := hq
          refine (show AW _ _ _ _ _ _ _ (.int r :: _) _ from ?_)
          refine aw_iret K rfl dX6_cut_83 ?_
          exact ⟨⟨_, rfl⟩, hx2⟩
        · refine aw_al0 K dX6_cut_84 ?_
          refine aw_il3 K dX6_cut_85 ?_
          refine aw_callV K (tX6_givenBeyond l g sta _ _ (H.q hx2)) rfl (by decide) fX6_givenBeyond lX6_205 dX6_cut_86 rfl clsX6 rfl (Nat.le_of_ble_eq_true rfl) (fun o h2 hq => ?_)
          obtain ⟨⟨r, rfl⟩, rfl⟩ := hq
          refine (show AW _ _ _ _ _ _ _ (.int r :: _) _ from ?_)
          refine aw_iret K rfl dX6_cut_89 ?_
          exact ⟨⟨_, rfl⟩, hx2⟩
      · refine aw_iconst (v := (-1)) K dX6_cut_21 (by decide) ?_
        refine aw_iret K rfl dX6_cut_22 ?_
        exact ⟨⟨_, rfl⟩, H.s⟩

set_option maxHeartbeats 4000000 in
set_option maxRecDepth 100000 in
theorem tX6_wordOf (l : Launch) (g : Geo) (sta : Nat → Nat) (h : HS) (a b : Int32) {N T Wn : Nat} (H : XW h N T Wn) : CT (wX l g sta) 7 mX6_wordOf [.ref (g.2.1 0), .int a, .int b] h (QI h) := by
  refine CT.at [some (.ref (g.2.1 0)), some (.int a), some (.int b)] 0 rfl (by decide) (Nat.le_of_ble_eq_true rfl) (fun k K => ?_)
  refine aw_al0 K dX6_wordOf_0 ?_
  refine aw_il1 K dX6_wordOf_1 ?_
  refine aw_callV_I K (tX6_isWord l g sta _ _) rfl (by decide) fX6_isWord lX6_218 dX6_wordOf_2 rfl clsX6 rfl (Nat.le_of_ble_eq_true rfl) ?_
  refine aw_if_ne (tgt := 10) K dX6_wordOf_5 (by decide) (fun b5 => ?_) (fun b5 => ?_)
  · have ha : vp_in a 24 := inN H.2.2.1.1 H.2.2.1.2 (by decide) (bI_1.mp b5)
    refine aw_il2 K dX6_wordOf_10 ?_
    refine aw_tsw (tgt := 110) K dX6_wordOf_11 (by decide) (by decide) (by decide) ⟨fun s0 => ?_, fun s1 => ?_, fun s2 => ?_, fun s3 => ?_, fun s4 => ?_, fun s5 => ?_, trivial⟩ (fun sd => ?_)
    · show AW _ _ _ _ _ 48 _ _ _
      refine aw_al0 K dX6_wordOf_48 ?_
      refine aw_getR K gX6_26 dX6_wordOf_49 rfl rfl ?_
      refine aw_getR K gX6_221 dX6_wordOf_52 rfl rfl ?_
      refine aw_il1 K dX6_wordOf_55 ?_
      refine aw_iald K dX6_wordOf_56 rfl ha ?_
      refine aw_iret K rfl dX6_wordOf_57 ?_
      exact ⟨⟨_, rfl⟩, H.s⟩
    · show AW _ _ _ _ _ 58 _ _ _
      refine aw_al0 K dX6_wordOf_58 ?_
      refine aw_getR K gX6_26 dX6_wordOf_59 rfl rfl ?_
      refine aw_getR K gX6_224 dX6_wordOf_62 rfl rfl ?_
      refine aw_il1 K dX6_wordOf_65 ?_
      refine aw_iald K dX6_wordOf_66 rfl ha ?_
      refine aw_iret K rfl dX6_wordOf_67 ?_
      exact ⟨⟨_, rfl⟩, H.s⟩
    · show AW _ _ _ _ _ 68 _ _ _
      refine aw_al0 K dX6_wordOf_68 ?_
      refine aw_getR K gX6_26 dX6_wordOf_69 rfl rfl ?_
      refine aw_getR K gX6_227 dX6_wordOf_72 rfl rfl ?_
      refine aw_il1 K dX6_wordOf_75 ?_
      refine aw_iald K dX6_wordOf_76 rfl ha ?_
      refine aw_iret K rfl dX6_wordOf_77 ?_
      exact ⟨⟨_, rfl⟩, H.s⟩
    · show AW _ _ _ _ _ 78 _ _ _
      refine aw_al0 K dX6_wordOf_78 ?_
      refine aw_getR K gX6_26 dX6_wordOf_79 rfl rfl ?_
      refine aw_getR K gX6_230 dX6_wordOf_82 rfl rfl ?_
      refine aw_il1 K dX6_wordOf_85 ?_
      refine aw_iald K dX6_wordOf_86 rfl ha ?_
      refine aw_iret K rfl dX6_wordOf_87 ?_
      exact ⟨⟨_, rfl⟩, H.s⟩
    · show AW _ _ _ _ _ 88 _ _ _
      refine aw_al0 K dX6_wordOf_88 ?_
      refine aw_getR K gX6_26 dX6_wordOf_89 rfl rfl ?_
      refine aw_getR K gX6_233 dX6_wordOf_92 rfl rfl ?_
      refine aw_il1 K dX6_wordOf_95 ?_
      refine aw_iald K dX6_wordOf_96 rfl ha ?_
      refine aw_iret K rfl dX6_wordOf_97 ?_
      exact ⟨⟨_, rfl⟩, H.s⟩
    · show AW _ _ _ _ _ 98 _ _ _
      refine aw_al0 K dX6_wordOf_98 ?_
      refine aw_getR K gX6_26 dX6_wordOf_99 rfl rfl ?_
      refine aw_il1 K dX6_wordOf_102 ?_
      refine aw_callV K (tX5_doesCount l g sta _ _ ha H) rfl (by decide) fX5_doesCount lX6_234 dX6_wordOf_103 rfl clsX5 rfl (Nat.le_of_ble_eq_true rfl) (fun o h2 hq => ?_)
      obtain ⟨⟨r, rfl⟩, rfl⟩ := hq
      refine (show AW _ _ _ _ _ _ _ (.int r :: _) _ from ?_)
      refine aw_callS_I K (tX6_oneIf l g sta _ _) rfl (by decide) fX6_oneIf lX6_92 dX6_wordOf_106 rfl (Nat.le_of_ble_eq_true rfl) ?_
      refine aw_iret K rfl dX6_wordOf_109 ?_
      exact ⟨⟨_, rfl⟩, H.s⟩
    · show AW _ _ _ _ _ 110 _ _ _
      refine aw_iconst (v := (-1)) K dX6_wordOf_110 (by decide) ?_
      refine aw_iret K rfl dX6_wordOf_111 ?_
      exact ⟨⟨_, rfl⟩, H.s⟩
  · refine aw_iconst (v := (-1)) K dX6_wordOf_8 (by decide) ?_
    refine aw_iret K rfl dX6_wordOf_9 ?_
    exact ⟨⟨_, rfl⟩, H.s⟩

set_option maxHeartbeats 4000000 in
set_option maxRecDepth 100000 in
theorem tX6_weight (l : Launch) (g : Geo) (sta : Nat → Nat) (h : HS) (a b : Int32) {N T Wn : Nat} (H : XW h N T Wn) : CT (wX l g sta) 7 mX6_weight [.ref (g.2.1 0), .int a, .int b] h (QI h) := by
  refine CT.at [some (.ref (g.2.1 0)), some (.int a), some (.int b)] 0 rfl (by decide) (Nat.le_of_ble_eq_true rfl) (fun k K => ?_)
  refine aw_al0 K dX6_weight_0 ?_
  refine aw_il1 K dX6_weight_1 ?_
  refine aw_il2 K dX6_weight_2 ?_
  refine aw_callV_I K (tX6_arePair l g sta _ _ _) rfl (by decide) fX6_arePair lX6_105 dX6_weight_3 rfl clsX6 rfl (Nat.le_of_ble_eq_true rfl) ?_
  refine aw_if_ne (tgt := 11) K dX6_weight_6 (by decide) (fun b6 => ?_) (fun b6 => ?_)
  · have hb : vp_in b 12 := inN H.1.1 H.1.2 (by decide) (bI_1.mp b6).2.1
    refine aw_al0 K dX6_weight_11 ?_
    refine aw_il1 K dX6_weight_12 ?_
    refine aw_callV K (tX6_sayersOf l g sta _ _ H) rfl (by decide) fX6_sayersOf lX6_237 dX6_weight_13 rfl clsX6 rfl (Nat.le_of_ble_eq_true rfl) (fun o h2 hq => ?_)
    obtain ⟨⟨r, rfl⟩, rfl⟩ := hq
    refine (show AW _ _ _ _ _ _ _ (.int r :: _) _ from ?_)
    refine aw_il2 K dX6_weight_16 ?_
    refine aw_callS_I K (tX6_hasBit l g sta _ _ _) rfl (by decide) fX6_hasBit lX6_162 dX6_weight_17 rfl (Nat.le_of_ble_eq_true rfl) ?_
    refine aw_if_ne (tgt := 26) K dX6_weight_20 (by decide) (fun b20 => ?_) (fun b20 => ?_)
    · refine aw_al0 K dX6_weight_26 ?_
      refine aw_il1 K dX6_weight_27 ?_
      refine aw_callV K (tX6_weighSayers l g sta _ _ H) rfl (by decide) fX6_weighSayers lX6_240 dX6_weight_28 rfl clsX6 rfl (Nat.le_of_ble_eq_true rfl) (fun o h2 hq => ?_)
      obtain ⟨⟨r2, rfl⟩, hx⟩ := hq
      refine (show AW _ _ _ _ _ _ _ (.int r2 :: _) _ from ?_)
      refine aw_pop K dX6_weight_31 rfl ?_
      refine aw_al0 K dX6_weight_32 ?_
      refine aw_getR K gX6_57 dX6_weight_33 rfl rfl ?_
      refine aw_il2 K dX6_weight_36 ?_
      refine aw_iald K dX6_weight_37 rfl hb ?_
      refine aw_iret K rfl dX6_weight_38 ?_
      exact ⟨⟨_, rfl⟩, hx⟩
    · refine aw_bipush (v := (-4)) K dX6_weight_23 (by decide) ?_
      refine aw_iret K rfl dX6_weight_25 ?_
      exact ⟨⟨_, rfl⟩, H.s⟩
  · refine aw_iconst (v := (-1)) K dX6_weight_9 (by decide) ?_
    refine aw_iret K rfl dX6_weight_10 ?_
    exact ⟨⟨_, rfl⟩, H.s⟩

set_option maxHeartbeats 4000000 in
set_option maxRecDepth 100000 in
theorem tX6_sayers (l : Launch) (g : Geo) (sta : Nat → Nat) (h : HS) (a : Int32) {N T Wn : Nat} (H : XW h N T Wn) : CT (wX l g sta) 7 mX6_sayers [.ref (g.2.1 0), .int a] h (QI h) := by
  refine CT.at [some (.ref (g.2.1 0)), some (.int a)] 0 rfl (by decide) (Nat.le_of_ble_eq_true rfl) (fun k K => ?_)
  refine aw_al0 K dX6_sayers_0 ?_
  refine aw_il1 K dX6_sayers_1 ?_
  refine aw_callV_I K (tX6_isName l g sta _ _) rfl (by decide) fX6_isName lX6_84 dX6_sayers_2 rfl clsX6 rfl (Nat.le_of_ble_eq_true rfl) ?_
  refine aw_if_eq (tgt := 16) K dX6_sayers_5 (by decide) (fun b5 => ?_) (fun b5 => ?_)
  · refine aw_iconst (v := (-1)) K dX6_sayers_16 (by decide) ?_
    refine aw_iret K rfl dX6_sayers_17 ?_
    exact ⟨⟨_, rfl⟩, H.s⟩
  · refine aw_al0 K dX6_sayers_8 ?_
    refine aw_il1 K dX6_sayers_9 ?_
    refine aw_callV K (tX6_sayersOf l g sta _ _ H) rfl (by decide) fX6_sayersOf lX6_237 dX6_sayers_10 rfl clsX6 rfl (Nat.le_of_ble_eq_true rfl) (fun o h2 hq => ?_)
    obtain ⟨⟨r, rfl⟩, rfl⟩ := hq
    refine (show AW _ _ _ _ _ _ _ (.int r :: _) _ from ?_)
    refine aw_goto (tgt := 17) K dX6_sayers_13 (by decide) ?_
    refine aw_iret K rfl dX6_sayers_17 ?_
    exact ⟨⟨_, rfl⟩, H.s⟩

set_option maxHeartbeats 4000000 in
set_option maxRecDepth 100000 in
theorem tX6_mark (l : Launch) (g : Geo) (sta : Nat → Nat) (h : HS) (a b : Int32) {N T Wn : Nat} (H : XW h N T Wn) : CT (wX l g sta) 7 mX6_mark [.ref (g.2.1 0), .int a, .int b] h (QI h) := by
  refine CT.at [some (.ref (g.2.1 0)), some (.int a), some (.int b), none] 1 rfl (by decide) (Nat.le_of_ble_eq_true rfl) (fun k K => ?_)
  refine aw_al0 K dX6_mark_0 ?_
  refine aw_il1 K dX6_mark_1 ?_
  refine aw_callV_I K (tX6_isName l g sta _ _) rfl (by decide) fX6_isName lX6_84 dX6_mark_2 rfl clsX6 rfl (Nat.le_of_ble_eq_true rfl) ?_
  refine aw_if_eq (tgt := 17) K dX6_mark_5 (by decide) (fun b5 => ?_) (fun b5 => ?_)
  · refine aw_iconst (v := (-1)) K dX6_mark_17 (by decide) ?_
    refine aw_iret K rfl dX6_mark_18 ?_
    exact ⟨⟨_, rfl⟩, H.s⟩
  · refine aw_il2 K dX6_mark_8 ?_
    refine aw_iconst (v := 0) K dX6_mark_9 (by decide) ?_
    refine aw_iconst (v := 1) K dX6_mark_10 (by decide) ?_
    refine aw_callS_I K (tX6_within l g sta _ _ _ _) rfl (by decide) fX6_within lX6_76 dX6_mark_11 rfl (Nat.le_of_ble_eq_true rfl) ?_
    refine aw_if_ne (tgt := 19) K dX6_mark_14 (by decide) (fun b14 => ?_) (fun b14 => ?_)
    · refine aw_al0 K dX6_mark_19 ?_
      refine aw_il1 K dX6_mark_20 ?_
      refine aw_callV K (tX6_weighSayers l g sta _ _ H) rfl (by decide) fX6_weighSayers lX6_240 dX6_mark_21 rfl clsX6 rfl (Nat.le_of_ble_eq_true rfl) (fun o h2 hq => ?_)
      obtain ⟨⟨r, rfl⟩, hx⟩ := hq
      refine (show AW _ _ _ _ _ _ _ (.int r :: _) _ from ?_)
      refine aw_is3 K dX6_mark_24 (by decide) rfl ?_
      refine aw_il3 K dX6_mark_25 ?_
      refine aw_if_ne (tgt := 32) K dX6_mark_26 (by decide) (fun b26 => ?_) (fun b26 => ?_)
      · refine aw_al0 K dX6_mark_32 ?_
        refine aw_callV K (tX6_summedMarks l g sta _) rfl (by decide) fX6_summedMarks lX6_243 dX6_mark_33 rfl clsX6 rfl (Nat.le_of_ble_eq_true rfl) (fun o h2 hq => ?_)
        obtain ⟨⟨r3, rfl⟩, rfl⟩ := hq
        refine (show AW _ _ _ _ _ _ _ (.int r3 :: _) _ from ?_)
        refine aw_i2l K dX6_mark_36 ?_
        refine aw_il3 K dX6_mark_37 ?_
        refine aw_i2l K dX6_mark_38 ?_
        refine aw_il2 K dX6_mark_39 ?_
        refine aw_if_ne (tgt := 47) K dX6_mark_40 (by decide) (fun b40 => ?_) (fun b40 => ?_)
        · refine aw_iconst (v := 0) K dX6_mark_47 (by decide) ?_
          refine aw_callS K (tX6_inLowest l g sta _ _ _ _) rfl (by decide) fX6_inLowest lX6_247 dX6_mark_48 rfl (Nat.le_of_ble_eq_true rfl) (fun o h2 hq => ?_)
          obtain ⟨⟨r4, rfl⟩, rfl⟩ := hq
          refine (show AW _ _ _ _ _ _ _ (.long r4 :: _) _ from ?_)
          refine aw_l2i K dX6_mark_51 ?_
          refine aw_iret K rfl dX6_mark_52 ?_
          exact ⟨⟨_, rfl⟩, hx⟩
        · refine aw_iconst (v := 1) K dX6_mark_43 (by decide) ?_
          refine aw_goto (tgt := 48) K dX6_mark_44 (by decide) ?_
          refine aw_callS K (tX6_inLowest l g sta _ _ _ _) rfl (by decide) fX6_inLowest lX6_247 dX6_mark_48 rfl (Nat.le_of_ble_eq_true rfl) (fun o h2 hq => ?_)
          obtain ⟨⟨r4, rfl⟩, rfl⟩ := hq
          refine (show AW _ _ _ _ _ _ _ (.long r4 :: _) _ from ?_)
          refine aw_l2i K dX6_mark_51 ?_
          refine aw_iret K rfl dX6_mark_52 ?_
          exact ⟨⟨_, rfl⟩, hx⟩
      · refine aw_bipush (v := (-4)) K dX6_mark_29 (by decide) ?_
        refine aw_iret K rfl dX6_mark_31 ?_
        exact ⟨⟨_, rfl⟩, hx⟩
    · refine aw_iconst (v := (-1)) K dX6_mark_17 (by decide) ?_
      refine aw_iret K rfl dX6_mark_18 ?_
      exact ⟨⟨_, rfl⟩, H.s⟩

set_option maxHeartbeats 4000000 in
set_option maxRecDepth 100000 in
theorem tX6_span (l : Launch) (g : Geo) (sta : Nat → Nat) (h : HS) (a b c : Int32) {N T Wn : Nat} (H : XW h N T Wn) : CT (wX l g sta) 7 mX6_span [.ref (g.2.1 0), .int a, .int b, .int c] h (QI h) := by
  refine CT.at [some (.ref (g.2.1 0)), some (.int a), some (.int b), some (.int c), none, none, none, none] 4 rfl (by decide) (Nat.le_of_ble_eq_true rfl) (fun k K => ?_)
  refine aw_al0 K dX6_span_0 ?_
  refine aw_il1 K dX6_span_1 ?_
  refine aw_callV_I K (tX6_isName l g sta _ _) rfl (by decide) fX6_isName lX6_84 dX6_span_2 rfl clsX6 rfl (Nat.le_of_ble_eq_true rfl) ?_
  refine aw_if_eq (tgt := 26) K dX6_span_5 (by decide) (fun b5 => ?_) (fun b5 => ?_)
  · refine aw_iconst (v := (-1)) K dX6_span_26 (by decide) ?_
    refine aw_iret K rfl dX6_span_27 ?_
    exact ⟨⟨_, rfl⟩, H.s⟩
  · refine aw_il2 K dX6_span_8 ?_
    refine aw_iconst (v := 0) K dX6_span_9 (by decide) ?_
    refine aw_iconst (v := 3) K dX6_span_10 (by decide) ?_
    refine aw_callS_I K (tX6_within l g sta _ _ _ _) rfl (by decide) fX6_within lX6_76 dX6_span_11 rfl (Nat.le_of_ble_eq_true rfl) ?_
    refine aw_if_eq (tgt := 26) K dX6_span_14 (by decide) (fun b14 => ?_) (fun b14 => ?_)
    · refine aw_iconst (v := (-1)) K dX6_span_26 (by decide) ?_
      refine aw_iret K rfl dX6_span_27 ?_
      exact ⟨⟨_, rfl⟩, H.s⟩
    · refine aw_il3 K dX6_span_17 ?_
      refine aw_iconst (v := 0) K dX6_span_18 (by decide) ?_
      refine aw_iconst (v := 3) K dX6_span_19 (by decide) ?_
      refine aw_callS_I K (tX6_within l g sta _ _ _ _) rfl (by decide) fX6_within lX6_76 dX6_span_20 rfl (Nat.le_of_ble_eq_true rfl) ?_
      refine aw_if_ne (tgt := 28) K dX6_span_23 (by decide) (fun b23 => ?_) (fun b23 => ?_)
      · obtain ⟨kk, hkk, rfl⟩ := nI_of (Int32.not_lt.mpr (bI_1.mp b14).1)
        refine aw_al0 K dX6_span_28 ?_
        refine aw_il1 K dX6_span_29 ?_
        refine aw_callV K (tX6_weighSayers l g sta _ _ H) rfl (by decide) fX6_weighSayers lX6_240 dX6_span_30 rfl clsX6 rfl (Nat.le_of_ble_eq_true rfl) (fun o h2 hq => ?_)
        obtain ⟨⟨r, rfl⟩, hx⟩ := hq
        refine (show AW _ _ _ _ _ _ _ (.int r :: _) _ from ?_)
        refine aw_is4 K dX6_span_33 (by decide) rfl ?_
        refine aw_il4 K dX6_span_35 ?_
        refine aw_if_ne (tgt := 43) K dX6_span_37 (by decide) (fun b37 => ?_) (fun b37 => ?_)
        · refine aw_il3 K dX6_span_43 ?_
          refine aw_iconst (v := 2) K dX6_span_44 (by decide) ?_
          refine aw_icmp_lt (tgt := 52) K dX6_span_45 (by decide) (fun b45 => ?_) (fun b45 => ?_)
          · refine aw_iconst (v := 0) K dX6_span_52 (by decide) ?_
            refine aw_is5 K dX6_span_53 (by decide) rfl ?_
            refine aw_al0 K dX6_span_55 ?_
            refine aw_il2 K dX6_span_56 ?_
            refine aw_il5 K dX6_span_57 ?_
            refine aw_callV K (tX6_greatestStakes l g sta _ _ _ hkk h hx) rfl (by decide) fX6_greatestStakes lX6_251 dX6_span_59 rfl clsX6 rfl (Nat.le_of_ble_eq_true rfl) (fun o h2 hq => ?_)
            obtain ⟨⟨r2, rfl⟩, hx2⟩ := hq
            refine (show AW _ _ _ _ _ _ _ (.int r2 :: _) _ from ?_)
            refine aw_is6 K dX6_span_62 (by decide) rfl ?_
            refine aw_il5 K dX6_span_64 ?_
            refine aw_if_eq (tgt := 79) K dX6_span_66 (by decide) (fun b66 => ?_) (fun b66 => ?_)
            · refine aw_al0 K dX6_span_79 ?_
              refine aw_callV K (tX6_summedMarks l g sta _) rfl (by decide) fX6_summedMarks lX6_243 dX6_span_80 rfl clsX6 rfl (Nat.le_of_ble_eq_true rfl) (fun o h2 hq => ?_)
              obtain ⟨⟨r3, rfl⟩, rfl⟩ := hq
              refine (show AW _ _ _ _ _ _ _ (.int r3 :: _) _ from ?_)
              refine aw_il6 K dX6_span_83 ?_
              refine aw_isub K dX6_span_85 ?_
              refine aw_is7 K dX6_span_86 (by decide) rfl ?_
              refine aw_il7 K dX6_span_88 ?_
              refine aw_i2l K dX6_span_90 ?_
              refine aw_il4 K dX6_span_91 ?_
              refine aw_i2l K dX6_span_93 ?_
              refine aw_il3 K dX6_span_94 ?_
              refine aw_iconst (v := 2) K dX6_span_95 (by decide) ?_
              refine aw_irem K dX6_span_96 (by decide) ?_
              refine aw_if_ne (tgt := 104) K dX6_span_97 (by decide) (fun b97 => ?_) (fun b97 => ?_)
              · refine aw_iconst (v := 0) K dX6_span_104 (by decide) ?_
                refine aw_callS K (tX6_inLowest l g sta _ _ _ _) rfl (by decide) fX6_inLowest lX6_247 dX6_span_105 rfl (Nat.le_of_ble_eq_true rfl) (fun o h2 hq => ?_)
                obtain ⟨⟨r4, rfl⟩, rfl⟩ := hq
                refine (show AW _ _ _ _ _ _ _ (.long r4 :: _) _ from ?_)
                refine aw_l2i K dX6_span_108 ?_
                refine aw_iret K rfl dX6_span_109 ?_
                exact ⟨⟨_, rfl⟩, hx2⟩
              · refine aw_iconst (v := 1) K dX6_span_100 (by decide) ?_
                refine aw_goto (tgt := 105) K dX6_span_101 (by decide) ?_
                refine aw_callS K (tX6_inLowest l g sta _ _ _ _) rfl (by decide) fX6_inLowest lX6_247 dX6_span_105 rfl (Nat.le_of_ble_eq_true rfl) (fun o h2 hq => ?_)
                obtain ⟨⟨r4, rfl⟩, rfl⟩ := hq
                refine (show AW _ _ _ _ _ _ _ (.long r4 :: _) _ from ?_)
                refine aw_l2i K dX6_span_108 ?_
                refine aw_iret K rfl dX6_span_109 ?_
                exact ⟨⟨_, rfl⟩, hx2⟩
            · refine aw_al0 K dX6_span_69 ?_
              refine aw_callV K (tX6_summedMarks l g sta _) rfl (by decide) fX6_summedMarks lX6_243 dX6_span_70 rfl clsX6 rfl (Nat.le_of_ble_eq_true rfl) (fun o h2 hq => ?_)
              obtain ⟨⟨r3, rfl⟩, rfl⟩ := hq
              refine (show AW _ _ _ _ _ _ _ (.int r3 :: _) _ from ?_)
              refine aw_il6 K dX6_span_73 ?_
              refine aw_iadd K dX6_span_75 ?_
              refine aw_goto (tgt := 86) K dX6_span_76 (by decide) ?_
              refine aw_is7 K dX6_span_86 (by decide) rfl ?_
              refine aw_il7 K dX6_span_88 ?_
              refine aw_i2l K dX6_span_90 ?_
              refine aw_il4 K dX6_span_91 ?_
              refine aw_i2l K dX6_span_93 ?_
              refine aw_il3 K dX6_span_94 ?_
              refine aw_iconst (v := 2) K dX6_span_95 (by decide) ?_
              refine aw_irem K dX6_span_96 (by decide) ?_
              refine aw_if_ne (tgt := 104) K dX6_span_97 (by decide) (fun b97 => ?_) (fun b97 => ?_)
              · refine aw_iconst (v := 0) K dX6_span_104 (by decide) ?_
                refine aw_callS K (tX6_inLowest l g sta _ _ _ _) rfl (by decide) fX6_inLowest lX6_247 dX6_span_105 rfl (Nat.le_of_ble_eq_true rfl) (fun o h2 hq => ?_)
                obtain ⟨⟨r4, rfl⟩, rfl⟩ := hq
                refine (show AW _ _ _ _ _ _ _ (.long r4 :: _) _ from ?_)
                refine aw_l2i K dX6_span_108 ?_
                refine aw_iret K rfl dX6_span_109 ?_
                exact ⟨⟨_, rfl⟩, hx2⟩
              · refine aw_iconst (v := 1) K dX6_span_100 (by decide) ?_
                refine aw_goto (tgt := 105) K dX6_span_101 (by decide) ?_
                refine aw_callS K (tX6_inLowest l g sta _ _ _ _) rfl (by decide) fX6_inLowest lX6_247 dX6_span_105 rfl (Nat.le_of_ble_eq_true rfl) (fun o h2 hq => ?_)
                obtain ⟨⟨r4, rfl⟩, rfl⟩ := hq
                refine (show AW _ _ _ _ _ _ _ (.long r4 :: _) _ from ?_)
                refine aw_l2i K dX6_span_108 ?_
                refine aw_iret K rfl dX6_span_109 ?_
                exact ⟨⟨_, rfl⟩, hx2⟩
          · refine aw_iconst (v := 1) K dX6_span_48 (by decide) ?_
            refine aw_goto (tgt := 53) K dX6_span_49 (by decide) ?_
            refine aw_is5 K dX6_span_53 (by decide) rfl ?_
            refine aw_al0 K dX6_span_55 ?_
            refine aw_il2 K dX6_span_56 ?_
            refine aw_il5 K dX6_span_57 ?_
            refine aw_callV K (tX6_greatestStakes l g sta _ _ _ hkk h hx) rfl (by decide) fX6_greatestStakes lX6_251 dX6_span_59 rfl clsX6 rfl (Nat.le_of_ble_eq_true rfl) (fun o h2 hq => ?_)
            obtain ⟨⟨r2, rfl⟩, hx2⟩ := hq
            refine (show AW _ _ _ _ _ _ _ (.int r2 :: _) _ from ?_)
            refine aw_is6 K dX6_span_62 (by decide) rfl ?_
            refine aw_il5 K dX6_span_64 ?_
            refine aw_if_eq (tgt := 79) K dX6_span_66 (by decide) (fun b66 => ?_) (fun b66 => ?_)
            · refine aw_al0 K dX6_span_79 ?_
              refine aw_callV K (tX6_summedMarks l g sta _) rfl (by decide) fX6_summedMarks lX6_243 dX6_span_80 rfl clsX6 rfl (Nat.le_of_ble_eq_true rfl) (fun o h2 hq => ?_)
              obtain ⟨⟨r3, rfl⟩, rfl⟩ := hq
              refine (show AW _ _ _ _ _ _ _ (.int r3 :: _) _ from ?_)
              refine aw_il6 K dX6_span_83 ?_
              refine aw_isub K dX6_span_85 ?_
              refine aw_is7 K dX6_span_86 (by decide) rfl ?_
              refine aw_il7 K dX6_span_88 ?_
              refine aw_i2l K dX6_span_90 ?_
              refine aw_il4 K dX6_span_91 ?_
              refine aw_i2l K dX6_span_93 ?_
              refine aw_il3 K dX6_span_94 ?_
              refine aw_iconst (v := 2) K dX6_span_95 (by decide) ?_
              refine aw_irem K dX6_span_96 (by decide) ?_
              refine aw_if_ne (tgt := 104) K dX6_span_97 (by decide) (fun b97 => ?_) (fun b97 => ?_)
              · refine aw_iconst (v := 0) K dX6_span_104 (by decide) ?_
                refine aw_callS K (tX6_inLowest l g sta _ _ _ _) rfl (by decide) fX6_inLowest lX6_247 dX6_span_105 rfl (Nat.le_of_ble_eq_true rfl) (fun o h2 hq => ?_)
                obtain ⟨⟨r4, rfl⟩, rfl⟩ := hq
                refine (show AW _ _ _ _ _ _ _ (.long r4 :: _) _ from ?_)
                refine aw_l2i K dX6_span_108 ?_
                refine aw_iret K rfl dX6_span_109 ?_
                exact ⟨⟨_, rfl⟩, hx2⟩
              · refine aw_iconst (v := 1) K dX6_span_100 (by decide) ?_
                refine aw_goto (tgt := 105) K dX6_span_101 (by decide) ?_
                refine aw_callS K (tX6_inLowest l g sta _ _ _ _) rfl (by decide) fX6_inLowest lX6_247 dX6_span_105 rfl (Nat.le_of_ble_eq_true rfl) (fun o h2 hq => ?_)
                obtain ⟨⟨r4, rfl⟩, rfl⟩ := hq
                refine (show AW _ _ _ _ _ _ _ (.long r4 :: _) _ from ?_)
                refine aw_l2i K dX6_span_108 ?_
                refine aw_iret K rfl dX6_span_109 ?_
                exact ⟨⟨_, rfl⟩, hx2⟩
            · refine aw_al0 K dX6_span_69 ?_
              refine aw_callV K (tX6_summedMarks l g sta _) rfl (by decide) fX6_summedMarks lX6_243 dX6_span_70 rfl clsX6 rfl (Nat.le_of_ble_eq_true rfl) (fun o h2 hq => ?_)
              obtain ⟨⟨r3, rfl⟩, rfl⟩ := hq
              refine (show AW _ _ _ _ _ _ _ (.int r3 :: _) _ from ?_)
              refine aw_il6 K dX6_span_73 ?_
              refine aw_iadd K dX6_span_75 ?_
              refine aw_goto (tgt := 86) K dX6_span_76 (by decide) ?_
              refine aw_is7 K dX6_span_86 (by decide) rfl ?_
              refine aw_il7 K dX6_span_88 ?_
              refine aw_i2l K dX6_span_90 ?_
              refine aw_il4 K dX6_span_91 ?_
              refine aw_i2l K dX6_span_93 ?_
              refine aw_il3 K dX6_span_94 ?_
              refine aw_iconst (v := 2) K dX6_span_95 (by decide) ?_
              refine aw_irem K dX6_span_96 (by decide) ?_
              refine aw_if_ne (tgt := 104) K dX6_span_97 (by decide) (fun b97 => ?_) (fun b97 => ?_)
              · refine aw_iconst (v := 0) K dX6_span_104 (by decide) ?_
                refine aw_callS K (tX6_inLowest l g sta _ _ _ _) rfl (by decide) fX6_inLowest lX6_247 dX6_span_105 rfl (Nat.le_of_ble_eq_true rfl) (fun o h2 hq => ?_)
                obtain ⟨⟨r4, rfl⟩, rfl⟩ := hq
                refine (show AW _ _ _ _ _ _ _ (.long r4 :: _) _ from ?_)
                refine aw_l2i K dX6_span_108 ?_
                refine aw_iret K rfl dX6_span_109 ?_
                exact ⟨⟨_, rfl⟩, hx2⟩
              · refine aw_iconst (v := 1) K dX6_span_100 (by decide) ?_
                refine aw_goto (tgt := 105) K dX6_span_101 (by decide) ?_
                refine aw_callS K (tX6_inLowest l g sta _ _ _ _) rfl (by decide) fX6_inLowest lX6_247 dX6_span_105 rfl (Nat.le_of_ble_eq_true rfl) (fun o h2 hq => ?_)
                obtain ⟨⟨r4, rfl⟩, rfl⟩ := hq
                refine (show AW _ _ _ _ _ _ _ (.long r4 :: _) _ from ?_)
                refine aw_l2i K dX6_span_108 ?_
                refine aw_iret K rfl dX6_span_109 ?_
                exact ⟨⟨_, rfl⟩, hx2⟩
        · refine aw_bipush (v := (-4)) K dX6_span_40 (by decide) ?_
          refine aw_iret K rfl dX6_span_42 ?_
          exact ⟨⟨_, rfl⟩, hx⟩
      · refine aw_iconst (v := (-1)) K dX6_span_26 (by decide) ?_
        refine aw_iret K rfl dX6_span_27 ?_
        exact ⟨⟨_, rfl⟩, H.s⟩

set_option maxHeartbeats 4000000 in
set_option maxRecDepth 100000 in
theorem tX6_ring (l : Launch) (g : Geo) (sta : Nat → Nat) (h : HS) (a b : Int32) {N T Wn : Nat} (H : XW h N T Wn) : CT (wX l g sta) 7 mX6_ring [.ref (g.2.1 0), .int a, .int b] h (QI h) := by
  refine CT.at [some (.ref (g.2.1 0)), some (.int a), some (.int b)] 0 rfl (by decide) (Nat.le_of_ble_eq_true rfl) (fun k K => ?_)
  refine aw_al0 K dX6_ring_0 ?_
  refine aw_il1 K dX6_ring_1 ?_
  refine aw_callV_I K (tX6_isHeap l g sta _ _) rfl (by decide) fX6_isHeap lX6_196 dX6_ring_2 rfl clsX6 rfl (Nat.le_of_ble_eq_true rfl) ?_
  refine aw_if_ne (tgt := 10) K dX6_ring_5 (by decide) (fun b5 => ?_) (fun b5 => ?_)
  · refine aw_il2 K dX6_ring_10 ?_
    refine aw_tsw (tgt := 71) K dX6_ring_11 (by decide) (by decide) (by decide) ⟨fun s0 => ?_, fun s1 => ?_, fun s2 => ?_, fun s3 => ?_, trivial⟩ (fun sd => ?_)
    · show AW _ _ _ _ _ 40 _ _ _
      refine aw_al0 K dX6_ring_40 ?_
      refine aw_getR K gX6_26 dX6_ring_41 rfl rfl ?_
      refine aw_getI K gX6_255 dX6_ring_44 rfl rfl ?_
      refine aw_iret K rfl dX6_ring_47 ?_
      exact ⟨⟨_, rfl⟩, H.s⟩
    · show AW _ _ _ _ _ 48 _ _ _
      refine aw_al0 K dX6_ring_48 ?_
      refine aw_il1 K dX6_ring_49 ?_
      refine aw_iconst (v := 0) K dX6_ring_50 (by decide) ?_
      refine aw_callV K (tX6_wordsWithin l g sta _ _ _ H) rfl (by decide) fX6_wordsWithin lX6_256 dX6_ring_51 rfl clsX6 rfl (Nat.le_of_ble_eq_true rfl) (fun o h2 hq => ?_)
      obtain ⟨⟨m, hm, rfl⟩, rfl⟩ := hq
      refine (show AW _ _ _ _ _ _ _ (.int (nI m) :: _) _ from ?_)
      refine aw_iret K rfl dX6_ring_54 ?_
      exact ⟨⟨_, rfl⟩, H.s⟩
    · show AW _ _ _ _ _ 55 _ _ _
      refine aw_al0 K dX6_ring_55 ?_
      refine aw_sipush (v := 4095) K dX6_ring_56 (by decide) ?_
      refine aw_iconst (v := 1) K dX6_ring_59 (by decide) ?_
      refine aw_callV K (tX6_wordsWithin l g sta _ _ _ H) rfl (by decide) fX6_wordsWithin lX6_256 dX6_ring_60 rfl clsX6 rfl (Nat.le_of_ble_eq_true rfl) (fun o h2 hq => ?_)
      obtain ⟨⟨m, hm, rfl⟩, rfl⟩ := hq
      refine (show AW _ _ _ _ _ _ _ (.int (nI m) :: _) _ from ?_)
      refine aw_iret K rfl dX6_ring_63 ?_
      exact ⟨⟨_, rfl⟩, H.s⟩
    · show AW _ _ _ _ _ 64 _ _ _
      refine aw_al0 K dX6_ring_64 ?_
      refine aw_il1 K dX6_ring_65 ?_
      refine aw_iconst (v := 1) K dX6_ring_66 (by decide) ?_
      refine aw_callV K (tX6_wordsWithin l g sta _ _ _ H) rfl (by decide) fX6_wordsWithin lX6_256 dX6_ring_67 rfl clsX6 rfl (Nat.le_of_ble_eq_true rfl) (fun o h2 hq => ?_)
      obtain ⟨⟨m, hm, rfl⟩, rfl⟩ := hq
      refine (show AW _ _ _ _ _ _ _ (.int (nI m) :: _) _ from ?_)
      refine aw_iret K rfl dX6_ring_70 ?_
      exact ⟨⟨_, rfl⟩, H.s⟩
    · show AW _ _ _ _ _ 71 _ _ _
      refine aw_iconst (v := (-1)) K dX6_ring_71 (by decide) ?_
      refine aw_iret K rfl dX6_ring_72 ?_
      exact ⟨⟨_, rfl⟩, H.s⟩
  · refine aw_iconst (v := (-1)) K dX6_ring_8 (by decide) ?_
    refine aw_iret K rfl dX6_ring_9 ?_
    exact ⟨⟨_, rfl⟩, H.s⟩

set_option maxHeartbeats 4000000 in
set_option maxRecDepth 100000 in
theorem tX6_odds (l : Launch) (g : Geo) (sta : Nat → Nat) (h : HS) (a b : Int32) {N T Wn : Nat} (H : XW h N T Wn) : CT (wX l g sta) 7 mX6_odds [.ref (g.2.1 0), .int a, .int b] h (QL h) := by
  refine CT.at [some (.ref (g.2.1 0)), some (.int a), some (.int b), none] 1 rfl (by decide) (Nat.le_of_ble_eq_true rfl) (fun k K => ?_)
  refine aw_al0 K dX6_odds_0 ?_
  refine aw_il1 K dX6_odds_1 ?_
  refine aw_callV_I K (tX6_isHeap l g sta _ _) rfl (by decide) fX6_isHeap lX6_196 dX6_odds_2 rfl clsX6 rfl (Nat.le_of_ble_eq_true rfl) ?_
  refine aw_if_eq (tgt := 17) K dX6_odds_5 (by decide) (fun b5 => ?_) (fun b5 => ?_)
  · refine aw_ldc2 K qX6_259 dX6_odds_17 ?_
    refine aw_lret K rfl dX6_odds_20 ?_
    exact ⟨⟨_, rfl⟩, H.s⟩
  · refine aw_il2 K dX6_odds_8 ?_
    refine aw_iconst (v := 0) K dX6_odds_9 (by decide) ?_
    refine aw_iconst (v := 1) K dX6_odds_10 (by decide) ?_
    refine aw_callS_I K (tX6_within l g sta _ _ _ _) rfl (by decide) fX6_within lX6_76 dX6_odds_11 rfl (Nat.le_of_ble_eq_true rfl) ?_
    refine aw_if_ne (tgt := 21) K dX6_odds_14 (by decide) (fun b14 => ?_) (fun b14 => ?_)
    · refine aw_al0 K dX6_odds_21 ?_
      refine aw_sipush (v := 4095) K dX6_odds_22 (by decide) ?_
      refine aw_iconst (v := 1) K dX6_odds_25 (by decide) ?_
      refine aw_callV K (tX6_wordsWithin l g sta _ _ _ H) rfl (by decide) fX6_wordsWithin lX6_256 dX6_odds_26 rfl clsX6 rfl (Nat.le_of_ble_eq_true rfl) (fun o h2 hq => ?_)
      obtain ⟨⟨m, hm, rfl⟩, rfl⟩ := hq
      refine (show AW _ _ _ _ _ _ _ (.int (nI m) :: _) _ from ?_)
      refine aw_is3 K dX6_odds_29 (by decide) rfl ?_
      refine aw_al0 K dX6_odds_30 ?_
      refine aw_il1 K dX6_odds_31 ?_
      refine aw_il3 K dX6_odds_32 ?_
      refine aw_callV K (tX6_waysOf l g sta _ _ _ H) rfl (by decide) fX6_waysOf lX6_261 dX6_odds_33 rfl clsX6 rfl (Nat.le_of_ble_eq_true rfl) (fun o h2 hq => ?_)
      obtain ⟨⟨r5, rfl⟩, rfl⟩ := hq
      refine (show AW _ _ _ _ _ _ _ (.long r5 :: _) _ from ?_)
      refine aw_al0 K dX6_odds_36 ?_
      refine aw_getR K gX6_26 dX6_odds_37 rfl rfl ?_
      refine aw_getI K gX6_255 dX6_odds_40 rfl rfl ?_
      refine aw_il3 K dX6_odds_43 ?_
      refine aw_callS K (tX6_choose l g sta _ _ _) rfl (by decide) fX6_choose lX6_265 dX6_odds_44 rfl (Nat.le_of_ble_eq_true rfl) (fun o h2 hq => ?_)
      obtain ⟨⟨r6, rfl⟩, rfl⟩ := hq
      refine (show AW _ _ _ _ _ _ _ (.long r6 :: _) _ from ?_)
      refine aw_il2 K dX6_odds_47 ?_
      refine aw_if_ne (tgt := 55) K dX6_odds_48 (by decide) (fun b48 => ?_) (fun b48 => ?_)
      · refine aw_iconst (v := 0) K dX6_odds_55 (by decide) ?_
        refine aw_callS K (tX6_inLowest l g sta _ _ _ _) rfl (by decide) fX6_inLowest lX6_247 dX6_odds_56 rfl (Nat.le_of_ble_eq_true rfl) (fun o h2 hq => ?_)
        obtain ⟨⟨r4, rfl⟩, rfl⟩ := hq
        refine (show AW _ _ _ _ _ _ _ (.long r4 :: _) _ from ?_)
        refine aw_lret K rfl dX6_odds_59 ?_
        exact ⟨⟨_, rfl⟩, H.s⟩
      · refine aw_iconst (v := 1) K dX6_odds_51 (by decide) ?_
        refine aw_goto (tgt := 56) K dX6_odds_52 (by decide) ?_
        refine aw_callS K (tX6_inLowest l g sta _ _ _ _) rfl (by decide) fX6_inLowest lX6_247 dX6_odds_56 rfl (Nat.le_of_ble_eq_true rfl) (fun o h2 hq => ?_)
        obtain ⟨⟨r4, rfl⟩, rfl⟩ := hq
        refine (show AW _ _ _ _ _ _ _ (.long r4 :: _) _ from ?_)
        refine aw_lret K rfl dX6_odds_59 ?_
        exact ⟨⟨_, rfl⟩, H.s⟩
    · refine aw_ldc2 K qX6_259 dX6_odds_17 ?_
      refine aw_lret K rfl dX6_odds_20 ?_
      exact ⟨⟨_, rfl⟩, H.s⟩

set_option maxHeartbeats 4000000 in
set_option maxRecDepth 100000 in
theorem tX6_gain (l : Launch) (g : Geo) (sta : Nat → Nat) (h : HS) (a b c : Int32) {N T Wn : Nat} (H : XW h N T Wn) : CT (wX l g sta) 7 mX6_gain [.ref (g.2.1 0), .int a, .int b, .int c] h (QI h) := by
  refine CT.at [some (.ref (g.2.1 0)), some (.int a), some (.int b), some (.int c)] 0 rfl (by decide) (Nat.le_of_ble_eq_true rfl) (fun k K => ?_)
  refine aw_al0 K dX6_gain_0 ?_
  refine aw_il1 K dX6_gain_1 ?_
  refine aw_callV_I K (tX6_isHeap l g sta _ _) rfl (by decide) fX6_isHeap lX6_196 dX6_gain_2 rfl clsX6 rfl (Nat.le_of_ble_eq_true rfl) ?_
  refine aw_if_eq (tgt := 27) K dX6_gain_5 (by decide) (fun b5 => ?_) (fun b5 => ?_)
  · refine aw_ldcw K qX6_276 dX6_gain_27 ?_
    refine aw_iret K rfl dX6_gain_30 ?_
    exact ⟨⟨_, rfl⟩, H.s⟩
  · refine aw_il2 K dX6_gain_8 ?_
    refine aw_il3 K dX6_gain_9 ?_
    refine aw_callS_I K (tX6_isOffer l g sta _ _ _) rfl (by decide) fX6_isOffer lX6_270 dX6_gain_10 rfl (Nat.le_of_ble_eq_true rfl) ?_
    refine aw_if_eq (tgt := 27) K dX6_gain_13 (by decide) (fun b13 => ?_) (fun b13 => ?_)
    · refine aw_ldcw K qX6_276 dX6_gain_27 ?_
      refine aw_iret K rfl dX6_gain_30 ?_
      exact ⟨⟨_, rfl⟩, H.s⟩
    · refine aw_il1 K dX6_gain_16 ?_
      refine aw_al0 K dX6_gain_17 ?_
      refine aw_callV K (tX6_sellingNames l g sta _ H) rfl (by decide) fX6_sellingNames lX6_273 dX6_gain_18 rfl clsX6 rfl (Nat.le_of_ble_eq_true rfl) (fun o h2 hq => ?_)
      obtain ⟨⟨r, rfl⟩, rfl⟩ := hq
      refine (show AW _ _ _ _ _ _ _ (.int r :: _) _ from ?_)
      refine aw_iconst (v := (-1)) K dX6_gain_21 (by decide) ?_
      refine aw_ixor K dX6_gain_22 ?_
      refine aw_iand K dX6_gain_23 ?_
      refine aw_if_eq (tgt := 31) K dX6_gain_24 (by decide) (fun b24 => ?_) (fun b24 => ?_)
      · refine aw_al0 K dX6_gain_31 ?_
        refine aw_callV K (tX6_layFlow l g sta _ H) rfl (by decide) fX6_layFlow lX6_190 dX6_gain_32 rfl clsX6 rfl (Nat.le_of_ble_eq_true rfl) (fun o h2 hq => ?_)
        obtain ⟨rfl, hx⟩ := hq
        refine aw_al0 K dX6_gain_35 ?_
        refine aw_il1 K dX6_gain_36 ?_
        refine aw_al0 K dX6_gain_37 ?_
        refine aw_il2 K dX6_gain_38 ?_
        refine aw_callV_I K (tX6_boughtRoom l g sta _ _) rfl (by decide) fX6_boughtRoom lX6_277 dX6_gain_39 rfl clsX6 rfl (Nat.le_of_ble_eq_true rfl) ?_
        refine aw_il3 K dX6_gain_42 ?_
        refine aw_callV K (tX6_gainBy l g sta _ _ _ _ _ H hx) rfl (by decide) fX6_gainBy lX6_280 dX6_gain_43 rfl clsX6 rfl (Nat.le_of_ble_eq_true rfl) (fun o h2 hq => ?_)
        obtain ⟨⟨r2, rfl⟩, hx2⟩ := hq
        refine (show AW _ _ _ _ _ _ _ (.int r2 :: _) _ from ?_)
        refine aw_iret K rfl dX6_gain_46 ?_
        exact ⟨⟨_, rfl⟩, hx2⟩
      · refine aw_ldcw K qX6_276 dX6_gain_27 ?_
        refine aw_iret K rfl dX6_gain_30 ?_
        exact ⟨⟨_, rfl⟩, H.s⟩

set_option maxHeartbeats 4000000 in
set_option maxRecDepth 100000 in
theorem tX6_rule (l : Launch) (g : Geo) (sta : Nat → Nat) (h : HS) (a : Int32) {N T Wn : Nat} (H : XW h N T Wn) : CT (wX l g sta) 7 mX6_rule [.ref (g.2.1 0), .int a] h (QI h) := by
  refine CT.at [some (.ref (g.2.1 0)), some (.int a)] 0 rfl (by decide) (Nat.le_of_ble_eq_true rfl) (fun k K => ?_)
  refine aw_il1 K dX6_rule_0 ?_
  refine aw_iconst (v := 0) K dX6_rule_1 (by decide) ?_
  refine aw_bipush (v := 9) K dX6_rule_2 (by decide) ?_
  refine aw_callS_I K (tX6_within l g sta _ _ _ _) rfl (by decide) fX6_within lX6_76 dX6_rule_4 rfl (Nat.le_of_ble_eq_true rfl) ?_
  refine aw_if_eq (tgt := 19) K dX6_rule_7 (by decide) (fun b7 => ?_) (fun b7 => ?_)
  · refine aw_iconst (v := (-1)) K dX6_rule_19 (by decide) ?_
    refine aw_iret K rfl dX6_rule_20 ?_
    exact ⟨⟨_, rfl⟩, H.s⟩
  · refine aw_al0 K dX6_rule_10 ?_
    refine aw_getR K gX6_50 dX6_rule_11 rfl rfl ?_
    refine aw_il1 K dX6_rule_14 ?_
    refine aw_iald K dX6_rule_15 rfl (inB (M := 9) (by decide) (bI_1.mp b7)) ?_
    refine aw_goto (tgt := 20) K dX6_rule_16 (by decide) ?_
    refine aw_iret K rfl dX6_rule_20 ?_
    exact ⟨⟨_, rfl⟩, H.s⟩

set_option maxHeartbeats 4000000 in
set_option maxRecDepth 100000 in
theorem tX6_fault (l : Launch) (g : Geo) (sta : Nat → Nat) (h : HS) {N T Wn : Nat} (H : XW h N T Wn) : CT (wX l g sta) 7 mX6_fault [.ref (g.2.1 0)] h (QI h) := by
  refine CT.at [some (.ref (g.2.1 0))] 0 rfl (by decide) (Nat.le_of_ble_eq_true rfl) (fun k K => ?_)
  refine aw_al0 K dX6_fault_0 ?_
  refine aw_getR K gX6_33 dX6_fault_1 rfl rfl ?_
  refine aw_getI K gX6_187 dX6_fault_4 rfl rfl ?_
  refine aw_iret K rfl dX6_fault_7 ?_
  exact ⟨⟨_, rfl⟩, H.s⟩

set_option maxHeartbeats 4000000 in
set_option maxRecDepth 100000 in
theorem tX6_lost (l : Launch) (g : Geo) (sta : Nat → Nat) (h : HS) {N T Wn : Nat} (H : XW h N T Wn) : CT (wX l g sta) 7 mX6_lost [.ref (g.2.1 0)] h (QI h) := by
  refine CT.at [some (.ref (g.2.1 0))] 0 rfl (by decide) (Nat.le_of_ble_eq_true rfl) (fun k K => ?_)
  refine aw_al0 K dX6_lost_0 ?_
  refine aw_getI K gX6_309 dX6_lost_1 rfl rfl ?_
  refine aw_iret K rfl dX6_lost_4 ?_
  exact ⟨⟨_, rfl⟩, H.s⟩

