theorem inN {a x : Int32} {N m : Nat} (hx : x = nI N) (hN : N ≤ m) (hm : m < 2 ^ 31) (h : 0 ≤ a ∧ a ≤ x - 1) : vp_in a m := by
  subst hx
  obtain ⟨j, hj, rfl⟩ := nI_of (Int32.not_lt.mpr h.1)
  cases N with
  | zero => exact absurd (Int32.le_trans h.1 h.2) (by decide)
  | succ n =>
    rw [nI_pred] at h
    have := (nI_leI hj (by omega)).mp h.2
    exact vp_in_nI (by omega) hm
theorem inB {a : Int32} {M : Nat} (hM : M < 2 ^ 31 - 1) (h : 0 ≤ a ∧ a ≤ nI M) : vp_in a (M + 1) := by
  obtain ⟨j, hj, rfl⟩ := nI_of (Int32.not_lt.mpr h.1)
  have := (nI_leI hj (by omega)).mp h.2
  exact vp_in_nI (by omega) (by omega)
theorem shN {x : Int32} {N : Nat} (hx : x = nI N) (hN : N ≤ 12) : (1 : Int32) <<< (x &&& 31) = nI (2 ^ N) := by
  subst hx
  have q : ∀ n : Fin 13, (1 : Int32) <<< (nI n.1 &&& 31) = nI (2 ^ n.1) := by decide +kernel
  exact q ⟨N, by omega⟩
theorem p2N {N : Nat} (hN : N ≤ 12) : 2 ^ N ≤ 4096 := by
  have q : ∀ n : Fin 13, 2 ^ n.1 ≤ 4096 := by decide
  exact q ⟨N, by omega⟩
section LK
variable {w : WT} {P : Option Value → HS → Prop} {d : Nat} {mi : MI} {k : KT} {pc : Nat} {L : List (Option Value)} {st : List Value} {h : HS}
theorem aw_lk2 (K : AOK w mi k) {dflt a oa b ob : Int} {len ta tb td : Nat} {x : Int32} (hd : decode mi.2.1 pc = .ok (.lookupswitch dflt #[(a, oa), (b, ob)], len)) (hab : a < b) (ea : (pc : Int) + oa = (ta : Int)) (eb : (pc : Int) + ob = (tb : Int)) (ed : (pc : Int) + dflt = (td : Int))
    (h1 : x.toInt = a → AW w P d mi k ta L st h) (h2 : x.toInt = b → AW w P d mi k tb L st h) (h3 : x.toInt ≠ a → x.toInt ≠ b → AW w P d mi k td L st h) : AW w P d mi k pc L (.int x :: st) h := by
  have hp : ((#[(a, oa), (b, ob)] : Array (Int × Int)).toList.zip ((#[(a, oa), (b, ob)] : Array (Int × Int)).toList.drop 1)).all (fun (a, next) => a.1 < next.1) = true := by
    simp [hab]
  by_cases q1 : x.toInt = a
  · have hn := h1 q1
    obtain ⟨p, e, s, m, args, below, meth, c, A⟩ := k
    exact fun H l1 la a1 a2 a3 a4 => lv_lookup K.1 K.2.1 hd hp (by simp [Op.lookupswitch.offset, q1]) ea (hn H l1 la a1 a2 a3 a4)
  · by_cases q2 : x.toInt = b
    · have hn := h2 q2
      obtain ⟨p, e, s, m, args, below, meth, c, A⟩ := k
      exact fun H l1 la a1 a2 a3 a4 => lv_lookup K.1 K.2.1 hd hp (by simp [Op.lookupswitch.offset, q2, Int.ne_of_lt hab]) eb (hn H l1 la a1 a2 a3 a4)
    · have hn := h3 q1 q2
      obtain ⟨p, e, s, m, args, below, meth, c, A⟩ := k
      exact fun H l1 la a1 a2 a3 a4 => lv_lookup K.1 K.2.1 hd hp (by simp [Op.lookupswitch.offset, Ne.symm q1, Ne.symm q2]) ed (hn H l1 la a1 a2 a3 a4)
end LK
set_option maxHeartbeats 4000000 in
set_option maxRecDepth 100000 in
theorem tX6_tieOf (l : Launch) (g : Geo) (sta : Nat → Nat) (h : HS) (a b : Int32) {N T Wn : Nat} (H : XW h N T Wn) : CT (wX l g sta) 7 mX6_tieOf [.ref (g.2.1 0), .int a, .int b] h (QI h) := by
  refine CT.at [some (.ref (g.2.1 0)), some (.int a), some (.int b)] 0 rfl (by decide) (Nat.le_of_ble_eq_true rfl) (fun k K => ?_)
  refine aw_al0 K dX6_tieOf_0 ?_
  refine aw_il1 K dX6_tieOf_1 ?_
  refine aw_callV_I K (tX6_isTie l g sta _ _) rfl (by decide) fX6_isTie lX6_119 dX6_tieOf_2 rfl clsX6 rfl (Nat.le_of_ble_eq_true rfl) ?_
  refine aw_if_ne (tgt := 10) K dX6_tieOf_5 (by decide) (fun b5 => ?_) (fun b5 => ?_)
  · have ha : vp_in a 24 := inN H.2.1.1 H.2.1.2 (by decide) (bI_1.mp b5)
    refine aw_il2 K dX6_tieOf_10 ?_
    refine aw_tsw (tgt := 104) K dX6_tieOf_11 (by decide) (by decide) (by decide) ⟨fun s0 => ?_, fun s1 => ?_, fun s2 => ?_, fun s3 => ?_, fun s4 => ?_, fun s5 => ?_, trivial⟩ (fun sd => ?_)
    · show AW _ _ _ _ _ 48 _ _ _
      refine aw_al0 K dX6_tieOf_48 ?_
      refine aw_getR K gX6_19 dX6_tieOf_49 rfl rfl ?_
      refine aw_getR K gX6_122 dX6_tieOf_52 rfl rfl ?_
      refine aw_il1 K dX6_tieOf_55 ?_
      refine aw_iald K dX6_tieOf_56 rfl ha ?_
      refine aw_iret K rfl dX6_tieOf_57 ?_
      exact ⟨⟨_, rfl⟩, H.s⟩
    · show AW _ _ _ _ _ 58 _ _ _
      refine aw_al0 K dX6_tieOf_58 ?_
      refine aw_getR K gX6_19 dX6_tieOf_59 rfl rfl ?_
      refine aw_getR K gX6_125 dX6_tieOf_62 rfl rfl ?_
      refine aw_il1 K dX6_tieOf_65 ?_
      refine aw_iald K dX6_tieOf_66 rfl ha ?_
      refine aw_iret K rfl dX6_tieOf_67 ?_
      exact ⟨⟨_, rfl⟩, H.s⟩
    · show AW _ _ _ _ _ 68 _ _ _
      refine aw_al0 K dX6_tieOf_68 ?_
      refine aw_getR K gX6_19 dX6_tieOf_69 rfl rfl ?_
      refine aw_getR K gX6_128 dX6_tieOf_72 rfl rfl ?_
      refine aw_il1 K dX6_tieOf_75 ?_
      refine aw_iald K dX6_tieOf_76 rfl ha ?_
      refine aw_iret K rfl dX6_tieOf_77 ?_
      exact ⟨⟨_, rfl⟩, H.s⟩
    · show AW _ _ _ _ _ 78 _ _ _
      refine aw_al0 K dX6_tieOf_78 ?_
      refine aw_getR K gX6_19 dX6_tieOf_79 rfl rfl ?_
      refine aw_getR K gX6_131 dX6_tieOf_82 rfl rfl ?_
      refine aw_il1 K dX6_tieOf_85 ?_
      refine aw_iald K dX6_tieOf_86 rfl ha ?_
      refine aw_iret K rfl dX6_tieOf_87 ?_
      exact ⟨⟨_, rfl⟩, H.s⟩
    · show AW _ _ _ _ _ 88 _ _ _
      refine aw_al0 K dX6_tieOf_88 ?_
      refine aw_getR K gX6_19 dX6_tieOf_89 rfl rfl ?_
      refine aw_getR K gX6_134 dX6_tieOf_92 rfl rfl ?_
      refine aw_il1 K dX6_tieOf_95 ?_
      refine aw_iald K dX6_tieOf_96 rfl ha ?_
      refine aw_iret K rfl dX6_tieOf_97 ?_
      exact ⟨⟨_, rfl⟩, H.s⟩
    · show AW _ _ _ _ _ 98 _ _ _
      refine aw_al0 K dX6_tieOf_98 ?_
      refine aw_il1 K dX6_tieOf_99 ?_
      refine aw_callV_I K (tX6_roomOf l g sta _ _ ha H) rfl (by decide) fX6_roomOf lX6_137 dX6_tieOf_100 rfl clsX6 rfl (Nat.le_of_ble_eq_true rfl) ?_
      refine aw_iret K rfl dX6_tieOf_103 ?_
      exact ⟨⟨_, rfl⟩, H.s⟩
    · show AW _ _ _ _ _ 104 _ _ _
      refine aw_iconst (v := (-1)) K dX6_tieOf_104 (by decide) ?_
      refine aw_iret K rfl dX6_tieOf_105 ?_
      exact ⟨⟨_, rfl⟩, H.s⟩
  · refine aw_iconst (v := (-1)) K dX6_tieOf_8 (by decide) ?_
    refine aw_iret K rfl dX6_tieOf_9 ?_
    exact ⟨⟨_, rfl⟩, H.s⟩

set_option maxHeartbeats 4000000 in
set_option maxRecDepth 100000 in
theorem tX6_of (l : Launch) (g : Geo) (sta : Nat → Nat) (h : HS) (a b : Int32) {N T Wn : Nat} (H : XW h N T Wn) : CT (wX l g sta) 7 mX6_of [.ref (g.2.1 0), .int a, .int b] h (QI h) := by
  refine CT.at [some (.ref (g.2.1 0)), some (.int a), some (.int b)] 0 rfl (by decide) (Nat.le_of_ble_eq_true rfl) (fun k K => ?_)
  refine aw_al0 K dX6_of_0 ?_
  refine aw_il1 K dX6_of_1 ?_
  refine aw_callV_I K (tX6_isName l g sta _ _) rfl (by decide) fX6_isName lX6_84 dX6_of_2 rfl clsX6 rfl (Nat.le_of_ble_eq_true rfl) ?_
  refine aw_if_ne (tgt := 10) K dX6_of_5 (by decide) (fun b5 => ?_) (fun b5 => ?_)
  · have ha : vp_in a 12 := inN H.1.1 H.1.2 (by decide) (bI_1.mp b5)
    refine aw_il2 K dX6_of_10 ?_
    refine aw_tsw (tgt := 121) K dX6_of_11 (by decide) (by decide) (by decide) ⟨fun s0 => ?_, fun s1 => ?_, fun s2 => ?_, fun s3 => ?_, fun s4 => ?_, fun s5 => ?_, fun s6 => ?_, trivial⟩ (fun sd => ?_)
    · show AW _ _ _ _ _ 52 _ _ _
      refine aw_al0 K dX6_of_52 ?_
      refine aw_getR K gX6_12 dX6_of_53 rfl rfl ?_
      refine aw_getR K gX6_143 dX6_of_56 rfl rfl ?_
      refine aw_il1 K dX6_of_59 ?_
      refine aw_iald K dX6_of_60 rfl ha ?_
      refine aw_iret K rfl dX6_of_61 ?_
      exact ⟨⟨_, rfl⟩, H.s⟩
    · show AW _ _ _ _ _ 62 _ _ _
      refine aw_al0 K dX6_of_62 ?_
      refine aw_getR K gX6_12 dX6_of_63 rfl rfl ?_
      refine aw_getR K gX6_88 dX6_of_66 rfl rfl ?_
      refine aw_il1 K dX6_of_69 ?_
      refine aw_zald K dX6_of_70 rfl ha ?_
      refine aw_callS_I K (tX6_oneIf l g sta _ _) rfl (by decide) fX6_oneIf lX6_92 dX6_of_71 rfl (Nat.le_of_ble_eq_true rfl) ?_
      refine aw_iret K rfl dX6_of_74 ?_
      exact ⟨⟨_, rfl⟩, H.s⟩
    · show AW _ _ _ _ _ 75 _ _ _
      refine aw_al0 K dX6_of_75 ?_
      refine aw_getR K gX6_12 dX6_of_76 rfl rfl ?_
      refine aw_getR K gX6_96 dX6_of_79 rfl rfl ?_
      refine aw_il1 K dX6_of_82 ?_
      refine aw_zald K dX6_of_83 rfl ha ?_
      refine aw_callS_I K (tX6_oneIf l g sta _ _) rfl (by decide) fX6_oneIf lX6_92 dX6_of_84 rfl (Nat.le_of_ble_eq_true rfl) ?_
      refine aw_iret K rfl dX6_of_87 ?_
      exact ⟨⟨_, rfl⟩, H.s⟩
    · show AW _ _ _ _ _ 88 _ _ _
      refine aw_al0 K dX6_of_88 ?_
      refine aw_il1 K dX6_of_89 ?_
      refine aw_callV_I K (tX6_isFined l g sta _ _ ha) rfl (by decide) fX6_isFined lX6_146 dX6_of_90 rfl clsX6 rfl (Nat.le_of_ble_eq_true rfl) ?_
      refine aw_callS_I K (tX6_oneIf l g sta _ _) rfl (by decide) fX6_oneIf lX6_92 dX6_of_93 rfl (Nat.le_of_ble_eq_true rfl) ?_
      refine aw_iret K rfl dX6_of_96 ?_
      exact ⟨⟨_, rfl⟩, H.s⟩
    · show AW _ _ _ _ _ 97 _ _ _
      refine aw_al0 K dX6_of_97 ?_
      refine aw_getR K gX6_12 dX6_of_98 rfl rfl ?_
      refine aw_getR K gX6_149 dX6_of_101 rfl rfl ?_
      refine aw_il1 K dX6_of_104 ?_
      refine aw_iald K dX6_of_105 rfl ha ?_
      refine aw_iret K rfl dX6_of_106 ?_
      exact ⟨⟨_, rfl⟩, H.s⟩
    · show AW _ _ _ _ _ 107 _ _ _
      refine aw_al0 K dX6_of_107 ?_
      refine aw_il1 K dX6_of_108 ?_
      refine aw_callV_I K (tX6_givenTo l g sta _ _ ha) rfl (by decide) fX6_givenTo lX6_152 dX6_of_109 rfl clsX6 rfl (Nat.le_of_ble_eq_true rfl) ?_
      refine aw_iret K rfl dX6_of_112 ?_
      exact ⟨⟨_, rfl⟩, H.s⟩
    · show AW _ _ _ _ _ 113 _ _ _
      refine aw_al0 K dX6_of_113 ?_
      refine aw_iconst (v := 1) K dX6_of_114 (by decide) ?_
      refine aw_il1 K dX6_of_115 ?_
      refine aw_ishl K dX6_of_116 ?_
      refine aw_callV K (tX6_openTies l g sta _ _ H) rfl (by decide) fX6_openTies lX6_155 dX6_of_117 rfl clsX6 rfl (Nat.le_of_ble_eq_true rfl) (fun o h2 hq => ?_)
      obtain ⟨⟨r, rfl⟩, rfl⟩ := hq
      refine (show AW _ _ _ _ _ _ _ (.int r :: _) _ from ?_)
      refine aw_iret K rfl dX6_of_120 ?_
      exact ⟨⟨_, rfl⟩, H.s⟩
    · show AW _ _ _ _ _ 121 _ _ _
      refine aw_iconst (v := (-1)) K dX6_of_121 (by decide) ?_
      refine aw_iret K rfl dX6_of_122 ?_
      exact ⟨⟨_, rfl⟩, H.s⟩
  · refine aw_iconst (v := (-1)) K dX6_of_8 (by decide) ?_
    refine aw_iret K rfl dX6_of_9 ?_
    exact ⟨⟨_, rfl⟩, H.s⟩

set_option maxHeartbeats 4000000 in
set_option maxRecDepth 100000 in
theorem tX6_trust (l : Launch) (g : Geo) (sta : Nat → Nat) (h : HS) (a : Int32) {N T Wn : Nat} (H : XW h N T Wn) : CT (wX l g sta) 7 mX6_trust [.ref (g.2.1 0), .int a] h (QI h) := by
  refine CT.at [some (.ref (g.2.1 0)), some (.int a)] 0 rfl (by decide) (Nat.le_of_ble_eq_true rfl) (fun k K => ?_)
  refine aw_al0 K dX6_trust_0 ?_
  refine aw_il1 K dX6_trust_1 ?_
  refine aw_callV_I K (tX6_isName l g sta _ _) rfl (by decide) fX6_isName lX6_84 dX6_trust_2 rfl clsX6 rfl (Nat.le_of_ble_eq_true rfl) ?_
  refine aw_if_ne (tgt := 10) K dX6_trust_5 (by decide) (fun b5 => ?_) (fun b5 => ?_)
  · refine aw_al0 K dX6_trust_10 ?_
    refine aw_callV K (tX6_layFlow l g sta _ H) rfl (by decide) fX6_layFlow lX6_190 dX6_trust_11 rfl clsX6 rfl (Nat.le_of_ble_eq_true rfl) (fun o h2 hq => ?_)
    obtain ⟨rfl, hx⟩ := hq
    refine aw_al0 K dX6_trust_14 ?_
    refine aw_getR K gX6_40 dX6_trust_15 rfl rfl ?_
    refine aw_iconst (v := 1) K dX6_trust_18 (by decide) ?_
    refine aw_il1 K dX6_trust_19 ?_
    refine aw_ishl K dX6_trust_20 ?_
    refine aw_callV K (tX0_most l g sta _ _ h hx) rfl (by decide) fX0_most lX6_193 dX6_trust_21 rfl clsX0 rfl (Nat.le_of_ble_eq_true rfl) (fun o h2 hq => ?_)
    obtain ⟨⟨r, rfl⟩, hx2⟩ := hq
    refine (show AW _ _ _ _ _ _ _ (.int r :: _) _ from ?_)
    refine aw_iret K rfl dX6_trust_24 ?_
    exact ⟨⟨_, rfl⟩, hx2⟩
  · refine aw_iconst (v := (-1)) K dX6_trust_8 (by decide) ?_
    refine aw_iret K rfl dX6_trust_9 ?_
    exact ⟨⟨_, rfl⟩, H.s⟩

set_option maxHeartbeats 4000000 in
set_option maxRecDepth 100000 in
theorem tX6_heap (l : Launch) (g : Geo) (sta : Nat → Nat) (h : HS) (a : Int32) {N T Wn : Nat} (H : XW h N T Wn) : CT (wX l g sta) 7 mX6_heap [.ref (g.2.1 0), .int a] h (QI h) := by
  refine CT.at [some (.ref (g.2.1 0)), some (.int a)] 0 rfl (by decide) (Nat.le_of_ble_eq_true rfl) (fun k K => ?_)
  refine aw_al0 K dX6_heap_0 ?_
  refine aw_il1 K dX6_heap_1 ?_
  refine aw_callV_I K (tX6_isHeap l g sta _ _) rfl (by decide) fX6_isHeap lX6_196 dX6_heap_2 rfl clsX6 rfl (Nat.le_of_ble_eq_true rfl) ?_
  refine aw_if_ne (tgt := 10) K dX6_heap_5 (by decide) (fun b5 => ?_) (fun b5 => ?_)
  · refine aw_al0 K dX6_heap_10 ?_
    refine aw_callV K (tX6_layFlow l g sta _ H) rfl (by decide) fX6_layFlow lX6_190 dX6_heap_11 rfl clsX6 rfl (Nat.le_of_ble_eq_true rfl) (fun o h2 hq => ?_)
    obtain ⟨rfl, hx⟩ := hq
    refine aw_al0 K dX6_heap_14 ?_
    refine aw_getR K gX6_40 dX6_heap_15 rfl rfl ?_
    refine aw_il1 K dX6_heap_18 ?_
    refine aw_callV K (tX0_most l g sta _ _ h hx) rfl (by decide) fX0_most lX6_193 dX6_heap_19 rfl clsX0 rfl (Nat.le_of_ble_eq_true rfl) (fun o h2 hq => ?_)
    obtain ⟨⟨r, rfl⟩, hx2⟩ := hq
    refine (show AW _ _ _ _ _ _ _ (.int r :: _) _ from ?_)
    refine aw_iret K rfl dX6_heap_22 ?_
    exact ⟨⟨_, rfl⟩, hx2⟩
  · refine aw_iconst (v := (-1)) K dX6_heap_8 (by decide) ?_
    refine aw_iret K rfl dX6_heap_9 ?_
    exact ⟨⟨_, rfl⟩, H.s⟩

set_option maxHeartbeats 4000000 in
set_option maxRecDepth 100000 in
theorem tX6_cut (l : Launch) (g : Geo) (sta : Nat → Nat) (h : HS) (a b : Int32) {N T Wn : Nat} (H : XW h N T Wn) : CT (wX l g sta) 7 mX6_cut [.ref (g.2.1 0), .int a, .int b] h (QI h) := by
  refine CT.at [some (.ref (g.2.1 0)), some (.int a), some (.int b), none] 1 rfl (by decide) (Nat.le_of_ble_eq_true rfl) (fun k K => ?_)
  refine aw_al0 K dX6_cut_0 ?_
  refine aw_il1 K dX6_cut_1 ?_
  refine aw_callV_I K (tX6_isHeap l g sta _ _) rfl (by decide) fX6_isHeap lX6_196 dX6_cut_2 rfl clsX6 rfl (Nat.le_of_ble_eq_true rfl) ?_
  refine aw_if_eq (tgt := 21) K dX6_cut_5 (by decide) (fun b5 => ?_) (fun b5 => ?_)
  · refine aw_iconst (v := (-1)) K dX6_cut_21 (by decide) ?_
    refine aw_iret K rfl dX6_cut_22 ?_
    exact ⟨⟨_, rfl⟩, H.s⟩
  · refine aw_il1 K dX6_cut_8 ?_
    refine aw_if_eq (tgt := 21) K dX6_cut_9 (by decide) (fun b9 => ?_) (fun b9 => ?_)
    · refine aw_iconst (v := (-1)) K dX6_cut_21 (by decide) ?_
      refine aw_iret K rfl dX6_cut_22 ?_
      exact ⟨⟨_, rfl⟩, H.s⟩
    · refine aw_il2 K dX6_cut_12 ?_
      refine aw_iconst (v := 0) K dX6_cut_13 (by decide) ?_
      refine aw_iconst (v := 2) K dX6_cut_14 (by decide) ?_
      refine aw_callS_I K (tX6_within l g sta _ _ _ _) rfl (by decide) fX6_within lX6_76 dX6_cut_15 rfl (Nat.le_of_ble_eq_true rfl) ?_
      refine aw_if_ne (tgt := 23) K dX6_cut_18 (by decide) (fun b18 => ?_) (fun b18 => ?_)
      · refine aw_al0 K dX6_cut_23 ?_
        refine aw_callV K (tX6_layFlow l g sta _ H) rfl (by decide) fX6_layFlow lX6_190 dX6_cut_24 rfl clsX6 rfl (Nat.le_of_ble_eq_true rfl) (fun o h2 hq => ?_)
        obtain ⟨rfl, hx⟩ := hq
        refine aw_al0 K dX6_cut_27 ?_
        refine aw_getR K gX6_40 dX6_cut_28 rfl rfl ?_
        refine aw_il1 K dX6_cut_31 ?_
        refine aw_callV K (tX0_most l g sta _ _ h hx) rfl (by decide) fX0_most lX6_193 dX6_cut_32 rfl clsX0 rfl (Nat.le_of_ble_eq_true rfl) (fun o h2 hq => ?_)
        obtain ⟨⟨r, rfl⟩, hx2⟩ := hq
        refine (show AW _ _ _ _ _ _ _ (.int r :: _) _ from ?_)
        refine aw_pop K dX6_cut_35 rfl ?_
        refine aw_al0 K dX6_cut_36 ?_
        refine aw_getR K gX6_40 dX6_cut_37 rfl rfl ?_
        refine aw_getI K gX6_199 dX6_cut_40 rfl rfl ?_
        refine aw_sipush (v := 4095) K dX6_cut_43 (by decide) ?_
        refine aw_iand K dX6_cut_46 ?_
        refine aw_is3 K dX6_cut_47 (by decide) rfl ?_
        refine aw_il2 K dX6_cut_48 ?_
        refine aw_lk2 (ta := 76) (tb := 78) (td := 84) K dX6_cut_49 (by decide) (by decide) (by decide) (by decide) (fun s0 => ?_) (fun s1 => ?_) (fun s0 s1 => ?_)
        · refine aw_il3 K dX6_cut_76 ?_
          refine aw_iret K rfl dX6_cut_77 ?_
          exact ⟨⟨_, rfl⟩, hx2⟩
        · refine aw_al0 K dX6_cut_78 ?_
          refine aw_il3 K dX6_cut_79 ?_
          refine aw_callV K (tX6_tiesOutOf l g sta _ _ (H.q hx2)) rfl (by decide) fX6_tiesOutOf lX6_202 dX6_cut_80 rfl clsX6 rfl (Nat.le_of_ble_eq_true rfl) (fun o h2 hq => ?_)
          obtain ⟨⟨r, rfl⟩, rfl⟩ := hq
          refine (show AW _ _ _ _ _ _ _ (.int r :: _) _ from ?_)
          refine aw_iret K rfl dX6_cut_83 ?_
          exact ⟨⟨_, rfl⟩, hx2⟩
        · refine aw_al0 K dX6_cut_84 ?_
          refine aw_il3 K dX6_cut_85 ?_
          refine aw_callV K (tX6_givenBeyond l g sta _ _ (H.q hx2)) rfl (by decide) fX6_givenBeyond lX6_205 dX6_cut_86 rfl clsX6 rfl (Nat.le_of_ble_eq_true rfl) (fun o h2 hq => ?_)
          obtain ⟨⟨r, rfl⟩, rfl⟩ := hq
          refine (show AW _ _ _ _ _ _ _ (.int r :: _) _ from ?_)
          refine aw_iret K rfl dX6_cut_89 ?_
          exact ⟨⟨_, rfl⟩, hx2⟩
      · refine aw_iconst (v := (-1)) K dX6_cut_21 (by decide) ?_
        refine aw_iret K rfl dX6_cut_22 ?_
        exact ⟨⟨_, rfl⟩, H.s⟩

set_option maxHeartbeats 4000000 in
set_option maxRecDepth 100000 in
theorem tX6_wordOf (l : Launch) (g : Geo) (sta : Nat → Nat) (h : HS) (a b : Int32) {N T Wn : Nat} (H : XW h N T Wn) : CT (wX l g sta) 7 mX6_wordOf [.ref (g.2.1 0), .int a, .int b] h (QI h) := by
  refine CT.at [some (.ref (g.2.1 0)), some (.int a), some (.int b)] 0 rfl (by decide) (Nat.le_of_ble_eq_true rfl) (fun k K => ?_)
  refine aw_al0 K dX6_wordOf_0 ?_
  refine aw_il1 K dX6_wordOf_1 ?_
  refine aw_callV_I K (tX6_isWord l g sta _ _) rfl (by decide) fX6_isWord lX6_218 dX6_wordOf_2 rfl clsX6 rfl (Nat.le_of_ble_eq_true rfl) ?_
  refine aw_if_ne (tgt := 10) K dX6_wordOf_5 (by decide) (fun b5 => ?_) (fun b5 => ?_)
  · have ha : vp_in a 24 := inN H.2.2.1.1 H.2.2.1.2 (by decide) (bI_1.mp b5)
    refine aw_il2 K dX6_wordOf_10 ?_
    refine aw_tsw (tgt := 110) K dX6_wordOf_11 (by decide) (by decide) (by decide) ⟨fun s0 => ?_, fun s1 => ?_, fun s2 => ?_, fun s3 => ?_, fun s4 => ?_, fun s5 => ?_, trivial⟩ (fun sd => ?_)
    · show AW _ _ _ _ _ 48 _ _ _
      refine aw_al0 K dX6_wordOf_48 ?_
      refine aw_getR K gX6_26 dX6_wordOf_49 rfl rfl ?_
      refine aw_getR K gX6_221 dX6_wordOf_52 rfl rfl ?_
      refine aw_il1 K dX6_wordOf_55 ?_
      refine aw_iald K dX6_wordOf_56 rfl ha ?_
      refine aw_iret K rfl dX6_wordOf_57 ?_
      exact ⟨⟨_, rfl⟩, H.s⟩
    · show AW _ _ _ _ _ 58 _ _ _
      refine aw_al0 K dX6_wordOf_58 ?_
      refine aw_getR K gX6_26 dX6_wordOf_59 rfl rfl ?_
      refine aw_getR K gX6_224 dX6_wordOf_62 rfl rfl ?_
      refine aw_il1 K dX6_wordOf_65 ?_
      refine aw_iald K dX6_wordOf_66 rfl ha ?_
      refine aw_iret K rfl dX6_wordOf_67 ?_
      exact ⟨⟨_, rfl⟩, H.s⟩
    · show AW _ _ _ _ _ 68 _ _ _
      refine aw_al0 K dX6_wordOf_68 ?_
      refine aw_getR K gX6_26 dX6_wordOf_69 rfl rfl ?_
      refine aw_getR K gX6_227 dX6_wordOf_72 rfl rfl ?_
      refine aw_il1 K dX6_wordOf_75 ?_
      refine aw_iald K dX6_wordOf_76 rfl ha ?_
      refine aw_iret K rfl dX6_wordOf_77 ?_
      exact ⟨⟨_, rfl⟩, H.s⟩
    · show AW _ _ _ _ _ 78 _ _ _
      refine aw_al0 K dX6_wordOf_78 ?_
      refine aw_getR K gX6_26 dX6_wordOf_79 rfl rfl ?_
      refine aw_getR K gX6_230 dX6_wordOf_82 rfl rfl ?_
      refine aw_il1 K dX6_wordOf_85 ?_
      refine aw_iald K dX6_wordOf_86 rfl ha ?_
      refine aw_iret K rfl dX6_wordOf_87 ?_
      exact ⟨⟨_, rfl⟩, H.s⟩
    · show AW _ _ _ _ _ 88 _ _ _
      refine aw_al0 K dX6_wordOf_88 ?_
      refine aw_getR K gX6_26 dX6_wordOf_89 rfl rfl ?_
      refine aw_getR K gX6_233 dX6_wordOf_92 rfl rfl ?_
      refine aw_il1 K dX6_wordOf_95 ?_
      refine aw_iald K dX6_wordOf_96 rfl ha ?_
      refine aw_iret K rfl dX6_wordOf_97 ?_
      exact ⟨⟨_, rfl⟩, H.s⟩
    · show AW _ _ _ _ _ 98 _ _ _
      refine aw_al0 K dX6_wordOf_98 ?_
      refine aw_getR K gX6_26 dX6_wordOf_99 rfl rfl ?_
      refine aw_il1 K dX6_wordOf_102 ?_
      refine aw_callV K (tX5_doesCount l g sta _ _ ha H) rfl (by decide) fX5_doesCount lX6_234 dX6_wordOf_103 rfl clsX5 rfl (Nat.le_of_ble_eq_true rfl) (fun o h2 hq => ?_)
      obtain ⟨⟨r, rfl⟩, rfl⟩ := hq
      refine (show AW _ _ _ _ _ _ _ (.int r :: _) _ from ?_)
      refine aw_callS_I K (tX6_oneIf l g sta _ _) rfl (by decide) fX6_oneIf lX6_92 dX6_wordOf_106 rfl (Nat.le_of_ble_eq_true rfl) ?_
      refine aw_iret K rfl dX6_wordOf_109 ?_
      exact ⟨⟨_, rfl⟩, H.s⟩
    · show AW _ _ _ _ _ 110 _ _ _
      refine aw_iconst (v := (-1)) K dX6_wordOf_110 (by decide) ?_
      refine aw_iret K rfl dX6_wordOf_111 ?_
      exact ⟨⟨_, rfl⟩, H.s⟩
  · refine aw_iconst (v := (-1)) K dX6_wordOf_8 (by decide) ?_
    refine aw_iret K rfl dX6_wordOf_9 ?_
    exact ⟨⟨_, rfl⟩, H.s⟩

set_option maxHeartbeats 4000000 in
set_option maxRecDepth 100000 in
theorem tX6_weight (l : Launch) (g : Geo) (sta : Nat → Nat) (h : HS) (a b : Int32) {N T Wn : Nat} (H : XW h N T Wn) : CT (wX l g sta) 7 mX6_weight [.ref (g.2.1 0), .int a, .int b] h (QI h) := by
  refine CT.at [some (.ref (g.2.1 0)), some (.int a), some (.int b)] 0 rfl (by decide) (Nat.le_of_ble_eq_true rfl) (fun k K => ?_)
  refine aw_al0 K dX6_weight_0 ?_
  refine aw_il1 K dX6_weight_1 ?_
  refine aw_il2 K dX6_weight_2 ?_
  refine aw_callV_I K (tX6_arePair l g sta _ _ _) rfl (by decide) fX6_arePair lX6_105 dX6_weight_3 rfl clsX6 rfl (Nat.le_of_ble_eq_true rfl) ?_
  refine aw_if_ne (tgt := 11) K dX6_weight_6 (by decide) (fun b6 => ?_) (fun b6 => ?_)
  · have hb : vp_in b 12 := inN H.1.1 H.1.2 (by decide) (bI_1.mp b6).2.1
    refine aw_al0 K dX6_weight_11 ?_
    refine aw_il1 K dX6_weight_12 ?_
    refine aw_callV K (tX6_sayersOf l g sta _ _ H) rfl (by decide) fX6_sayersOf lX6_237 dX6_weight_13 rfl clsX6 rfl (Nat.le_of_ble_eq_true rfl) (fun o h2 hq => ?_)
    obtain ⟨⟨r, rfl⟩, rfl⟩ := hq
    refine (show AW _ _ _ _ _ _ _ (.int r :: _) _ from ?_)
    refine aw_il2 K dX6_weight_16 ?_
    refine aw_callS_I K (tX6_hasBit l g sta _ _ _) rfl (by decide) fX6_hasBit lX6_162 dX6_weight_17 rfl (Nat.le_of_ble_eq_true rfl) ?_
    refine aw_if_ne (tgt := 26) K dX6_weight_20 (by decide) (fun b20 => ?_) (fun b20 => ?_)
    · refine aw_al0 K dX6_weight_26 ?_
      refine aw_il1 K dX6_weight_27 ?_
      refine aw_callV K (tX6_weighSayers l g sta _ _ H) rfl (by decide) fX6_weighSayers lX6_240 dX6_weight_28 rfl clsX6 rfl (Nat.le_of_ble_eq_true rfl) (fun o h2 hq => ?_)
      obtain ⟨⟨r2, rfl⟩, hx⟩ := hq
      refine (show AW _ _ _ _ _ _ _ (.int r2 :: _) _ from ?_)
      refine aw_pop K dX6_weight_31 rfl ?_
      refine aw_al0 K dX6_weight_32 ?_
      refine aw_getR K gX6_57 dX6_weight_33 rfl rfl ?_
      refine aw_il2 K dX6_weight_36 ?_
      refine aw_iald K dX6_weight_37 rfl hb ?_
      refine aw_iret K rfl dX6_weight_38 ?_
      exact ⟨⟨_, rfl⟩, hx⟩
    · refine aw_bipush (v := (-4)) K dX6_weight_23 (by decide) ?_
      refine aw_iret K rfl dX6_weight_25 ?_
      exact ⟨⟨_, rfl⟩, H.s⟩
  · refine aw_iconst (v := (-1)) K dX6_weight_9 (by decide) ?_
    refine aw_iret K rfl dX6_weight_10 ?_
    exact ⟨⟨_, rfl⟩, H.s⟩

set_option maxHeartbeats 4000000 in
set_option maxRecDepth 100000 in
theorem tX6_sayers (l : Launch) (g : Geo) (sta : Nat → Nat) (h : HS) (a : Int32) {N T Wn : Nat} (H : XW h N T Wn) : CT (wX l g sta) 7 mX6_sayers [.ref (g.2.1 0), .int a] h (QI h) := by
  refine CT.at [some (.ref (g.2.1 0)), some (.int a)] 0 rfl (by decide) (Nat.le_of_ble_eq_true rfl) (fun k K => ?_)
  refine aw_al0 K dX6_sayers_0 ?_
  refine aw_il1 K dX6_sayers_1 ?_
  refine aw_callV_I K (tX6_isName l g sta _ _) rfl (by decide) fX6_isName lX6_84 dX6_sayers_2 rfl clsX6 rfl (Nat.le_of_ble_eq_true rfl) ?_
  refine aw_if_eq (tgt := 16) K dX6_sayers_5 (by decide) (fun b5 => ?_) (fun b5 => ?_)
  · refine aw_iconst (v := (-1)) K dX6_sayers_16 (by decide) ?_
    refine aw_iret K rfl dX6_sayers_17 ?_
    exact ⟨⟨_, rfl⟩, H.s⟩
  · refine aw_al0 K dX6_sayers_8 ?_
    refine aw_il1 K dX6_sayers_9 ?_
    refine aw_callV K (tX6_sayersOf l g sta _ _ H) rfl (by decide) fX6_sayersOf lX6_237 dX6_sayers_10 rfl clsX6 rfl (Nat.le_of_ble_eq_true rfl) (fun o h2 hq => ?_)
    obtain ⟨⟨r, rfl⟩, rfl⟩ := hq
    refine (show AW _ _ _ _ _ _ _ (.int r :: _) _ from ?_)
    refine aw_goto (tgt := 17) K dX6_sayers_13 (by decide) ?_
    refine aw_iret K rfl dX6_sayers_17 ?_
    exact ⟨⟨_, rfl⟩, H.s⟩

set_option maxHeartbeats 4000000 in
set_option maxRecDepth 100000 in
theorem tX6_mark (l : Launch) (g : Geo) (sta : Nat → Nat) (h : HS) (a b : Int32) {N T Wn : Nat} (H : XW h N T Wn) : CT (wX l g sta) 7 mX6_mark [.ref (g.2.1 0), .int a, .int b] h (QI h) := by
  refine CT.at [some (.ref (g.2.1 0)), some (.int a), some (.int b), none] 1 rfl (by decide) (Nat.le_of_ble_eq_true rfl) (fun k K => ?_)
  refine aw_al0 K dX6_mark_0 ?_
  refine aw_il1 K dX6_mark_1 ?_
  refine aw_callV_I K (tX6_isName l g sta _ _) rfl (by decide) fX6_isName lX6_84 dX6_mark_2 rfl clsX6 rfl (Nat.le_of_ble_eq_true rfl) ?_
  refine aw_if_eq (tgt := 17) K dX6_mark_5 (by decide) (fun b5 => ?_) (fun b5 => ?_)
  · refine aw_iconst (v := (-1)) K dX6_mark_17 (by decide) ?_
    refine aw_iret K rfl dX6_mark_18 ?_
    exact ⟨⟨_, rfl⟩, H.s⟩
  · refine aw_il2 K dX6_mark_8 ?_
    refine aw_iconst (v := 0) K dX6_mark_9 (by decide) ?_
    refine aw_iconst (v := 1) K dX6_mark_10 (by decide) ?_
    refine aw_callS_I K (tX6_within l g sta _ _ _ _) rfl (by decide) fX6_within lX6_76 dX6_mark_11 rfl (Nat.le_of_ble_eq_true rfl) ?_
    refine aw_if_ne (tgt := 19) K dX6_mark_14 (by decide) (fun b14 => ?_) (fun b14 => ?_)
    · refine aw_al0 K dX6_mark_19 ?_
      refine aw_il1 K dX6_mark_20 ?_
      refine aw_callV K (tX6_weighSayers l g sta _ _ H) rfl (by decide) fX6_weighSayers lX6_240 dX6_mark_21 rfl clsX6 rfl (Nat.le_of_ble_eq_true rfl) (fun o h2 hq => ?_)
      obtain ⟨⟨r, rfl⟩, hx⟩ := hq
      refine (show AW _ _ _ _ _ _ _ (.int r :: _) _ from ?_)
      refine aw_is3 K dX6_mark_24 (by decide) rfl ?_
      refine aw_il3 K dX6_mark_25 ?_
      refine aw_if_ne (tgt := 32) K dX6_mark_26 (by decide) (fun b26 => ?_) (fun b26 => ?_)
      · refine aw_al0 K dX6_mark_32 ?_
        refine aw_callV K (tX6_summedMarks l g sta _) rfl (by decide) fX6_summedMarks lX6_243 dX6_mark_33 rfl clsX6 rfl (Nat.le_of_ble_eq_true rfl) (fun o h2 hq => ?_)
        obtain ⟨⟨r3, rfl⟩, rfl⟩ := hq
        refine (show AW _ _ _ _ _ _ _ (.int r3 :: _) _ from ?_)
        refine aw_i2l K dX6_mark_36 ?_
        refine aw_il3 K dX6_mark_37 ?_
        refine aw_i2l K dX6_mark_38 ?_
        refine aw_il2 K dX6_mark_39 ?_
        refine aw_if_ne (tgt := 47) K dX6_mark_40 (by decide) (fun b40 => ?_) (fun b40 => ?_)
        · refine aw_iconst (v := 0) K dX6_mark_47 (by decide) ?_
          refine aw_callS K (tX6_inLowest l g sta _ _ _ _) rfl (by decide) fX6_inLowest lX6_247 dX6_mark_48 rfl (Nat.le_of_ble_eq_true rfl) (fun o h2 hq => ?_)
          obtain ⟨⟨r4, rfl⟩, rfl⟩ := hq
          refine (show AW _ _ _ _ _ _ _ (.long r4 :: _) _ from ?_)
          refine aw_l2i K dX6_mark_51 ?_
          refine aw_iret K rfl dX6_mark_52 ?_
          exact ⟨⟨_, rfl⟩, hx⟩
        · refine aw_iconst (v := 1) K dX6_mark_43 (by decide) ?_
          refine aw_goto (tgt := 48) K dX6_mark_44 (by decide) ?_
          refine aw_callS K (tX6_inLowest l g sta _ _ _ _) rfl (by decide) fX6_inLowest lX6_247 dX6_mark_48 rfl (Nat.le_of_ble_eq_true rfl) (fun o h2 hq => ?_)
          obtain ⟨⟨r4, rfl⟩, rfl⟩ := hq
          refine (show AW _ _ _ _ _ _ _ (.long r4 :: _) _ from ?_)
          refine aw_l2i K dX6_mark_51 ?_
          refine aw_iret K rfl dX6_mark_52 ?_
          exact ⟨⟨_, rfl⟩, hx⟩
      · refine aw_bipush (v := (-4)) K dX6_mark_29 (by decide) ?_
        refine aw_iret K rfl dX6_mark_31 ?_
        exact ⟨⟨_, rfl⟩, hx⟩
    · refine aw_iconst (v := (-1)) K dX6_mark_17 (by decide) ?_
      refine aw_iret K rfl dX6_mark_18 ?_
      exact ⟨⟨_, rfl⟩, H.s⟩

set_option maxHeartbeats 4000000 in
set_option maxRecDepth 100000 in
theorem tX6_span (l : Launch) (g : Geo) (sta : Nat → Nat) (h : HS) (a b c : Int32) {N T Wn : Nat} (H : XW h N T Wn) : CT (wX l g sta) 7 mX6_span [.ref (g.2.1 0), .int a, .int b, .int c] h (QI h) := by
  refine CT.at [some (.ref (g.2.1 0)), some (.int a), some (.int b), some (.int c), none, none, none, none] 4 rfl (by decide) (Nat.le_of_ble_eq_true rfl) (fun k K => ?_)
  refine aw_al0 K dX6_span_0 ?_
  refine aw_il1 K dX6_span_1 ?_
  refine aw_callV_I K (tX6_isName l g sta _ _) rfl (by decide) fX6_isName lX6_84 dX6_span_2 rfl clsX6 rfl (Nat.le_of_ble_eq_true rfl) ?_
  refine aw_if_eq (tgt := 26) K dX6_span_5 (by decide) (fun b5 => ?_) (fun b5 => ?_)
  · refine aw_iconst (v := (-1)) K dX6_span_26 (by decide) ?_
    refine aw_iret K rfl dX6_span_27 ?_
    exact ⟨⟨_, rfl⟩, H.s⟩
  · refine aw_il2 K dX6_span_8 ?_
    refine aw_iconst (v := 0) K dX6_span_9 (by decide) ?_
    refine aw_iconst (v := 3) K dX6_span_10 (by decide) ?_
    refine aw_callS_I K (tX6_within l g sta _ _ _ _) rfl (by decide) fX6_within lX6_76 dX6_span_11 rfl (Nat.le_of_ble_eq_true rfl) ?_
    refine aw_if_eq (tgt := 26) K dX6_span_14 (by decide) (fun b14 => ?_) (fun b14 => ?_)
    · refine aw_iconst (v := (-1)) K dX6_span_26 (by decide) ?_
      refine aw_iret K rfl dX6_span_27 ?_
      exact ⟨⟨_, rfl⟩, H.s⟩
    · refine aw_il3 K dX6_span_17 ?_
      refine aw_iconst (v := 0) K dX6_span_18 (by decide) ?_
      refine aw_iconst (v := 3) K dX6_span_19 (by decide) ?_
      refine aw_callS_I K (tX6_within l g sta _ _ _ _) rfl (by decide) fX6_within lX6_76 dX6_span_20 rfl (Nat.le_of_ble_eq_true rfl) ?_
      refine aw_if_ne (tgt := 28) K dX6_span_23 (by decide) (fun b23 => ?_) (fun b23 => ?_)
      · obtain ⟨kk, hkk, rfl⟩ := nI_of (Int32.not_lt.mpr (bI_1.mp b14).1)
        refine aw_al0 K dX6_span_28 ?_
        refine aw_il1 K dX6_span_29 ?_
        refine aw_callV K (tX6_weighSayers l g sta _ _ H) rfl (by decide) fX6_weighSayers lX6_240 dX6_span_30 rfl clsX6 rfl (Nat.le_of_ble_eq_true rfl) (fun o h2 hq => ?_)
        obtain ⟨⟨r, rfl⟩, hx⟩ := hq
        refine (show AW _ _ _ _ _ _ _ (.int r :: _) _ from ?_)
        refine aw_is4 K dX6_span_33 (by decide) rfl ?_
        refine aw_il4 K dX6_span_35 ?_
        refine aw_if_ne (tgt := 43) K dX6_span_37 (by decide) (fun b37 => ?_) (fun b37 => ?_)
        · refine aw_il3 K dX6_span_43 ?_
          refine aw_iconst (v := 2) K dX6_span_44 (by decide) ?_
          refine aw_icmp_lt (tgt := 52) K dX6_span_45 (by decide) (fun b45 => ?_) (fun b45 => ?_)
          · refine aw_iconst (v := 0) K dX6_span_52 (by decide) ?_
            refine aw_is5 K dX6_span_53 (by decide) rfl ?_
            refine aw_al0 K dX6_span_55 ?_
            refine aw_il2 K dX6_span_56 ?_
            refine aw_il5 K dX6_span_57 ?_
            refine aw_callV K (tX6_greatestStakes l g sta _ _ _ hkk h hx) rfl (by decide) fX6_greatestStakes lX6_251 dX6_span_59 rfl clsX6 rfl (Nat.le_of_ble_eq_true rfl) (fun o h2 hq => ?_)
            obtain ⟨⟨r2, rfl⟩, hx2⟩ := hq
            refine (show AW _ _ _ _ _ _ _ (.int r2 :: _) _ from ?_)
            refine aw_is6 K dX6_span_62 (by decide) rfl ?_
            refine aw_il5 K dX6_span_64 ?_
            refine aw_if_eq (tgt := 79) K dX6_span_66 (by decide) (fun b66 => ?_) (fun b66 => ?_)
            · refine aw_al0 K dX6_span_79 ?_
              refine aw_callV K (tX6_summedMarks l g sta _) rfl (by decide) fX6_summedMarks lX6_243 dX6_span_80 rfl clsX6 rfl (Nat.le_of_ble_eq_true rfl) (fun o h2 hq => ?_)
              obtain ⟨⟨r3, rfl⟩, rfl⟩ := hq
              refine (show AW _ _ _ _ _ _ _ (.int r3 :: _) _ from ?_)
              refine aw_il6 K dX6_span_83 ?_
              refine aw_isub K dX6_span_85 ?_
              refine aw_is7 K dX6_span_86 (by decide) rfl ?_
              refine aw_il7 K dX6_span_88 ?_
              refine aw_i2l K dX6_span_90 ?_
              refine aw_il4 K dX6_span_91 ?_
              refine aw_i2l K dX6_span_93 ?_
              refine aw_il3 K dX6_span_94 ?_
              refine aw_iconst (v := 2) K dX6_span_95 (by decide) ?_
              refine aw_irem K dX6_span_96 (by decide) ?_
              refine aw_if_ne (tgt := 104) K dX6_span_97 (by decide) (fun b97 => ?_) (fun b97 => ?_)
              · refine aw_iconst (v := 0) K dX6_span_104 (by decide) ?_
                refine aw_callS K (tX6_inLowest l g sta _ _ _ _) rfl (by decide) fX6_inLowest lX6_247 dX6_span_105 rfl (Nat.le_of_ble_eq_true rfl) (fun o h2 hq => ?_)
                obtain ⟨⟨r4, rfl⟩, rfl⟩ := hq
                refine (show AW _ _ _ _ _ _ _ (.long r4 :: _) _ from ?_)
                refine aw_l2i K dX6_span_108 ?_
                refine aw_iret K rfl dX6_span_109 ?_
                exact ⟨⟨_, rfl⟩, hx2⟩
              · refine aw_iconst (v := 1) K dX6_span_100 (by decide) ?_
                refine aw_goto (tgt := 105) K dX6_span_101 (by decide) ?_
                refine aw_callS K (tX6_inLowest l g sta _ _ _ _) rfl (by decide) fX6_inLowest lX6_247 dX6_span_105 rfl (Nat.le_of_ble_eq_true rfl) (fun o h2 hq => ?_)
                obtain ⟨⟨r4, rfl⟩, rfl⟩ := hq
                refine (show AW _ _ _ _ _ _ _ (.long r4 :: _) _ from ?_)
                refine aw_l2i K dX6_span_108 ?_
                refine aw_iret K rfl dX6_span_109 ?_
                exact ⟨⟨_, rfl⟩, hx2⟩
            · refine aw_al0 K dX6_span_69 ?_
              refine aw_callV K (tX6_summedMarks l g sta _) rfl (by decide) fX6_summedMarks lX6_243 dX6_span_70 rfl clsX6 rfl (Nat.le_of_ble_eq_true rfl) (fun o h2 hq => ?_)
              obtain ⟨⟨r3, rfl⟩, rfl⟩ := hq
              refine (show AW _ _ _ _ _ _ _ (.int r3 :: _) _ from ?_)
              refine aw_il6 K dX6_span_73 ?_
              refine aw_iadd K dX6_span_75 ?_
              refine aw_goto (tgt := 86) K dX6_span_76 (by decide) ?_
              refine aw_is7 K dX6_span_86 (by decide) rfl ?_
              refine aw_il7 K dX6_span_88 ?_
              refine aw_i2l K dX6_span_90 ?_
              refine aw_il4 K dX6_span_91 ?_
              refine aw_i2l K dX6_span_93 ?_
              refine aw_il3 K dX6_span_94 ?_
              refine aw_iconst (v := 2) K dX6_span_95 (by decide) ?_
              refine aw_irem K dX6_span_96 (by decide) ?_
              refine aw_if_ne (tgt := 104) K dX6_span_97 (by decide) (fun b97 => ?_) (fun b97 => ?_)
              · refine aw_iconst (v := 0) K dX6_span_104 (by decide) ?_
                refine aw_callS K (tX6_inLowest l g sta _ _ _ _) rfl (by decide) fX6_inLowest lX6_247 dX6_span_105 rfl (Nat.le_of_ble_eq_true rfl) (fun o h2 hq => ?_)
                obtain ⟨⟨r4, rfl⟩, rfl⟩ := hq
                refine (show AW _ _ _ _ _ _ _ (.long r4 :: _) _ from ?_)
                refine aw_l2i K dX6_span_108 ?_
                refine aw_iret K rfl dX6_span_109 ?_
                exact ⟨⟨_, rfl⟩, hx2⟩
              · refine aw_iconst (v := 1) K dX6_span_100 (by decide) ?_
                refine aw_goto (tgt := 105) K dX6_span_101 (by decide) ?_
                refine aw_callS K (tX6_inLowest l g sta _ _ _ _) rfl (by decide) fX6_inLowest lX6_247 dX6_span_105 rfl (Nat.le_of_ble_eq_true rfl) (fun o h2 hq => ?_)
                obtain ⟨⟨r4, rfl⟩, rfl⟩ := hq
                refine (show AW _ _ _ _ _ _ _ (.long r4 :: _) _ from ?_)
                refine aw_l2i K dX6_span_108 ?_
                refine aw_iret K rfl dX6_span_109 ?_
                exact ⟨⟨_, rfl⟩, hx2⟩
          · refine aw_iconst (v := 1) K dX6_span_48 (by decide) ?_
            refine aw_goto (tgt := 53) K dX6_span_49 (by decide) ?_
            refine aw_is5 K dX6_span_53 (by decide) rfl ?_
            refine aw_al0 K dX6_span_55 ?_
            refine aw_il2 K dX6_span_56 ?_
            refine aw_il5 K dX6_span_57 ?_
            refine aw_callV K (tX6_greatestStakes l g sta _ _ _ hkk h hx) rfl (by decide) fX6_greatestStakes lX6_251 dX6_span_59 rfl clsX6 rfl (Nat.le_of_ble_eq_true rfl) (fun o h2 hq => ?_)
            obtain ⟨⟨r2, rfl⟩, hx2⟩ := hq
            refine (show AW _ _ _ _ _ _ _ (.int r2 :: _) _ from ?_)
            refine aw_is6 K dX6_span_62 (by decide) rfl ?_
            refine aw_il5 K dX6_span_64 ?_
            refine aw_if_eq (tgt := 79) K dX6_span_66 (by decide) (fun b66 => ?_) (fun b66 => ?_)
            · refine aw_al0 K dX6_span_79 ?_
              refine aw_callV K (tX6_summedMarks l g sta _) rfl (by decide) fX6_summedMarks lX6_243 dX6_span_80 rfl clsX6 rfl (Nat.le_of_ble_eq_true rfl) (fun o h2 hq => ?_)
              obtain ⟨⟨r3, rfl⟩, rfl⟩ := hq
              refine (show AW _ _ _ _ _ _ _ (.int r3 :: _) _ from ?_)
              refine aw_il6 K dX6_span_83 ?_
              refine aw_isub K dX6_span_85 ?_
              refine aw_is7 K dX6_span_86 (by decide) rfl ?_
              refine aw_il7 K dX6_span_88 ?_
              refine aw_i2l K dX6_span_90 ?_
              refine aw_il4 K dX6_span_91 ?_
              refine aw_i2l K dX6_span_93 ?_
              refine aw_il3 K dX6_span_94 ?_
              refine aw_iconst (v := 2) K dX6_span_95 (by decide) ?_
              refine aw_irem K dX6_span_96 (by decide) ?_
              refine aw_if_ne (tgt := 104) K dX6_span_97 (by decide) (fun b97 => ?_) (fun b97 => ?_)
              · refine aw_iconst (v := 0) K dX6_span_104 (by decide) ?_
                refine aw_callS K (tX6_inLowest l g sta _ _ _ _) rfl (by decide) fX6_inLowest lX6_247 dX6_span_105 rfl (Nat.le_of_ble_eq_true rfl) (fun o h2 hq => ?_)
                obtain ⟨⟨r4, rfl⟩, rfl⟩ := hq
                refine (show AW _ _ _ _ _ _ _ (.long r4 :: _) _ from ?_)
                refine aw_l2i K dX6_span_108 ?_
                refine aw_iret K rfl dX6_span_109 ?_
                exact ⟨⟨_, rfl⟩, hx2⟩
              · refine aw_iconst (v := 1) K dX6_span_100 (by decide) ?_
                refine aw_goto (tgt := 105) K dX6_span_101 (by decide) ?_
                refine aw_callS K (tX6_inLowest l g sta _ _ _ _) rfl (by decide) fX6_inLowest lX6_247 dX6_span_105 rfl (Nat.le_of_ble_eq_true rfl) (fun o h2 hq => ?_)
                obtain ⟨⟨r4, rfl⟩, rfl⟩ := hq
                refine (show AW _ _ _ _ _ _ _ (.long r4 :: _) _ from ?_)
                refine aw_l2i K dX6_span_108 ?_
                refine aw_iret K rfl dX6_span_109 ?_
                exact ⟨⟨_, rfl⟩, hx2⟩
            · refine aw_al0 K dX6_span_69 ?_
              refine aw_callV K (tX6_summedMarks l g sta _) rfl (by decide) fX6_summedMarks lX6_243 dX6_span_70 rfl clsX6 rfl (Nat.le_of_ble_eq_true rfl) (fun o h2 hq => ?_)
              obtain ⟨⟨r3, rfl⟩, rfl⟩ := hq
              refine (show AW _ _ _ _ _ _ _ (.int r3 :: _) _ from ?_)
              refine aw_il6 K dX6_span_73 ?_
              refine aw_iadd K dX6_span_75 ?_
              refine aw_goto (tgt := 86) K dX6_span_76 (by decide) ?_
              refine aw_is7 K dX6_span_86 (by decide) rfl ?_
              refine aw_il7 K dX6_span_88 ?_
              refine aw_i2l K dX6_span_90 ?_
              refine aw_il4 K dX6_span_91 ?_
              refine aw_i2l K dX6_span_93 ?_
              refine aw_il3 K dX6_span_94 ?_
              refine aw_iconst (v := 2) K dX6_span_95 (by decide) ?_
              refine aw_irem K dX6_span_96 (by decide) ?_
              refine aw_if_ne (tgt := 104) K dX6_span_97 (by decide) (fun b97 => ?_) (fun b97 => ?_)
              · refine aw_iconst (v := 0) K dX6_span_104 (by decide) ?_
                refine aw_callS K (tX6_inLowest l g sta _ _ _ _) rfl (by decide) fX6_inLowest lX6_247 dX6_span_105 rfl (Nat.le_of_ble_eq_true rfl) (fun o h2 hq => ?_)
                obtain ⟨⟨r4, rfl⟩, rfl⟩ := hq
                refine (show AW _ _ _ _ _ _ _ (.long r4 :: _) _ from ?_)
                refine aw_l2i K dX6_span_108 ?_
                refine aw_iret K rfl dX6_span_109 ?_
                exact ⟨⟨_, rfl⟩, hx2⟩
              · refine aw_iconst (v := 1) K dX6_span_100 (by decide) ?_
                refine aw_goto (tgt := 105) K dX6_span_101 (by decide) ?_
                refine aw_callS K (tX6_inLowest l g sta _ _ _ _) rfl (by decide) fX6_inLowest lX6_247 dX6_span_105 rfl (Nat.le_of_ble_eq_true rfl) (fun o h2 hq => ?_)
                obtain ⟨⟨r4, rfl⟩, rfl⟩ := hq
                refine (show AW _ _ _ _ _ _ _ (.long r4 :: _) _ from ?_)
                refine aw_l2i K dX6_span_108 ?_
                refine aw_iret K rfl dX6_span_109 ?_
                exact ⟨⟨_, rfl⟩, hx2⟩
        · refine aw_bipush (v := (-4)) K dX6_span_40 (by decide) ?_
          refine aw_iret K rfl dX6_span_42 ?_
          exact ⟨⟨_, rfl⟩, hx⟩
      · refine aw_iconst (v := (-1)) K dX6_span_26 (by decide) ?_
        refine aw_iret K rfl dX6_span_27 ?_
        exact ⟨⟨_, rfl⟩, H.s⟩

set_option maxHeartbeats 4000000 in
set_option maxRecDepth 100000 in
theorem tX6_ring (l : Launch) (g : Geo) (sta : Nat → Nat) (h : HS) (a b : Int32) {N T Wn : Nat} (H : XW h N T Wn) : CT (wX l g sta) 7 mX6_ring [.ref (g.2.1 0), .int a, .int b] h (QI h) := by
  refine CT.at [some (.ref (g.2.1 0)), some (.int a), some (.int b)] 0 rfl (by decide) (Nat.le_of_ble_eq_true rfl) (fun k K => ?_)
  refine aw_al0 K dX6_ring_0 ?_
  refine aw_il1 K dX6_ring_1 ?_
  refine aw_callV_I K (tX6_isHeap l g sta _ _) rfl (by decide) fX6_isHeap lX6_196 dX6_ring_2 rfl clsX6 rfl (Nat.le_of_ble_eq_true rfl) ?_
  refine aw_if_ne (tgt := 10) K dX6_ring_5 (by decide) (fun b5 => ?_) (fun b5 => ?_)
  · refine aw_il2 K dX6_ring_10 ?_
    refine aw_tsw (tgt := 71) K dX6_ring_11 (by decide) (by decide) (by decide) ⟨fun s0 => ?_, fun s1 => ?_, fun s2 => ?_, fun s3 => ?_, trivial⟩ (fun sd => ?_)
    · show AW _ _ _ _ _ 40 _ _ _
      refine aw_al0 K dX6_ring_40 ?_
      refine aw_getR K gX6_26 dX6_ring_41 rfl rfl ?_
      refine aw_getI K gX6_255 dX6_ring_44 rfl rfl ?_
      refine aw_iret K rfl dX6_ring_47 ?_
      exact ⟨⟨_, rfl⟩, H.s⟩
    · show AW _ _ _ _ _ 48 _ _ _
      refine aw_al0 K dX6_ring_48 ?_
      refine aw_il1 K dX6_ring_49 ?_
      refine aw_iconst (v := 0) K dX6_ring_50 (by decide) ?_
      refine aw_callV K (tX6_wordsWithin l g sta _ _ _ H) rfl (by decide) fX6_wordsWithin lX6_256 dX6_ring_51 rfl clsX6 rfl (Nat.le_of_ble_eq_true rfl) (fun o h2 hq => ?_)
      obtain ⟨⟨m, hm, rfl⟩, rfl⟩ := hq
      refine (show AW _ _ _ _ _ _ _ (.int (nI m) :: _) _ from ?_)
      refine aw_iret K rfl dX6_ring_54 ?_
      exact ⟨⟨_, rfl⟩, H.s⟩
    · show AW _ _ _ _ _ 55 _ _ _
      refine aw_al0 K dX6_ring_55 ?_
      refine aw_sipush (v := 4095) K dX6_ring_56 (by decide) ?_
      refine aw_iconst (v := 1) K dX6_ring_59 (by decide) ?_
      refine aw_callV K (tX6_wordsWithin l g sta _ _ _ H) rfl (by decide) fX6_wordsWithin lX6_256 dX6_ring_60 rfl clsX6 rfl (Nat.le_of_ble_eq_true rfl) (fun o h2 hq => ?_)
      obtain ⟨⟨m, hm, rfl⟩, rfl⟩ := hq
      refine (show AW _ _ _ _ _ _ _ (.int (nI m) :: _) _ from ?_)
      refine aw_iret K rfl dX6_ring_63 ?_
      exact ⟨⟨_, rfl⟩, H.s⟩
    · show AW _ _ _ _ _ 64 _ _ _
      refine aw_al0 K dX6_ring_64 ?_
      refine aw_il1 K dX6_ring_65 ?_
      refine aw_iconst (v := 1) K dX6_ring_66 (by decide) ?_
      refine aw_callV K (tX6_wordsWithin l g sta _ _ _ H) rfl (by decide) fX6_wordsWithin lX6_256 dX6_ring_67 rfl clsX6 rfl (Nat.le_of_ble_eq_true rfl) (fun o h2 hq => ?_)
      obtain ⟨⟨m, hm, rfl⟩, rfl⟩ := hq
      refine (show AW _ _ _ _ _ _ _ (.int (nI m) :: _) _ from ?_)
      refine aw_iret K rfl dX6_ring_70 ?_
      exact ⟨⟨_, rfl⟩, H.s⟩
    · show AW _ _ _ _ _ 71 _ _ _
      refine aw_iconst (v := (-1)) K dX6_ring_71 (by decide) ?_
      refine aw_iret K rfl dX6_ring_72 ?_
      exact ⟨⟨_, rfl⟩, H.s⟩
  · refine aw_iconst (v := (-1)) K dX6_ring_8 (by decide) ?_
    refine aw_iret K rfl dX6_ring_9 ?_
    exact ⟨⟨_, rfl⟩, H.s⟩

set_option maxHeartbeats 4000000 in
set_option maxRecDepth 100000 in
theorem tX6_odds (l : Launch) (g : Geo) (sta : Nat → Nat) (h : HS) (a b : Int32) {N T Wn : Nat} (H : XW h N T Wn) : CT (wX l g sta) 7 mX6_odds [.ref (g.2.1 0), .int a, .int b] h (QL h) := by
  refine CT.at [some (.ref (g.2.1 0)), some (.int a), some (.int b), none] 1 rfl (by decide) (Nat.le_of_ble_eq_true rfl) (fun k K => ?_)
  refine aw_al0 K dX6_odds_0 ?_
  refine aw_il1 K dX6_odds_1 ?_
  refine aw_callV_I K (tX6_isHeap l g sta _ _) rfl (by decide) fX6_isHeap lX6_196 dX6_odds_2 rfl clsX6 rfl (Nat.le_of_ble_eq_true rfl) ?_
  refine aw_if_eq (tgt := 17) K dX6_odds_5 (by decide) (fun b5 => ?_) (fun b5 => ?_)
  · refine aw_ldc2 K qX6_259 dX6_odds_17 ?_
    refine aw_lret K rfl dX6_odds_20 ?_
    exact ⟨⟨_, rfl⟩, H.s⟩
  · refine aw_il2 K dX6_odds_8 ?_
    refine aw_iconst (v := 0) K dX6_odds_9 (by decide) ?_
    refine aw_iconst (v := 1) K dX6_odds_10 (by decide) ?_
    refine aw_callS_I K (tX6_within l g sta _ _ _ _) rfl (by decide) fX6_within lX6_76 dX6_odds_11 rfl (Nat.le_of_ble_eq_true rfl) ?_
    refine aw_if_ne (tgt := 21) K dX6_odds_14 (by decide) (fun b14 => ?_) (fun b14 => ?_)
    · refine aw_al0 K dX6_odds_21 ?_
      refine aw_sipush (v := 4095) K dX6_odds_22 (by decide) ?_
      refine aw_iconst (v := 1) K dX6_odds_25 (by decide) ?_
      refine aw_callV K (tX6_wordsWithin l g sta _ _ _ H) rfl (by decide) fX6_wordsWithin lX6_256 dX6_odds_26 rfl clsX6 rfl (Nat.le_of_ble_eq_true rfl) (fun o h2 hq => ?_)
      obtain ⟨⟨m, hm, rfl⟩, rfl⟩ := hq
      refine (show AW _ _ _ _ _ _ _ (.int (nI m) :: _) _ from ?_)
      refine aw_is3 K dX6_odds_29 (by decide) rfl ?_
      refine aw_al0 K dX6_odds_30 ?_
      refine aw_il1 K dX6_odds_31 ?_
      refine aw_il3 K dX6_odds_32 ?_
      refine aw_callV K (tX6_waysOf l g sta _ _ _ H) rfl (by decide) fX6_waysOf lX6_261 dX6_odds_33 rfl clsX6 rfl (Nat.le_of_ble_eq_true rfl) (fun o h2 hq => ?_)
      obtain ⟨⟨r5, rfl⟩, rfl⟩ := hq
      refine (show AW _ _ _ _ _ _ _ (.long r5 :: _) _ from ?_)
      refine aw_al0 K dX6_odds_36 ?_
      refine aw_getR K gX6_26 dX6_odds_37 rfl rfl ?_
      refine aw_getI K gX6_255 dX6_odds_40 rfl rfl ?_
      refine aw_il3 K dX6_odds_43 ?_
      refine aw_callS K (tX6_choose l g sta _ _ _) rfl (by decide) fX6_choose lX6_265 dX6_odds_44 rfl (Nat.le_of_ble_eq_true rfl) (fun o h2 hq => ?_)
      obtain ⟨⟨r6, rfl⟩, rfl⟩ := hq
      refine (show AW _ _ _ _ _ _ _ (.long r6 :: _) _ from ?_)
      refine aw_il2 K dX6_odds_47 ?_
      refine aw_if_ne (tgt := 55) K dX6_odds_48 (by decide) (fun b48 => ?_) (fun b48 => ?_)
      · refine aw_iconst (v := 0) K dX6_odds_55 (by decide) ?_
        refine aw_callS K (tX6_inLowest l g sta _ _ _ _) rfl (by decide) fX6_inLowest lX6_247 dX6_odds_56 rfl (Nat.le_of_ble_eq_true rfl) (fun o h2 hq => ?_)
        obtain ⟨⟨r4, rfl⟩, rfl⟩ := hq
        refine (show AW _ _ _ _ _ _ _ (.long r4 :: _) _ from ?_)
        refine aw_lret K rfl dX6_odds_59 ?_
        exact ⟨⟨_, rfl⟩, H.s⟩
      · refine aw_iconst (v := 1) K dX6_odds_51 (by decide) ?_
        refine aw_goto (tgt := 56) K dX6_odds_52 (by decide) ?_
        refine aw_callS K (tX6_inLowest l g sta _ _ _ _) rfl (by decide) fX6_inLowest lX6_247 dX6_odds_56 rfl (Nat.le_of_ble_eq_true rfl) (fun o h2 hq => ?_)
        obtain ⟨⟨r4, rfl⟩, rfl⟩ := hq
        refine (show AW _ _ _ _ _ _ _ (.long r4 :: _) _ from ?_)
        refine aw_lret K rfl dX6_odds_59 ?_
        exact ⟨⟨_, rfl⟩, H.s⟩
    · refine aw_ldc2 K qX6_259 dX6_odds_17 ?_
      refine aw_lret K rfl dX6_odds_20 ?_
      exact ⟨⟨_, rfl⟩, H.s⟩

set_option maxHeartbeats 4000000 in
set_option maxRecDepth 100000 in
theorem tX6_gain (l : Launch) (g : Geo) (sta : Nat → Nat) (h : HS) (a b c : Int32) {N T Wn : Nat} (H : XW h N T Wn) : CT (wX l g sta) 7 mX6_gain [.ref (g.2.1 0), .int a, .int b, .int c] h (QI h) := by
  refine CT.at [some (.ref (g.2.1 0)), some (.int a), some (.int b), some (.int c)] 0 rfl (by decide) (Nat.le_of_ble_eq_true rfl) (fun k K => ?_)
  refine aw_al0 K dX6_gain_0 ?_
  refine aw_il1 K dX6_gain_1 ?_
  refine aw_callV_I K (tX6_isHeap l g sta _ _) rfl (by decide) fX6_isHeap lX6_196 dX6_gain_2 rfl clsX6 rfl (Nat.le_of_ble_eq_true rfl) ?_
  refine aw_if_eq (tgt := 27) K dX6_gain_5 (by decide) (fun b5 => ?_) (fun b5 => ?_)
  · refine aw_ldcw K qX6_276 dX6_gain_27 ?_
    refine aw_iret K rfl dX6_gain_30 ?_
    exact ⟨⟨_, rfl⟩, H.s⟩
  · refine aw_il2 K dX6_gain_8 ?_
    refine aw_il3 K dX6_gain_9 ?_
    refine aw_callS_I K (tX6_isOffer l g sta _ _ _) rfl (by decide) fX6_isOffer lX6_270 dX6_gain_10 rfl (Nat.le_of_ble_eq_true rfl) ?_
    refine aw_if_eq (tgt := 27) K dX6_gain_13 (by decide) (fun b13 => ?_) (fun b13 => ?_)
    · refine aw_ldcw K qX6_276 dX6_gain_27 ?_
      refine aw_iret K rfl dX6_gain_30 ?_
      exact ⟨⟨_, rfl⟩, H.s⟩
    · refine aw_il1 K dX6_gain_16 ?_
      refine aw_al0 K dX6_gain_17 ?_
      refine aw_callV K (tX6_sellingNames l g sta _ H) rfl (by decide) fX6_sellingNames lX6_273 dX6_gain_18 rfl clsX6 rfl (Nat.le_of_ble_eq_true rfl) (fun o h2 hq => ?_)
      obtain ⟨⟨r, rfl⟩, rfl⟩ := hq
      refine (show AW _ _ _ _ _ _ _ (.int r :: _) _ from ?_)
      refine aw_iconst (v := (-1)) K dX6_gain_21 (by decide) ?_
      refine aw_ixor K dX6_gain_22 ?_
      refine aw_iand K dX6_gain_23 ?_
      refine aw_if_eq (tgt := 31) K dX6_gain_24 (by decide) (fun b24 => ?_) (fun b24 => ?_)
      · refine aw_al0 K dX6_gain_31 ?_
        refine aw_callV K (tX6_layFlow l g sta _ H) rfl (by decide) fX6_layFlow lX6_190 dX6_gain_32 rfl clsX6 rfl (Nat.le_of_ble_eq_true rfl) (fun o h2 hq => ?_)
        obtain ⟨rfl, hx⟩ := hq
        refine aw_al0 K dX6_gain_35 ?_
        refine aw_il1 K dX6_gain_36 ?_
        refine aw_al0 K dX6_gain_37 ?_
        refine aw_il2 K dX6_gain_38 ?_
        refine aw_callV_I K (tX6_boughtRoom l g sta _ _) rfl (by decide) fX6_boughtRoom lX6_277 dX6_gain_39 rfl clsX6 rfl (Nat.le_of_ble_eq_true rfl) ?_
        refine aw_il3 K dX6_gain_42 ?_
        refine aw_callV K (tX6_gainBy l g sta _ _ _ _ _ H hx) rfl (by decide) fX6_gainBy lX6_280 dX6_gain_43 rfl clsX6 rfl (Nat.le_of_ble_eq_true rfl) (fun o h2 hq => ?_)
        obtain ⟨⟨r2, rfl⟩, hx2⟩ := hq
        refine (show AW _ _ _ _ _ _ _ (.int r2 :: _) _ from ?_)
        refine aw_iret K rfl dX6_gain_46 ?_
        exact ⟨⟨_, rfl⟩, hx2⟩
      · refine aw_ldcw K qX6_276 dX6_gain_27 ?_
        refine aw_iret K rfl dX6_gain_30 ?_
        exact ⟨⟨_, rfl⟩, H.s⟩

set_option maxHeartbeats 4000000 in
set_option maxRecDepth 100000 in
theorem tX6_rule (l : Launch) (g : Geo) (sta : Nat → Nat) (h : HS) (a : Int32) {N T Wn : Nat} (H : XW h N T Wn) : CT (wX l g sta) 7 mX6_rule [.ref (g.2.1 0), .int a] h (QI h) := by
  refine CT.at [some (.ref (g.2.1 0)), some (.int a)] 0 rfl (by decide) (Nat.le_of_ble_eq_true rfl) (fun k K => ?_)
  refine aw_il1 K dX6_rule_0 ?_
  refine aw_iconst (v := 0) K dX6_rule_1 (by decide) ?_
  refine aw_bipush (v := 9) K dX6_rule_2 (by decide) ?_
  refine aw_callS_I K (tX6_within l g sta _ _ _ _) rfl (by decide) fX6_within lX6_76 dX6_rule_4 rfl (Nat.le_of_ble_eq_true rfl) ?_
  refine aw_if_eq (tgt := 19) K dX6_rule_7 (by decide) (fun b7 => ?_) (fun b7 => ?_)
  · refine aw_iconst (v := (-1)) K dX6_rule_19 (by decide) ?_
    refine aw_iret K rfl dX6_rule_20 ?_
    exact ⟨⟨_, rfl⟩, H.s⟩
  · refine aw_al0 K dX6_rule_10 ?_
    refine aw_getR K gX6_50 dX6_rule_11 rfl rfl ?_
    refine aw_il1 K dX6_rule_14 ?_
    refine aw_iald K dX6_rule_15 rfl (inB (M := 9) (by decide) (bI_1.mp b7)) ?_
    refine aw_goto (tgt := 20) K dX6_rule_16 (by decide) ?_
    refine aw_iret K rfl dX6_rule_20 ?_
    exact ⟨⟨_, rfl⟩, H.s⟩

set_option maxHeartbeats 4000000 in
set_option maxRecDepth 100000 in
theorem tX6_fault (l : Launch) (g : Geo) (sta : Nat → Nat) (h : HS) {N T Wn : Nat} (H : XW h N T Wn) : CT (wX l g sta) 7 mX6_fault [.ref (g.2.1 0)] h (QI h) := by
  refine CT.at [some (.ref (g.2.1 0))] 0 rfl (by decide) (Nat.le_of_ble_eq_true rfl) (fun k K => ?_)
  refine aw_al0 K dX6_fault_0 ?_
  refine aw_getR K gX6_33 dX6_fault_1 rfl rfl ?_
  refine aw_getI K gX6_187 dX6_fault_4 rfl rfl ?_
  refine aw_iret K rfl dX6_fault_7 ?_
  exact ⟨⟨_, rfl⟩, H.s⟩

set_option maxHeartbeats 4000000 in
set_option maxRecDepth 100000 in
theorem tX6_lost (l : Launch) (g : Geo) (sta : Nat → Nat) (h : HS) {N T Wn : Nat} (H : XW h N T Wn) : CT (wX l g sta) 7 mX6_lost [.ref (g.2.1 0)] h (QI h) := by
  refine CT.at [some (.ref (g.2.1 0))] 0 rfl (by decide) (Nat.le_of_ble_eq_true rfl) (fun k K => ?_)
  refine aw_al0 K dX6_lost_0 ?_
  refine aw_getI K gX6_309 dX6_lost_1 rfl rfl ?_
  refine aw_iret K rfl dX6_lost_4 ?_
  exact ⟨⟨_, rfl⟩, H.s⟩

set_option maxHeartbeats 4000000 in
set_option maxRecDepth 100000 in
theorem tX6_count (l : Launch) (g : Geo) (sta : Nat → Nat) (h : HS) (a : Int32) {N T Wn : Nat} (H : XW h N T Wn) : CT (wX l g sta) 7 mX6_count [.ref (g.2.1 0), .int a] h (QI h) := by
  refine CT.at [some (.ref (g.2.1 0)), some (.int a)] 0 rfl (by decide) (Nat.le_of_ble_eq_true rfl) (fun k K => ?_)
  refine aw_il1 K dX6_count_0 ?_
  refine aw_tsw (tgt := 169) K dX6_count_1 (by decide) (by decide) (by decide) ⟨fun s0 => ?_, fun s1 => ?_, fun s2 => ?_, fun s3 => ?_, fun s4 => ?_, fun s5 => ?_, fun s6 => ?_, fun s7 => ?_, fun s8 => ?_, fun s9 => ?_, fun s10 => ?_, trivial⟩ (fun sd => ?_)
  · show AW _ _ _ _ _ 60 _ _ _
    refine aw_al0 K dX6_count_60 ?_
    refine aw_getR K gX6_12 dX6_count_61 rfl rfl ?_
    refine aw_getI K gX6_161 dX6_count_64 rfl rfl ?_
    refine aw_iret K rfl dX6_count_67 ?_
    exact ⟨⟨_, rfl⟩, H.s⟩
  · show AW _ _ _ _ _ 68 _ _ _
    refine aw_al0 K dX6_count_68 ?_
    refine aw_al0 K dX6_count_69 ?_
    refine aw_getR K gX6_12 dX6_count_70 rfl rfl ?_
    refine aw_getR K gX6_88 dX6_count_73 rfl rfl ?_
    refine aw_callV_I K (tX6_countTrue l g sta _ 17 rfl H) rfl (by decide) fX6_countTrue lX6_312 dX6_count_76 rfl clsX6 rfl (Nat.le_of_ble_eq_true rfl) ?_
    refine aw_iret K rfl dX6_count_79 ?_
    exact ⟨⟨_, rfl⟩, H.s⟩
  · show AW _ _ _ _ _ 80 _ _ _
    refine aw_al0 K dX6_count_80 ?_
    refine aw_al0 K dX6_count_81 ?_
    refine aw_getR K gX6_12 dX6_count_82 rfl rfl ?_
    refine aw_getR K gX6_96 dX6_count_85 rfl rfl ?_
    refine aw_callV_I K (tX6_countTrue l g sta _ 18 rfl H) rfl (by decide) fX6_countTrue lX6_312 dX6_count_88 rfl clsX6 rfl (Nat.le_of_ble_eq_true rfl) ?_
    refine aw_iret K rfl dX6_count_91 ?_
    exact ⟨⟨_, rfl⟩, H.s⟩
  · show AW _ _ _ _ _ 92 _ _ _
    refine aw_al0 K dX6_count_92 ?_
    refine aw_callV_I K (tX6_countFined l g sta _ H) rfl (by decide) fX6_countFined lX6_316 dX6_count_93 rfl clsX6 rfl (Nat.le_of_ble_eq_true rfl) ?_
    refine aw_iret K rfl dX6_count_96 ?_
    exact ⟨⟨_, rfl⟩, H.s⟩
  · show AW _ _ _ _ _ 97 _ _ _
    refine aw_al0 K dX6_count_97 ?_
    refine aw_getR K gX6_19 dX6_count_98 rfl rfl ?_
    refine aw_getI K gX6_109 dX6_count_101 rfl rfl ?_
    refine aw_iret K rfl dX6_count_104 ?_
    exact ⟨⟨_, rfl⟩, H.s⟩
  · show AW _ _ _ _ _ 105 _ _ _
    refine aw_al0 K dX6_count_105 ?_
    refine aw_sipush (v := 4095) K dX6_count_106 (by decide) ?_
    refine aw_callV K (tX6_openTies l g sta _ _ H) rfl (by decide) fX6_openTies lX6_155 dX6_count_109 rfl clsX6 rfl (Nat.le_of_ble_eq_true rfl) (fun o h2 hq => ?_)
    obtain ⟨⟨r, rfl⟩, rfl⟩ := hq
    refine (show AW _ _ _ _ _ _ _ (.int r :: _) _ from ?_)
    refine aw_iret K rfl dX6_count_112 ?_
    exact ⟨⟨_, rfl⟩, H.s⟩
  · show AW _ _ _ _ _ 113 _ _ _
    refine aw_al0 K dX6_count_113 ?_
    refine aw_getR K gX6_26 dX6_count_114 rfl rfl ?_
    refine aw_getI K gX6_255 dX6_count_117 rfl rfl ?_
    refine aw_iret K rfl dX6_count_120 ?_
    exact ⟨⟨_, rfl⟩, H.s⟩
  · show AW _ _ _ _ _ 121 _ _ _
    refine aw_al0 K dX6_count_121 ?_
    refine aw_getR K gX6_26 dX6_count_122 rfl rfl ?_
    refine aw_callV K (tX5_countingOnes l g sta _ H) rfl (by decide) fX5_countingOnes lX6_319 dX6_count_125 rfl clsX5 rfl (Nat.le_of_ble_eq_true rfl) (fun o h2 hq => ?_)
    obtain ⟨⟨r, rfl⟩, rfl⟩ := hq
    refine (show AW _ _ _ _ _ _ _ (.int r :: _) _ from ?_)
    refine aw_iret K rfl dX6_count_128 ?_
    exact ⟨⟨_, rfl⟩, H.s⟩
  · show AW _ _ _ _ _ 129 _ _ _
    refine aw_al0 K dX6_count_129 ?_
    refine aw_getI K gX6_113 dX6_count_130 rfl rfl ?_
    refine aw_iret K rfl dX6_count_133 ?_
    exact ⟨⟨_, rfl⟩, H.s⟩
  · show AW _ _ _ _ _ 134 _ _ _
    refine aw_al0 K dX6_count_134 ?_
    refine aw_getR K gX6_33 dX6_count_135 rfl rfl ?_
    refine aw_getI K gX6_180 dX6_count_138 rfl rfl ?_
    refine aw_iret K rfl dX6_count_141 ?_
    exact ⟨⟨_, rfl⟩, H.s⟩
  · show AW _ _ _ _ _ 142 _ _ _
    refine aw_al0 K dX6_count_142 ?_
    refine aw_getR K gX6_46 dX6_count_143 rfl rfl ?_
    refine aw_iconst (v := 0) K dX6_count_146 (by decide) ?_
    refine aw_aald K dX6_count_147 rfl (vp_in_nI (n := 0) (by decide) (by decide)) rfl ?_
    refine aw_callV_I K (tX2_isNothing l g sta _ 7 rfl) rfl (by decide) fX2_isNothing lX6_322 dX6_count_148 rfl clsX2 rfl (Nat.le_of_ble_eq_true rfl) ?_
    refine aw_if_eq (tgt := 159) K dX6_count_151 (by decide) (fun b151 => ?_) (fun b151 => ?_)
    · refine aw_al0 K dX6_count_159 ?_
      refine aw_getR K gX6_46 dX6_count_160 rfl rfl ?_
      refine aw_iconst (v := 0) K dX6_count_163 (by decide) ?_
      refine aw_aald K dX6_count_164 rfl (vp_in_nI (n := 0) (by decide) (by decide)) rfl ?_
      refine aw_getI K gX6_326 dX6_count_165 rfl rfl ?_
      refine aw_iret K rfl dX6_count_168 ?_
      exact ⟨⟨_, rfl⟩, H.s⟩
    · refine aw_bipush (v := (-4)) K dX6_count_154 (by decide) ?_
      refine aw_goto (tgt := 168) K dX6_count_156 (by decide) ?_
      refine aw_iret K rfl dX6_count_168 ?_
      exact ⟨⟨_, rfl⟩, H.s⟩
  · show AW _ _ _ _ _ 169 _ _ _
    refine aw_iconst (v := (-1)) K dX6_count_169 (by decide) ?_
    refine aw_iret K rfl dX6_count_170 ?_
    exact ⟨⟨_, rfl⟩, H.s⟩

set_option maxHeartbeats 4000000 in
set_option maxRecDepth 100000 in
theorem lpX6_low {l : Launch} {g : Geo} {sta : Nat → Nat} {k : KT} (K : AOK (wX l g sta) mX6_low k) (h0 : HS) (a : Int32) {N T Wn : Nat} (H0 : XW h0 N T Wn) :
    ∀ (n i : Nat) (be va : Int32) (h : HS), i ≤ N → N - i < n → XQ h0 h → AW (wX l g sta) (QI h0) 7 mX6_low k 23 [some (.ref (g.2.1 0)), some (.int a), some (.int be), some (.int va), some (.int (nI i)), none] [] h := by
  intro n
  induction n with
  | zero => intro i be va h h1 h2; omega
  | succ n ih =>
    intro i be va h h1 h2 hx
    have H := H0.q hx
    have hN := H.1.2
    refine aw_il4 K dX6_low_23 ?_
    refine aw_al0 K dX6_low_25 ?_
    refine aw_getR K gX6_12 dX6_low_26 rfl rfl ?_
    refine aw_getI K gX6_161 dX6_low_29 rfl rfl ?_
    rw [H.1.1]
    refine aw_icmp_ge (tgt := 84) K dX6_low_32 (by decide) (fun b32 => ?_) (fun b32 => ?_)
    · refine aw_il1 K dX6_low_84 ?_
      refine aw_if_eq (tgt := 94) K dX6_low_85 (by decide) (fun b85 => ?_) (fun b85 => ?_)
      · refine aw_il2 K dX6_low_94 ?_
        refine aw_goto (tgt := 99) K dX6_low_95 (by decide) ?_
        refine aw_iret K rfl dX6_low_99 ?_
        exact ⟨⟨_, rfl⟩, hx⟩
      · refine aw_il2 K dX6_low_88 ?_
        refine aw_bipush (v := (-4)) K dX6_low_89 (by decide) ?_
        refine aw_icmp_ne (tgt := 98) K dX6_low_91 (by decide) (fun b91 => ?_) (fun b91 => ?_)
        · refine aw_il3 K dX6_low_98 ?_
          refine aw_iret K rfl dX6_low_99 ?_
          exact ⟨⟨_, rfl⟩, hx⟩
        · refine aw_il2 K dX6_low_94 ?_
          refine aw_goto (tgt := 99) K dX6_low_95 (by decide) ?_
          refine aw_iret K rfl dX6_low_99 ?_
          exact ⟨⟨_, rfl⟩, hx⟩
    · have hlt : i < N := by
        rcases Nat.lt_or_ge i N with q | q
        · exact q
        · exact absurd (nI_le (a := N) q (by omega)) b32
      refine aw_al0 K dX6_low_35 ?_
      refine aw_il4 K dX6_low_36 ?_
      refine aw_callV_I K (tX6_isPlain l g sta _ _ (vp_in_nI (by omega) (by decide))) rfl (by decide) fX6_isPlain lX6_208 dX6_low_38 rfl clsX6 rfl (Nat.le_of_ble_eq_true rfl) ?_
      refine aw_if_ne (tgt := 47) K dX6_low_41 (by decide) (fun b41 => ?_) (fun b41 => ?_)
      · refine aw_al0 K dX6_low_47 ?_
        refine aw_getR K gX6_40 dX6_low_48 rfl rfl ?_
        refine aw_iconst (v := 1) K dX6_low_51 (by decide) ?_
        refine aw_il4 K dX6_low_52 ?_
        refine aw_ishl K dX6_low_54 ?_
        refine aw_callV K (tX0_most l g sta _ _ h0 hx) rfl (by decide) fX0_most lX6_193 dX6_low_55 rfl clsX0 rfl (Nat.le_of_ble_eq_true rfl) (fun o h2 hq => ?_)
        obtain ⟨⟨r, rfl⟩, hx2⟩ := hq
        refine (show AW _ _ _ _ _ _ _ (.int r :: _) _ from ?_)
        refine aw_is5 K dX6_low_58 (by decide) rfl ?_
        refine aw_il2 K dX6_low_60 ?_
        refine aw_bipush (v := (-4)) K dX6_low_61 (by decide) ?_
        refine aw_icmp_eq (tgt := 72) K dX6_low_63 (by decide) (fun b63 => ?_) (fun b63 => ?_)
        · refine aw_il4 K dX6_low_72 ?_
          refine aw_is2 K dX6_low_74 (by decide) rfl ?_
          refine aw_il5 K dX6_low_75 ?_
          refine aw_is3 K dX6_low_77 (by decide) rfl ?_
          refine aw_ii4 (v := _ + 1) K dX6_low_78 rfl (by decide) rfl ?_
          refine aw_goto (tgt := 23) K dX6_low_81 (by decide) ?_
          rw [nI_1]
          refine aw_sub [some (.ref (g.2.1 0)), some (.int a), some (.int _), some (.int _), some (.int _), none] ⟨rfl, rfl, rfl, rfl, rfl, trivial⟩ ?_
          exact ih (i + 1) _ _ _ (by omega) (by omega) hx2
        · refine aw_il5 K dX6_low_66 ?_
          refine aw_il3 K dX6_low_68 ?_
          refine aw_icmp_ge (tgt := 78) K dX6_low_69 (by decide) (fun b69 => ?_) (fun b69 => ?_)
          · refine aw_ii4 (v := _ + 1) K dX6_low_78 rfl (by decide) rfl ?_
            refine aw_goto (tgt := 23) K dX6_low_81 (by decide) ?_
            rw [nI_1]
            refine aw_sub [some (.ref (g.2.1 0)), some (.int a), some (.int _), some (.int _), some (.int _), none] ⟨rfl, rfl, rfl, rfl, rfl, trivial⟩ ?_
            exact ih (i + 1) _ _ _ (by omega) (by omega) hx2
          · refine aw_il4 K dX6_low_72 ?_
            refine aw_is2 K dX6_low_74 (by decide) rfl ?_
            refine aw_il5 K dX6_low_75 ?_
            refine aw_is3 K dX6_low_77 (by decide) rfl ?_
            refine aw_ii4 (v := _ + 1) K dX6_low_78 rfl (by decide) rfl ?_
            refine aw_goto (tgt := 23) K dX6_low_81 (by decide) ?_
            rw [nI_1]
            refine aw_sub [some (.ref (g.2.1 0)), some (.int a), some (.int _), some (.int _), some (.int _), none] ⟨rfl, rfl, rfl, rfl, rfl, trivial⟩ ?_
            exact ih (i + 1) _ _ _ (by omega) (by omega) hx2
      · refine aw_goto (tgt := 78) K dX6_low_44 (by decide) ?_
        refine aw_ii4 (v := _ + 1) K dX6_low_78 rfl (by decide) rfl ?_
        refine aw_goto (tgt := 23) K dX6_low_81 (by decide) ?_
        rw [nI_1]
        refine aw_sub [some (.ref (g.2.1 0)), some (.int a), some (.int _), some (.int _), some (.int _), none] ⟨rfl, rfl, rfl, rfl, rfl, trivial⟩ ?_
        exact ih (i + 1) _ _ _ (by omega) (by omega) hx
set_option maxHeartbeats 4000000 in
set_option maxRecDepth 100000 in
theorem tX6_low (l : Launch) (g : Geo) (sta : Nat → Nat) (h : HS) (a : Int32) {N T Wn : Nat} (H : XW h N T Wn) : CT (wX l g sta) 7 mX6_low [.ref (g.2.1 0), .int a] h (QI h) := by
  refine CT.at [some (.ref (g.2.1 0)), some (.int a), none, none, none, none] 4 rfl (by decide) (Nat.le_of_ble_eq_true rfl) (fun k K => ?_)
  refine aw_il1 K dX6_low_0 ?_
  refine aw_iconst (v := 0) K dX6_low_1 (by decide) ?_
  refine aw_iconst (v := 1) K dX6_low_2 (by decide) ?_
  refine aw_callS_I K (tX6_within l g sta _ _ _ _) rfl (by decide) fX6_within lX6_76 dX6_low_3 rfl (Nat.le_of_ble_eq_true rfl) ?_
  refine aw_if_ne (tgt := 11) K dX6_low_6 (by decide) (fun b6 => ?_) (fun b6 => ?_)
  · refine aw_al0 K dX6_low_11 ?_
    refine aw_callV K (tX6_layFlow l g sta _ H) rfl (by decide) fX6_layFlow lX6_190 dX6_low_12 rfl clsX6 rfl (Nat.le_of_ble_eq_true rfl) (fun o h2 hq => ?_)
    obtain ⟨rfl, hx⟩ := hq
    refine aw_bipush (v := (-4)) K dX6_low_15 (by decide) ?_
    refine aw_is2 K dX6_low_17 (by decide) rfl ?_
    refine aw_iconst (v := 0) K dX6_low_18 (by decide) ?_
    refine aw_is3 K dX6_low_19 (by decide) rfl ?_
    refine aw_iconst (v := 0) K dX6_low_20 (by decide) ?_
    refine aw_is4 K dX6_low_21 (by decide) rfl ?_
    exact lpX6_low K h a H (N + 1) 0 _ _ _ (by omega) (by omega) hx
  · refine aw_iconst (v := (-1)) K dX6_low_9 (by decide) ?_
    refine aw_iret K rfl dX6_low_10 ?_
    exact ⟨⟨_, rfl⟩, H.s⟩

set_option maxHeartbeats 4000000 in
set_option maxRecDepth 100000 in
theorem lp2X6_twins {l : Launch} {g : Geo} {sta : Nat → Nat} {k : KT} (K : AOK (wX l g sta) mX6_twins k) (h0 : HS) (a : Int32) {N T Wn : Nat} (H0 : XW h0 N T Wn) (i : Nat) (hi : i < N)
    (hk : ∀ (be va : Int32) (h : HS), XQ h0 h → AW (wX l g sta) (QI h0) 7 mX6_twins k 132 [some (.ref (g.2.1 0)), some (.int a), some (.int be), some (.int va), some (.int (nI i)), none, none] [] h) :
    ∀ (n j : Nat) (be va : Int32) (h : HS), j ≤ N → N - j < n → XQ h0 h → AW (wX l g sta) (QI h0) 7 mX6_twins k 41 [some (.ref (g.2.1 0)), some (.int a), some (.int be), some (.int va), some (.int (nI i)), some (.int (nI j)), none] [] h := by
  intro n
  induction n with
  | zero => intro j be va h h1 h2; omega
  | succ n ih =>
    intro j be va h h1 h2 hx
    have H := H0.q hx
    have hN := H.1.2
    refine aw_il5 K dX6_twins_41 ?_
    refine aw_al0 K dX6_twins_43 ?_
    refine aw_getR K gX6_12 dX6_twins_44 rfl rfl ?_
    refine aw_getI K gX6_161 dX6_twins_47 rfl rfl ?_
    rw [H.1.1]
    refine aw_icmp_ge (tgt := 132) K dX6_twins_50 (by decide) (fun b50 => ?_) (fun b50 => ?_)
    · refine aw_sub [some (.ref (g.2.1 0)), some (.int a), some (.int be), some (.int va), some (.int (nI i)), none, none] ⟨rfl, rfl, rfl, rfl, rfl, trivial⟩ ?_
      exact hk _ _ _ hx
    · have hlt : j < N := by
        rcases Nat.lt_or_ge j N with q | q
        · exact q
        · exact absurd (nI_le (a := N) q (by omega)) b50
      refine aw_al0 K dX6_twins_53 ?_
      refine aw_il4 K dX6_twins_54 ?_
      refine aw_callV_I K (tX6_isPlain l g sta _ _ (vp_in_nI (by omega) (by decide))) rfl (by decide) fX6_isPlain lX6_208 dX6_twins_56 rfl clsX6 rfl (Nat.le_of_ble_eq_true rfl) ?_
      refine aw_if_eq (tgt := 126) K dX6_twins_59 (by decide) (fun b59 => ?_) (fun b59 => ?_)
      · refine aw_ii5 (v := _ + 1) K dX6_twins_126 rfl (by decide) rfl ?_
        refine aw_goto (tgt := 41) K dX6_twins_129 (by decide) ?_
        rw [nI_1]
        refine aw_sub [some (.ref (g.2.1 0)), some (.int a), some (.int _), some (.int _), some (.int _), some (.int _), none] ⟨rfl, rfl, rfl, rfl, rfl, rfl, trivial⟩ ?_
        exact ih (j + 1) _ _ _ (by omega) (by omega) hx
      · refine aw_al0 K dX6_twins_62 ?_
        refine aw_il5 K dX6_twins_63 ?_
        refine aw_callV_I K (tX6_isPlain l g sta _ _ (vp_in_nI (by omega) (by decide))) rfl (by decide) fX6_isPlain lX6_208 dX6_twins_65 rfl clsX6 rfl (Nat.le_of_ble_eq_true rfl) ?_
        refine aw_if_ne (tgt := 74) K dX6_twins_68 (by decide) (fun b68 => ?_) (fun b68 => ?_)
        · refine aw_al0 K dX6_twins_74 ?_
          refine aw_getR K gX6_63 dX6_twins_75 rfl rfl ?_
          refine aw_il4 K dX6_twins_78 ?_
          refine aw_iald K dX6_twins_80 rfl (vp_in_nI (by omega) (by decide)) ?_
          refine aw_al0 K dX6_twins_81 ?_
          refine aw_getR K gX6_63 dX6_twins_82 rfl rfl ?_
          refine aw_il5 K dX6_twins_85 ?_
          refine aw_iald K dX6_twins_87 rfl (vp_in_nI (by omega) (by decide)) ?_
          refine aw_iadd K dX6_twins_88 ?_
          refine aw_al0 K dX6_twins_89 ?_
          refine aw_getR K gX6_40 dX6_twins_90 rfl rfl ?_
          refine aw_iconst (v := 1) K dX6_twins_93 (by decide) ?_
          refine aw_il4 K dX6_twins_94 ?_
          refine aw_ishl K dX6_twins_96 ?_
          refine aw_iconst (v := 1) K dX6_twins_97 (by decide) ?_
          refine aw_il5 K dX6_twins_98 ?_
          refine aw_ishl K dX6_twins_100 ?_
          refine aw_ior K dX6_twins_101 ?_
          refine aw_callV K (tX0_most l g sta _ _ h0 hx) rfl (by decide) fX0_most lX6_193 dX6_twins_102 rfl clsX0 rfl (Nat.le_of_ble_eq_true rfl) (fun o h2 hq => ?_)
          obtain ⟨⟨r, rfl⟩, hx2⟩ := hq
          refine (show AW _ _ _ _ _ _ _ (.int r :: _) _ from ?_)
          refine aw_isub K dX6_twins_105 ?_
          refine aw_is6 K dX6_twins_106 (by decide) rfl ?_
          refine aw_il6 K dX6_twins_108 ?_
          refine aw_il3 K dX6_twins_110 ?_
          refine aw_icmp_le (tgt := 126) K dX6_twins_111 (by decide) (fun b111 => ?_) (fun b111 => ?_)
          · refine aw_ii5 (v := _ + 1) K dX6_twins_126 rfl (by decide) rfl ?_
            refine aw_goto (tgt := 41) K dX6_twins_129 (by decide) ?_
            rw [nI_1]
            refine aw_sub [some (.ref (g.2.1 0)), some (.int a), some (.int _), some (.int _), some (.int _), some (.int _), none] ⟨rfl, rfl, rfl, rfl, rfl, rfl, trivial⟩ ?_
            exact ih (j + 1) _ _ _ (by omega) (by omega) hx2
          · refine aw_bipush (v := 16) K dX6_twins_114 (by decide) ?_
            refine aw_il4 K dX6_twins_116 ?_
            refine aw_imul K dX6_twins_118 ?_
            refine aw_il5 K dX6_twins_119 ?_
            refine aw_iadd K dX6_twins_121 ?_
            refine aw_is2 K dX6_twins_122 (by decide) rfl ?_
            refine aw_il6 K dX6_twins_123 ?_
            refine aw_is3 K dX6_twins_125 (by decide) rfl ?_
            refine aw_ii5 (v := _ + 1) K dX6_twins_126 rfl (by decide) rfl ?_
            refine aw_goto (tgt := 41) K dX6_twins_129 (by decide) ?_
            rw [nI_1]
            refine aw_sub [some (.ref (g.2.1 0)), some (.int a), some (.int _), some (.int _), some (.int _), some (.int _), none] ⟨rfl, rfl, rfl, rfl, rfl, rfl, trivial⟩ ?_
            exact ih (j + 1) _ _ _ (by omega) (by omega) hx2
        · refine aw_goto (tgt := 126) K dX6_twins_71 (by decide) ?_
          refine aw_ii5 (v := _ + 1) K dX6_twins_126 rfl (by decide) rfl ?_
          refine aw_goto (tgt := 41) K dX6_twins_129 (by decide) ?_
          rw [nI_1]
          refine aw_sub [some (.ref (g.2.1 0)), some (.int a), some (.int _), some (.int _), some (.int _), some (.int _), none] ⟨rfl, rfl, rfl, rfl, rfl, rfl, trivial⟩ ?_
          exact ih (j + 1) _ _ _ (by omega) (by omega) hx
set_option maxHeartbeats 4000000 in
set_option maxRecDepth 100000 in
theorem lpX6_twins {l : Launch} {g : Geo} {sta : Nat → Nat} {k : KT} (K : AOK (wX l g sta) mX6_twins k) (h0 : HS) (a : Int32) {N T Wn : Nat} (H0 : XW h0 N T Wn) :
    ∀ (n i : Nat) (be va : Int32) (h : HS), i ≤ N → N - i < n → XQ h0 h → AW (wX l g sta) (QI h0) 7 mX6_twins k 23 [some (.ref (g.2.1 0)), some (.int a), some (.int be), some (.int va), some (.int (nI i)), none, none] [] h := by
  intro n
  induction n with
  | zero => intro i be va h h1 h2; omega
  | succ n ih =>
    intro i be va h h1 h2 hx
    have H := H0.q hx
    have hN := H.1.2
    refine aw_il4 K dX6_twins_23 ?_
    refine aw_al0 K dX6_twins_25 ?_
    refine aw_getR K gX6_12 dX6_twins_26 rfl rfl ?_
    refine aw_getI K gX6_161 dX6_twins_29 rfl rfl ?_
    rw [H.1.1]
    refine aw_icmp_ge (tgt := 138) K dX6_twins_32 (by decide) (fun b32 => ?_) (fun b32 => ?_)
    · refine aw_il1 K dX6_twins_138 ?_
      refine aw_if_eq (tgt := 148) K dX6_twins_139 (by decide) (fun b139 => ?_) (fun b139 => ?_)
      · refine aw_il2 K dX6_twins_148 ?_
        refine aw_goto (tgt := 153) K dX6_twins_149 (by decide) ?_
        refine aw_iret K rfl dX6_twins_153 ?_
        exact ⟨⟨_, rfl⟩, hx⟩
      · refine aw_il2 K dX6_twins_142 ?_
        refine aw_bipush (v := (-4)) K dX6_twins_143 (by decide) ?_
        refine aw_icmp_ne (tgt := 152) K dX6_twins_145 (by decide) (fun b145 => ?_) (fun b145 => ?_)
        · refine aw_il3 K dX6_twins_152 ?_
          refine aw_iret K rfl dX6_twins_153 ?_
          exact ⟨⟨_, rfl⟩, hx⟩
        · refine aw_il2 K dX6_twins_148 ?_
          refine aw_goto (tgt := 153) K dX6_twins_149 (by decide) ?_
          refine aw_iret K rfl dX6_twins_153 ?_
          exact ⟨⟨_, rfl⟩, hx⟩
    · have hlt : i < N := by
        rcases Nat.lt_or_ge i N with q | q
        · exact q
        · exact absurd (nI_le (a := N) q (by omega)) b32
      refine aw_il4 K dX6_twins_35 ?_
      refine aw_iconst (v := 1) K dX6_twins_37 (by decide) ?_
      refine aw_iadd K dX6_twins_38 ?_
      refine aw_is5 K dX6_twins_39 (by decide) rfl ?_
      rw [nI_1]
      refine lp2X6_twins K h0 a H0 i hlt (fun be va h hx => ?_) (N + 1) (i + 1) _ _ _ (by omega) (by omega) hx
      refine aw_ii4 (v := _ + 1) K dX6_twins_132 rfl (by decide) rfl ?_
      refine aw_goto (tgt := 23) K dX6_twins_135 (by decide) ?_
      rw [nI_1]
      exact ih (i + 1) _ _ _ (by omega) (by omega) hx
set_option maxHeartbeats 4000000 in
set_option maxRecDepth 100000 in
theorem tX6_twins (l : Launch) (g : Geo) (sta : Nat → Nat) (h : HS) (a : Int32) {N T Wn : Nat} (H : XW h N T Wn) : CT (wX l g sta) 7 mX6_twins [.ref (g.2.1 0), .int a] h (QI h) := by
  refine CT.at [some (.ref (g.2.1 0)), some (.int a), none, none, none, none, none] 5 rfl (by decide) (Nat.le_of_ble_eq_true rfl) (fun k K => ?_)
  refine aw_il1 K dX6_twins_0 ?_
  refine aw_iconst (v := 0) K dX6_twins_1 (by decide) ?_
  refine aw_iconst (v := 1) K dX6_twins_2 (by decide) ?_
  refine aw_callS_I K (tX6_within l g sta _ _ _ _) rfl (by decide) fX6_within lX6_76 dX6_twins_3 rfl (Nat.le_of_ble_eq_true rfl) ?_
  refine aw_if_ne (tgt := 11) K dX6_twins_6 (by decide) (fun b6 => ?_) (fun b6 => ?_)
  · refine aw_al0 K dX6_twins_11 ?_
    refine aw_callV K (tX6_fillTrusts l g sta _ H) rfl (by decide) fX6_fillTrusts lX6_211 dX6_twins_12 rfl clsX6 rfl (Nat.le_of_ble_eq_true rfl) (fun o h2 hq => ?_)
    obtain ⟨rfl, hx⟩ := hq
    refine aw_bipush (v := (-4)) K dX6_twins_15 (by decide) ?_
    refine aw_is2 K dX6_twins_17 (by decide) rfl ?_
    refine aw_iconst (v := 0) K dX6_twins_18 (by decide) ?_
    refine aw_is3 K dX6_twins_19 (by decide) rfl ?_
    refine aw_iconst (v := 0) K dX6_twins_20 (by decide) ?_
    refine aw_is4 K dX6_twins_21 (by decide) rfl ?_
    exact lpX6_twins K h a H (N + 1) 0 _ _ _ (by omega) (by omega) hx
  · refine aw_iconst (v := (-1)) K dX6_twins_9 (by decide) ?_
    refine aw_iret K rfl dX6_twins_10 ?_
    exact ⟨⟨_, rfl⟩, H.s⟩

set_option maxHeartbeats 4000000 in
set_option maxRecDepth 100000 in
theorem lpX6_oddest {l : Launch} {g : Geo} {sta : Nat → Nat} {k : KT} (K : AOK (wX l g sta) mX6_oddest k) (h : HS) (a : Int32) (m : Nat) (al : Int64) {N T Wn : Nat} (H : XW h N T Wn) :
    ∀ (n i : Nat) (le : Int64) (he : Int32), i ≤ 2 ^ N → 2 ^ N - i < n → AW (wX l g sta) (QL h) 7 mX6_oddest k 43 [some (.ref (g.2.1 0)), some (.int a), some (.int (nI m)), some (.long al), none, some (.long le), none, some (.int he), some (.int (nI i)), none, none] [] h := by
  intro n
  induction n with
  | zero => intro i le he h1 h2; omega
  | succ n ih =>
    intro i le he h1 h2
    have hN := p2N H.1.2
    refine aw_il8 K dX6_oddest_43 ?_
    refine aw_iconst (v := 1) K dX6_oddest_45 (by decide) ?_
    refine aw_al0 K dX6_oddest_46 ?_
    refine aw_getR K gX6_12 dX6_oddest_47 rfl rfl ?_
    refine aw_getI K gX6_161 dX6_oddest_50 rfl rfl ?_
    refine aw_ishl K dX6_oddest_53 ?_
    rw [shN H.1.1 H.1.2]
    refine aw_icmp_ge (tgt := 104) K dX6_oddest_54 (by decide) (fun b54 => ?_) (fun b54 => ?_)
    · refine aw_il7 K dX6_oddest_104 ?_
      refine aw_if_ne (tgt := 113) K dX6_oddest_106 (by decide) (fun b106 => ?_) (fun b106 => ?_)
      · refine aw_il1 K dX6_oddest_113 ?_
        refine aw_if_ne (tgt := 123) K dX6_oddest_114 (by decide) (fun b114 => ?_) (fun b114 => ?_)
        · refine aw_ll5 K dX6_oddest_123 ?_
          refine aw_ll3 K dX6_oddest_125 ?_
          refine aw_il1 K dX6_oddest_126 ?_
          refine aw_iconst (v := 1) K dX6_oddest_127 (by decide) ?_
          refine aw_icmp_ne (tgt := 135) K dX6_oddest_128 (by decide) (fun b128 => ?_) (fun b128 => ?_)
          · refine aw_iconst (v := 0) K dX6_oddest_135 (by decide) ?_
            refine aw_callS K (tX6_inLowest l g sta _ _ _ _) rfl (by decide) fX6_inLowest lX6_247 dX6_oddest_136 rfl (Nat.le_of_ble_eq_true rfl) (fun o h2 hq => ?_)
            obtain ⟨⟨r4, rfl⟩, rfl⟩ := hq
            refine (show AW _ _ _ _ _ _ _ (.long r4 :: _) _ from ?_)
            refine aw_lret K rfl dX6_oddest_139 ?_
            exact ⟨⟨_, rfl⟩, H.s⟩
          · refine aw_iconst (v := 1) K dX6_oddest_131 (by decide) ?_
            refine aw_goto (tgt := 136) K dX6_oddest_132 (by decide) ?_
            refine aw_callS K (tX6_inLowest l g sta _ _ _ _) rfl (by decide) fX6_inLowest lX6_247 dX6_oddest_136 rfl (Nat.le_of_ble_eq_true rfl) (fun o h2 hq => ?_)
            obtain ⟨⟨r4, rfl⟩, rfl⟩ := hq
            refine (show AW _ _ _ _ _ _ _ (.long r4 :: _) _ from ?_)
            refine aw_lret K rfl dX6_oddest_139 ?_
            exact ⟨⟨_, rfl⟩, H.s⟩
        · refine aw_il7 K dX6_oddest_117 ?_
          refine aw_i2l K dX6_oddest_119 ?_
          refine aw_goto (tgt := 139) K dX6_oddest_120 (by decide) ?_
          refine aw_lret K rfl dX6_oddest_139 ?_
          exact ⟨⟨_, rfl⟩, H.s⟩
      · refine aw_ldc2 K qX6_268 dX6_oddest_109 ?_
        refine aw_lret K rfl dX6_oddest_112 ?_
        exact ⟨⟨_, rfl⟩, H.s⟩
    · have hlt : i < (2 ^ N) := by
        rcases Nat.lt_or_ge i (2 ^ N) with q | q
        · exact q
        · exact absurd (nI_le (a := (2 ^ N)) q (by omega)) b54
      refine aw_il8 K dX6_oddest_57 ?_
      refine aw_callS K (tJ6_bitCount_0f7a4 l g sta _ _) rfl (by decide) fJ6_bitCount_0f7a4 lX6_171 dX6_oddest_59 rfl (Nat.le_of_ble_eq_true rfl) (fun o h2 hq => ?_)
      obtain ⟨⟨r1, rfl⟩, rfl⟩ := hq
      refine (show AW _ _ _ _ _ _ _ (.int r1 :: _) _ from ?_)
      refine aw_iconst (v := 3) K dX6_oddest_62 (by decide) ?_
      refine aw_iconst (v := 4) K dX6_oddest_63 (by decide) ?_
      refine aw_callS_I K (tX6_within l g sta _ _ _ _) rfl (by decide) fX6_within lX6_76 dX6_oddest_64 rfl (Nat.le_of_ble_eq_true rfl) ?_
      refine aw_if_ne (tgt := 73) K dX6_oddest_67 (by decide) (fun b67 => ?_) (fun b67 => ?_)
      · refine aw_al0 K dX6_oddest_73 ?_
        refine aw_il8 K dX6_oddest_74 ?_
        refine aw_il2 K dX6_oddest_76 ?_
        refine aw_callV K (tX6_waysOf l g sta _ _ _ H) rfl (by decide) fX6_waysOf lX6_261 dX6_oddest_77 rfl clsX6 rfl (Nat.le_of_ble_eq_true rfl) (fun o h2 hq => ?_)
        obtain ⟨⟨r5, rfl⟩, rfl⟩ := hq
        refine (show AW _ _ _ _ _ _ _ (.long r5 :: _) _ from ?_)
        refine aw_ls9 K dX6_oddest_80 (by decide) rfl ?_
        refine aw_ll9 K dX6_oddest_82 ?_
        refine aw_ll5 K dX6_oddest_84 ?_
        refine aw_lcmp K dX6_oddest_86 ?_
        refine aw_if_ge (tgt := 98) K dX6_oddest_87 (by decide) (fun b87 => ?_) (fun b87 => ?_)
        · refine aw_ii8 (v := _ + 1) K dX6_oddest_98 rfl (by decide) rfl ?_
          refine aw_goto (tgt := 43) K dX6_oddest_101 (by decide) ?_
          rw [nI_1]
          refine aw_sub [some (.ref (g.2.1 0)), some (.int a), some (.int _), some (.long _), none, some (.long _), none, some (.int _), some (.int _), none, none] ⟨rfl, rfl, rfl, rfl, rfl, rfl, rfl, trivial⟩ ?_
          exact ih (i + 1) _ _ (by omega) (by omega)
        · refine aw_ll9 K dX6_oddest_90 ?_
          refine aw_ls5 K dX6_oddest_92 (by decide) rfl ?_
          refine aw_il8 K dX6_oddest_94 ?_
          refine aw_is7 K dX6_oddest_96 (by decide) rfl ?_
          refine aw_ii8 (v := _ + 1) K dX6_oddest_98 rfl (by decide) rfl ?_
          refine aw_goto (tgt := 43) K dX6_oddest_101 (by decide) ?_
          rw [nI_1]
          refine aw_sub [some (.ref (g.2.1 0)), some (.int a), some (.int _), some (.long _), none, some (.long _), none, some (.int _), some (.int _), none, none] ⟨rfl, rfl, rfl, rfl, rfl, rfl, rfl, trivial⟩ ?_
          exact ih (i + 1) _ _ (by omega) (by omega)
      · refine aw_goto (tgt := 98) K dX6_oddest_70 (by decide) ?_
        refine aw_ii8 (v := _ + 1) K dX6_oddest_98 rfl (by decide) rfl ?_
        refine aw_goto (tgt := 43) K dX6_oddest_101 (by decide) ?_
        rw [nI_1]
        refine aw_sub [some (.ref (g.2.1 0)), some (.int a), some (.int _), some (.long _), none, some (.long _), none, some (.int _), some (.int _), none, none] ⟨rfl, rfl, rfl, rfl, rfl, rfl, rfl, trivial⟩ ?_
        exact ih (i + 1) _ _ (by omega) (by omega)
set_option maxHeartbeats 4000000 in
set_option maxRecDepth 100000 in
theorem tX6_oddest (l : Launch) (g : Geo) (sta : Nat → Nat) (h : HS) (a : Int32) {N T Wn : Nat} (H : XW h N T Wn) : CT (wX l g sta) 7 mX6_oddest [.ref (g.2.1 0), .int a] h (QL h) := by
  refine CT.at [some (.ref (g.2.1 0)), some (.int a), none, none, none, none, none, none, none, none, none] 9 rfl (by decide) (Nat.le_of_ble_eq_true rfl) (fun k K => ?_)
  refine aw_il1 K dX6_oddest_0 ?_
  refine aw_iconst (v := 0) K dX6_oddest_1 (by decide) ?_
  refine aw_iconst (v := 2) K dX6_oddest_2 (by decide) ?_
  refine aw_callS_I K (tX6_within l g sta _ _ _ _) rfl (by decide) fX6_within lX6_76 dX6_oddest_3 rfl (Nat.le_of_ble_eq_true rfl) ?_
  refine aw_if_ne (tgt := 13) K dX6_oddest_6 (by decide) (fun b6 => ?_) (fun b6 => ?_)
  · refine aw_al0 K dX6_oddest_13 ?_
    refine aw_sipush (v := 4095) K dX6_oddest_14 (by decide) ?_
    refine aw_iconst (v := 1) K dX6_oddest_17 (by decide) ?_
    refine aw_callV K (tX6_wordsWithin l g sta _ _ _ H) rfl (by decide) fX6_wordsWithin lX6_256 dX6_oddest_18 rfl clsX6 rfl (Nat.le_of_ble_eq_true rfl) (fun o h2 hq => ?_)
    obtain ⟨⟨m, hm, rfl⟩, rfl⟩ := hq
    refine (show AW _ _ _ _ _ _ _ (.int (nI m) :: _) _ from ?_)
    refine aw_is2 K dX6_oddest_21 (by decide) rfl ?_
    refine aw_al0 K dX6_oddest_22 ?_
    refine aw_getR K gX6_26 dX6_oddest_23 rfl rfl ?_
    refine aw_getI K gX6_255 dX6_oddest_26 rfl rfl ?_
    refine aw_il2 K dX6_oddest_29 ?_
    refine aw_callS K (tX6_choose l g sta _ _ _) rfl (by decide) fX6_choose lX6_265 dX6_oddest_30 rfl (Nat.le_of_ble_eq_true rfl) (fun o h2 hq => ?_)
    obtain ⟨⟨r6, rfl⟩, rfl⟩ := hq
    refine (show AW _ _ _ _ _ _ _ (.long r6 :: _) _ from ?_)
    refine aw_ls3 K dX6_oddest_33 (by decide) rfl ?_
    refine aw_ll3 K dX6_oddest_34 ?_
    refine aw_ls5 K dX6_oddest_35 (by decide) rfl ?_
    refine aw_iconst (v := 0) K dX6_oddest_37 (by decide) ?_
    refine aw_is7 K dX6_oddest_38 (by decide) rfl ?_
    refine aw_iconst (v := 0) K dX6_oddest_40 (by decide) ?_
    refine aw_is8 K dX6_oddest_41 (by decide) rfl ?_
    refine aw_sub [some (.ref (g.2.1 0)), some (.int a), some (.int _), some (.long _), none, some (.long _), none, some (.int _), some (.int _), none, none] ⟨rfl, rfl, rfl, rfl, rfl, rfl, rfl, trivial⟩ ?_
    exact lpX6_oddest K _ a m r6 H (2 ^ N + 1) 0 _ _ (Nat.zero_le _) (Nat.lt_succ_of_le (Nat.sub_le _ _))
  · refine aw_ldc2 K qX6_259 dX6_oddest_9 ?_
    refine aw_lret K rfl dX6_oddest_12 ?_
    exact ⟨⟨_, rfl⟩, H.s⟩

set_option maxHeartbeats 4000000 in
set_option maxRecDepth 100000 in
theorem lpX6_best {l : Launch} {g : Geo} {sta : Nat → Nat} {k : KT} (K : AOK (wX l g sta) mX6_best k) (h0 : HS) (a b c se ro : Int32) {N T Wn : Nat} (H0 : XW h0 N T Wn) :
    ∀ (n i : Nat) (be he : Int32) (h : HS), i ≤ 2 ^ N → 2 ^ N - i < n → XQ h0 h → AW (wX l g sta) (QI h0) 7 mX6_best k 58 [some (.ref (g.2.1 0)), some (.int a), some (.int b), some (.int c), some (.int se), some (.int ro), some (.int be), some (.int he), some (.int (nI i)), none] [] h := by
  intro n
  induction n with
  | zero => intro i be he h h1 h2; omega
  | succ n ih =>
    intro i be he h h1 h2 hx
    have H := H0.q hx
    have hN := p2N H.1.2
    refine aw_il8 K dX6_best_58 ?_
    refine aw_iconst (v := 1) K dX6_best_60 (by decide) ?_
    refine aw_al0 K dX6_best_61 ?_
    refine aw_getR K gX6_12 dX6_best_62 rfl rfl ?_
    refine aw_getI K gX6_161 dX6_best_65 rfl rfl ?_
    refine aw_ishl K dX6_best_68 ?_
    rw [shN H.1.1 H.1.2]
    refine aw_icmp_ge (tgt := 118) K dX6_best_69 (by decide) (fun b69 => ?_) (fun b69 => ?_)
    · refine aw_il3 K dX6_best_118 ?_
      refine aw_if_ne (tgt := 127) K dX6_best_119 (by decide) (fun b119 => ?_) (fun b119 => ?_)
      · refine aw_il7 K dX6_best_127 ?_
        refine aw_iret K rfl dX6_best_129 ?_
        exact ⟨⟨_, rfl⟩, hx⟩
      · refine aw_il6 K dX6_best_122 ?_
        refine aw_goto (tgt := 129) K dX6_best_124 (by decide) ?_
        refine aw_iret K rfl dX6_best_129 ?_
        exact ⟨⟨_, rfl⟩, hx⟩
    · have hlt : i < (2 ^ N) := by
        rcases Nat.lt_or_ge i (2 ^ N) with q | q
        · exact q
        · exact absurd (nI_le (a := (2 ^ N)) q (by omega)) b69
      refine aw_il8 K dX6_best_72 ?_
      refine aw_il4 K dX6_best_74 ?_
      refine aw_iconst (v := (-1)) K dX6_best_76 (by decide) ?_
      refine aw_ixor K dX6_best_77 ?_
      refine aw_iand K dX6_best_78 ?_
      refine aw_if_ne (tgt := 94) K dX6_best_79 (by decide) (fun b79 => ?_) (fun b79 => ?_)
      · refine aw_iconst (v := 0) K dX6_best_94 (by decide) ?_
        refine aw_is9 K dX6_best_95 (by decide) rfl ?_
        refine aw_il9 K dX6_best_97 ?_
        refine aw_il6 K dX6_best_99 ?_
        refine aw_icmp_le (tgt := 112) K dX6_best_101 (by decide) (fun b101 => ?_) (fun b101 => ?_)
        · refine aw_ii8 (v := _ + 1) K dX6_best_112 rfl (by decide) rfl ?_
          refine aw_goto (tgt := 58) K dX6_best_115 (by decide) ?_
          rw [nI_1]
          refine aw_sub [some (.ref (g.2.1 0)), some (.int a), some (.int b), some (.int c), some (.int _), some (.int _), some (.int _), some (.int _), some (.int _), none] ⟨rfl, rfl, rfl, rfl, rfl, rfl, rfl, rfl, rfl, trivial⟩ ?_
          exact ih (i + 1) _ _ _ (by omega) (by omega) hx
        · refine aw_il9 K dX6_best_104 ?_
          refine aw_is6 K dX6_best_106 (by decide) rfl ?_
          refine aw_il8 K dX6_best_108 ?_
          refine aw_is7 K dX6_best_110 (by decide) rfl ?_
          refine aw_ii8 (v := _ + 1) K dX6_best_112 rfl (by decide) rfl ?_
          refine aw_goto (tgt := 58) K dX6_best_115 (by decide) ?_
          rw [nI_1]
          refine aw_sub [some (.ref (g.2.1 0)), some (.int a), some (.int b), some (.int c), some (.int _), some (.int _), some (.int _), some (.int _), some (.int _), none] ⟨rfl, rfl, rfl, rfl, rfl, rfl, rfl, rfl, rfl, trivial⟩ ?_
          exact ih (i + 1) _ _ _ (by omega) (by omega) hx
      · refine aw_al0 K dX6_best_82 ?_
        refine aw_il8 K dX6_best_83 ?_
        refine aw_il5 K dX6_best_85 ?_
        refine aw_il2 K dX6_best_87 ?_
        refine aw_callV K (tX6_gainBy l g sta _ _ _ _ h0 H0 hx) rfl (by decide) fX6_gainBy lX6_280 dX6_best_88 rfl clsX6 rfl (Nat.le_of_ble_eq_true rfl) (fun o h2 hq => ?_)
        obtain ⟨⟨r2, rfl⟩, hx2⟩ := hq
        refine (show AW _ _ _ _ _ _ _ (.int r2 :: _) _ from ?_)
        refine aw_goto (tgt := 95) K dX6_best_91 (by decide) ?_
        refine aw_is9 K dX6_best_95 (by decide) rfl ?_
        refine aw_il9 K dX6_best_97 ?_
        refine aw_il6 K dX6_best_99 ?_
        refine aw_icmp_le (tgt := 112) K dX6_best_101 (by decide) (fun b101 => ?_) (fun b101 => ?_)
        · refine aw_ii8 (v := _ + 1) K dX6_best_112 rfl (by decide) rfl ?_
          refine aw_goto (tgt := 58) K dX6_best_115 (by decide) ?_
          rw [nI_1]
          refine aw_sub [some (.ref (g.2.1 0)), some (.int a), some (.int b), some (.int c), some (.int _), some (.int _), some (.int _), some (.int _), some (.int _), none] ⟨rfl, rfl, rfl, rfl, rfl, rfl, rfl, rfl, rfl, trivial⟩ ?_
          exact ih (i + 1) _ _ _ (by omega) (by omega) hx2
        · refine aw_il9 K dX6_best_104 ?_
          refine aw_is6 K dX6_best_106 (by decide) rfl ?_
          refine aw_il8 K dX6_best_108 ?_
          refine aw_is7 K dX6_best_110 (by decide) rfl ?_
          refine aw_ii8 (v := _ + 1) K dX6_best_112 rfl (by decide) rfl ?_
          refine aw_goto (tgt := 58) K dX6_best_115 (by decide) ?_
          rw [nI_1]
          refine aw_sub [some (.ref (g.2.1 0)), some (.int a), some (.int b), some (.int c), some (.int _), some (.int _), some (.int _), some (.int _), some (.int _), none] ⟨rfl, rfl, rfl, rfl, rfl, rfl, rfl, rfl, rfl, trivial⟩ ?_
          exact ih (i + 1) _ _ _ (by omega) (by omega) hx2
set_option maxHeartbeats 4000000 in
set_option maxRecDepth 100000 in
theorem tX6_best (l : Launch) (g : Geo) (sta : Nat → Nat) (h : HS) (a b c : Int32) {N T Wn : Nat} (H : XW h N T Wn) : CT (wX l g sta) 7 mX6_best [.ref (g.2.1 0), .int a, .int b, .int c] h (QI h) := by
  refine CT.at [some (.ref (g.2.1 0)), some (.int a), some (.int b), some (.int c), none, none, none, none, none, none] 6 rfl (by decide) (Nat.le_of_ble_eq_true rfl) (fun k K => ?_)
  refine aw_il1 K dX6_best_0 ?_
  refine aw_il2 K dX6_best_1 ?_
  refine aw_callS_I K (tX6_isOffer l g sta _ _ _) rfl (by decide) fX6_isOffer lX6_270 dX6_best_2 rfl (Nat.le_of_ble_eq_true rfl) ?_
  refine aw_if_eq (tgt := 17) K dX6_best_5 (by decide) (fun b5 => ?_) (fun b5 => ?_)
  · refine aw_iconst (v := (-1)) K dX6_best_17 (by decide) ?_
    refine aw_iret K rfl dX6_best_18 ?_
    exact ⟨⟨_, rfl⟩, H.s⟩
  · refine aw_il3 K dX6_best_8 ?_
    refine aw_iconst (v := 0) K dX6_best_9 (by decide) ?_
    refine aw_iconst (v := 1) K dX6_best_10 (by decide) ?_
    refine aw_callS_I K (tX6_within l g sta _ _ _ _) rfl (by decide) fX6_within lX6_76 dX6_best_11 rfl (Nat.le_of_ble_eq_true rfl) ?_
    refine aw_if_ne (tgt := 19) K dX6_best_14 (by decide) (fun b14 => ?_) (fun b14 => ?_)
    · refine aw_al0 K dX6_best_19 ?_
      refine aw_callV K (tX6_sellingNames l g sta _ H) rfl (by decide) fX6_sellingNames lX6_273 dX6_best_20 rfl clsX6 rfl (Nat.le_of_ble_eq_true rfl) (fun o h2 hq => ?_)
      obtain ⟨⟨r, rfl⟩, rfl⟩ := hq
      refine (show AW _ _ _ _ _ _ _ (.int r :: _) _ from ?_)
      refine aw_is4 K dX6_best_23 (by decide) rfl ?_
      refine aw_il4 K dX6_best_25 ?_
      refine aw_callS K (tJ6_bitCount_0f7a4 l g sta _ _) rfl (by decide) fJ6_bitCount_0f7a4 lX6_171 dX6_best_27 rfl (Nat.le_of_ble_eq_true rfl) (fun o h2 hq => ?_)
      obtain ⟨⟨r1, rfl⟩, rfl⟩ := hq
      refine (show AW _ _ _ _ _ _ _ (.int r1 :: _) _ from ?_)
      refine aw_bipush (v := 8) K dX6_best_30 (by decide) ?_
      refine aw_icmp_le (tgt := 38) K dX6_best_32 (by decide) (fun b32 => ?_) (fun b32 => ?_)
      · refine aw_al0 K dX6_best_38 ?_
        refine aw_callV K (tX6_layFlow l g sta _ H) rfl (by decide) fX6_layFlow lX6_190 dX6_best_39 rfl clsX6 rfl (Nat.le_of_ble_eq_true rfl) (fun o h2 hq => ?_)
        obtain ⟨rfl, hx⟩ := hq
        refine aw_al0 K dX6_best_42 ?_
        refine aw_il1 K dX6_best_43 ?_
        refine aw_callV_I K (tX6_boughtRoom l g sta _ _) rfl (by decide) fX6_boughtRoom lX6_277 dX6_best_44 rfl clsX6 rfl (Nat.le_of_ble_eq_true rfl) ?_
        refine aw_is5 K dX6_best_47 (by decide) rfl ?_
        refine aw_iconst (v := 0) K dX6_best_49 (by decide) ?_
        refine aw_is6 K dX6_best_50 (by decide) rfl ?_
        refine aw_iconst (v := 0) K dX6_best_52 (by decide) ?_
        refine aw_is7 K dX6_best_53 (by decide) rfl ?_
        refine aw_iconst (v := 1) K dX6_best_55 (by decide) ?_
        refine aw_is8 K dX6_best_56 (by decide) rfl ?_
        have h2N : 1 ≤ 2 ^ N := Nat.one_le_two_pow
        exact lpX6_best K _ a b c _ _ H (2 ^ N + 1) 1 _ _ _ (by omega) (by omega) hx
      · refine aw_bipush (v := (-2)) K dX6_best_35 (by decide) ?_
        refine aw_iret K rfl dX6_best_37 ?_
        exact ⟨⟨_, rfl⟩, H.s⟩
    · refine aw_iconst (v := (-1)) K dX6_best_17 (by decide) ?_
      refine aw_iret K rfl dX6_best_18 ?_
      exact ⟨⟨_, rfl⟩, H.s⟩

