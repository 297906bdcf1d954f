def DA (a : Nat) (h2 : HS) : Option Value → HS → Prop := fun o h' => o = some (.ref a) ∧ h' = h2
set_option maxHeartbeats 4000000 in
set_option maxRecDepth 100000 in
theorem tX3_textOf (l : Launch) (g : Geo) (sta : Nat → Nat) (h : HS) (i : Nat) (hi : i < 10) : CT (wX l g sta) 1 mX3_textOf [.int (nI i)] h (DA (sta (3 + i)) h) := by
  refine CT.at [some (.int (nI i))] 0 rfl (by decide) (Nat.le_of_ble_eq_true rfl) (fun k K => ?_)
  refine aw_il0 K dX3_textOf_0 ?_
  refine aw_tsw (tgt := 86) K dX3_textOf_1 (by decide) (by decide) (by decide) ⟨fun s0 => ?_, fun s1 => ?_, fun s2 => ?_, fun s3 => ?_, fun s4 => ?_, fun s5 => ?_, fun s6 => ?_, fun s7 => ?_, fun s8 => ?_, fun s9 => ?_, trivial⟩ (fun sd => ?_)
  · show AW _ _ _ _ _ 56 _ _ _
    refine aw_ldcS (i := 0) K (by decide) rfl dX3_textOf_56 ?_
    refine aw_aret K rfl dX3_textOf_58 ?_
    have q := s0
    rw [nI_toInt (by omega)] at q
    obtain rfl : i = 0 := by omega
    exact ⟨rfl, rfl⟩
  · show AW _ _ _ _ _ 59 _ _ _
    refine aw_ldcS (i := 1) K (by decide) rfl dX3_textOf_59 ?_
    refine aw_aret K rfl dX3_textOf_61 ?_
    have q := s1
    rw [nI_toInt (by omega)] at q
    obtain rfl : i = 1 := by omega
    exact ⟨rfl, rfl⟩
  · show AW _ _ _ _ _ 62 _ _ _
    refine aw_ldcS (i := 2) K (by decide) rfl dX3_textOf_62 ?_
    refine aw_aret K rfl dX3_textOf_64 ?_
    have q := s2
    rw [nI_toInt (by omega)] at q
    obtain rfl : i = 2 := by omega
    exact ⟨rfl, rfl⟩
  · show AW _ _ _ _ _ 65 _ _ _
    refine aw_ldcS (i := 3) K (by decide) rfl dX3_textOf_65 ?_
    refine aw_aret K rfl dX3_textOf_67 ?_
    have q := s3
    rw [nI_toInt (by omega)] at q
    obtain rfl : i = 3 := by omega
    exact ⟨rfl, rfl⟩
  · show AW _ _ _ _ _ 68 _ _ _
    refine aw_ldcS (i := 4) K (by decide) rfl dX3_textOf_68 ?_
    refine aw_aret K rfl dX3_textOf_70 ?_
    have q := s4
    rw [nI_toInt (by omega)] at q
    obtain rfl : i = 4 := by omega
    exact ⟨rfl, rfl⟩
  · show AW _ _ _ _ _ 71 _ _ _
    refine aw_ldcS (i := 5) K (by decide) rfl dX3_textOf_71 ?_
    refine aw_aret K rfl dX3_textOf_73 ?_
    have q := s5
    rw [nI_toInt (by omega)] at q
    obtain rfl : i = 5 := by omega
    exact ⟨rfl, rfl⟩
  · show AW _ _ _ _ _ 74 _ _ _
    refine aw_ldcS (i := 6) K (by decide) rfl dX3_textOf_74 ?_
    refine aw_aret K rfl dX3_textOf_76 ?_
    have q := s6
    rw [nI_toInt (by omega)] at q
    obtain rfl : i = 6 := by omega
    exact ⟨rfl, rfl⟩
  · show AW _ _ _ _ _ 77 _ _ _
    refine aw_ldcS (i := 7) K (by decide) rfl dX3_textOf_77 ?_
    refine aw_aret K rfl dX3_textOf_79 ?_
    have q := s7
    rw [nI_toInt (by omega)] at q
    obtain rfl : i = 7 := by omega
    exact ⟨rfl, rfl⟩
  · show AW _ _ _ _ _ 80 _ _ _
    refine aw_ldcS (i := 8) K (by decide) rfl dX3_textOf_80 ?_
    refine aw_aret K rfl dX3_textOf_82 ?_
    have q := s8
    rw [nI_toInt (by omega)] at q
    obtain rfl : i = 8 := by omega
    exact ⟨rfl, rfl⟩
  · show AW _ _ _ _ _ 83 _ _ _
    refine aw_ldcS (i := 9) K (by decide) rfl dX3_textOf_83 ?_
    refine aw_aret K rfl dX3_textOf_85 ?_
    have q := s9
    rw [nI_toInt (by omega)] at q
    obtain rfl : i = 9 := by omega
    exact ⟨rfl, rfl⟩
  · rw [nI_toInt (by omega)] at sd
    omega

theorem nI_sub {p s : Nat} (h : s ≤ p) : nI p - nI s = nI (p - s) := by
  have e : nI p = nI (p - s) + nI s := by rw [nI_add, Nat.sub_add_cancel h]
  rw [e, Int32.add_sub_cancel]
def txB (h : HS) (i : Nat) : Nat → Int32
  | 0 => 1
  | n + 1 => if aw_tc i n = h.1 33 (h.1 4 4 + nI n).toNatClampNeg then txB h i n else 0
theorem txB_0 (h : HS) (i j : Nat) (e : ¬ aw_tc i j = h.1 33 (h.1 4 4 + nI j).toNatClampNeg) : ∀ n, j < n → txB h i n = 0
  | 0, q => absurd q (Nat.not_lt_zero _)
  | n + 1, q => by
    by_cases z : aw_tc i n = h.1 33 (h.1 4 4 + nI n).toNatClampNeg
    · refine (if_pos z).trans (txB_0 h i j e n ?_)
      rcases Nat.lt_or_ge j n with y | y
      · exact y
      · obtain rfl : j = n := by omega
        exact absurd z e
    · exact if_neg z
def txV (h : HS) (i : Nat) : Int32 := if nI (aw_tl i) = h.1 4 3 - h.1 4 4 then txB h i (aw_tl i) else 0
set_option maxHeartbeats 4000000 in
set_option maxRecDepth 100000 in
theorem lpX3_isText {l : Launch} {g : Geo} {sta : Nat → Nat} {k : KT} (K : AOK (wX l g sta) mX3_isText k) (h : HS) (i : Nat) (hi : i < 11) {s0 : Nat} (hs : h.1 4 4 = nI s0) (hb : s0 + aw_tl i ≤ 200) :
    ∀ (n j : Nat), j ≤ aw_tl i → aw_tl i - j < n → txB h i j = 1 → AW (wX l g sta) (DI (txB h i (aw_tl i)) h) 5 mX3_isText k 20 [some (.ref (g.2.1 4)), some (.ref (sta (3 + i))), some (.int (nI j))] [] h := by
  intro n
  induction n with
  | zero => intro j h1 h2; omega
  | succ n ih =>
    intro j h1 h2 hx
    have h6 := tl_6 hi
    refine aw_il2 K dX3_isText_20 ?_
    refine aw_al1 K dX3_isText_21 ?_
    refine aw_callT K hi (tJ0_length_8abf5 l g sta _ i hi) rfl (by decide) fJ0_length_8abf5 lX3_82 dX3_isText_22 rfl rfl (Nat.le_of_ble_eq_true rfl) (fun o h2 hq => ?_)
    obtain ⟨rfl, rfl⟩ := hq
    refine (show AW _ _ _ _ _ _ _ (.int _ :: _) _ from ?_)
    refine aw_icmp_ge (tgt := 55) K dX3_isText_25 (by decide) (fun b25 => ?_) (fun b25 => ?_)
    · have hjN : j = aw_tl i := by
        have := (nI_leI (a := aw_tl i) (by omega) (by omega : j < 2 ^ 31)).mp b25
        omega
      subst hjN
      refine aw_iconst (v := 1) K dX3_isText_55 (by decide) ?_
      refine aw_zret K rfl dX3_isText_56 (by first | rfl | exact bI_nar _) ?_
      rw [hx]
      exact ⟨rfl, rfl⟩
    · have hlt : j < aw_tl i := by
        rcases Nat.lt_or_ge j (aw_tl i) with q | q
        · exact q
        · exact absurd (nI_le (a := aw_tl i) q (by omega)) b25
      refine aw_al1 K dX3_isText_28 ?_
      refine aw_il2 K dX3_isText_29 ?_
      refine aw_callT K hi (tJ0_charAt_5068e l g sta _ i j hi hlt) rfl (by decide) fJ0_charAt_5068e lX3_87 dX3_isText_30 rfl rfl (Nat.le_of_ble_eq_true rfl) (fun o h2 hq => ?_)
      obtain ⟨rfl, rfl⟩ := hq
      refine (show AW _ _ _ _ _ _ _ (.int _ :: _) _ from ?_)
      refine aw_al0 K dX3_isText_33 ?_
      refine aw_getR K gX3_11 dX3_isText_34 rfl rfl ?_
      refine aw_al0 K dX3_isText_37 ?_
      refine aw_getI K gX3_38 dX3_isText_38 rfl rfl ?_
      refine aw_il2 K dX3_isText_41 ?_
      refine aw_iadd K dX3_isText_42 ?_
      refine aw_iald K dX3_isText_43 rfl (by rw [hs, nI_add]; exact vp_in_nI (by omega) (by decide)) ?_
      refine aw_icmp_eq (tgt := 49) K dX3_isText_44 (by decide) (fun b44 => ?_) (fun b44 => ?_)
      · refine aw_ii2 (v := _ + 1) K dX3_isText_49 rfl (by decide) rfl ?_
        refine aw_goto (tgt := 20) K dX3_isText_52 (by decide) ?_
        rw [nI_1]
        exact ih (j + 1) (by omega) (by omega) ((if_pos b44).trans hx)
      · refine aw_iconst (v := 0) K dX3_isText_47 (by decide) ?_
        refine aw_zret K rfl dX3_isText_48 (by first | rfl | exact bI_nar _) ?_
        rw [txB_0 _ i j b44 _ hlt]
        exact ⟨rfl, rfl⟩
set_option maxHeartbeats 4000000 in
set_option maxRecDepth 100000 in
theorem tX3_isText (l : Launch) (g : Geo) (sta : Nat → Nat) (h : HS) (i : Nat) (hi : i < 11) {s0 p : Nat} (hs : h.1 4 4 = nI s0) (hp : h.1 4 3 = nI p) (hsp : s0 ≤ p) (hp2 : p ≤ 200) : CT (wX l g sta) 5 mX3_isText [.ref (g.2.1 4), .ref (sta (3 + i))] h (DI (txV h i) h) := by
  refine CT.at [some (.ref (g.2.1 4)), some (.ref (sta (3 + i))), none] 1 rfl (by decide) (Nat.le_of_ble_eq_true rfl) (fun k K => ?_)
  refine aw_al1 K dX3_isText_0 ?_
  refine aw_callT K hi (tJ0_length_8abf5 l g sta _ i hi) rfl (by decide) fJ0_length_8abf5 lX3_82 dX3_isText_1 rfl rfl (Nat.le_of_ble_eq_true rfl) (fun o h2 hq => ?_)
  obtain ⟨rfl, rfl⟩ := hq
  refine (show AW _ _ _ _ _ _ _ (.int _ :: _) _ from ?_)
  refine aw_al0 K dX3_isText_4 ?_
  refine aw_getI K gX3_19 dX3_isText_5 rfl rfl ?_
  refine aw_al0 K dX3_isText_8 ?_
  refine aw_getI K gX3_38 dX3_isText_9 rfl rfl ?_
  refine aw_isub K dX3_isText_12 ?_
  refine aw_icmp_eq (tgt := 18) K dX3_isText_13 (by decide) (fun b13 => ?_) (fun b13 => ?_)
  · have h6 := tl_6 hi
    have e : aw_tl i = p - s0 := by
      have q := b13
      rw [hs, hp, nI_sub hsp] at q
      exact (nI_eq (by omega) (by omega)).mp q
    refine aw_iconst (v := 0) K dX3_isText_18 (by decide) ?_
    refine aw_is2 K dX3_isText_19 (by decide) rfl ?_
    rw [txV, if_pos b13]
    exact lpX3_isText K _ i hi hs (by omega) (aw_tl i + 1) 0 (by omega) (by omega) rfl
  · refine aw_iconst (v := 0) K dX3_isText_16 (by decide) ?_
    refine aw_zret K rfl dX3_isText_17 (by first | rfl | exact bI_nar _) ?_
    refine ⟨?_, rfl⟩
    rw [txV, if_neg b13]

