set_option maxHeartbeats 4000000 in
set_option maxRecDepth 100000 in
theorem lrX6_gainBy {l : Launch} {g : Geo} {sta : Nat → Nat} {k : KT} (K : AOK (wX l g sta) mX6_gainBy k) (h0 : HS) (a b c : Int32) (b0 : 0 ≤ b.toInt) (b1 : b.toInt ≤ 1000000) {N T Wn : Nat} (H0 : XW h0 N T Wn) (s : SML (vX h0) N T) :
    ∀ (n i : Nat) (h : HS), i ≤ N → N - i < n → XQ h0 h → LWX h (cX (gI (vX h0) N) (wI (vX h0) T) (kF b.toInt a i)) → AW (wX l g sta) (fun o h' => o = some (.int (gnV (vX h0) N T a b c)) ∧ LYK h0 h' N T) 4 mX6_gainBy k 13 [some (.ref (g.2.1 0)), some (.int a), some (.int b), some (.int c), some (.int (coV (vX h0) a i)), some (.int (nI i))] [] h := by
  intro n
  have hN := H0.1.2
  have hT := H0.2.1.2
  induction n with
  | zero => intro i h h1 h2; omega
  | succ n ih =>
    intro i h h1 h2 hx L
    have H := H0.q hx
    have f1 : h.1 16 i = h0.1 16 i := congrFun (hx.1 16 rfl) i
    refine aw_il5 K dX6_gainBy_13 ?_
    refine aw_al0 K dX6_gainBy_15 ?_
    refine aw_getR K gX6_12 dX6_gainBy_16 rfl rfl ?_
    refine aw_getI K gX6_161 dX6_gainBy_19 rfl rfl ?_
    rw [H.1.1]
    refine aw_icmp_ge (tgt := 67) K dX6_gainBy_22 (by decide) (fun b22 => ?_) (fun b22 => ?_)
    · have hge : N ≤ i := (nI_leI (a := N) (by omega) (by omega : i < 2 ^ 31)).mp b22
      obtain rfl : i = N := by omega
      refine aw_il3 K dX6_gainBy_67 ?_
      refine aw_al0 K dX6_gainBy_68 ?_
      refine aw_getR K gX6_40 dX6_gainBy_69 rfl rfl ?_
      refine aw_sipush (v := 4096) K dX6_gainBy_72 (by decide) ?_
      refine aw_callV K (moG l g sta _ a b.toInt b0 b1 h0 H0 s hx L) rfl (by decide) fX0_most lX6_193 dX6_gainBy_75 rfl clsX0 rfl (Nat.le_of_ble_eq_true rfl) (fun o h2 hq => ?_)
      obtain ⟨rfl, lk⟩ := hq
      refine (show AW _ _ _ _ _ _ _ (.int _ :: _) _ from ?_)
      refine aw_imul K dX6_gainBy_78 ?_
      refine aw_il4 K dX6_gainBy_79 ?_
      refine aw_isub K dX6_gainBy_81 ?_
      refine aw_iret K rfl dX6_gainBy_82 ?_
      exact ⟨rfl, lk⟩
    · have hlt : i < N := by
        rcases Nat.lt_or_ge i N with q | q
        · exact q
        · exact absurd (nI_le (a := N) q (by omega)) b22
      refine aw_il1 K dX6_gainBy_25 ?_
      refine aw_il5 K dX6_gainBy_26 ?_
      refine aw_callS_I K (tX6_hasBit l g sta _ _ _) rfl (by decide) fX6_hasBit lX6_162 dX6_gainBy_28 rfl (Nat.le_of_ble_eq_true rfl) ?_
      refine aw_if_eq (tgt := 61) K dX6_gainBy_31 (by decide) (fun b31 => ?_) (fun b31 => ?_)
      · have nb : ¬ (a >>> (nI i &&& 31)) &&& 1 = 1 := fun z => bI_0.mp b31 (by rw [z]; decide)
        refine aw_ii5 (v := _ + 1) K dX6_gainBy_61 rfl (by decide) rfl ?_
        refine aw_goto (tgt := 13) K dX6_gainBy_64 (by decide) ?_
        rw [nI_1]
        have z := ih (i + 1) h (by omega) (by omega) hx (by rw [nj_k (g := gI (vX h0) N) (W := wI (vX h0) T) nb]; exact L)
        rw [show coV (vX h0) a (i + 1) = coV (vX h0) a i from (congrArg (coV (vX h0) a i + ·) (if_neg nb)).trans (Int32.add_zero _)] at z
        exact z
      · have nb : (a >>> (nI i &&& 31)) &&& 1 = 1 := (hb1 (by omega)).mpr ((hb_i (by omega)).mp (bI_1.mp b31))
        refine aw_il4 K dX6_gainBy_34 ?_
        refine aw_al0 K dX6_gainBy_36 ?_
        refine aw_getR K gX6_12 dX6_gainBy_37 rfl rfl ?_
        refine aw_getR K gX6_143 dX6_gainBy_40 rfl rfl ?_
        refine aw_il5 K dX6_gainBy_43 ?_
        refine aw_iald K dX6_gainBy_45 rfl (vp_in_nI (by omega) (by decide)) ?_
        rw [nI_clamp (show i < 2 ^ 31 by omega), f1]
        refine aw_iadd K dX6_gainBy_46 ?_
        refine aw_is4 K dX6_gainBy_47 (by decide) rfl ?_
        refine aw_al0 K dX6_gainBy_49 ?_
        refine aw_getR K gX6_40 dX6_gainBy_50 rfl rfl ?_
        refine aw_il5 K dX6_gainBy_53 ?_
        refine aw_bipush (v := 12) K dX6_gainBy_55 (by decide) ?_
        refine aw_il2 K dX6_gainBy_57 ?_
        refine aw_callV K (joX l g sta _ i 12 (by omega) (by decide) h0 hx _ L (fun p q _ _ => by have := s.xb (k := kF b.toInt a i) hT (Nat.le_refl _) (Nat.le_refl _) (kF_b b0 b1 a i) p q; omega) b b0 b1) rfl (by decide) fX0_join lX6_338 dX6_gainBy_58 rfl clsX0 rfl (Nat.le_of_ble_eq_true rfl) (fun o h2 hq => ?_)
        obtain ⟨rfl, hx2, L2⟩ := hq
        refine aw_ii5 (v := _ + 1) K dX6_gainBy_61 rfl (by decide) rfl ?_
        refine aw_goto (tgt := 13) K dX6_gainBy_64 (by decide) ?_
        rw [nI_1]
        have z := ih (i + 1) _ (by omega) (by omega) hx2 (L2.c (fun p q hp hq => jo_k (by omega) nb p q hp hq))
        rw [show coV (vX h0) a (i + 1) = coV (vX h0) a i + h0.1 16 i from congrArg (coV (vX h0) a i + ·) (if_pos nb)] at z
        exact z
set_option maxHeartbeats 4000000 in
set_option maxRecDepth 100000 in
theorem eX6_gainBy (l : Launch) (g : Geo) (sta : Nat → Nat) (h : HS) (a b c : Int32) (b0 : 0 ≤ b.toInt) (b1 : b.toInt ≤ 1000000) (h0 : HS) {N T Wn : Nat} (H0 : XW h0 N T Wn) (s : SML (vX h0) N T) (lk : LYK h0 h N T) : CT (wX l g sta) 4 mX6_gainBy [.ref (g.2.1 0), .int a, .int b, .int c] h ((fun o h' => o = some (.int (gnV (vX h0) N T a b c)) ∧ LYK h0 h' N T)) := by
  refine CT.at [some (.ref (g.2.1 0)), some (.int a), some (.int b), some (.int c), none, none] 2 rfl (by decide) (Nat.le_of_ble_eq_true rfl) (fun k K => ?_)
  refine aw_iconst (v := 0) K dX6_gainBy_0 (by decide) ?_
  refine aw_is4 K dX6_gainBy_1 (by decide) rfl ?_
  obtain ⟨hq0, k0, hL0⟩ := lk
  refine aw_al0 K dX6_gainBy_3 ?_
  refine aw_getR K gX6_40 dX6_gainBy_4 rfl rfl ?_
  refine aw_callV K (paX l g sta _ h0 hq0 _ _ k0 hL0) rfl (by decide) fX0_partCheat lX6_354 dX6_gainBy_7 rfl clsX0 rfl (Nat.le_of_ble_eq_true rfl) (fun o h2 hq => ?_)
  obtain ⟨rfl, hx2, L2⟩ := hq
  refine aw_iconst (v := 0) K dX6_gainBy_10 (by decide) ?_
  refine aw_is5 K dX6_gainBy_11 (by decide) rfl ?_
  exact lrX6_gainBy K h0 a b c b0 b1 H0 s (N + 1) 0 _ (by omega) (by omega) hx2 (by rw [kF_0]; exact L2)

set_option maxHeartbeats 4000000 in
set_option maxRecDepth 100000 in
theorem lrX6_sellingNames {l : Launch} {g : Geo} {sta : Nat → Nat} {k : KT} (K : AOK (wX l g sta) mX6_sellingNames k) (h : HS) {N T Wn : Nat} (H : XW h N T Wn) :
    ∀ (n i : Nat), i + n = N → AW (wX l g sta) (DI (selV (vX h) N) h) 1 mX6_sellingNames k 4 [some (.ref (g.2.1 0)), some (.int (selV (vX h) i)), some (.int (nI i))] [] h := by
  intro n
  have h3 := H.1.2
  induction n with
  | zero =>
    intro i k1
    obtain rfl : i = N := by omega
    refine aw_il2 K dX6_sellingNames_4 ?_
    refine aw_al0 K dX6_sellingNames_5 ?_
    refine aw_getR K gX6_12 dX6_sellingNames_6 rfl rfl ?_
    refine aw_getI K gX6_161 dX6_sellingNames_9 rfl rfl ?_
    rw [H.1.1]
    refine aw_icmp_ge (tgt := 51) K dX6_sellingNames_12 (by decide) (fun b12 => ?_) (fun b12 => ?_)
    · refine aw_il1 K dX6_sellingNames_51 ?_
      refine aw_iret K rfl dX6_sellingNames_52 ?_
      exact ⟨rfl, rfl⟩
    · exact absurd (Int32.le_refl _) b12
  | succ n ih =>
    intro i k1
    refine aw_il2 K dX6_sellingNames_4 ?_
    refine aw_al0 K dX6_sellingNames_5 ?_
    refine aw_getR K gX6_12 dX6_sellingNames_6 rfl rfl ?_
    refine aw_getI K gX6_161 dX6_sellingNames_9 rfl rfl ?_
    rw [H.1.1]
    refine aw_icmp_ge (tgt := 51) K dX6_sellingNames_12 (by decide) (fun b12 => ?_) (fun b12 => ?_)
    · exact absurd b12 (nI_ge (by omega) (by omega))
    · refine aw_al0 K dX6_sellingNames_15 ?_
      refine aw_getR K gX6_12 dX6_sellingNames_16 rfl rfl ?_
      refine aw_getR K gX6_143 dX6_sellingNames_19 rfl rfl ?_
      refine aw_il2 K dX6_sellingNames_22 ?_
      refine aw_iald K dX6_sellingNames_23 rfl (vp_in_nI (by omega) (by decide)) ?_
      rw [nI_clamp (show i < 2 ^ 31 by omega)]
      refine aw_if_le (tgt := 45) K dX6_sellingNames_24 (by decide) (fun b24 => ?_) (fun b24 => ?_)
      · refine aw_ii2 (v := _ + 1) K dX6_sellingNames_45 rfl (by decide) rfl ?_
        refine aw_goto (tgt := 4) K dX6_sellingNames_48 (by decide) ?_
        rw [nI_1]
        have z := ih (i + 1) (by omega)
        rw [show selV (vX h) (i + 1) = selV (vX h) i from (congrArg (selV (vX h) i ||| ·) (if_neg (fun q => Int32.not_lt.mpr b24 q.1))).trans Int32.or_zero] at z
        exact z
      · refine aw_al0 K dX6_sellingNames_27 ?_
        refine aw_getR K gX6_12 dX6_sellingNames_28 rfl rfl ?_
        refine aw_getR K gX6_96 dX6_sellingNames_31 rfl rfl ?_
        refine aw_il2 K dX6_sellingNames_34 ?_
        refine aw_zald K dX6_sellingNames_35 rfl (vp_in_nI (by omega) (by decide)) ?_
        rw [nI_clamp (show i < 2 ^ 31 by omega)]
        refine aw_if_ne (tgt := 45) K dX6_sellingNames_36 (by decide) (fun b36 => ?_) (fun b36 => ?_)
        · refine aw_ii2 (v := _ + 1) K dX6_sellingNames_45 rfl (by decide) rfl ?_
          refine aw_goto (tgt := 4) K dX6_sellingNames_48 (by decide) ?_
          rw [nI_1]
          have z := ih (i + 1) (by omega)
          rw [show selV (vX h) (i + 1) = selV (vX h) i from (congrArg (selV (vX h) i ||| ·) (if_neg (fun q => b36 q.2))).trans Int32.or_zero] at z
          exact z
        · refine aw_il1 K dX6_sellingNames_39 ?_
          refine aw_iconst (v := 1) K dX6_sellingNames_40 (by decide) ?_
          refine aw_il2 K dX6_sellingNames_41 ?_
          refine aw_ishl K dX6_sellingNames_42 ?_
          refine aw_ior K dX6_sellingNames_43 ?_
          refine aw_is1 K dX6_sellingNames_44 (by decide) rfl ?_
          refine aw_ii2 (v := _ + 1) K dX6_sellingNames_45 rfl (by decide) rfl ?_
          refine aw_goto (tgt := 4) K dX6_sellingNames_48 (by decide) ?_
          rw [nI_1]
          have z := ih (i + 1) (by omega)
          rw [show selV (vX h) (i + 1) = selV (vX h) i ||| (1 : Int32) <<< (nI i &&& 31) from congrArg (selV (vX h) i ||| ·) (if_pos ⟨Int32.not_le.mp b24, b36⟩)] at z
          exact z
set_option maxHeartbeats 4000000 in
set_option maxRecDepth 100000 in
theorem eX6_sellingNames (l : Launch) (g : Geo) (sta : Nat → Nat) (h : HS) {N T Wn : Nat} (H : XW h N T Wn) : CT (wX l g sta) 1 mX6_sellingNames [.ref (g.2.1 0)] h (DI (selV (vX h) N) h) := by
  refine CT.at [some (.ref (g.2.1 0)), none, none] 2 rfl (by decide) (Nat.le_of_ble_eq_true rfl) (fun k K => ?_)
  refine aw_iconst (v := 0) K dX6_sellingNames_0 (by decide) ?_
  refine aw_is1 K dX6_sellingNames_1 (by decide) rfl ?_
  refine aw_iconst (v := 0) K dX6_sellingNames_2 (by decide) ?_
  refine aw_is2 K dX6_sellingNames_3 (by decide) rfl ?_
  exact lrX6_sellingNames K h H N 0 (by omega)

