theorem rg_b {b x : Int32} (hb : 1 ≤ b ∧ b ≤ 999) (hx : rg x (100 : Nat)) : 0 ≤ (b * x / 100).toInt ∧ (b * x / 100).toInt ≤ 1000000 := by
  have p := rg_div (D := 100) (d := 100) (rg_mul (rg_p (k := 999) (by decide) hb) hx (by decide)) (by decide) (by decide)
  exact ⟨p.1, Int.le_trans p.2 (by decide)⟩
theorem GNQ.v {h0 h' : HS} {a b c : Int32} {N T : Nat} {o : Option Value} (q : GNQ h0 a b c N T o h') : o = some (.int (gnV h0.1 N T a (b * h0.1 11 3 / 100) c)) ∧ FS h0 h' := by
  obtain ⟨q1, r, q2, R, mc⟩ := q
  refine ⟨?_, q1⟩
  rw [q2, gnV, of_tv (mc.tv).1]
noncomputable def gaV (v : Nat → Nat → Int32) (N T : Nat) (a b c : Int32) : Int32 := if (0 ≤ a ∧ a ≤ 1 <<< (v 0 0 &&& 31) - 1) ∧ ((1 ≤ b ∧ b ≤ 999) ∧ (0 ≤ c ∧ c ≤ 99)) ∧ a &&& (selV v N ^^^ -1) = 0 then gnV v N T a (b * v 11 3 / 100) c else -1000000
theorem selV_eq {hx hm : HS} (r : REL hx hm) (N : Nat) : selV hm.1 N = selV (vX hx) N := by
  unfold selV
  rw [r.r (16, 1) (by decide), r.r (18, 3) (by decide)]
  rfl
theorem coV_eq {hx hm : HS} (r : REL hx hm) (a : Int32) : ∀ i, coV hm.1 a i = coV (vX hx) a i
  | 0 => rfl
  | i + 1 => by
    unfold coV
    rw [coV_eq r a i, r.r (16, 1) (by decide)]
    rfl
theorem gnV_eq {hx hm : HS} (r : REL hx hm) (N T : Nat) (a b c : Int32) : gnV hm.1 N T a b c = gnV (vX hx) N T a b c := by
  unfold gnV
  rw [gI_eq r, wI_eq r, coV_eq r]
theorem gaV_eq {hx hm : HS} (r : REL hx hm) (N T : Nat) (a b c : Int32) : gaV (vX hx) N T a b c = gaV hm.1 N T a b c := by
  unfold gaV
  rw [gnV_eq r, selV_eq r, r.r (11, 11) (by decide), INV.b1 r]
  rfl
/-- the best of the first m heaps -/
noncomputable def beS (v : Nat → Nat → Int32) (N T : Nat) (b c : Int32) : Nat → Int32 × Int32
  | 0 => (0, 0)
  | m + 1 => if nI (m + 1) &&& (selV v N ^^^ -1) = 0 ∧ (beS v N T b c m).1 < gnV v N T (nI (m + 1)) b c then (gnV v N T (nI (m + 1)) b c, nI (m + 1)) else beS v N T b c m
theorem beS_nn (v : Nat → Nat → Int32) (N T : Nat) (b c : Int32) : ∀ m, 0 ≤ (beS v N T b c m).1
  | 0 => by show (0 : Int32) ≤ 0; decide
  | m + 1 => by
    unfold beS
    split
    · rename_i q
      exact Int32.le_trans (beS_nn v N T b c m) (Int32.le_of_lt q.2)
    · exact beS_nn v N T b c m
theorem beS_eq {hx hm : HS} (r : REL hx hm) (N T : Nat) (b c : Int32) : ∀ m, beS hm.1 N T b c m = beS (vX hx) N T b c m
  | 0 => rfl
  | m + 1 => by
    unfold beS
    rw [beS_eq r N T b c m, gnV_eq r, selV_eq r]
noncomputable def beV (v : Nat → Nat → Int32) (N T : Nat) (b c d : Int32) : Int32 := if ((1 ≤ b ∧ b ≤ 999) ∧ (0 ≤ c ∧ c ≤ 99)) ∧ (0 ≤ d ∧ d ≤ 1) then (if 8 < bitsV (selV v N) then -2 else if d = 0 then (beS v N T (b * v 11 3 / 100) c (2 ^ N - 1)).1 else (beS v N T (b * v 11 3 / 100) c (2 ^ N - 1)).2) else -1
theorem beV_eq {hx hm : HS} (r : REL hx hm) (N T : Nat) (b c d : Int32) : beV (vX hx) N T b c d = beV hm.1 N T b c d := by
  unfold beV
  rw [beS_eq r, selV_eq r, r.r (11, 11) (by decide)]
  rfl
theorem lo_bits {x : Int32} (hz : ∀ i, 12 ≤ i → i < 32 → bt x i = false) : ∃ v, v < 4096 ∧ x = nI v := by
  refine ⟨x.toBitVec.toNat, ?_, Int32.toBitVec_inj.mp (by show _ = BitVec.ofNat 32 _; simp)⟩
  apply Classical.byContradiction
  intro hn
  obtain ⟨i, h1, h2⟩ := Nat.exists_ge_and_testBit_of_ge_two_pow (show x.toBitVec.toNat ≥ 2 ^ 12 by omega)
  have h3 : i < 32 := by
    rcases Nat.lt_or_ge i 32 with q | q
    · exact q
    · rw [Nat.testBit_lt_two_pow (Nat.lt_of_lt_of_le x.toBitVec.isLt (Nat.pow_le_pow_right (by decide) q))] at h2
      exact absurd h2 (by decide)
  have h4 := hz i h1 h3
  unfold bt at h4
  rw [BitVec.getLsbD, h2] at h4
  exact absurd h4 (by decide)
theorem sel_bc (v : Nat → Nat → Int32) {N : Nat} (hN : N ≤ 12) : bcV (selV v N) = bitsV (selV v N) := by
  obtain ⟨x, h1, h2⟩ := lo_bits (x := selV v N) (fun i h1 h2 => by
    cases q : bt (selV v N) i
    · rfl
    · unfold selV at q
      rw [orU_b h2] at q
      obtain ⟨j, h3, h4⟩ := q
      split at h4
      · rw [b_sh1 (by omega) h2] at h4
        have := of_decide_eq_true h4
        omega
      · rw [b_0] at h4
        exact absurd h4 (by decide))
  rw [h2]
  exact bc_eq h1
set_option maxHeartbeats 4000000 in
set_option maxRecDepth 100000 in
theorem eX6_gain (l : Launch) (g : Geo) (sta : Nat → Nat) (h : HS) (a b c : Int32) {N T Wn : Nat} (H : XW h N T Wn) (s : SML (vX h) N T) (r3 : rg (vX h 11 3) (100 : Nat)) : CT (wX l g sta) 7 mX6_gain [.ref (g.2.1 0), .int a, .int b, .int c] h (fun o h' => o = some (.int (gaV (vX h) N T a b c)) ∧ XQ h h') := by
  refine CT.at [some (.ref (g.2.1 0)), some (.int a), some (.int b), some (.int c)] 0 rfl (by decide) (Nat.le_of_ble_eq_true rfl) (fun k K => ?_)
  refine aw_al0 K dX6_gain_0 ?_
  refine aw_il1 K dX6_gain_1 ?_
  refine aw_callV_I K (tX6_isHeap l g sta _ _) rfl (by decide) fX6_isHeap lX6_196 dX6_gain_2 rfl clsX6 rfl (Nat.le_of_ble_eq_true rfl) ?_
  refine aw_if_eq (tgt := 27) K dX6_gain_5 (by decide) (fun b5 => ?_) (fun b5 => ?_)
  · refine aw_ldcw K qX6_276 dX6_gain_27 ?_
    refine aw_iret K rfl dX6_gain_30 ?_
    exact ⟨congrArg some (congrArg Value.int (if_neg (fun q => bI_0.mp b5 q.1)).symm), H.s⟩
  · refine aw_il2 K dX6_gain_8 ?_
    refine aw_il3 K dX6_gain_9 ?_
    refine aw_callS_I K (tX6_isOffer l g sta _ _ _) rfl (by decide) fX6_isOffer lX6_270 dX6_gain_10 rfl (Nat.le_of_ble_eq_true rfl) ?_
    refine aw_if_eq (tgt := 27) K dX6_gain_13 (by decide) (fun b13 => ?_) (fun b13 => ?_)
    · refine aw_ldcw K qX6_276 dX6_gain_27 ?_
      refine aw_iret K rfl dX6_gain_30 ?_
      exact ⟨congrArg some (congrArg Value.int (if_neg (fun q => bI_0.mp b13 q.2.1)).symm), H.s⟩
    · refine aw_il1 K dX6_gain_16 ?_
      refine aw_al0 K dX6_gain_17 ?_
      refine aw_callV_I K (eX6_sellingNames l g sta _ H) rfl (by decide) fX6_sellingNames lX6_273 dX6_gain_18 rfl clsX6 rfl (Nat.le_of_ble_eq_true rfl) ?_
      refine aw_iconst (v := (-1)) K dX6_gain_21 (by decide) ?_
      refine aw_ixor K dX6_gain_22 ?_
      refine aw_iand K dX6_gain_23 ?_
      refine aw_if_eq (tgt := 31) K dX6_gain_24 (by decide) (fun b24 => ?_) (fun b24 => ?_)
      · have ok := And.intro (bI_1.mp b5) (And.intro (bI_1.mp b13) b24)
        refine aw_al0 K dX6_gain_31 ?_
        refine aw_callV K (laX l g sta _ H s) rfl (by decide) fX6_layFlow lX6_190 dX6_gain_32 rfl clsX6 rfl (Nat.le_of_ble_eq_true rfl) (fun o h2 hq => ?_)
        obtain ⟨rfl, ly⟩ := hq
        have ly : LY h h2 N T := ly
        refine aw_al0 K dX6_gain_35 ?_
        refine aw_il1 K dX6_gain_36 ?_
        refine aw_al0 K dX6_gain_37 ?_
        refine aw_il2 K dX6_gain_38 ?_
        refine aw_callV_I K (tX6_boughtRoom l g sta _ _) rfl (by decide) fX6_boughtRoom lX6_277 dX6_gain_39 rfl clsX6 rfl (Nat.le_of_ble_eq_true rfl) ?_
        rw [ly.1.1 11 rfl]
        refine aw_il3 K dX6_gain_42 ?_
        refine aw_callV K (eX6_gainBy l g sta _ _ _ _ (rg_b ok.2.1.1 r3).1 (rg_b ok.2.1.1 r3).2 h H s ⟨ly.1, _, ly.2⟩) rfl (by decide) fX6_gainBy lX6_280 dX6_gain_43 rfl clsX6 rfl (Nat.le_of_ble_eq_true rfl) (fun o h2 hq => ?_)
        obtain ⟨rfl, lk⟩ := hq
        refine (show AW _ _ _ _ _ _ _ (.int _ :: _) _ from ?_)
        refine aw_iret K rfl dX6_gain_46 ?_
        exact ⟨congrArg some (congrArg Value.int (if_pos ok).symm), lk.1⟩
      · refine aw_ldcw K qX6_276 dX6_gain_27 ?_
        refine aw_iret K rfl dX6_gain_30 ?_
        exact ⟨congrArg some (congrArg Value.int (if_neg (fun q => b24 q.2.2)).symm), H.s⟩

set_option maxHeartbeats 4000000 in
set_option maxRecDepth 100000 in
theorem eX7_gain (l : Launch) (g : Geo) (sta : Nat → Nat) (h : HS) (a b c : Int32) {N T Wn : Nat} (H : MW h N T Wn) (s : SML h.1 N T) (r3 : rg (h.1 11 3) (100 : Nat)) : CT (wM l g sta) 7 mX7_gain [.ref (g.2.1 0), .int a, .int b, .int c] h (fun o h' => o = some (.int (gaV h.1 N T a b c)) ∧ MS h h') := by
  refine CT.at [some (.ref (g.2.1 0)), some (.int a), some (.int b), some (.int c)] 0 rfl (by decide) (Nat.le_of_ble_eq_true rfl) (fun k K => ?_)
  refine aw_al0 K dX7_gain_0 ?_
  refine aw_il1 K dX7_gain_1 ?_
  refine aw_callV_I K (tX7_areNames l g sta _ _) rfl (by decide) fX7_areNames lX7_223 dX7_gain_2 rfl clsX7 rfl (Nat.le_of_ble_eq_true rfl) ?_
  refine aw_if_eq (tgt := 43) K dX7_gain_5 (by decide) (fun b5 => ?_) (fun b5 => ?_)
  · refine aw_ldcw K qX7_320 dX7_gain_43 ?_
    refine aw_iret K rfl dX7_gain_46 ?_
    exact ⟨congrArg some (congrArg Value.int (if_neg (fun q => bI_0.mp b5 q.1)).symm), MS.rf⟩
  · refine aw_il1 K dX7_gain_8 ?_
    refine aw_al0 K dX7_gain_9 ?_
    refine aw_callV_I K (tX7_sellers l g sta _ H) rfl (by decide) fX7_sellers lX7_317 dX7_gain_10 rfl clsX7 rfl (Nat.le_of_ble_eq_true rfl) ?_
    refine aw_iconst (v := (-1)) K dX7_gain_13 (by decide) ?_
    refine aw_ixor K dX7_gain_14 ?_
    refine aw_iand K dX7_gain_15 ?_
    refine aw_if_ne (tgt := 43) K dX7_gain_16 (by decide) (fun b16 => ?_) (fun b16 => ?_)
    · refine aw_ldcw K qX7_320 dX7_gain_43 ?_
      refine aw_iret K rfl dX7_gain_46 ?_
      exact ⟨congrArg some (congrArg Value.int (if_neg (fun q => b16 q.2.2)).symm), MS.rf⟩
    · refine aw_il2 K dX7_gain_19 ?_
      refine aw_i2l K dX7_gain_20 ?_
      refine aw_lconst (v := 1) K dX7_gain_21 (by decide) ?_
      refine aw_ldc2 K qX7_109 dX7_gain_22 ?_
      refine aw_callS_I K (in32 l g sta _ _ (1) (999) (by decide) (by decide)) rfl (by decide) fX7_in lX7_102 dX7_gain_25 rfl (Nat.le_of_ble_eq_true rfl) ?_
      refine aw_if_eq (tgt := 43) K dX7_gain_28 (by decide) (fun b28 => ?_) (fun b28 => ?_)
      · refine aw_ldcw K qX7_320 dX7_gain_43 ?_
        refine aw_iret K rfl dX7_gain_46 ?_
        exact ⟨congrArg some (congrArg Value.int (if_neg (fun q => bI_0.mp b28 q.2.1.1)).symm), MS.rf⟩
      · refine aw_il3 K dX7_gain_31 ?_
        refine aw_i2l K dX7_gain_32 ?_
        refine aw_lconst (v := 0) K dX7_gain_33 (by decide) ?_
        refine aw_ldc2 K qX7_231 dX7_gain_34 ?_
        refine aw_callS_I K (in32 l g sta _ _ (0) (99) (by decide) (by decide)) rfl (by decide) fX7_in lX7_102 dX7_gain_37 rfl (Nat.le_of_ble_eq_true rfl) ?_
        refine aw_if_ne (tgt := 47) K dX7_gain_40 (by decide) (fun b40 => ?_) (fun b40 => ?_)
        · have ok := And.intro (bI_1.mp b5) (And.intro (And.intro (bI_1.mp b28) (bI_1.mp b40)) b16)
          refine aw_al0 K dX7_gain_47 ?_
          refine aw_il1 K dX7_gain_48 ?_
          refine aw_il2 K dX7_gain_49 ?_
          refine aw_il3 K dX7_gain_50 ?_
          refine aw_callV K (gnX l g sta _ _ _ _ h H s (rg_b ok.2.1.1 r3).1 (rg_b ok.2.1.1 r3).2 FS.rf) rfl (by decide) fX7_gainOf lX7_321 dX7_gain_51 rfl clsX7 rfl (Nat.le_of_ble_eq_true rfl) (fun o h2 hq => ?_)
          obtain ⟨rfl, hx⟩ := hq.v
          refine (show AW _ _ _ _ _ _ _ (.int _ :: _) _ from ?_)
          refine aw_iret K rfl dX7_gain_54 ?_
          exact ⟨congrArg some (congrArg Value.int (if_pos ok).symm), hx.ms⟩
        · refine aw_ldcw K qX7_320 dX7_gain_43 ?_
          refine aw_iret K rfl dX7_gain_46 ?_
          exact ⟨congrArg some (congrArg Value.int (if_neg (fun q => bI_0.mp b40 q.2.1.2)).symm), MS.rf⟩

set_option maxHeartbeats 4000000 in
set_option maxRecDepth 100000 in
theorem lrX6_best {l : Launch} {g : Geo} {sta : Nat → Nat} {k : KT} (K : AOK (wX l g sta) mX6_best k) (h0 : HS) (b c d ro : Int32) (r0 : 0 ≤ ro.toInt) (r1 : ro.toInt ≤ 1000000) {N T Wn : Nat} (H0 : XW h0 N T Wn) (s : SML (vX h0) N T) (ev : beV (vX h0) N T b c d = if d = 0 then (beS (vX h0) N T ro c (2 ^ N - 1)).1 else (beS (vX h0) N T ro c (2 ^ N - 1)).2) :
    ∀ (n m : Nat) (h : HS), m + 1 + n = 2 ^ N → LYK h0 h N T → AW (wX l g sta) (fun o h' => o = some (.int (beV (vX h0) N T b c d)) ∧ XQ h0 h') 7 mX6_best k 58 [some (.ref (g.2.1 0)), some (.int b), some (.int c), some (.int d), some (.int (selV (vX h0) N)), some (.int ro), some (.int (beS (vX h0) N T ro c m).1), some (.int (beS (vX h0) N T ro c m).2), some (.int (nI (m + 1))), none] [] h := by
  intro n
  have hN := p2N H0.1.2
  induction n with
  | zero =>
    intro m h k1 lk
    have H := H0.q lk.1
    have em : 2 ^ N - 1 = m := by omega
    rw [em] at ev
    refine aw_il8 K dX6_best_58 ?_
    refine aw_iconst (v := 1) K dX6_best_60 (by decide) ?_
    refine aw_al0 K dX6_best_61 ?_
    refine aw_getR K gX6_12 dX6_best_62 rfl rfl ?_
    refine aw_getI K gX6_161 dX6_best_65 rfl rfl ?_
    refine aw_ishl K dX6_best_68 ?_
    rw [shN H.1.1 H.1.2]
    refine aw_icmp_ge (tgt := 118) K dX6_best_69 (by decide) (fun b69 => ?_) (fun b69 => ?_)
    · refine aw_il3 K dX6_best_118 ?_
      refine aw_if_ne (tgt := 127) K dX6_best_119 (by decide) (fun b119 => ?_) (fun b119 => ?_)
      · refine aw_il7 K dX6_best_127 ?_
        refine aw_iret K rfl dX6_best_129 ?_
        exact ⟨congrArg some (congrArg Value.int (ev.trans (if_neg b119)).symm), lk.1⟩
      · refine aw_il6 K dX6_best_122 ?_
        refine aw_goto (tgt := 129) K dX6_best_124 (by decide) ?_
        refine aw_iret K rfl dX6_best_129 ?_
        exact ⟨congrArg some (congrArg Value.int (ev.trans (if_pos b119)).symm), lk.1⟩
    · exact absurd (nI_le (a := 2 ^ N) (by omega) (by omega)) b69
  | succ n ih =>
    intro m h k1 lk
    have H := H0.q lk.1
    refine aw_il8 K dX6_best_58 ?_
    refine aw_iconst (v := 1) K dX6_best_60 (by decide) ?_
    refine aw_al0 K dX6_best_61 ?_
    refine aw_getR K gX6_12 dX6_best_62 rfl rfl ?_
    refine aw_getI K gX6_161 dX6_best_65 rfl rfl ?_
    refine aw_ishl K dX6_best_68 ?_
    rw [shN H.1.1 H.1.2]
    refine aw_icmp_ge (tgt := 118) K dX6_best_69 (by decide) (fun b69 => ?_) (fun b69 => ?_)
    · exact absurd b69 (nI_ge (by omega) (by omega))
    · refine aw_il8 K dX6_best_72 ?_
      refine aw_il4 K dX6_best_74 ?_
      refine aw_iconst (v := (-1)) K dX6_best_76 (by decide) ?_
      refine aw_ixor K dX6_best_77 ?_
      refine aw_iand K dX6_best_78 ?_
      refine aw_if_ne (tgt := 94) K dX6_best_79 (by decide) (fun b79 => ?_) (fun b79 => ?_)
      · refine aw_iconst (v := 0) K dX6_best_94 (by decide) ?_
        refine aw_is9 K dX6_best_95 (by decide) rfl ?_
        refine aw_il9 K dX6_best_97 ?_
        refine aw_il6 K dX6_best_99 ?_
        refine aw_icmp_le (tgt := 112) K dX6_best_101 (by decide) (fun b101 => ?_) (fun b101 => ?_)
        · refine aw_ii8 (v := _ + 1) K dX6_best_112 rfl (by decide) rfl ?_
          refine aw_goto (tgt := 58) K dX6_best_115 (by decide) ?_
          rw [nI_1]
          refine aw_sub [some (.ref (g.2.1 0)), some (.int b), some (.int c), some (.int d), some (.int _), some (.int _), some (.int _), some (.int _), some (.int _), none] ⟨rfl, rfl, rfl, rfl, rfl, rfl, rfl, rfl, rfl, trivial⟩ ?_
          have z := ih (m + 1) h (by omega) lk
          rw [show beS (vX h0) N T ro c (m + 1) = _ from if_neg (fun q => b79 q.1)] at z
          exact z
        · exact absurd (beS_nn _ _ _ _ _ _) b101
      · refine aw_al0 K dX6_best_82 ?_
        refine aw_il8 K dX6_best_83 ?_
        refine aw_il5 K dX6_best_85 ?_
        refine aw_il2 K dX6_best_87 ?_
        refine aw_callV K (eX6_gainBy l g sta _ _ _ _ r0 r1 h0 H0 s lk) rfl (by decide) fX6_gainBy lX6_280 dX6_best_88 rfl clsX6 rfl (Nat.le_of_ble_eq_true rfl) (fun o h2 hq => ?_)
        obtain ⟨rfl, lk2⟩ := hq
        refine (show AW _ _ _ _ _ _ _ (.int _ :: _) _ from ?_)
        refine aw_goto (tgt := 95) K dX6_best_91 (by decide) ?_
        refine aw_is9 K dX6_best_95 (by decide) rfl ?_
        refine aw_il9 K dX6_best_97 ?_
        refine aw_il6 K dX6_best_99 ?_
        refine aw_icmp_le (tgt := 112) K dX6_best_101 (by decide) (fun b101 => ?_) (fun b101 => ?_)
        · refine aw_ii8 (v := _ + 1) K dX6_best_112 rfl (by decide) rfl ?_
          refine aw_goto (tgt := 58) K dX6_best_115 (by decide) ?_
          rw [nI_1]
          refine aw_sub [some (.ref (g.2.1 0)), some (.int b), some (.int c), some (.int d), some (.int _), some (.int _), some (.int _), some (.int _), some (.int _), none] ⟨rfl, rfl, rfl, rfl, rfl, rfl, rfl, rfl, rfl, trivial⟩ ?_
          have z := ih (m + 1) _ (by omega) lk2
          rw [show beS (vX h0) N T ro c (m + 1) = _ from if_neg (fun q => Int32.not_lt.mpr b101 q.2)] at z
          exact z
        · refine aw_il9 K dX6_best_104 ?_
          refine aw_is6 K dX6_best_106 (by decide) rfl ?_
          refine aw_il8 K dX6_best_108 ?_
          refine aw_is7 K dX6_best_110 (by decide) rfl ?_
          refine aw_ii8 (v := _ + 1) K dX6_best_112 rfl (by decide) rfl ?_
          refine aw_goto (tgt := 58) K dX6_best_115 (by decide) ?_
          rw [nI_1]
          refine aw_sub [some (.ref (g.2.1 0)), some (.int b), some (.int c), some (.int d), some (.int _), some (.int _), some (.int _), some (.int _), some (.int _), none] ⟨rfl, rfl, rfl, rfl, rfl, rfl, rfl, rfl, rfl, trivial⟩ ?_
          have z := ih (m + 1) _ (by omega) lk2
          rw [show beS (vX h0) N T ro c (m + 1) = _ from if_pos ⟨b79, Int32.not_le.mp b101⟩] at z
          exact z
set_option maxHeartbeats 4000000 in
set_option maxRecDepth 100000 in
theorem eX6_best (l : Launch) (g : Geo) (sta : Nat → Nat) (h : HS) (b c d : Int32) {N T Wn : Nat} (H : XW h N T Wn) (s : SML (vX h) N T) (r3 : rg (vX h 11 3) (100 : Nat)) : CT (wX l g sta) 7 mX6_best [.ref (g.2.1 0), .int b, .int c, .int d] h (fun o h' => o = some (.int (beV (vX h) N T b c d)) ∧ XQ h h') := by
  refine CT.at [some (.ref (g.2.1 0)), some (.int b), some (.int c), some (.int d), none, none, none, none, none, none] 6 rfl (by decide) (Nat.le_of_ble_eq_true rfl) (fun k K => ?_)
  refine aw_il1 K dX6_best_0 ?_
  refine aw_il2 K dX6_best_1 ?_
  refine aw_callS_I K (tX6_isOffer l g sta _ _ _) rfl (by decide) fX6_isOffer lX6_270 dX6_best_2 rfl (Nat.le_of_ble_eq_true rfl) ?_
  refine aw_if_eq (tgt := 17) K dX6_best_5 (by decide) (fun b5 => ?_) (fun b5 => ?_)
  · refine aw_iconst (v := (-1)) K dX6_best_17 (by decide) ?_
    refine aw_iret K rfl dX6_best_18 ?_
    exact ⟨congrArg some (congrArg Value.int (if_neg (fun q => bI_0.mp b5 q.1)).symm), H.s⟩
  · refine aw_il3 K dX6_best_8 ?_
    refine aw_iconst (v := 0) K dX6_best_9 (by decide) ?_
    refine aw_iconst (v := 1) K dX6_best_10 (by decide) ?_
    refine aw_callS_I K (tX6_within l g sta _ _ _ _) rfl (by decide) fX6_within lX6_76 dX6_best_11 rfl (Nat.le_of_ble_eq_true rfl) ?_
    refine aw_if_ne (tgt := 19) K dX6_best_14 (by decide) (fun b14 => ?_) (fun b14 => ?_)
    · refine aw_al0 K dX6_best_19 ?_
      have ok := And.intro (bI_1.mp b5) (bI_1.mp b14)
      refine aw_callV_I K (eX6_sellingNames l g sta _ H) rfl (by decide) fX6_sellingNames lX6_273 dX6_best_20 rfl clsX6 rfl (Nat.le_of_ble_eq_true rfl) ?_
      refine aw_is4 K dX6_best_23 (by decide) rfl ?_
      refine aw_il4 K dX6_best_25 ?_
      refine aw_callS_I K (tJ6b l g sta _ _) rfl (by decide) fJ6_bitCount_0f7a4 lX6_171 dX6_best_27 rfl (Nat.le_of_ble_eq_true rfl) ?_
      rw [sel_bc (vX h) H.1.2]
      refine aw_bipush (v := 8) K dX6_best_30 (by decide) ?_
      refine aw_icmp_le (tgt := 38) K dX6_best_32 (by decide) (fun b32 => ?_) (fun b32 => ?_)
      · refine aw_al0 K dX6_best_38 ?_
        refine aw_callV K (laX l g sta _ H s) rfl (by decide) fX6_layFlow lX6_190 dX6_best_39 rfl clsX6 rfl (Nat.le_of_ble_eq_true rfl) (fun o h2 hq => ?_)
        obtain ⟨rfl, ly⟩ := hq
        have ly : LY h h2 N T := ly
        refine aw_al0 K dX6_best_42 ?_
        refine aw_il1 K dX6_best_43 ?_
        refine aw_callV_I K (tX6_boughtRoom l g sta _ _) rfl (by decide) fX6_boughtRoom lX6_277 dX6_best_44 rfl clsX6 rfl (Nat.le_of_ble_eq_true rfl) ?_
        rw [ly.1.1 11 rfl]
        refine aw_is5 K dX6_best_47 (by decide) rfl ?_
        refine aw_iconst (v := 0) K dX6_best_49 (by decide) ?_
        refine aw_is6 K dX6_best_50 (by decide) rfl ?_
        refine aw_iconst (v := 0) K dX6_best_52 (by decide) ?_
        refine aw_is7 K dX6_best_53 (by decide) rfl ?_
        refine aw_iconst (v := 1) K dX6_best_55 (by decide) ?_
        refine aw_is8 K dX6_best_56 (by decide) rfl ?_
        have h2N : 1 ≤ 2 ^ N := Nat.one_le_two_pow
        exact lrX6_best K h b c d _ (rg_b ok.1.1 r3).1 (rg_b ok.1.1 r3).2 H s ((if_pos ok).trans (if_neg (Int32.not_lt.mpr b32))) (2 ^ N - 1) 0 _ (by omega) ⟨ly.1, _, ly.2⟩
      · refine aw_bipush (v := (-2)) K dX6_best_35 (by decide) ?_
        refine aw_iret K rfl dX6_best_37 ?_
        exact ⟨congrArg some (congrArg Value.int ((if_pos ok).trans (if_pos (Int32.not_le.mp b32))).symm), H.s⟩
    · refine aw_iconst (v := (-1)) K dX6_best_17 (by decide) ?_
      refine aw_iret K rfl dX6_best_18 ?_
      exact ⟨congrArg some (congrArg Value.int (if_neg (fun q => bI_0.mp b14 q.2)).symm), H.s⟩

set_option maxHeartbeats 4000000 in
set_option maxRecDepth 100000 in
theorem lrX7_best {l : Launch} {g : Geo} {sta : Nat → Nat} {k : KT} (K : AOK (wM l g sta) mX7_best k) (h0 : HS) (b c d : Int32) (r0 : 0 ≤ (b * h0.1 11 3 / 100).toInt) (r1 : (b * h0.1 11 3 / 100).toInt ≤ 1000000) {N T Wn : Nat} (H0 : MW h0 N T Wn) (s : SML h0.1 N T) (ev : beV h0.1 N T b c d = if d = 0 then (beS h0.1 N T (b * h0.1 11 3 / 100) c (2 ^ N - 1)).1 else (beS h0.1 N T (b * h0.1 11 3 / 100) c (2 ^ N - 1)).2) :
    ∀ (n m : Nat) (h : HS), m + 1 + n = 2 ^ N → FS h0 h → AW (wM l g sta) (fun o h' => o = some (.int (beV h0.1 N T b c d)) ∧ MS h0 h') 7 mX7_best k 64 [some (.ref (g.2.1 0)), some (.int b), some (.int c), some (.int d), some (.int (selV h0.1 N)), some (.int (beS h0.1 N T (b * h0.1 11 3 / 100) c m).2), some (.int (beS h0.1 N T (b * h0.1 11 3 / 100) c m).1), some (.int (nI (m + 1))), none] [] h := by
  intro n
  have hN := p2N H0.1.2
  induction n with
  | zero =>
    intro m h k1 hx
    have H := H0.f hx
    have em : 2 ^ N - 1 = m := by omega
    rw [em] at ev
    refine aw_il7 K dX7_best_64 ?_
    refine aw_iconst (v := 1) K dX7_best_66 (by decide) ?_
    refine aw_al0 K dX7_best_67 ?_
    refine aw_getI K gX7_98 dX7_best_68 rfl rfl ?_
    refine aw_ishl K dX7_best_71 ?_
    rw [shN H.1.1 H.1.2]
    refine aw_icmp_ge (tgt := 133) K dX7_best_72 (by decide) (fun b72 => ?_) (fun b72 => ?_)
    · refine aw_il3 K dX7_best_133 ?_
      refine aw_if_ne (tgt := 142) K dX7_best_134 (by decide) (fun b134 => ?_) (fun b134 => ?_)
      · refine aw_il5 K dX7_best_142 ?_
        refine aw_iret K rfl dX7_best_144 ?_
        exact ⟨congrArg some (congrArg Value.int (ev.trans (if_neg b134)).symm), hx.ms⟩
      · refine aw_il6 K dX7_best_137 ?_
        refine aw_goto (tgt := 144) K dX7_best_139 (by decide) ?_
        refine aw_iret K rfl dX7_best_144 ?_
        exact ⟨congrArg some (congrArg Value.int (ev.trans (if_pos b134)).symm), hx.ms⟩
    · exact absurd (nI_le (a := 2 ^ N) (by omega) (by omega)) b72
  | succ n ih =>
    intro m h k1 hx
    have H := H0.f hx
    refine aw_il7 K dX7_best_64 ?_
    refine aw_iconst (v := 1) K dX7_best_66 (by decide) ?_
    refine aw_al0 K dX7_best_67 ?_
    refine aw_getI K gX7_98 dX7_best_68 rfl rfl ?_
    refine aw_ishl K dX7_best_71 ?_
    rw [shN H.1.1 H.1.2]
    refine aw_icmp_ge (tgt := 133) K dX7_best_72 (by decide) (fun b72 => ?_) (fun b72 => ?_)
    · exact absurd b72 (nI_ge (by omega) (by omega))
    · refine aw_il7 K dX7_best_75 ?_
      refine aw_il4 K dX7_best_77 ?_
      refine aw_iconst (v := (-1)) K dX7_best_79 (by decide) ?_
      refine aw_ixor K dX7_best_80 ?_
      refine aw_iand K dX7_best_81 ?_
      refine aw_if_ne (tgt := 127) K dX7_best_82 (by decide) (fun b82 => ?_) (fun b82 => ?_)
      · refine aw_ii7 (v := _ + 1) K dX7_best_127 rfl (by decide) rfl ?_
        refine aw_goto (tgt := 64) K dX7_best_130 (by decide) ?_
        rw [nI_1]
        refine aw_sub [some (.ref (g.2.1 0)), some (.int b), some (.int c), some (.int d), some (.int _), some (.int _), some (.int _), some (.int _), none] ⟨rfl, rfl, rfl, rfl, rfl, rfl, rfl, rfl, trivial⟩ ?_
        have z := ih (m + 1) h (by omega) hx
        rw [show beS h0.1 N T (b * h0.1 11 3 / 100) c (m + 1) = _ from if_neg (fun q => b82 q.1)] at z
        exact z
      · refine aw_al0 K dX7_best_85 ?_
        refine aw_il7 K dX7_best_86 ?_
        refine aw_il1 K dX7_best_88 ?_
        refine aw_il2 K dX7_best_89 ?_
        refine aw_callV K (gnX l g sta _ _ _ _ h0 H0 s r0 r1 hx) rfl (by decide) fX7_gainOf lX7_321 dX7_best_90 rfl clsX7 rfl (Nat.le_of_ble_eq_true rfl) (fun o h2 hq => ?_)
        obtain ⟨rfl, hx2⟩ := hq.v
        refine (show AW _ _ _ _ _ _ _ (.int _ :: _) _ from ?_)
        refine aw_is8 K dX7_best_93 (by decide) rfl ?_
        refine aw_il8 K dX7_best_95 ?_
        refine aw_il6 K dX7_best_97 ?_
        refine aw_icmp_le (tgt := 107) K dX7_best_99 (by decide) (fun b99 => ?_) (fun b99 => ?_)
        · refine aw_il5 K dX7_best_107 ?_
          refine aw_is5 K dX7_best_109 (by decide) rfl ?_
          refine aw_il8 K dX7_best_111 ?_
          refine aw_il6 K dX7_best_113 ?_
          refine aw_icmp_le (tgt := 123) K dX7_best_115 (by decide) (fun b115 => ?_) (fun b115 => ?_)
          · refine aw_il6 K dX7_best_123 ?_
            refine aw_is6 K dX7_best_125 (by decide) rfl ?_
            refine aw_ii7 (v := _ + 1) K dX7_best_127 rfl (by decide) rfl ?_
            refine aw_goto (tgt := 64) K dX7_best_130 (by decide) ?_
            rw [nI_1]
            refine aw_sub [some (.ref (g.2.1 0)), some (.int b), some (.int c), some (.int d), some (.int _), some (.int _), some (.int _), some (.int _), none] ⟨rfl, rfl, rfl, rfl, rfl, rfl, rfl, rfl, trivial⟩ ?_
            have z := ih (m + 1) _ (by omega) hx2
            rw [show beS h0.1 N T (b * h0.1 11 3 / 100) c (m + 1) = _ from if_neg (fun q => Int32.not_lt.mpr b99 q.2)] at z
            exact z
          · exact absurd b99 b115
        · refine aw_il7 K dX7_best_102 ?_
          refine aw_goto (tgt := 109) K dX7_best_104 (by decide) ?_
          refine aw_is5 K dX7_best_109 (by decide) rfl ?_
          refine aw_il8 K dX7_best_111 ?_
          refine aw_il6 K dX7_best_113 ?_
          refine aw_icmp_le (tgt := 123) K dX7_best_115 (by decide) (fun b115 => ?_) (fun b115 => ?_)
          · exact absurd b115 b99
          · refine aw_il8 K dX7_best_118 ?_
            refine aw_goto (tgt := 125) K dX7_best_120 (by decide) ?_
            refine aw_is6 K dX7_best_125 (by decide) rfl ?_
            refine aw_ii7 (v := _ + 1) K dX7_best_127 rfl (by decide) rfl ?_
            refine aw_goto (tgt := 64) K dX7_best_130 (by decide) ?_
            rw [nI_1]
            refine aw_sub [some (.ref (g.2.1 0)), some (.int b), some (.int c), some (.int d), some (.int _), some (.int _), some (.int _), some (.int _), none] ⟨rfl, rfl, rfl, rfl, rfl, rfl, rfl, rfl, trivial⟩ ?_
            have z := ih (m + 1) _ (by omega) hx2
            rw [show beS h0.1 N T (b * h0.1 11 3 / 100) c (m + 1) = _ from if_pos ⟨b82, Int32.not_le.mp b99⟩] at z
            exact z
set_option maxHeartbeats 4000000 in
set_option maxRecDepth 100000 in
theorem eX7_best (l : Launch) (g : Geo) (sta : Nat → Nat) (h : HS) (b c d : Int32) {N T Wn : Nat} (H : MW h N T Wn) (s : SML h.1 N T) (r3 : rg (h.1 11 3) (100 : Nat)) : CT (wM l g sta) 7 mX7_best [.ref (g.2.1 0), .int b, .int c, .int d] h (fun o h' => o = some (.int (beV h.1 N T b c d)) ∧ MS h h') := by
  refine CT.at [some (.ref (g.2.1 0)), some (.int b), some (.int c), some (.int d), none, none, none, none, none] 5 rfl (by decide) (Nat.le_of_ble_eq_true rfl) (fun k K => ?_)
  refine aw_il1 K dX7_best_0 ?_
  refine aw_i2l K dX7_best_1 ?_
  refine aw_lconst (v := 1) K dX7_best_2 (by decide) ?_
  refine aw_ldc2 K qX7_109 dX7_best_3 ?_
  refine aw_callS_I K (in32 l g sta _ _ (1) (999) (by decide) (by decide)) rfl (by decide) fX7_in lX7_102 dX7_best_6 rfl (Nat.le_of_ble_eq_true rfl) ?_
  refine aw_if_eq (tgt := 34) K dX7_best_9 (by decide) (fun b9 => ?_) (fun b9 => ?_)
  · refine aw_iconst (v := (-1)) K dX7_best_34 (by decide) ?_
    refine aw_iret K rfl dX7_best_35 ?_
    exact ⟨congrArg some (congrArg Value.int (if_neg (fun q => bI_0.mp b9 q.1.1)).symm), MS.rf⟩
  · refine aw_il2 K dX7_best_12 ?_
    refine aw_i2l K dX7_best_13 ?_
    refine aw_lconst (v := 0) K dX7_best_14 (by decide) ?_
    refine aw_ldc2 K qX7_231 dX7_best_15 ?_
    refine aw_callS_I K (in32 l g sta _ _ (0) (99) (by decide) (by decide)) rfl (by decide) fX7_in lX7_102 dX7_best_18 rfl (Nat.le_of_ble_eq_true rfl) ?_
    refine aw_if_eq (tgt := 34) K dX7_best_21 (by decide) (fun b21 => ?_) (fun b21 => ?_)
    · refine aw_iconst (v := (-1)) K dX7_best_34 (by decide) ?_
      refine aw_iret K rfl dX7_best_35 ?_
      exact ⟨congrArg some (congrArg Value.int (if_neg (fun q => bI_0.mp b21 q.1.2)).symm), MS.rf⟩
    · refine aw_il3 K dX7_best_24 ?_
      refine aw_i2l K dX7_best_25 ?_
      refine aw_lconst (v := 0) K dX7_best_26 (by decide) ?_
      refine aw_lconst (v := 1) K dX7_best_27 (by decide) ?_
      refine aw_callS_I K (in32 l g sta _ _ (0) (1) (by decide) (by decide)) rfl (by decide) fX7_in lX7_102 dX7_best_28 rfl (Nat.le_of_ble_eq_true rfl) ?_
      refine aw_if_ne (tgt := 36) K dX7_best_31 (by decide) (fun b31 => ?_) (fun b31 => ?_)
      · refine aw_al0 K dX7_best_36 ?_
        have ok := And.intro (And.intro (bI_1.mp b9) (bI_1.mp b21)) (bI_1.mp b31)
        refine aw_callV_I K (tX7_sellers l g sta _ H) rfl (by decide) fX7_sellers lX7_317 dX7_best_37 rfl clsX7 rfl (Nat.le_of_ble_eq_true rfl) ?_
        refine aw_is4 K dX7_best_40 (by decide) rfl ?_
        refine aw_il4 K dX7_best_42 ?_
        refine aw_callS_I K (tX7_bits l g sta _ _) rfl (by decide) fX7_bits lX7_144 dX7_best_44 rfl (Nat.le_of_ble_eq_true rfl) ?_
        refine aw_bipush (v := 8) K dX7_best_47 (by decide) ?_
        refine aw_icmp_le (tgt := 55) K dX7_best_49 (by decide) (fun b49 => ?_) (fun b49 => ?_)
        · refine aw_iconst (v := 0) K dX7_best_55 (by decide) ?_
          refine aw_is5 K dX7_best_56 (by decide) rfl ?_
          refine aw_iconst (v := 0) K dX7_best_58 (by decide) ?_
          refine aw_is6 K dX7_best_59 (by decide) rfl ?_
          refine aw_iconst (v := 1) K dX7_best_61 (by decide) ?_
          refine aw_is7 K dX7_best_62 (by decide) rfl ?_
          have h2N : 1 ≤ 2 ^ N := Nat.one_le_two_pow
          exact lrX7_best K h b c d (rg_b ok.1.1 r3).1 (rg_b ok.1.1 r3).2 H s ((if_pos ok).trans (if_neg (Int32.not_lt.mpr b49))) (2 ^ N - 1) 0 h (by omega) FS.rf
        · refine aw_bipush (v := (-2)) K dX7_best_52 (by decide) ?_
          refine aw_iret K rfl dX7_best_54 ?_
          exact ⟨congrArg some (congrArg Value.int ((if_pos ok).trans (if_pos (Int32.not_le.mp b49))).symm), MS.rf⟩
      · refine aw_iconst (v := (-1)) K dX7_best_34 (by decide) ?_
        refine aw_iret K rfl dX7_best_35 ?_
        exact ⟨congrArg some (congrArg Value.int (if_neg (fun q => bI_0.mp b31 q.2)).symm), MS.rf⟩

