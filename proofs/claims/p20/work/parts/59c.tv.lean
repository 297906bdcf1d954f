/-- the least cut, and the names within it -/
noncomputable def TV (g : Nat → Int) (W : Nat → Nat → Int) (k : Nat → Int) : Int := Classical.epsilon (fun v => ∃ X, MC g W k v X)
noncomputable def TX (g : Nat → Int) (W : Nat → Nat → Int) (k : Nat → Int) : Nat → Bool := Classical.epsilon (fun X => ∃ v, MC g W k v X)
theorem MC.tv {g : Nat → Int} {W : Nat → Nat → Int} {k : Nat → Int} {v : Int} {X : Nat → Bool} (m : MC g W k v X) : TV g W k = v ∧ ∀ a, a < 12 → TX g W k a = X a := by
  constructor
  · obtain ⟨Y, y⟩ := Classical.epsilon_spec (p := fun v => ∃ X, MC g W k v X) ⟨v, X, m⟩
    exact (y.un m (fun _ _ => rfl) (fun _ _ _ _ => rfl) (fun _ _ => rfl)).1
  · intro a ha
    obtain ⟨u, y⟩ := Classical.epsilon_spec (p := fun X => ∃ v, MC g W k v X) ⟨X, v, m⟩
    exact (y.un m (fun _ _ => rfl) (fun _ _ _ _ => rfl) (fun _ _ => rfl)).2 a ha
noncomputable def trV (v : Nat → Nat → Int32) (N T : Nat) (a : Int32) : Int32 := Int32.ofInt (TV (gI v N) (wI v T) (kF 100000000 a N))
noncomputable def trS (v : Nat → Nat → Int32) (N T : Nat) (a : Int32) : Nat → Bool := TX (gI v N) (wI v T) (kF 100000000 a N)
theorem gI_eq {hx hm : HS} (r : REL hx hm) (N : Nat) : gI hm.1 N = gI (vX hx) N := by
  funext a
  unfold gI
  rw [gvV_eq r]
theorem wI_eq {hx hm : HS} (r : REL hx hm) (T : Nat) : wI hm.1 T = wI (vX hx) T := by
  funext a b
  unfold wI
  refine sm_c T (fun t _ => ?_)
  unfold wT
  rw [rmV_eq r, r.r (21, 6) (by decide), r.r (22, 7) (by decide)]
  rfl
theorem trV_eq {hx hm : HS} (r : REL hx hm) (N T : Nat) (a : Int32) : trV hm.1 N T a = trV (vX hx) N T a := by
  unfold trV
  rw [gI_eq r, wI_eq r]
theorem trS_eq {hx hm : HS} (r : REL hx hm) (N T : Nat) (a : Int32) : trS hm.1 N T a = trS (vX hx) N T a := by
  unfold trS
  rw [gI_eq r, wI_eq r]
theorem SML.eq {hx hm : HS} {N T : Nat} (r : REL hx hm) (s : SML (vX hx) N T) : SML hm.1 N T := ⟨fun a ha => by rw [gvV_eq r]; exact s.1 a ha, fun t ht => by rw [rmV_eq r]; exact s.2 t ht⟩
theorem of_tv {r : Int32} {z : Int} (h : z = r.toInt) : Int32.ofInt z = r := by
  rw [h]
  exact Int32.ofInt_toInt r
theorem hb1 {s : Int32} {i : Nat} (hi : i < 12) : (s >>> (nI i &&& 31)) &&& 1 = 1 ↔ bt s i = true := by
  have := btw_i (s := s) hi hi
  rw [Int32.and_self] at this
  simpa using this
/-- the reference's trust -/
theorem trT (l : Launch) (g : Geo) (sta : Nat → Nat) (h : HS) (a : Int32) (h0 : HS) {N T Wn : Nat} (H0 : MW h0 N T Wn) (s : SML h0.1 N T) (hx : FS h0 h) : CT (wM l g sta) 6 mX7_trustOf [.ref (g.2.1 0), .int a] h (fun o h' => o = some (.int (trV h0.1 N T a)) ∧ FS h0 h' ∧ ∀ x, x < 12 → (¬ h'.1 16 x = -4 ↔ trS h0.1 N T a x = true)) := by
  refine CT.imp (trX l g sta h a h0 H0 s hx) (fun o h' q => ?_)
  obtain ⟨q1, r, q2, mc⟩ := q
  obtain ⟨t1, t2⟩ := mc.tv
  refine ⟨?_, q1, fun x hx => ?_⟩
  · rw [q2, trV, of_tv t1]
  · show _ ↔ TX _ _ _ x = true
    rw [t2 x hx]
    exact decide_eq_true_iff.symm
theorem cX_g {g : Nat → Int} {W : Nat → Nat → Int} {k : Nat → Int} (a : Nat) (ha : a < 12) : cX g W k 13 a = g a := (if_pos rfl).trans (if_pos ha)
theorem cX_W {g : Nat → Int} {W : Nat → Nat → Int} {k : Nat → Int} (a b : Nat) (ha : a < 12) (hb : b < 12) : cX g W k a b = W a b := (if_neg (by omega)).trans (if_pos ⟨ha, hb⟩)
theorem cX_i {g : Nat → Int} {W : Nat → Nat → Int} (a : Nat) : cX g W (fun _ => 0) a 12 = 0 ∧ cX g W (fun _ => 0) 12 a = 0 := by
  have z : ∀ p : Prop, [Decidable p] → (if p then (0 : Int) else 0) = 0 := fun p _ => by split <;> rfl
  constructor
  · unfold cX
    rw [if_neg (show ¬ (12 : Nat) < 12 by decide), if_neg (show ¬ (a < 12 ∧ (12 : Nat) < 12) by omega)]
    simp only [z]
  · unfold cX
    rw [if_neg (show ¬ (12 : Nat) = 13 by decide), if_neg (show ¬ ((12 : Nat) < 12 ∧ a < 12) by omega)]
    simp only [z]
def LY (h0 h : HS) (N T : Nat) : Prop := XQ h0 h ∧ LWX h (cX (gI (vX h0) N) (wI (vX h0) T) (fun _ => 0))
/-- the class's trust -/
theorem moT (l : Launch) (g : Geo) (sta : Nat → Nat) (h : HS) (hp : Int32) (h0 : HS) {N T Wn : Nat} (H0 : XW h0 N T Wn) (s : SML (vX h0) N T) (hL : LY h0 h N T) (hb : ∀ x, x < 14 → bt hp x = true → x < N) : CT (wX l g sta) 3 mX0_most [.ref (g.2.1 5), .int hp] h (fun o h' => o = some (.int (trV (vX h0) N T hp)) ∧ LY h0 h' N T ∧ (∀ x, x < 12 → (bt (h'.1 5 6) x = true ↔ trS (vX h0) N T hp x = true)) ∧ (∀ c', c' ≠ 5 → c' ≠ 36 → c' ≠ 37 → c' ≠ 38 → c' ≠ 39 → h'.1 c' = h.1 c') ∧ ∃ v X, MC (gI (vX h0) N) (wI (vX h0) T) (kF 100000000 hp N) v X) := by
  have hN := H0.1.2
  have hT := H0.2.1.2
  have xb := s.xb (k := fun _ => 0) hT (Nat.le_refl _) (Nat.le_refl _) (fun _ => by decide)
  have bo : ∀ x, 12 ≤ x → x < 14 → bt hp x = false := by
    intro x h1 h2
    cases z : bt hp x
    · rfl
    · have := hb x h2 z
      omega
  have hB : ∀ r v, FI (cX (gI (vX h0) N) (wI (vX h0) T) (fun _ => 0)) r 13 (fun x => bt hp x = true) v → v < 2147483648 := by
    intro r v f
    have a1 := f.le (S := sX 13 12 (fun _ => false)) (by decide) sX_s (fun x hx q => by
      rcases Nat.lt_or_ge x 12 with z | z
      · exact sX_o (by omega) (by omega)
      · rw [bo x z hx] at q
        cases q)
    rw [cap_cv (k := fun _ => 0) (Or.inr ⟨rfl, rfl⟩) sX_s (sX_z (by decide)) cX_g (cX_i 13).1 (fun a _ _ => (cX_i a).1) cX_W] at a1
    rw [cv_c (X' := fun _ => false) (fun _ _ => rfl) (fun _ _ _ _ => rfl) (fun _ _ _ => rfl) (fun a ha => sX_o (by omega) (by omega)), cv_0] at a1
    have := s.gs
    omega
  refine CT.imp (moX l g sta h hp h0 hL.1 _ (fun a b _ _ => (xb a b).1) (fun a b _ _ => by have h1 := xb a b; have h2 := xb b a; omega) hB (bo 13 (by decide) (by decide)) hL.2) (fun o h' q => ?_)
  obtain ⟨q1, q2, r, F, L, R, q3, fi, rc, cl, nk, re⟩ := q
  have mc := mc_tr (F := 100000000) fi rc (fun a ha z => by
    cases y : F a
    · rfl
    · rw [nk a ha y] at z
      cases z) bo cl cX_g (fun a _ => cX_i a) cX_W (fun a _ => (s.g a).1) (fun a b _ _ => (s.w a b T (Nat.le_refl _)).1) (by have := s.gs; omega)
  have ek : ∀ a, a < 12 → (if bt hp a = true then (100000000 : Int) else 0) = kF 100000000 hp N a := by
    intro a ha
    unfold kF
    by_cases z : bt hp a = true
    · rw [if_pos z, if_pos ⟨hb a (by omega) z, (hb1 ha).mpr z⟩]
    · rw [if_neg z, if_neg (fun y => z ((hb1 ha).mp y.2))]
  obtain ⟨t1, t2⟩ := mc.tv
  have e : ∀ v X, MC (gI (vX h0) N) (wI (vX h0) T) (fun a => if bt hp a = true then 100000000 else 0) v X → MC (gI (vX h0) N) (wI (vX h0) T) (kF 100000000 hp N) v X := by
    intro v X m
    have c : ∀ Y, cv (gI (vX h0) N) (wI (vX h0) T) (fun a => if bt hp a = true then 100000000 else 0) Y = cv (gI (vX h0) N) (wI (vX h0) T) (kF 100000000 hp N) Y := fun Y => cv_c (fun _ _ => rfl) (fun _ _ _ _ => rfl) (fun a ha _ => ek a ha) (fun _ _ => rfl)
    refine ⟨by rw [← c]; exact m.1, fun Y => by rw [← c]; exact m.2.1 Y, fun Y hY => m.2.2 Y (by rw [c]; exact hY)⟩
  obtain ⟨t1, t2⟩ := (e _ _ mc).tv
  refine ⟨?_, ⟨q1, ?_⟩, fun x hx => ?_, q2, _, _, e _ _ mc⟩
  · rw [q3, trV, of_tv t1]
  · have e34 := q2 34 (by decide) (by decide) (by decide) (by decide) (by decide)
    have e35 := q2 35 (by decide) (by decide) (by decide) (by decide) (by decide)
    unfold LWX
    rw [e34, e35]
    exact hL.2
  · show _ ↔ TX _ _ _ x = true
    rw [t2 x hx]
    exact re x (by omega)
theorem hp_1 {j N : Nat} (hN : N ≤ 12) (hj : j < N) : ∀ x, x < 14 → bt ((1 : Int32) <<< (nI j &&& 31)) x = true → x < N := by
  intro x hx q
  rw [b_sh1 (by omega) (by omega)] at q
  have := of_decide_eq_true q
  omega
theorem hp_h {a x : Int32} {N : Nat} (hx : x = nI N) (hN : N ≤ 12) (h : 0 ≤ a ∧ a ≤ 1 <<< (x &&& 31) - 1) : ∀ y, y < 14 → bt a y = true → y < N := by
  intro y hy q
  rw [shN hx hN] at h
  have p := p2N hN
  have p1 : 1 ≤ 2 ^ N := Nat.one_le_two_pow
  obtain ⟨j, hj, rfl⟩ := inNj rfl (by omega) h
  rcases Nat.lt_or_ge y N with z | z
  · exact z
  · have e := (hb_i (by omega)).mpr q
    rw [bit_n (by omega) (by omega)] at e
    have : 2 ^ N ≤ 2 ^ y := Nat.pow_le_pow_right (by decide) z
    rw [Nat.div_eq_of_lt (by omega)] at e
    exact absurd rfl e
noncomputable def tsV (v : Nat → Nat → Int32) (N T : Nat) (a : Int32) : Int32 := if 0 ≤ a ∧ a ≤ v 0 0 - 1 then trV v N T ((1 : Int32) <<< (a &&& 31)) else -1
noncomputable def hpV (v : Nat → Nat → Int32) (N T : Nat) (a : Int32) : Int32 := if 0 ≤ a ∧ a ≤ 1 <<< (v 0 0 &&& 31) - 1 then trV v N T a else -1
theorem tsV_eq {hx hm : HS} (r : REL hx hm) (N T : Nat) (a : Int32) : tsV (vX hx) N T a = tsV hm.1 N T a := by
  unfold tsV
  rw [trV_eq r, INV.b1 r]
  rfl
theorem hpV_eq {hx hm : HS} (r : REL hx hm) (N T : Nat) (a : Int32) : hpV (vX hx) N T a = hpV hm.1 N T a := by
  unfold hpV
  rw [trV_eq r, INV.b1 r]
  rfl
set_option maxHeartbeats 4000000 in
set_option maxRecDepth 100000 in
theorem eX6_trust (l : Launch) (g : Geo) (sta : Nat → Nat) (h : HS) (a0 : Int32) {N T Wn : Nat} (H : XW h N T Wn) (s : SML (vX h) N T) : CT (wX l g sta) 7 mX6_trust [.ref (g.2.1 0), .int a0] h (fun o h' => o = some (.int (tsV (vX h) N T a0)) ∧ XQ h h') := by
  refine CT.at [some (.ref (g.2.1 0)), some (.int a0)] 0 rfl (by decide) (Nat.le_of_ble_eq_true rfl) (fun k K => ?_)
  refine aw_al0 K dX6_trust_0 ?_
  refine aw_il1 K dX6_trust_1 ?_
  refine aw_callV_I K (tX6_isName l g sta _ _) rfl (by decide) fX6_isName lX6_84 dX6_trust_2 rfl clsX6 rfl (Nat.le_of_ble_eq_true rfl) ?_
  refine aw_if_ne (tgt := 10) K dX6_trust_5 (by decide) (fun b5 => ?_) (fun b5 => ?_)
  · have hN := H.1.2
    have ok := bI_1.mp b5
    obtain ⟨j, hj, rfl⟩ := inNj H.1.1 (by omega) ok
    refine aw_al0 K dX6_trust_10 ?_
    refine aw_callV K (laX l g sta _ H s) rfl (by decide) fX6_layFlow lX6_190 dX6_trust_11 rfl clsX6 rfl (Nat.le_of_ble_eq_true rfl) (fun o h2 hq => ?_)
    obtain ⟨rfl, ly⟩ := hq
    have ly : LY h h2 N T := ly
    refine aw_al0 K dX6_trust_14 ?_
    refine aw_getR K gX6_40 dX6_trust_15 rfl rfl ?_
    refine aw_iconst (v := 1) K dX6_trust_18 (by decide) ?_
    refine aw_il1 K dX6_trust_19 ?_
    refine aw_ishl K dX6_trust_20 ?_
    refine aw_callV K (moT l g sta _ _ h H s ly (hp_1 hN hj)) rfl (by decide) fX0_most lX6_193 dX6_trust_21 rfl clsX0 rfl (Nat.le_of_ble_eq_true rfl) (fun o h2 hq => ?_)
    obtain ⟨rfl, ly2, re⟩ := hq
    refine (show AW _ _ _ _ _ _ _ (.int _ :: _) _ from ?_)
    refine aw_iret K rfl dX6_trust_24 ?_
    exact ⟨congrArg some (congrArg Value.int (if_pos ok).symm), ly2.1⟩
  · refine aw_iconst (v := (-1)) K dX6_trust_8 (by decide) ?_
    refine aw_iret K rfl dX6_trust_9 ?_
    exact ⟨congrArg some (congrArg Value.int (if_neg (bI_0.mp b5)).symm), H.s⟩

set_option maxHeartbeats 4000000 in
set_option maxRecDepth 100000 in
theorem eX6_heap (l : Launch) (g : Geo) (sta : Nat → Nat) (h : HS) (a0 : Int32) {N T Wn : Nat} (H : XW h N T Wn) (s : SML (vX h) N T) : CT (wX l g sta) 7 mX6_heap [.ref (g.2.1 0), .int a0] h (fun o h' => o = some (.int (hpV (vX h) N T a0)) ∧ XQ h h') := by
  refine CT.at [some (.ref (g.2.1 0)), some (.int a0)] 0 rfl (by decide) (Nat.le_of_ble_eq_true rfl) (fun k K => ?_)
  refine aw_al0 K dX6_heap_0 ?_
  refine aw_il1 K dX6_heap_1 ?_
  refine aw_callV_I K (tX6_isHeap l g sta _ _) rfl (by decide) fX6_isHeap lX6_196 dX6_heap_2 rfl clsX6 rfl (Nat.le_of_ble_eq_true rfl) ?_
  refine aw_if_ne (tgt := 10) K dX6_heap_5 (by decide) (fun b5 => ?_) (fun b5 => ?_)
  · have hN := H.1.2
    have ok := bI_1.mp b5
    refine aw_al0 K dX6_heap_10 ?_
    refine aw_callV K (laX l g sta _ H s) rfl (by decide) fX6_layFlow lX6_190 dX6_heap_11 rfl clsX6 rfl (Nat.le_of_ble_eq_true rfl) (fun o h2 hq => ?_)
    obtain ⟨rfl, ly⟩ := hq
    have ly : LY h h2 N T := ly
    refine aw_al0 K dX6_heap_14 ?_
    refine aw_getR K gX6_40 dX6_heap_15 rfl rfl ?_
    refine aw_il1 K dX6_heap_18 ?_
    refine aw_callV K (moT l g sta _ _ h H s ly (hp_h H.1.1 hN ok)) rfl (by decide) fX0_most lX6_193 dX6_heap_19 rfl clsX0 rfl (Nat.le_of_ble_eq_true rfl) (fun o h2 hq => ?_)
    obtain ⟨rfl, ly2, re⟩ := hq
    refine (show AW _ _ _ _ _ _ _ (.int _ :: _) _ from ?_)
    refine aw_iret K rfl dX6_heap_22 ?_
    exact ⟨congrArg some (congrArg Value.int (if_pos ok).symm), ly2.1⟩
  · refine aw_iconst (v := (-1)) K dX6_heap_8 (by decide) ?_
    refine aw_iret K rfl dX6_heap_9 ?_
    exact ⟨congrArg some (congrArg Value.int (if_neg (bI_0.mp b5)).symm), H.s⟩

set_option maxHeartbeats 4000000 in
set_option maxRecDepth 100000 in
theorem eX7_trust (l : Launch) (g : Geo) (sta : Nat → Nat) (h : HS) (a0 : Int32) {N T Wn : Nat} (H : MW h N T Wn) (s : SML h.1 N T) : CT (wM l g sta) 7 mX7_trust [.ref (g.2.1 0), .int a0] h (fun o h' => o = some (.int (tsV h.1 N T a0)) ∧ MS h h') := by
  refine CT.at [some (.ref (g.2.1 0)), some (.int a0)] 0 rfl (by decide) (Nat.le_of_ble_eq_true rfl) (fun k K => ?_)
  refine aw_al0 K dX7_trust_0 ?_
  refine aw_il1 K dX7_trust_1 ?_
  refine aw_callV_I K (tX7_isName l g sta _ _) rfl (by decide) fX7_isName lX7_111 dX7_trust_2 rfl clsX7 rfl (Nat.le_of_ble_eq_true rfl) ?_
  refine aw_if_eq (tgt := 18) K dX7_trust_5 (by decide) (fun b5 => ?_) (fun b5 => ?_)
  · refine aw_iconst (v := (-1)) K dX7_trust_18 (by decide) ?_
    refine aw_iret K rfl dX7_trust_19 ?_
    exact ⟨congrArg some (congrArg Value.int (if_neg (bI_0.mp b5)).symm), MS.rf⟩
  · refine aw_al0 K dX7_trust_8 ?_
    refine aw_iconst (v := 1) K dX7_trust_9 (by decide) ?_
    refine aw_il1 K dX7_trust_10 ?_
    refine aw_ishl K dX7_trust_11 ?_
    refine aw_callV K (trT l g sta _ _ h H s FS.rf) rfl (by decide) fX7_trustOf lX7_220 dX7_trust_12 rfl clsX7 rfl (Nat.le_of_ble_eq_true rfl) (fun o h2 hq => ?_)
    obtain ⟨rfl, hx, by_⟩ := hq
    refine (show AW _ _ _ _ _ _ _ (.int _ :: _) _ from ?_)
    refine aw_goto (tgt := 19) K dX7_trust_15 (by decide) ?_
    refine aw_iret K rfl dX7_trust_19 ?_
    exact ⟨congrArg some (congrArg Value.int (if_pos (bI_1.mp b5)).symm), hx.ms⟩

set_option maxHeartbeats 4000000 in
set_option maxRecDepth 100000 in
theorem eX7_heap (l : Launch) (g : Geo) (sta : Nat → Nat) (h : HS) (a0 : Int32) {N T Wn : Nat} (H : MW h N T Wn) (s : SML h.1 N T) : CT (wM l g sta) 7 mX7_heap [.ref (g.2.1 0), .int a0] h (fun o h' => o = some (.int (hpV h.1 N T a0)) ∧ MS h h') := by
  refine CT.at [some (.ref (g.2.1 0)), some (.int a0)] 0 rfl (by decide) (Nat.le_of_ble_eq_true rfl) (fun k K => ?_)
  refine aw_al0 K dX7_heap_0 ?_
  refine aw_il1 K dX7_heap_1 ?_
  refine aw_callV_I K (tX7_areNames l g sta _ _) rfl (by decide) fX7_areNames lX7_223 dX7_heap_2 rfl clsX7 rfl (Nat.le_of_ble_eq_true rfl) ?_
  refine aw_if_eq (tgt := 16) K dX7_heap_5 (by decide) (fun b5 => ?_) (fun b5 => ?_)
  · refine aw_iconst (v := (-1)) K dX7_heap_16 (by decide) ?_
    refine aw_iret K rfl dX7_heap_17 ?_
    exact ⟨congrArg some (congrArg Value.int (if_neg (bI_0.mp b5)).symm), MS.rf⟩
  · refine aw_al0 K dX7_heap_8 ?_
    refine aw_il1 K dX7_heap_9 ?_
    refine aw_callV K (trT l g sta _ _ h H s FS.rf) rfl (by decide) fX7_trustOf lX7_220 dX7_heap_10 rfl clsX7 rfl (Nat.le_of_ble_eq_true rfl) (fun o h2 hq => ?_)
    obtain ⟨rfl, hx, by_⟩ := hq
    refine (show AW _ _ _ _ _ _ _ (.int _ :: _) _ from ?_)
    refine aw_goto (tgt := 17) K dX7_heap_13 (by decide) ?_
    refine aw_iret K rfl dX7_heap_17 ?_
    exact ⟨congrArg some (congrArg Value.int (if_pos (bI_1.mp b5)).symm), hx.ms⟩

