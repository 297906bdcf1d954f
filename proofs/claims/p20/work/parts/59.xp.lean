theorem xc {a b : Nat} : nI a * 14 + nI b = nI (14 * a + b) := by
  rw [Int32.mul_comm]
  exact xm
/-- v fits through the way behind x; it is the least of it -/
def okX (f : Nat → Nat) (r : Nat → Nat → Int) (v : Int) : Nat → Nat → Prop
  | 0, _ => True
  | n + 1, x => x = 13 ∨ (v ≤ r (f x) x ∧ okX f r v n (f x))
def boX (f : Nat → Nat) (r : Nat → Nat → Int) (v : Int) : Nat → Nat → Prop
  | 0, _ => False
  | n + 1, x => x ≠ 13 ∧ (v = r (f x) x ∨ boX f r v n (f x))
theorem CH.at {r : Nat → Nat → Int} {h : HS} {F : Nat → Bool} {L : Nat → Nat} {x : Nat} (s : CH r 13 (fN h) F L) (hf : ∀ j, vp_in (h.1 38 j) 14) (hx : x < 14) (fx : F x = true) (n13 : x ≠ 13) : ∃ a, a < 14 ∧ h.1 38 x = nI a ∧ fN h x = a ∧ F a = true ∧ L x = L a + 1 ∧ 0 < r a x := by
  obtain ⟨c1, c2, c3, c4, c5⟩ := (s.2.2 x hx fx).resolve_left n13
  obtain ⟨a, ha, ea⟩ := vp_in_of (hf x) (by decide)
  have e : fN h x = a := by
    show (h.1 38 x).toNatClampNeg = a
    rw [ea, nI_clamp (by omega)]
  rw [e] at c3 c4 c5
  exact ⟨a, ha, ea, e, c3, c4, c5⟩
theorem CH.z {r : Nat → Nat → Int} {f : Nat → Nat} {F : Nat → Bool} {L : Nat → Nat} {x : Nat} (s : CH r 13 f F L) (hx : x < 14) (fx : F x = true) (h0 : L x = 0) : x = 13 := by
  rcases s.2.2 x hx fx with z | ⟨c1, c2, c3, c4, c5⟩
  · exact z
  · omega
/-- the bits fit what is left, also when a way's step is filled -/
theorem op_go {B : Nat → Int32} {r : Nat → Nat → Int} {a x : Nat} {v : Int} (op : ∀ p q, p < 14 → q < 14 → (bt (B p) q = true ↔ 0 < r p q)) (ha : a < 14) (hx : x < 14) (ne : a ≠ x) (hv : 0 < v) (h1 : v ≤ r a x) (h2 : 0 ≤ r x a) {p q : Nat} (hp : p < 14) (hq : q < 14) (h3 : p = a → q = x → 0 < r a x - v) : (bt (upd B x (B x ||| (1 : Int32) <<< (nI a &&& 31)) p) q = true ↔ 0 < mv r v a x p q) := by
  by_cases zp : p = x
  · subst zp
    rw [show upd B p (B p ||| (1 : Int32) <<< (nI a &&& 31)) p = B p ||| (1 : Int32) <<< (nI a &&& 31) from if_pos rfl, b_or, b_sh1 (by omega) (by omega), Bool.or_eq_true, decide_eq_true_iff, op p q hp hq]
    by_cases zq : q = a
    · subst zq
      rw [mv_2 ne]
      exact ⟨fun _ => by omega, fun _ => Or.inr rfl⟩
    · rw [mv_o (fun z => ne z.1.symm) (fun z => zq z.2)]
      exact ⟨fun z => z.resolve_right zq, Or.inl⟩
  · rw [show upd B x (B x ||| (1 : Int32) <<< (nI a &&& 31)) p = B p from if_neg zp, op p q hp hq]
    by_cases z1 : p = a ∧ q = x
    · have h4 := h3 z1.1 z1.2
      rw [z1.1, z1.2, mv_1]
      exact ⟨fun _ => h4, fun _ => by omega⟩
    · rw [mv_o z1 (fun z => zp z.1)]
theorem op_cl {B : Nat → Int32} {r : Nat → Nat → Int} {a x : Nat} {v : Int} (op : ∀ p q, p < 14 → q < 14 → (bt (B p) q = true ↔ 0 < r p q)) (ha : a < 14) (hx : x < 14) (ne : a ≠ x) (hv : 0 < v) (h1 : v ≤ r a x) (h2 : 0 ≤ r x a) (h4 : ¬ 0 < r a x - v) {p q : Nat} (hp : p < 14) (hq : q < 14) : (bt (upd (upd B x (B x ||| (1 : Int32) <<< (nI a &&& 31))) a (upd B x (B x ||| (1 : Int32) <<< (nI a &&& 31)) a &&& ((1 : Int32) <<< (nI x &&& 31) ^^^ (-1))) p) q = true ↔ 0 < mv r v a x p q) := by
  by_cases zp : p = a
  · subst zp
    rw [show ∀ G : Nat → Int32, ∀ u, upd G p u p = u from fun G u => if_pos rfl, b_and, b_xor, b_m1' q (by omega), b_sh1 (by omega) (by omega), Bool.and_eq_true]
    by_cases zq : q = x
    · subst zq
      rw [mv_1]
      constructor
      · intro z
        have := z.2
        simp at this
      · intro z
        exact absurd z h4
    · have e := op_go op ha hx ne hv h1 h2 hp hq (fun _ z => absurd z zq)
      rw [e]
      constructor
      · exact fun z => z.1
      · intro z
        refine ⟨z, ?_⟩
        simp [zq]
  · rw [show ∀ G : Nat → Int32, ∀ u, upd G a u p = G p from fun G u => if_neg zp]
    exact op_go op ha hx ne hv h1 h2 hp hq (fun z => absurd z zp)
set_option maxHeartbeats 4000000 in
set_option maxRecDepth 100000 in
theorem lr1X0_push {l : Launch} {g : Geo} {sta : Nat → Nat} {k : KT} {P : Option Value → HS → Prop} (K : AOK (wX l g sta) mX0_push k) (h : HS) (gl : Int32) (hf : ∀ j, vp_in (h.1 38 j) 14) (F : Nat → Bool) (L : Nat → Nat) (ch : CH (rI (h.1 36)) 13 (fN h) F L) :
    ∀ (n i x : Nat) (v : Int32), L x < n → i + L x ≤ 14 → x < 14 → F x = true → 0 < v → (∀ u : Int32, 0 < u → u ≤ v → (∀ m, okX (fN h) (rI (h.1 36)) u.toInt m x) → (u = v ∨ ∃ m, boX (fN h) (rI (h.1 36)) u.toInt m x) → AW (wX l g sta) P 2 mX0_push k 69 [some (.ref (g.2.1 5)), some (.int gl), some (.int u), none, none, none] [] h) → AW (wX l g sta) P 2 mX0_push k 22 [some (.ref (g.2.1 5)), some (.int gl), some (.int v), some (.int (nI x)), some (.int (nI i)), none] [] h := by
  intro n
  induction n with
  | zero => intro i x v k1; omega
  | succ n ih =>
    intro i x v k1 k2 hx fx hv hk
    by_cases q13 : x = 13
    · subst q13
      have fin : AW (wX l g sta) P 2 mX0_push k 69 [some (.ref (g.2.1 5)), some (.int gl), some (.int v), some (.int (nI 13)), some (.int (nI i)), none] [] h := by
        refine aw_sub [some (.ref (g.2.1 5)), some (.int gl), some (.int v), none, none, none] ⟨rfl, rfl, rfl, trivial⟩ ?_
        exact hk v hv (Int32.le_refl _) (fun m => by
          cases m with
          | zero => trivial
          | succ m => exact Or.inl rfl) (Or.inl rfl)
      refine aw_il4 K dX0_push_22 ?_
      refine aw_bipush (v := 14) K dX0_push_24 (by decide) ?_
      refine aw_icmp_ge (tgt := 69) K dX0_push_26 (by decide) (fun b26 => ?_) (fun b26 => ?_)
      · exact fin
      · refine aw_il3 K dX0_push_29 ?_
        refine aw_bipush (v := 13) K dX0_push_30 (by decide) ?_
        refine aw_icmp_eq (tgt := 69) K dX0_push_32 (by decide) (fun b32 => ?_) (fun b32 => ?_)
        · exact fin
        · exact absurd rfl b32
    · obtain ⟨a, ha, e1, ea, fa, la, pa⟩ := ch.at hf hx fx q13
      have hi1 : vp_in (nI (14 * a + x)) 196 := vp_in_nI (by omega) (by decide)
      have wv : rI (h.1 36) a x = (h.1 36 (14 * a + x)).toInt := rfl
      have okx : ∀ u : Int32, u ≤ h.1 36 (14 * a + x) → (∀ m, okX (fN h) (rI (h.1 36)) u.toInt m a) → ∀ m, okX (fN h) (rI (h.1 36)) u.toInt m x := by
        intro u hu ho m
        cases m with
        | zero => trivial
        | succ m =>
          refine Or.inr ⟨?_, ?_⟩
          · rw [ea]
            exact Int32.le_iff_toInt_le.mp hu
          · rw [ea]
            exact ho m
      have box : ∀ u : Int32, (u = h.1 36 (14 * a + x) ∨ ∃ m, boX (fN h) (rI (h.1 36)) u.toInt m a) → ∃ m, boX (fN h) (rI (h.1 36)) u.toInt m x := by
        rintro u (z | ⟨m, z⟩)
        · refine ⟨1, q13, Or.inl ?_⟩
          rw [ea, z]
          rfl
        · refine ⟨m + 1, q13, Or.inr ?_⟩
          rw [ea]
          exact z
      refine aw_il4 K dX0_push_22 ?_
      refine aw_bipush (v := 14) K dX0_push_24 (by decide) ?_
      refine aw_icmp_ge (tgt := 69) K dX0_push_26 (by decide) (fun b26 => ?_) (fun b26 => ?_)
      · exact absurd b26 (nI_ge (b := 14) (by omega) (by decide))
      · refine aw_il3 K dX0_push_29 ?_
        refine aw_bipush (v := 13) K dX0_push_30 (by decide) ?_
        refine aw_icmp_eq (tgt := 69) K dX0_push_32 (by decide) (fun b32 => ?_) (fun b32 => ?_)
        · exact absurd ((nI_eq (b := 13) (by omega) (by decide)).mp b32) q13
        · refine aw_il2 K dX0_push_35 ?_
          refine aw_al0 K dX0_push_36 ?_
          refine aw_getR K gX0_18 dX0_push_37 rfl rfl ?_
          refine aw_al0 K dX0_push_40 ?_
          refine aw_getR K gX0_24 dX0_push_41 rfl rfl ?_
          refine aw_il3 K dX0_push_44 ?_
          refine aw_iald K dX0_push_45 rfl (vp_in_nI hx (by decide)) ?_
          rw [nI_clamp (show x < 2 ^ 31 by omega), e1]
          refine aw_bipush (v := 14) K dX0_push_46 (by decide) ?_
          refine aw_imul K dX0_push_48 ?_
          refine aw_il3 K dX0_push_49 ?_
          refine aw_iadd K dX0_push_50 ?_
          rw [xc]
          refine aw_iald K dX0_push_51 rfl hi1 ?_
          rw [nI_clamp (show 14 * a + x < 2 ^ 31 by omega)]
          refine aw_mmin K (aw_in 607 (by decide +kernel) rfl) cw_min1 cw_min2 cw_min3 (by decide) (Nat.le_of_ble_eq_true rfl) dX0_push_52 ?_
          refine aw_is2 K dX0_push_55 (by decide) rfl ?_
          refine aw_al0 K dX0_push_56 ?_
          refine aw_getR K gX0_24 dX0_push_57 rfl rfl ?_
          refine aw_il3 K dX0_push_60 ?_
          refine aw_iald K dX0_push_61 rfl (vp_in_nI hx (by decide)) ?_
          rw [nI_clamp (show x < 2 ^ 31 by omega), e1]
          refine aw_is3 K dX0_push_62 (by decide) rfl ?_
          refine aw_ii4 (v := _ + 1) K dX0_push_63 rfl (by decide) rfl ?_
          refine aw_goto (tgt := 22) K dX0_push_66 (by decide) ?_
          rw [nI_1]
          by_cases c : h.1 36 (14 * a + x) < v
          · rw [if_pos c]
            refine ih (i + 1) a _ (by omega) (by omega) ha fa (pos_I.mpr pa) (fun u hu hu2 ho hb => hk u hu (Int32.le_trans hu2 (Int32.le_of_lt c)) (okx u hu2 ho) (Or.inr (box u hb)))
          · rw [if_neg c]
            refine ih (i + 1) a v (by omega) (by omega) ha fa hv (fun u hu hu2 ho hb => hk u hu hu2 (okx u (Int32.le_trans hu2 (Int32.not_lt.mp c)) ho) ?_)
            rcases hb with z | z
            · exact Or.inl z
            · exact Or.inr (box u (Or.inr z))
/-- a way is filled as far as x -/
def PL (h0 h1 h : HS) (c : Nat → Nat → Int) (L l : Nat → Nat) (v : Int) (t x : Nat) : Prop := XQ h0 h ∧ (∀ c', c' ≠ 36 → c' ≠ 37 → h.1 c' = h1.1 c') ∧ FP c (rI (h1.1 36)) (rI (h.1 36)) L v t x ∧ TQF (rI (h1.1 36)) (rI (h.1 36)) l ∧ OPX h (rI (h.1 36)) ∧ ((∃ a b, a < 14 ∧ b < 14 ∧ 0 < rI (h1.1 36) a b ∧ l b = l a + 1 ∧ rI (h.1 36) a b = 0 ∧ L x < L b ∧ L a < L b) ∨ ∃ m, boX (fN h1) (rI (h1.1 36)) v m x)
theorem TQF.c {r1 r r' : Nat → Nat → Int} {l : Nat → Nat} (h : TQF r1 r l) (e : ∀ a b, a < 14 → b < 14 → r' a b = r a b) : TQF r1 r' l := fun a b ha hb q => h a b ha hb (by rw [← e a b ha hb]; exact q)
theorem PL.go {h0 h1 h h' : HS} {c : Nat → Nat → Int} {L l : Nat → Nat} {v : Int} {t x a : Nat} (s : PL h0 h1 h c L l v t x) (hx : x < 14) (ha : a < 14) (ea : fN h1 x = a) (la : L x = L a + 1) (ll : l x = l a + 1) (hv : 0 < v) (hle : v ≤ rI (h1.1 36) a x) (pa : 0 < rI (h1.1 36) a x) (q1 : XQ h0 h') (q2 : ∀ c', c' ≠ 36 → c' ≠ 37 → h'.1 c' = h.1 c') (q3 : ∀ p q, p < 14 → q < 14 → rI (h'.1 36) p q = mv (rI (h.1 36)) v a x p q) (q4 : OPX h' (rI (h'.1 36))) : PL h0 h1 h' c L l v t a := by
  obtain ⟨s1, s2, s3, s4, s5, s6⟩ := s
  have ne : a ≠ x := fun z => by rw [z] at la; omega
  refine ⟨q1, fun c' y1 y2 => (q2 c' y1 y2).trans (s2 c' y1 y2), (s3.go hx ha (by omega) (by omega) hle).c q3, (s4.go (by omega) ll).c q3, q4, ?_⟩
  rcases s6 with ⟨p, b, hp, hb, w1, w2, w3, w4, w5⟩ | ⟨m, w⟩
  · refine Or.inl ⟨p, b, hp, hb, w1, w2, ?_, by omega, w5⟩
    rw [q3 p b hp hb, mv_o (fun z => by rw [z.2] at w4; omega) (fun z => by rw [z.2] at w4; omega)]
    exact w3
  · cases m with
    | zero => exact w.elim
    | succ m =>
      obtain ⟨w1, w2⟩ := w
      rw [ea] at w2
      rcases w2 with w3 | w3
      · refine Or.inl ⟨a, x, ha, hx, pa, ll, ?_, by omega, by omega⟩
        rw [q3 a x ha hx, mv_1, s3.2.2.2 x a hx ha (Nat.le_refl _) (by omega)]
        omega
      · exact Or.inr ⟨m, w3⟩
def PQX (h0 h1 : HS) (c : Nat → Nat → Int) (L l : Nat → Nat) (t : Nat) : Option Value → HS → Prop := fun o h' => ∃ u : Int32, o = some (.int u) ∧ 0 < u ∧ XQ h0 h' ∧ (∀ c', c' ≠ 36 → c' ≠ 37 → h'.1 c' = h1.1 c') ∧ FP c (rI (h1.1 36)) (rI (h'.1 36)) L u.toInt t 13 ∧ TQF (rI (h1.1 36)) (rI (h'.1 36)) l ∧ OPX h' (rI (h'.1 36)) ∧ ∃ a b, a < 14 ∧ b < 14 ∧ 0 < rI (h1.1 36) a b ∧ l b = l a + 1 ∧ rI (h'.1 36) a b = 0
theorem PL.end {h0 h1 h : HS} {c : Nat → Nat → Int} {L l : Nat → Nat} {v : Int32} {t : Nat} (s : PL h0 h1 h c L l v.toInt t 13) (hv : 0 < v) : PQX h0 h1 c L l t (some (.int v)) h := by
  obtain ⟨s1, s2, s3, s4, s5, s6⟩ := s
  refine ⟨v, rfl, hv, s1, s2, s3, s4, s5, ?_⟩
  rcases s6 with ⟨p, b, hp, hb, w1, w2, w3, w4, w5⟩ | ⟨m, w⟩
  · exact ⟨p, b, hp, hb, w1, w2, w3⟩
  · cases m with
    | zero => exact w.elim
    | succ m => exact absurd rfl w.1
set_option maxHeartbeats 4000000 in
set_option maxRecDepth 100000 in
theorem lr2X0_push {l : Launch} {g : Geo} {sta : Nat → Nat} {k : KT} (K : AOK (wX l g sta) mX0_push k) (h0 h1 : HS) (gl v : Int32) (hv : 0 < v) (c : Nat → Nat → Int) (hC : ∀ a b, a < 14 → b < 14 → c a b + c b a < 2147483648) (hf : ∀ j, vp_in (h1.1 38 j) 14) (F : Nat → Bool) (L ll : Nat → Nat) (ch : CH (rI (h1.1 36)) 13 (fN h1) F L) (hl : ∀ x, x < 14 → F x = true → ll x ≤ L x) (hl2 : ∀ a b, a < 14 → b < 14 → 0 < rI (h1.1 36) a b → ll b ≤ ll a + 1) (t : Nat) :
    ∀ (n i x : Nat) (h : HS), L x < n → i + L x ≤ 14 → x < 14 → F x = true → ll x = L x → PL h0 h1 h c L ll v.toInt t x → (∀ m, okX (fN h1) (rI (h1.1 36)) v.toInt m x) → AW (wX l g sta) (PQX h0 h1 c L ll t) 2 mX0_push k 74 [some (.ref (g.2.1 5)), some (.int gl), some (.int v), some (.int (nI x)), some (.int (nI i)), none] [] h := by
  intro n
  have hv0 : 0 < v.toInt := pos_I.mp hv
  induction n with
  | zero => intro i x h k1; omega
  | succ n ih =>
    intro i x h k1 k2 hx fx lx s ho
    by_cases q13 : x = 13
    · subst q13
      refine aw_il4 K dX0_push_74 ?_
      refine aw_bipush (v := 14) K dX0_push_76 (by decide) ?_
      refine aw_icmp_ge (tgt := 179) K dX0_push_78 (by decide) (fun b78 => ?_) (fun b78 => ?_)
      · refine aw_il2 K dX0_push_179 ?_
        refine aw_iret K rfl dX0_push_180 ?_
        exact s.end hv
      · refine aw_il3 K dX0_push_81 ?_
        refine aw_bipush (v := 13) K dX0_push_82 (by decide) ?_
        refine aw_icmp_eq (tgt := 179) K dX0_push_84 (by decide) (fun b84 => ?_) (fun b84 => ?_)
        · refine aw_il2 K dX0_push_179 ?_
          refine aw_iret K rfl dX0_push_180 ?_
          exact s.end hv
        · exact absurd rfl b84
    · obtain ⟨a, ha, e1, ea, fa, la, pa⟩ := ch.at hf hx fx q13
      rw [← s.2.1 38 (by decide) (by decide)] at e1
      have hi1 : vp_in (nI (14 * a + x)) 196 := vp_in_nI (by omega) (by decide)
      have hi2 : vp_in (nI (14 * x + a)) 196 := vp_in_nI (by omega) (by decide)
      have ne : a ≠ x := fun z => by rw [z] at la; omega
      have o1 : v.toInt ≤ rI (h1.1 36) a x := by
        have o2 := ((ho 1).resolve_left q13).1
        rw [ea] at o2
        exact o2
      have oa : ∀ m, okX (fN h1) (rI (h1.1 36)) v.toInt m a := fun m => by
        have o3 := ((ho (m + 1)).resolve_left q13).2
        rw [ea] at o3
        exact o3
      have l1 := hl a ha fa
      have l2 := hl2 a x ha hx pa
      have u1 := s.2.2.1.2.2.2 x a hx ha (Nat.le_refl _) (by omega)
      have u2 := s.2.2.1.1 x a hx ha
      have u3 := s.2.2.1.2.1 a x ha hx
      have u4 := hC a x ha hx
      have rm := fun (p q : Nat) (hp : p < 14) (hq : q < 14) => rI_mvh (h := h) (c0 := 36) (v := v) ha hx ne (by omega) (by omega) u2 (by omega) hp hq
      have xq := ((s.1.pt (c0 := 36) (j0 := 14 * a + x) (v := h.1 36 (14 * a + x) - v) rfl (by decide)).pt (c0 := 36) (j0 := 14 * x + a) (v := (setI h 36 (14 * a + x) (h.1 36 (14 * a + x) - v)).1 36 (14 * x + a) + v) rfl (by decide)).pt (c0 := 37) (j0 := x) (v := h.1 37 x ||| (1 : Int32) <<< (nI a &&& 31)) rfl (by decide)
      refine aw_il4 K dX0_push_74 ?_
      refine aw_bipush (v := 14) K dX0_push_76 (by decide) ?_
      refine aw_icmp_ge (tgt := 179) K dX0_push_78 (by decide) (fun b78 => ?_) (fun b78 => ?_)
      · exact absurd b78 (nI_ge (b := 14) (by omega) (by decide))
      · refine aw_il3 K dX0_push_81 ?_
        refine aw_bipush (v := 13) K dX0_push_82 (by decide) ?_
        refine aw_icmp_eq (tgt := 179) K dX0_push_84 (by decide) (fun b84 => ?_) (fun b84 => ?_)
        · exact absurd ((nI_eq (b := 13) (by omega) (by decide)).mp b84) q13
        · refine aw_al0 K dX0_push_87 ?_
          refine aw_getR K gX0_24 dX0_push_88 rfl rfl ?_
          refine aw_il3 K dX0_push_91 ?_
          refine aw_iald K dX0_push_92 rfl (vp_in_nI hx (by decide)) ?_
          rw [nI_clamp (show x < 2 ^ 31 by omega), e1]
          refine aw_is5 K dX0_push_93 (by decide) rfl ?_
          refine aw_al0 K dX0_push_95 ?_
          refine aw_getR K gX0_18 dX0_push_96 rfl rfl ?_
          refine aw_il5 K dX0_push_99 ?_
          refine aw_bipush (v := 14) K dX0_push_101 (by decide) ?_
          refine aw_imul K dX0_push_103 ?_
          refine aw_il3 K dX0_push_104 ?_
          refine aw_iadd K dX0_push_105 ?_
          rw [xc]
          refine aw_dup2_11 K dX0_push_106 rfl rfl ?_
          refine aw_iald K dX0_push_107 rfl hi1 ?_
          refine aw_il2 K dX0_push_108 ?_
          refine aw_isub K dX0_push_109 ?_
          refine aw_iast K dX0_push_110 rfl hi1 ?_
          refine aw_al0 K dX0_push_111 ?_
          refine aw_getR K gX0_18 dX0_push_112 rfl rfl ?_
          refine aw_il3 K dX0_push_115 ?_
          refine aw_bipush (v := 14) K dX0_push_116 (by decide) ?_
          refine aw_imul K dX0_push_118 ?_
          refine aw_il5 K dX0_push_119 ?_
          refine aw_iadd K dX0_push_121 ?_
          rw [xc]
          refine aw_dup2_11 K dX0_push_122 rfl rfl ?_
          refine aw_iald K dX0_push_123 rfl hi2 ?_
          refine aw_il2 K dX0_push_124 ?_
          refine aw_iadd K dX0_push_125 ?_
          refine aw_iast K dX0_push_126 rfl hi2 ?_
          refine aw_al0 K dX0_push_127 ?_
          refine aw_getR K gX0_21 dX0_push_128 rfl rfl ?_
          refine aw_il3 K dX0_push_131 ?_
          refine aw_dup2_11 K dX0_push_132 rfl rfl ?_
          refine aw_iald K dX0_push_133 rfl (vp_in_nI hx (by decide)) ?_
          refine aw_iconst (v := 1) K dX0_push_134 (by decide) ?_
          refine aw_il5 K dX0_push_135 ?_
          refine aw_ishl K dX0_push_137 ?_
          refine aw_ior K dX0_push_138 ?_
          refine aw_iast K dX0_push_139 rfl (vp_in_nI hx (by decide)) ?_
          refine aw_al0 K dX0_push_140 ?_
          refine aw_getR K gX0_18 dX0_push_141 rfl rfl ?_
          refine aw_il5 K dX0_push_144 ?_
          refine aw_bipush (v := 14) K dX0_push_146 (by decide) ?_
          refine aw_imul K dX0_push_148 ?_
          refine aw_il3 K dX0_push_149 ?_
          refine aw_iadd K dX0_push_150 ?_
          rw [xc]
          refine aw_iald K dX0_push_151 rfl hi1 ?_
          refine aw_if_gt (tgt := 170) K dX0_push_152 (by decide) (fun b152 => ?_) (fun b152 => ?_)
          · refine aw_il5 K dX0_push_170 ?_
            refine aw_is3 K dX0_push_172 (by decide) rfl ?_
            refine aw_ii4 (v := _ + 1) K dX0_push_173 rfl (by decide) rfl ?_
            refine aw_goto (tgt := 74) K dX0_push_176 (by decide) ?_
            rw [nI_1]
            rw [nI_clamp (show x < 2 ^ 31 by omega), nI_clamp (show 14 * a + x < 2 ^ 31 by omega), nI_clamp (show 14 * x + a < 2 ^ 31 by omega)] at b152
            rw [nI_clamp (show x < 2 ^ 31 by omega), nI_clamp (show 14 * a + x < 2 ^ 31 by omega), nI_clamp (show 14 * x + a < 2 ^ 31 by omega)]
            refine aw_sub [some (.ref (g.2.1 5)), some (.int gl), some (.int v), some (.int _), some (.int _), none] ⟨rfl, rfl, rfl, rfl, rfl, trivial⟩ ?_
            have b2 : 0 < rI (h.1 36) a x - v.toInt := by
              have z := rm a x ha hx
              rw [mv_1] at z
              rw [← z]
              exact pos_I.mp b152
            refine ih (i + 1) a _ (by omega) (by omega) ha fa (by omega) (s.go hx ha ea la (by omega) hv0 o1 pa xq ?_ rm ?_) oa
            · intro c' y1 y2
              exact (setI_w y2).trans ((setI_w y1).trans (setI_w y1))
            · intro p q hp hq
              exact (op_go s.2.2.2.2.1 ha hx ne hv0 (by omega) u2 hp hq (fun _ _ => b2)).trans (by rw [← rm p q hp hq]; exact Iff.rfl)
          · refine aw_al0 K dX0_push_155 ?_
            refine aw_getR K gX0_21 dX0_push_156 rfl rfl ?_
            refine aw_il5 K dX0_push_159 ?_
            refine aw_dup2_11 K dX0_push_161 rfl rfl ?_
            refine aw_iald K dX0_push_162 rfl (vp_in_nI ha (by decide)) ?_
            refine aw_iconst (v := 1) K dX0_push_163 (by decide) ?_
            refine aw_il3 K dX0_push_164 ?_
            refine aw_ishl K dX0_push_165 ?_
            refine aw_iconst (v := (-1)) K dX0_push_166 (by decide) ?_
            refine aw_ixor K dX0_push_167 ?_
            refine aw_iand K dX0_push_168 ?_
            refine aw_iast K dX0_push_169 rfl (vp_in_nI ha (by decide)) ?_
            refine aw_il5 K dX0_push_170 ?_
            refine aw_is3 K dX0_push_172 (by decide) rfl ?_
            refine aw_ii4 (v := _ + 1) K dX0_push_173 rfl (by decide) rfl ?_
            refine aw_goto (tgt := 74) K dX0_push_176 (by decide) ?_
            rw [nI_1]
            rw [nI_clamp (show x < 2 ^ 31 by omega), nI_clamp (show 14 * a + x < 2 ^ 31 by omega), nI_clamp (show 14 * x + a < 2 ^ 31 by omega)] at b152
            rw [nI_clamp (show x < 2 ^ 31 by omega), nI_clamp (show 14 * a + x < 2 ^ 31 by omega), nI_clamp (show 14 * x + a < 2 ^ 31 by omega), nI_clamp (show a < 2 ^ 31 by omega)]
            refine aw_sub [some (.ref (g.2.1 5)), some (.int gl), some (.int v), some (.int _), some (.int _), none] ⟨rfl, rfl, rfl, rfl, rfl, trivial⟩ ?_
            have b2 : ¬ 0 < rI (h.1 36) a x - v.toInt := by
              have z := rm a x ha hx
              rw [mv_1] at z
              rw [← z]
              exact fun y => b152 (pos_I.mpr y)
            refine ih (i + 1) a _ (by omega) (by omega) ha fa (by omega) (s.go hx ha ea la (by omega) hv0 o1 pa (xq.pt rfl (by decide)) ?_ rm ?_) oa
            · intro c' y1 y2
              exact (setI_w y2).trans ((setI_w y2).trans ((setI_w y1).trans (setI_w y1)))
            · intro p q hp hq
              exact (op_cl s.2.2.2.2.1 ha hx ne hv0 (by omega) u2 b2 hp hq).trans (by rw [← rm p q hp hq]; exact Iff.rfl)
set_option maxHeartbeats 4000000 in
set_option maxRecDepth 100000 in
theorem puX (l : Launch) (g : Geo) (sta : Nat → Nat) (h : HS) (t : Nat) (ht : t < 14) (n13 : t ≠ 13) (h0 : HS) (hq : XQ h0 h) (c : Nat → Nat → Int) (hC : ∀ a b, a < 14 → b < 14 → c a b + c b a < 2147483648) (K0 : Nat → Prop) (v0 : Int) (fi : FI c (rI (h.1 36)) 13 K0 v0) (op : OPX h (rI (h.1 36))) (F : Nat → Bool) (L ll : Nat → Nat) (ch : CH (rI (h.1 36)) 13 (fN h) F L) (ft : F t = true) (l14 : L t ≤ 14) (hl0 : ll t = L t) (hl : ∀ x, x < 14 → F x = true → ll x ≤ L x) (hl2 : ∀ a b, a < 14 → b < 14 → 0 < rI (h.1 36) a b → ll b ≤ ll a + 1) : CT (wX l g sta) 2 mX0_push [.ref (g.2.1 5), .int (nI t)] h (PQX h0 h c L ll t) := by
  refine CT.at [some (.ref (g.2.1 5)), some (.int (nI t)), none, none, none, none] 4 rfl (by decide) (Nat.le_of_ble_eq_true rfl) (fun k K => ?_)
  refine aw_al0 K dX0_push_0 ?_
  refine aw_getR K gX0_18 dX0_push_1 rfl rfl ?_
  refine aw_al0 K dX0_push_4 ?_
  refine aw_getR K gX0_24 dX0_push_5 rfl rfl ?_
  refine aw_il1 K dX0_push_8 ?_
  refine aw_iald K dX0_push_9 rfl (vp_in_nI ht (by decide)) ?_
  obtain ⟨a, ha, e1, ea, fa, la, pa⟩ := ch.at hq.2 ht ft n13
  rw [nI_clamp (show t < 2 ^ 31 by omega), e1]
  refine aw_bipush (v := 14) K dX0_push_10 (by decide) ?_
  refine aw_imul K dX0_push_12 ?_
  refine aw_il1 K dX0_push_13 ?_
  refine aw_iadd K dX0_push_14 ?_
  rw [xc]
  refine aw_iald K dX0_push_15 rfl (vp_in_nI (show 14 * a + t < 196 by omega) (by decide)) ?_
  rw [nI_clamp (show 14 * a + t < 2 ^ 31 by omega)]
  refine aw_is2 K dX0_push_16 (by decide) rfl ?_
  refine aw_il1 K dX0_push_17 ?_
  refine aw_is3 K dX0_push_18 (by decide) rfl ?_
  refine aw_iconst (v := 0) K dX0_push_19 (by decide) ?_
  refine aw_is4 K dX0_push_20 (by decide) rfl ?_
  refine lr1X0_push K h (nI t) hq.2 F L ch (L t + 1) 0 t _ (by omega) (by omega) ht ft (pos_I.mpr pa) (fun u hu hu2 ho hb => ?_)
  refine aw_il1 K dX0_push_69 ?_
  refine aw_is3 K dX0_push_70 (by decide) rfl ?_
  refine aw_iconst (v := 0) K dX0_push_71 (by decide) ?_
  refine aw_is4 K dX0_push_72 (by decide) rfl ?_
  refine lr2X0_push K h0 h (nI t) u hu c hC hq.2 F L ll ch hl hl2 t (L t + 1) 0 t h (by omega) (by omega) ht ft hl0 ⟨hq, fun _ _ _ => rfl, FP.st fi L _ t, fun _ _ _ _ z => Or.inl z, op, Or.inr ?_⟩ ho
  rcases hb with z | z
  · refine ⟨1, n13, Or.inl ?_⟩
    rw [ea, z]
    rfl
  · exact z

theorem cp_at {f g : Nat → Int32} {n j : Nat} {m : Int32} (hm : m.toNatClampNeg = n) (hj : j < n) : va_cpy f g (Int32.toNatClampNeg 0) (Int32.toNatClampNeg 0) m.toNatClampNeg j = f j := by
  have e : (0 : Int32).toNatClampNeg = 0 := rfl
  unfold va_cpy
  rw [hm, e, if_pos ⟨Nat.zero_le _, by omega⟩, Nat.zero_add, Nat.sub_zero]
/-- filled as far as i ways -/
def MLX (h0 hs h : HS) (c : Nat → Nat → Int) (hp sm : Int32) (i : Nat) : Prop := XQ h0 h ∧ (∀ c', c' ≠ 5 → c' ≠ 36 → c' ≠ 37 → c' ≠ 38 → c' ≠ 39 → h.1 c' = hs.1 c') ∧ FI c (rI (h.1 36)) 13 (fun x => bt hp x = true) sm.toInt ∧ 0 ≤ sm.toInt ∧ OPX h (rI (h.1 36)) ∧ ∃ l D, D ≤ 14 ∧ EK (rI (h.1 36)) 13 (fun x => bt hp x = true) l D i
/-- what the class's flow leaves -/
def MQX (h0 hs : HS) (c : Nat → Nat → Int) (hp : Int32) : Option Value → HS → Prop := fun o h' => XQ h0 h' ∧ (∀ c', c' ≠ 5 → c' ≠ 36 → c' ≠ 37 → c' ≠ 38 → c' ≠ 39 → h'.1 c' = hs.1 c') ∧ ∃ (r : Int32) (F : Nat → Bool) (L : Nat → Nat) (R : Nat → Nat → Int), o = some (.int r) ∧ FI c R 13 (fun x => bt hp x = true) r.toInt ∧ RC R 13 F L ∧ (∀ x y, x < 14 → y < 14 → F x = true → F y = false → R x y = 0) ∧ (∀ x, x < 14 → F x = true → bt hp x = false) ∧ ∀ x, x < 14 → (bt (h'.1 5 6) x = true ↔ F x = true)
/-- laid: the rooms and to whom there is room -/
def LWX (h : HS) (c : Nat → Nat → Int) : Prop := LB (h.1 34) c ∧ ∀ a b, a < 14 → b < 14 → (bt (h.1 35 a) b = true ↔ 0 < c a b)
set_option maxHeartbeats 4000000 in
set_option maxRecDepth 100000 in
theorem lrX0_most {l : Launch} {g : Geo} {sta : Nat → Nat} {k : KT} (K : AOK (wX l g sta) mX0_most k) (h0 hs : HS) (c : Nat → Nat → Int) (hC : ∀ a b, a < 14 → b < 14 → c a b + c b a < 2147483648) (hp : Int32) (hB : ∀ r v, FI c r 13 (fun x => bt hp x = true) v → v < 2147483648) (h13 : bt hp 13 = false) :
    ∀ (n i : Nat) (sm : Int32) (h : HS), i ≤ 10000 → 10000 - i < n → MLX h0 hs h c hp sm i → AW (wX l g sta) (MQX h0 hs c hp) 3 mX0_most k 35 [some (.ref (g.2.1 5)), some (.int hp), some (.int sm), some (.int (nI i)), none] [] h := by
  intro n
  induction n with
  | zero => intro i sm h h1 h2; omega
  | succ n ih =>
    intro i sm h h1 h2 s
    obtain ⟨hx, s2, s3, s4, s5, lb, D, hD, ek⟩ := s
    have hi : i ≤ 2758 := by
      have e4 := ek.2.2.2
      have e5 := tc_nn (rI (h.1 36)) lb
      omega
    refine aw_il3 K dX0_most_35 ?_
    refine aw_sipush (v := 10000) K dX0_most_36 (by decide) ?_
    refine aw_icmp_ge (tgt := 72) K dX0_most_39 (by decide) (fun b39 => ?_) (fun b39 => ?_)
    · exact absurd b39 (nI_ge (b := 10000) (by omega) (by decide))
    · refine aw_al0 K dX0_most_42 ?_
      refine aw_il1 K dX0_most_43 ?_
      refine aw_callV K (seX l g sta _ hp h0 hx (rI (h.1 36)) s5 h13) rfl (by decide) fX0_search lX0_46 dX0_most_44 rfl clsX0 rfl (Nat.le_of_ble_eq_true rfl) (fun o h2 hq => ?_)
      obtain ⟨x1, x2, hr⟩ := hq
      have e36 : h2.1 36 = h.1 36 := x2 36 (by decide) (by decide) (by decide)
      have e37 : h2.1 37 = h.1 37 := x2 37 (by decide) (by decide) (by decide)
      have fr : ∀ c', c' ≠ 5 → c' ≠ 36 → c' ≠ 37 → c' ≠ 38 → c' ≠ 39 → h2.1 c' = hs.1 c' := fun c' y1 y2 y3 y4 y5 => (x2 c' y1 y4 y5).trans (s2 c' y1 y2 y3 y4 y5)
      rcases hr with ⟨rfl, F, L, d1, d2, d3, d4⟩ | ⟨b, hb, rfl, hh, F, L, d1, d2, d3, d4, d5⟩
      · refine (show AW _ _ _ _ _ _ _ (.int (-4) :: _) _ from ?_)
        refine aw_is4 K dX0_most_47 (by decide) rfl ?_
        refine aw_il4 K dX0_most_49 ?_
        refine aw_if_ge (tgt := 57) K dX0_most_51 (by decide) (fun b51 => ?_) (fun b51 => ?_)
        · exact absurd b51 (by decide)
        · refine aw_goto (tgt := 72) K dX0_most_54 (by decide) ?_
          refine aw_il2 K dX0_most_72 ?_
          refine aw_iret K rfl dX0_most_73 ?_
          refine ⟨x1, fr, sm, F, L, rI (h.1 36), rfl, s3, d1, fun x y hx hy fx fy => ?_, d3, d4⟩
          have z1 := s3.1 x y hx hy
          have z2 := d2 x y hx hy fx fy
          omega
      · refine (show AW _ _ _ _ _ _ _ (.int (nI b) :: _) _ from ?_)
        refine aw_is4 K dX0_most_47 (by decide) rfl ?_
        refine aw_il4 K dX0_most_49 ?_
        refine aw_if_ge (tgt := 57) K dX0_most_51 (by decide) (fun b51 => ?_) (fun b51 => ?_)
        · obtain ⟨l2, k1, k2, k3⟩ := ek.next d1 d2 hb hh d3 d4
          have n13 : b ≠ 13 := fun z => by rw [z, h13] at hh; cases hh
          rw [← e36] at s3 s5 d1 k1
          have op2 : OPX h2 (rI (h2.1 36)) := fun p q hp hq => by
            rw [e37]
            exact s5 p q hp hq
          refine aw_il2 K dX0_most_57 ?_
          refine aw_al0 K dX0_most_58 ?_
          refine aw_il4 K dX0_most_59 ?_
          refine aw_callV K (puX l g sta _ b hb n13 h0 x1 c hC _ _ s3 op2 F L l2 d1 d3 d5 k2 k3 k1.2.1) rfl (by decide) fX0_push lX0_50 dX0_most_61 rfl clsX0 rfl (Nat.le_of_ble_eq_true rfl) (fun o h2 hq => ?_)
          obtain ⟨u, rfl, hu, y1, y2, y3, y4, y5, p, q, hp1, hq1, w1, w2, w3⟩ := hq
          have u0 := pos_I.mp hu
          have fi3 := y3.end s3 (by decide) hh n13
          have b3 := hB _ _ fi3
          have es : (sm + u).toInt = sm.toInt + u.toInt := toI_add (by omega) (by omega)
          refine (show AW _ _ _ _ _ _ _ (.int u :: _) _ from ?_)
          refine aw_iadd K dX0_most_64 ?_
          refine aw_is2 K dX0_most_65 (by decide) rfl ?_
          refine aw_ii3 (v := _ + 1) K dX0_most_66 rfl (by decide) rfl ?_
          refine aw_goto (tgt := 35) K dX0_most_69 (by decide) ?_
          rw [nI_1]
          refine aw_sub [some (.ref (g.2.1 5)), some (.int hp), some (.int _), some (.int _), none] ⟨rfl, rfl, rfl, rfl, trivial⟩ ?_
          refine ih (i + 1) _ _ (by omega) (by omega) ⟨y1, fun c' z1 z2 z3 z4 z5 => (y2 c' z2 z3).trans (fr c' z1 z2 z3 z4 z5), ?_, ?_, y5, l2, L b, d5, k1.step y4 hp1 hq1 w1 w2 w3⟩
          · rw [es]
            exact fi3
          · rw [es]
            omega
        · exact absurd (nI_le (a := 0) (Nat.zero_le b) (by omega)) b51
set_option maxHeartbeats 4000000 in
set_option maxRecDepth 100000 in
theorem moX (l : Launch) (g : Geo) (sta : Nat → Nat) (h : HS) (hp : Int32) (h0 : HS) (hq : XQ h0 h) (c : Nat → Nat → Int) (c0 : ∀ a b, a < 14 → b < 14 → 0 ≤ c a b) (hC : ∀ a b, a < 14 → b < 14 → c a b + c b a < 2147483648) (hB : ∀ r v, FI c r 13 (fun x => bt hp x = true) v → v < 2147483648) (h13 : bt hp 13 = false) (hL : LWX h c) : CT (wX l g sta) 3 mX0_most [.ref (g.2.1 5), .int hp] h (MQX h0 h c hp) := by
  refine CT.at [some (.ref (g.2.1 5)), some (.int hp), none, none, none] 3 rfl (by decide) (Nat.le_of_ble_eq_true rfl) (fun k K => ?_)
  refine aw_al0 K dX0_most_0 ?_
  refine aw_getR K gX0_11 dX0_most_1 rfl rfl ?_
  refine aw_iconst (v := 0) K dX0_most_4 (by decide) ?_
  refine aw_al0 K dX0_most_5 ?_
  refine aw_getR K gX0_18 dX0_most_6 rfl rfl ?_
  refine aw_iconst (v := 0) K dX0_most_9 (by decide) ?_
  refine aw_sipush (v := 196) K dX0_most_10 (by decide) ?_
  refine aw_copy K cpX0_40 cpnat rfl rfl (by decide) (by decide) (by decide) (by decide) (by decide) (by decide) (by decide) dX0_most_13 ?_
  refine aw_al0 K dX0_most_16 ?_
  refine aw_getR K gX0_15 dX0_most_17 rfl rfl ?_
  refine aw_iconst (v := 0) K dX0_most_20 (by decide) ?_
  refine aw_al0 K dX0_most_21 ?_
  refine aw_getR K gX0_21 dX0_most_22 rfl rfl ?_
  refine aw_iconst (v := 0) K dX0_most_25 (by decide) ?_
  refine aw_bipush (v := 14) K dX0_most_26 (by decide) ?_
  refine aw_copy K cpX0_40 cpnat rfl rfl (by decide) (by decide) (by decide) (by decide) (by decide) (by decide) (by decide) dX0_most_28 ?_
  refine aw_iconst (v := 0) K dX0_most_31 (by decide) ?_
  refine aw_is2 K dX0_most_32 (by decide) rfl ?_
  refine aw_iconst (v := 0) K dX0_most_33 (by decide) ?_
  refine aw_is3 K dX0_most_34 (by decide) rfl ?_
  have e36 : ∀ a b, a < 14 → b < 14 → rI (va_cpy (h.1 34) (h.1 36) (Int32.toNatClampNeg 0) (Int32.toNatClampNeg 0) (Int32.toNatClampNeg 196)) a b = c a b := fun a b ha hb => by
    rw [← hL.1 a b ha hb]
    exact congrArg Int32.toInt (cp_at (n := 196) rfl (by omega))
  have fi : FI c (rI (va_cpy (h.1 34) (h.1 36) (Int32.toNatClampNeg 0) (Int32.toNatClampNeg 0) (Int32.toNatClampNeg 196))) 13 (fun x => bt hp x = true) 0 := FI.st (by decide) e36 c0
  refine lrX0_most K h0 h c hC hp hB h13 10001 0 0 _ (by omega) (by omega) ⟨(hq.row rfl (by decide)).row rfl (by decide), fun c' y1 y2 y3 y4 y5 => ?_, fi, by decide, fun a b ha hb => ?_, fun _ => 0, 0, by decide, EK_0⟩
  · rw [rdR, if_neg y3, rdR, if_neg y2]
  · refine Iff.trans ?_ ((hL.2 a b ha hb).trans (by rw [← e36 a b ha hb]; exact Iff.rfl))
    have z : (va_cpy (h.1 35) (h.1 37) (Int32.toNatClampNeg 0) (Int32.toNatClampNeg 0) (Int32.toNatClampNeg 14)) a = h.1 35 a := cp_at (n := 14) rfl ha
    rw [← z]
    exact Iff.rfl

