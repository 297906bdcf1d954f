def fN (h : HS) (x : Nat) : Nat := (h.1 38 x).toNatClampNeg
def qN (h : HS) (x : Nat) : Nat := (h.1 39 x).toNatClampNeg
theorem fN_s {h : HS} {b a : Nat} (ha : a < 2 ^ 31) : fN (setI h 38 b (nI a)) = NU (fN h) b a := by
  funext x
  show ((setI h 38 b (nI a)).1 38 x).toNatClampNeg = if x = b then a else (h.1 38 x).toNatClampNeg
  rw [rdI]
  by_cases q : x = b
  · rw [if_pos ⟨rfl, q⟩, if_pos q, nI_clamp ha]
  · rw [if_neg (fun z => q z.2), if_neg q]
theorem qN_s {h : HS} {b a : Nat} (ha : a < 2 ^ 31) : qN (setI h 39 b (nI a)) = NU (qN h) b a := by
  funext x
  show ((setI h 39 b (nI a)).1 39 x).toNatClampNeg = if x = b then a else (h.1 39 x).toNatClampNeg
  rw [rdI]
  by_cases q : x = b
  · rw [if_pos ⟨rfl, q⟩, if_pos q, nI_clamp ha]
  · rw [if_neg (fun z => q z.2), if_neg q]
def SF (hs h : HS) : Prop := ∀ c, c ≠ 5 → c ≠ 38 → c ≠ 39 → h.1 c = hs.1 c
theorem SF.pt {hs h : HS} {c0 j : Nat} {v : Int32} (s : SF hs h) (hc : c0 = 5 ∨ c0 = 38 ∨ c0 = 39) : SF hs (setI h c0 j v) := fun c q1 q2 q3 => (setI_w (by omega)).trans (s c q1 q2 q3)
/-- between two of the queue -/
def SS (h0 hs h : HS) (r : Nat → Nat → Int) (hp : Int32) (F : Nat → Bool) (L ps : Nat → Nat) (wq nx : Nat) : Prop := XQ h0 h ∧ SF hs h ∧ BF r (bt hp) (fN h) (qN h) F L ps wq nx ∧ (∀ x, x < 14 → (bt (h.1 5 6) x = true ↔ F x = true)) ∧ ∀ j, j < wq → vp_in (h.1 39 j) 14
/-- within one of the queue: a, whom it meets (met), how far that is gone through (b) -/
def SN (h0 hs h : HS) (r : Nat → Nat → Int) (hp met : Int32) (F0 F : Nat → Bool) (L ps : Nat → Nat) (wq nx a b : Nat) : Prop := XQ h0 h ∧ SF hs h ∧ BF r (bt hp) (fN h) (qN h) F L ps wq nx ∧ (∀ j, j < wq → vp_in (h.1 39 j) 14) ∧ nx < wq ∧ qN h nx = a ∧ (∀ x, x < 14 → (bt (h.1 5 6) x = true ↔ F0 x = true ∨ bt met x = true)) ∧ ∀ x, x < 14 → (F x = true ↔ F0 x = true ∨ (x < b ∧ bt met x = true))
def MIX (r : Nat → Nat → Int) (met : Int32) (F0 : Nat → Bool) (a : Nat) : Prop := ∀ x, x < 14 → (bt met x = true ↔ 0 < r a x ∧ F0 x = false)
theorem SN.out {h0 hs h : HS} {r : Nat → Nat → Int} {hp met : Int32} {F0 F : Nat → Bool} {L ps : Nat → Nat} {wq nx a b : Nat} (s : SN h0 hs h r hp met F0 F L ps wq nx a b) (m : MIX r met F0 a) (hc : ∀ y, y < 14 → bt met y = true → F y = true) : SS h0 hs h r hp F L ps wq (nx + 1) := by
  obtain ⟨s1, s2, s3, s4, s5, s6, s7, s8⟩ := s
  refine ⟨s1, s2, s3.nxt s5 (fun y hy hr => ?_), fun x hx => ?_, s4⟩
  · rw [s6] at hr
    cases z : F0 y
    · exact hc y hy ((m y hy).mpr ⟨hr, z⟩)
    · exact (s8 y hy).mpr (Or.inl z)
  · rw [s7 x hx]
    constructor
    · rintro (z | z)
      · exact (s8 x hx).mpr (Or.inl z)
      · exact hc x hx z
    · intro z
      exact ((s8 x hx).mp z).imp id (fun y => y.2)
theorem SN.skip {h0 hs h : HS} {r : Nat → Nat → Int} {hp met : Int32} {F0 F : Nat → Bool} {L ps : Nat → Nat} {wq nx a b : Nat} (s : SN h0 hs h r hp met F0 F L ps wq nx a b) (hb : bt met b = false) : SN h0 hs h r hp met F0 F L ps wq nx a (b + 1) := by
  obtain ⟨s1, s2, s3, s4, s5, s6, s7, s8⟩ := s
  refine ⟨s1, s2, s3, s4, s5, s6, s7, fun x hx => ?_⟩
  rw [s8 x hx]
  refine or_congr Iff.rfl ⟨fun z => ⟨by omega, z.2⟩, fun z => ⟨?_, z.2⟩⟩
  rcases Nat.lt_or_ge x b with y | y
  · exact y
  · have e : x = b := by omega
    rw [e, hb] at z
    exact absurd z.2 (by decide)
theorem SN.new {h0 hs h : HS} {r : Nat → Nat → Int} {hp met : Int32} {F0 F : Nat → Bool} {L ps : Nat → Nat} {wq nx a b : Nat} (s : SN h0 hs h r hp met F0 F L ps wq nx a b) (m : MIX r met F0 a) (hb : b < 14) (hm : bt met b = true) : F b = false ∧ 0 < r (qN h nx) b := by
  obtain ⟨s1, s2, s3, s4, s5, s6, s7, s8⟩ := s
  have q := (m b hb).mp hm
  refine ⟨?_, by rw [s6]; exact q.1⟩
  cases z : F b
  · rfl
  · rcases (s8 b hb).mp z with y | y
    · rw [q.2] at y
      cases y
    · omega
theorem SN.put {h0 hs h : HS} {r : Nat → Nat → Int} {hp met : Int32} {F0 F : Nat → Bool} {L ps : Nat → Nat} {wq nx a b : Nat} (s : SN h0 hs h r hp met F0 F L ps wq nx a b) (m : MIX r met F0 a) (ha : a < 14) (hb : b < 14) (hw : wq < 14) (hm : bt met b = true) (hh : bt hp b = false) : SN h0 hs (setI (setI h 38 b (nI a)) 39 wq (nI b)) r hp met F0 (FU F b) (NU L b (L (qN h nx) + 1)) (NU ps b wq) (wq + 1) nx a (b + 1) := by
  obtain ⟨n1, n2⟩ := s.new m hb hm
  obtain ⟨s1, s2, s3, s4, s5, s6, s7, s8⟩ := s
  have ef : fN (setI (setI h 38 b (nI a)) 39 wq (nI b)) = NU (fN h) b (qN h nx) := by
    rw [s6, ← fN_s (by omega)]
    funext x
    rfl
  have eq : qN (setI (setI h 38 b (nI a)) 39 wq (nI b)) = NU (qN h) wq b := by
    rw [qN_s (by omega)]
    funext x
    rfl
  refine ⟨(s1.fr (vp_in_nI ha (by decide))).pt rfl (by decide), (s2.pt (by omega)).pt (by omega), ?_, fun j hj => ?_, by omega, ?_, s7, fun x hx => ?_⟩
  · rw [ef, eq]
    exact s3.add s5 hb n1 n2 hh
  · rw [rdI]
    split
    · exact vp_in_nI hb (by decide)
    · rename_i q
      exact s4 j (by
        rcases Nat.lt_or_ge j wq with z | z
        · exact z
        · exact absurd ⟨rfl, by omega⟩ q)
  · rw [eq, NU_o (by omega)]
    exact s6
  · by_cases z : x = b
    · subst z
      exact ⟨fun _ => Or.inr ⟨Nat.lt_succ_self _, hm⟩, fun _ => FU_s⟩
    · rw [FU_o z, s8 x hx]
      exact or_congr Iff.rfl ⟨fun y => ⟨by omega, y.2⟩, fun y => ⟨by omega, y.2⟩⟩
theorem bt_end {met : Int32} {b : Nat} (hb : b < 32) (h : met >>> (nI b &&& 31) = 0) {y : Nat} (hy : y < 32) (hm : bt met y = true) : y < b := by
  rcases Nat.lt_or_ge y b with q | q
  · exact q
  · have e : bt (met >>> (nI b &&& 31)) (y - b) = bt 0 (y - b) := by rw [h]
    rw [b_sshr b hb met (by omega), if_pos (by omega), b_0, show b + (y - b) = y by omega, hm] at e
    cases e
/-- what a search leaves -/
def SQX (h0 hs : HS) (r : Nat → Nat → Int) (hp : Int32) : Option Value → HS → Prop := fun o h' => XQ h0 h' ∧ SF hs h' ∧ ((o = some (.int (-4)) ∧ ∃ F L, RC r 13 F L ∧ (∀ x y, x < 14 → y < 14 → F x = true → F y = false → ¬ 0 < r x y) ∧ (∀ x, x < 14 → F x = true → bt hp x = false) ∧ ∀ x, x < 14 → (bt (h'.1 5 6) x = true ↔ F x = true)) ∨ ∃ b, b < 14 ∧ o = some (.int (nI b)) ∧ bt hp b = true ∧ ∃ F L, CH r 13 (fN h') F L ∧ (∀ x y, x < 14 → y < 14 → 0 < r x y → L y ≤ L x + 1) ∧ F b = true ∧ (∀ x, x < 14 → bt hp x = true → L b ≤ L x) ∧ L b ≤ 14)
theorem SN.end {h0 hs h : HS} {r : Nat → Nat → Int} {hp met : Int32} {F0 F : Nat → Bool} {L ps : Nat → Nat} {wq nx a b : Nat} (s : SN h0 hs h r hp met F0 F L ps wq nx a b) (m : MIX r met F0 a) (ha : a < 14) (hb : b < 14) (hm : bt met b = true) (hh : bt hp b = true) : SQX h0 hs r hp (some (.int (nI b))) (setI h 38 b (nI a)) := by
  obtain ⟨n1, n2⟩ := s.new m hb hm
  obtain ⟨s1, s2, s3, s4, s5, s6, s7, s8⟩ := s
  obtain ⟨F', L', c1, c2, c3, c4, c5⟩ := s3.found s5 hb n1 n2
  refine ⟨s1.fr (vp_in_nI ha (by decide)), s2.pt (by omega), Or.inr ⟨b, hb, rfl, hh, F', L', ?_, c2, c3, c4, c5⟩⟩
  rw [fN_s (by omega), ← s6]
  exact c1
theorem SS.end {h0 hs h : HS} {r : Nat → Nat → Int} {hp : Int32} {F : Nat → Bool} {L ps : Nat → Nat} {wq nx : Nat} (s : SS h0 hs h r hp F L ps wq nx) (hn : wq ≤ nx) : SQX h0 hs r hp (some (.int (-4))) h := by
  obtain ⟨s1, s2, s3, s4, s5⟩ := s
  obtain ⟨d1, d2, d3⟩ := s3.done hn
  exact ⟨s1, s2, Or.inl ⟨rfl, F, L, d1, d2, d3, s4⟩⟩
/-- to whom there is room: what is left is above 0 -/
def OPX (h : HS) (r : Nat → Nat → Int) : Prop := ∀ a b, a < 14 → b < 14 → (bt (h.1 37 a) b = true ↔ 0 < r a b)
theorem SS.in {h0 hs h : HS} {r : Nat → Nat → Int} {hp : Int32} {F : Nat → Bool} {L ps : Nat → Nat} {wq nx a : Nat} (s : SS h0 hs h r hp F L ps wq nx) (op : OPX h r) (ha : a < 14) (hn : nx < wq) (ea : h.1 39 nx = nI a) : MIX r (h.1 37 a &&& (h.1 5 6 ^^^ (-1))) F a ∧ SN h0 hs (setI h 5 6 (h.1 5 6 ||| (h.1 37 a &&& (h.1 5 6 ^^^ (-1))))) r hp (h.1 37 a &&& (h.1 5 6 ^^^ (-1))) F F L ps wq nx a 0 := by
  obtain ⟨s1, s2, s3, s4, s5⟩ := s
  refine ⟨fun x hx => ?_, s1.pt rfl (by decide), s2.pt (by omega), s3, s5, hn, ?_, fun x hx => ?_, fun x hx => ⟨Or.inl, fun z => z.elim id (fun y => absurd y.1 (Nat.not_lt_zero _))⟩⟩
  · rw [b_and, b_xor, b_m1' x (by omega), Bool.and_eq_true, op a x ha hx]
    refine and_congr Iff.rfl ?_
    cases z : F x
    · have e : bt (h.1 5 6) x = false := by
        cases y : bt (h.1 5 6) x
        · rfl
        · rw [(s4 x hx).mp y] at z
          cases z
      rw [e]
      decide
    · rw [(s4 x hx).mpr z]
      decide
  · show (h.1 39 nx).toNatClampNeg = a
    rw [ea, nI_clamp (by omega)]
  · rw [rdI, if_pos ⟨rfl, rfl⟩, b_or, Bool.or_eq_true, s4 x hx]
set_option maxHeartbeats 4000000 in
set_option maxRecDepth 100000 in
theorem lq2X0_search {l : Launch} {g : Geo} {sta : Nat → Nat} {k : KT} (K : AOK (wX l g sta) mX0_search k) (h0 hs : HS) (r : Nat → Nat → Int) (hp met : Int32) (F0 : Nat → Bool) (a nx : Nat) (ha : a < 14) (m : MIX r met F0 a)
    (hk : ∀ (wq : Nat) (h : HS) (F : Nat → Bool) (L ps : Nat → Nat), wq ≤ 14 → SS h0 hs h r hp F L ps wq (nx + 1) → AW (wX l g sta) (SQX h0 hs r hp) 2 mX0_search k 140 [some (.ref (g.2.1 5)), some (.int hp), some (.int (nI wq)), some (.int (nI nx)), none, none, none] [] h) :
    ∀ (n b wq : Nat) (h : HS) (F : Nat → Bool) (L ps : Nat → Nat), b ≤ 14 → 14 - b < n → SN h0 hs h r hp met F0 F L ps wq nx a b → AW (wX l g sta) (SQX h0 hs r hp) 2 mX0_search k 68 [some (.ref (g.2.1 5)), some (.int hp), some (.int (nI wq)), some (.int (nI nx)), some (.int (nI a)), some (.int met), some (.int (nI b))] [] h := by
  intro n
  induction n with
  | zero => intro b wq h F L ps h1 h2; omega
  | succ n ih =>
    intro b wq h F L ps h1 h2 s
    have hw14 := s.2.2.1.le
    have s8 := s.2.2.2.2.2.2.2
    refine aw_il6 K dX0_search_68 ?_
    refine aw_bipush (v := 14) K dX0_search_70 (by decide) ?_
    refine aw_icmp_ge (tgt := 140) K dX0_search_72 (by decide) (fun b72 => ?_) (fun b72 => ?_)
    · have hge : 14 ≤ b := (nI_leI (a := 14) (by omega) (by omega : b < 2 ^ 31)).mp b72
      refine aw_sub [some (.ref (g.2.1 5)), some (.int hp), some (.int (nI wq)), some (.int (nI nx)), none, none, none] ⟨rfl, rfl, rfl, rfl, trivial⟩ ?_
      exact hk wq h F L ps hw14 (s.out m (fun y hy hm => (s8 y hy).mpr (Or.inr ⟨by omega, hm⟩)))
    · have hlt : b < 14 := by
        rcases Nat.lt_or_ge b 14 with q | q
        · exact q
        · exact absurd (nI_le (a := 14) q (by omega)) b72
      refine aw_il2 K dX0_search_75 ?_
      refine aw_bipush (v := 14) K dX0_search_76 (by decide) ?_
      refine aw_icmp_ge (tgt := 140) K dX0_search_78 (by decide) (fun b78 => ?_) (fun b78 => ?_)
      · have hge : 14 ≤ wq := (nI_leI (a := 14) (by omega) (by omega : wq < 2 ^ 31)).mp b78
        refine aw_sub [some (.ref (g.2.1 5)), some (.int hp), some (.int (nI wq)), some (.int (nI nx)), none, none, none] ⟨rfl, rfl, rfl, rfl, trivial⟩ ?_
        exact hk wq h F L ps hw14 (s.out m (fun y hy hm => s.2.2.1.full hge y hy))
      · have hlt2 : wq < 14 := by
          rcases Nat.lt_or_ge wq 14 with q | q
          · exact q
          · exact absurd (nI_le (a := 14) q (by omega)) b78
        refine aw_il5 K dX0_search_81 ?_
        refine aw_il6 K dX0_search_83 ?_
        refine aw_ishr K dX0_search_85 ?_
        refine aw_if_eq (tgt := 140) K dX0_search_86 (by decide) (fun b86 => ?_) (fun b86 => ?_)
        · refine aw_sub [some (.ref (g.2.1 5)), some (.int hp), some (.int (nI wq)), some (.int (nI nx)), none, none, none] ⟨rfl, rfl, rfl, rfl, trivial⟩ ?_
          exact hk wq h F L ps hw14 (s.out m (fun y hy hm => (s8 y hy).mpr (Or.inr ⟨bt_end (by omega) b86 (by omega) hm, hm⟩)))
        · refine aw_il5 K dX0_search_89 ?_
          refine aw_il6 K dX0_search_91 ?_
          refine aw_callSN_I K (tX6_hasBit l g sta _ _ _) rfl (by decide) fX6_hasBit lX0_57 dX0_search_93 rfl (Nat.le_of_ble_eq_true rfl) ?_
          refine aw_if_ne (tgt := 102) K dX0_search_96 (by decide) (fun b96 => ?_) (fun b96 => ?_)
          · have hm : bt met b = true := (hb_i (by omega)).mp (bI_1.mp b96)
            refine aw_al0 K dX0_search_102 ?_
            refine aw_getR K gX0_24 dX0_search_103 rfl rfl ?_
            refine aw_il6 K dX0_search_106 ?_
            refine aw_il4 K dX0_search_108 ?_
            refine aw_iast K dX0_search_110 rfl (vp_in_nI hlt (by decide)) ?_
            refine aw_il1 K dX0_search_111 ?_
            refine aw_il6 K dX0_search_112 ?_
            refine aw_callSN_I K (tX6_hasBit l g sta _ _ _) rfl (by decide) fX6_hasBit lX0_57 dX0_search_114 rfl (Nat.le_of_ble_eq_true rfl) ?_
            refine aw_if_eq (tgt := 123) K dX0_search_117 (by decide) (fun b117 => ?_) (fun b117 => ?_)
            · have hh : bt hp b = false := by
                cases z : bt hp b
                · rfl
                · exact absurd ((hb_i (by omega)).mpr z) (bI_0.mp b117)
              refine aw_al0 K dX0_search_123 ?_
              refine aw_getR K gX0_27 dX0_search_124 rfl rfl ?_
              refine aw_il2 K dX0_search_127 ?_
              refine aw_il6 K dX0_search_128 ?_
              refine aw_iast K dX0_search_130 rfl (vp_in_nI hlt2 (by decide)) ?_
              rw [nI_clamp (show wq < 2 ^ 31 by omega), nI_clamp (show b < 2 ^ 31 by omega)]
              refine aw_ii2 (v := _ + 1) K dX0_search_131 rfl (by decide) rfl ?_
              refine aw_ii6 (v := _ + 1) K dX0_search_134 rfl (by decide) rfl ?_
              refine aw_goto (tgt := 68) K dX0_search_137 (by decide) ?_
              rw [nI_1, nI_1]
              exact ih (b + 1) (wq + 1) _ _ _ _ (by omega) (by omega) (s.put m ha hlt hlt2 hm hh)
            · have hh : bt hp b = true := (hb_i (by omega)).mp (bI_1.mp b117)
              refine aw_il6 K dX0_search_120 ?_
              refine aw_iret K rfl dX0_search_122 ?_
              rw [nI_clamp (show b < 2 ^ 31 by omega)]
              exact s.end m ha hlt hm hh
          · have hm : bt met b = false := by
              cases z : bt met b
              · rfl
              · exact absurd ((hb_i (by omega)).mpr z) (bI_0.mp b96)
            refine aw_goto (tgt := 134) K dX0_search_99 (by decide) ?_
            refine aw_ii6 (v := _ + 1) K dX0_search_134 rfl (by decide) rfl ?_
            refine aw_goto (tgt := 68) K dX0_search_137 (by decide) ?_
            rw [nI_1]
            exact ih (b + 1) wq h F L ps (by omega) (by omega) (s.skip hm)
set_option maxHeartbeats 4000000 in
set_option maxRecDepth 100000 in
theorem lq1X0_search {l : Launch} {g : Geo} {sta : Nat → Nat} {k : KT} (K : AOK (wX l g sta) mX0_search k) (h0 hs : HS) (r : Nat → Nat → Int) (op : OPX hs r) (hp : Int32) :
    ∀ (n nx wq : Nat) (h : HS) (F : Nat → Bool) (L ps : Nat → Nat), nx ≤ 14 → 14 - nx < n → SS h0 hs h r hp F L ps wq nx → AW (wX l g sta) (SQX h0 hs r hp) 2 mX0_search k 19 [some (.ref (g.2.1 5)), some (.int hp), some (.int (nI wq)), some (.int (nI nx)), none, none, none] [] h := by
  intro n
  induction n with
  | zero => intro nx wq h F L ps h1 h2; omega
  | succ n ih =>
    intro nx wq h F L ps h1 h2 s
    have hw14 := s.2.2.1.le
    have op2 : OPX h r := fun a b ha hb => by
      rw [s.2.1 37 (by decide) (by decide) (by decide)]
      exact op a b ha hb
    refine aw_il3 K dX0_search_19 ?_
    refine aw_il2 K dX0_search_20 ?_
    refine aw_icmp_ge (tgt := 146) K dX0_search_21 (by decide) (fun b21 => ?_) (fun b21 => ?_)
    · have hge : wq ≤ nx := (nI_leI (a := wq) (by omega) (by omega : nx < 2 ^ 31)).mp b21
      refine aw_bipush (v := (-4)) K dX0_search_146 (by decide) ?_
      refine aw_iret K rfl dX0_search_148 ?_
      exact s.end (by omega)
    · have hlt : nx < wq := by
        rcases Nat.lt_or_ge nx wq with q | q
        · exact q
        · exact absurd (nI_le (a := wq) q (by omega)) b21
      refine aw_il3 K dX0_search_24 ?_
      refine aw_bipush (v := 14) K dX0_search_25 (by decide) ?_
      refine aw_icmp_ge (tgt := 146) K dX0_search_27 (by decide) (fun b27 => ?_) (fun b27 => ?_)
      · have hge : 14 ≤ nx := (nI_leI (a := 14) (by omega) (by omega : nx < 2 ^ 31)).mp b27
        refine aw_bipush (v := (-4)) K dX0_search_146 (by decide) ?_
        refine aw_iret K rfl dX0_search_148 ?_
        exact s.end (by omega)
      · have hlt2 : nx < 14 := by
          rcases Nat.lt_or_ge nx 14 with q | q
          · exact q
          · exact absurd (nI_le (a := 14) q (by omega)) b27
        refine aw_al0 K dX0_search_30 ?_
        refine aw_getR K gX0_27 dX0_search_31 rfl rfl ?_
        refine aw_il3 K dX0_search_34 ?_
        refine aw_iald K dX0_search_35 rfl (vp_in_nI hlt2 (by decide)) ?_
        obtain ⟨a, ha, ea⟩ := vp_in_of (s.2.2.2.2 nx hlt) (by decide)
        rw [nI_clamp (show nx < 2 ^ 31 by omega), ea]
        refine aw_is4 K dX0_search_36 (by decide) rfl ?_
        refine aw_al0 K dX0_search_38 ?_
        refine aw_getR K gX0_21 dX0_search_39 rfl rfl ?_
        refine aw_il4 K dX0_search_42 ?_
        refine aw_iald K dX0_search_44 rfl (vp_in_nI ha (by decide)) ?_
        rw [nI_clamp (show a < 2 ^ 31 by omega)]
        refine aw_al0 K dX0_search_45 ?_
        refine aw_getI K gX0_53 dX0_search_46 rfl rfl ?_
        refine aw_iconst (v := (-1)) K dX0_search_49 (by decide) ?_
        refine aw_ixor K dX0_search_50 ?_
        refine aw_iand K dX0_search_51 ?_
        refine aw_is5 K dX0_search_52 (by decide) rfl ?_
        refine aw_al0 K dX0_search_54 ?_
        refine aw_dup K dX0_search_55 rfl ?_
        refine aw_getI K gX0_53 dX0_search_56 rfl rfl ?_
        refine aw_il5 K dX0_search_59 ?_
        refine aw_ior K dX0_search_61 ?_
        refine aw_putI K gX0_53 fpX0_6 dX0_search_62 rfl rfl ?_
        refine aw_iconst (v := 0) K dX0_search_65 (by decide) ?_
        refine aw_is6 K dX0_search_66 (by decide) rfl ?_
        obtain ⟨mi, sn⟩ := s.in op2 ha hlt ea
        refine lq2X0_search K h0 hs r hp _ F a nx ha mi (fun wq h F L ps hw s => ?_) 15 0 wq _ F L ps (by omega) (by omega) sn
        refine aw_ii3 (v := _ + 1) K dX0_search_140 rfl (by decide) rfl ?_
        refine aw_goto (tgt := 19) K dX0_search_143 (by decide) ?_
        rw [nI_1]
        exact ih (nx + 1) wq h F L ps (by omega) (by omega) s
theorem bt_8192 : ∀ x, x < 14 → (bt 8192 x = true ↔ decide (x = 13) = true) := by decide +kernel
theorem SS.st {h0 h : HS} {r : Nat → Nat → Int} {hp : Int32} (hq : XQ h0 h) (h13 : bt hp 13 = false) : SS h0 h (setI (setI h 5 6 8192) 39 0 13) r hp (fun x => decide (x = 13)) (fun _ => 0) (fun _ => 0) 1 0 := by
  refine ⟨(hq.pt rfl (by decide)).pt rfl (by decide), fun c q1 q2 q3 => (setI_w q3).trans (setI_w q1), BF.st h13 rfl, bt_8192, fun j hj => ?_⟩
  obtain rfl : j = 0 := by omega
  exact v13
set_option maxHeartbeats 4000000 in
set_option maxRecDepth 100000 in
theorem seX (l : Launch) (g : Geo) (sta : Nat → Nat) (h : HS) (hp : Int32) (h0 : HS) (hq : XQ h0 h) (r : Nat → Nat → Int) (op : OPX h r) (h13 : bt hp 13 = false) : CT (wX l g sta) 2 mX0_search [.ref (g.2.1 5), .int hp] h (SQX h0 h r hp) := by
  refine CT.at [some (.ref (g.2.1 5)), some (.int hp), none, none, none, none, none] 5 rfl (by decide) (Nat.le_of_ble_eq_true rfl) (fun k K => ?_)
  refine aw_al0 K dX0_search_0 ?_
  refine aw_sipush (v := 8192) K dX0_search_1 (by decide) ?_
  refine aw_putI K gX0_53 fpX0_6 dX0_search_4 rfl rfl ?_
  refine aw_al0 K dX0_search_7 ?_
  refine aw_getR K gX0_27 dX0_search_8 rfl rfl ?_
  refine aw_iconst (v := 0) K dX0_search_11 (by decide) ?_
  refine aw_bipush (v := 13) K dX0_search_12 (by decide) ?_
  refine aw_iast K dX0_search_14 rfl (vp_in_nI (n := 0) (by decide) (by decide)) ?_
  refine aw_iconst (v := 1) K dX0_search_15 (by decide) ?_
  refine aw_is2 K dX0_search_16 (by decide) rfl ?_
  refine aw_iconst (v := 0) K dX0_search_17 (by decide) ?_
  refine aw_is3 K dX0_search_18 (by decide) rfl ?_
  exact lq1X0_search K h0 h r op hp 15 0 1 _ _ _ _ (by omega) (by omega) (SS.st hq h13)

