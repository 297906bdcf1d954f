theorem cpnat : Cond.native arraycopyName ∈ aw_tb := aw_in 274 (by decide +kernel) rfl
theorem cpX6_69 : CPW RX6 69 := ⟨aw_in 272 (by decide +kernel) rfl, List.mem_of_getElem? (i := 274) (by decide +kernel), aw_in 273 (by decide +kernel) rfl, aw_in 86 (by decide +kernel) rfl⟩
theorem cpX0_40 : CPW RX0 40 := ⟨aw_in 597 (by decide +kernel) rfl, List.mem_of_getElem? (i := 274) (by decide +kernel), aw_in 273 (by decide +kernel) rfl, aw_in 86 (by decide +kernel) rfl⟩
/-- a place of the flow, or NONE -/
def QG (h0 : HS) : Option Value → HS → Prop := fun o h' => (o = some (.int (-4)) ∨ ∃ b : Nat, b < 14 ∧ o = some (.int (nI b))) ∧ XQ h0 h'
def SI (h0 h : HS) (wq : Nat) : Prop := XQ h0 h ∧ 1 ≤ wq ∧ wq ≤ 14 ∧ ∀ j, j < wq → vp_in (h.1 39 j) 14
theorem SI.put {h0 h : HS} {wq b : Nat} (s : SI h0 h wq) (hb : b < 14) (hw : wq < 14) : SI h0 (setI h 39 wq (nI b)) (wq + 1) := by
  refine ⟨s.1.pt rfl (by decide), by omega, by omega, fun j hj => ?_⟩
  rw [rdI]
  split
  · exact vp_in_nI hb (by decide)
  · rename_i q
    exact s.2.2.2 j (by
      rcases Nat.lt_or_ge j wq with z | z
      · exact z
      · exact absurd ⟨rfl, by omega⟩ q)
theorem SI.fr {h0 h : HS} {wq j : Nat} {v : Int32} (s : SI h0 h wq) (hv : vp_in v 14) : SI h0 (setI h 38 j v) wq := by
  refine ⟨s.1.fr hv, s.2.1, s.2.2.1, fun j hj => ?_⟩
  have := s.2.2.2 j hj
  simpa [rdI] using this
theorem SI.re {h0 h : HS} {wq j : Nat} {v : Int32} (s : SI h0 h wq) : SI h0 (setI h 5 j v) wq := by
  refine ⟨s.1.pt rfl (by decide), s.2.1, s.2.2.1, fun j hj => ?_⟩
  have := s.2.2.2 j hj
  simpa [rdI] using this
set_option maxHeartbeats 4000000 in
set_option maxRecDepth 100000 in
theorem lp2X0_search {l : Launch} {g : Geo} {sta : Nat → Nat} {k : KT} (K : AOK (wX l g sta) mX0_search k) (h0 : HS) (hp a met : Int32) (ha : vp_in a 14) (nx : Nat)
    (hk : ∀ (wq : Nat) (h : HS), SI h0 h wq → AW (wX l g sta) (QG h0) 2 mX0_search k 140 [some (.ref (g.2.1 5)), some (.int hp), some (.int (nI wq)), some (.int (nI nx)), none, none, none] [] h) :
    ∀ (n b wq : Nat) (h : HS), b ≤ 14 → 14 - b < n → SI h0 h wq → AW (wX l g sta) (QG h0) 2 mX0_search k 68 [some (.ref (g.2.1 5)), some (.int hp), some (.int (nI wq)), some (.int (nI nx)), some (.int a), some (.int met), some (.int (nI b))] [] h := by
  intro n
  induction n with
  | zero => intro b wq h h1 h2; omega
  | succ n ih =>
    intro b wq h h1 h2 s
    have hw14 := s.2.2.1
    refine aw_il6 K dX0_search_68 ?_
    refine aw_bipush (v := 14) K dX0_search_70 (by decide) ?_
    refine aw_icmp_ge (tgt := 140) K dX0_search_72 (by decide) (fun b72 => ?_) (fun b72 => ?_)
    · refine aw_sub [some (.ref (g.2.1 5)), some (.int hp), some (.int (nI wq)), some (.int (nI nx)), none, none, none] ⟨rfl, rfl, rfl, rfl, trivial⟩ ?_
      exact hk wq h s
    · have hlt : b < 14 := by
        rcases Nat.lt_or_ge b 14 with q | q
        · exact q
        · exact absurd (nI_le (a := 14) q (by omega)) b72
      refine aw_il2 K dX0_search_75 ?_
      refine aw_bipush (v := 14) K dX0_search_76 (by decide) ?_
      refine aw_icmp_ge (tgt := 140) K dX0_search_78 (by decide) (fun b78 => ?_) (fun b78 => ?_)
      · refine aw_sub [some (.ref (g.2.1 5)), some (.int hp), some (.int (nI wq)), some (.int (nI nx)), none, none, none] ⟨rfl, rfl, rfl, rfl, trivial⟩ ?_
        exact hk wq h s
      · have hlt2 : wq < 14 := by
          rcases Nat.lt_or_ge wq 14 with q | q
          · exact q
          · exact absurd (nI_le (a := 14) q (by omega)) b78
        refine aw_il5 K dX0_search_81 ?_
        refine aw_il6 K dX0_search_83 ?_
        refine aw_ishr K dX0_search_85 ?_
        refine aw_if_eq (tgt := 140) K dX0_search_86 (by decide) (fun b86 => ?_) (fun b86 => ?_)
        · refine aw_sub [some (.ref (g.2.1 5)), some (.int hp), some (.int (nI wq)), some (.int (nI nx)), none, none, none] ⟨rfl, rfl, rfl, rfl, trivial⟩ ?_
          exact hk wq h s
        · refine aw_il5 K dX0_search_89 ?_
          refine aw_il6 K dX0_search_91 ?_
          refine aw_callSN_I K (tX6_hasBit l g sta _ _ _) rfl (by decide) fX6_hasBit lX0_57 dX0_search_93 rfl (Nat.le_of_ble_eq_true rfl) ?_
          refine aw_if_ne (tgt := 102) K dX0_search_96 (by decide) (fun b96 => ?_) (fun b96 => ?_)
          · refine aw_al0 K dX0_search_102 ?_
            refine aw_getR K gX0_24 dX0_search_103 rfl rfl ?_
            refine aw_il6 K dX0_search_106 ?_
            refine aw_il4 K dX0_search_108 ?_
            refine aw_iast K dX0_search_110 rfl (vp_in_nI hlt (by decide)) ?_
            refine aw_il1 K dX0_search_111 ?_
            refine aw_il6 K dX0_search_112 ?_
            refine aw_callSN_I K (tX6_hasBit l g sta _ _ _) rfl (by decide) fX6_hasBit lX0_57 dX0_search_114 rfl (Nat.le_of_ble_eq_true rfl) ?_
            refine aw_if_eq (tgt := 123) K dX0_search_117 (by decide) (fun b117 => ?_) (fun b117 => ?_)
            · refine aw_al0 K dX0_search_123 ?_
              refine aw_getR K gX0_27 dX0_search_124 rfl rfl ?_
              refine aw_il2 K dX0_search_127 ?_
              refine aw_il6 K dX0_search_128 ?_
              refine aw_iast K dX0_search_130 rfl (vp_in_nI hlt2 (by decide)) ?_
              rw [nI_clamp (show wq < 2 ^ 31 by omega)]
              refine aw_ii2 (v := _ + 1) K dX0_search_131 rfl (by decide) rfl ?_
              refine aw_ii6 (v := _ + 1) K dX0_search_134 rfl (by decide) rfl ?_
              refine aw_goto (tgt := 68) K dX0_search_137 (by decide) ?_
              rw [nI_1, nI_1]
              exact ih (b + 1) (wq + 1) _ (by omega) (by omega) ((s.fr ha).put hlt hlt2)
            · refine aw_il6 K dX0_search_120 ?_
              refine aw_iret K rfl dX0_search_122 ?_
              exact ⟨Or.inr ⟨b, hlt, rfl⟩, (s.fr (j := (nI b).toNatClampNeg) ha).1⟩
          · refine aw_goto (tgt := 134) K dX0_search_99 (by decide) ?_
            refine aw_ii6 (v := _ + 1) K dX0_search_134 rfl (by decide) rfl ?_
            refine aw_goto (tgt := 68) K dX0_search_137 (by decide) ?_
            rw [nI_1]
            exact ih (b + 1) wq h (by omega) (by omega) s
set_option maxHeartbeats 4000000 in
set_option maxRecDepth 100000 in
theorem lp1X0_search {l : Launch} {g : Geo} {sta : Nat → Nat} {k : KT} (K : AOK (wX l g sta) mX0_search k) (h0 : HS) (hp : Int32) :
    ∀ (n nx wq : Nat) (h : HS), nx ≤ 14 → 14 - nx < n → SI h0 h wq → AW (wX l g sta) (QG h0) 2 mX0_search k 19 [some (.ref (g.2.1 5)), some (.int hp), some (.int (nI wq)), some (.int (nI nx)), none, none, none] [] h := by
  intro n
  induction n with
  | zero => intro nx wq h h1 h2; omega
  | succ n ih =>
    intro nx wq h h1 h2 s
    have hw14 := s.2.2.1
    refine aw_il3 K dX0_search_19 ?_
    refine aw_il2 K dX0_search_20 ?_
    refine aw_icmp_ge (tgt := 146) K dX0_search_21 (by decide) (fun b21 => ?_) (fun b21 => ?_)
    · refine aw_bipush (v := (-4)) K dX0_search_146 (by decide) ?_
      refine aw_iret K rfl dX0_search_148 ?_
      exact ⟨Or.inl rfl, s.1⟩
    · have hlt : nx < wq := by
        rcases Nat.lt_or_ge nx wq with q | q
        · exact q
        · exact absurd (nI_le (a := wq) q (by omega)) b21
      refine aw_il3 K dX0_search_24 ?_
      refine aw_bipush (v := 14) K dX0_search_25 (by decide) ?_
      refine aw_icmp_ge (tgt := 146) K dX0_search_27 (by decide) (fun b27 => ?_) (fun b27 => ?_)
      · refine aw_bipush (v := (-4)) K dX0_search_146 (by decide) ?_
        refine aw_iret K rfl dX0_search_148 ?_
        exact ⟨Or.inl rfl, s.1⟩
      · have hlt2 : nx < 14 := by
          rcases Nat.lt_or_ge nx 14 with q | q
          · exact q
          · exact absurd (nI_le (a := 14) q (by omega)) b27
        refine aw_al0 K dX0_search_30 ?_
        refine aw_getR K gX0_27 dX0_search_31 rfl rfl ?_
        refine aw_il3 K dX0_search_34 ?_
        refine aw_iald K dX0_search_35 rfl (vp_in_nI hlt2 (by decide)) ?_
        rw [nI_clamp (show nx < 2 ^ 31 by omega)]
        refine aw_is4 K dX0_search_36 (by decide) rfl ?_
        refine aw_al0 K dX0_search_38 ?_
        refine aw_getR K gX0_21 dX0_search_39 rfl rfl ?_
        refine aw_il4 K dX0_search_42 ?_
        refine aw_iald K dX0_search_44 rfl (s.2.2.2 nx hlt) ?_
        refine aw_al0 K dX0_search_45 ?_
        refine aw_getI K gX0_53 dX0_search_46 rfl rfl ?_
        refine aw_iconst (v := (-1)) K dX0_search_49 (by decide) ?_
        refine aw_ixor K dX0_search_50 ?_
        refine aw_iand K dX0_search_51 ?_
        refine aw_is5 K dX0_search_52 (by decide) rfl ?_
        refine aw_al0 K dX0_search_54 ?_
        refine aw_dup K dX0_search_55 rfl ?_
        refine aw_getI K gX0_53 dX0_search_56 rfl rfl ?_
        refine aw_il5 K dX0_search_59 ?_
        refine aw_ior K dX0_search_61 ?_
        refine aw_putI K gX0_53 fpX0_6 dX0_search_62 rfl rfl ?_
        refine aw_iconst (v := 0) K dX0_search_65 (by decide) ?_
        refine aw_is6 K dX0_search_66 (by decide) rfl ?_
        refine lp2X0_search K h0 hp _ _ (s.2.2.2 nx hlt) nx (fun wq h s => ?_) 15 0 wq _ (by omega) (by omega) s.re
        refine aw_ii3 (v := _ + 1) K dX0_search_140 rfl (by decide) rfl ?_
        refine aw_goto (tgt := 19) K dX0_search_143 (by decide) ?_
        rw [nI_1]
        exact ih (nx + 1) wq h (by omega) (by omega) s
set_option maxHeartbeats 4000000 in
set_option maxRecDepth 100000 in
theorem tX0_search (l : Launch) (g : Geo) (sta : Nat → Nat) (h : HS) (hp : Int32) (h0 : HS) (hq : XQ h0 h) : CT (wX l g sta) 2 mX0_search [.ref (g.2.1 5), .int hp] h (QG h0) := by
  refine CT.at [some (.ref (g.2.1 5)), some (.int hp), none, none, none, none, none] 5 rfl (by decide) (Nat.le_of_ble_eq_true rfl) (fun k K => ?_)
  refine aw_al0 K dX0_search_0 ?_
  refine aw_sipush (v := 8192) K dX0_search_1 (by decide) ?_
  refine aw_putI K gX0_53 fpX0_6 dX0_search_4 rfl rfl ?_
  refine aw_al0 K dX0_search_7 ?_
  refine aw_getR K gX0_27 dX0_search_8 rfl rfl ?_
  refine aw_iconst (v := 0) K dX0_search_11 (by decide) ?_
  refine aw_bipush (v := 13) K dX0_search_12 (by decide) ?_
  refine aw_iast K dX0_search_14 rfl (vp_in_nI (n := 0) (by decide) (by decide)) ?_
  refine aw_iconst (v := 1) K dX0_search_15 (by decide) ?_
  refine aw_is2 K dX0_search_16 (by decide) rfl ?_
  refine aw_iconst (v := 0) K dX0_search_17 (by decide) ?_
  refine aw_is3 K dX0_search_18 (by decide) rfl ?_
  refine lp1X0_search K h0 hp 15 0 1 _ (by omega) (by omega) ⟨(hq.pt rfl (by decide)).pt rfl (by decide), by omega, by omega, fun j hj => ?_⟩
  obtain rfl : j = 0 := by omega
  rw [rdI, if_pos ⟨rfl, rfl⟩]
  exact v13

set_option maxHeartbeats 4000000 in
set_option maxRecDepth 100000 in
theorem lp2X0_push {l : Launch} {g : Geo} {sta : Nat → Nat} {k : KT} (K : AOK (wX l g sta) mX0_push k) (h0 : HS) (gl room : Int32) :
    ∀ (n i : Nat) (b : Int32) (h : HS), i ≤ 14 → 14 - i < n → vp_in b 14 → XQ h0 h → AW (wX l g sta) (QI h0) 2 mX0_push k 74 [some (.ref (g.2.1 5)), some (.int gl), some (.int room), some (.int b), some (.int (nI i)), none] [] h := by
  intro n
  induction n with
  | zero => intro i b h h1 h2; omega
  | succ n ih =>
    intro i b h h1 h2 hb hx
    have hf := hx.2
    refine aw_il4 K dX0_push_74 ?_
    refine aw_bipush (v := 14) K dX0_push_76 (by decide) ?_
    refine aw_icmp_ge (tgt := 179) K dX0_push_78 (by decide) (fun b78 => ?_) (fun b78 => ?_)
    · refine aw_il2 K dX0_push_179 ?_
      refine aw_iret K rfl dX0_push_180 ?_
      exact ⟨⟨_, rfl⟩, hx⟩
    · have hlt : i < 14 := by
        rcases Nat.lt_or_ge i 14 with q | q
        · exact q
        · exact absurd (nI_le (a := 14) q (by omega)) b78
      refine aw_il3 K dX0_push_81 ?_
      refine aw_bipush (v := 13) K dX0_push_82 (by decide) ?_
      refine aw_icmp_eq (tgt := 179) K dX0_push_84 (by decide) (fun b84 => ?_) (fun b84 => ?_)
      · refine aw_il2 K dX0_push_179 ?_
        refine aw_iret K rfl dX0_push_180 ?_
        exact ⟨⟨_, rfl⟩, hx⟩
      · refine aw_al0 K dX0_push_87 ?_
        refine aw_getR K gX0_24 dX0_push_88 rfl rfl ?_
        refine aw_il3 K dX0_push_91 ?_
        refine aw_iald K dX0_push_92 rfl hb ?_
        refine aw_is5 K dX0_push_93 (by decide) rfl ?_
        refine aw_al0 K dX0_push_95 ?_
        refine aw_getR K gX0_18 dX0_push_96 rfl rfl ?_
        refine aw_il5 K dX0_push_99 ?_
        refine aw_bipush (v := 14) K dX0_push_101 (by decide) ?_
        refine aw_imul K dX0_push_103 ?_
        refine aw_il3 K dX0_push_104 ?_
        refine aw_iadd K dX0_push_105 ?_
        refine aw_dup2_11 K dX0_push_106 rfl rfl ?_
        refine aw_iald K dX0_push_107 rfl (ix14 (hf _) hb) ?_
        refine aw_il2 K dX0_push_108 ?_
        refine aw_isub K dX0_push_109 ?_
        refine aw_iast K dX0_push_110 rfl (ix14 (hf _) hb) ?_
        refine aw_al0 K dX0_push_111 ?_
        refine aw_getR K gX0_18 dX0_push_112 rfl rfl ?_
        refine aw_il3 K dX0_push_115 ?_
        refine aw_bipush (v := 14) K dX0_push_116 (by decide) ?_
        refine aw_imul K dX0_push_118 ?_
        refine aw_il5 K dX0_push_119 ?_
        refine aw_iadd K dX0_push_121 ?_
        refine aw_dup2_11 K dX0_push_122 rfl rfl ?_
        refine aw_iald K dX0_push_123 rfl (ix14 hb (hf _)) ?_
        refine aw_il2 K dX0_push_124 ?_
        refine aw_iadd K dX0_push_125 ?_
        refine aw_iast K dX0_push_126 rfl (ix14 hb (hf _)) ?_
        refine aw_al0 K dX0_push_127 ?_
        refine aw_getR K gX0_21 dX0_push_128 rfl rfl ?_
        refine aw_il3 K dX0_push_131 ?_
        refine aw_dup2_11 K dX0_push_132 rfl rfl ?_
        refine aw_iald K dX0_push_133 rfl hb ?_
        refine aw_iconst (v := 1) K dX0_push_134 (by decide) ?_
        refine aw_il5 K dX0_push_135 ?_
        refine aw_ishl K dX0_push_137 ?_
        refine aw_ior K dX0_push_138 ?_
        refine aw_iast K dX0_push_139 rfl hb ?_
        refine aw_al0 K dX0_push_140 ?_
        refine aw_getR K gX0_18 dX0_push_141 rfl rfl ?_
        refine aw_il5 K dX0_push_144 ?_
        refine aw_bipush (v := 14) K dX0_push_146 (by decide) ?_
        refine aw_imul K dX0_push_148 ?_
        refine aw_il3 K dX0_push_149 ?_
        refine aw_iadd K dX0_push_150 ?_
        refine aw_iald K dX0_push_151 rfl (ix14 (hf _) hb) ?_
        refine aw_if_gt (tgt := 170) K dX0_push_152 (by decide) (fun b152 => ?_) (fun b152 => ?_)
        · refine aw_il5 K dX0_push_170 ?_
          refine aw_is3 K dX0_push_172 (by decide) rfl ?_
          refine aw_ii4 (v := _ + 1) K dX0_push_173 rfl (by decide) rfl ?_
          refine aw_goto (tgt := 74) K dX0_push_176 (by decide) ?_
          rw [nI_1]
          refine aw_sub [some (.ref (g.2.1 5)), some (.int gl), some (.int room), some (.int _), some (.int _), none] ⟨rfl, rfl, rfl, rfl, rfl, trivial⟩ ?_
          exact ih (i + 1) _ _ (by omega) (by omega) (hf _) (((hx.pt rfl (by decide)).pt rfl (by decide)).pt rfl (by decide))
        · refine aw_al0 K dX0_push_155 ?_
          refine aw_getR K gX0_21 dX0_push_156 rfl rfl ?_
          refine aw_il5 K dX0_push_159 ?_
          refine aw_dup2_11 K dX0_push_161 rfl rfl ?_
          refine aw_iald K dX0_push_162 rfl (hf _) ?_
          refine aw_iconst (v := 1) K dX0_push_163 (by decide) ?_
          refine aw_il3 K dX0_push_164 ?_
          refine aw_ishl K dX0_push_165 ?_
          refine aw_iconst (v := (-1)) K dX0_push_166 (by decide) ?_
          refine aw_ixor K dX0_push_167 ?_
          refine aw_iand K dX0_push_168 ?_
          refine aw_iast K dX0_push_169 rfl (hf _) ?_
          refine aw_il5 K dX0_push_170 ?_
          refine aw_is3 K dX0_push_172 (by decide) rfl ?_
          refine aw_ii4 (v := _ + 1) K dX0_push_173 rfl (by decide) rfl ?_
          refine aw_goto (tgt := 74) K dX0_push_176 (by decide) ?_
          rw [nI_1]
          refine aw_sub [some (.ref (g.2.1 5)), some (.int gl), some (.int room), some (.int _), some (.int _), none] ⟨rfl, rfl, rfl, rfl, rfl, trivial⟩ ?_
          exact ih (i + 1) _ _ (by omega) (by omega) (hf _) ((((hx.pt rfl (by decide)).pt rfl (by decide)).pt rfl (by decide)).pt rfl (by decide))
set_option maxHeartbeats 4000000 in
set_option maxRecDepth 100000 in
theorem lp1X0_push {l : Launch} {g : Geo} {sta : Nat → Nat} {k : KT} (K : AOK (wX l g sta) mX0_push k) (h0 h : HS) (gl : Int32) (hg : vp_in gl 14) (hx : XQ h0 h) :
    ∀ (n i : Nat) (room b : Int32), i ≤ 14 → 14 - i < n → vp_in b 14 → AW (wX l g sta) (QI h0) 2 mX0_push k 22 [some (.ref (g.2.1 5)), some (.int gl), some (.int room), some (.int b), some (.int (nI i)), none] [] h := by
  intro n
  induction n with
  | zero => intro i room b h1 h2; omega
  | succ n ih =>
    intro i room b h1 h2 hb
    have hf := hx.2
    refine aw_il4 K dX0_push_22 ?_
    refine aw_bipush (v := 14) K dX0_push_24 (by decide) ?_
    refine aw_icmp_ge (tgt := 69) K dX0_push_26 (by decide) (fun b26 => ?_) (fun b26 => ?_)
    · refine aw_il1 K dX0_push_69 ?_
      refine aw_is3 K dX0_push_70 (by decide) rfl ?_
      refine aw_iconst (v := 0) K dX0_push_71 (by decide) ?_
      refine aw_is4 K dX0_push_72 (by decide) rfl ?_
      exact lp2X0_push K h0 gl room 15 0 gl h (by omega) (by omega) hg hx
    · have hlt : i < 14 := by
        rcases Nat.lt_or_ge i 14 with q | q
        · exact q
        · exact absurd (nI_le (a := 14) q (by omega)) b26
      refine aw_il3 K dX0_push_29 ?_
      refine aw_bipush (v := 13) K dX0_push_30 (by decide) ?_
      refine aw_icmp_eq (tgt := 69) K dX0_push_32 (by decide) (fun b32 => ?_) (fun b32 => ?_)
      · refine aw_il1 K dX0_push_69 ?_
        refine aw_is3 K dX0_push_70 (by decide) rfl ?_
        refine aw_iconst (v := 0) K dX0_push_71 (by decide) ?_
        refine aw_is4 K dX0_push_72 (by decide) rfl ?_
        exact lp2X0_push K h0 gl room 15 0 gl h (by omega) (by omega) hg hx
      · refine aw_il2 K dX0_push_35 ?_
        refine aw_al0 K dX0_push_36 ?_
        refine aw_getR K gX0_18 dX0_push_37 rfl rfl ?_
        refine aw_al0 K dX0_push_40 ?_
        refine aw_getR K gX0_24 dX0_push_41 rfl rfl ?_
        refine aw_il3 K dX0_push_44 ?_
        refine aw_iald K dX0_push_45 rfl hb ?_
        refine aw_bipush (v := 14) K dX0_push_46 (by decide) ?_
        refine aw_imul K dX0_push_48 ?_
        refine aw_il3 K dX0_push_49 ?_
        refine aw_iadd K dX0_push_50 ?_
        refine aw_iald K dX0_push_51 rfl (ix14 (hf _) hb) ?_
        refine aw_mmin K (aw_in 607 (by decide +kernel) rfl) cw_min1 cw_min2 cw_min3 (by decide) (Nat.le_of_ble_eq_true rfl) dX0_push_52 ?_
        refine aw_is2 K dX0_push_55 (by decide) rfl ?_
        refine aw_al0 K dX0_push_56 ?_
        refine aw_getR K gX0_24 dX0_push_57 rfl rfl ?_
        refine aw_il3 K dX0_push_60 ?_
        refine aw_iald K dX0_push_61 rfl hb ?_
        refine aw_is3 K dX0_push_62 (by decide) rfl ?_
        refine aw_ii4 (v := _ + 1) K dX0_push_63 rfl (by decide) rfl ?_
        refine aw_goto (tgt := 22) K dX0_push_66 (by decide) ?_
        rw [nI_1]
        exact ih (i + 1) _ _ (by omega) (by omega) (hf _)
set_option maxHeartbeats 4000000 in
set_option maxRecDepth 100000 in
theorem tX0_push (l : Launch) (g : Geo) (sta : Nat → Nat) (h : HS) (gl : Int32) (hg : vp_in gl 14) (h0 : HS) (hq : XQ h0 h) : CT (wX l g sta) 2 mX0_push [.ref (g.2.1 5), .int gl] h (QI h0) := by
  refine CT.at [some (.ref (g.2.1 5)), some (.int gl), none, none, none, none] 4 rfl (by decide) (Nat.le_of_ble_eq_true rfl) (fun k K => ?_)
  refine aw_al0 K dX0_push_0 ?_
  refine aw_getR K gX0_18 dX0_push_1 rfl rfl ?_
  refine aw_al0 K dX0_push_4 ?_
  refine aw_getR K gX0_24 dX0_push_5 rfl rfl ?_
  refine aw_il1 K dX0_push_8 ?_
  refine aw_iald K dX0_push_9 rfl hg ?_
  refine aw_bipush (v := 14) K dX0_push_10 (by decide) ?_
  refine aw_imul K dX0_push_12 ?_
  refine aw_il1 K dX0_push_13 ?_
  refine aw_iadd K dX0_push_14 ?_
  refine aw_iald K dX0_push_15 rfl (ix14 (hq.2 _) hg) ?_
  refine aw_is2 K dX0_push_16 (by decide) rfl ?_
  refine aw_il1 K dX0_push_17 ?_
  refine aw_is3 K dX0_push_18 (by decide) rfl ?_
  refine aw_iconst (v := 0) K dX0_push_19 (by decide) ?_
  refine aw_is4 K dX0_push_20 (by decide) rfl ?_
  exact lp1X0_push K h0 h gl hg hq 15 0 _ gl (by omega) (by omega) hg

set_option maxHeartbeats 4000000 in
set_option maxRecDepth 100000 in
theorem lpX0_most {l : Launch} {g : Geo} {sta : Nat → Nat} {k : KT} (K : AOK (wX l g sta) mX0_most k) (h0 : HS) (hp : Int32) :
    ∀ (n i : Nat) (sm : Int32) (h : HS), i ≤ 10000 → 10000 - i < n → XQ h0 h → AW (wX l g sta) (QI h0) 3 mX0_most k 35 [some (.ref (g.2.1 5)), some (.int hp), some (.int sm), some (.int (nI i)), none] [] h := by
  intro n
  induction n with
  | zero => intro i sm h h1 h2; omega
  | succ n ih =>
    intro i sm h h1 h2 hx
    refine aw_il3 K dX0_most_35 ?_
    refine aw_sipush (v := 10000) K dX0_most_36 (by decide) ?_
    refine aw_icmp_ge (tgt := 72) K dX0_most_39 (by decide) (fun b39 => ?_) (fun b39 => ?_)
    · refine aw_il2 K dX0_most_72 ?_
      refine aw_iret K rfl dX0_most_73 ?_
      exact ⟨⟨_, rfl⟩, hx⟩
    · have hlt : i < 10000 := by
        rcases Nat.lt_or_ge i 10000 with q | q
        · exact q
        · exact absurd (nI_le (a := 10000) q (by omega)) b39
      refine aw_al0 K dX0_most_42 ?_
      refine aw_il1 K dX0_most_43 ?_
      refine aw_callV K (tX0_search l g sta _ hp h0 hx) rfl (by decide) fX0_search lX0_46 dX0_most_44 rfl clsX0 rfl (Nat.le_of_ble_eq_true rfl) (fun o h2 hq => ?_)
      obtain ⟨hr, hx2⟩ := hq
      obtain ⟨r, hr2, rfl⟩ : ∃ r : Int32, (r = -4 ∨ vp_in r 14) ∧ o = some (.int r) := by
        rcases hr with rfl | ⟨b, hb, rfl⟩
        · exact ⟨_, Or.inl rfl, rfl⟩
        · exact ⟨_, Or.inr (vp_in_nI hb (by decide)), rfl⟩
      refine (show AW _ _ _ _ _ _ _ (.int r :: _) _ from ?_)
      refine aw_is4 K dX0_most_47 (by decide) rfl ?_
      refine aw_il4 K dX0_most_49 ?_
      refine aw_if_ge (tgt := 57) K dX0_most_51 (by decide) (fun b51 => ?_) (fun b51 => ?_)
      · have hg : vp_in r 14 := by
          rcases hr2 with rfl | z
          · exact absurd b51 (by decide)
          · exact z
        refine aw_il2 K dX0_most_57 ?_
        refine aw_al0 K dX0_most_58 ?_
        refine aw_il4 K dX0_most_59 ?_
        refine aw_callV K (tX0_push l g sta _ r hg h0 hx2) rfl (by decide) fX0_push lX0_50 dX0_most_61 rfl clsX0 rfl (Nat.le_of_ble_eq_true rfl) (fun o h2 hq => ?_)
        obtain ⟨⟨r3, rfl⟩, hx3⟩ := hq
        refine (show AW _ _ _ _ _ _ _ (.int r3 :: _) _ from ?_)
        refine aw_iadd K dX0_most_64 ?_
        refine aw_is2 K dX0_most_65 (by decide) rfl ?_
        refine aw_ii3 (v := _ + 1) K dX0_most_66 rfl (by decide) rfl ?_
        refine aw_goto (tgt := 35) K dX0_most_69 (by decide) ?_
        rw [nI_1]
        refine aw_sub [some (.ref (g.2.1 5)), some (.int hp), some (.int _), some (.int _), none] ⟨rfl, rfl, rfl, rfl, trivial⟩ ?_
        exact ih (i + 1) _ _ (by omega) (by omega) hx3
      · refine aw_goto (tgt := 72) K dX0_most_54 (by decide) ?_
        refine aw_il2 K dX0_most_72 ?_
        refine aw_iret K rfl dX0_most_73 ?_
        exact ⟨⟨_, rfl⟩, hx2⟩
set_option maxHeartbeats 4000000 in
set_option maxRecDepth 100000 in
theorem tX0_most (l : Launch) (g : Geo) (sta : Nat → Nat) (h : HS) (hp : Int32) (h0 : HS) (hq : XQ h0 h) : CT (wX l g sta) 3 mX0_most [.ref (g.2.1 5), .int hp] h (QI h0) := by
  refine CT.at [some (.ref (g.2.1 5)), some (.int hp), none, none, none] 3 rfl (by decide) (Nat.le_of_ble_eq_true rfl) (fun k K => ?_)
  refine aw_al0 K dX0_most_0 ?_
  refine aw_getR K gX0_11 dX0_most_1 rfl rfl ?_
  refine aw_iconst (v := 0) K dX0_most_4 (by decide) ?_
  refine aw_al0 K dX0_most_5 ?_
  refine aw_getR K gX0_18 dX0_most_6 rfl rfl ?_
  refine aw_iconst (v := 0) K dX0_most_9 (by decide) ?_
  refine aw_sipush (v := 196) K dX0_most_10 (by decide) ?_
  refine aw_copy K cpX0_40 cpnat rfl rfl (by decide) (by decide) (by decide) (by decide) (by decide) (by decide) (by decide) dX0_most_13 ?_
  refine aw_al0 K dX0_most_16 ?_
  refine aw_getR K gX0_15 dX0_most_17 rfl rfl ?_
  refine aw_iconst (v := 0) K dX0_most_20 (by decide) ?_
  refine aw_al0 K dX0_most_21 ?_
  refine aw_getR K gX0_21 dX0_most_22 rfl rfl ?_
  refine aw_iconst (v := 0) K dX0_most_25 (by decide) ?_
  refine aw_bipush (v := 14) K dX0_most_26 (by decide) ?_
  refine aw_copy K cpX0_40 cpnat rfl rfl (by decide) (by decide) (by decide) (by decide) (by decide) (by decide) (by decide) dX0_most_28 ?_
  refine aw_iconst (v := 0) K dX0_most_31 (by decide) ?_
  refine aw_is2 K dX0_most_32 (by decide) rfl ?_
  refine aw_iconst (v := 0) K dX0_most_33 (by decide) ?_
  refine aw_is3 K dX0_most_34 (by decide) rfl ?_
  exact lpX0_most K h0 hp 10001 0 0 _ (by omega) (by omega) ((hq.row rfl (by decide)).row rfl (by decide))

