theorem cpnat : Cond.native arraycopyName ∈ aw_tb := aw_in 274 (by decide +kernel) rfl
theorem cpX6_69 : CPW RX6 69 := ⟨aw_in 272 (by decide +kernel) rfl, List.mem_of_getElem? (i := 274) (by decide +kernel), aw_in 273 (by decide +kernel) rfl, aw_in 86 (by decide +kernel) rfl⟩
theorem cpX0_40 : CPW RX0 40 := ⟨aw_in 597 (by decide +kernel) rfl, List.mem_of_getElem? (i := 274) (by decide +kernel), aw_in 273 (by decide +kernel) rfl, aw_in 86 (by decide +kernel) rfl⟩
/-- a place of the flow, or NONE -/
def QG (h0 : HS) : Option Value → HS → Prop := fun o h' => (o = some (.int (-4)) ∨ ∃ b : Nat, b < 14 ∧ o = some (.int (nI b))) ∧ XQ h0 h'
def SI (h0 h : HS) (wq : Nat) : Prop := XQ h0 h ∧ 1 ≤ wq ∧ wq ≤ 14 ∧ ∀ j, j < wq → vp_in (h.1 39 j) 14
theorem SI.put {h0 h : HS} {wq b : Nat} (s : SI h0 h wq) (hb : b < 14) (hw : wq < 14) : SI h0 (setI h 39 wq (nI b)) (wq + 1) := by
  refine ⟨s.1.pt rfl (by decide), by omega, by omega, fun j hj => ?_⟩
  rw [rdI]
  split
  · exact vp_in_nI hb (by decide)
  · rename_i q
    exact s.2.2.2 j (by
      rcases Nat.lt_or_ge j wq with z | z
      · exact z
      · exact absurd ⟨rfl, by omega⟩ q)
theorem SI.fr {h0 h : HS} {wq j : Nat} {v : Int32} (s : SI h0 h wq) (hv : vp_in v 14) : SI h0 (setI h 38 j v) wq := by
  refine ⟨s.1.fr hv, s.2.1, s.2.2.1, fun j hj => ?_⟩
  have := s.2.2.2 j hj
  simpa [rdI] using this
theorem SI.re {h0 h : HS} {wq j : Nat} {v : Int32} (s : SI h0 h wq) : SI h0 (setI h 5 j v) wq := by
  refine ⟨s.1.pt rfl (by decide), s.2.1, s.2.2.1, fun j hj => ?_⟩
  have := s.2.2.2 j hj
  simpa [rdI] using this
set_option maxHeartbeats 4000000 in
set_option maxRecDepth 100000 in
theorem lp2X0_search {l : Launch} {g : Geo} {sta : Nat → Nat} {k : KT} (K : AOK (wX l g sta) mX0_search k) (h0 : HS) (hp a met : Int32) (ha : vp_in a 14) (nx : Nat)
    (hk : ∀ (wq : Nat) (h : HS), SI h0 h wq → AW (wX l g sta) (QG h0) 2 mX0_search k 140 [some (.ref (g.2.1 5)), some (.int hp), some (.int (nI wq)), some (.int (nI nx)), none, none, none] [] h) :
    ∀ (n b wq : Nat) (h : HS), b ≤ 14 → 14 - b < n → SI h0 h wq → AW (wX l g sta) (QG h0) 2 mX0_search k 68 [some (.ref (g.2.1 5)), some (.int hp), some (.int (nI wq)), some (.int (nI nx)), some (.int a), some (.int met), some (.int (nI b))] [] h := by
  intro n
  induction n with
  | zero => intro b wq h h1 h2; omega
  | succ n ih =>
    intro b wq h h1 h2 s
    have hw14 := s.2.2.1
    refine aw_il6 K dX0_search_68 ?_
    refine aw_bipush (v := 14) K dX0_search_70 (by decide) ?_
    refine aw_icmp_ge (tgt := 140) K dX0_search_72 (by decide) (fun b72 => ?_) (fun b72 => ?_)
    · refine aw_sub [some (.ref (g.2.1 5)), some (.int hp), some (.int (nI wq)), some (.int (nI nx)), none, none, none] ⟨rfl, rfl, rfl, rfl, trivial⟩ ?_
      exact hk wq h s
    · have hlt : b < 14 := by
        rcases Nat.lt_or_ge b 14 with q | q
        · exact q
        · exact absurd (nI_le (a := 14) q (by omega)) b72
      refine aw_il2 K dX0_search_75 ?_
      refine aw_bipush (v := 14) K dX0_search_76 (by decide) ?_
      refine aw_icmp_ge (tgt := 140) K dX0_search_78 (by decide) (fun b78 => ?_) (fun b78 => ?_)
      · refine aw_sub [some (.ref (g.2.1 5)), some (.int hp), some (.int (nI wq)), some (.int (nI nx)), none, none, none] ⟨rfl, rfl, rfl, rfl, trivial⟩ ?_
        exact hk wq h s
      · have hlt2 : wq < 14 := by
          rcases Nat.lt_or_ge wq 14 with q | q
          · exact q
          · exact absurd (nI_le (a := 14) q (by omega)) b78
        refine aw_il5 K dX0_search_81 ?_
        refine aw_il6 K dX0_search_83 ?_
        refine aw_ishr K dX0_search_85 ?_
        refine aw_if_eq (tgt := 140) K dX0_search_86 (by decide) (fun b86 => ?_) (fun b86 => ?_)
        · refine aw_sub [some (.ref (g.2.1 5)), some (.int hp), some (.int (nI wq)), some (.int (nI nx)), none, none, none] ⟨rfl, rfl, rfl, rfl, trivial⟩ ?_
          exact hk wq h s
        · refine aw_il5 K dX0_search_89 ?_
          refine aw_il6 K dX0_search_91 ?_
          refine aw_callSN_I K (tX6_hasBit l g sta _ _ _) rfl (by decide) fX6_hasBit lX0_57 dX0_search_93 rfl (Nat.le_of_ble_eq_true rfl) ?_
          refine aw_if_ne (tgt := 102) K dX0_search_96 (by decide) (fun b96 => ?_) (fun b96 => ?_)
          · refine aw_al0 K dX0_search_102 ?_
            refine aw_getR K gX0_24 dX0_search_103 rfl rfl ?_
            refine aw_il6 K dX0_search_106 ?_
            refine aw_il4 K dX0_search_108 ?_
            refine aw_iast K dX0_search_110 rfl (vp_in_nI hlt (by decide)) ?_
            refine aw_il1 K dX0_search_111 ?_
            refine aw_il6 K dX0_search_112 ?_
            refine aw_callSN_I K (tX6_hasBit l g sta _ _ _) rfl (by decide) fX6_hasBit lX0_57 dX0_search_114 rfl (Nat.le_of_ble_eq_true rfl) ?_
            refine aw_if_eq (tgt := 123) K dX0_search_117 (by decide) (fun b117 => ?_) (fun b117 => ?_)
            · refine aw_al0 K dX0_search_123 ?_
              refine aw_getR K gX0_27 dX0_search_124 rfl rfl ?_
              refine aw_il2 K dX0_search_127 ?_
              refine aw_il6 K dX0_search_128 ?_
              refine aw_iast K dX0_search_130 rfl (vp_in_nI hlt2 (by decide)) ?_
              rw [nI_clamp (show wq < 2 ^ 31 by omega)]
              refine aw_ii2 (v := _ + 1) K dX0_search_131 rfl (by decide) rfl ?_
              refine aw_ii6 (v := _ + 1) K dX0_search_134 rfl (by decide) rfl ?_
              refine aw_goto (tgt := 68) K dX0_search_137 (by decide) ?_
              rw [nI_1, nI_1]
              exact ih (b + 1) (wq + 1) _ (by omega) (by omega) ((s.fr ha).put hlt hlt2)
            · refine aw_il6 K dX0_search_120 ?_
              refine aw_iret K rfl dX0_search_122 ?_
              exact ⟨Or.inr ⟨b, hlt, rfl⟩, (s.fr (j := (nI b).toNatClampNeg) ha).1⟩
          · refine aw_goto (tgt := 134) K dX0_search_99 (by decide) ?_
            refine aw_ii6 (v := _ + 1) K dX0_search_134 rfl (by decide) rfl ?_
            refine aw_goto (tgt := 68) K dX0_search_137 (by decide) ?_
            rw [nI_1]
            exact ih (b + 1) wq h (by omega) (by omega) s
set_option maxHeartbeats 4000000 in
set_option maxRecDepth 100000 in
theorem lp1X0_search {l : Launch} {g : Geo} {sta : Nat → Nat} {k : KT} (K : AOK (wX l g sta) mX0_search k) (h0 : HS) (hp : Int32) :
    ∀ (n nx wq : Nat) (h : HS), nx ≤ 14 → 14 - nx < n → SI h0 h wq → AW (wX l g sta) (QG h0) 2 mX0_search k 19 [some (.ref (g.2.1 5)), some (.int hp), some (.int (nI wq)), some (.int (nI nx)), none, none, none] [] h := by
  intro n
  induction n with
  | zero => intro nx wq h h1 h2; omega
  | succ n ih =>
    intro nx wq h h1 h2 s
    have hw14 := s.2.2.1
    refine aw_il3 K dX0_search_19 ?_
    refine aw_il2 K dX0_search_20 ?_
    refine aw_icmp_ge (tgt := 146) K dX0_search_21 (by decide) (fun b21 => ?_) (fun b21 => ?_)
    · refine aw_bipush (v := (-4)) K dX0_search_146 (by decide) ?_
      refine aw_iret K rfl dX0_search_148 ?_
      exact ⟨Or.inl rfl, s.1⟩
    · have hlt : nx < wq := by
        rcases Nat.lt_or_ge nx wq with q | q
        · exact q
        · exact absurd (nI_le (a := wq) q (by omega)) b21
      refine aw_il3 K dX0_search_24 ?_
      refine aw_bipush (v := 14) K dX0_search_25 (by decide) ?_
      refine aw_icmp_ge (tgt := 146) K dX0_search_27 (by decide) (fun b27 => ?_) (fun b27 => ?_)
      · refine aw_bipush (v := (-4)) K dX0_search_146 (by decide) ?_
        refine aw_iret K rfl dX0_search_148 ?_
        exact ⟨Or.inl rfl, s.1⟩
      · have hlt2 : nx < 14 := by
          rcases Nat.lt_or_ge nx 14 with q | q
          · exact q
          · exact absurd (nI_le (a := 14) q (by omega)) b27
        refine aw_al0 K dX0_search_30 ?_
        refine aw_getR K gX0_27 dX0_search_31 rfl rfl ?_
        refine aw_il3 K dX0_search_34 ?_
        refine aw_iald K dX0_search_35 rfl (vp_in_nI hlt2 (by decide)) ?_
        rw [nI_clamp (show nx < 2 ^ 31 by omega)]
        refine aw_is4 K dX0_search_36 (by decide) rfl ?_
        refine aw_al0 K dX0_search_38 ?_
        refine aw_getR K gX0_21 dX0_search_39 rfl rfl ?_
        refine aw_il4 K dX0_search_42 ?_
        refine aw_iald K dX0_search_44 rfl (s.2.2.2 nx hlt) ?_
        refine aw_al0 K dX0_search_45 ?_
        refine aw_getI K gX0_53 dX0_search_46 rfl rfl ?_
        refine aw_iconst (v := (-1)) K dX0_search_49 (by decide) ?_
        refine aw_ixor K dX0_search_50 ?_
        refine aw_iand K dX0_search_51 ?_
        refine aw_is5 K dX0_search_52 (by decide) rfl ?_
        refine aw_al0 K dX0_search_54 ?_
        refine aw_dup K dX0_search_55 rfl ?_
        refine aw_getI K gX0_53 dX0_search_56 rfl rfl ?_
        refine aw_il5 K dX0_search_59 ?_
        refine aw_ior K dX0_search_61 ?_
        refine aw_putI K gX0_53 fpX0_6 dX0_search_62 rfl rfl ?_
        refine aw_iconst (v := 0) K dX0_search_65 (by decide) ?_
        refine aw_is6 K dX0_search_66 (by decide) rfl ?_
        refine lp2X0_search K h0 hp _ _ (s.2.2.2 nx hlt) nx (fun wq h s => ?_) 15 0 wq _ (by omega) (by omega) s.re
        refine aw_ii3 (v := _ + 1) K dX0_search_140 rfl (by decide) rfl ?_
        refine aw_goto (tgt := 19) K dX0_search_143 (by decide) ?_
        rw [nI_1]
        exact ih (nx + 1) wq h (by omega) (by omega) s
set_option maxHeartbeats 4000000 in
set_option maxRecDepth 100000 in
theorem tX0_search (l : Launch) (g : Geo) (sta : Nat → Nat) (h : HS) (hp : Int32) (h0 : HS) (hq : XQ h0 h) : CT (wX l g sta) 2 mX0_search [.ref (g.2.1 5), .int hp] h (QG h0) := by
  refine CT.at [some (.ref (g.2.1 5)), some (.int hp), none, none, none, none, none] 5 rfl (by decide) (Nat.le_of_ble_eq_true rfl) (fun k K => ?_)
  refine aw_al0 K dX0_search_0 ?_
  refine aw_sipush (v := 8192) K dX0_search_1 (by decide) ?_
  refine aw_putI K gX0_53 fpX0_6 dX0_search_4 rfl rfl ?_
  refine aw_al0 K dX0_search_7 ?_
  refine aw_getR K gX0_27 dX0_search_8 rfl rfl ?_
  refine aw_iconst (v := 0) K dX0_search_11 (by decide) ?_
  refine aw_bipush (v := 13) K dX0_search_12 (by decide) ?_
  refine aw_iast K dX0_search_14 rfl (vp_in_nI (n := 0) (by decide) (by decide)) ?_
  refine aw_iconst (v := 1) K dX0_search_15 (by decide) ?_
  refine aw_is2 K dX0_search_16 (by decide) rfl ?_
  refine aw_iconst (v := 0) K dX0_search_17 (by decide) ?_
  refine aw_is3 K dX0_search_18 (by decide) rfl ?_
  refine lp1X0_search K h0 hp 15 0 1 _ (by omega) (by omega) ⟨(hq.pt rfl (by decide)).pt rfl (by decide), by omega, by omega, fun j hj => ?_⟩
  obtain rfl : j = 0 := by omega
  rw [rdI, if_pos ⟨rfl, rfl⟩]
  exact v13

set_option maxHeartbeats 4000000 in
set_option maxRecDepth 100000 in
theorem lp2X0_push {l : Launch} {g : Geo} {sta : Nat → Nat} {k : KT} (K : AOK (wX l g sta) mX0_push k) (h0 : HS) (gl room : Int32) :
    ∀ (n i : Nat) (b : Int32) (h : HS), i ≤ 14 → 14 - i < n → vp_in b 14 → XQ h0 h → AW (wX l g sta) (QI h0) 2 mX0_push k 74 [some (.ref (g.2.1 5)), some (.int gl), some (.int room), some (.int b), some (.int (nI i)), none] [] h := by
  intro n
  induction n with
  | zero => intro i b h h1 h2; omega
  | succ n ih =>
    intro i b h h1 h2 hb hx
    have hf := hx.2
    refine aw_il4 K dX0_push_74 ?_
    refine aw_bipush (v := 14) K dX0_push_76 (by decide) ?_
    refine aw_icmp_ge (tgt := 179) K dX0_push_78 (by decide) (fun b78 => ?_) (fun b78 => ?_)
    · refine aw_il2 K dX0_push_179 ?_
      refine aw_iret K rfl dX0_push_180 ?_
      exact ⟨⟨_, rfl⟩, hx⟩
    · have hlt : i < 14 := by
        rcases Nat.lt_or_ge i 14 with q | q
        · exact q
        · exact absurd (nI_le (a := 14) q (by omega)) b78
      refine aw_il3 K dX0_push_81 ?_
      refine aw_bipush (v := 13) K dX0_push_82 (by decide) ?_
      refine aw_icmp_eq (tgt := 179) K dX0_push_84 (by decide) (fun b84 => ?_) (fun b84 => ?_)
      · refine aw_il2 K dX0_push_179 ?_
        refine aw_iret K rfl dX0_push_180 ?_
        exact ⟨⟨_, rfl⟩, hx⟩
      · refine aw_al0 K dX0_push_87 ?_
        refine aw_getR K gX0_24 dX0_push_88 rfl rfl ?_
        refine aw_il3 K dX0_push_91 ?_
        refine aw_iald K dX0_push_92 rfl hb ?_
        refine aw_is5 K dX0_push_93 (by decide) rfl ?_
        refine aw_al0 K dX0_push_95 ?_
        refine aw_getR K gX0_18 dX0_push_96 rfl rfl ?_
        refine aw_il5 K dX0_push_99 ?_
        refine aw_bipush (v := 14) K dX0_push_101 (by decide) ?_
        refine aw_imul K dX0_push_103 ?_
        refine aw_il3 K dX0_push_104 ?_
        refine aw_iadd K dX0_push_105 ?_
        refine aw_dup2_11 K dX0_push_106 rfl rfl ?_
        refine aw_iald K dX0_push_107 rfl (ix14 (hf _) hb) ?_
        refine aw_il2 K dX0_push_108 ?_
        refine aw_isub K dX0_push_109 ?_
        refine aw_iast K dX0_push_110 rfl (ix14 (hf _) hb) ?_
        refine aw_al0 K dX0_push_111 ?_
        refine aw_getR K gX0_18 dX0_push_112 rfl rfl ?_
        refine aw_il3 K dX0_push_115 ?_
        refine aw_bipush (v := 14) K dX0_push_116 (by decide) ?_
        refine aw_imul K dX0_push_118 ?_
        refine aw_il5 K dX0_push_119 ?_
        refine aw_iadd K dX0_push_121 ?_
        refine aw_dup2_11 K dX0_push_122 rfl rfl ?_
        refine aw_iald K dX0_push_123 rfl (ix14 hb (hf _)) ?_
        refine aw_il2 K dX0_push_124 ?_
        refine aw_iadd K dX0_push_125 ?_
        refine aw_iast K dX0_push_126 rfl (ix14 hb (hf _)) ?_
        refine aw_al0 K dX0_push_127 ?_
        refine aw_getR K gX0_21 dX0_push_128 rfl rfl ?_
        refine aw_il3 K dX0_push_131 ?_
        refine aw_dup2_11 K dX0_push_132 rfl rfl ?_
        refine aw_iald K dX0_push_133 rfl hb ?_
        refine aw_iconst (v := 1) K dX0_push_134 (by decide) ?_
        refine aw_il5 K dX0_push_135 ?_
        refine aw_ishl K dX0_push_137 ?_
        refine aw_ior K dX0_push_138 ?_
        refine aw_iast K dX0_push_139 rfl hb ?_
        refine aw_al0 K dX0_push_140 ?_
        refine aw_getR K gX0_18 dX0_push_141 rfl rfl ?_
        refine aw_il5 K dX0_push_144 ?_
        refine aw_bipush (v := 14) K dX0_push_146 (by decide) ?_
        refine aw_imul K dX0_push_148 ?_
        refine aw_il3 K dX0_push_149 ?_
        refine aw_iadd K dX0_push_150 ?_
        refine aw_iald K dX0_push_151 rfl (ix14 (hf _) hb) ?_
        refine aw_if_gt (tgt := 170) K dX0_push_152 (by decide) (fun b152 => ?_) (fun b152 => ?_)
        · refine aw_il5 K dX0_push_170 ?_
          refine aw_is3 K dX0_push_172 (by decide) rfl ?_
          refine aw_ii4 (v := _ + 1) K dX0_push_173 rfl (by decide) rfl ?_
          refine aw_goto (tgt := 74) K dX0_push_176 (by decide) ?_
          rw [nI_1]
          refine aw_sub [some (.ref (g.2.1 5)), some (.int gl), some (.int room), some (.int _), some (.int _), none] ⟨rfl, rfl, rfl, rfl, rfl, trivial⟩ ?_
          exact ih (i + 1) _ _ (by omega) (by omega) (hf _) (((hx.pt rfl (by decide)).pt rfl (by decide)).pt rfl (by decide))
        · refine aw_al0 K dX0_push_155 ?_
          refine aw_getR K gX0_21 dX0_push_156 rfl rfl ?_
          refine aw_il5 K dX0_push_159 ?_
          refine aw_dup2_11 K dX0_push_161 rfl rfl ?_
          refine aw_iald K dX0_push_162 rfl (hf _) ?_
          refine aw_iconst (v := 1) K dX0_push_163 (by decide) ?_
          refine aw_il3 K dX0_push_164 ?_
          refine aw_ishl K dX0_push_165 ?_
          refine aw_iconst (v := (-1)) K dX0_push_166 (by decide) ?_
          refine aw_ixor K dX0_push_167 ?_
          refine aw_iand K dX0_push_168 ?_
          refine aw_iast K dX0_push_169 rfl (hf _) ?_
          refine aw_il5 K dX0_push_170 ?_
          refine aw_is3 K dX0_push_172 (by decide) rfl ?_
          refine aw_ii4 (v := _ + 1) K dX0_push_173 rfl (by decide) rfl ?_
          refine aw_goto (tgt := 74) K dX0_push_176 (by decide) ?_
          rw [nI_1]
          refine aw_sub [some (.ref (g.2.1 5)), some (.int gl), some (.int room), some (.int _), some (.int _), none] ⟨rfl, rfl, rfl, rfl, rfl, trivial⟩ ?_
          exact ih (i + 1) _ _ (by omega) (by omega) (hf _) ((((hx.pt rfl (by decide)).pt rfl (by decide)).pt rfl (by decide)).pt rfl (by decide))
set_option maxHeartbeats 4000000 in
set_option maxRecDepth 100000 in
theorem lp1X0_push {l : Launch} {g : Geo} {sta : Nat → Nat} {k : KT} (K : AOK (wX l g sta) mX0_push k) (h0 h : HS) (gl : Int32) (hg : vp_in gl 14) (hx : XQ h0 h) :
    ∀ (n i : Nat) (room b : Int32), i ≤ 14 → 14 - i < n → vp_in b 14 → AW (wX l g sta) (QI h0) 2 mX0_push k 22 [some (.ref (g.2.1 5)), some (.int gl), some (.int room), some (.int b), some (.int (nI i)), none] [] h := by
  intro n
  induction n with
  | zero => intro i room b h1 h2; omega
  | succ n ih =>
    intro i room b h1 h2 hb
    have hf := hx.2
    refine aw_il4 K dX0_push_22 ?_
    refine aw_bipush (v := 14) K dX0_push_24 (by decide) ?_
    refine aw_icmp_ge (tgt := 69) K dX0_push_26 (by decide) (fun b26 => ?_) (fun b26 => ?_)
    · refine aw_il1 K dX0_push_69 ?_
      refine aw_is3 K dX0_push_70 (by decide) rfl ?_
      refine aw_iconst (v := 0) K dX0_push_71 (by decide) ?_
      refine aw_is4 K dX0_push_72 (by decide) rfl ?_
      exact lp2X0_push K h0 gl room 15 0 gl h (by omega) (by omega) hg hx
    · have hlt : i < 14 := by
        rcases Nat.lt_or_ge i 14 with q | q
        · exact q
        · exact absurd (nI_le (a := 14) q (by omega)) b26
      refine aw_il3 K dX0_push_29 ?_
      refine aw_bipush (v := 13) K dX0_push_30 (by decide) ?_
      refine aw_icmp_eq (tgt := 69) K dX0_push_32 (by decide) (fun b32 => ?_) (fun b32 => ?_)
      · refine aw_il1 K dX0_push_69 ?_
        refine aw_is3 K dX0_push_70 (by decide) rfl ?_
        refine aw_iconst (v := 0) K dX0_push_71 (by decide) ?_
        refine aw_is4 K dX0_push_72 (by decide) rfl ?_
        exact lp2X0_push K h0 gl room 15 0 gl h (by omega) (by omega) hg hx
      · refine aw_il2 K dX0_push_35 ?_
        refine aw_al0 K dX0_push_36 ?_
        refine aw_getR K gX0_18 dX0_push_37 rfl rfl ?_
        refine aw_al0 K dX0_push_40 ?_
        refine aw_getR K gX0_24 dX0_push_41 rfl rfl ?_
        refine aw_il3 K dX0_push_44 ?_
        refine aw_iald K dX0_push_45 rfl hb ?_
        refine aw_bipush (v := 14) K dX0_push_46 (by decide) ?_
        refine aw_imul K dX0_push_48 ?_
        refine aw_il3 K dX0_push_49 ?_
        refine aw_iadd K dX0_push_50 ?_
        refine aw_iald K dX0_push_51 rfl (ix14 (hf _) hb) ?_
        refine aw_mmin K (aw_in 607 (by decide +kernel) rfl) cw_min1 cw_min2 cw_min3 (by decide) (Nat.le_of_ble_eq_true rfl) dX0_push_52 ?_
        refine aw_is2 K dX0_push_55 (by decide) rfl ?_
        refine aw_al0 K dX0_push_56 ?_
        refine aw_getR K gX0_24 dX0_push_57 rfl rfl ?_
        refine aw_il3 K dX0_push_60 ?_
        refine aw_iald K dX0_push_61 rfl hb ?_
        refine aw_is3 K dX0_push_62 (by decide) rfl ?_
        refine aw_ii4 (v := _ + 1) K dX0_push_63 rfl (by decide) rfl ?_
        refine aw_goto (tgt := 22) K dX0_push_66 (by decide) ?_
        rw [nI_1]
        exact ih (i + 1) _ _ (by omega) (by omega) (hf _)
set_option maxHeartbeats 4000000 in
set_option maxRecDepth 100000 in
theorem tX0_push (l : Launch) (g : Geo) (sta : Nat → Nat) (h : HS) (gl : Int32) (hg : vp_in gl 14) (h0 : HS) (hq : XQ h0 h) : CT (wX l g sta) 2 mX0_push [.ref (g.2.1 5), .int gl] h (QI h0) := by
  refine CT.at [some (.ref (g.2.1 5)), some (.int gl), none, none, none, none] 4 rfl (by decide) (Nat.le_of_ble_eq_true rfl) (fun k K => ?_)
  refine aw_al0 K dX0_push_0 ?_
  refine aw_getR K gX0_18 dX0_push_1 rfl rfl ?_
  refine aw_al0 K dX0_push_4 ?_
  refine aw_getR K gX0_24 dX0_push_5 rfl rfl ?_
  refine aw_il1 K dX0_push_8 ?_
  refine aw_iald K dX0_push_9 rfl hg ?_
  refine aw_bipush (v := 14) K dX0_push_10 (by decide) ?_
  refine aw_imul K dX0_push_12 ?_
  refine aw_il1 K dX0_push_13 ?_
  refine aw_iadd K dX0_push_14 ?_
  refine aw_iald K dX0_push_15 rfl (ix14 (hq.2 _) hg) ?_
  refine aw_is2 K dX0_push_16 (by decide) rfl ?_
  refine aw_il1 K dX0_push_17 ?_
  refine aw_is3 K dX0_push_18 (by decide) rfl ?_
  refine aw_iconst (v := 0) K dX0_push_19 (by decide) ?_
  refine aw_is4 K dX0_push_20 (by decide) rfl ?_
  exact lp1X0_push K h0 h gl hg hq 15 0 _ gl (by omega) (by omega) hg

set_option maxHeartbeats 4000000 in
set_option maxRecDepth 100000 in
theorem lpX0_most {l : Launch} {g : Geo} {sta : Nat → Nat} {k : KT} (K : AOK (wX l g sta) mX0_most k) (h0 : HS) (hp : Int32) :
    ∀ (n i : Nat) (sm : Int32) (h : HS), i ≤ 10000 → 10000 - i < n → XQ h0 h → AW (wX l g sta) (QI h0) 3 mX0_most k 35 [some (.ref (g.2.1 5)), some (.int hp), some (.int sm), some (.int (nI i)), none] [] h := by
  intro n
  induction n with
  | zero => intro i sm h h1 h2; omega
  | succ n ih =>
    intro i sm h h1 h2 hx
    refine aw_il3 K dX0_most_35 ?_
    refine aw_sipush (v := 10000) K dX0_most_36 (by decide) ?_
    refine aw_icmp_ge (tgt := 72) K dX0_most_39 (by decide) (fun b39 => ?_) (fun b39 => ?_)
    · refine aw_il2 K dX0_most_72 ?_
      refine aw_iret K rfl dX0_most_73 ?_
      exact ⟨⟨_, rfl⟩, hx⟩
    · have hlt : i < 10000 := by
        rcases Nat.lt_or_ge i 10000 with q | q
        · exact q
        · exact absurd (nI_le (a := 10000) q (by omega)) b39
      refine aw_al0 K dX0_most_42 ?_
      refine aw_il1 K dX0_most_43 ?_
      refine aw_callV K (tX0_search l g sta _ hp h0 hx) rfl (by decide) fX0_search lX0_46 dX0_most_44 rfl clsX0 rfl (Nat.le_of_ble_eq_true rfl) (fun o h2 hq => ?_)
      obtain ⟨hr, hx2⟩ := hq
      obtain ⟨r, hr2, rfl⟩ : ∃ r : Int32, (r = -4 ∨ vp_in r 14) ∧ o = some (.int r) := by
        rcases hr with rfl | ⟨b, hb, rfl⟩
        · exact ⟨_, Or.inl rfl, rfl⟩
        · exact ⟨_, Or.inr (vp_in_nI hb (by decide)), rfl⟩
      refine (show AW _ _ _ _ _ _ _ (.int r :: _) _ from ?_)
      refine aw_is4 K dX0_most_47 (by decide) rfl ?_
      refine aw_il4 K dX0_most_49 ?_
      refine aw_if_ge (tgt := 57) K dX0_most_51 (by decide) (fun b51 => ?_) (fun b51 => ?_)
      · have hg : vp_in r 14 := by
          rcases hr2 with rfl | z
          · exact absurd b51 (by decide)
          · exact z
        refine aw_il2 K dX0_most_57 ?_
        refine aw_al0 K dX0_most_58 ?_
        refine aw_il4 K dX0_most_59 ?_
        refine aw_callV K (tX0_push l g sta _ r hg h0 hx2) rfl (by decide) fX0_push lX0_50 dX0_most_61 rfl clsX0 rfl (Nat.le_of_ble_eq_true rfl) (fun o h2 hq => ?_)
        obtain ⟨⟨r3, rfl⟩, hx3⟩ := hq
        refine (show AW _ _ _ _ _ _ _ (.int r3 :: _) _ from ?_)
        refine aw_iadd K dX0_most_64 ?_
        refine aw_is2 K dX0_most_65 (by decide) rfl ?_
        refine aw_ii3 (v := _ + 1) K dX0_most_66 rfl (by decide) rfl ?_
        refine aw_goto (tgt := 35) K dX0_most_69 (by decide) ?_
        rw [nI_1]
        refine aw_sub [some (.ref (g.2.1 5)), some (.int hp), some (.int _), some (.int _), none] ⟨rfl, rfl, rfl, rfl, trivial⟩ ?_
        exact ih (i + 1) _ _ (by omega) (by omega) hx3
      · refine aw_goto (tgt := 72) K dX0_most_54 (by decide) ?_
        refine aw_il2 K dX0_most_72 ?_
        refine aw_iret K rfl dX0_most_73 ?_
        exact ⟨⟨_, rfl⟩, hx2⟩
set_option maxHeartbeats 4000000 in
set_option maxRecDepth 100000 in
theorem tX0_most (l : Launch) (g : Geo) (sta : Nat → Nat) (h : HS) (hp : Int32) (h0 : HS) (hq : XQ h0 h) : CT (wX l g sta) 3 mX0_most [.ref (g.2.1 5), .int hp] h (QI h0) := by
  refine CT.at [some (.ref (g.2.1 5)), some (.int hp), none, none, none] 3 rfl (by decide) (Nat.le_of_ble_eq_true rfl) (fun k K => ?_)
  refine aw_al0 K dX0_most_0 ?_
  refine aw_getR K gX0_11 dX0_most_1 rfl rfl ?_
  refine aw_iconst (v := 0) K dX0_most_4 (by decide) ?_
  refine aw_al0 K dX0_most_5 ?_
  refine aw_getR K gX0_18 dX0_most_6 rfl rfl ?_
  refine aw_iconst (v := 0) K dX0_most_9 (by decide) ?_
  refine aw_sipush (v := 196) K dX0_most_10 (by decide) ?_
  refine aw_copy K cpX0_40 cpnat rfl rfl (by decide) (by decide) (by decide) (by decide) (by decide) (by decide) (by decide) dX0_most_13 ?_
  refine aw_al0 K dX0_most_16 ?_
  refine aw_getR K gX0_15 dX0_most_17 rfl rfl ?_
  refine aw_iconst (v := 0) K dX0_most_20 (by decide) ?_
  refine aw_al0 K dX0_most_21 ?_
  refine aw_getR K gX0_21 dX0_most_22 rfl rfl ?_
  refine aw_iconst (v := 0) K dX0_most_25 (by decide) ?_
  refine aw_bipush (v := 14) K dX0_most_26 (by decide) ?_
  refine aw_copy K cpX0_40 cpnat rfl rfl (by decide) (by decide) (by decide) (by decide) (by decide) (by decide) (by decide) dX0_most_28 ?_
  refine aw_iconst (v := 0) K dX0_most_31 (by decide) ?_
  refine aw_is2 K dX0_most_32 (by decide) rfl ?_
  refine aw_iconst (v := 0) K dX0_most_33 (by decide) ?_
  refine aw_is3 K dX0_most_34 (by decide) rfl ?_
  exact lpX0_most K h0 hp 10001 0 0 _ (by omega) (by omega) ((hq.row rfl (by decide)).row rfl (by decide))

set_option maxHeartbeats 4000000 in
set_option maxRecDepth 100000 in
theorem lpX0_partCheat {l : Launch} {g : Geo} {sta : Nat → Nat} {k : KT} (K : AOK (wX l g sta) mX0_partCheat k) (h0 : HS) :
    ∀ (n i : Nat) (h : HS), i ≤ 14 → 14 - i < n → XQ h0 h → AW (wX l g sta) (QV h0) 1 mX0_partCheat k 2 [some (.ref (g.2.1 5)), some (.int (nI i))] [] h := by
  intro n
  induction n with
  | zero => intro i h h1 h2; omega
  | succ n ih =>
    intro i h h1 h2 hx
    refine aw_il1 K dX0_partCheat_2 ?_
    refine aw_bipush (v := 14) K dX0_partCheat_3 (by decide) ?_
    refine aw_icmp_ge (tgt := 50) K dX0_partCheat_5 (by decide) (fun b5 => ?_) (fun b5 => ?_)
    · refine aw_al0 K dX0_partCheat_50 ?_
      refine aw_getR K gX0_15 dX0_partCheat_51 rfl rfl ?_
      refine aw_bipush (v := 12) K dX0_partCheat_54 (by decide) ?_
      refine aw_iconst (v := 0) K dX0_partCheat_56 (by decide) ?_
      refine aw_iast K dX0_partCheat_57 rfl v12 ?_
      refine aw_vret K rfl dX0_partCheat_58 ?_
      exact ⟨rfl, hx.pt rfl (by decide)⟩
    · have hlt : i < 14 := by
        rcases Nat.lt_or_ge i 14 with q | q
        · exact q
        · exact absurd (nI_le (a := 14) q (by omega)) b5
      refine aw_al0 K dX0_partCheat_8 ?_
      refine aw_getR K gX0_11 dX0_partCheat_9 rfl rfl ?_
      refine aw_il1 K dX0_partCheat_12 ?_
      refine aw_bipush (v := 14) K dX0_partCheat_13 (by decide) ?_
      refine aw_imul K dX0_partCheat_15 ?_
      refine aw_bipush (v := 12) K dX0_partCheat_16 (by decide) ?_
      refine aw_iadd K dX0_partCheat_18 ?_
      refine aw_iconst (v := 0) K dX0_partCheat_19 (by decide) ?_
      refine aw_iast K dX0_partCheat_20 rfl (ix14 (vp_in_nI hlt (by decide)) v12) ?_
      refine aw_al0 K dX0_partCheat_21 ?_
      refine aw_getR K gX0_11 dX0_partCheat_22 rfl rfl ?_
      refine aw_sipush (v := 168) K dX0_partCheat_25 (by decide) ?_
      refine aw_il1 K dX0_partCheat_28 ?_
      refine aw_iadd K dX0_partCheat_29 ?_
      refine aw_iconst (v := 0) K dX0_partCheat_30 (by decide) ?_
      rw [show (168 : Int32) = nI 168 from rfl, nI_add]
      refine aw_iast K dX0_partCheat_31 rfl (vp_in_nI (by omega) (by decide)) ?_
      refine aw_al0 K dX0_partCheat_32 ?_
      refine aw_getR K gX0_15 dX0_partCheat_33 rfl rfl ?_
      refine aw_il1 K dX0_partCheat_36 ?_
      refine aw_dup2_11 K dX0_partCheat_37 rfl rfl ?_
      refine aw_iald K dX0_partCheat_38 rfl (vp_in_nI hlt (by decide)) ?_
      refine aw_sipush (v := (-4097)) K dX0_partCheat_39 (by decide) ?_
      refine aw_iand K dX0_partCheat_42 ?_
      refine aw_iast K dX0_partCheat_43 rfl (vp_in_nI hlt (by decide)) ?_
      refine aw_ii1 (v := _ + 1) K dX0_partCheat_44 rfl (by decide) rfl ?_
      refine aw_goto (tgt := 2) K dX0_partCheat_47 (by decide) ?_
      rw [nI_1]
      exact ih (i + 1) _ (by omega) (by omega) (((hx.pt rfl (by decide)).pt rfl (by decide)).pt rfl (by decide))
set_option maxHeartbeats 4000000 in
set_option maxRecDepth 100000 in
theorem tX0_partCheat (l : Launch) (g : Geo) (sta : Nat → Nat) (h : HS) (h0 : HS) (hq : XQ h0 h) : CT (wX l g sta) 1 mX0_partCheat [.ref (g.2.1 5)] h (QV h0) := by
  refine CT.at [some (.ref (g.2.1 5)), none] 1 rfl (by decide) (Nat.le_of_ble_eq_true rfl) (fun k K => ?_)
  refine aw_iconst (v := 0) K dX0_partCheat_0 (by decide) ?_
  refine aw_is1 K dX0_partCheat_1 (by decide) rfl ?_
  exact lpX0_partCheat K h0 15 0 h (by omega) (by omega) hq

set_option maxHeartbeats 4000000 in
set_option maxRecDepth 100000 in
theorem lpX6_gainBy {l : Launch} {g : Geo} {sta : Nat → Nat} {k : KT} (K : AOK (wX l g sta) mX6_gainBy k) (h0 : HS) (a b c : Int32) {N T Wn : Nat} (H0 : XW h0 N T Wn) :
    ∀ (n i : Nat) (pr : Int32) (h : HS), i ≤ N → N - i < n → XQ h0 h → AW (wX l g sta) (QI h0) 4 mX6_gainBy k 13 [some (.ref (g.2.1 0)), some (.int a), some (.int b), some (.int c), some (.int pr), some (.int (nI i))] [] h := by
  intro n
  induction n with
  | zero => intro i pr h h1 h2; omega
  | succ n ih =>
    intro i pr h h1 h2 hx
    have H := H0.q hx
    have hN := H.1.2
    refine aw_il5 K dX6_gainBy_13 ?_
    refine aw_al0 K dX6_gainBy_15 ?_
    refine aw_getR K gX6_12 dX6_gainBy_16 rfl rfl ?_
    refine aw_getI K gX6_161 dX6_gainBy_19 rfl rfl ?_
    rw [H.1.1]
    refine aw_icmp_ge (tgt := 67) K dX6_gainBy_22 (by decide) (fun b22 => ?_) (fun b22 => ?_)
    · refine aw_il3 K dX6_gainBy_67 ?_
      refine aw_al0 K dX6_gainBy_68 ?_
      refine aw_getR K gX6_40 dX6_gainBy_69 rfl rfl ?_
      refine aw_sipush (v := 4096) K dX6_gainBy_72 (by decide) ?_
      refine aw_callV K (tX0_most l g sta _ _ h0 hx) rfl (by decide) fX0_most lX6_193 dX6_gainBy_75 rfl clsX0 rfl (Nat.le_of_ble_eq_true rfl) (fun o h2 hq => ?_)
      obtain ⟨⟨r, rfl⟩, hx3⟩ := hq
      refine (show AW _ _ _ _ _ _ _ (.int r :: _) _ from ?_)
      refine aw_imul K dX6_gainBy_78 ?_
      refine aw_il4 K dX6_gainBy_79 ?_
      refine aw_isub K dX6_gainBy_81 ?_
      refine aw_iret K rfl dX6_gainBy_82 ?_
      exact ⟨⟨_, rfl⟩, hx3⟩
    · have hlt : i < N := by
        rcases Nat.lt_or_ge i N with q | q
        · exact q
        · exact absurd (nI_le (a := N) q (by omega)) b22
      refine aw_il1 K dX6_gainBy_25 ?_
      refine aw_il5 K dX6_gainBy_26 ?_
      refine aw_callS_I K (tX6_hasBit l g sta _ _ _) rfl (by decide) fX6_hasBit lX6_162 dX6_gainBy_28 rfl (Nat.le_of_ble_eq_true rfl) ?_
      refine aw_if_eq (tgt := 61) K dX6_gainBy_31 (by decide) (fun b31 => ?_) (fun b31 => ?_)
      · refine aw_ii5 (v := _ + 1) K dX6_gainBy_61 rfl (by decide) rfl ?_
        refine aw_goto (tgt := 13) K dX6_gainBy_64 (by decide) ?_
        rw [nI_1]
        exact ih (i + 1) _ _ (by omega) (by omega) hx
      · refine aw_il4 K dX6_gainBy_34 ?_
        refine aw_al0 K dX6_gainBy_36 ?_
        refine aw_getR K gX6_12 dX6_gainBy_37 rfl rfl ?_
        refine aw_getR K gX6_143 dX6_gainBy_40 rfl rfl ?_
        refine aw_il5 K dX6_gainBy_43 ?_
        refine aw_iald K dX6_gainBy_45 rfl (vp_in_nI (by omega) (by decide)) ?_
        refine aw_iadd K dX6_gainBy_46 ?_
        refine aw_is4 K dX6_gainBy_47 (by decide) rfl ?_
        refine aw_al0 K dX6_gainBy_49 ?_
        refine aw_getR K gX6_40 dX6_gainBy_50 rfl rfl ?_
        refine aw_il5 K dX6_gainBy_53 ?_
        refine aw_bipush (v := 12) K dX6_gainBy_55 (by decide) ?_
        refine aw_il2 K dX6_gainBy_57 ?_
        refine aw_callV K (tX0_join l g sta _ _ _ _ (vp_in_nI (by omega) (by decide)) v12 h0 hx) rfl (by decide) fX0_join lX6_338 dX6_gainBy_58 rfl clsX0 rfl (Nat.le_of_ble_eq_true rfl) (fun o h2 hq => ?_)
        obtain ⟨rfl, hx2⟩ := hq
        refine aw_ii5 (v := _ + 1) K dX6_gainBy_61 rfl (by decide) rfl ?_
        refine aw_goto (tgt := 13) K dX6_gainBy_64 (by decide) ?_
        rw [nI_1]
        exact ih (i + 1) _ _ (by omega) (by omega) hx2
set_option maxHeartbeats 4000000 in
set_option maxRecDepth 100000 in
theorem tX6_gainBy (l : Launch) (g : Geo) (sta : Nat → Nat) (h : HS) (a b c : Int32) (h0 : HS) {N T Wn : Nat} (H0 : XW h0 N T Wn) (hq : XQ h0 h) : CT (wX l g sta) 4 mX6_gainBy [.ref (g.2.1 0), .int a, .int b, .int c] h (QI h0) := by
  refine CT.at [some (.ref (g.2.1 0)), some (.int a), some (.int b), some (.int c), none, none] 2 rfl (by decide) (Nat.le_of_ble_eq_true rfl) (fun k K => ?_)
  refine aw_iconst (v := 0) K dX6_gainBy_0 (by decide) ?_
  refine aw_is4 K dX6_gainBy_1 (by decide) rfl ?_
  refine aw_al0 K dX6_gainBy_3 ?_
  refine aw_getR K gX6_40 dX6_gainBy_4 rfl rfl ?_
  refine aw_callV K (tX0_partCheat l g sta _ h0 hq) rfl (by decide) fX0_partCheat lX6_354 dX6_gainBy_7 rfl clsX0 rfl (Nat.le_of_ble_eq_true rfl) (fun o h2 hq => ?_)
  obtain ⟨rfl, hx2⟩ := hq
  refine aw_iconst (v := 0) K dX6_gainBy_10 (by decide) ?_
  refine aw_is5 K dX6_gainBy_11 (by decide) rfl ?_
  exact lpX6_gainBy K h0 a b c H0 (N + 1) 0 0 _ (by omega) (by omega) hx2

set_option maxHeartbeats 4000000 in
set_option maxRecDepth 100000 in
theorem lpX6_fillTrusts {l : Launch} {g : Geo} {sta : Nat → Nat} {k : KT} (K : AOK (wX l g sta) mX6_fillTrusts k) (h0 : HS) {N T Wn : Nat} (H0 : XW h0 N T Wn) :
    ∀ (n i : Nat) (h : HS), i ≤ N → N - i < n → XQ h0 h → AW (wX l g sta) (QV h0) 6 mX6_fillTrusts k 6 [some (.ref (g.2.1 0)), some (.int (nI i))] [] h := by
  intro n
  induction n with
  | zero => intro i h h1 h2; omega
  | succ n ih =>
    intro i h h1 h2 hx
    have H := H0.q hx
    have hN := H.1.2
    refine aw_il1 K dX6_fillTrusts_6 ?_
    refine aw_al0 K dX6_fillTrusts_7 ?_
    refine aw_getR K gX6_12 dX6_fillTrusts_8 rfl rfl ?_
    refine aw_getI K gX6_161 dX6_fillTrusts_11 rfl rfl ?_
    rw [H.1.1]
    refine aw_icmp_ge (tgt := 51) K dX6_fillTrusts_14 (by decide) (fun b14 => ?_) (fun b14 => ?_)
    · refine aw_vret K rfl dX6_fillTrusts_51 ?_
      exact ⟨rfl, hx⟩
    · have hlt : i < N := by
        rcases Nat.lt_or_ge i N with q | q
        · exact q
        · exact absurd (nI_le (a := N) q (by omega)) b14
      refine aw_al0 K dX6_fillTrusts_17 ?_
      refine aw_getR K gX6_63 dX6_fillTrusts_18 rfl rfl ?_
      refine aw_il1 K dX6_fillTrusts_21 ?_
      refine aw_al0 K dX6_fillTrusts_22 ?_
      refine aw_il1 K dX6_fillTrusts_23 ?_
      refine aw_callV_I K (tX6_isPlain l g sta _ _ (vp_in_nI (by omega) (by decide))) rfl (by decide) fX6_isPlain lX6_208 dX6_fillTrusts_24 rfl clsX6 rfl (Nat.le_of_ble_eq_true rfl) ?_
      refine aw_if_eq (tgt := 43) K dX6_fillTrusts_27 (by decide) (fun b27 => ?_) (fun b27 => ?_)
      · refine aw_iconst (v := 0) K dX6_fillTrusts_43 (by decide) ?_
        refine aw_iast K dX6_fillTrusts_44 rfl (vp_in_nI (by omega) (by decide)) ?_
        refine aw_ii1 (v := _ + 1) K dX6_fillTrusts_45 rfl (by decide) rfl ?_
        refine aw_goto (tgt := 6) K dX6_fillTrusts_48 (by decide) ?_
        rw [nI_1]
        exact ih (i + 1) _ (by omega) (by omega) (hx.pt rfl (by decide))
      · refine aw_al0 K dX6_fillTrusts_30 ?_
        refine aw_getR K gX6_40 dX6_fillTrusts_31 rfl rfl ?_
        refine aw_iconst (v := 1) K dX6_fillTrusts_34 (by decide) ?_
        refine aw_il1 K dX6_fillTrusts_35 ?_
        refine aw_ishl K dX6_fillTrusts_36 ?_
        refine aw_callV K (tX0_most l g sta _ _ h0 hx) rfl (by decide) fX0_most lX6_193 dX6_fillTrusts_37 rfl clsX0 rfl (Nat.le_of_ble_eq_true rfl) (fun o h2 hq => ?_)
        obtain ⟨⟨r, rfl⟩, hx2⟩ := hq
        refine (show AW _ _ _ _ _ _ _ (.int r :: _) _ from ?_)
        refine aw_goto (tgt := 44) K dX6_fillTrusts_40 (by decide) ?_
        refine aw_iast K dX6_fillTrusts_44 rfl (vp_in_nI (by omega) (by decide)) ?_
        refine aw_ii1 (v := _ + 1) K dX6_fillTrusts_45 rfl (by decide) rfl ?_
        refine aw_goto (tgt := 6) K dX6_fillTrusts_48 (by decide) ?_
        rw [nI_1]
        exact ih (i + 1) _ (by omega) (by omega) (hx2.pt rfl (by decide))
set_option maxHeartbeats 4000000 in
set_option maxRecDepth 100000 in
theorem tX6_fillTrusts (l : Launch) (g : Geo) (sta : Nat → Nat) (h : HS) {N T Wn : Nat} (H : XW h N T Wn) : CT (wX l g sta) 6 mX6_fillTrusts [.ref (g.2.1 0)] h (QV h) := by
  refine CT.at [some (.ref (g.2.1 0)), none] 1 rfl (by decide) (Nat.le_of_ble_eq_true rfl) (fun k K => ?_)
  refine aw_al0 K dX6_fillTrusts_0 ?_
  refine aw_callV K (tX6_layFlow l g sta _ H) rfl (by decide) fX6_layFlow lX6_190 dX6_fillTrusts_1 rfl clsX6 rfl (Nat.le_of_ble_eq_true rfl) (fun o h2 hq => ?_)
  obtain ⟨rfl, hx⟩ := hq
  refine aw_iconst (v := 0) K dX6_fillTrusts_4 (by decide) ?_
  refine aw_is1 K dX6_fillTrusts_5 (by decide) rfl ?_
  exact lpX6_fillTrusts K h H (N + 1) 0 _ (by omega) (by omega) hx

set_option maxHeartbeats 4000000 in
set_option maxRecDepth 100000 in
theorem lpX6_weighSayers {l : Launch} {g : Geo} {sta : Nat → Nat} {k : KT} (K : AOK (wX l g sta) mX6_weighSayers k) (h0 : HS) (sl sy : Int32) {N T Wn : Nat} (H0 : XW h0 N T Wn) :
    ∀ (n i : Nat) (he be al : Int32) (h : HS), i ≤ 12 → 12 - i < n → XQ h0 h → AW (wX l g sta) (QI h0) 6 mX6_weighSayers k 21 [some (.ref (g.2.1 0)), some (.int sl), some (.int sy), some (.int he), some (.int be), some (.int al), some (.int (nI i)), none, none] [] h := by
  intro n
  induction n with
  | zero => intro i he be al h h1 h2; omega
  | succ n ih =>
    intro i he be al h h1 h2 hx
    refine aw_il6 K dX6_weighSayers_21 ?_
    refine aw_bipush (v := 12) K dX6_weighSayers_23 (by decide) ?_
    refine aw_icmp_ge (tgt := 170) K dX6_weighSayers_25 (by decide) (fun b25 => ?_) (fun b25 => ?_)
    · refine aw_il5 K dX6_weighSayers_170 ?_
      refine aw_iret K rfl dX6_weighSayers_172 ?_
      exact ⟨⟨_, rfl⟩, hx⟩
    · have hlt : i < 12 := by
        rcases Nat.lt_or_ge i 12 with q | q
        · exact q
        · exact absurd (nI_le (a := 12) q (by omega)) b25
      refine aw_al0 K dX6_weighSayers_28 ?_
      refine aw_getR K gX6_57 dX6_weighSayers_29 rfl rfl ?_
      refine aw_il6 K dX6_weighSayers_32 ?_
      refine aw_iconst (v := 0) K dX6_weighSayers_34 (by decide) ?_
      refine aw_iast K dX6_weighSayers_35 rfl (vp_in_nI (by omega) (by decide)) ?_
      refine aw_al0 K dX6_weighSayers_36 ?_
      refine aw_getR K gX6_60 dX6_weighSayers_37 rfl rfl ?_
      refine aw_il6 K dX6_weighSayers_40 ?_
      refine aw_iconst (v := 0) K dX6_weighSayers_42 (by decide) ?_
      refine aw_iast K dX6_weighSayers_43 rfl (vp_in_nI (by omega) (by decide)) ?_
      refine aw_il2 K dX6_weighSayers_44 ?_
      refine aw_il6 K dX6_weighSayers_45 ?_
      have hx1 := (hx.pt (c0 := 13) (j0 := (nI i).toNatClampNeg) (v := 0) rfl (by decide)).pt (c0 := 14) (j0 := (nI i).toNatClampNeg) (v := 0) rfl (by decide)
      have H := H0.q hx1
      refine aw_callS_I K (tX6_hasBit l g sta _ _ _) rfl (by decide) fX6_hasBit lX6_162 dX6_weighSayers_47 rfl (Nat.le_of_ble_eq_true rfl) ?_
      refine aw_if_eq (tgt := 66) K dX6_weighSayers_50 (by decide) (fun b50 => ?_) (fun b50 => ?_)
      · refine aw_bipush (v := (-4)) K dX6_weighSayers_66 (by decide) ?_
        refine aw_is7 K dX6_weighSayers_68 (by decide) rfl ?_
        refine aw_il7 K dX6_weighSayers_70 ?_
        refine aw_if_ge (tgt := 78) K dX6_weighSayers_72 (by decide) (fun b72 => ?_) (fun b72 => ?_)
        · exact absurd b72 (by decide)
        · refine aw_goto (tgt := 164) K dX6_weighSayers_75 (by decide) ?_
          refine aw_ii6 (v := _ + 1) K dX6_weighSayers_164 rfl (by decide) rfl ?_
          refine aw_goto (tgt := 21) K dX6_weighSayers_167 (by decide) ?_
          rw [nI_1]
          refine aw_sub [some (.ref (g.2.1 0)), some (.int sl), some (.int sy), some (.int _), some (.int _), some (.int _), some (.int _), none, none] ⟨rfl, rfl, rfl, rfl, rfl, rfl, rfl, trivial⟩ ?_
          exact ih (i + 1) _ _ _ _ (by omega) (by omega) hx1
      · refine aw_al0 K dX6_weighSayers_53 ?_
        refine aw_getR K gX6_26 dX6_weighSayers_54 rfl rfl ?_
        refine aw_il6 K dX6_weighSayers_57 ?_
        refine aw_il1 K dX6_weighSayers_59 ?_
        refine aw_callV K (tX5_countingOf l g sta _ _ _ H) rfl (by decide) fX5_countingOf lX6_342 dX6_weighSayers_60 rfl clsX5 rfl (Nat.le_of_ble_eq_true rfl) (fun o h2 hq => ?_)
        obtain ⟨hr, rfl⟩ := hq
        obtain ⟨r, hr2, rfl⟩ : ∃ r : Int32, (r = -4 ∨ vp_in r 24) ∧ o = some (.int r) := by
          rcases hr with rfl | ⟨b, hb, rfl⟩
          · exact ⟨_, Or.inl rfl, rfl⟩
          · exact ⟨_, Or.inr (vp_in_nI hb (by decide)), rfl⟩
        refine (show AW _ _ _ _ _ _ _ (.int r :: _) _ from ?_)
        refine aw_goto (tgt := 68) K dX6_weighSayers_63 (by decide) ?_
        refine aw_is7 K dX6_weighSayers_68 (by decide) rfl ?_
        refine aw_il7 K dX6_weighSayers_70 ?_
        refine aw_if_ge (tgt := 78) K dX6_weighSayers_72 (by decide) (fun b72 => ?_) (fun b72 => ?_)
        · have hg : vp_in r 24 := by
            rcases hr2 with rfl | z
            · exact absurd b72 (by decide)
            · exact z
          refine aw_il3 K dX6_weighSayers_78 ?_
          refine aw_iconst (v := 1) K dX6_weighSayers_79 (by decide) ?_
          refine aw_il6 K dX6_weighSayers_80 ?_
          refine aw_ishl K dX6_weighSayers_82 ?_
          refine aw_ior K dX6_weighSayers_83 ?_
          refine aw_is3 K dX6_weighSayers_84 (by decide) rfl ?_
          refine aw_al0 K dX6_weighSayers_85 ?_
          refine aw_getR K gX6_40 dX6_weighSayers_86 rfl rfl ?_
          refine aw_il3 K dX6_weighSayers_89 ?_
          refine aw_callV K (tX0_most l g sta _ _ h0 hx1) rfl (by decide) fX0_most lX6_193 dX6_weighSayers_90 rfl clsX0 rfl (Nat.le_of_ble_eq_true rfl) (fun o h2 hq => ?_)
          obtain ⟨⟨r2, rfl⟩, hx2⟩ := hq
          refine (show AW _ _ _ _ _ _ _ (.int r2 :: _) _ from ?_)
          refine aw_is8 K dX6_weighSayers_93 (by decide) rfl ?_
          refine aw_al0 K dX6_weighSayers_95 ?_
          refine aw_getR K gX6_57 dX6_weighSayers_96 rfl rfl ?_
          refine aw_il6 K dX6_weighSayers_99 ?_
          refine aw_il8 K dX6_weighSayers_101 ?_
          refine aw_il4 K dX6_weighSayers_103 ?_
          refine aw_isub K dX6_weighSayers_105 ?_
          refine aw_al0 K dX6_weighSayers_106 ?_
          refine aw_getR K gX6_50 dX6_weighSayers_107 rfl rfl ?_
          refine aw_iconst (v := 5) K dX6_weighSayers_110 (by decide) ?_
          refine aw_iald K dX6_weighSayers_111 rfl (vp_in_nI (n := 5) (by decide) (by decide)) ?_
          refine aw_al0 K dX6_weighSayers_112 ?_
          refine aw_getI K gX6_113 dX6_weighSayers_113 rfl rfl ?_
          refine aw_al0 K dX6_weighSayers_116 ?_
          refine aw_getR K gX6_26 dX6_weighSayers_117 rfl rfl ?_
          refine aw_getR K gX6_233 dX6_weighSayers_120 rfl rfl ?_
          refine aw_il7 K dX6_weighSayers_123 ?_
          refine aw_iald K dX6_weighSayers_125 rfl hg ?_
          refine aw_isub K dX6_weighSayers_126 ?_
          refine aw_callS_I K (tX6_faded l g sta _ _ _ _) rfl (by decide) fX6_faded lX6_329 dX6_weighSayers_127 rfl (Nat.le_of_ble_eq_true rfl) ?_
          refine aw_iast K dX6_weighSayers_130 rfl (vp_in_nI (by omega) (by decide)) ?_
          refine aw_al0 K dX6_weighSayers_131 ?_
          refine aw_getR K gX6_60 dX6_weighSayers_132 rfl rfl ?_
          refine aw_il6 K dX6_weighSayers_135 ?_
          refine aw_al0 K dX6_weighSayers_137 ?_
          refine aw_getR K gX6_26 dX6_weighSayers_138 rfl rfl ?_
          refine aw_getR K gX6_230 dX6_weighSayers_141 rfl rfl ?_
          refine aw_il7 K dX6_weighSayers_144 ?_
          refine aw_iald K dX6_weighSayers_146 rfl hg ?_
          refine aw_iast K dX6_weighSayers_147 rfl (vp_in_nI (by omega) (by decide)) ?_
          refine aw_il8 K dX6_weighSayers_148 ?_
          refine aw_is4 K dX6_weighSayers_150 (by decide) rfl ?_
          refine aw_il5 K dX6_weighSayers_152 ?_
          refine aw_al0 K dX6_weighSayers_154 ?_
          refine aw_getR K gX6_57 dX6_weighSayers_155 rfl rfl ?_
          refine aw_il6 K dX6_weighSayers_158 ?_
          refine aw_iald K dX6_weighSayers_160 rfl (vp_in_nI (by omega) (by decide)) ?_
          refine aw_iadd K dX6_weighSayers_161 ?_
          refine aw_is5 K dX6_weighSayers_162 (by decide) rfl ?_
          refine aw_ii6 (v := _ + 1) K dX6_weighSayers_164 rfl (by decide) rfl ?_
          refine aw_goto (tgt := 21) K dX6_weighSayers_167 (by decide) ?_
          rw [nI_1]
          refine aw_sub [some (.ref (g.2.1 0)), some (.int sl), some (.int sy), some (.int _), some (.int _), some (.int _), some (.int _), none, none] ⟨rfl, rfl, rfl, rfl, rfl, rfl, rfl, trivial⟩ ?_
          exact ih (i + 1) _ _ _ _ (by omega) (by omega) ((hx2.pt rfl (by decide)).pt rfl (by decide))
        · refine aw_goto (tgt := 164) K dX6_weighSayers_75 (by decide) ?_
          refine aw_ii6 (v := _ + 1) K dX6_weighSayers_164 rfl (by decide) rfl ?_
          refine aw_goto (tgt := 21) K dX6_weighSayers_167 (by decide) ?_
          rw [nI_1]
          refine aw_sub [some (.ref (g.2.1 0)), some (.int sl), some (.int sy), some (.int _), some (.int _), some (.int _), some (.int _), none, none] ⟨rfl, rfl, rfl, rfl, rfl, rfl, rfl, trivial⟩ ?_
          exact ih (i + 1) _ _ _ _ (by omega) (by omega) hx1
set_option maxHeartbeats 4000000 in
set_option maxRecDepth 100000 in
theorem tX6_weighSayers (l : Launch) (g : Geo) (sta : Nat → Nat) (h : HS) (sl : Int32) {N T Wn : Nat} (H : XW h N T Wn) : CT (wX l g sta) 6 mX6_weighSayers [.ref (g.2.1 0), .int sl] h (QI h) := by
  refine CT.at [some (.ref (g.2.1 0)), some (.int sl), none, none, none, none, none, none, none] 7 rfl (by decide) (Nat.le_of_ble_eq_true rfl) (fun k K => ?_)
  refine aw_al0 K dX6_weighSayers_0 ?_
  refine aw_il1 K dX6_weighSayers_1 ?_
  refine aw_callV K (tX6_sayersOf l g sta _ _ H) rfl (by decide) fX6_sayersOf lX6_237 dX6_weighSayers_2 rfl clsX6 rfl (Nat.le_of_ble_eq_true rfl) (fun o h2 hq => ?_)
  obtain ⟨⟨r, rfl⟩, rfl⟩ := hq
  refine (show AW _ _ _ _ _ _ _ (.int r :: _) _ from ?_)
  refine aw_is2 K dX6_weighSayers_5 (by decide) rfl ?_
  refine aw_iconst (v := 0) K dX6_weighSayers_6 (by decide) ?_
  refine aw_is3 K dX6_weighSayers_7 (by decide) rfl ?_
  refine aw_iconst (v := 0) K dX6_weighSayers_8 (by decide) ?_
  refine aw_is4 K dX6_weighSayers_9 (by decide) rfl ?_
  refine aw_iconst (v := 0) K dX6_weighSayers_11 (by decide) ?_
  refine aw_is5 K dX6_weighSayers_12 (by decide) rfl ?_
  refine aw_al0 K dX6_weighSayers_14 ?_
  refine aw_callV K (tX6_layFlow l g sta _ H) rfl (by decide) fX6_layFlow lX6_190 dX6_weighSayers_15 rfl clsX6 rfl (Nat.le_of_ble_eq_true rfl) (fun o h2 hq => ?_)
  obtain ⟨rfl, hx⟩ := hq
  refine aw_iconst (v := 0) K dX6_weighSayers_18 (by decide) ?_
  refine aw_is6 K dX6_weighSayers_19 (by decide) rfl ?_
  exact lpX6_weighSayers K _ sl _ H 13 0 0 0 0 _ (by omega) (by omega) hx

set_option maxHeartbeats 4000000 in
set_option maxRecDepth 100000 in
theorem lpX6_summedMarks {l : Launch} {g : Geo} {sta : Nat → Nat} {k : KT} (K : AOK (wX l g sta) mX6_summedMarks k) (h : HS)  :
    ∀ (n i : Nat) (acc : Int32), i ≤ 12 → 12 - i < n → AW (wX l g sta) (AI h) 1 mX6_summedMarks k 4 [some (.ref (g.2.1 0)), some (.int acc), some (.int (nI i))] [] h := by
  intro n
  induction n with
  | zero => intro i acc h1 h2; omega
  | succ n ih =>
    intro i acc h1 h2
    refine aw_il2 K dX6_summedMarks_4 ?_
    refine aw_bipush (v := 12) K dX6_summedMarks_5 (by decide) ?_
    refine aw_icmp_ge (tgt := 32) K dX6_summedMarks_7 (by decide) (fun b7 => ?_) (fun b7 => ?_)
    · refine aw_il1 K dX6_summedMarks_32 ?_
      refine aw_iret K rfl dX6_summedMarks_33 ?_
      exact ⟨⟨_, rfl⟩, rfl⟩
    · have hlt : i < 12 := by
        rcases Nat.lt_or_ge i 12 with q | q
        · exact q
        · exact absurd (nI_le (a := 12) q (by omega)) b7
      refine aw_il1 K dX6_summedMarks_10 ?_
      refine aw_al0 K dX6_summedMarks_11 ?_
      refine aw_getR K gX6_57 dX6_summedMarks_12 rfl rfl ?_
      refine aw_il2 K dX6_summedMarks_15 ?_
      refine aw_iald K dX6_summedMarks_16 rfl (vp_in_nI (by omega) (by decide)) ?_
      refine aw_al0 K dX6_summedMarks_17 ?_
      refine aw_getR K gX6_60 dX6_summedMarks_18 rfl rfl ?_
      refine aw_il2 K dX6_summedMarks_21 ?_
      refine aw_iald K dX6_summedMarks_22 rfl (vp_in_nI (by omega) (by decide)) ?_
      refine aw_imul K dX6_summedMarks_23 ?_
      refine aw_iadd K dX6_summedMarks_24 ?_
      refine aw_is1 K dX6_summedMarks_25 (by decide) rfl ?_
      refine aw_ii2 (v := _ + 1) K dX6_summedMarks_26 rfl (by decide) rfl ?_
      refine aw_goto (tgt := 4) K dX6_summedMarks_29 (by decide) ?_
      rw [nI_1]
      refine aw_sub [some (.ref (g.2.1 0)), some (.int _), some (.int _)] ⟨rfl, rfl, rfl, trivial⟩ ?_
      exact ih (i + 1) _ (by omega) (by omega)
set_option maxHeartbeats 4000000 in
set_option maxRecDepth 100000 in
theorem tX6_summedMarks (l : Launch) (g : Geo) (sta : Nat → Nat) (h : HS) : CT (wX l g sta) 1 mX6_summedMarks [.ref (g.2.1 0)] h (AI h) := by
  refine CT.at [some (.ref (g.2.1 0)), none, none] 2 rfl (by decide) (Nat.le_of_ble_eq_true rfl) (fun k K => ?_)
  refine aw_iconst (v := 0) K dX6_summedMarks_0 (by decide) ?_
  refine aw_is1 K dX6_summedMarks_1 (by decide) rfl ?_
  refine aw_iconst (v := 0) K dX6_summedMarks_2 (by decide) ?_
  refine aw_is2 K dX6_summedMarks_3 (by decide) rfl ?_
  exact lpX6_summedMarks K h  (12 + 1) 0 0 (by omega) (by omega)

set_option maxHeartbeats 4000000 in
set_option maxRecDepth 100000 in
theorem lp3X6_greatestStakes {l : Launch} {g : Geo} {sta : Nat → Nat} {k : KT} (K : AOK (wX l g sta) mX6_greatestStakes k) (h0 : HS) (kk b : Int32) (sm i4 : Int32) (h : HS)
    (hk : ∀ m : Nat, m < 12 → AW (wX l g sta) (QI h0) 1 mX6_greatestStakes k 105 [some (.ref (g.2.1 0)), some (.int kk), some (.int b), some (.int sm), some (.int i4), some (.int (nI m)), none] [] h) :
    ∀ (n i m : Nat), i ≤ 12 → 12 - i < n → m < 12 → AW (wX l g sta) (QI h0) 1 mX6_greatestStakes k 66 [some (.ref (g.2.1 0)), some (.int kk), some (.int b), some (.int sm), some (.int i4), some (.int (nI m)), some (.int (nI i))] [] h := by
  intro n
  induction n with
  | zero => intro i m h1 h2; omega
  | succ n ih =>
    intro i m h1 h2 hm
    refine aw_il6 K dX6_greatestStakes_66 ?_
    refine aw_bipush (v := 12) K dX6_greatestStakes_68 (by decide) ?_
    refine aw_icmp_ge (tgt := 105) K dX6_greatestStakes_70 (by decide) (fun b70 => ?_) (fun b70 => ?_)
    · refine aw_sub [some (.ref (g.2.1 0)), some (.int kk), some (.int b), some (.int sm), some (.int i4), some (.int _), none] ⟨rfl, rfl, rfl, rfl, rfl, rfl, trivial⟩ ?_
      exact hk m hm
    · have hlt : i < 12 := by
        rcases Nat.lt_or_ge i 12 with q | q
        · exact q
        · exact absurd (nI_le (a := 12) q (by omega)) b70
      refine aw_al0 K dX6_greatestStakes_73 ?_
      refine aw_getR K gX6_63 dX6_greatestStakes_74 rfl rfl ?_
      refine aw_il6 K dX6_greatestStakes_77 ?_
      refine aw_iald K dX6_greatestStakes_79 rfl (vp_in_nI hlt (by decide)) ?_
      refine aw_al0 K dX6_greatestStakes_80 ?_
      refine aw_getR K gX6_63 dX6_greatestStakes_81 rfl rfl ?_
      refine aw_il5 K dX6_greatestStakes_84 ?_
      refine aw_iald K dX6_greatestStakes_86 rfl (vp_in_nI hm (by decide)) ?_
      refine aw_icmp_le (tgt := 95) K dX6_greatestStakes_87 (by decide) (fun b87 => ?_) (fun b87 => ?_)
      · refine aw_il5 K dX6_greatestStakes_95 ?_
        refine aw_is5 K dX6_greatestStakes_97 (by decide) rfl ?_
        refine aw_ii6 (v := _ + 1) K dX6_greatestStakes_99 rfl (by decide) rfl ?_
        refine aw_goto (tgt := 66) K dX6_greatestStakes_102 (by decide) ?_
        rw [nI_1]
        exact ih (i + 1) m (by omega) (by omega) hm
      · refine aw_il6 K dX6_greatestStakes_90 ?_
        refine aw_goto (tgt := 97) K dX6_greatestStakes_92 (by decide) ?_
        refine aw_is5 K dX6_greatestStakes_97 (by decide) rfl ?_
        refine aw_ii6 (v := _ + 1) K dX6_greatestStakes_99 rfl (by decide) rfl ?_
        refine aw_goto (tgt := 66) K dX6_greatestStakes_102 (by decide) ?_
        rw [nI_1]
        exact ih (i + 1) i (by omega) (by omega) hlt
set_option maxHeartbeats 4000000 in
set_option maxRecDepth 100000 in
theorem lp2X6_greatestStakes {l : Launch} {g : Geo} {sta : Nat → Nat} {k : KT} (K : AOK (wX l g sta) mX6_greatestStakes k) (h0 : HS) (kk : Nat) (b : Int32) (hkk : kk < 2 ^ 31) :
    ∀ (n i : Nat) (sm : Int32) (h : HS), i ≤ kk → kk - i < n → XQ h0 h → AW (wX l g sta) (QI h0) 1 mX6_greatestStakes k 54 [some (.ref (g.2.1 0)), some (.int (nI kk)), some (.int b), some (.int sm), some (.int (nI i)), none, none] [] h := by
  intro n
  induction n with
  | zero => intro i sm h h1 h2; omega
  | succ n ih =>
    intro i sm h h1 h2 hx
    refine aw_il4 K dX6_greatestStakes_54 ?_
    refine aw_il1 K dX6_greatestStakes_56 ?_
    refine aw_icmp_ge (tgt := 129) K dX6_greatestStakes_57 (by decide) (fun b57 => ?_) (fun b57 => ?_)
    · refine aw_il3 K dX6_greatestStakes_129 ?_
      refine aw_iret K rfl dX6_greatestStakes_130 ?_
      exact ⟨⟨_, rfl⟩, hx⟩
    · have hlt : i < kk := by
        rcases Nat.lt_or_ge i kk with q | q
        · exact q
        · exact absurd (nI_le (a := kk) q (by omega)) b57
      refine aw_iconst (v := 0) K dX6_greatestStakes_60 (by decide) ?_
      refine aw_is5 K dX6_greatestStakes_61 (by decide) rfl ?_
      refine aw_iconst (v := 1) K dX6_greatestStakes_63 (by decide) ?_
      refine aw_is6 K dX6_greatestStakes_64 (by decide) rfl ?_
      refine lp3X6_greatestStakes K h0 (nI kk) b sm (nI i) h (fun m hm => ?_) 12 1 0 (by omega) (by omega) (by omega)
      refine aw_il3 K dX6_greatestStakes_105 ?_
      refine aw_al0 K dX6_greatestStakes_106 ?_
      refine aw_getR K gX6_63 dX6_greatestStakes_107 rfl rfl ?_
      refine aw_il5 K dX6_greatestStakes_110 ?_
      refine aw_iald K dX6_greatestStakes_112 rfl (vp_in_nI hm (by decide)) ?_
      refine aw_iadd K dX6_greatestStakes_113 ?_
      refine aw_is3 K dX6_greatestStakes_114 (by decide) rfl ?_
      refine aw_al0 K dX6_greatestStakes_115 ?_
      refine aw_getR K gX6_63 dX6_greatestStakes_116 rfl rfl ?_
      refine aw_il5 K dX6_greatestStakes_119 ?_
      refine aw_iconst (v := 0) K dX6_greatestStakes_121 (by decide) ?_
      refine aw_iast K dX6_greatestStakes_122 rfl (vp_in_nI hm (by decide)) ?_
      refine aw_ii4 (v := _ + 1) K dX6_greatestStakes_123 rfl (by decide) rfl ?_
      refine aw_goto (tgt := 54) K dX6_greatestStakes_126 (by decide) ?_
      rw [nI_1]
      refine aw_sub [some (.ref (g.2.1 0)), some (.int (nI kk)), some (.int b), some (.int _), some (.int _), none, none] ⟨rfl, rfl, rfl, rfl, rfl, trivial⟩ ?_
      exact ih (i + 1) _ _ (by omega) (by omega) (hx.pt rfl (by decide))
set_option maxHeartbeats 4000000 in
set_option maxRecDepth 100000 in
theorem lp1X6_greatestStakes {l : Launch} {g : Geo} {sta : Nat → Nat} {k : KT} (K : AOK (wX l g sta) mX6_greatestStakes k) (h0 : HS) (kk : Nat) (b : Int32) (hkk : kk < 2 ^ 31) :
    ∀ (n i : Nat) (h : HS), i ≤ 12 → 12 - i < n → XQ h0 h → AW (wX l g sta) (QI h0) 1 mX6_greatestStakes k 2 [some (.ref (g.2.1 0)), some (.int (nI kk)), some (.int b), some (.int (nI i)), none, none, none] [] h := by
  intro n
  induction n with
  | zero => intro i h h1 h2; omega
  | succ n ih =>
    intro i h h1 h2 hx
    refine aw_il3 K dX6_greatestStakes_2 ?_
    refine aw_bipush (v := 12) K dX6_greatestStakes_3 (by decide) ?_
    refine aw_icmp_ge (tgt := 49) K dX6_greatestStakes_5 (by decide) (fun b5 => ?_) (fun b5 => ?_)
    · refine aw_iconst (v := 0) K dX6_greatestStakes_49 (by decide) ?_
      refine aw_is3 K dX6_greatestStakes_50 (by decide) rfl ?_
      refine aw_iconst (v := 0) K dX6_greatestStakes_51 (by decide) ?_
      refine aw_is4 K dX6_greatestStakes_52 (by decide) rfl ?_
      exact lp2X6_greatestStakes K h0 kk b hkk (kk + 1) 0 0 h (by omega) (by omega) hx
    · have hlt : i < 12 := by
        rcases Nat.lt_or_ge i 12 with q | q
        · exact q
        · exact absurd (nI_le (a := 12) q (by omega)) b5
      refine aw_al0 K dX6_greatestStakes_8 ?_
      refine aw_getR K gX6_63 dX6_greatestStakes_9 rfl rfl ?_
      refine aw_il3 K dX6_greatestStakes_12 ?_
      refine aw_al0 K dX6_greatestStakes_13 ?_
      refine aw_getR K gX6_57 dX6_greatestStakes_14 rfl rfl ?_
      refine aw_il3 K dX6_greatestStakes_17 ?_
      refine aw_iald K dX6_greatestStakes_18 rfl (vp_in_nI (by omega) (by decide)) ?_
      refine aw_il2 K dX6_greatestStakes_19 ?_
      refine aw_if_eq (tgt := 35) K dX6_greatestStakes_20 (by decide) (fun b20 => ?_) (fun b20 => ?_)
      · refine aw_al0 K dX6_greatestStakes_35 ?_
        refine aw_getR K gX6_60 dX6_greatestStakes_36 rfl rfl ?_
        refine aw_il3 K dX6_greatestStakes_39 ?_
        refine aw_iald K dX6_greatestStakes_40 rfl (vp_in_nI (by omega) (by decide)) ?_
        refine aw_imul K dX6_greatestStakes_41 ?_
        refine aw_iast K dX6_greatestStakes_42 rfl (vp_in_nI (by omega) (by decide)) ?_
        refine aw_ii3 (v := _ + 1) K dX6_greatestStakes_43 rfl (by decide) rfl ?_
        refine aw_goto (tgt := 2) K dX6_greatestStakes_46 (by decide) ?_
        rw [nI_1]
        exact ih (i + 1) _ (by omega) (by omega) (hx.pt rfl (by decide))
      · refine aw_bipush (v := 10) K dX6_greatestStakes_23 (by decide) ?_
        refine aw_al0 K dX6_greatestStakes_25 ?_
        refine aw_getR K gX6_60 dX6_greatestStakes_26 rfl rfl ?_
        refine aw_il3 K dX6_greatestStakes_29 ?_
        refine aw_iald K dX6_greatestStakes_30 rfl (vp_in_nI (by omega) (by decide)) ?_
        refine aw_isub K dX6_greatestStakes_31 ?_
        refine aw_goto (tgt := 41) K dX6_greatestStakes_32 (by decide) ?_
        refine aw_imul K dX6_greatestStakes_41 ?_
        refine aw_iast K dX6_greatestStakes_42 rfl (vp_in_nI (by omega) (by decide)) ?_
        refine aw_ii3 (v := _ + 1) K dX6_greatestStakes_43 rfl (by decide) rfl ?_
        refine aw_goto (tgt := 2) K dX6_greatestStakes_46 (by decide) ?_
        rw [nI_1]
        exact ih (i + 1) _ (by omega) (by omega) (hx.pt rfl (by decide))
set_option maxHeartbeats 4000000 in
set_option maxRecDepth 100000 in
theorem tX6_greatestStakes (l : Launch) (g : Geo) (sta : Nat → Nat) (h : HS) (kk : Nat) (b : Int32) (hkk : kk < 2 ^ 31) (h0 : HS) (hq : XQ h0 h) : CT (wX l g sta) 1 mX6_greatestStakes [.ref (g.2.1 0), .int (nI kk), .int b] h (QI h0) := by
  refine CT.at [some (.ref (g.2.1 0)), some (.int (nI kk)), some (.int b), none, none, none, none] 4 rfl (by decide) (Nat.le_of_ble_eq_true rfl) (fun k K => ?_)
  refine aw_iconst (v := 0) K dX6_greatestStakes_0 (by decide) ?_
  refine aw_is3 K dX6_greatestStakes_1 (by decide) rfl ?_
  exact lp1X6_greatestStakes K h0 kk b hkk 13 0 h (by omega) (by omega) hq

