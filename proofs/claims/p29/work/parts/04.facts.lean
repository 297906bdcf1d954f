def layX : List SP := [(9, 0, [3, 4, 5, 6, 7, 8, 13, 14, 15, 16, 17, 0, 0]), (4, 0, [18, 19, 20, 21, 22, 0]), (7, 0, [23, 24, 25, 26, 27, 0]), (8, 0, [28, 29, 30, 31, 32, 33, 34, 0]), (6, 0, [35, 0, 0, 0, 0, 0, 0, 0]), (3, 0, [36, 37, 38, 39, 40, 41, 0]), (2, 4, [7, 8, 9, 10]), (5, 0, [42, 0, 0]), (5, 0, [43, 0, 0]), (5, 0, [44, 0, 0]), (5, 0, [45, 0, 0]), (0, 10, []), (0, 10, []), (0, 12, []), (0, 12, []), (0, 12, []), (0, 12, []), (1, 12, []), (1, 12, []), (0, 12, []), (0, 12, []), (0, 24, []), (0, 24, []), (0, 24, []), (0, 24, []), (0, 24, []), (0, 24, []), (0, 24, []), (0, 24, []), (0, 24, []), (0, 24, []), (0, 24, []), (1, 24, []), (0, 200, []), (0, 196, []), (0, 14, []), (0, 196, []), (0, 14, []), (0, 14, []), (0, 14, []), (0, 48, []), (0, 48, []), (0, 48, []), (0, 48, [])]
def layM : List SP := [(10, 0, [0, 3, 4, 5, 6, 7, 0, 8, 9, 10, 11, 12, 0, 13, 14, 15, 16, 0, 0, 0, 0, 0, 0, 0, 17, 18, 19, 0, 20, 21, 22, 23, 24, 0, 25, 26, 0, 0, 1, 1, 27, 28, 29, 0]), (0, 12, []), (1, 12, []), (1, 12, []), (0, 12, []), (0, 12, []), (0, 24, []), (0, 24, []), (0, 24, []), (0, 24, []), (0, 24, []), (0, 10, []), (0, 10, []), (1, 10, []), (0, 200, []), (0, 196, []), (0, 14, []), (0, 14, []), (0, 24, []), (0, 24, []), (0, 24, []), (0, 24, []), (0, 24, []), (0, 12, []), (0, 12, []), (0, 4, []), (0, 4, []), (0, 192, [])]
-- X cells: 0.held=11, 0.draft=12, 0.weights=13, 0.marks=14, 0.stakes=15, 1.price=16, 1.seed=17, 1.made=18, 1.finedTo=19, 1.coins=20, 2.first=21, 2.second=22, 2.room=23, 2.kind=24, 2.since=25, 3.sayer=26, 3.seller=27, 3.deal=28, 3.mark=29, 3.since=30, 3.bothEnds=31, 3.firstOfDeal=32, 4.bytes=33, 5.rooms=34, 5.ways=35, 5.left=36, 5.open=37, 5.from=38, 5.queue=39, 7.cells=40, 8.cells=41, 9.cells=42, 10.cells=43
-- M cells: price=1, isSeed=2, isMade=3, finedTo=4, coins=5, one=6, two=7, told=8, kind=9, since=10, rules=11, draft=12, isTold=13, tape=14, left=15, by=16, row=17, who=18, seller=19, deal=20, marked=21, saidOn=22, weights=23, marks=24, lanes=25, sizes=26, cells=27
abbrev wX (l : Launch) (g : Geo) (sta : Nat → Nat) : WT := (l, g, layX, sta)
abbrev wM (l : Launch) (g : Geo) (sta : Nat → Nat) : WT := (l, g, layM, sta)
theorem wnX0 : ∀ w ∈ wsX00, w ∈ aw_tb := by
  have h : ∀ w ∈ wsX00, goodWord w = true := by decide +kernel
  exact fun w hw => List.mem_filter.mpr ⟨inX0 w hw, h w hw⟩
theorem clsX0 : CLS 0 RX0 := ⟨_, rfl, rfl⟩
theorem fpX0_6 : FP_ 0 6 .int := ⟨RX0, TX0, 7, tyX0, rfl, tyX0_ok, nmX0, rfl, by decide +kernel⟩
theorem wnX1 : ∀ w ∈ wsX10, w ∈ aw_tb := by
  have h : ∀ w ∈ wsX10, goodWord w = true := by decide +kernel
  exact fun w hw => List.mem_filter.mpr ⟨inX1 w hw, h w hw⟩
theorem clsX1 : CLS 1 RX1 := ⟨_, rfl, rfl⟩
theorem fpX1_5 : FP_ 1 5 .int := ⟨RX1, TX1, 6, tyX1, rfl, tyX1_ok, nmX1, rfl, by decide +kernel⟩
theorem wnX2 : ∀ w ∈ wsX20, w ∈ aw_tb := by
  have h : ∀ w ∈ wsX20, goodWord w = true := by decide +kernel
  exact fun w hw => List.mem_filter.mpr ⟨inX2 w hw, h w hw⟩
theorem clsX2 : CLS 2 RX2 := ⟨_, rfl, rfl⟩
theorem fpX2_1 : FP_ 2 1 .int := ⟨RX2, TX2, 3, tyX2, rfl, tyX2_ok, nmX2, rfl, by decide +kernel⟩
theorem fpX2_2 : FP_ 2 2 .int := ⟨RX2, TX2, 3, tyX2, rfl, tyX2_ok, nmX2, rfl, by decide +kernel⟩
theorem wnX3 : ∀ w ∈ wsX30, w ∈ aw_tb := by
  have h : ∀ w ∈ wsX30, goodWord w = true := by decide +kernel
  exact fun w hw => List.mem_filter.mpr ⟨inX3 w hw, h w hw⟩
theorem clsX3 : CLS 3 RX3 := ⟨_, rfl, rfl⟩
theorem fpX3_1 : FP_ 3 1 .int := ⟨RX3, TX3, 8, tyX3, rfl, tyX3_ok, nmX3, rfl, by decide +kernel⟩
theorem fpX3_2 : FP_ 3 2 .int := ⟨RX3, TX3, 8, tyX3, rfl, tyX3_ok, nmX3, rfl, by decide +kernel⟩
theorem fpX3_3 : FP_ 3 3 .int := ⟨RX3, TX3, 8, tyX3, rfl, tyX3_ok, nmX3, rfl, by decide +kernel⟩
theorem fpX3_4 : FP_ 3 4 .int := ⟨RX3, TX3, 8, tyX3, rfl, tyX3_ok, nmX3, rfl, by decide +kernel⟩
theorem fpX3_5 : FP_ 3 5 .int := ⟨RX3, TX3, 8, tyX3, rfl, tyX3_ok, nmX3, rfl, by decide +kernel⟩
theorem fpX3_6 : FP_ 3 6 .int := ⟨RX3, TX3, 8, tyX3, rfl, tyX3_ok, nmX3, rfl, by decide +kernel⟩
theorem fpX3_7 : FP_ 3 7 .int := ⟨RX3, TX3, 8, tyX3, rfl, tyX3_ok, nmX3, rfl, by decide +kernel⟩
theorem wnX4 : ∀ w ∈ wsX40, w ∈ aw_tb := by
  have h : ∀ w ∈ wsX40, goodWord w = true := by decide +kernel
  exact fun w hw => List.mem_filter.mpr ⟨inX4 w hw, h w hw⟩
theorem clsX4 : CLS 4 RX4 := ⟨_, rfl, rfl⟩
theorem fpX4_5 : FP_ 4 5 .int := ⟨RX4, TX4, 6, tyX4, rfl, tyX4_ok, nmX4, rfl, by decide +kernel⟩
theorem wnX5 : ∀ w ∈ wsX50, w ∈ aw_tb := by
  have h : ∀ w ∈ wsX50, goodWord w = true := by decide +kernel
  exact fun w hw => List.mem_filter.mpr ⟨inX5 w hw, h w hw⟩
theorem clsX5 : CLS 5 RX5 := ⟨_, rfl, rfl⟩
theorem fpX5_7 : FP_ 5 7 .int := ⟨RX5, TX5, 8, tyX5, rfl, tyX5_ok, nmX5, rfl, by decide +kernel⟩
theorem wnX6 : ∀ w ∈ wsX60, w ∈ aw_tb := by
  have h : ∀ w ∈ wsX60, goodWord w = true := by decide +kernel
  exact fun w hw => List.mem_filter.mpr ⟨inX6 w hw, h w hw⟩
theorem clsX6 : CLS 6 RX6 := ⟨_, rfl, rfl⟩
theorem fpX6_11 : FP_ 6 11 .int := ⟨RX6, TX6, 13, tyX6, rfl, tyX6_ok, nmX6, rfl, by decide +kernel⟩
theorem fpX6_12 : FP_ 6 12 .int := ⟨RX6, TX6, 13, tyX6, rfl, tyX6_ok, nmX6, rfl, by decide +kernel⟩
theorem wnX7 : ∀ w ∈ wsX70, w ∈ aw_tb := by
  have h : ∀ w ∈ wsX70, goodWord w = true := by decide +kernel
  exact fun w hw => List.mem_filter.mpr ⟨inX7 w hw, h w hw⟩
theorem clsX7 : CLS 7 RX7 := ⟨_, rfl, rfl⟩
theorem fpX7_0 : FP_ 7 0 .int := ⟨RX7, TX7, 44, tyX7, rfl, tyX7_ok, nmX7, rfl, by decide +kernel⟩
theorem fpX7_6 : FP_ 7 6 .int := ⟨RX7, TX7, 44, tyX7, rfl, tyX7_ok, nmX7, rfl, by decide +kernel⟩
theorem fpX7_12 : FP_ 7 12 .int := ⟨RX7, TX7, 44, tyX7, rfl, tyX7_ok, nmX7, rfl, by decide +kernel⟩
theorem fpX7_17 : FP_ 7 17 .int := ⟨RX7, TX7, 44, tyX7, rfl, tyX7_ok, nmX7, rfl, by decide +kernel⟩
theorem fpX7_18 : FP_ 7 18 .int := ⟨RX7, TX7, 44, tyX7, rfl, tyX7_ok, nmX7, rfl, by decide +kernel⟩
theorem fpX7_19 : FP_ 7 19 .int := ⟨RX7, TX7, 44, tyX7, rfl, tyX7_ok, nmX7, rfl, by decide +kernel⟩
theorem fpX7_20 : FP_ 7 20 .int := ⟨RX7, TX7, 44, tyX7, rfl, tyX7_ok, nmX7, rfl, by decide +kernel⟩
theorem fpX7_21 : FP_ 7 21 .int := ⟨RX7, TX7, 44, tyX7, rfl, tyX7_ok, nmX7, rfl, by decide +kernel⟩
theorem fpX7_22 : FP_ 7 22 .int := ⟨RX7, TX7, 44, tyX7, rfl, tyX7_ok, nmX7, rfl, by decide +kernel⟩
theorem fpX7_23 : FP_ 7 23 .int := ⟨RX7, TX7, 44, tyX7, rfl, tyX7_ok, nmX7, rfl, by decide +kernel⟩
theorem fpX7_27 : FP_ 7 27 .int := ⟨RX7, TX7, 44, tyX7, rfl, tyX7_ok, nmX7, rfl, by decide +kernel⟩
theorem fpX7_33 : FP_ 7 33 .int := ⟨RX7, TX7, 44, tyX7, rfl, tyX7_ok, nmX7, rfl, by decide +kernel⟩
theorem fpX7_36 : FP_ 7 36 .int := ⟨RX7, TX7, 44, tyX7, rfl, tyX7_ok, nmX7, rfl, by decide +kernel⟩
theorem fpX7_37 : FP_ 7 37 .int := ⟨RX7, TX7, 44, tyX7, rfl, tyX7_ok, nmX7, rfl, by decide +kernel⟩
theorem fpX7_38 : FP_ 7 38 .long := ⟨RX7, TX7, 44, tyX7, rfl, tyX7_ok, nmX7, rfl, by decide +kernel⟩
theorem fpX7_39 : FP_ 7 39 .long := ⟨RX7, TX7, 44, tyX7, rfl, tyX7_ok, nmX7, rfl, by decide +kernel⟩
theorem fpX7_43 : FP_ 7 43 .int := ⟨RX7, TX7, 44, tyX7, rfl, tyX7_ok, nmX7, rfl, by decide +kernel⟩
abbrev mX0_init : MI := (yX0_init, cX0_init, 1, none)
abbrev mJ7_fill_53178 : MI := (yJ7_fill_53178, cJ7_fill_53178, 4, none)
abbrev mX0_clear : MI := (yX0_clear, cX0_clear, 1, none)
abbrev mX0_widen : MI := (yX0_widen, cX0_widen, 4, none)
abbrev mX0_give : MI := (yX0_give, cX0_give, 3, none)
abbrev mX0_join : MI := (yX0_join, cX0_join, 4, none)
abbrev mX0_partCheat : MI := (yX0_partCheat, cX0_partCheat, 2, none)
abbrev mX6_hasBit : MI := (yX6_hasBit, cX6_hasBit, 2, (some .boolean))
abbrev mX0_search : MI := (yX0_search, cX0_search, 7, (some .int))
abbrev mX0_push : MI := (yX0_push, cX0_push, 6, (some .int))
abbrev mX0_most : MI := (yX0_most, cX0_most, 5, (some .int))
abbrev mX1_init : MI := (yX1_init, cX1_init, 1, none)
abbrev mX1_enter : MI := (yX1_enter, cX1_enter, 2, (some .int))
abbrev mX2_init : MI := (yX2_init, cX2_init, 1, none)
abbrev mX2_isNothing : MI := (yX2_isNothing, cX2_isNothing, 1, (some .boolean))
abbrev mX2_renewRow : MI := (yX2_renewRow, cX2_renewRow, 3, none)
abbrev mX6_within : MI := (yX6_within, cX6_within, 3, (some .boolean))
abbrev mX2_faultAt : MI := (yX2_faultAt, cX2_faultAt, 2, (some .int))
abbrev mX2_put : MI := (yX2_put, cX2_put, 3, none)
abbrev mX2_wholeWords : MI := (yX2_wholeWords, cX2_wholeWords, 4, (some .int))
abbrev mX2_faultOfReading : MI := (yX2_faultOfReading, cX2_faultOfReading, 4, (some .int))
abbrev mX3_init : MI := (yX3_init, cX3_init, 1, none)
abbrev mX3_takeEight : MI := (yX3_takeEight, cX3_takeEight, 4, (some .int))
abbrev mX3_isLetter : MI := (yX3_isLetter, cX3_isLetter, 2, (some .boolean))
abbrev mX3_textOf : MI := (yX3_textOf, cX3_textOf, 1, (some (.object "java/lang/String")))
abbrev mJ0_coder_7d493 : MI := (yJ0_coder_7d493, cJ0_coder_7d493, 1, (some .byte))
abbrev mJ0_length_8abf5 : MI := (yJ0_length_8abf5, cJ0_length_8abf5, 1, (some .int))
abbrev mJ0_isLatin1_aae02 : MI := (yJ0_isLatin1_aae02, cJ0_isLatin1_aae02, 1, (some .boolean))
abbrev mJ3_checkIndex_8e157 : MI := (yJ3_checkIndex_8e157, cJ3_checkIndex_8e157, 3, (some .int))
abbrev mJ0_checkIndex_df160 : MI := (yJ0_checkIndex_df160, cJ0_checkIndex_df160, 2, none)
abbrev mJ1_charAt_3b067 : MI := (yJ1_charAt_3b067, cJ1_charAt_3b067, 2, (some .char))
abbrev mJ2_length_9d52b : MI := (yJ2_length_9d52b, cJ2_length_9d52b, 1, (some .int))
abbrev mJ2_checkIndex_2214a : MI := (yJ2_checkIndex_2214a, cJ2_checkIndex_2214a, 2, none)
abbrev mJ2_getChar_3b067 : MI := (yJ2_getChar_3b067, cJ2_getChar_3b067, 2, (some .char))
abbrev mJ2_charAt_3b067 : MI := (yJ2_charAt_3b067, cJ2_charAt_3b067, 2, (some .char))
abbrev mJ0_charAt_5068e : MI := (yJ0_charAt_5068e, cJ0_charAt_5068e, 2, (some .char))
abbrev mX3_isText : MI := (yX3_isText, cX3_isText, 3, (some .boolean))
abbrev mX3_readRule : MI := (yX3_readRule, cX3_readRule, 2, none)
abbrev mX3_isFigure : MI := (yX3_isFigure, cX3_isFigure, 2, (some .boolean))
abbrev mX3_readNumber : MI := (yX3_readNumber, cX3_readNumber, 1, none)
abbrev mX3_readToken : MI := (yX3_readToken, cX3_readToken, 1, none)
abbrev mX3_stands : MI := (yX3_stands, cX3_stands, 2, (some .boolean))
abbrev mX3_readLine : MI := (yX3_readLine, cX3_readLine, 3, none)
abbrev mX3_readLines : MI := (yX3_readLines, cX3_readLines, 3, (some .int))
abbrev mX4_init : MI := (yX4_init, cX4_init, 1, none)
abbrev mX4_enter : MI := (yX4_enter, cX4_enter, 6, (some .int))
abbrev mX5_init : MI := (yX5_init, cX5_init, 1, none)
abbrev mX5_isNewDeal : MI := (yX5_isNewDeal, cX5_isNewDeal, 3, (some .boolean))
abbrev mX5_enter : MI := (yX5_enter, cX5_enter, 6, (some .int))
abbrev mX5_countingOf : MI := (yX5_countingOf, cX5_countingOf, 4, (some .int))
abbrev mX5_doesCount : MI := (yX5_doesCount, cX5_doesCount, 2, (some .boolean))
abbrev mX6_oneIf : MI := (yX6_oneIf, cX6_oneIf, 1, (some .int))
abbrev mX5_countingOnes : MI := (yX5_countingOnes, cX5_countingOnes, 3, (some .int))
abbrev mX6_init : MI := (yX6_init, cX6_init, 2, none)
abbrev mX6_name : MI := (yX6_name, cX6_name, 2, (some .int))
abbrev mX6_isName : MI := (yX6_isName, cX6_isName, 2, (some .boolean))
abbrev mX6_seed : MI := (yX6_seed, cX6_seed, 4, (some .int))
abbrev mX6_pledgeRoom : MI := (yX6_pledgeRoom, cX6_pledgeRoom, 2, (some .int))
abbrev mX6_pledge : MI := (yX6_pledge, cX6_pledge, 3, (some .int))
abbrev mX6_arePair : MI := (yX6_arePair, cX6_arePair, 3, (some .boolean))
abbrev mX6_tie : MI := (yX6_tie, cX6_tie, 5, (some .int))
abbrev mX6_isTie : MI := (yX6_isTie, cX6_isTie, 2, (some .boolean))
abbrev mX6_hasMadeEnd : MI := (yX6_hasMadeEnd, cX6_hasMadeEnd, 2, (some .boolean))
abbrev mX6_faded : MI := (yX6_faded, cX6_faded, 4, (some .int))
abbrev mX6_isFined : MI := (yX6_isFined, cX6_isFined, 2, (some .boolean))
abbrev mX6_roomOf : MI := (yX6_roomOf, cX6_roomOf, 3, (some .int))
abbrev mX6_tieOf : MI := (yX6_tieOf, cX6_tieOf, 3, (some .int))
abbrev mX6_renew : MI := (yX6_renew, cX6_renew, 3, (some .int))
abbrev mX6_givenTo : MI := (yX6_givenTo, cX6_givenTo, 2, (some .int))
abbrev mX6_openTies : MI := (yX6_openTies, cX6_openTies, 5, (some .int))
abbrev mX6_of : MI := (yX6_of, cX6_of, 3, (some .int))
abbrev mX6_standingFor : MI := (yX6_standingFor, cX6_standingFor, 5, (some .int))
abbrev mJ6_bitCount_0f7a4 : MI := (yJ6_bitCount_0f7a4, cJ6_bitCount_0f7a4, 1, (some .int))
abbrev mX6_made : MI := (yX6_made, cX6_made, 4, (some .int))
abbrev mX6_day : MI := (yX6_day, cX6_day, 3, (some .int))
abbrev mX6_feed : MI := (yX6_feed, cX6_feed, 3, (some .int))
abbrev mX6_end : MI := (yX6_end, cX6_end, 3, (some .int))
abbrev mX6_rules : MI := (yX6_rules, cX6_rules, 2, (some .int))
abbrev mX6_fault : MI := (yX6_fault, cX6_fault, 1, (some .int))
abbrev mX6_rule : MI := (yX6_rule, cX6_rule, 2, (some .int))
abbrev mX6_layFlow : MI := (yX6_layFlow, cX6_layFlow, 2, none)
abbrev mX6_trust : MI := (yX6_trust, cX6_trust, 2, (some .int))
abbrev mX6_isHeap : MI := (yX6_isHeap, cX6_isHeap, 2, (some .boolean))
abbrev mX6_heap : MI := (yX6_heap, cX6_heap, 2, (some .int))
abbrev mX6_tiesOutOf : MI := (yX6_tiesOutOf, cX6_tiesOutOf, 5, (some .int))
abbrev mX6_givenBeyond : MI := (yX6_givenBeyond, cX6_givenBeyond, 4, (some .int))
abbrev mX6_cut : MI := (yX6_cut, cX6_cut, 4, (some .int))
abbrev mX6_isPlain : MI := (yX6_isPlain, cX6_isPlain, 2, (some .boolean))
abbrev mX6_low : MI := (yX6_low, cX6_low, 6, (some .int))
abbrev mX6_fillTrusts : MI := (yX6_fillTrusts, cX6_fillTrusts, 2, none)
abbrev mX6_twins : MI := (yX6_twins, cX6_twins, 7, (some .int))
abbrev mX6_refusalOf : MI := (yX6_refusalOf, cX6_refusalOf, 6, (some .int))
abbrev mX6_word : MI := (yX6_word, cX6_word, 6, (some .int))
abbrev mX6_isWord : MI := (yX6_isWord, cX6_isWord, 2, (some .boolean))
abbrev mX6_wordOf : MI := (yX6_wordOf, cX6_wordOf, 3, (some .int))
abbrev mX6_sayersOf : MI := (yX6_sayersOf, cX6_sayersOf, 5, (some .int))
abbrev mX6_weighSayers : MI := (yX6_weighSayers, cX6_weighSayers, 9, (some .int))
abbrev mX6_weight : MI := (yX6_weight, cX6_weight, 3, (some .int))
abbrev mX6_sayers : MI := (yX6_sayers, cX6_sayers, 2, (some .int))
abbrev mX6_summedMarks : MI := (yX6_summedMarks, cX6_summedMarks, 3, (some .int))
abbrev mX6_commonPart : MI := (yX6_commonPart, cX6_commonPart, 11, (some .long))
abbrev mX6_inLowest : MI := (yX6_inLowest, cX6_inLowest, 7, (some .long))
abbrev mX6_mark : MI := (yX6_mark, cX6_mark, 4, (some .int))
abbrev mX6_greatestStakes : MI := (yX6_greatestStakes, cX6_greatestStakes, 7, (some .int))
abbrev mX6_span : MI := (yX6_span, cX6_span, 8, (some .int))
abbrev mX6_wordsWithin : MI := (yX6_wordsWithin, cX6_wordsWithin, 6, (some .int))
abbrev mX6_ring : MI := (yX6_ring, cX6_ring, 3, (some .int))
abbrev mX6_choose : MI := (yX6_choose, cX6_choose, 5, (some .long))
abbrev mX6_waysOf : MI := (yX6_waysOf, cX6_waysOf, 8, (some .long))
abbrev mX6_odds : MI := (yX6_odds, cX6_odds, 4, (some .long))
abbrev mX6_oddest : MI := (yX6_oddest, cX6_oddest, 11, (some .long))
abbrev mX6_isOffer : MI := (yX6_isOffer, cX6_isOffer, 2, (some .boolean))
abbrev mX6_sellingNames : MI := (yX6_sellingNames, cX6_sellingNames, 3, (some .int))
abbrev mX6_boughtRoom : MI := (yX6_boughtRoom, cX6_boughtRoom, 2, (some .int))
abbrev mX6_gainBy : MI := (yX6_gainBy, cX6_gainBy, 6, (some .int))
abbrev mX6_gain : MI := (yX6_gain, cX6_gain, 4, (some .int))
abbrev mX6_best : MI := (yX6_best, cX6_best, 10, (some .int))
abbrev mX6_isSheet : MI := (yX6_isSheet, cX6_isSheet, 1, (some .boolean))
abbrev mX6_isLane : MI := (yX6_isLane, cX6_isLane, 1, (some .boolean))
abbrev mX6_sheet : MI := (yX6_sheet, cX6_sheet, 4, (some .int))
abbrev mX6_lay : MI := (yX6_lay, cX6_lay, 5, (some .int))
abbrev mX6_read : MI := (yX6_read, cX6_read, 10, (some .int))
abbrev mX6_lost : MI := (yX6_lost, cX6_lost, 1, (some .int))
abbrev mX6_countTrue : MI := (yX6_countTrue, cX6_countTrue, 4, (some .int))
abbrev mX6_countFined : MI := (yX6_countFined, cX6_countFined, 3, (some .int))
abbrev mX6_count : MI := (yX6_count, cX6_count, 2, (some .int))
abbrev mX7_firstRules : MI := (yX7_firstRules, cX7_firstRules, 2, none)
abbrev mX7_keepRules : MI := (yX7_keepRules, cX7_keepRules, 2, none)
abbrev mX7_init : MI := (yX7_init, cX7_init, 2, none)
abbrev mX7_in : MI := (yX7_in, cX7_in, 6, (some .boolean))
abbrev mX7_bits : MI := (yX7_bits, cX7_bits, 3, (some .int))
abbrev mX7_common : MI := (yX7_common, cX7_common, 10, (some .long))
abbrev mX7_isName : MI := (yX7_isName, cX7_isName, 2, (some .boolean))
abbrev mX7_isFined : MI := (yX7_isFined, cX7_isFined, 2, (some .boolean))
abbrev mX7_name : MI := (yX7_name, cX7_name, 2, (some .int))
abbrev mX7_seed : MI := (yX7_seed, cX7_seed, 4, (some .int))
abbrev mX7_pledged : MI := (yX7_pledged, cX7_pledged, 2, (some .int))
abbrev mX7_pledge : MI := (yX7_pledge, cX7_pledge, 3, (some .int))
abbrev mX7_tie : MI := (yX7_tie, cX7_tie, 5, (some .int))
abbrev mX7_faded : MI := (yX7_faded, cX7_faded, 4, (some .int))
abbrev mX7_roomOf : MI := (yX7_roomOf, cX7_roomOf, 3, (some .int))
abbrev mX7_isTie : MI := (yX7_isTie, cX7_isTie, 2, (some .boolean))
abbrev mX7_tieOf : MI := (yX7_tieOf, cX7_tieOf, 3, (some .int))
abbrev mX7_renew : MI := (yX7_renew, cX7_renew, 3, (some .int))
abbrev mX7_given : MI := (yX7_given, cX7_given, 2, (some .int))
abbrev mX7_of : MI := (yX7_of, cX7_of, 5, (some .int))
abbrev mX7_made : MI := (yX7_made, cX7_made, 4, (some .int))
abbrev mX7_day : MI := (yX7_day, cX7_day, 3, (some .int))
abbrev mX7_feed : MI := (yX7_feed, cX7_feed, 4, (some .int))
abbrev mX7_end : MI := (yX7_end, cX7_end, 3, (some .int))
abbrev mX7_wants : MI := (yX7_wants, cX7_wants, 3, none)
abbrev mX7_look : MI := (yX7_look, cX7_look, 2, (some .int))
abbrev mX7_is : MI := (yX7_is, cX7_is, 6, (some .boolean))
abbrev mX7_nameNow : MI := (yX7_nameNow, cX7_nameNow, 1, (some .int))
abbrev mX7_next : MI := (yX7_next, cX7_next, 2, none)
abbrev mX7_least : MI := (yX7_least, cX7_least, 1, (some .int))
abbrev mX7_most : MI := (yX7_most, cX7_most, 1, (some .int))
abbrev mX7_readLine : MI := (yX7_readLine, cX7_readLine, 3, none)
abbrev mX7_rules : MI := (yX7_rules, cX7_rules, 2, (some .int))
abbrev mX7_fault : MI := (yX7_fault, cX7_fault, 1, (some .int))
abbrev mX7_rule : MI := (yX7_rule, cX7_rule, 2, (some .int))
abbrev mX7_begins : MI := (yX7_begins, cX7_begins, 3, none)
abbrev mX7_reaches : MI := (yX7_reaches, cX7_reaches, 4, (some .boolean))
abbrev mX7_flows : MI := (yX7_flows, cX7_flows, 5, (some .int))
abbrev mX7_trustOf : MI := (yX7_trustOf, cX7_trustOf, 3, (some .int))
abbrev mX7_areNames : MI := (yX7_areNames, cX7_areNames, 2, (some .boolean))
abbrev mX7_trust : MI := (yX7_trust, cX7_trust, 2, (some .int))
abbrev mX7_heap : MI := (yX7_heap, cX7_heap, 2, (some .int))
abbrev mX7_cut : MI := (yX7_cut, cX7_cut, 8, (some .int))
abbrev mX7_isPlain : MI := (yX7_isPlain, cX7_isPlain, 2, (some .boolean))
abbrev mX7_low : MI := (yX7_low, cX7_low, 7, (some .int))
abbrev mX7_twins : MI := (yX7_twins, cX7_twins, 7, (some .int))
abbrev mX7_isWord : MI := (yX7_isWord, cX7_isWord, 5, (some .boolean))
abbrev mX7_says : MI := (yX7_says, cX7_says, 5, none)
abbrev mX7_word : MI := (yX7_word, cX7_word, 5, (some .int))
abbrev mX7_isFirst : MI := (yX7_isFirst, cX7_isFirst, 4, (some .boolean))
abbrev mX7_counts : MI := (yX7_counts, cX7_counts, 4, (some .boolean))
abbrev mX7_wordOf : MI := (yX7_wordOf, cX7_wordOf, 3, (some .int))
abbrev mX7_wordBy : MI := (yX7_wordBy, cX7_wordBy, 5, (some .int))
abbrev mX7_sayersOf : MI := (yX7_sayersOf, cX7_sayersOf, 4, (some .int))
abbrev mX7_weightOf : MI := (yX7_weightOf, cX7_weightOf, 5, (some .int))
abbrev mX7_weight : MI := (yX7_weight, cX7_weight, 3, (some .int))
abbrev mX7_sayers : MI := (yX7_sayers, cX7_sayers, 2, (some .int))
abbrev mX7_lists : MI := (yX7_lists, cX7_lists, 4, none)
abbrev mX7_fraction : MI := (yX7_fraction, cX7_fraction, 4, (some .int))
abbrev mX7_mark : MI := (yX7_mark, cX7_mark, 3, (some .int))
abbrev mX7_moved : MI := (yX7_moved, cX7_moved, 11, (some .int))
abbrev mX7_span : MI := (yX7_span, cX7_span, 4, (some .int))
abbrev mX7_isGood : MI := (yX7_isGood, cX7_isGood, 2, (some .boolean))
abbrev mX7_isBetween : MI := (yX7_isBetween, cX7_isBetween, 3, (some .boolean))
abbrev mX7_ringOf : MI := (yX7_ringOf, cX7_ringOf, 6, (some .int))
abbrev mX7_ring : MI := (yX7_ring, cX7_ring, 3, (some .int))
abbrev mX7_ways : MI := (yX7_ways, cX7_ways, 5, (some .long))
abbrev mX7_findOdds : MI := (yX7_findOdds, cX7_findOdds, 8, none)
abbrev mX7_odds : MI := (yX7_odds, cX7_odds, 3, (some .long))
abbrev mX7_oddest : MI := (yX7_oddest, cX7_oddest, 8, (some .long))
abbrev mX7_sells : MI := (yX7_sells, cX7_sells, 2, (some .boolean))
abbrev mX7_gainOf : MI := (yX7_gainOf, cX7_gainOf, 7, (some .int))
abbrev mX7_sellers : MI := (yX7_sellers, cX7_sellers, 3, (some .int))
abbrev mX7_gain : MI := (yX7_gain, cX7_gain, 4, (some .int))
abbrev mX7_best : MI := (yX7_best, cX7_best, 9, (some .int))
abbrev mX7_isSheet : MI := (yX7_isSheet, cX7_isSheet, 2, (some .boolean))
abbrev mX7_sheet : MI := (yX7_sheet, cX7_sheet, 5, (some .int))
abbrev mX7_lay : MI := (yX7_lay, cX7_lay, 4, (some .int))
abbrev mX7_refuses : MI := (yX7_refuses, cX7_refuses, 5, (some .int))
abbrev mX7_read : MI := (yX7_read, cX7_read, 9, (some .int))
abbrev mX7_lost : MI := (yX7_lost, cX7_lost, 1, (some .int))
abbrev mX7_count : MI := (yX7_count, cX7_count, 8, (some .int))
abbrev mJ9_max_7cf53 : MI := (yJ9_max_7cf53, cJ9_max_7cf53, 2, (some .int))
abbrev mJ9_max_f86c9 : MI := (yJ9_max_f86c9, cJ9_max_f86c9, 4, (some .long))
abbrev mJ9_min_7cf53 : MI := (yJ9_min_7cf53, cJ9_min_7cf53, 2, (some .int))
set_option maxRecDepth 100000 in
theorem tbK_0 : dkT lw_tbl [(0, Cond.selects RX6 yX6_isName yX6_isName), (0, Cond.selects RX6 yX6_pledgeRoom yX6_pledgeRoom), (0, Cond.selects RX6 yX6_arePair yX6_arePair), (0, Cond.selects RX6 yX6_isTie yX6_isTie), (0, Cond.selects RX6 yX6_roomOf yX6_roomOf), (0, Cond.selects RX6 yX6_hasMadeEnd yX6_hasMadeEnd), (0, Cond.selects RX6 yX6_isFined yX6_isFined), (0, Cond.selects RX6 yX6_givenTo yX6_givenTo), (0, Cond.selects RX6 yX6_openTies yX6_openTies), (0, Cond.selects RX6 yX6_standingFor yX6_standingFor), (0, Cond.selects RX3 yX3_readToken yX3_readToken), (0, Cond.selects RX3 yX3_isLetter yX3_isLetter), (0, Cond.selects RX3 yX3_readRule yX3_readRule), (0, Cond.selects RX3 yX3_isText yX3_isText), (0, Cond.selects RX3 yX3_isFigure yX3_isFigure), (0, Cond.selects RX3 yX3_readNumber yX3_readNumber), (0, Cond.selects RX3 yX3_readLine yX3_readLine), (0, Cond.selects RX3 yX3_stands yX3_stands), (0, Cond.selects RX6 yX6_layFlow yX6_layFlow), (0, Cond.selects RX0 yX0_widen yX0_widen), (0, Cond.selects RX0 yX0_search yX0_search), (0, Cond.selects RX0 yX0_push yX0_push), (0, Cond.selects RX6 yX6_isHeap yX6_isHeap), (0, Cond.selects RX6 yX6_tiesOutOf yX6_tiesOutOf), (0, Cond.selects RX6 yX6_givenBeyond yX6_givenBeyond), (0, Cond.selects RX6 yX6_isPlain yX6_isPlain), (0, Cond.selects RX6 yX6_fillTrusts yX6_fillTrusts), (0, Cond.selects RX6 yX6_refusalOf yX6_refusalOf), (0, Cond.selects RX5 yX5_isNewDeal yX5_isNewDeal), (0, Cond.selects RX6 yX6_isWord yX6_isWord), (0, Cond.selects RX6 yX6_sayersOf yX6_sayersOf), (0, Cond.selects RX6 yX6_weighSayers yX6_weighSayers)] = true := by decide +kernel
set_option maxRecDepth 100000 in
theorem tbK_1 : dkT lw_tbl [(32, Cond.selects RX6 yX6_summedMarks yX6_summedMarks), (0, Cond.selects RX6 yX6_greatestStakes yX6_greatestStakes), (0, Cond.selects RX6 yX6_wordsWithin yX6_wordsWithin), (0, Cond.selects RX6 yX6_waysOf yX6_waysOf), (0, Cond.selects RX6 yX6_sellingNames yX6_sellingNames), (0, Cond.selects RX6 yX6_boughtRoom yX6_boughtRoom), (0, Cond.selects RX6 yX6_gainBy yX6_gainBy), (0, Cond.selects RX6 yX6_countTrue yX6_countTrue), (0, Cond.selects RX6 yX6_countFined yX6_countFined), (0, Cond.selects RX7 yX7_firstRules yX7_firstRules), (0, Cond.selects RX7 yX7_keepRules yX7_keepRules), (0, Cond.selects RX7 yX7_isName yX7_isName), (0, Cond.selects RX7 yX7_pledged yX7_pledged), (0, Cond.selects RX7 yX7_isTie yX7_isTie), (0, Cond.selects RX7 yX7_roomOf yX7_roomOf), (0, Cond.selects RX7 yX7_isFined yX7_isFined), (0, Cond.selects RX7 yX7_given yX7_given), (0, Cond.selects RX7 yX7_next yX7_next), (0, Cond.selects RX7 yX7_look yX7_look), (0, Cond.selects RX7 yX7_nameNow yX7_nameNow), (0, Cond.selects RX7 yX7_is yX7_is), (0, Cond.selects RX7 yX7_wants yX7_wants), (0, Cond.selects RX7 yX7_readLine yX7_readLine), (0, Cond.selects RX7 yX7_trustOf yX7_trustOf), (0, Cond.selects RX7 yX7_begins yX7_begins), (0, Cond.selects RX7 yX7_flows yX7_flows), (0, Cond.selects RX7 yX7_reaches yX7_reaches), (0, Cond.selects RX7 yX7_areNames yX7_areNames), (0, Cond.selects RX7 yX7_isPlain yX7_isPlain), (0, Cond.selects RX7 yX7_isWord yX7_isWord), (0, Cond.selects RX7 yX7_says yX7_says), (0, Cond.selects RX7 yX7_counts yX7_counts)] = true := by decide +kernel
set_option maxRecDepth 100000 in
theorem tbK_2 : dkT lw_tbl [(64, Cond.selects RX7 yX7_isFirst yX7_isFirst), (0, Cond.selects RX7 yX7_sayersOf yX7_sayersOf), (0, Cond.selects RX7 yX7_wordBy yX7_wordBy), (0, Cond.selects RX7 yX7_weightOf yX7_weightOf), (0, Cond.selects RX7 yX7_lists yX7_lists), (0, Cond.selects RX7 yX7_fraction yX7_fraction), (0, Cond.selects RX7 yX7_moved yX7_moved), (0, Cond.selects RX7 yX7_ringOf yX7_ringOf), (0, Cond.selects RX7 yX7_isBetween yX7_isBetween), (0, Cond.selects RX7 yX7_isGood yX7_isGood), (0, Cond.selects RX7 yX7_findOdds yX7_findOdds), (0, Cond.selects RX7 yX7_sellers yX7_sellers), (0, Cond.selects RX7 yX7_sells yX7_sells), (0, Cond.selects RX7 yX7_gainOf yX7_gainOf), (0, Cond.selects RX7 yX7_refuses yX7_refuses), (1, Cond.initialized RX6), (0, Cond.initialized RX1), (0, Cond.initialized RX4), (0, Cond.initialized RX5), (0, Cond.initialized RX3), (0, Cond.initialized RX0), (1, Cond.initialized RX2), (0, Cond.initialized RX7), (0, Cond.initialized RJ9), (0, Cond.initialized RJ6), (0, Cond.initialized RJ0), (0, Cond.initialized RJ1), (0, Cond.initialized RJ3), (0, Cond.initialized RJ2), (0, Cond.initialized RJ7), (2, Cond.methodLink RL 9 yX6_init), (11, Cond.fieldLink RX1 9 RX1 (TX1 0).2.1 (TX1 0).2.2.1)] = true := by decide +kernel
set_option maxRecDepth 100000 in
theorem tbK_3 : dkT lw_tbl [(111, Cond.fieldLink RX6 143 RX1 (TX1 0).2.1 (TX1 0).2.2.1), (0, Cond.fieldLink RX1 15 RX1 (TX1 1).2.1 (TX1 1).2.2.1), (0, Cond.fieldLink RX6 88 RX1 (TX1 1).2.1 (TX1 1).2.2.1), (0, Cond.fieldLink RX1 19 RX1 (TX1 2).2.1 (TX1 2).2.2.1), (0, Cond.fieldLink RX6 96 RX1 (TX1 2).2.1 (TX1 2).2.2.1), (0, Cond.fieldLink RX1 22 RX1 (TX1 3).2.1 (TX1 3).2.2.1), (0, Cond.fieldLink RX6 149 RX1 (TX1 3).2.1 (TX1 3).2.2.1), (0, Cond.fieldLink RX1 25 RX1 (TX1 4).2.1 (TX1 4).2.2.1), (0, Cond.fieldLink RX6 99 RX1 (TX1 4).2.1 (TX1 4).2.2.1), (0, Cond.fieldLink RX1 28 RX1 (TX1 5).2.1 (TX1 5).2.2.1), (0, Cond.fieldLink RX6 161 RX1 (TX1 5).2.1 (TX1 5).2.2.1), (21, Cond.fieldLink RX4 9 RX4 (TX4 0).2.1 (TX4 0).2.2.1), (0, Cond.fieldLink RX6 122 RX4 (TX4 0).2.1 (TX4 0).2.2.1), (0, Cond.fieldLink RX4 15 RX4 (TX4 1).2.1 (TX4 1).2.2.1), (0, Cond.fieldLink RX6 125 RX4 (TX4 1).2.1 (TX4 1).2.2.1), (0, Cond.fieldLink RX4 18 RX4 (TX4 2).2.1 (TX4 2).2.2.1), (0, Cond.fieldLink RX6 128 RX4 (TX4 2).2.1 (TX4 2).2.2.1), (0, Cond.fieldLink RX4 21 RX4 (TX4 3).2.1 (TX4 3).2.2.1), (0, Cond.fieldLink RX6 131 RX4 (TX4 3).2.1 (TX4 3).2.2.1), (0, Cond.fieldLink RX4 24 RX4 (TX4 4).2.1 (TX4 4).2.2.1), (0, Cond.fieldLink RX6 134 RX4 (TX4 4).2.1 (TX4 4).2.2.1), (0, Cond.fieldLink RX4 27 RX4 (TX4 5).2.1 (TX4 5).2.2.1), (0, Cond.fieldLink RX6 109 RX4 (TX4 5).2.1 (TX4 5).2.2.1), (19, Cond.fieldLink RX5 9 RX5 (TX5 0).2.1 (TX5 0).2.2.1), (0, Cond.fieldLink RX6 221 RX5 (TX5 0).2.1 (TX5 0).2.2.1), (0, Cond.fieldLink RX5 15 RX5 (TX5 1).2.1 (TX5 1).2.2.1), (0, Cond.fieldLink RX6 224 RX5 (TX5 1).2.1 (TX5 1).2.2.1), (0, Cond.fieldLink RX5 18 RX5 (TX5 2).2.1 (TX5 2).2.2.1), (0, Cond.fieldLink RX6 227 RX5 (TX5 2).2.1 (TX5 2).2.2.1), (0, Cond.fieldLink RX5 21 RX5 (TX5 3).2.1 (TX5 3).2.2.1), (0, Cond.fieldLink RX6 230 RX5 (TX5 3).2.1 (TX5 3).2.2.1), (0, Cond.fieldLink RX5 24 RX5 (TX5 4).2.1 (TX5 4).2.2.1)] = true := by decide +kernel
set_option maxRecDepth 100000 in
theorem tbK_4 : dkT lw_tbl [(183, Cond.fieldLink RX6 233 RX5 (TX5 4).2.1 (TX5 4).2.2.1), (0, Cond.fieldLink RX5 27 RX5 (TX5 5).2.1 (TX5 5).2.2.1), (0, Cond.fieldLink RX6 351 RX5 (TX5 5).2.1 (TX5 5).2.2.1), (0, Cond.fieldLink RX5 30 RX5 (TX5 6).2.1 (TX5 6).2.2.1), (0, Cond.fieldLink RX5 34 RX5 (TX5 7).2.1 (TX5 7).2.2.1), (0, Cond.fieldLink RX6 255 RX5 (TX5 7).2.1 (TX5 7).2.2.1), (23, Cond.fieldLink RX3 11 RX3 (TX3 0).2.1 (TX3 0).2.2.1), (0, Cond.fieldLink RX3 15 RX3 (TX3 1).2.1 (TX3 1).2.2.1), (0, Cond.fieldLink RX6 180 RX3 (TX3 1).2.1 (TX3 1).2.2.1), (0, Cond.fieldLink RX3 25 RX3 (TX3 2).2.1 (TX3 2).2.2.1), (0, Cond.fieldLink RX6 187 RX3 (TX3 2).2.1 (TX3 2).2.2.1), (0, Cond.fieldLink RX3 19 RX3 (TX3 3).2.1 (TX3 3).2.2.1), (0, Cond.fieldLink RX3 38 RX3 (TX3 4).2.1 (TX3 4).2.2.1), (0, Cond.fieldLink RX3 31 RX3 (TX3 5).2.1 (TX3 5).2.2.1), (0, Cond.fieldLink RX3 45 RX3 (TX3 6).2.1 (TX3 6).2.2.1), (0, Cond.fieldLink RX3 22 RX3 (TX3 7).2.1 (TX3 7).2.2.1), (23, Cond.fieldLink RX0 11 RX0 (TX0 0).2.1 (TX0 0).2.2.1), (0, Cond.fieldLink RX0 15 RX0 (TX0 1).2.1 (TX0 1).2.2.1), (0, Cond.fieldLink RX0 18 RX0 (TX0 2).2.1 (TX0 2).2.2.1), (0, Cond.fieldLink RX0 21 RX0 (TX0 3).2.1 (TX0 3).2.2.1), (0, Cond.fieldLink RX0 24 RX0 (TX0 4).2.1 (TX0 4).2.2.1), (0, Cond.fieldLink RX0 27 RX0 (TX0 5).2.1 (TX0 5).2.2.1), (0, Cond.fieldLink RX0 53 RX0 (TX0 6).2.1 (TX0 6).2.2.1), (0, Cond.fieldLink RX6 199 RX0 (TX0 6).2.1 (TX0 6).2.2.1), (27, Cond.fieldLink RX2 11 RX2 (TX2 0).2.1 (TX2 0).2.2.1), (0, Cond.fieldLink RX6 303 RX2 (TX2 0).2.1 (TX2 0).2.2.1), (0, Cond.fieldLink RX2 25 RX2 (TX2 1).2.1 (TX2 1).2.2.1), (0, Cond.fieldLink RX2 15 RX2 (TX2 2).2.1 (TX2 2).2.2.1), (0, Cond.fieldLink RX6 326 RX2 (TX2 2).2.1 (TX2 2).2.2.1), (7, Cond.fieldLink RX6 12 RX6 (TX6 0).2.1 (TX6 0).2.2.1), (0, Cond.fieldLink RX6 19 RX6 (TX6 1).2.1 (TX6 1).2.2.1), (0, Cond.fieldLink RX6 26 RX6 (TX6 2).2.1 (TX6 2).2.2.1)] = true := by decide +kernel
set_option maxRecDepth 100000 in
theorem tbK_5 : dkT lw_tbl [(295, Cond.fieldLink RX6 33 RX6 (TX6 3).2.1 (TX6 3).2.2.1), (0, Cond.fieldLink RX6 40 RX6 (TX6 4).2.1 (TX6 4).2.2.1), (0, Cond.fieldLink RX6 46 RX6 (TX6 5).2.1 (TX6 5).2.2.1), (0, Cond.fieldLink RX6 50 RX6 (TX6 6).2.1 (TX6 6).2.2.1), (0, Cond.fieldLink RX6 54 RX6 (TX6 7).2.1 (TX6 7).2.2.1), (0, Cond.fieldLink RX6 57 RX6 (TX6 8).2.1 (TX6 8).2.2.1), (0, Cond.fieldLink RX6 60 RX6 (TX6 9).2.1 (TX6 9).2.2.1), (0, Cond.fieldLink RX6 63 RX6 (TX6 10).2.1 (TX6 10).2.2.1), (0, Cond.fieldLink RX6 113 RX6 (TX6 11).2.1 (TX6 11).2.2.1), (0, Cond.fieldLink RX6 309 RX6 (TX6 12).2.1 (TX6 12).2.2.1), (27, Cond.methodLink RL 13 yX6_name), (0, Cond.instanceMethod yX6_name), (0, Cond.selects RX6 yX6_name yX6_name), (1, Cond.methodLink RX6 76 yX6_within), (0, Cond.static yX6_within), (1, Cond.methodLink RX6 80 yX1_enter), (0, Cond.instanceMethod yX1_enter), (0, Cond.selects RX1 yX1_enter yX1_enter), (1, Cond.methodLink RL 18 yX6_seed), (0, Cond.instanceMethod yX6_seed), (0, Cond.selects RX6 yX6_seed yX6_seed), (1, Cond.methodLink RX6 84 yX6_isName), (1, Cond.instanceMethod yX6_isName), (1, Cond.methodLink RX6 92 yX6_oneIf), (0, Cond.static yX6_oneIf), (1, Cond.methodLink RL 23 yX6_pledge), (0, Cond.instanceMethod yX6_pledge), (0, Cond.selects RX6 yX6_pledge yX6_pledge), (1, Cond.methodLink RX6 102 yX6_pledgeRoom), (1, Cond.instanceMethod yX6_pledgeRoom), (1, Cond.methodLink RL 28 yX6_tie), (0, Cond.instanceMethod yX6_tie)] = true := by decide +kernel
set_option maxRecDepth 100000 in
theorem tbK_6 : dkT lw_tbl [(364, Cond.selects RX6 yX6_tie yX6_tie), (1, Cond.methodLink RX6 105 yX6_arePair), (1, Cond.instanceMethod yX6_arePair), (1, Cond.methodLink RX6 116 yX4_enter), (0, Cond.instanceMethod yX4_enter), (0, Cond.selects RX4 yX4_enter yX4_enter), (1, Cond.methodLink RL 33 yX6_tieOf), (0, Cond.instanceMethod yX6_tieOf), (0, Cond.selects RX6 yX6_tieOf yX6_tieOf), (1, Cond.methodLink RX6 119 yX6_isTie), (1, Cond.instanceMethod yX6_isTie), (1, Cond.methodLink RX6 137 yX6_roomOf), (1, Cond.instanceMethod yX6_roomOf), (1, Cond.methodLink RX6 140 yX6_hasMadeEnd), (1, Cond.instanceMethod yX6_hasMadeEnd), (1, Cond.methodLink RX6 329 yX6_faded), (0, Cond.static yX6_faded), (1, Cond.methodLink RX6 165 yJ9_max_7cf53), (0, Cond.static yJ9_max_7cf53), (1, Cond.methodLink RX6 146 yX6_isFined), (1, Cond.instanceMethod yX6_isFined), (1, Cond.methodLink RL 37 yX6_renew), (0, Cond.instanceMethod yX6_renew), (0, Cond.selects RX6 yX6_renew yX6_renew), (1, Cond.methodLink RL 41 yX6_of), (0, Cond.instanceMethod yX6_of), (0, Cond.selects RX6 yX6_of yX6_of), (1, Cond.methodLink RX6 152 yX6_givenTo), (1, Cond.instanceMethod yX6_givenTo), (1, Cond.methodLink RX6 155 yX6_openTies), (1, Cond.instanceMethod yX6_openTies), (1, Cond.methodLink RX6 162 yX6_hasBit)] = true := by decide +kernel
set_option maxRecDepth 100000 in
theorem tbK_7 : dkT lw_tbl [(417, Cond.static yX6_hasBit), (1, Cond.methodLink RL 45 yX6_made), (0, Cond.instanceMethod yX6_made), (0, Cond.selects RX6 yX6_made yX6_made), (1, Cond.methodLink RX6 158 yX6_standingFor), (1, Cond.instanceMethod yX6_standingFor), (1, Cond.methodLink RX6 171 yJ6_bitCount_0f7a4), (0, Cond.static yJ6_bitCount_0f7a4), (1, Cond.constant RJ6 265 (1431655765)), (0, Cond.constant RJ6 266 (858993459)), (0, Cond.constant RJ6 267 (252645135)), (0, Cond.methodLink RL 49 yX6_day), (0, Cond.instanceMethod yX6_day), (0, Cond.selects RX6 yX6_day yX6_day), (1, Cond.methodLink RL 55 yX6_feed), (0, Cond.instanceMethod yX6_feed), (0, Cond.selects RX6 yX6_feed yX6_feed), (1, Cond.methodLink RX6 176 yX3_takeEight), (0, Cond.instanceMethod yX3_takeEight), (0, Cond.selects RX3 yX3_takeEight yX3_takeEight), (1, Cond.methodLink RL 60 yX6_end), (0, Cond.instanceMethod yX6_end), (0, Cond.selects RX6 yX6_end yX6_end), (1, Cond.methodLink RL 64 yX6_rules), (0, Cond.instanceMethod yX6_rules), (0, Cond.selects RX6 yX6_rules yX6_rules), (1, Cond.methodLink RX6 183 yX3_readLines), (0, Cond.instanceMethod yX3_readLines), (0, Cond.selects RX3 yX3_readLines yX3_readLines), (1, Cond.methodLink RX3 28 yX3_readToken), (1, Cond.instanceMethod yX3_readToken), (1, Cond.methodLink RX3 62 yX3_isLetter)] = true := by decide +kernel
set_option maxRecDepth 100000 in
theorem tbK_8 : dkT lw_tbl [(463, Cond.instanceMethod yX3_isLetter), (1, Cond.methodLinkNest RX3 58 yX6_within "ManyNames"), (0, Cond.methodLink RX3 65 yX3_readRule), (1, Cond.instanceMethod yX3_readRule), (1, Cond.methodLink RX3 74 yX3_textOf), (0, Cond.static yX3_textOf), (12, Cond.methodLink RX3 78 yX3_isText), (1, Cond.instanceMethod yX3_isText), (1, Cond.methodLink RX3 82 yJ0_length_8abf5), (0, Cond.instanceMethod yJ0_length_8abf5), (0, Cond.selects RJ0 yJ0_length_8abf5 yJ0_length_8abf5), (1, Cond.methodLink RJ0 335 yJ0_coder_7d493), (0, Cond.instanceMethod yJ0_coder_7d493), (0, Cond.selects RJ0 yJ0_coder_7d493 yJ0_coder_7d493), (3, Cond.methodLink RX3 87 yJ0_charAt_5068e), (0, Cond.instanceMethod yJ0_charAt_5068e), (0, Cond.selects RJ0 yJ0_charAt_5068e yJ0_charAt_5068e), (1, Cond.methodLink RJ0 492 yJ0_isLatin1_aae02), (0, Cond.instanceMethod yJ0_isLatin1_aae02), (0, Cond.selects RJ0 yJ0_isLatin1_aae02 yJ0_isLatin1_aae02), (1, Cond.methodLink RJ0 495 yJ1_charAt_3b067), (0, Cond.static yJ1_charAt_3b067), (1, Cond.methodLink RJ1 9 yJ0_checkIndex_df160), (0, Cond.static yJ0_checkIndex_df160), (3, Cond.methodLink RJ0 1059 yJ3_checkIndex_8e157), (0, Cond.static yJ3_checkIndex_8e157), (1, Cond.methodLink RJ0 498 yJ2_charAt_3b067), (0, Cond.static yJ2_charAt_3b067), (1, Cond.methodLink RJ2 67 yJ2_checkIndex_2214a), (0, Cond.static yJ2_checkIndex_2214a), (1, Cond.methodLink RJ2 48 yJ2_length_9d52b), (0, Cond.static yJ2_length_9d52b)] = true := by decide +kernel
set_option maxRecDepth 100000 in
theorem tbK_9 : dkT lw_tbl [(526, Cond.methodLink RJ2 414 yJ0_checkIndex_df160), (0, Cond.methodLink RJ2 71 yJ2_getChar_3b067), (0, Cond.static yJ2_getChar_3b067), (7, Cond.methodLink RX3 68 yX3_isFigure), (1, Cond.instanceMethod yX3_isFigure), (1, Cond.methodLink RX3 71 yX3_readNumber), (1, Cond.instanceMethod yX3_readNumber), (1, Cond.methodLink RX3 34 yX3_readLine), (1, Cond.instanceMethod yX3_readLine), (1, Cond.methodLink RX3 41 yX3_stands), (1, Cond.instanceMethod yX3_stands), (1, Cond.methodLinkNest RX3 48 yX6_hasBit "ManyNames"), (5, Cond.methodLink RL 69 yX6_fault), (0, Cond.instanceMethod yX6_fault), (0, Cond.selects RX6 yX6_fault yX6_fault), (1, Cond.methodLink RL 73 yX6_rule), (0, Cond.instanceMethod yX6_rule), (0, Cond.selects RX6 yX6_rule yX6_rule), (1, Cond.methodLink RL 77 yX6_trust), (0, Cond.instanceMethod yX6_trust), (0, Cond.selects RX6 yX6_trust yX6_trust), (1, Cond.methodLink RX6 190 yX6_layFlow), (1, Cond.instanceMethod yX6_layFlow), (1, Cond.methodLink RX6 332 yX0_clear), (0, Cond.instanceMethod yX0_clear), (0, Cond.selects RX0 yX0_clear yX0_clear), (1, Cond.methodLink RX0 30 yJ7_fill_53178), (0, Cond.static yJ7_fill_53178), (1, Cond.methodLink RX6 335 yX0_give), (0, Cond.instanceMethod yX0_give), (0, Cond.selects RX0 yX0_give yX0_give), (1, Cond.methodLink RX0 36 yX0_widen)] = true := by decide +kernel
set_option maxRecDepth 100000 in
theorem tbK_10 : dkT lw_tbl [(587, Cond.instanceMethod yX0_widen), (1, Cond.methodLink RX6 338 yX0_join), (0, Cond.instanceMethod yX0_join), (0, Cond.selects RX0 yX0_join yX0_join), (1, Cond.methodLink RX6 193 yX0_most), (0, Cond.instanceMethod yX0_most), (0, Cond.selects RX0 yX0_most yX0_most), (2, Cond.methodLink RX0 46 yX0_search), (1, Cond.instanceMethod yX0_search), (1, Cond.methodLinkNest RX0 57 yX6_hasBit "ManyNames"), (0, Cond.methodLink RX0 50 yX0_push), (1, Cond.instanceMethod yX0_push), (1, Cond.methodLink RX0 61 yJ9_min_7cf53), (0, Cond.static yJ9_min_7cf53), (1, Cond.methodLink RL 81 yX6_heap), (0, Cond.instanceMethod yX6_heap), (0, Cond.selects RX6 yX6_heap yX6_heap), (1, Cond.methodLink RX6 196 yX6_isHeap), (1, Cond.instanceMethod yX6_isHeap), (1, Cond.methodLink RL 85 yX6_cut), (0, Cond.instanceMethod yX6_cut), (0, Cond.selects RX6 yX6_cut yX6_cut), (1, Cond.methodLink RX6 202 yX6_tiesOutOf), (1, Cond.instanceMethod yX6_tiesOutOf), (1, Cond.methodLink RX6 205 yX6_givenBeyond), (1, Cond.instanceMethod yX6_givenBeyond), (1, Cond.methodLink RL 89 yX6_low), (0, Cond.instanceMethod yX6_low), (0, Cond.selects RX6 yX6_low yX6_low), (1, Cond.methodLink RX6 208 yX6_isPlain), (1, Cond.instanceMethod yX6_isPlain), (1, Cond.methodLink RL 93 yX6_twins)] = true := by decide +kernel
set_option maxRecDepth 100000 in
theorem tbK_11 : dkT lw_tbl [(639, Cond.instanceMethod yX6_twins), (0, Cond.selects RX6 yX6_twins yX6_twins), (1, Cond.methodLink RX6 211 yX6_fillTrusts), (1, Cond.instanceMethod yX6_fillTrusts), (1, Cond.methodLink RL 97 yX6_word), (0, Cond.instanceMethod yX6_word), (0, Cond.selects RX6 yX6_word yX6_word), (1, Cond.methodLink RX6 214 yX6_refusalOf), (1, Cond.instanceMethod yX6_refusalOf), (1, Cond.methodLink RX6 217 yX5_enter), (0, Cond.instanceMethod yX5_enter), (0, Cond.selects RX5 yX5_enter yX5_enter), (1, Cond.methodLink RX5 38 yX5_isNewDeal), (1, Cond.instanceMethod yX5_isNewDeal), (1, Cond.methodLink RL 101 yX6_wordOf), (0, Cond.instanceMethod yX6_wordOf), (0, Cond.selects RX6 yX6_wordOf yX6_wordOf), (1, Cond.methodLink RX6 218 yX6_isWord), (1, Cond.instanceMethod yX6_isWord), (1, Cond.methodLink RX6 234 yX5_doesCount), (0, Cond.instanceMethod yX5_doesCount), (0, Cond.selects RX5 yX5_doesCount yX5_doesCount), (1, Cond.methodLink RX5 42 yX5_countingOf), (0, Cond.instanceMethod yX5_countingOf), (0, Cond.selects RX5 yX5_countingOf yX5_countingOf), (1, Cond.methodLink RL 105 yX6_weight), (0, Cond.instanceMethod yX6_weight), (0, Cond.selects RX6 yX6_weight yX6_weight), (1, Cond.methodLink RX6 237 yX6_sayersOf), (1, Cond.instanceMethod yX6_sayersOf), (1, Cond.methodLink RX6 240 yX6_weighSayers), (1, Cond.instanceMethod yX6_weighSayers)] = true := by decide +kernel
set_option maxRecDepth 100000 in
theorem tbK_12 : dkT lw_tbl [(690, Cond.methodLink RX6 342 yX5_countingOf), (0, Cond.methodLink RL 109 yX6_sayers), (0, Cond.instanceMethod yX6_sayers), (0, Cond.selects RX6 yX6_sayers yX6_sayers), (1, Cond.methodLink RL 113 yX6_mark), (0, Cond.instanceMethod yX6_mark), (0, Cond.selects RX6 yX6_mark yX6_mark), (1, Cond.methodLink RX6 243 yX6_summedMarks), (1, Cond.instanceMethod yX6_summedMarks), (1, Cond.methodLink RX6 247 yX6_inLowest), (0, Cond.static yX6_inLowest), (1, Cond.methodLink RX6 345 yX6_commonPart), (0, Cond.static yX6_commonPart), (1, Cond.methodLink RX6 349 yJ9_max_f86c9), (0, Cond.static yJ9_max_f86c9), (1, Cond.methodLink RL 117 yX6_span), (0, Cond.instanceMethod yX6_span), (0, Cond.selects RX6 yX6_span yX6_span), (1, Cond.methodLink RX6 251 yX6_greatestStakes), (1, Cond.instanceMethod yX6_greatestStakes), (1, Cond.methodLink RL 122 yX6_ring), (0, Cond.instanceMethod yX6_ring), (0, Cond.selects RX6 yX6_ring yX6_ring), (1, Cond.methodLink RX6 256 yX6_wordsWithin), (1, Cond.instanceMethod yX6_wordsWithin), (1, Cond.methodLink RL 126 yX6_odds), (0, Cond.instanceMethod yX6_odds), (0, Cond.selects RX6 yX6_odds yX6_odds), (1, Cond.constantLong RX6 259 (-1)), (0, Cond.methodLink RX6 261 yX6_waysOf), (1, Cond.instanceMethod yX6_waysOf), (1, Cond.methodLink RX6 265 yX6_choose)] = true := by decide +kernel
set_option maxRecDepth 100000 in
theorem tbK_13 : dkT lw_tbl [(738, Cond.static yX6_choose), (1, Cond.methodLink RL 131 yX6_oddest), (0, Cond.instanceMethod yX6_oddest), (0, Cond.selects RX6 yX6_oddest yX6_oddest), (1, Cond.constantLong RX6 268 (-4)), (0, Cond.methodLink RL 136 yX6_gain), (0, Cond.instanceMethod yX6_gain), (0, Cond.selects RX6 yX6_gain yX6_gain), (1, Cond.methodLink RX6 270 yX6_isOffer), (0, Cond.static yX6_isOffer), (1, Cond.methodLink RX6 273 yX6_sellingNames), (1, Cond.instanceMethod yX6_sellingNames), (1, Cond.constant RX6 276 (-1000000)), (0, Cond.methodLink RX6 277 yX6_boughtRoom), (1, Cond.instanceMethod yX6_boughtRoom), (1, Cond.methodLink RX6 280 yX6_gainBy), (1, Cond.instanceMethod yX6_gainBy), (1, Cond.methodLink RX6 354 yX0_partCheat), (0, Cond.instanceMethod yX0_partCheat), (0, Cond.selects RX0 yX0_partCheat yX0_partCheat), (1, Cond.methodLink RL 140 yX6_best), (0, Cond.instanceMethod yX6_best), (0, Cond.selects RX6 yX6_best yX6_best), (1, Cond.methodLink RL 144 yX6_sheet), (0, Cond.instanceMethod yX6_sheet), (0, Cond.selects RX6 yX6_sheet yX6_sheet), (1, Cond.methodLink RX6 284 yX6_isSheet), (0, Cond.static yX6_isSheet), (1, Cond.methodLink RX6 287 yX6_isLane), (0, Cond.static yX6_isLane), (1, Cond.methodLink RX6 290 yX2_renewRow), (0, Cond.instanceMethod yX2_renewRow)] = true := by decide +kernel
set_option maxRecDepth 100000 in
theorem tbK_14 : dkT lw_tbl [(785, Cond.selects RX2 yX2_renewRow yX2_renewRow), (1, Cond.methodLink RX2 19 yJ7_fill_53178), (0, Cond.methodLink RL 148 yX6_lay), (0, Cond.instanceMethod yX6_lay), (0, Cond.selects RX6 yX6_lay yX6_lay), (1, Cond.methodLink RX6 294 yX2_faultAt), (0, Cond.instanceMethod yX2_faultAt), (0, Cond.selects RX2 yX2_faultAt yX2_faultAt), (1, Cond.methodLink RX2 28 yX2_isNothing), (0, Cond.instanceMethod yX2_isNothing), (0, Cond.selects RX2 yX2_isNothing yX2_isNothing), (1, Cond.methodLinkNest RX2 32 yX6_within "ManyNames"), (0, Cond.methodLink RX6 297 yX2_put), (0, Cond.instanceMethod yX2_put), (0, Cond.selects RX2 yX2_put yX2_put), (1, Cond.methodLink RL 152 yX6_read), (0, Cond.instanceMethod yX6_read), (0, Cond.selects RX6 yX6_read yX6_read), (1, Cond.methodLink RX6 300 yX2_wholeWords), (0, Cond.instanceMethod yX2_wholeWords), (0, Cond.selects RX2 yX2_wholeWords yX2_wholeWords), (1, Cond.methodLink RX2 36 yJ9_min_7cf53), (0, Cond.methodLink RX6 306 yX2_faultOfReading), (0, Cond.instanceMethod yX2_faultOfReading), (0, Cond.selects RX2 yX2_faultOfReading yX2_faultOfReading), (1, Cond.methodLink RL 156 yX6_lost), (0, Cond.instanceMethod yX6_lost), (0, Cond.selects RX6 yX6_lost yX6_lost), (1, Cond.methodLink RL 160 yX6_count), (0, Cond.instanceMethod yX6_count), (0, Cond.selects RX6 yX6_count yX6_count), (1, Cond.methodLink RX6 312 yX6_countTrue)] = true := by decide +kernel
set_option maxRecDepth 100000 in
theorem tbK_15 : dkT lw_tbl [(828, Cond.instanceMethod yX6_countTrue), (1, Cond.methodLink RX6 316 yX6_countFined), (1, Cond.instanceMethod yX6_countFined), (1, Cond.methodLink RX6 319 yX5_countingOnes), (0, Cond.instanceMethod yX5_countingOnes), (0, Cond.selects RX5 yX5_countingOnes yX5_countingOnes), (1, Cond.methodLink RX5 46 yX5_doesCount), (0, Cond.methodLinkNest RX5 49 yX6_oneIf "ManyNames"), (0, Cond.methodLink RX6 322 yX2_isNothing), (2, Cond.methodLink RL 12 yX7_init), (3, Cond.methodLink RX7 92 yX7_firstRules), (1, Cond.instanceMethod yX7_firstRules), (1, Cond.methodLink RX7 95 yX7_keepRules), (1, Cond.instanceMethod yX7_keepRules), (1, Cond.fieldLink RX7 98 RX7 (TX7 0).2.1 (TX7 0).2.2.1), (0, Cond.fieldLink RX7 7 RX7 (TX7 1).2.1 (TX7 1).2.2.1), (0, Cond.fieldLink RX7 13 RX7 (TX7 2).2.1 (TX7 2).2.2.1), (0, Cond.fieldLink RX7 17 RX7 (TX7 3).2.1 (TX7 3).2.2.1), (0, Cond.fieldLink RX7 20 RX7 (TX7 4).2.1 (TX7 4).2.2.1), (0, Cond.fieldLink RX7 23 RX7 (TX7 5).2.1 (TX7 5).2.2.1), (0, Cond.fieldLink RX7 121 RX7 (TX7 6).2.1 (TX7 6).2.2.1), (0, Cond.fieldLink RX7 26 RX7 (TX7 7).2.1 (TX7 7).2.2.1), (0, Cond.fieldLink RX7 29 RX7 (TX7 8).2.1 (TX7 8).2.2.1), (0, Cond.fieldLink RX7 32 RX7 (TX7 9).2.1 (TX7 9).2.2.1), (0, Cond.fieldLink RX7 35 RX7 (TX7 10).2.1 (TX7 10).2.2.1), (0, Cond.fieldLink RX7 38 RX7 (TX7 11).2.1 (TX7 11).2.2.1), (0, Cond.fieldLink RX7 106 RX7 (TX7 12).2.1 (TX7 12).2.2.1), (0, Cond.fieldLink RX7 41 RX7 (TX7 13).2.1 (TX7 13).2.2.1), (0, Cond.fieldLink RX7 44 RX7 (TX7 14).2.1 (TX7 14).2.2.1), (0, Cond.fieldLink RX7 47 RX7 (TX7 15).2.1 (TX7 15).2.2.1), (0, Cond.fieldLink RX7 50 RX7 (TX7 16).2.1 (TX7 16).2.2.1), (0, Cond.fieldLink RX7 149 RX7 (TX7 17).2.1 (TX7 17).2.2.1)] = true := by decide +kernel
set_option maxRecDepth 100000 in
theorem tbK_16 : dkT lw_tbl [(873, Cond.fieldLink RX7 163 RX7 (TX7 18).2.1 (TX7 18).2.2.1), (0, Cond.fieldLink RX7 157 RX7 (TX7 19).2.1 (TX7 19).2.2.1), (0, Cond.fieldLink RX7 173 RX7 (TX7 20).2.1 (TX7 20).2.2.1), (0, Cond.fieldLink RX7 184 RX7 (TX7 21).2.1 (TX7 21).2.2.1), (0, Cond.fieldLink RX7 154 RX7 (TX7 22).2.1 (TX7 22).2.2.1), (0, Cond.fieldLink RX7 160 RX7 (TX7 23).2.1 (TX7 23).2.2.1), (0, Cond.fieldLink RX7 53 RX7 (TX7 24).2.1 (TX7 24).2.2.1), (0, Cond.fieldLink RX7 56 RX7 (TX7 25).2.1 (TX7 25).2.2.1), (0, Cond.fieldLink RX7 59 RX7 (TX7 26).2.1 (TX7 26).2.2.1), (0, Cond.fieldLink RX7 235 RX7 (TX7 27).2.1 (TX7 27).2.2.1), (0, Cond.fieldLink RX7 62 RX7 (TX7 28).2.1 (TX7 28).2.2.1), (0, Cond.fieldLink RX7 65 RX7 (TX7 29).2.1 (TX7 29).2.2.1), (0, Cond.fieldLink RX7 68 RX7 (TX7 30).2.1 (TX7 30).2.2.1), (0, Cond.fieldLink RX7 71 RX7 (TX7 31).2.1 (TX7 31).2.2.1), (0, Cond.fieldLink RX7 74 RX7 (TX7 32).2.1 (TX7 32).2.2.1), (0, Cond.fieldLink RX7 262 RX7 (TX7 33).2.1 (TX7 33).2.2.1), (0, Cond.fieldLink RX7 77 RX7 (TX7 34).2.1 (TX7 34).2.2.1), (0, Cond.fieldLink RX7 80 RX7 (TX7 35).2.1 (TX7 35).2.2.1), (0, Cond.fieldLink RX7 265 RX7 (TX7 36).2.1 (TX7 36).2.2.1), (0, Cond.fieldLink RX7 268 RX7 (TX7 37).2.1 (TX7 37).2.2.1), (0, Cond.fieldLink RX7 296 RX7 (TX7 38).2.1 (TX7 38).2.2.1), (0, Cond.fieldLink RX7 304 RX7 (TX7 39).2.1 (TX7 39).2.2.1), (0, Cond.fieldLink RX7 83 RX7 (TX7 40).2.1 (TX7 40).2.2.1), (0, Cond.fieldLink RX7 86 RX7 (TX7 41).2.1 (TX7 41).2.2.1), (0, Cond.fieldLink RX7 89 RX7 (TX7 42).2.1 (TX7 42).2.2.1), (0, Cond.fieldLink RX7 333 RX7 (TX7 43).2.1 (TX7 43).2.2.1), (89, Cond.methodLink RL 17 yX7_name), (0, Cond.instanceMethod yX7_name), (0, Cond.selects RX7 yX7_name yX7_name), (1, Cond.constantLong RX7 109 (999)), (0, Cond.methodLink RX7 102 yX7_in), (0, Cond.static yX7_in)] = true := by decide +kernel
set_option maxRecDepth 100000 in
theorem tbK_17 : dkT lw_tbl [(996, Cond.methodLink RL 22 yX7_seed), (0, Cond.instanceMethod yX7_seed), (0, Cond.selects RX7 yX7_seed yX7_seed), (1, Cond.methodLink RX7 111 yX7_isName), (1, Cond.instanceMethod yX7_isName), (1, Cond.methodLink RL 27 yX7_pledge), (0, Cond.instanceMethod yX7_pledge), (0, Cond.selects RX7 yX7_pledge yX7_pledge), (1, Cond.methodLink RX7 115 yX7_pledged), (1, Cond.instanceMethod yX7_pledged), (1, Cond.methodLink RL 32 yX7_tie), (0, Cond.instanceMethod yX7_tie), (0, Cond.selects RX7 yX7_tie yX7_tie), (1, Cond.constantLong RX7 119 (3)), (0, Cond.methodLink RL 36 yX7_tieOf), (0, Cond.instanceMethod yX7_tieOf), (0, Cond.selects RX7 yX7_tieOf yX7_tieOf), (1, Cond.methodLink RX7 131 yX7_isTie), (1, Cond.instanceMethod yX7_isTie), (1, Cond.constantLong RX7 134 (5)), (0, Cond.methodLink RX7 136 yX7_roomOf), (1, Cond.instanceMethod yX7_roomOf), (1, Cond.methodLink RX7 124 yX7_faded), (0, Cond.static yX7_faded), (1, Cond.methodLink RX7 128 yX7_isFined), (1, Cond.instanceMethod yX7_isFined), (1, Cond.methodLink RL 40 yX7_renew), (0, Cond.instanceMethod yX7_renew), (0, Cond.selects RX7 yX7_renew yX7_renew), (1, Cond.methodLink RL 44 yX7_of), (0, Cond.instanceMethod yX7_of), (0, Cond.selects RX7 yX7_of yX7_of)] = true := by decide +kernel
set_option maxRecDepth 100000 in
theorem tbK_18 : dkT lw_tbl [(1045, Cond.constantLong RX7 139 (6)), (0, Cond.methodLink RX7 141 yX7_given), (1, Cond.instanceMethod yX7_given), (1, Cond.methodLink RL 48 yX7_made), (0, Cond.instanceMethod yX7_made), (0, Cond.selects RX7 yX7_made yX7_made), (1, Cond.methodLink RX7 144 yX7_bits), (0, Cond.static yX7_bits), (1, Cond.methodLink RL 52 yX7_day), (0, Cond.instanceMethod yX7_day), (0, Cond.selects RX7 yX7_day yX7_day), (1, Cond.constantLong RX7 147 (9999)), (0, Cond.methodLink RL 59 yX7_feed), (0, Cond.instanceMethod yX7_feed), (0, Cond.selects RX7 yX7_feed yX7_feed), (1, Cond.constantLong RX7 152 (255)), (0, Cond.methodLink RL 63 yX7_end), (0, Cond.instanceMethod yX7_end), (0, Cond.selects RX7 yX7_end yX7_end), (1, Cond.methodLink RL 68 yX7_rules), (0, Cond.instanceMethod yX7_rules), (0, Cond.selects RX7 yX7_rules yX7_rules), (1, Cond.methodLink RX7 195 yX7_next), (1, Cond.instanceMethod yX7_next), (1, Cond.methodLink RX7 166 yX7_look), (1, Cond.instanceMethod yX7_look), (1, Cond.constantLong RX7 176 (97)), (0, Cond.constantLong RX7 178 (122)), (0, Cond.methodLink RX7 180 yX7_nameNow), (1, Cond.instanceMethod yX7_nameNow), (1, Cond.methodLink RX7 169 yX7_is), (1, Cond.instanceMethod yX7_is)] = true := by decide +kernel
set_option maxRecDepth 100000 in
theorem tbK_19 : dkT lw_tbl [(1093, Cond.methodLink RX7 187 yX7_wants), (1, Cond.instanceMethod yX7_wants), (1, Cond.constantLong RX7 191 (48)), (0, Cond.constantLong RX7 193 (57)), (0, Cond.methodLink RX7 204 yX7_readLine), (1, Cond.instanceMethod yX7_readLine), (1, Cond.methodLink RX7 198 yX7_least), (0, Cond.static yX7_least), (1, Cond.methodLink RX7 201 yX7_most), (0, Cond.static yX7_most), (1, Cond.methodLink RL 72 yX7_fault), (0, Cond.instanceMethod yX7_fault), (0, Cond.selects RX7 yX7_fault yX7_fault), (1, Cond.methodLink RL 76 yX7_rule), (0, Cond.instanceMethod yX7_rule), (0, Cond.selects RX7 yX7_rule yX7_rule), (1, Cond.constantLong RX7 207 (9)), (0, Cond.methodLink RL 80 yX7_trust), (0, Cond.instanceMethod yX7_trust), (0, Cond.selects RX7 yX7_trust yX7_trust), (1, Cond.methodLink RX7 220 yX7_trustOf), (1, Cond.instanceMethod yX7_trustOf), (1, Cond.methodLink RX7 214 yX7_begins), (1, Cond.instanceMethod yX7_begins), (1, Cond.constant RX7 213 (100000000)), (0, Cond.methodLink RX7 217 yX7_flows), (1, Cond.instanceMethod yX7_flows), (1, Cond.methodLink RX7 209 yX7_reaches), (1, Cond.instanceMethod yX7_reaches), (1, Cond.methodLink RL 84 yX7_heap), (0, Cond.instanceMethod yX7_heap), (0, Cond.selects RX7 yX7_heap yX7_heap)] = true := by decide +kernel
set_option maxRecDepth 100000 in
theorem tbK_20 : dkT lw_tbl [(1143, Cond.methodLink RX7 223 yX7_areNames), (1, Cond.instanceMethod yX7_areNames), (1, Cond.methodLink RL 88 yX7_cut), (0, Cond.instanceMethod yX7_cut), (0, Cond.selects RX7 yX7_cut yX7_cut), (1, Cond.constantLong RX7 226 (2)), (0, Cond.methodLink RL 92 yX7_low), (0, Cond.instanceMethod yX7_low), (0, Cond.selects RX7 yX7_low yX7_low), (1, Cond.methodLink RX7 228 yX7_isPlain), (1, Cond.instanceMethod yX7_isPlain), (1, Cond.methodLink RL 96 yX7_twins), (0, Cond.instanceMethod yX7_twins), (0, Cond.selects RX7 yX7_twins yX7_twins), (1, Cond.methodLink RL 100 yX7_word), (0, Cond.instanceMethod yX7_word), (0, Cond.selects RX7 yX7_word yX7_word), (1, Cond.methodLink RX7 238 yX7_isWord), (1, Cond.instanceMethod yX7_isWord), (1, Cond.constantLong RX7 231 (99)), (0, Cond.constantLong RX7 233 (10)), (0, Cond.methodLink RX7 242 yX7_says), (1, Cond.instanceMethod yX7_says), (1, Cond.methodLink RL 104 yX7_wordOf), (0, Cond.instanceMethod yX7_wordOf), (0, Cond.selects RX7 yX7_wordOf yX7_wordOf), (1, Cond.methodLink RX7 249 yX7_counts), (1, Cond.instanceMethod yX7_counts), (1, Cond.methodLink RX7 246 yX7_isFirst), (1, Cond.instanceMethod yX7_isFirst), (1, Cond.methodLink RL 108 yX7_weight), (0, Cond.instanceMethod yX7_weight)] = true := by decide +kernel
set_option maxRecDepth 100000 in
theorem tbK_21 : dkT lw_tbl [(1192, Cond.selects RX7 yX7_weight yX7_weight), (1, Cond.methodLink RX7 256 yX7_sayersOf), (1, Cond.instanceMethod yX7_sayersOf), (1, Cond.methodLink RX7 252 yX7_wordBy), (1, Cond.instanceMethod yX7_wordBy), (1, Cond.methodLink RX7 259 yX7_weightOf), (1, Cond.instanceMethod yX7_weightOf), (1, Cond.methodLink RL 112 yX7_sayers), (0, Cond.instanceMethod yX7_sayers), (0, Cond.selects RX7 yX7_sayers yX7_sayers), (1, Cond.methodLink RL 116 yX7_mark), (0, Cond.instanceMethod yX7_mark), (0, Cond.selects RX7 yX7_mark yX7_mark), (1, Cond.methodLink RX7 275 yX7_lists), (1, Cond.instanceMethod yX7_lists), (1, Cond.methodLink RX7 279 yX7_fraction), (1, Cond.instanceMethod yX7_fraction), (1, Cond.methodLink RX7 271 yX7_common), (0, Cond.static yX7_common), (1, Cond.methodLink RL 121 yX7_span), (0, Cond.instanceMethod yX7_span), (0, Cond.selects RX7 yX7_span yX7_span), (1, Cond.methodLink RX7 282 yX7_moved), (1, Cond.instanceMethod yX7_moved), (1, Cond.methodLink RL 125 yX7_ring), (0, Cond.instanceMethod yX7_ring), (0, Cond.selects RX7 yX7_ring yX7_ring), (1, Cond.methodLink RX7 293 yX7_ringOf), (1, Cond.instanceMethod yX7_ringOf), (1, Cond.methodLink RX7 286 yX7_isBetween), (1, Cond.instanceMethod yX7_isBetween), (1, Cond.methodLink RX7 290 yX7_isGood)] = true := by decide +kernel
set_option maxRecDepth 100000 in
theorem tbK_22 : dkT lw_tbl [(1247, Cond.instanceMethod yX7_isGood), (1, Cond.methodLink RL 130 yX7_odds), (0, Cond.instanceMethod yX7_odds), (0, Cond.selects RX7 yX7_odds yX7_odds), (1, Cond.constantLong RX7 307 (-1)), (0, Cond.methodLink RX7 309 yX7_findOdds), (1, Cond.instanceMethod yX7_findOdds), (1, Cond.methodLink RX7 300 yX7_ways), (0, Cond.static yX7_ways), (1, Cond.methodLink RL 135 yX7_oddest), (0, Cond.instanceMethod yX7_oddest), (0, Cond.selects RX7 yX7_oddest yX7_oddest), (1, Cond.constantLong RX7 312 (-4)), (0, Cond.methodLink RL 139 yX7_gain), (0, Cond.instanceMethod yX7_gain), (0, Cond.selects RX7 yX7_gain yX7_gain), (1, Cond.methodLink RX7 317 yX7_sellers), (1, Cond.instanceMethod yX7_sellers), (1, Cond.methodLink RX7 314 yX7_sells), (1, Cond.instanceMethod yX7_sells), (1, Cond.constant RX7 320 (-1000000)), (0, Cond.methodLink RX7 321 yX7_gainOf), (1, Cond.instanceMethod yX7_gainOf), (1, Cond.methodLink RL 143 yX7_best), (0, Cond.instanceMethod yX7_best), (0, Cond.selects RX7 yX7_best yX7_best), (1, Cond.methodLink RL 147 yX7_sheet), (0, Cond.instanceMethod yX7_sheet), (0, Cond.selects RX7 yX7_sheet yX7_sheet), (1, Cond.methodLink RX7 324 yX7_isSheet), (0, Cond.static yX7_isSheet), (1, Cond.methodLink RL 151 yX7_lay)] = true := by decide +kernel
set_option maxRecDepth 100000 in
theorem tbK_23 : dkT lw_tbl [(1295, Cond.instanceMethod yX7_lay), (0, Cond.selects RX7 yX7_lay yX7_lay), (1, Cond.methodLink RL 155 yX7_read), (0, Cond.instanceMethod yX7_read), (0, Cond.selects RX7 yX7_read yX7_read), (1, Cond.constantLong RX7 327 (12)), (0, Cond.methodLink RX7 329 yX7_refuses), (1, Cond.instanceMethod yX7_refuses), (1, Cond.methodLink RL 159 yX7_lost), (0, Cond.instanceMethod yX7_lost), (0, Cond.selects RX7 yX7_lost yX7_lost), (1, Cond.methodLink RL 163 yX7_count), (0, Cond.instanceMethod yX7_count), (0, Cond.selects RX7 yX7_count yX7_count), (1, Cond.constantLong RL 53 (4294967295))] = true := by decide +kernel
theorem tin_0 {w : Cond} (h : w ∈ tables_1) : w ∈ lw_tbl := List.mem_append_right _ h
theorem tin_1 {w : Cond} (h : w ∈ tables_1_1) : w ∈ lw_tbl := tin_0 (List.mem_append_left _ h)
theorem tin_2 {w : Cond} (h : w ∈ tables_1_2) : w ∈ lw_tbl := tin_0 (List.mem_append_right _ (List.mem_append_left _ h))
theorem tin_3 {w : Cond} (h : w ∈ tables_1_3) : w ∈ lw_tbl := tin_0 (List.mem_append_right _ (List.mem_append_right _ (List.mem_append_left _ h)))
theorem tin_4 {w : Cond} (h : w ∈ tables_1_4) : w ∈ lw_tbl := tin_0 (List.mem_append_right _ (List.mem_append_right _ (List.mem_append_right _ (List.mem_append_left _ h))))
theorem tin_5 {w : Cond} (h : w ∈ tables_1_5) : w ∈ lw_tbl := tin_0 (List.mem_append_right _ (List.mem_append_right _ (List.mem_append_right _ (List.mem_append_right _ (List.mem_append_left _ h)))))
theorem tin_6 {w : Cond} (h : w ∈ tables_1_6) : w ∈ lw_tbl := tin_0 (List.mem_append_right _ (List.mem_append_right _ (List.mem_append_right _ (List.mem_append_right _ (List.mem_append_right _ (h))))))
theorem iniJ0 : Cond.initialized RJ0 ∈ aw_tb := aw_me (dkT_at _ _ tbK_2 25 _ rfl) rfl
theorem nmhJ0 : RJ0 ≠ "java/lang/invoke/MethodHandle" ∧ RJ0 ≠ "java/lang/invoke/VarHandle" := ⟨by decide +kernel, by decide +kernel⟩
theorem iniJ1 : Cond.initialized RJ1 ∈ aw_tb := aw_me (dkT_at _ _ tbK_2 26 _ rfl) rfl
theorem nmhJ1 : RJ1 ≠ "java/lang/invoke/MethodHandle" ∧ RJ1 ≠ "java/lang/invoke/VarHandle" := ⟨by decide +kernel, by decide +kernel⟩
theorem iniJ2 : Cond.initialized RJ2 ∈ aw_tb := aw_me (dkT_at _ _ tbK_2 28 _ rfl) rfl
theorem nmhJ2 : RJ2 ≠ "java/lang/invoke/MethodHandle" ∧ RJ2 ≠ "java/lang/invoke/VarHandle" := ⟨by decide +kernel, by decide +kernel⟩
theorem iniJ3 : Cond.initialized RJ3 ∈ aw_tb := aw_me (dkT_at _ _ tbK_2 27 _ rfl) rfl
theorem nmhJ3 : RJ3 ≠ "java/lang/invoke/MethodHandle" ∧ RJ3 ≠ "java/lang/invoke/VarHandle" := ⟨by decide +kernel, by decide +kernel⟩
theorem iniJ6 : Cond.initialized RJ6 ∈ aw_tb := aw_me (dkT_at _ _ tbK_2 24 _ rfl) rfl
theorem nmhJ6 : RJ6 ≠ "java/lang/invoke/MethodHandle" ∧ RJ6 ≠ "java/lang/invoke/VarHandle" := ⟨by decide +kernel, by decide +kernel⟩
theorem iniJ7 : Cond.initialized RJ7 ∈ aw_tb := aw_me (dkT_at _ _ tbK_2 29 _ rfl) rfl
theorem nmhJ7 : RJ7 ≠ "java/lang/invoke/MethodHandle" ∧ RJ7 ≠ "java/lang/invoke/VarHandle" := ⟨by decide +kernel, by decide +kernel⟩
theorem iniJ9 : Cond.initialized RJ9 ∈ aw_tb := aw_me (dkT_at _ _ tbK_2 23 _ rfl) rfl
theorem nmhJ9 : RJ9 ≠ "java/lang/invoke/MethodHandle" ∧ RJ9 ≠ "java/lang/invoke/VarHandle" := ⟨by decide +kernel, by decide +kernel⟩
theorem iniX0 : Cond.initialized RX0 ∈ aw_tb := aw_me (dkT_at _ _ tbK_2 20 _ rfl) rfl
theorem nmhX0 : RX0 ≠ "java/lang/invoke/MethodHandle" ∧ RX0 ≠ "java/lang/invoke/VarHandle" := ⟨by decide +kernel, by decide +kernel⟩
theorem iniX1 : Cond.initialized RX1 ∈ aw_tb := aw_me (dkT_at _ _ tbK_2 16 _ rfl) rfl
theorem nmhX1 : RX1 ≠ "java/lang/invoke/MethodHandle" ∧ RX1 ≠ "java/lang/invoke/VarHandle" := ⟨by decide +kernel, by decide +kernel⟩
theorem iniX2 : Cond.initialized RX2 ∈ aw_tb := aw_me (dkT_at _ _ tbK_2 21 _ rfl) rfl
theorem nmhX2 : RX2 ≠ "java/lang/invoke/MethodHandle" ∧ RX2 ≠ "java/lang/invoke/VarHandle" := ⟨by decide +kernel, by decide +kernel⟩
theorem iniX3 : Cond.initialized RX3 ∈ aw_tb := aw_me (dkT_at _ _ tbK_2 19 _ rfl) rfl
theorem nmhX3 : RX3 ≠ "java/lang/invoke/MethodHandle" ∧ RX3 ≠ "java/lang/invoke/VarHandle" := ⟨by decide +kernel, by decide +kernel⟩
theorem iniX4 : Cond.initialized RX4 ∈ aw_tb := aw_me (dkT_at _ _ tbK_2 17 _ rfl) rfl
theorem nmhX4 : RX4 ≠ "java/lang/invoke/MethodHandle" ∧ RX4 ≠ "java/lang/invoke/VarHandle" := ⟨by decide +kernel, by decide +kernel⟩
theorem iniX5 : Cond.initialized RX5 ∈ aw_tb := aw_me (dkT_at _ _ tbK_2 18 _ rfl) rfl
theorem nmhX5 : RX5 ≠ "java/lang/invoke/MethodHandle" ∧ RX5 ≠ "java/lang/invoke/VarHandle" := ⟨by decide +kernel, by decide +kernel⟩
theorem iniX6 : Cond.initialized RX6 ∈ aw_tb := aw_me (dkT_at _ _ tbK_2 15 _ rfl) rfl
theorem nmhX6 : RX6 ≠ "java/lang/invoke/MethodHandle" ∧ RX6 ≠ "java/lang/invoke/VarHandle" := ⟨by decide +kernel, by decide +kernel⟩
theorem iniX7 : Cond.initialized RX7 ∈ aw_tb := aw_me (dkT_at _ _ tbK_2 22 _ rfl) rfl
theorem nmhX7 : RX7 ≠ "java/lang/invoke/MethodHandle" ∧ RX7 ≠ "java/lang/invoke/VarHandle" := ⟨by decide +kernel, by decide +kernel⟩
set_option maxRecDepth 100000 in
theorem fJ7_fill_53178 : MFs mJ7_fill_53178 2 := ⟨⟨aw_me (tin_3 (List.mem_of_getElem? (i := 21) rfl)) rfl, iniJ7, ⟨nmhJ7.1, nmhJ7.2, by decide +kernel⟩, by decide⟩, aw_me (dkT_at _ _ tbK_9 27 _ rfl) rfl⟩
set_option maxRecDepth 100000 in
theorem fX0_clear : MFv mX0_clear 0 := ⟨⟨aw_me (tin_3 (List.mem_of_getElem? (i := 18) rfl)) rfl, iniX0, ⟨nmhX0.1, nmhX0.2, by decide +kernel⟩, by decide⟩, aw_me (dkT_at _ _ tbK_9 24 _ rfl) rfl, aw_me (dkT_at _ _ tbK_9 25 _ rfl) rfl⟩
set_option maxRecDepth 100000 in
theorem fX0_widen : MFv mX0_widen 3 := ⟨⟨aw_me (tin_3 (List.mem_of_getElem? (i := 29) rfl)) rfl, iniX0, ⟨nmhX0.1, nmhX0.2, by decide +kernel⟩, by decide⟩, aw_me (dkT_at _ _ tbK_10 0 _ rfl) rfl, aw_me (dkT_at _ _ tbK_0 19 _ rfl) rfl⟩
set_option maxRecDepth 100000 in
theorem fX0_give : MFv mX0_give 2 := ⟨⟨aw_me (tin_3 (List.mem_of_getElem? (i := 25) rfl)) rfl, iniX0, ⟨nmhX0.1, nmhX0.2, by decide +kernel⟩, by decide⟩, aw_me (dkT_at _ _ tbK_9 29 _ rfl) rfl, aw_me (dkT_at _ _ tbK_9 30 _ rfl) rfl⟩
set_option maxRecDepth 100000 in
theorem fX0_join : MFv mX0_join 3 := ⟨⟨aw_me (tin_3 (List.mem_of_getElem? (i := 33) rfl)) rfl, iniX0, ⟨nmhX0.1, nmhX0.2, by decide +kernel⟩, by decide⟩, aw_me (dkT_at _ _ tbK_10 2 _ rfl) rfl, aw_me (dkT_at _ _ tbK_10 3 _ rfl) rfl⟩
set_option maxRecDepth 100000 in
theorem fX0_partCheat : MFv mX0_partCheat 0 := ⟨⟨aw_me (tin_3 (List.mem_of_getElem? (i := 209) rfl)) rfl, iniX0, ⟨nmhX0.1, nmhX0.2, by decide +kernel⟩, by decide⟩, aw_me (dkT_at _ _ tbK_13 18 _ rfl) rfl, aw_me (dkT_at _ _ tbK_13 19 _ rfl) rfl⟩
set_option maxRecDepth 100000 in
theorem fX6_hasBit : MFs mX6_hasBit 2 := ⟨⟨aw_me (tin_2 (List.mem_of_getElem? (i := 99) rfl)) rfl, iniX6, ⟨nmhX6.1, nmhX6.2, by decide +kernel⟩, by decide⟩, aw_me (dkT_at _ _ tbK_7 0 _ rfl) rfl⟩
set_option maxRecDepth 100000 in
theorem fX0_search : MFv mX0_search 1 := ⟨⟨aw_me (tin_3 (List.mem_of_getElem? (i := 42) rfl)) rfl, iniX0, ⟨nmhX0.1, nmhX0.2, by decide +kernel⟩, by decide⟩, aw_me (dkT_at _ _ tbK_10 8 _ rfl) rfl, aw_me (dkT_at _ _ tbK_0 20 _ rfl) rfl⟩
set_option maxRecDepth 100000 in
theorem fX0_push : MFv mX0_push 1 := ⟨⟨aw_me (tin_3 (List.mem_of_getElem? (i := 47) rfl)) rfl, iniX0, ⟨nmhX0.1, nmhX0.2, by decide +kernel⟩, by decide⟩, aw_me (dkT_at _ _ tbK_10 11 _ rfl) rfl, aw_me (dkT_at _ _ tbK_0 21 _ rfl) rfl⟩
set_option maxRecDepth 100000 in
theorem fX0_most : MFv mX0_most 1 := ⟨⟨aw_me (tin_3 (List.mem_of_getElem? (i := 37) rfl)) rfl, iniX0, ⟨nmhX0.1, nmhX0.2, by decide +kernel⟩, by decide⟩, aw_me (dkT_at _ _ tbK_10 5 _ rfl) rfl, aw_me (dkT_at _ _ tbK_10 6 _ rfl) rfl⟩
set_option maxRecDepth 100000 in
theorem fX1_enter : MFv mX1_enter 1 := ⟨⟨aw_me (tin_2 (List.mem_of_getElem? (i := 23) rfl)) rfl, iniX1, ⟨nmhX1.1, nmhX1.2, by decide +kernel⟩, by decide⟩, aw_me (dkT_at _ _ tbK_5 16 _ rfl) rfl, aw_me (dkT_at _ _ tbK_5 17 _ rfl) rfl⟩
set_option maxRecDepth 100000 in
theorem fX2_isNothing : MFv mX2_isNothing 0 := ⟨⟨aw_me (tin_4 (List.mem_of_getElem? (i := 0) rfl)) rfl, iniX2, ⟨nmhX2.1, nmhX2.2, by decide +kernel⟩, by decide⟩, aw_me (dkT_at _ _ tbK_14 9 _ rfl) rfl, aw_me (dkT_at _ _ tbK_14 10 _ rfl) rfl⟩
set_option maxRecDepth 100000 in
theorem fX2_renewRow : MFv mX2_renewRow 2 := ⟨⟨aw_me (tin_3 (List.mem_of_getElem? (i := 227) rfl)) rfl, iniX2, ⟨nmhX2.1, nmhX2.2, by decide +kernel⟩, by decide⟩, aw_me (dkT_at _ _ tbK_13 31 _ rfl) rfl, aw_me (dkT_at _ _ tbK_14 0 _ rfl) rfl⟩
set_option maxRecDepth 100000 in
theorem fX6_within : MFs mX6_within 3 := ⟨⟨aw_me (tin_2 (List.mem_of_getElem? (i := 19) rfl)) rfl, iniX6, ⟨nmhX6.1, nmhX6.2, by decide +kernel⟩, by decide⟩, aw_me (dkT_at _ _ tbK_5 14 _ rfl) rfl⟩
set_option maxRecDepth 100000 in
theorem fX2_faultAt : MFv mX2_faultAt 1 := ⟨⟨aw_me (tin_3 (List.mem_of_getElem? (i := 236) rfl)) rfl, iniX2, ⟨nmhX2.1, nmhX2.2, by decide +kernel⟩, by decide⟩, aw_me (dkT_at _ _ tbK_14 6 _ rfl) rfl, aw_me (dkT_at _ _ tbK_14 7 _ rfl) rfl⟩
set_option maxRecDepth 100000 in
theorem fX2_put : MFv mX2_put 2 := ⟨⟨aw_me (tin_4 (List.mem_of_getElem? (i := 5) rfl)) rfl, iniX2, ⟨nmhX2.1, nmhX2.2, by decide +kernel⟩, by decide⟩, aw_me (dkT_at _ _ tbK_14 13 _ rfl) rfl, aw_me (dkT_at _ _ tbK_14 14 _ rfl) rfl⟩
set_option maxRecDepth 100000 in
theorem fX2_wholeWords : MFv mX2_wholeWords 3 := ⟨⟨aw_me (tin_4 (List.mem_of_getElem? (i := 13) rfl)) rfl, iniX2, ⟨nmhX2.1, nmhX2.2, by decide +kernel⟩, by decide⟩, aw_me (dkT_at _ _ tbK_14 19 _ rfl) rfl, aw_me (dkT_at _ _ tbK_14 20 _ rfl) rfl⟩
set_option maxRecDepth 100000 in
theorem fX2_faultOfReading : MFv mX2_faultOfReading 3 := ⟨⟨aw_me (tin_4 (List.mem_of_getElem? (i := 18) rfl)) rfl, iniX2, ⟨nmhX2.1, nmhX2.2, by decide +kernel⟩, by decide⟩, aw_me (dkT_at _ _ tbK_14 23 _ rfl) rfl, aw_me (dkT_at _ _ tbK_14 24 _ rfl) rfl⟩
set_option maxRecDepth 100000 in
theorem fX3_takeEight : MFv mX3_takeEight 1 := ⟨⟨aw_me (tin_2 (List.mem_of_getElem? (i := 125) rfl)) rfl, iniX3, ⟨nmhX3.1, nmhX3.2, by decide +kernel⟩, by decide⟩, aw_me (dkT_at _ _ tbK_7 18 _ rfl) rfl, aw_me (dkT_at _ _ tbK_7 19 _ rfl) rfl⟩
set_option maxRecDepth 100000 in
theorem fX3_isLetter : MFv mX3_isLetter 1 := ⟨⟨aw_me (tin_2 (List.mem_of_getElem? (i := 145) rfl)) rfl, iniX3, ⟨nmhX3.1, nmhX3.2, by decide +kernel⟩, by decide⟩, aw_me (dkT_at _ _ tbK_8 0 _ rfl) rfl, aw_me (dkT_at _ _ tbK_0 11 _ rfl) rfl⟩
set_option maxRecDepth 100000 in
theorem fX3_textOf : MFs mX3_textOf 1 := ⟨⟨aw_me (tin_2 (List.mem_of_getElem? (i := 153) rfl)) rfl, iniX3, ⟨nmhX3.1, nmhX3.2, by decide +kernel⟩, by decide⟩, aw_me (dkT_at _ _ tbK_8 5 _ rfl) rfl⟩
set_option maxRecDepth 100000 in
theorem fJ0_coder_7d493 : MFv mJ0_coder_7d493 0 := ⟨⟨aw_me (tin_2 (List.mem_of_getElem? (i := 176) rfl)) rfl, iniJ0, ⟨nmhJ0.1, nmhJ0.2, by decide +kernel⟩, by decide⟩, aw_me (dkT_at _ _ tbK_8 12 _ rfl) rfl, aw_me (dkT_at _ _ tbK_8 13 _ rfl) rfl⟩
set_option maxRecDepth 100000 in
theorem fJ0_length_8abf5 : MFv mJ0_length_8abf5 0 := ⟨⟨aw_me (tin_2 (List.mem_of_getElem? (i := 172) rfl)) rfl, iniJ0, ⟨nmhJ0.1, nmhJ0.2, by decide +kernel⟩, by decide⟩, aw_me (dkT_at _ _ tbK_8 9 _ rfl) rfl, aw_me (dkT_at _ _ tbK_8 10 _ rfl) rfl⟩
set_option maxRecDepth 100000 in
theorem fJ0_isLatin1_aae02 : MFv mJ0_isLatin1_aae02 0 := ⟨⟨aw_me (tin_2 (List.mem_of_getElem? (i := 186) rfl)) rfl, iniJ0, ⟨nmhJ0.1, nmhJ0.2, by decide +kernel⟩, by decide⟩, aw_me (dkT_at _ _ tbK_8 18 _ rfl) rfl, aw_me (dkT_at _ _ tbK_8 19 _ rfl) rfl⟩
set_option maxRecDepth 100000 in
theorem fJ3_checkIndex_8e157 : MFs mJ3_checkIndex_8e157 3 := ⟨⟨aw_me (tin_2 (List.mem_of_getElem? (i := 197) rfl)) rfl, iniJ3, ⟨nmhJ3.1, nmhJ3.2, by decide +kernel⟩, by decide⟩, aw_me (dkT_at _ _ tbK_8 25 _ rfl) rfl⟩
set_option maxRecDepth 100000 in
theorem fJ0_checkIndex_df160 : MFs mJ0_checkIndex_df160 2 := ⟨⟨aw_me (tin_2 (List.mem_of_getElem? (i := 192) rfl)) rfl, iniJ0, ⟨nmhJ0.1, nmhJ0.2, by decide +kernel⟩, by decide⟩, aw_me (dkT_at _ _ tbK_8 23 _ rfl) rfl⟩
set_option maxRecDepth 100000 in
theorem fJ1_charAt_3b067 : MFs mJ1_charAt_3b067 2 := ⟨⟨aw_me (tin_2 (List.mem_of_getElem? (i := 189) rfl)) rfl, iniJ1, ⟨nmhJ1.1, nmhJ1.2, by decide +kernel⟩, by decide⟩, aw_me (dkT_at _ _ tbK_8 21 _ rfl) rfl⟩
set_option maxRecDepth 100000 in
theorem fJ2_length_9d52b : MFs mJ2_length_9d52b 1 := ⟨⟨aw_me (tin_2 (List.mem_of_getElem? (i := 206) rfl)) rfl, iniJ2, ⟨nmhJ2.1, nmhJ2.2, by decide +kernel⟩, by decide⟩, aw_me (dkT_at _ _ tbK_8 31 _ rfl) rfl⟩
set_option maxRecDepth 100000 in
theorem fJ2_checkIndex_2214a : MFs mJ2_checkIndex_2214a 2 := ⟨⟨aw_me (tin_2 (List.mem_of_getElem? (i := 203) rfl)) rfl, iniJ2, ⟨nmhJ2.1, nmhJ2.2, by decide +kernel⟩, by decide⟩, aw_me (dkT_at _ _ tbK_8 29 _ rfl) rfl⟩
set_option maxRecDepth 100000 in
theorem fJ2_getChar_3b067 : MFs mJ2_getChar_3b067 2 := ⟨⟨aw_me (tin_2 (List.mem_of_getElem? (i := 210) rfl)) rfl, iniJ2, ⟨nmhJ2.1, nmhJ2.2, by decide +kernel⟩, by decide⟩, aw_me (dkT_at _ _ tbK_9 2 _ rfl) rfl⟩
set_option maxRecDepth 100000 in
theorem fJ2_charAt_3b067 : MFs mJ2_charAt_3b067 2 := ⟨⟨aw_me (tin_2 (List.mem_of_getElem? (i := 200) rfl)) rfl, iniJ2, ⟨nmhJ2.1, nmhJ2.2, by decide +kernel⟩, by decide⟩, aw_me (dkT_at _ _ tbK_8 27 _ rfl) rfl⟩
set_option maxRecDepth 100000 in
theorem fJ0_charAt_5068e : MFv mJ0_charAt_5068e 1 := ⟨⟨aw_me (tin_2 (List.mem_of_getElem? (i := 182) rfl)) rfl, iniJ0, ⟨nmhJ0.1, nmhJ0.2, by decide +kernel⟩, by decide⟩, aw_me (dkT_at _ _ tbK_8 15 _ rfl) rfl, aw_me (dkT_at _ _ tbK_8 16 _ rfl) rfl⟩
set_option maxRecDepth 100000 in
theorem fX3_isText : MFv mX3_isText 1 := ⟨⟨aw_me (tin_2 (List.mem_of_getElem? (i := 168) rfl)) rfl, iniX3, ⟨nmhX3.1, nmhX3.2, by decide +kernel⟩, by decide⟩, aw_me (dkT_at _ _ tbK_8 7 _ rfl) rfl, aw_me (dkT_at _ _ tbK_0 13 _ rfl) rfl⟩
set_option maxRecDepth 100000 in
theorem fX3_readRule : MFv mX3_readRule 0 := ⟨⟨aw_me (tin_2 (List.mem_of_getElem? (i := 150) rfl)) rfl, iniX3, ⟨nmhX3.1, nmhX3.2, by decide +kernel⟩, by decide⟩, aw_me (dkT_at _ _ tbK_8 3 _ rfl) rfl, aw_me (dkT_at _ _ tbK_0 12 _ rfl) rfl⟩
set_option maxRecDepth 100000 in
theorem fX3_isFigure : MFv mX3_isFigure 1 := ⟨⟨aw_me (tin_2 (List.mem_of_getElem? (i := 220) rfl)) rfl, iniX3, ⟨nmhX3.1, nmhX3.2, by decide +kernel⟩, by decide⟩, aw_me (dkT_at _ _ tbK_9 4 _ rfl) rfl, aw_me (dkT_at _ _ tbK_0 14 _ rfl) rfl⟩
set_option maxRecDepth 100000 in
theorem fX3_readNumber : MFv mX3_readNumber 0 := ⟨⟨aw_me (tin_2 (List.mem_of_getElem? (i := 224) rfl)) rfl, iniX3, ⟨nmhX3.1, nmhX3.2, by decide +kernel⟩, by decide⟩, aw_me (dkT_at _ _ tbK_9 6 _ rfl) rfl, aw_me (dkT_at _ _ tbK_0 15 _ rfl) rfl⟩
set_option maxRecDepth 100000 in
theorem fX3_readToken : MFv mX3_readToken 0 := ⟨⟨aw_me (tin_2 (List.mem_of_getElem? (i := 141) rfl)) rfl, iniX3, ⟨nmhX3.1, nmhX3.2, by decide +kernel⟩, by decide⟩, aw_me (dkT_at _ _ tbK_7 30 _ rfl) rfl, aw_me (dkT_at _ _ tbK_0 10 _ rfl) rfl⟩
set_option maxRecDepth 100000 in
theorem fX3_stands : MFv mX3_stands 1 := ⟨⟨aw_me (tin_2 (List.mem_of_getElem? (i := 232) rfl)) rfl, iniX3, ⟨nmhX3.1, nmhX3.2, by decide +kernel⟩, by decide⟩, aw_me (dkT_at _ _ tbK_9 10 _ rfl) rfl, aw_me (dkT_at _ _ tbK_0 17 _ rfl) rfl⟩
set_option maxRecDepth 100000 in
theorem fX3_readLine : MFv mX3_readLine 1 := ⟨⟨aw_me (tin_2 (List.mem_of_getElem? (i := 228) rfl)) rfl, iniX3, ⟨nmhX3.1, nmhX3.2, by decide +kernel⟩, by decide⟩, aw_me (dkT_at _ _ tbK_9 8 _ rfl) rfl, aw_me (dkT_at _ _ tbK_0 16 _ rfl) rfl⟩
set_option maxRecDepth 100000 in
theorem fX3_readLines : MFv mX3_readLines 1 := ⟨⟨aw_me (tin_2 (List.mem_of_getElem? (i := 137) rfl)) rfl, iniX3, ⟨nmhX3.1, nmhX3.2, by decide +kernel⟩, by decide⟩, aw_me (dkT_at _ _ tbK_7 27 _ rfl) rfl, aw_me (dkT_at _ _ tbK_7 28 _ rfl) rfl⟩
set_option maxRecDepth 100000 in
theorem fX4_enter : MFv mX4_enter 5 := ⟨⟨aw_me (tin_2 (List.mem_of_getElem? (i := 54) rfl)) rfl, iniX4, ⟨nmhX4.1, nmhX4.2, by decide +kernel⟩, by decide⟩, aw_me (dkT_at _ _ tbK_6 4 _ rfl) rfl, aw_me (dkT_at _ _ tbK_6 5 _ rfl) rfl⟩
set_option maxRecDepth 100000 in
theorem fX5_isNewDeal : MFv mX5_isNewDeal 1 := ⟨⟨aw_me (tin_3 (List.mem_of_getElem? (i := 102) rfl)) rfl, iniX5, ⟨nmhX5.1, nmhX5.2, by decide +kernel⟩, by decide⟩, aw_me (dkT_at _ _ tbK_11 13 _ rfl) rfl, aw_me (dkT_at _ _ tbK_0 28 _ rfl) rfl⟩
set_option maxRecDepth 100000 in
theorem fX5_enter : MFv mX5_enter 5 := ⟨⟨aw_me (tin_3 (List.mem_of_getElem? (i := 98) rfl)) rfl, iniX5, ⟨nmhX5.1, nmhX5.2, by decide +kernel⟩, by decide⟩, aw_me (dkT_at _ _ tbK_11 10 _ rfl) rfl, aw_me (dkT_at _ _ tbK_11 11 _ rfl) rfl⟩
set_option maxRecDepth 100000 in
theorem fX5_countingOf : MFv mX5_countingOf 2 := ⟨⟨aw_me (tin_3 (List.mem_of_getElem? (i := 118) rfl)) rfl, iniX5, ⟨nmhX5.1, nmhX5.2, by decide +kernel⟩, by decide⟩, aw_me (dkT_at _ _ tbK_11 23 _ rfl) rfl, aw_me (dkT_at _ _ tbK_11 24 _ rfl) rfl⟩
set_option maxRecDepth 100000 in
theorem fX5_doesCount : MFv mX5_doesCount 1 := ⟨⟨aw_me (tin_3 (List.mem_of_getElem? (i := 114) rfl)) rfl, iniX5, ⟨nmhX5.1, nmhX5.2, by decide +kernel⟩, by decide⟩, aw_me (dkT_at _ _ tbK_11 20 _ rfl) rfl, aw_me (dkT_at _ _ tbK_11 21 _ rfl) rfl⟩
set_option maxRecDepth 100000 in
theorem fX6_oneIf : MFs mX6_oneIf 1 := ⟨⟨aw_me (tin_2 (List.mem_of_getElem? (i := 34) rfl)) rfl, iniX6, ⟨nmhX6.1, nmhX6.2, by decide +kernel⟩, by decide⟩, aw_me (dkT_at _ _ tbK_5 24 _ rfl) rfl⟩
set_option maxRecDepth 100000 in
theorem fX5_countingOnes : MFv mX5_countingOnes 0 := ⟨⟨aw_me (tin_4 (List.mem_of_getElem? (i := 38) rfl)) rfl, iniX5, ⟨nmhX5.1, nmhX5.2, by decide +kernel⟩, by decide⟩, aw_me (dkT_at _ _ tbK_15 4 _ rfl) rfl, aw_me (dkT_at _ _ tbK_15 5 _ rfl) rfl⟩
set_option maxRecDepth 100000 in
theorem fX6_name : MFv mX6_name 1 := ⟨⟨aw_me (tin_2 (List.mem_of_getElem? (i := 16) rfl)) rfl, iniX6, ⟨nmhX6.1, nmhX6.2, by decide +kernel⟩, by decide⟩, aw_me (dkT_at _ _ tbK_5 11 _ rfl) rfl, aw_me (dkT_at _ _ tbK_5 12 _ rfl) rfl⟩
set_option maxRecDepth 100000 in
theorem fX6_isName : MFv mX6_isName 1 := ⟨⟨aw_me (tin_2 (List.mem_of_getElem? (i := 31) rfl)) rfl, iniX6, ⟨nmhX6.1, nmhX6.2, by decide +kernel⟩, by decide⟩, aw_me (dkT_at _ _ tbK_5 22 _ rfl) rfl, aw_me (dkT_at _ _ tbK_0 0 _ rfl) rfl⟩
set_option maxRecDepth 100000 in
theorem fX6_seed : MFv mX6_seed 2 := ⟨⟨aw_me (tin_2 (List.mem_of_getElem? (i := 27) rfl)) rfl, iniX6, ⟨nmhX6.1, nmhX6.2, by decide +kernel⟩, by decide⟩, aw_me (dkT_at _ _ tbK_5 19 _ rfl) rfl, aw_me (dkT_at _ _ tbK_5 20 _ rfl) rfl⟩
set_option maxRecDepth 100000 in
theorem fX6_pledgeRoom : MFv mX6_pledgeRoom 1 := ⟨⟨aw_me (tin_2 (List.mem_of_getElem? (i := 42) rfl)) rfl, iniX6, ⟨nmhX6.1, nmhX6.2, by decide +kernel⟩, by decide⟩, aw_me (dkT_at _ _ tbK_5 29 _ rfl) rfl, aw_me (dkT_at _ _ tbK_0 1 _ rfl) rfl⟩
set_option maxRecDepth 100000 in
theorem fX6_pledge : MFv mX6_pledge 2 := ⟨⟨aw_me (tin_2 (List.mem_of_getElem? (i := 38) rfl)) rfl, iniX6, ⟨nmhX6.1, nmhX6.2, by decide +kernel⟩, by decide⟩, aw_me (dkT_at _ _ tbK_5 26 _ rfl) rfl, aw_me (dkT_at _ _ tbK_5 27 _ rfl) rfl⟩
set_option maxRecDepth 100000 in
theorem fX6_arePair : MFv mX6_arePair 2 := ⟨⟨aw_me (tin_2 (List.mem_of_getElem? (i := 50) rfl)) rfl, iniX6, ⟨nmhX6.1, nmhX6.2, by decide +kernel⟩, by decide⟩, aw_me (dkT_at _ _ tbK_6 2 _ rfl) rfl, aw_me (dkT_at _ _ tbK_0 2 _ rfl) rfl⟩
set_option maxRecDepth 100000 in
theorem fX6_tie : MFv mX6_tie 4 := ⟨⟨aw_me (tin_2 (List.mem_of_getElem? (i := 46) rfl)) rfl, iniX6, ⟨nmhX6.1, nmhX6.2, by decide +kernel⟩, by decide⟩, aw_me (dkT_at _ _ tbK_5 31 _ rfl) rfl, aw_me (dkT_at _ _ tbK_6 0 _ rfl) rfl⟩
set_option maxRecDepth 100000 in
theorem fX6_isTie : MFv mX6_isTie 1 := ⟨⟨aw_me (tin_2 (List.mem_of_getElem? (i := 62) rfl)) rfl, iniX6, ⟨nmhX6.1, nmhX6.2, by decide +kernel⟩, by decide⟩, aw_me (dkT_at _ _ tbK_6 10 _ rfl) rfl, aw_me (dkT_at _ _ tbK_0 3 _ rfl) rfl⟩
set_option maxRecDepth 100000 in
theorem fX6_hasMadeEnd : MFv mX6_hasMadeEnd 1 := ⟨⟨aw_me (tin_2 (List.mem_of_getElem? (i := 70) rfl)) rfl, iniX6, ⟨nmhX6.1, nmhX6.2, by decide +kernel⟩, by decide⟩, aw_me (dkT_at _ _ tbK_6 14 _ rfl) rfl, aw_me (dkT_at _ _ tbK_0 5 _ rfl) rfl⟩
set_option maxRecDepth 100000 in
theorem fX6_faded : MFs mX6_faded 3 := ⟨⟨aw_me (tin_2 (List.mem_of_getElem? (i := 73) rfl)) rfl, iniX6, ⟨nmhX6.1, nmhX6.2, by decide +kernel⟩, by decide⟩, aw_me (dkT_at _ _ tbK_6 16 _ rfl) rfl⟩
set_option maxRecDepth 100000 in
theorem fX6_isFined : MFv mX6_isFined 1 := ⟨⟨aw_me (tin_2 (List.mem_of_getElem? (i := 80) rfl)) rfl, iniX6, ⟨nmhX6.1, nmhX6.2, by decide +kernel⟩, by decide⟩, aw_me (dkT_at _ _ tbK_6 20 _ rfl) rfl, aw_me (dkT_at _ _ tbK_0 6 _ rfl) rfl⟩
set_option maxRecDepth 100000 in
theorem fX6_roomOf : MFv mX6_roomOf 1 := ⟨⟨aw_me (tin_2 (List.mem_of_getElem? (i := 66) rfl)) rfl, iniX6, ⟨nmhX6.1, nmhX6.2, by decide +kernel⟩, by decide⟩, aw_me (dkT_at _ _ tbK_6 12 _ rfl) rfl, aw_me (dkT_at _ _ tbK_0 4 _ rfl) rfl⟩
set_option maxRecDepth 100000 in
theorem fX6_tieOf : MFv mX6_tieOf 2 := ⟨⟨aw_me (tin_2 (List.mem_of_getElem? (i := 58) rfl)) rfl, iniX6, ⟨nmhX6.1, nmhX6.2, by decide +kernel⟩, by decide⟩, aw_me (dkT_at _ _ tbK_6 7 _ rfl) rfl, aw_me (dkT_at _ _ tbK_6 8 _ rfl) rfl⟩
set_option maxRecDepth 100000 in
theorem fX6_renew : MFv mX6_renew 1 := ⟨⟨aw_me (tin_2 (List.mem_of_getElem? (i := 84) rfl)) rfl, iniX6, ⟨nmhX6.1, nmhX6.2, by decide +kernel⟩, by decide⟩, aw_me (dkT_at _ _ tbK_6 22 _ rfl) rfl, aw_me (dkT_at _ _ tbK_6 23 _ rfl) rfl⟩
set_option maxRecDepth 100000 in
theorem fX6_givenTo : MFv mX6_givenTo 1 := ⟨⟨aw_me (tin_2 (List.mem_of_getElem? (i := 92) rfl)) rfl, iniX6, ⟨nmhX6.1, nmhX6.2, by decide +kernel⟩, by decide⟩, aw_me (dkT_at _ _ tbK_6 28 _ rfl) rfl, aw_me (dkT_at _ _ tbK_0 7 _ rfl) rfl⟩
set_option maxRecDepth 100000 in
theorem fX6_openTies : MFv mX6_openTies 1 := ⟨⟨aw_me (tin_2 (List.mem_of_getElem? (i := 96) rfl)) rfl, iniX6, ⟨nmhX6.1, nmhX6.2, by decide +kernel⟩, by decide⟩, aw_me (dkT_at _ _ tbK_6 30 _ rfl) rfl, aw_me (dkT_at _ _ tbK_0 8 _ rfl) rfl⟩
set_option maxRecDepth 100000 in
theorem fX6_of : MFv mX6_of 2 := ⟨⟨aw_me (tin_2 (List.mem_of_getElem? (i := 88) rfl)) rfl, iniX6, ⟨nmhX6.1, nmhX6.2, by decide +kernel⟩, by decide⟩, aw_me (dkT_at _ _ tbK_6 25 _ rfl) rfl, aw_me (dkT_at _ _ tbK_6 26 _ rfl) rfl⟩
set_option maxRecDepth 100000 in
theorem fX6_standingFor : MFv mX6_standingFor 1 := ⟨⟨aw_me (tin_2 (List.mem_of_getElem? (i := 107) rfl)) rfl, iniX6, ⟨nmhX6.1, nmhX6.2, by decide +kernel⟩, by decide⟩, aw_me (dkT_at _ _ tbK_7 5 _ rfl) rfl, aw_me (dkT_at _ _ tbK_0 9 _ rfl) rfl⟩
set_option maxRecDepth 100000 in
theorem fJ6_bitCount_0f7a4 : MFs mJ6_bitCount_0f7a4 1 := ⟨⟨aw_me (tin_2 (List.mem_of_getElem? (i := 110) rfl)) rfl, iniJ6, ⟨nmhJ6.1, nmhJ6.2, by decide +kernel⟩, by decide⟩, aw_me (dkT_at _ _ tbK_7 7 _ rfl) rfl⟩
set_option maxRecDepth 100000 in
theorem fX6_made : MFv mX6_made 1 := ⟨⟨aw_me (tin_2 (List.mem_of_getElem? (i := 103) rfl)) rfl, iniX6, ⟨nmhX6.1, nmhX6.2, by decide +kernel⟩, by decide⟩, aw_me (dkT_at _ _ tbK_7 2 _ rfl) rfl, aw_me (dkT_at _ _ tbK_7 3 _ rfl) rfl⟩
set_option maxRecDepth 100000 in
theorem fX6_day : MFv mX6_day 1 := ⟨⟨aw_me (tin_2 (List.mem_of_getElem? (i := 117) rfl)) rfl, iniX6, ⟨nmhX6.1, nmhX6.2, by decide +kernel⟩, by decide⟩, aw_me (dkT_at _ _ tbK_7 12 _ rfl) rfl, aw_me (dkT_at _ _ tbK_7 13 _ rfl) rfl⟩
set_option maxRecDepth 100000 in
theorem fX6_feed : MFv mX6_feed 1 := ⟨⟨aw_me (tin_2 (List.mem_of_getElem? (i := 121) rfl)) rfl, iniX6, ⟨nmhX6.1, nmhX6.2, by decide +kernel⟩, by decide⟩, aw_me (dkT_at _ _ tbK_7 15 _ rfl) rfl, aw_me (dkT_at _ _ tbK_7 16 _ rfl) rfl⟩
set_option maxRecDepth 100000 in
theorem fX6_end : MFv mX6_end 1 := ⟨⟨aw_me (tin_2 (List.mem_of_getElem? (i := 129) rfl)) rfl, iniX6, ⟨nmhX6.1, nmhX6.2, by decide +kernel⟩, by decide⟩, aw_me (dkT_at _ _ tbK_7 21 _ rfl) rfl, aw_me (dkT_at _ _ tbK_7 22 _ rfl) rfl⟩
set_option maxRecDepth 100000 in
theorem fX6_rules : MFv mX6_rules 0 := ⟨⟨aw_me (tin_2 (List.mem_of_getElem? (i := 133) rfl)) rfl, iniX6, ⟨nmhX6.1, nmhX6.2, by decide +kernel⟩, by decide⟩, aw_me (dkT_at _ _ tbK_7 24 _ rfl) rfl, aw_me (dkT_at _ _ tbK_7 25 _ rfl) rfl⟩
set_option maxRecDepth 100000 in
theorem fX6_fault : MFv mX6_fault 0 := ⟨⟨aw_me (tin_3 (List.mem_of_getElem? (i := 2) rfl)) rfl, iniX6, ⟨nmhX6.1, nmhX6.2, by decide +kernel⟩, by decide⟩, aw_me (dkT_at _ _ tbK_9 13 _ rfl) rfl, aw_me (dkT_at _ _ tbK_9 14 _ rfl) rfl⟩
set_option maxRecDepth 100000 in
theorem fX6_rule : MFv mX6_rule 1 := ⟨⟨aw_me (tin_3 (List.mem_of_getElem? (i := 6) rfl)) rfl, iniX6, ⟨nmhX6.1, nmhX6.2, by decide +kernel⟩, by decide⟩, aw_me (dkT_at _ _ tbK_9 16 _ rfl) rfl, aw_me (dkT_at _ _ tbK_9 17 _ rfl) rfl⟩
set_option maxRecDepth 100000 in
theorem fX6_layFlow : MFv mX6_layFlow 0 := ⟨⟨aw_me (tin_3 (List.mem_of_getElem? (i := 14) rfl)) rfl, iniX6, ⟨nmhX6.1, nmhX6.2, by decide +kernel⟩, by decide⟩, aw_me (dkT_at _ _ tbK_9 22 _ rfl) rfl, aw_me (dkT_at _ _ tbK_0 18 _ rfl) rfl⟩
set_option maxRecDepth 100000 in
theorem fX6_trust : MFv mX6_trust 1 := ⟨⟨aw_me (tin_3 (List.mem_of_getElem? (i := 10) rfl)) rfl, iniX6, ⟨nmhX6.1, nmhX6.2, by decide +kernel⟩, by decide⟩, aw_me (dkT_at _ _ tbK_9 19 _ rfl) rfl, aw_me (dkT_at _ _ tbK_9 20 _ rfl) rfl⟩
set_option maxRecDepth 100000 in
theorem fX6_isHeap : MFv mX6_isHeap 1 := ⟨⟨aw_me (tin_3 (List.mem_of_getElem? (i := 58) rfl)) rfl, iniX6, ⟨nmhX6.1, nmhX6.2, by decide +kernel⟩, by decide⟩, aw_me (dkT_at _ _ tbK_10 18 _ rfl) rfl, aw_me (dkT_at _ _ tbK_0 22 _ rfl) rfl⟩
set_option maxRecDepth 100000 in
theorem fX6_heap : MFv mX6_heap 1 := ⟨⟨aw_me (tin_3 (List.mem_of_getElem? (i := 54) rfl)) rfl, iniX6, ⟨nmhX6.1, nmhX6.2, by decide +kernel⟩, by decide⟩, aw_me (dkT_at _ _ tbK_10 15 _ rfl) rfl, aw_me (dkT_at _ _ tbK_10 16 _ rfl) rfl⟩
set_option maxRecDepth 100000 in
theorem fX6_tiesOutOf : MFv mX6_tiesOutOf 1 := ⟨⟨aw_me (tin_3 (List.mem_of_getElem? (i := 66) rfl)) rfl, iniX6, ⟨nmhX6.1, nmhX6.2, by decide +kernel⟩, by decide⟩, aw_me (dkT_at _ _ tbK_10 23 _ rfl) rfl, aw_me (dkT_at _ _ tbK_0 23 _ rfl) rfl⟩
set_option maxRecDepth 100000 in
theorem fX6_givenBeyond : MFv mX6_givenBeyond 1 := ⟨⟨aw_me (tin_3 (List.mem_of_getElem? (i := 70) rfl)) rfl, iniX6, ⟨nmhX6.1, nmhX6.2, by decide +kernel⟩, by decide⟩, aw_me (dkT_at _ _ tbK_10 25 _ rfl) rfl, aw_me (dkT_at _ _ tbK_0 24 _ rfl) rfl⟩
set_option maxRecDepth 100000 in
theorem fX6_cut : MFv mX6_cut 2 := ⟨⟨aw_me (tin_3 (List.mem_of_getElem? (i := 62) rfl)) rfl, iniX6, ⟨nmhX6.1, nmhX6.2, by decide +kernel⟩, by decide⟩, aw_me (dkT_at _ _ tbK_10 20 _ rfl) rfl, aw_me (dkT_at _ _ tbK_10 21 _ rfl) rfl⟩
set_option maxRecDepth 100000 in
theorem fX6_isPlain : MFv mX6_isPlain 1 := ⟨⟨aw_me (tin_3 (List.mem_of_getElem? (i := 78) rfl)) rfl, iniX6, ⟨nmhX6.1, nmhX6.2, by decide +kernel⟩, by decide⟩, aw_me (dkT_at _ _ tbK_10 30 _ rfl) rfl, aw_me (dkT_at _ _ tbK_0 25 _ rfl) rfl⟩
set_option maxRecDepth 100000 in
theorem fX6_low : MFv mX6_low 1 := ⟨⟨aw_me (tin_3 (List.mem_of_getElem? (i := 74) rfl)) rfl, iniX6, ⟨nmhX6.1, nmhX6.2, by decide +kernel⟩, by decide⟩, aw_me (dkT_at _ _ tbK_10 27 _ rfl) rfl, aw_me (dkT_at _ _ tbK_10 28 _ rfl) rfl⟩
set_option maxRecDepth 100000 in
theorem fX6_fillTrusts : MFv mX6_fillTrusts 0 := ⟨⟨aw_me (tin_3 (List.mem_of_getElem? (i := 86) rfl)) rfl, iniX6, ⟨nmhX6.1, nmhX6.2, by decide +kernel⟩, by decide⟩, aw_me (dkT_at _ _ tbK_11 3 _ rfl) rfl, aw_me (dkT_at _ _ tbK_0 26 _ rfl) rfl⟩
set_option maxRecDepth 100000 in
theorem fX6_twins : MFv mX6_twins 1 := ⟨⟨aw_me (tin_3 (List.mem_of_getElem? (i := 82) rfl)) rfl, iniX6, ⟨nmhX6.1, nmhX6.2, by decide +kernel⟩, by decide⟩, aw_me (dkT_at _ _ tbK_11 0 _ rfl) rfl, aw_me (dkT_at _ _ tbK_11 1 _ rfl) rfl⟩
set_option maxRecDepth 100000 in
theorem fX6_refusalOf : MFv mX6_refusalOf 5 := ⟨⟨aw_me (tin_3 (List.mem_of_getElem? (i := 94) rfl)) rfl, iniX6, ⟨nmhX6.1, nmhX6.2, by decide +kernel⟩, by decide⟩, aw_me (dkT_at _ _ tbK_11 8 _ rfl) rfl, aw_me (dkT_at _ _ tbK_0 27 _ rfl) rfl⟩
set_option maxRecDepth 100000 in
theorem fX6_word : MFv mX6_word 4 := ⟨⟨aw_me (tin_3 (List.mem_of_getElem? (i := 90) rfl)) rfl, iniX6, ⟨nmhX6.1, nmhX6.2, by decide +kernel⟩, by decide⟩, aw_me (dkT_at _ _ tbK_11 5 _ rfl) rfl, aw_me (dkT_at _ _ tbK_11 6 _ rfl) rfl⟩
set_option maxRecDepth 100000 in
theorem fX6_isWord : MFv mX6_isWord 1 := ⟨⟨aw_me (tin_3 (List.mem_of_getElem? (i := 110) rfl)) rfl, iniX6, ⟨nmhX6.1, nmhX6.2, by decide +kernel⟩, by decide⟩, aw_me (dkT_at _ _ tbK_11 18 _ rfl) rfl, aw_me (dkT_at _ _ tbK_0 29 _ rfl) rfl⟩
set_option maxRecDepth 100000 in
theorem fX6_wordOf : MFv mX6_wordOf 2 := ⟨⟨aw_me (tin_3 (List.mem_of_getElem? (i := 106) rfl)) rfl, iniX6, ⟨nmhX6.1, nmhX6.2, by decide +kernel⟩, by decide⟩, aw_me (dkT_at _ _ tbK_11 15 _ rfl) rfl, aw_me (dkT_at _ _ tbK_11 16 _ rfl) rfl⟩
set_option maxRecDepth 100000 in
theorem fX6_sayersOf : MFv mX6_sayersOf 1 := ⟨⟨aw_me (tin_3 (List.mem_of_getElem? (i := 126) rfl)) rfl, iniX6, ⟨nmhX6.1, nmhX6.2, by decide +kernel⟩, by decide⟩, aw_me (dkT_at _ _ tbK_11 29 _ rfl) rfl, aw_me (dkT_at _ _ tbK_0 30 _ rfl) rfl⟩
set_option maxRecDepth 100000 in
theorem fX6_weighSayers : MFv mX6_weighSayers 1 := ⟨⟨aw_me (tin_3 (List.mem_of_getElem? (i := 130) rfl)) rfl, iniX6, ⟨nmhX6.1, nmhX6.2, by decide +kernel⟩, by decide⟩, aw_me (dkT_at _ _ tbK_11 31 _ rfl) rfl, aw_me (dkT_at _ _ tbK_0 31 _ rfl) rfl⟩
set_option maxRecDepth 100000 in
theorem fX6_weight : MFv mX6_weight 2 := ⟨⟨aw_me (tin_3 (List.mem_of_getElem? (i := 122) rfl)) rfl, iniX6, ⟨nmhX6.1, nmhX6.2, by decide +kernel⟩, by decide⟩, aw_me (dkT_at _ _ tbK_11 26 _ rfl) rfl, aw_me (dkT_at _ _ tbK_11 27 _ rfl) rfl⟩
set_option maxRecDepth 100000 in
theorem fX6_sayers : MFv mX6_sayers 1 := ⟨⟨aw_me (tin_3 (List.mem_of_getElem? (i := 135) rfl)) rfl, iniX6, ⟨nmhX6.1, nmhX6.2, by decide +kernel⟩, by decide⟩, aw_me (dkT_at _ _ tbK_12 2 _ rfl) rfl, aw_me (dkT_at _ _ tbK_12 3 _ rfl) rfl⟩
set_option maxRecDepth 100000 in
theorem fX6_summedMarks : MFv mX6_summedMarks 0 := ⟨⟨aw_me (tin_3 (List.mem_of_getElem? (i := 143) rfl)) rfl, iniX6, ⟨nmhX6.1, nmhX6.2, by decide +kernel⟩, by decide⟩, aw_me (dkT_at _ _ tbK_12 8 _ rfl) rfl, aw_me (dkT_at _ _ tbK_1 0 _ rfl) rfl⟩
set_option maxRecDepth 100000 in
theorem fX6_commonPart : MFs mX6_commonPart 2 := ⟨⟨aw_me (tin_3 (List.mem_of_getElem? (i := 149) rfl)) rfl, iniX6, ⟨nmhX6.1, nmhX6.2, by decide +kernel⟩, by decide⟩, aw_me (dkT_at _ _ tbK_12 12 _ rfl) rfl⟩
set_option maxRecDepth 100000 in
theorem fX6_inLowest : MFs mX6_inLowest 3 := ⟨⟨aw_me (tin_3 (List.mem_of_getElem? (i := 146) rfl)) rfl, iniX6, ⟨nmhX6.1, nmhX6.2, by decide +kernel⟩, by decide⟩, aw_me (dkT_at _ _ tbK_12 10 _ rfl) rfl⟩
set_option maxRecDepth 100000 in
theorem fX6_mark : MFv mX6_mark 2 := ⟨⟨aw_me (tin_3 (List.mem_of_getElem? (i := 139) rfl)) rfl, iniX6, ⟨nmhX6.1, nmhX6.2, by decide +kernel⟩, by decide⟩, aw_me (dkT_at _ _ tbK_12 5 _ rfl) rfl, aw_me (dkT_at _ _ tbK_12 6 _ rfl) rfl⟩
set_option maxRecDepth 100000 in
theorem fX6_greatestStakes : MFv mX6_greatestStakes 2 := ⟨⟨aw_me (tin_3 (List.mem_of_getElem? (i := 160) rfl)) rfl, iniX6, ⟨nmhX6.1, nmhX6.2, by decide +kernel⟩, by decide⟩, aw_me (dkT_at _ _ tbK_12 19 _ rfl) rfl, aw_me (dkT_at _ _ tbK_1 1 _ rfl) rfl⟩
set_option maxRecDepth 100000 in
theorem fX6_span : MFv mX6_span 3 := ⟨⟨aw_me (tin_3 (List.mem_of_getElem? (i := 156) rfl)) rfl, iniX6, ⟨nmhX6.1, nmhX6.2, by decide +kernel⟩, by decide⟩, aw_me (dkT_at _ _ tbK_12 16 _ rfl) rfl, aw_me (dkT_at _ _ tbK_12 17 _ rfl) rfl⟩
set_option maxRecDepth 100000 in
theorem fX6_wordsWithin : MFv mX6_wordsWithin 2 := ⟨⟨aw_me (tin_3 (List.mem_of_getElem? (i := 168) rfl)) rfl, iniX6, ⟨nmhX6.1, nmhX6.2, by decide +kernel⟩, by decide⟩, aw_me (dkT_at _ _ tbK_12 24 _ rfl) rfl, aw_me (dkT_at _ _ tbK_1 2 _ rfl) rfl⟩
set_option maxRecDepth 100000 in
theorem fX6_ring : MFv mX6_ring 2 := ⟨⟨aw_me (tin_3 (List.mem_of_getElem? (i := 164) rfl)) rfl, iniX6, ⟨nmhX6.1, nmhX6.2, by decide +kernel⟩, by decide⟩, aw_me (dkT_at _ _ tbK_12 21 _ rfl) rfl, aw_me (dkT_at _ _ tbK_12 22 _ rfl) rfl⟩
set_option maxRecDepth 100000 in
theorem fX6_choose : MFs mX6_choose 2 := ⟨⟨aw_me (tin_3 (List.mem_of_getElem? (i := 180) rfl)) rfl, iniX6, ⟨nmhX6.1, nmhX6.2, by decide +kernel⟩, by decide⟩, aw_me (dkT_at _ _ tbK_13 0 _ rfl) rfl⟩
set_option maxRecDepth 100000 in
theorem fX6_waysOf : MFv mX6_waysOf 2 := ⟨⟨aw_me (tin_3 (List.mem_of_getElem? (i := 177) rfl)) rfl, iniX6, ⟨nmhX6.1, nmhX6.2, by decide +kernel⟩, by decide⟩, aw_me (dkT_at _ _ tbK_12 30 _ rfl) rfl, aw_me (dkT_at _ _ tbK_1 3 _ rfl) rfl⟩
set_option maxRecDepth 100000 in
theorem fX6_odds : MFv mX6_odds 2 := ⟨⟨aw_me (tin_3 (List.mem_of_getElem? (i := 172) rfl)) rfl, iniX6, ⟨nmhX6.1, nmhX6.2, by decide +kernel⟩, by decide⟩, aw_me (dkT_at _ _ tbK_12 26 _ rfl) rfl, aw_me (dkT_at _ _ tbK_12 27 _ rfl) rfl⟩
set_option maxRecDepth 100000 in
theorem fX6_oddest : MFv mX6_oddest 1 := ⟨⟨aw_me (tin_3 (List.mem_of_getElem? (i := 184) rfl)) rfl, iniX6, ⟨nmhX6.1, nmhX6.2, by decide +kernel⟩, by decide⟩, aw_me (dkT_at _ _ tbK_13 2 _ rfl) rfl, aw_me (dkT_at _ _ tbK_13 3 _ rfl) rfl⟩
set_option maxRecDepth 100000 in
theorem fX6_isOffer : MFs mX6_isOffer 2 := ⟨⟨aw_me (tin_3 (List.mem_of_getElem? (i := 192) rfl)) rfl, iniX6, ⟨nmhX6.1, nmhX6.2, by decide +kernel⟩, by decide⟩, aw_me (dkT_at _ _ tbK_13 9 _ rfl) rfl⟩
set_option maxRecDepth 100000 in
theorem fX6_sellingNames : MFv mX6_sellingNames 0 := ⟨⟨aw_me (tin_3 (List.mem_of_getElem? (i := 196) rfl)) rfl, iniX6, ⟨nmhX6.1, nmhX6.2, by decide +kernel⟩, by decide⟩, aw_me (dkT_at _ _ tbK_13 11 _ rfl) rfl, aw_me (dkT_at _ _ tbK_1 4 _ rfl) rfl⟩
set_option maxRecDepth 100000 in
theorem fX6_boughtRoom : MFv mX6_boughtRoom 1 := ⟨⟨aw_me (tin_3 (List.mem_of_getElem? (i := 201) rfl)) rfl, iniX6, ⟨nmhX6.1, nmhX6.2, by decide +kernel⟩, by decide⟩, aw_me (dkT_at _ _ tbK_13 14 _ rfl) rfl, aw_me (dkT_at _ _ tbK_1 5 _ rfl) rfl⟩
set_option maxRecDepth 100000 in
theorem fX6_gainBy : MFv mX6_gainBy 3 := ⟨⟨aw_me (tin_3 (List.mem_of_getElem? (i := 205) rfl)) rfl, iniX6, ⟨nmhX6.1, nmhX6.2, by decide +kernel⟩, by decide⟩, aw_me (dkT_at _ _ tbK_13 16 _ rfl) rfl, aw_me (dkT_at _ _ tbK_1 6 _ rfl) rfl⟩
set_option maxRecDepth 100000 in
theorem fX6_gain : MFv mX6_gain 3 := ⟨⟨aw_me (tin_3 (List.mem_of_getElem? (i := 189) rfl)) rfl, iniX6, ⟨nmhX6.1, nmhX6.2, by decide +kernel⟩, by decide⟩, aw_me (dkT_at _ _ tbK_13 6 _ rfl) rfl, aw_me (dkT_at _ _ tbK_13 7 _ rfl) rfl⟩
set_option maxRecDepth 100000 in
theorem fX6_best : MFv mX6_best 3 := ⟨⟨aw_me (tin_3 (List.mem_of_getElem? (i := 213) rfl)) rfl, iniX6, ⟨nmhX6.1, nmhX6.2, by decide +kernel⟩, by decide⟩, aw_me (dkT_at _ _ tbK_13 21 _ rfl) rfl, aw_me (dkT_at _ _ tbK_13 22 _ rfl) rfl⟩
set_option maxRecDepth 100000 in
theorem fX6_isSheet : MFs mX6_isSheet 1 := ⟨⟨aw_me (tin_3 (List.mem_of_getElem? (i := 220) rfl)) rfl, iniX6, ⟨nmhX6.1, nmhX6.2, by decide +kernel⟩, by decide⟩, aw_me (dkT_at _ _ tbK_13 27 _ rfl) rfl⟩
set_option maxRecDepth 100000 in
theorem fX6_isLane : MFs mX6_isLane 1 := ⟨⟨aw_me (tin_3 (List.mem_of_getElem? (i := 223) rfl)) rfl, iniX6, ⟨nmhX6.1, nmhX6.2, by decide +kernel⟩, by decide⟩, aw_me (dkT_at _ _ tbK_13 29 _ rfl) rfl⟩
set_option maxRecDepth 100000 in
theorem fX6_sheet : MFv mX6_sheet 3 := ⟨⟨aw_me (tin_3 (List.mem_of_getElem? (i := 217) rfl)) rfl, iniX6, ⟨nmhX6.1, nmhX6.2, by decide +kernel⟩, by decide⟩, aw_me (dkT_at _ _ tbK_13 24 _ rfl) rfl, aw_me (dkT_at _ _ tbK_13 25 _ rfl) rfl⟩
set_option maxRecDepth 100000 in
theorem fX6_lay : MFv mX6_lay 3 := ⟨⟨aw_me (tin_3 (List.mem_of_getElem? (i := 232) rfl)) rfl, iniX6, ⟨nmhX6.1, nmhX6.2, by decide +kernel⟩, by decide⟩, aw_me (dkT_at _ _ tbK_14 3 _ rfl) rfl, aw_me (dkT_at _ _ tbK_14 4 _ rfl) rfl⟩
set_option maxRecDepth 100000 in
theorem fX6_read : MFv mX6_read 4 := ⟨⟨aw_me (tin_4 (List.mem_of_getElem? (i := 9) rfl)) rfl, iniX6, ⟨nmhX6.1, nmhX6.2, by decide +kernel⟩, by decide⟩, aw_me (dkT_at _ _ tbK_14 16 _ rfl) rfl, aw_me (dkT_at _ _ tbK_14 17 _ rfl) rfl⟩
set_option maxRecDepth 100000 in
theorem fX6_lost : MFv mX6_lost 0 := ⟨⟨aw_me (tin_4 (List.mem_of_getElem? (i := 22) rfl)) rfl, iniX6, ⟨nmhX6.1, nmhX6.2, by decide +kernel⟩, by decide⟩, aw_me (dkT_at _ _ tbK_14 26 _ rfl) rfl, aw_me (dkT_at _ _ tbK_14 27 _ rfl) rfl⟩
set_option maxRecDepth 100000 in
theorem fX6_countTrue : MFv mX6_countTrue 1 := ⟨⟨aw_me (tin_4 (List.mem_of_getElem? (i := 30) rfl)) rfl, iniX6, ⟨nmhX6.1, nmhX6.2, by decide +kernel⟩, by decide⟩, aw_me (dkT_at _ _ tbK_15 0 _ rfl) rfl, aw_me (dkT_at _ _ tbK_1 7 _ rfl) rfl⟩
set_option maxRecDepth 100000 in
theorem fX6_countFined : MFv mX6_countFined 0 := ⟨⟨aw_me (tin_4 (List.mem_of_getElem? (i := 34) rfl)) rfl, iniX6, ⟨nmhX6.1, nmhX6.2, by decide +kernel⟩, by decide⟩, aw_me (dkT_at _ _ tbK_15 2 _ rfl) rfl, aw_me (dkT_at _ _ tbK_1 8 _ rfl) rfl⟩
set_option maxRecDepth 100000 in
theorem fX6_count : MFv mX6_count 1 := ⟨⟨aw_me (tin_4 (List.mem_of_getElem? (i := 26) rfl)) rfl, iniX6, ⟨nmhX6.1, nmhX6.2, by decide +kernel⟩, by decide⟩, aw_me (dkT_at _ _ tbK_14 29 _ rfl) rfl, aw_me (dkT_at _ _ tbK_14 30 _ rfl) rfl⟩
set_option maxRecDepth 100000 in
theorem fX7_firstRules : MFv mX7_firstRules 0 := ⟨⟨aw_me (tin_4 (List.mem_of_getElem? (i := 51) rfl)) rfl, iniX7, ⟨nmhX7.1, nmhX7.2, by decide +kernel⟩, by decide⟩, aw_me (dkT_at _ _ tbK_15 11 _ rfl) rfl, aw_me (dkT_at _ _ tbK_1 9 _ rfl) rfl⟩
set_option maxRecDepth 100000 in
theorem fX7_keepRules : MFv mX7_keepRules 0 := ⟨⟨aw_me (tin_4 (List.mem_of_getElem? (i := 55) rfl)) rfl, iniX7, ⟨nmhX7.1, nmhX7.2, by decide +kernel⟩, by decide⟩, aw_me (dkT_at _ _ tbK_15 13 _ rfl) rfl, aw_me (dkT_at _ _ tbK_1 10 _ rfl) rfl⟩
set_option maxRecDepth 100000 in
theorem fX7_in : MFs mX7_in 3 := ⟨⟨aw_me (tin_4 (List.mem_of_getElem? (i := 196) rfl)) rfl, iniX7, ⟨nmhX7.1, nmhX7.2, by decide +kernel⟩, by decide⟩, aw_me (dkT_at _ _ tbK_16 31 _ rfl) rfl⟩
set_option maxRecDepth 100000 in
theorem fX7_bits : MFs mX7_bits 1 := ⟨⟨aw_me (tin_5 (List.mem_of_getElem? (i := 17) rfl)) rfl, iniX7, ⟨nmhX7.1, nmhX7.2, by decide +kernel⟩, by decide⟩, aw_me (dkT_at _ _ tbK_18 7 _ rfl) rfl⟩
set_option maxRecDepth 100000 in
theorem fX7_common : MFs mX7_common 2 := ⟨⟨aw_me (tin_5 (List.mem_of_getElem? (i := 185) rfl)) rfl, iniX7, ⟨nmhX7.1, nmhX7.2, by decide +kernel⟩, by decide⟩, aw_me (dkT_at _ _ tbK_21 18 _ rfl) rfl⟩
set_option maxRecDepth 100000 in
theorem fX7_isName : MFv mX7_isName 1 := ⟨⟨aw_me (tin_4 (List.mem_of_getElem? (i := 204) rfl)) rfl, iniX7, ⟨nmhX7.1, nmhX7.2, by decide +kernel⟩, by decide⟩, aw_me (dkT_at _ _ tbK_17 4 _ rfl) rfl, aw_me (dkT_at _ _ tbK_1 11 _ rfl) rfl⟩
set_option maxRecDepth 100000 in
theorem fX7_isFined : MFv mX7_isFined 1 := ⟨⟨aw_me (tin_4 (List.mem_of_getElem? (i := 237) rfl)) rfl, iniX7, ⟨nmhX7.1, nmhX7.2, by decide +kernel⟩, by decide⟩, aw_me (dkT_at _ _ tbK_17 25 _ rfl) rfl, aw_me (dkT_at _ _ tbK_1 15 _ rfl) rfl⟩
set_option maxRecDepth 100000 in
theorem fX7_name : MFv mX7_name 1 := ⟨⟨aw_me (tin_4 (List.mem_of_getElem? (i := 192) rfl)) rfl, iniX7, ⟨nmhX7.1, nmhX7.2, by decide +kernel⟩, by decide⟩, aw_me (dkT_at _ _ tbK_16 27 _ rfl) rfl, aw_me (dkT_at _ _ tbK_16 28 _ rfl) rfl⟩
set_option maxRecDepth 100000 in
theorem fX7_seed : MFv mX7_seed 2 := ⟨⟨aw_me (tin_4 (List.mem_of_getElem? (i := 200) rfl)) rfl, iniX7, ⟨nmhX7.1, nmhX7.2, by decide +kernel⟩, by decide⟩, aw_me (dkT_at _ _ tbK_17 1 _ rfl) rfl, aw_me (dkT_at _ _ tbK_17 2 _ rfl) rfl⟩
set_option maxRecDepth 100000 in
theorem fX7_pledged : MFv mX7_pledged 1 := ⟨⟨aw_me (tin_4 (List.mem_of_getElem? (i := 212) rfl)) rfl, iniX7, ⟨nmhX7.1, nmhX7.2, by decide +kernel⟩, by decide⟩, aw_me (dkT_at _ _ tbK_17 9 _ rfl) rfl, aw_me (dkT_at _ _ tbK_1 12 _ rfl) rfl⟩
set_option maxRecDepth 100000 in
theorem fX7_pledge : MFv mX7_pledge 2 := ⟨⟨aw_me (tin_4 (List.mem_of_getElem? (i := 208) rfl)) rfl, iniX7, ⟨nmhX7.1, nmhX7.2, by decide +kernel⟩, by decide⟩, aw_me (dkT_at _ _ tbK_17 6 _ rfl) rfl, aw_me (dkT_at _ _ tbK_17 7 _ rfl) rfl⟩
set_option maxRecDepth 100000 in
theorem fX7_tie : MFv mX7_tie 4 := ⟨⟨aw_me (tin_4 (List.mem_of_getElem? (i := 216) rfl)) rfl, iniX7, ⟨nmhX7.1, nmhX7.2, by decide +kernel⟩, by decide⟩, aw_me (dkT_at _ _ tbK_17 11 _ rfl) rfl, aw_me (dkT_at _ _ tbK_17 12 _ rfl) rfl⟩
set_option maxRecDepth 100000 in
theorem fX7_faded : MFs mX7_faded 3 := ⟨⟨aw_me (tin_4 (List.mem_of_getElem? (i := 233) rfl)) rfl, iniX7, ⟨nmhX7.1, nmhX7.2, by decide +kernel⟩, by decide⟩, aw_me (dkT_at _ _ tbK_17 23 _ rfl) rfl⟩
set_option maxRecDepth 100000 in
theorem fX7_roomOf : MFv mX7_roomOf 1 := ⟨⟨aw_me (tin_4 (List.mem_of_getElem? (i := 230) rfl)) rfl, iniX7, ⟨nmhX7.1, nmhX7.2, by decide +kernel⟩, by decide⟩, aw_me (dkT_at _ _ tbK_17 21 _ rfl) rfl, aw_me (dkT_at _ _ tbK_1 14 _ rfl) rfl⟩
set_option maxRecDepth 100000 in
theorem fX7_isTie : MFv mX7_isTie 1 := ⟨⟨aw_me (tin_4 (List.mem_of_getElem? (i := 225) rfl)) rfl, iniX7, ⟨nmhX7.1, nmhX7.2, by decide +kernel⟩, by decide⟩, aw_me (dkT_at _ _ tbK_17 18 _ rfl) rfl, aw_me (dkT_at _ _ tbK_1 13 _ rfl) rfl⟩
set_option maxRecDepth 100000 in
theorem fX7_tieOf : MFv mX7_tieOf 2 := ⟨⟨aw_me (tin_4 (List.mem_of_getElem? (i := 221) rfl)) rfl, iniX7, ⟨nmhX7.1, nmhX7.2, by decide +kernel⟩, by decide⟩, aw_me (dkT_at _ _ tbK_17 15 _ rfl) rfl, aw_me (dkT_at _ _ tbK_17 16 _ rfl) rfl⟩
set_option maxRecDepth 100000 in
theorem fX7_renew : MFv mX7_renew 1 := ⟨⟨aw_me (tin_5 (List.mem_of_getElem? (i := 1) rfl)) rfl, iniX7, ⟨nmhX7.1, nmhX7.2, by decide +kernel⟩, by decide⟩, aw_me (dkT_at _ _ tbK_17 27 _ rfl) rfl, aw_me (dkT_at _ _ tbK_17 28 _ rfl) rfl⟩
set_option maxRecDepth 100000 in
theorem fX7_given : MFv mX7_given 1 := ⟨⟨aw_me (tin_5 (List.mem_of_getElem? (i := 10) rfl)) rfl, iniX7, ⟨nmhX7.1, nmhX7.2, by decide +kernel⟩, by decide⟩, aw_me (dkT_at _ _ tbK_18 2 _ rfl) rfl, aw_me (dkT_at _ _ tbK_1 16 _ rfl) rfl⟩
set_option maxRecDepth 100000 in
theorem fX7_of : MFv mX7_of 2 := ⟨⟨aw_me (tin_5 (List.mem_of_getElem? (i := 5) rfl)) rfl, iniX7, ⟨nmhX7.1, nmhX7.2, by decide +kernel⟩, by decide⟩, aw_me (dkT_at _ _ tbK_17 30 _ rfl) rfl, aw_me (dkT_at _ _ tbK_17 31 _ rfl) rfl⟩
set_option maxRecDepth 100000 in
theorem fX7_made : MFv mX7_made 1 := ⟨⟨aw_me (tin_5 (List.mem_of_getElem? (i := 14) rfl)) rfl, iniX7, ⟨nmhX7.1, nmhX7.2, by decide +kernel⟩, by decide⟩, aw_me (dkT_at _ _ tbK_18 4 _ rfl) rfl, aw_me (dkT_at _ _ tbK_18 5 _ rfl) rfl⟩
set_option maxRecDepth 100000 in
theorem fX7_day : MFv mX7_day 1 := ⟨⟨aw_me (tin_5 (List.mem_of_getElem? (i := 21) rfl)) rfl, iniX7, ⟨nmhX7.1, nmhX7.2, by decide +kernel⟩, by decide⟩, aw_me (dkT_at _ _ tbK_18 9 _ rfl) rfl, aw_me (dkT_at _ _ tbK_18 10 _ rfl) rfl⟩
set_option maxRecDepth 100000 in
theorem fX7_feed : MFv mX7_feed 1 := ⟨⟨aw_me (tin_5 (List.mem_of_getElem? (i := 26) rfl)) rfl, iniX7, ⟨nmhX7.1, nmhX7.2, by decide +kernel⟩, by decide⟩, aw_me (dkT_at _ _ tbK_18 13 _ rfl) rfl, aw_me (dkT_at _ _ tbK_18 14 _ rfl) rfl⟩
set_option maxRecDepth 100000 in
theorem fX7_end : MFv mX7_end 1 := ⟨⟨aw_me (tin_5 (List.mem_of_getElem? (i := 31) rfl)) rfl, iniX7, ⟨nmhX7.1, nmhX7.2, by decide +kernel⟩, by decide⟩, aw_me (dkT_at _ _ tbK_18 17 _ rfl) rfl, aw_me (dkT_at _ _ tbK_18 18 _ rfl) rfl⟩
set_option maxRecDepth 100000 in
theorem fX7_wants : MFv mX7_wants 2 := ⟨⟨aw_me (tin_5 (List.mem_of_getElem? (i := 57) rfl)) rfl, iniX7, ⟨nmhX7.1, nmhX7.2, by decide +kernel⟩, by decide⟩, aw_me (dkT_at _ _ tbK_19 1 _ rfl) rfl, aw_me (dkT_at _ _ tbK_1 21 _ rfl) rfl⟩
set_option maxRecDepth 100000 in
theorem fX7_look : MFv mX7_look 1 := ⟨⟨aw_me (tin_5 (List.mem_of_getElem? (i := 43) rfl)) rfl, iniX7, ⟨nmhX7.1, nmhX7.2, by decide +kernel⟩, by decide⟩, aw_me (dkT_at _ _ tbK_18 25 _ rfl) rfl, aw_me (dkT_at _ _ tbK_1 18 _ rfl) rfl⟩
set_option maxRecDepth 100000 in
theorem fX7_is : MFv mX7_is 5 := ⟨⟨aw_me (tin_5 (List.mem_of_getElem? (i := 53) rfl)) rfl, iniX7, ⟨nmhX7.1, nmhX7.2, by decide +kernel⟩, by decide⟩, aw_me (dkT_at _ _ tbK_18 31 _ rfl) rfl, aw_me (dkT_at _ _ tbK_1 20 _ rfl) rfl⟩
set_option maxRecDepth 100000 in
theorem fX7_nameNow : MFv mX7_nameNow 0 := ⟨⟨aw_me (tin_5 (List.mem_of_getElem? (i := 49) rfl)) rfl, iniX7, ⟨nmhX7.1, nmhX7.2, by decide +kernel⟩, by decide⟩, aw_me (dkT_at _ _ tbK_18 29 _ rfl) rfl, aw_me (dkT_at _ _ tbK_1 19 _ rfl) rfl⟩
set_option maxRecDepth 100000 in
theorem fX7_next : MFv mX7_next 0 := ⟨⟨aw_me (tin_5 (List.mem_of_getElem? (i := 39) rfl)) rfl, iniX7, ⟨nmhX7.1, nmhX7.2, by decide +kernel⟩, by decide⟩, aw_me (dkT_at _ _ tbK_18 23 _ rfl) rfl, aw_me (dkT_at _ _ tbK_1 17 _ rfl) rfl⟩
set_option maxRecDepth 100000 in
theorem fX7_least : MFs mX7_least 1 := ⟨⟨aw_me (tin_5 (List.mem_of_getElem? (i := 66) rfl)) rfl, iniX7, ⟨nmhX7.1, nmhX7.2, by decide +kernel⟩, by decide⟩, aw_me (dkT_at _ _ tbK_19 7 _ rfl) rfl⟩
set_option maxRecDepth 100000 in
theorem fX7_most : MFs mX7_most 1 := ⟨⟨aw_me (tin_5 (List.mem_of_getElem? (i := 69) rfl)) rfl, iniX7, ⟨nmhX7.1, nmhX7.2, by decide +kernel⟩, by decide⟩, aw_me (dkT_at _ _ tbK_19 9 _ rfl) rfl⟩
set_option maxRecDepth 100000 in
theorem fX7_readLine : MFv mX7_readLine 0 := ⟨⟨aw_me (tin_5 (List.mem_of_getElem? (i := 63) rfl)) rfl, iniX7, ⟨nmhX7.1, nmhX7.2, by decide +kernel⟩, by decide⟩, aw_me (dkT_at _ _ tbK_19 5 _ rfl) rfl, aw_me (dkT_at _ _ tbK_1 22 _ rfl) rfl⟩
set_option maxRecDepth 100000 in
theorem fX7_rules : MFv mX7_rules 0 := ⟨⟨aw_me (tin_5 (List.mem_of_getElem? (i := 35) rfl)) rfl, iniX7, ⟨nmhX7.1, nmhX7.2, by decide +kernel⟩, by decide⟩, aw_me (dkT_at _ _ tbK_18 20 _ rfl) rfl, aw_me (dkT_at _ _ tbK_18 21 _ rfl) rfl⟩
set_option maxRecDepth 100000 in
theorem fX7_fault : MFv mX7_fault 0 := ⟨⟨aw_me (tin_5 (List.mem_of_getElem? (i := 73) rfl)) rfl, iniX7, ⟨nmhX7.1, nmhX7.2, by decide +kernel⟩, by decide⟩, aw_me (dkT_at _ _ tbK_19 11 _ rfl) rfl, aw_me (dkT_at _ _ tbK_19 12 _ rfl) rfl⟩
set_option maxRecDepth 100000 in
theorem fX7_rule : MFv mX7_rule 1 := ⟨⟨aw_me (tin_5 (List.mem_of_getElem? (i := 77) rfl)) rfl, iniX7, ⟨nmhX7.1, nmhX7.2, by decide +kernel⟩, by decide⟩, aw_me (dkT_at _ _ tbK_19 14 _ rfl) rfl, aw_me (dkT_at _ _ tbK_19 15 _ rfl) rfl⟩
set_option maxRecDepth 100000 in
theorem fX7_begins : MFv mX7_begins 0 := ⟨⟨aw_me (tin_5 (List.mem_of_getElem? (i := 90) rfl)) rfl, iniX7, ⟨nmhX7.1, nmhX7.2, by decide +kernel⟩, by decide⟩, aw_me (dkT_at _ _ tbK_19 23 _ rfl) rfl, aw_me (dkT_at _ _ tbK_1 24 _ rfl) rfl⟩
set_option maxRecDepth 100000 in
theorem fX7_reaches : MFv mX7_reaches 0 := ⟨⟨aw_me (tin_5 (List.mem_of_getElem? (i := 99) rfl)) rfl, iniX7, ⟨nmhX7.1, nmhX7.2, by decide +kernel⟩, by decide⟩, aw_me (dkT_at _ _ tbK_19 28 _ rfl) rfl, aw_me (dkT_at _ _ tbK_1 26 _ rfl) rfl⟩
set_option maxRecDepth 100000 in
theorem fX7_flows : MFv mX7_flows 0 := ⟨⟨aw_me (tin_5 (List.mem_of_getElem? (i := 95) rfl)) rfl, iniX7, ⟨nmhX7.1, nmhX7.2, by decide +kernel⟩, by decide⟩, aw_me (dkT_at _ _ tbK_19 26 _ rfl) rfl, aw_me (dkT_at _ _ tbK_1 25 _ rfl) rfl⟩
set_option maxRecDepth 100000 in
theorem fX7_trustOf : MFv mX7_trustOf 1 := ⟨⟨aw_me (tin_5 (List.mem_of_getElem? (i := 86) rfl)) rfl, iniX7, ⟨nmhX7.1, nmhX7.2, by decide +kernel⟩, by decide⟩, aw_me (dkT_at _ _ tbK_19 21 _ rfl) rfl, aw_me (dkT_at _ _ tbK_1 23 _ rfl) rfl⟩
set_option maxRecDepth 100000 in
theorem fX7_areNames : MFv mX7_areNames 1 := ⟨⟨aw_me (tin_5 (List.mem_of_getElem? (i := 107) rfl)) rfl, iniX7, ⟨nmhX7.1, nmhX7.2, by decide +kernel⟩, by decide⟩, aw_me (dkT_at _ _ tbK_20 1 _ rfl) rfl, aw_me (dkT_at _ _ tbK_1 27 _ rfl) rfl⟩
set_option maxRecDepth 100000 in
theorem fX7_trust : MFv mX7_trust 1 := ⟨⟨aw_me (tin_5 (List.mem_of_getElem? (i := 82) rfl)) rfl, iniX7, ⟨nmhX7.1, nmhX7.2, by decide +kernel⟩, by decide⟩, aw_me (dkT_at _ _ tbK_19 18 _ rfl) rfl, aw_me (dkT_at _ _ tbK_19 19 _ rfl) rfl⟩
set_option maxRecDepth 100000 in
theorem fX7_heap : MFv mX7_heap 1 := ⟨⟨aw_me (tin_5 (List.mem_of_getElem? (i := 103) rfl)) rfl, iniX7, ⟨nmhX7.1, nmhX7.2, by decide +kernel⟩, by decide⟩, aw_me (dkT_at _ _ tbK_19 30 _ rfl) rfl, aw_me (dkT_at _ _ tbK_19 31 _ rfl) rfl⟩
set_option maxRecDepth 100000 in
theorem fX7_cut : MFv mX7_cut 2 := ⟨⟨aw_me (tin_5 (List.mem_of_getElem? (i := 111) rfl)) rfl, iniX7, ⟨nmhX7.1, nmhX7.2, by decide +kernel⟩, by decide⟩, aw_me (dkT_at _ _ tbK_20 3 _ rfl) rfl, aw_me (dkT_at _ _ tbK_20 4 _ rfl) rfl⟩
set_option maxRecDepth 100000 in
theorem fX7_isPlain : MFv mX7_isPlain 1 := ⟨⟨aw_me (tin_5 (List.mem_of_getElem? (i := 120) rfl)) rfl, iniX7, ⟨nmhX7.1, nmhX7.2, by decide +kernel⟩, by decide⟩, aw_me (dkT_at _ _ tbK_20 10 _ rfl) rfl, aw_me (dkT_at _ _ tbK_1 28 _ rfl) rfl⟩
set_option maxRecDepth 100000 in
theorem fX7_low : MFv mX7_low 1 := ⟨⟨aw_me (tin_5 (List.mem_of_getElem? (i := 116) rfl)) rfl, iniX7, ⟨nmhX7.1, nmhX7.2, by decide +kernel⟩, by decide⟩, aw_me (dkT_at _ _ tbK_20 7 _ rfl) rfl, aw_me (dkT_at _ _ tbK_20 8 _ rfl) rfl⟩
set_option maxRecDepth 100000 in
theorem fX7_twins : MFv mX7_twins 1 := ⟨⟨aw_me (tin_5 (List.mem_of_getElem? (i := 124) rfl)) rfl, iniX7, ⟨nmhX7.1, nmhX7.2, by decide +kernel⟩, by decide⟩, aw_me (dkT_at _ _ tbK_20 12 _ rfl) rfl, aw_me (dkT_at _ _ tbK_20 13 _ rfl) rfl⟩
set_option maxRecDepth 100000 in
theorem fX7_isWord : MFv mX7_isWord 4 := ⟨⟨aw_me (tin_5 (List.mem_of_getElem? (i := 132) rfl)) rfl, iniX7, ⟨nmhX7.1, nmhX7.2, by decide +kernel⟩, by decide⟩, aw_me (dkT_at _ _ tbK_20 18 _ rfl) rfl, aw_me (dkT_at _ _ tbK_1 29 _ rfl) rfl⟩
set_option maxRecDepth 100000 in
theorem fX7_says : MFv mX7_says 4 := ⟨⟨aw_me (tin_5 (List.mem_of_getElem? (i := 138) rfl)) rfl, iniX7, ⟨nmhX7.1, nmhX7.2, by decide +kernel⟩, by decide⟩, aw_me (dkT_at _ _ tbK_20 22 _ rfl) rfl, aw_me (dkT_at _ _ tbK_1 30 _ rfl) rfl⟩
set_option maxRecDepth 100000 in
theorem fX7_word : MFv mX7_word 4 := ⟨⟨aw_me (tin_5 (List.mem_of_getElem? (i := 128) rfl)) rfl, iniX7, ⟨nmhX7.1, nmhX7.2, by decide +kernel⟩, by decide⟩, aw_me (dkT_at _ _ tbK_20 15 _ rfl) rfl, aw_me (dkT_at _ _ tbK_20 16 _ rfl) rfl⟩
set_option maxRecDepth 100000 in
theorem fX7_isFirst : MFv mX7_isFirst 1 := ⟨⟨aw_me (tin_5 (List.mem_of_getElem? (i := 150) rfl)) rfl, iniX7, ⟨nmhX7.1, nmhX7.2, by decide +kernel⟩, by decide⟩, aw_me (dkT_at _ _ tbK_20 29 _ rfl) rfl, aw_me (dkT_at _ _ tbK_2 0 _ rfl) rfl⟩
set_option maxRecDepth 100000 in
theorem fX7_counts : MFv mX7_counts 1 := ⟨⟨aw_me (tin_5 (List.mem_of_getElem? (i := 146) rfl)) rfl, iniX7, ⟨nmhX7.1, nmhX7.2, by decide +kernel⟩, by decide⟩, aw_me (dkT_at _ _ tbK_20 27 _ rfl) rfl, aw_me (dkT_at _ _ tbK_1 31 _ rfl) rfl⟩
set_option maxRecDepth 100000 in
theorem fX7_wordOf : MFv mX7_wordOf 2 := ⟨⟨aw_me (tin_5 (List.mem_of_getElem? (i := 142) rfl)) rfl, iniX7, ⟨nmhX7.1, nmhX7.2, by decide +kernel⟩, by decide⟩, aw_me (dkT_at _ _ tbK_20 24 _ rfl) rfl, aw_me (dkT_at _ _ tbK_20 25 _ rfl) rfl⟩
set_option maxRecDepth 100000 in
theorem fX7_wordBy : MFv mX7_wordBy 2 := ⟨⟨aw_me (tin_5 (List.mem_of_getElem? (i := 162) rfl)) rfl, iniX7, ⟨nmhX7.1, nmhX7.2, by decide +kernel⟩, by decide⟩, aw_me (dkT_at _ _ tbK_21 4 _ rfl) rfl, aw_me (dkT_at _ _ tbK_2 2 _ rfl) rfl⟩
set_option maxRecDepth 100000 in
theorem fX7_sayersOf : MFv mX7_sayersOf 1 := ⟨⟨aw_me (tin_5 (List.mem_of_getElem? (i := 158) rfl)) rfl, iniX7, ⟨nmhX7.1, nmhX7.2, by decide +kernel⟩, by decide⟩, aw_me (dkT_at _ _ tbK_21 2 _ rfl) rfl, aw_me (dkT_at _ _ tbK_2 1 _ rfl) rfl⟩
set_option maxRecDepth 100000 in
theorem fX7_weightOf : MFv mX7_weightOf 2 := ⟨⟨aw_me (tin_5 (List.mem_of_getElem? (i := 166) rfl)) rfl, iniX7, ⟨nmhX7.1, nmhX7.2, by decide +kernel⟩, by decide⟩, aw_me (dkT_at _ _ tbK_21 6 _ rfl) rfl, aw_me (dkT_at _ _ tbK_2 3 _ rfl) rfl⟩
set_option maxRecDepth 100000 in
theorem fX7_weight : MFv mX7_weight 2 := ⟨⟨aw_me (tin_5 (List.mem_of_getElem? (i := 154) rfl)) rfl, iniX7, ⟨nmhX7.1, nmhX7.2, by decide +kernel⟩, by decide⟩, aw_me (dkT_at _ _ tbK_20 31 _ rfl) rfl, aw_me (dkT_at _ _ tbK_21 0 _ rfl) rfl⟩
set_option maxRecDepth 100000 in
theorem fX7_sayers : MFv mX7_sayers 1 := ⟨⟨aw_me (tin_5 (List.mem_of_getElem? (i := 170) rfl)) rfl, iniX7, ⟨nmhX7.1, nmhX7.2, by decide +kernel⟩, by decide⟩, aw_me (dkT_at _ _ tbK_21 8 _ rfl) rfl, aw_me (dkT_at _ _ tbK_21 9 _ rfl) rfl⟩
set_option maxRecDepth 100000 in
theorem fX7_lists : MFv mX7_lists 1 := ⟨⟨aw_me (tin_5 (List.mem_of_getElem? (i := 178) rfl)) rfl, iniX7, ⟨nmhX7.1, nmhX7.2, by decide +kernel⟩, by decide⟩, aw_me (dkT_at _ _ tbK_21 14 _ rfl) rfl, aw_me (dkT_at _ _ tbK_2 4 _ rfl) rfl⟩
set_option maxRecDepth 100000 in
theorem fX7_fraction : MFv mX7_fraction 2 := ⟨⟨aw_me (tin_5 (List.mem_of_getElem? (i := 182) rfl)) rfl, iniX7, ⟨nmhX7.1, nmhX7.2, by decide +kernel⟩, by decide⟩, aw_me (dkT_at _ _ tbK_21 16 _ rfl) rfl, aw_me (dkT_at _ _ tbK_2 5 _ rfl) rfl⟩
set_option maxRecDepth 100000 in
theorem fX7_mark : MFv mX7_mark 2 := ⟨⟨aw_me (tin_5 (List.mem_of_getElem? (i := 174) rfl)) rfl, iniX7, ⟨nmhX7.1, nmhX7.2, by decide +kernel⟩, by decide⟩, aw_me (dkT_at _ _ tbK_21 11 _ rfl) rfl, aw_me (dkT_at _ _ tbK_21 12 _ rfl) rfl⟩
set_option maxRecDepth 100000 in
theorem fX7_moved : MFv mX7_moved 2 := ⟨⟨aw_me (tin_5 (List.mem_of_getElem? (i := 193) rfl)) rfl, iniX7, ⟨nmhX7.1, nmhX7.2, by decide +kernel⟩, by decide⟩, aw_me (dkT_at _ _ tbK_21 23 _ rfl) rfl, aw_me (dkT_at _ _ tbK_2 6 _ rfl) rfl⟩
set_option maxRecDepth 100000 in
theorem fX7_span : MFv mX7_span 3 := ⟨⟨aw_me (tin_5 (List.mem_of_getElem? (i := 189) rfl)) rfl, iniX7, ⟨nmhX7.1, nmhX7.2, by decide +kernel⟩, by decide⟩, aw_me (dkT_at _ _ tbK_21 20 _ rfl) rfl, aw_me (dkT_at _ _ tbK_21 21 _ rfl) rfl⟩
set_option maxRecDepth 100000 in
theorem fX7_isGood : MFv mX7_isGood 1 := ⟨⟨aw_me (tin_5 (List.mem_of_getElem? (i := 209) rfl)) rfl, iniX7, ⟨nmhX7.1, nmhX7.2, by decide +kernel⟩, by decide⟩, aw_me (dkT_at _ _ tbK_22 0 _ rfl) rfl, aw_me (dkT_at _ _ tbK_2 9 _ rfl) rfl⟩
set_option maxRecDepth 100000 in
theorem fX7_isBetween : MFv mX7_isBetween 2 := ⟨⟨aw_me (tin_5 (List.mem_of_getElem? (i := 205) rfl)) rfl, iniX7, ⟨nmhX7.1, nmhX7.2, by decide +kernel⟩, by decide⟩, aw_me (dkT_at _ _ tbK_21 30 _ rfl) rfl, aw_me (dkT_at _ _ tbK_2 8 _ rfl) rfl⟩
set_option maxRecDepth 100000 in
theorem fX7_ringOf : MFv mX7_ringOf 2 := ⟨⟨aw_me (tin_5 (List.mem_of_getElem? (i := 201) rfl)) rfl, iniX7, ⟨nmhX7.1, nmhX7.2, by decide +kernel⟩, by decide⟩, aw_me (dkT_at _ _ tbK_21 28 _ rfl) rfl, aw_me (dkT_at _ _ tbK_2 7 _ rfl) rfl⟩
set_option maxRecDepth 100000 in
theorem fX7_ring : MFv mX7_ring 2 := ⟨⟨aw_me (tin_5 (List.mem_of_getElem? (i := 197) rfl)) rfl, iniX7, ⟨nmhX7.1, nmhX7.2, by decide +kernel⟩, by decide⟩, aw_me (dkT_at _ _ tbK_21 25 _ rfl) rfl, aw_me (dkT_at _ _ tbK_21 26 _ rfl) rfl⟩
set_option maxRecDepth 100000 in
theorem fX7_ways : MFs mX7_ways 2 := ⟨⟨aw_me (tin_5 (List.mem_of_getElem? (i := 221) rfl)) rfl, iniX7, ⟨nmhX7.1, nmhX7.2, by decide +kernel⟩, by decide⟩, aw_me (dkT_at _ _ tbK_22 8 _ rfl) rfl⟩
set_option maxRecDepth 100000 in
theorem fX7_findOdds : MFv mX7_findOdds 1 := ⟨⟨aw_me (tin_5 (List.mem_of_getElem? (i := 218) rfl)) rfl, iniX7, ⟨nmhX7.1, nmhX7.2, by decide +kernel⟩, by decide⟩, aw_me (dkT_at _ _ tbK_22 6 _ rfl) rfl, aw_me (dkT_at _ _ tbK_2 10 _ rfl) rfl⟩
set_option maxRecDepth 100000 in
theorem fX7_odds : MFv mX7_odds 2 := ⟨⟨aw_me (tin_5 (List.mem_of_getElem? (i := 213) rfl)) rfl, iniX7, ⟨nmhX7.1, nmhX7.2, by decide +kernel⟩, by decide⟩, aw_me (dkT_at _ _ tbK_22 2 _ rfl) rfl, aw_me (dkT_at _ _ tbK_22 3 _ rfl) rfl⟩
set_option maxRecDepth 100000 in
theorem fX7_oddest : MFv mX7_oddest 1 := ⟨⟨aw_me (tin_5 (List.mem_of_getElem? (i := 225) rfl)) rfl, iniX7, ⟨nmhX7.1, nmhX7.2, by decide +kernel⟩, by decide⟩, aw_me (dkT_at _ _ tbK_22 10 _ rfl) rfl, aw_me (dkT_at _ _ tbK_22 11 _ rfl) rfl⟩
set_option maxRecDepth 100000 in
theorem fX7_sells : MFv mX7_sells 1 := ⟨⟨aw_me (tin_5 (List.mem_of_getElem? (i := 238) rfl)) rfl, iniX7, ⟨nmhX7.1, nmhX7.2, by decide +kernel⟩, by decide⟩, aw_me (dkT_at _ _ tbK_22 19 _ rfl) rfl, aw_me (dkT_at _ _ tbK_2 12 _ rfl) rfl⟩
set_option maxRecDepth 100000 in
theorem fX7_gainOf : MFv mX7_gainOf 3 := ⟨⟨aw_me (tin_6 (List.mem_of_getElem? (i := 3) rfl)) rfl, iniX7, ⟨nmhX7.1, nmhX7.2, by decide +kernel⟩, by decide⟩, aw_me (dkT_at _ _ tbK_22 22 _ rfl) rfl, aw_me (dkT_at _ _ tbK_2 13 _ rfl) rfl⟩
set_option maxRecDepth 100000 in
theorem fX7_sellers : MFv mX7_sellers 0 := ⟨⟨aw_me (tin_5 (List.mem_of_getElem? (i := 234) rfl)) rfl, iniX7, ⟨nmhX7.1, nmhX7.2, by decide +kernel⟩, by decide⟩, aw_me (dkT_at _ _ tbK_22 17 _ rfl) rfl, aw_me (dkT_at _ _ tbK_2 11 _ rfl) rfl⟩
set_option maxRecDepth 100000 in
theorem fX7_gain : MFv mX7_gain 3 := ⟨⟨aw_me (tin_5 (List.mem_of_getElem? (i := 230) rfl)) rfl, iniX7, ⟨nmhX7.1, nmhX7.2, by decide +kernel⟩, by decide⟩, aw_me (dkT_at _ _ tbK_22 14 _ rfl) rfl, aw_me (dkT_at _ _ tbK_22 15 _ rfl) rfl⟩
set_option maxRecDepth 100000 in
theorem fX7_best : MFv mX7_best 3 := ⟨⟨aw_me (tin_6 (List.mem_of_getElem? (i := 7) rfl)) rfl, iniX7, ⟨nmhX7.1, nmhX7.2, by decide +kernel⟩, by decide⟩, aw_me (dkT_at _ _ tbK_22 24 _ rfl) rfl, aw_me (dkT_at _ _ tbK_22 25 _ rfl) rfl⟩
set_option maxRecDepth 100000 in
theorem fX7_isSheet : MFs mX7_isSheet 2 := ⟨⟨aw_me (tin_6 (List.mem_of_getElem? (i := 14) rfl)) rfl, iniX7, ⟨nmhX7.1, nmhX7.2, by decide +kernel⟩, by decide⟩, aw_me (dkT_at _ _ tbK_22 30 _ rfl) rfl⟩
set_option maxRecDepth 100000 in
theorem fX7_sheet : MFv mX7_sheet 3 := ⟨⟨aw_me (tin_6 (List.mem_of_getElem? (i := 11) rfl)) rfl, iniX7, ⟨nmhX7.1, nmhX7.2, by decide +kernel⟩, by decide⟩, aw_me (dkT_at _ _ tbK_22 27 _ rfl) rfl, aw_me (dkT_at _ _ tbK_22 28 _ rfl) rfl⟩
set_option maxRecDepth 100000 in
theorem fX7_lay : MFv mX7_lay 3 := ⟨⟨aw_me (tin_6 (List.mem_of_getElem? (i := 18) rfl)) rfl, iniX7, ⟨nmhX7.1, nmhX7.2, by decide +kernel⟩, by decide⟩, aw_me (dkT_at _ _ tbK_23 0 _ rfl) rfl, aw_me (dkT_at _ _ tbK_23 1 _ rfl) rfl⟩
set_option maxRecDepth 100000 in
theorem fX7_refuses : MFv mX7_refuses 3 := ⟨⟨aw_me (tin_6 (List.mem_of_getElem? (i := 27) rfl)) rfl, iniX7, ⟨nmhX7.1, nmhX7.2, by decide +kernel⟩, by decide⟩, aw_me (dkT_at _ _ tbK_23 7 _ rfl) rfl, aw_me (dkT_at _ _ tbK_2 14 _ rfl) rfl⟩
set_option maxRecDepth 100000 in
theorem fX7_read : MFv mX7_read 4 := ⟨⟨aw_me (tin_6 (List.mem_of_getElem? (i := 22) rfl)) rfl, iniX7, ⟨nmhX7.1, nmhX7.2, by decide +kernel⟩, by decide⟩, aw_me (dkT_at _ _ tbK_23 3 _ rfl) rfl, aw_me (dkT_at _ _ tbK_23 4 _ rfl) rfl⟩
set_option maxRecDepth 100000 in
theorem fX7_lost : MFv mX7_lost 0 := ⟨⟨aw_me (tin_6 (List.mem_of_getElem? (i := 31) rfl)) rfl, iniX7, ⟨nmhX7.1, nmhX7.2, by decide +kernel⟩, by decide⟩, aw_me (dkT_at _ _ tbK_23 9 _ rfl) rfl, aw_me (dkT_at _ _ tbK_23 10 _ rfl) rfl⟩
set_option maxRecDepth 100000 in
theorem fX7_count : MFv mX7_count 1 := ⟨⟨aw_me (tin_6 (List.mem_of_getElem? (i := 35) rfl)) rfl, iniX7, ⟨nmhX7.1, nmhX7.2, by decide +kernel⟩, by decide⟩, aw_me (dkT_at _ _ tbK_23 12 _ rfl) rfl, aw_me (dkT_at _ _ tbK_23 13 _ rfl) rfl⟩
set_option maxRecDepth 100000 in
theorem fJ9_max_7cf53 : MFs mJ9_max_7cf53 2 := ⟨⟨aw_me (tin_2 (List.mem_of_getElem? (i := 76) rfl)) rfl, iniJ9, ⟨nmhJ9.1, nmhJ9.2, by decide +kernel⟩, by decide⟩, aw_me (dkT_at _ _ tbK_6 18 _ rfl) rfl⟩
set_option maxRecDepth 100000 in
theorem fJ9_max_f86c9 : MFs mJ9_max_f86c9 2 := ⟨⟨aw_me (tin_3 (List.mem_of_getElem? (i := 152) rfl)) rfl, iniJ9, ⟨nmhJ9.1, nmhJ9.2, by decide +kernel⟩, by decide⟩, aw_me (dkT_at _ _ tbK_12 14 _ rfl) rfl⟩
set_option maxRecDepth 100000 in
theorem fJ9_min_7cf53 : MFs mJ9_min_7cf53 2 := ⟨⟨aw_me (tin_3 (List.mem_of_getElem? (i := 50) rfl)) rfl, iniJ9, ⟨nmhJ9.1, nmhJ9.2, by decide +kernel⟩, by decide⟩, aw_me (dkT_at _ _ tbK_10 13 _ rfl) rfl⟩
theorem lL_9 : ML RL 9 mX6_init := aw_me (dkT_at _ _ tbK_2 30 _ rfl) rfl
-- link: ('methodLink', 'ManyNames', 3, ('java/lang/Object', '<init>', '()V'))
-- link: ('methodLink', 'ManyNames$Folk', 3, ('java/lang/Object', '<init>', '()V'))
theorem gX1_9 : FL RX1 9 1 0 := ⟨RX1, TX1, 6, rfl, by decide, aw_me (dkT_at _ _ tbK_2 31 _ rfl) rfl, wnX1, rfl⟩
theorem gX6_143 : FL RX6 143 1 0 := ⟨RX1, TX1, 6, rfl, by decide, aw_me (dkT_at _ _ tbK_3 0 _ rfl) rfl, wnX1, rfl⟩
theorem gX1_15 : FL RX1 15 1 1 := ⟨RX1, TX1, 6, rfl, by decide, aw_me (dkT_at _ _ tbK_3 1 _ rfl) rfl, wnX1, rfl⟩
theorem gX6_88 : FL RX6 88 1 1 := ⟨RX1, TX1, 6, rfl, by decide, aw_me (dkT_at _ _ tbK_3 2 _ rfl) rfl, wnX1, rfl⟩
theorem gX1_19 : FL RX1 19 1 2 := ⟨RX1, TX1, 6, rfl, by decide, aw_me (dkT_at _ _ tbK_3 3 _ rfl) rfl, wnX1, rfl⟩
theorem gX6_96 : FL RX6 96 1 2 := ⟨RX1, TX1, 6, rfl, by decide, aw_me (dkT_at _ _ tbK_3 4 _ rfl) rfl, wnX1, rfl⟩
theorem gX1_22 : FL RX1 22 1 3 := ⟨RX1, TX1, 6, rfl, by decide, aw_me (dkT_at _ _ tbK_3 5 _ rfl) rfl, wnX1, rfl⟩
theorem gX6_149 : FL RX6 149 1 3 := ⟨RX1, TX1, 6, rfl, by decide, aw_me (dkT_at _ _ tbK_3 6 _ rfl) rfl, wnX1, rfl⟩
theorem gX1_25 : FL RX1 25 1 4 := ⟨RX1, TX1, 6, rfl, by decide, aw_me (dkT_at _ _ tbK_3 7 _ rfl) rfl, wnX1, rfl⟩
theorem gX6_99 : FL RX6 99 1 4 := ⟨RX1, TX1, 6, rfl, by decide, aw_me (dkT_at _ _ tbK_3 8 _ rfl) rfl, wnX1, rfl⟩
theorem gX1_28 : FL RX1 28 1 5 := ⟨RX1, TX1, 6, rfl, by decide, aw_me (dkT_at _ _ tbK_3 9 _ rfl) rfl, wnX1, rfl⟩
theorem gX6_161 : FL RX6 161 1 5 := ⟨RX1, TX1, 6, rfl, by decide, aw_me (dkT_at _ _ tbK_3 10 _ rfl) rfl, wnX1, rfl⟩
-- link: ('methodLink', 'ManyNames$Ties', 3, ('java/lang/Object', '<init>', '()V'))
theorem gX4_9 : FL RX4 9 4 0 := ⟨RX4, TX4, 6, rfl, by decide, aw_me (dkT_at _ _ tbK_3 11 _ rfl) rfl, wnX4, rfl⟩
theorem gX6_122 : FL RX6 122 4 0 := ⟨RX4, TX4, 6, rfl, by decide, aw_me (dkT_at _ _ tbK_3 12 _ rfl) rfl, wnX4, rfl⟩
theorem gX4_15 : FL RX4 15 4 1 := ⟨RX4, TX4, 6, rfl, by decide, aw_me (dkT_at _ _ tbK_3 13 _ rfl) rfl, wnX4, rfl⟩
theorem gX6_125 : FL RX6 125 4 1 := ⟨RX4, TX4, 6, rfl, by decide, aw_me (dkT_at _ _ tbK_3 14 _ rfl) rfl, wnX4, rfl⟩
theorem gX4_18 : FL RX4 18 4 2 := ⟨RX4, TX4, 6, rfl, by decide, aw_me (dkT_at _ _ tbK_3 15 _ rfl) rfl, wnX4, rfl⟩
theorem gX6_128 : FL RX6 128 4 2 := ⟨RX4, TX4, 6, rfl, by decide, aw_me (dkT_at _ _ tbK_3 16 _ rfl) rfl, wnX4, rfl⟩
theorem gX4_21 : FL RX4 21 4 3 := ⟨RX4, TX4, 6, rfl, by decide, aw_me (dkT_at _ _ tbK_3 17 _ rfl) rfl, wnX4, rfl⟩
theorem gX6_131 : FL RX6 131 4 3 := ⟨RX4, TX4, 6, rfl, by decide, aw_me (dkT_at _ _ tbK_3 18 _ rfl) rfl, wnX4, rfl⟩
theorem gX4_24 : FL RX4 24 4 4 := ⟨RX4, TX4, 6, rfl, by decide, aw_me (dkT_at _ _ tbK_3 19 _ rfl) rfl, wnX4, rfl⟩
theorem gX6_134 : FL RX6 134 4 4 := ⟨RX4, TX4, 6, rfl, by decide, aw_me (dkT_at _ _ tbK_3 20 _ rfl) rfl, wnX4, rfl⟩
theorem gX4_27 : FL RX4 27 4 5 := ⟨RX4, TX4, 6, rfl, by decide, aw_me (dkT_at _ _ tbK_3 21 _ rfl) rfl, wnX4, rfl⟩
theorem gX6_109 : FL RX6 109 4 5 := ⟨RX4, TX4, 6, rfl, by decide, aw_me (dkT_at _ _ tbK_3 22 _ rfl) rfl, wnX4, rfl⟩
-- link: ('methodLink', 'ManyNames$Words', 3, ('java/lang/Object', '<init>', '()V'))
theorem gX5_9 : FL RX5 9 5 0 := ⟨RX5, TX5, 8, rfl, by decide, aw_me (dkT_at _ _ tbK_3 23 _ rfl) rfl, wnX5, rfl⟩
theorem gX6_221 : FL RX6 221 5 0 := ⟨RX5, TX5, 8, rfl, by decide, aw_me (dkT_at _ _ tbK_3 24 _ rfl) rfl, wnX5, rfl⟩
theorem gX5_15 : FL RX5 15 5 1 := ⟨RX5, TX5, 8, rfl, by decide, aw_me (dkT_at _ _ tbK_3 25 _ rfl) rfl, wnX5, rfl⟩
theorem gX6_224 : FL RX6 224 5 1 := ⟨RX5, TX5, 8, rfl, by decide, aw_me (dkT_at _ _ tbK_3 26 _ rfl) rfl, wnX5, rfl⟩
theorem gX5_18 : FL RX5 18 5 2 := ⟨RX5, TX5, 8, rfl, by decide, aw_me (dkT_at _ _ tbK_3 27 _ rfl) rfl, wnX5, rfl⟩
theorem gX6_227 : FL RX6 227 5 2 := ⟨RX5, TX5, 8, rfl, by decide, aw_me (dkT_at _ _ tbK_3 28 _ rfl) rfl, wnX5, rfl⟩
theorem gX5_21 : FL RX5 21 5 3 := ⟨RX5, TX5, 8, rfl, by decide, aw_me (dkT_at _ _ tbK_3 29 _ rfl) rfl, wnX5, rfl⟩
theorem gX6_230 : FL RX6 230 5 3 := ⟨RX5, TX5, 8, rfl, by decide, aw_me (dkT_at _ _ tbK_3 30 _ rfl) rfl, wnX5, rfl⟩
theorem gX5_24 : FL RX5 24 5 4 := ⟨RX5, TX5, 8, rfl, by decide, aw_me (dkT_at _ _ tbK_3 31 _ rfl) rfl, wnX5, rfl⟩
theorem gX6_233 : FL RX6 233 5 4 := ⟨RX5, TX5, 8, rfl, by decide, aw_me (dkT_at _ _ tbK_4 0 _ rfl) rfl, wnX5, rfl⟩
theorem gX5_27 : FL RX5 27 5 5 := ⟨RX5, TX5, 8, rfl, by decide, aw_me (dkT_at _ _ tbK_4 1 _ rfl) rfl, wnX5, rfl⟩
theorem gX6_351 : FL RX6 351 5 5 := ⟨RX5, TX5, 8, rfl, by decide, aw_me (dkT_at _ _ tbK_4 2 _ rfl) rfl, wnX5, rfl⟩
theorem gX5_30 : FL RX5 30 5 6 := ⟨RX5, TX5, 8, rfl, by decide, aw_me (dkT_at _ _ tbK_4 3 _ rfl) rfl, wnX5, rfl⟩
theorem gX5_34 : FL RX5 34 5 7 := ⟨RX5, TX5, 8, rfl, by decide, aw_me (dkT_at _ _ tbK_4 4 _ rfl) rfl, wnX5, rfl⟩
theorem gX6_255 : FL RX6 255 5 7 := ⟨RX5, TX5, 8, rfl, by decide, aw_me (dkT_at _ _ tbK_4 5 _ rfl) rfl, wnX5, rfl⟩
-- link: ('methodLink', 'ManyNames$Tape', 3, ('java/lang/Object', '<init>', '()V'))
theorem gX3_11 : FL RX3 11 3 0 := ⟨RX3, TX3, 8, rfl, by decide, aw_me (dkT_at _ _ tbK_4 6 _ rfl) rfl, wnX3, rfl⟩
theorem gX3_15 : FL RX3 15 3 1 := ⟨RX3, TX3, 8, rfl, by decide, aw_me (dkT_at _ _ tbK_4 7 _ rfl) rfl, wnX3, rfl⟩
theorem gX6_180 : FL RX6 180 3 1 := ⟨RX3, TX3, 8, rfl, by decide, aw_me (dkT_at _ _ tbK_4 8 _ rfl) rfl, wnX3, rfl⟩
theorem gX3_25 : FL RX3 25 3 2 := ⟨RX3, TX3, 8, rfl, by decide, aw_me (dkT_at _ _ tbK_4 9 _ rfl) rfl, wnX3, rfl⟩
theorem gX6_187 : FL RX6 187 3 2 := ⟨RX3, TX3, 8, rfl, by decide, aw_me (dkT_at _ _ tbK_4 10 _ rfl) rfl, wnX3, rfl⟩
theorem gX3_19 : FL RX3 19 3 3 := ⟨RX3, TX3, 8, rfl, by decide, aw_me (dkT_at _ _ tbK_4 11 _ rfl) rfl, wnX3, rfl⟩
theorem gX3_38 : FL RX3 38 3 4 := ⟨RX3, TX3, 8, rfl, by decide, aw_me (dkT_at _ _ tbK_4 12 _ rfl) rfl, wnX3, rfl⟩
theorem gX3_31 : FL RX3 31 3 5 := ⟨RX3, TX3, 8, rfl, by decide, aw_me (dkT_at _ _ tbK_4 13 _ rfl) rfl, wnX3, rfl⟩
theorem gX3_45 : FL RX3 45 3 6 := ⟨RX3, TX3, 8, rfl, by decide, aw_me (dkT_at _ _ tbK_4 14 _ rfl) rfl, wnX3, rfl⟩
theorem gX3_22 : FL RX3 22 3 7 := ⟨RX3, TX3, 8, rfl, by decide, aw_me (dkT_at _ _ tbK_4 15 _ rfl) rfl, wnX3, rfl⟩
-- link: ('methodLink', 'ManyNames$Flow', 3, ('java/lang/Object', '<init>', '()V'))
theorem gX0_11 : FL RX0 11 0 0 := ⟨RX0, TX0, 7, rfl, by decide, aw_me (dkT_at _ _ tbK_4 16 _ rfl) rfl, wnX0, rfl⟩
theorem gX0_15 : FL RX0 15 0 1 := ⟨RX0, TX0, 7, rfl, by decide, aw_me (dkT_at _ _ tbK_4 17 _ rfl) rfl, wnX0, rfl⟩
theorem gX0_18 : FL RX0 18 0 2 := ⟨RX0, TX0, 7, rfl, by decide, aw_me (dkT_at _ _ tbK_4 18 _ rfl) rfl, wnX0, rfl⟩
theorem gX0_21 : FL RX0 21 0 3 := ⟨RX0, TX0, 7, rfl, by decide, aw_me (dkT_at _ _ tbK_4 19 _ rfl) rfl, wnX0, rfl⟩
theorem gX0_24 : FL RX0 24 0 4 := ⟨RX0, TX0, 7, rfl, by decide, aw_me (dkT_at _ _ tbK_4 20 _ rfl) rfl, wnX0, rfl⟩
theorem gX0_27 : FL RX0 27 0 5 := ⟨RX0, TX0, 7, rfl, by decide, aw_me (dkT_at _ _ tbK_4 21 _ rfl) rfl, wnX0, rfl⟩
theorem gX0_53 : FL RX0 53 0 6 := ⟨RX0, TX0, 7, rfl, by decide, aw_me (dkT_at _ _ tbK_4 22 _ rfl) rfl, wnX0, rfl⟩
theorem gX6_199 : FL RX6 199 0 6 := ⟨RX0, TX0, 7, rfl, by decide, aw_me (dkT_at _ _ tbK_4 23 _ rfl) rfl, wnX0, rfl⟩
-- static field: ('fieldLink', 'ManyNames', 66, 'ManyNames', 'RULES_AT_FIRST', '[I') 270
-- link: ('methodLink', 'ManyNames', 69, ('java/lang/System', 'arraycopy', '(Ljava/lang/Object;ILjava/lang/Object;II)V'))
-- link: ('methodLink', 'ManyNames$Sheet', 3, ('java/lang/Object', '<init>', '()V'))
theorem gX2_11 : FL RX2 11 2 0 := ⟨RX2, TX2, 3, rfl, by decide, aw_me (dkT_at _ _ tbK_4 24 _ rfl) rfl, wnX2, rfl⟩
theorem gX6_303 : FL RX6 303 2 0 := ⟨RX2, TX2, 3, rfl, by decide, aw_me (dkT_at _ _ tbK_4 25 _ rfl) rfl, wnX2, rfl⟩
theorem gX2_25 : FL RX2 25 2 1 := ⟨RX2, TX2, 3, rfl, by decide, aw_me (dkT_at _ _ tbK_4 26 _ rfl) rfl, wnX2, rfl⟩
theorem gX2_15 : FL RX2 15 2 2 := ⟨RX2, TX2, 3, rfl, by decide, aw_me (dkT_at _ _ tbK_4 27 _ rfl) rfl, wnX2, rfl⟩
theorem gX6_326 : FL RX6 326 2 2 := ⟨RX2, TX2, 3, rfl, by decide, aw_me (dkT_at _ _ tbK_4 28 _ rfl) rfl, wnX2, rfl⟩
theorem gX6_12 : FL RX6 12 6 0 := ⟨RX6, TX6, 13, rfl, by decide, aw_me (dkT_at _ _ tbK_4 29 _ rfl) rfl, wnX6, rfl⟩
theorem gX6_19 : FL RX6 19 6 1 := ⟨RX6, TX6, 13, rfl, by decide, aw_me (dkT_at _ _ tbK_4 30 _ rfl) rfl, wnX6, rfl⟩
theorem gX6_26 : FL RX6 26 6 2 := ⟨RX6, TX6, 13, rfl, by decide, aw_me (dkT_at _ _ tbK_4 31 _ rfl) rfl, wnX6, rfl⟩
theorem gX6_33 : FL RX6 33 6 3 := ⟨RX6, TX6, 13, rfl, by decide, aw_me (dkT_at _ _ tbK_5 0 _ rfl) rfl, wnX6, rfl⟩
theorem gX6_40 : FL RX6 40 6 4 := ⟨RX6, TX6, 13, rfl, by decide, aw_me (dkT_at _ _ tbK_5 1 _ rfl) rfl, wnX6, rfl⟩
theorem gX6_46 : FL RX6 46 6 5 := ⟨RX6, TX6, 13, rfl, by decide, aw_me (dkT_at _ _ tbK_5 2 _ rfl) rfl, wnX6, rfl⟩
theorem gX6_50 : FL RX6 50 6 6 := ⟨RX6, TX6, 13, rfl, by decide, aw_me (dkT_at _ _ tbK_5 3 _ rfl) rfl, wnX6, rfl⟩
theorem gX6_54 : FL RX6 54 6 7 := ⟨RX6, TX6, 13, rfl, by decide, aw_me (dkT_at _ _ tbK_5 4 _ rfl) rfl, wnX6, rfl⟩
theorem gX6_57 : FL RX6 57 6 8 := ⟨RX6, TX6, 13, rfl, by decide, aw_me (dkT_at _ _ tbK_5 5 _ rfl) rfl, wnX6, rfl⟩
theorem gX6_60 : FL RX6 60 6 9 := ⟨RX6, TX6, 13, rfl, by decide, aw_me (dkT_at _ _ tbK_5 6 _ rfl) rfl, wnX6, rfl⟩
theorem gX6_63 : FL RX6 63 6 10 := ⟨RX6, TX6, 13, rfl, by decide, aw_me (dkT_at _ _ tbK_5 7 _ rfl) rfl, wnX6, rfl⟩
theorem gX6_113 : FL RX6 113 6 11 := ⟨RX6, TX6, 13, rfl, by decide, aw_me (dkT_at _ _ tbK_5 8 _ rfl) rfl, wnX6, rfl⟩
theorem gX6_309 : FL RX6 309 6 12 := ⟨RX6, TX6, 13, rfl, by decide, aw_me (dkT_at _ _ tbK_5 9 _ rfl) rfl, wnX6, rfl⟩
theorem lL_13 : ML RL 13 mX6_name := aw_me (dkT_at _ _ tbK_5 10 _ rfl) rfl
theorem lX6_76 : ML RX6 76 mX6_within := aw_me (dkT_at _ _ tbK_5 13 _ rfl) rfl
theorem lX6_80 : ML RX6 80 mX1_enter := aw_me (dkT_at _ _ tbK_5 15 _ rfl) rfl
theorem lL_18 : ML RL 18 mX6_seed := aw_me (dkT_at _ _ tbK_5 18 _ rfl) rfl
theorem lX6_84 : ML RX6 84 mX6_isName := aw_me (dkT_at _ _ tbK_5 21 _ rfl) rfl
theorem lX6_92 : ML RX6 92 mX6_oneIf := aw_me (dkT_at _ _ tbK_5 23 _ rfl) rfl
theorem lL_23 : ML RL 23 mX6_pledge := aw_me (dkT_at _ _ tbK_5 25 _ rfl) rfl
theorem lX6_102 : ML RX6 102 mX6_pledgeRoom := aw_me (dkT_at _ _ tbK_5 28 _ rfl) rfl
theorem lL_28 : ML RL 28 mX6_tie := aw_me (dkT_at _ _ tbK_5 30 _ rfl) rfl
theorem lX6_105 : ML RX6 105 mX6_arePair := aw_me (dkT_at _ _ tbK_6 1 _ rfl) rfl
theorem lX6_116 : ML RX6 116 mX4_enter := aw_me (dkT_at _ _ tbK_6 3 _ rfl) rfl
theorem lL_33 : ML RL 33 mX6_tieOf := aw_me (dkT_at _ _ tbK_6 6 _ rfl) rfl
theorem lX6_119 : ML RX6 119 mX6_isTie := aw_me (dkT_at _ _ tbK_6 9 _ rfl) rfl
theorem lX6_137 : ML RX6 137 mX6_roomOf := aw_me (dkT_at _ _ tbK_6 11 _ rfl) rfl
theorem lX6_140 : ML RX6 140 mX6_hasMadeEnd := aw_me (dkT_at _ _ tbK_6 13 _ rfl) rfl
theorem lX6_329 : ML RX6 329 mX6_faded := aw_me (dkT_at _ _ tbK_6 15 _ rfl) rfl
theorem lX6_165 : ML RX6 165 mJ9_max_7cf53 := aw_me (dkT_at _ _ tbK_6 17 _ rfl) rfl
theorem lX6_146 : ML RX6 146 mX6_isFined := aw_me (dkT_at _ _ tbK_6 19 _ rfl) rfl
theorem lL_37 : ML RL 37 mX6_renew := aw_me (dkT_at _ _ tbK_6 21 _ rfl) rfl
theorem lL_41 : ML RL 41 mX6_of := aw_me (dkT_at _ _ tbK_6 24 _ rfl) rfl
theorem lX6_152 : ML RX6 152 mX6_givenTo := aw_me (dkT_at _ _ tbK_6 27 _ rfl) rfl
theorem lX6_155 : ML RX6 155 mX6_openTies := aw_me (dkT_at _ _ tbK_6 29 _ rfl) rfl
theorem lX6_162 : ML RX6 162 mX6_hasBit := aw_me (dkT_at _ _ tbK_6 31 _ rfl) rfl
theorem lL_45 : ML RL 45 mX6_made := aw_me (dkT_at _ _ tbK_7 1 _ rfl) rfl
theorem lX6_158 : ML RX6 158 mX6_standingFor := aw_me (dkT_at _ _ tbK_7 4 _ rfl) rfl
theorem lX6_171 : ML RX6 171 mJ6_bitCount_0f7a4 := aw_me (dkT_at _ _ tbK_7 6 _ rfl) rfl
theorem qJ6_265 : Cond.constant RJ6 265 (1431655765) ∈ aw_tb := aw_me (dkT_at _ _ tbK_7 8 _ rfl) rfl
theorem qJ6_266 : Cond.constant RJ6 266 (858993459) ∈ aw_tb := aw_me (dkT_at _ _ tbK_7 9 _ rfl) rfl
theorem qJ6_267 : Cond.constant RJ6 267 (252645135) ∈ aw_tb := aw_me (dkT_at _ _ tbK_7 10 _ rfl) rfl
theorem lL_49 : ML RL 49 mX6_day := aw_me (dkT_at _ _ tbK_7 11 _ rfl) rfl
theorem lL_55 : ML RL 55 mX6_feed := aw_me (dkT_at _ _ tbK_7 14 _ rfl) rfl
theorem lX6_176 : ML RX6 176 mX3_takeEight := aw_me (dkT_at _ _ tbK_7 17 _ rfl) rfl
theorem lL_60 : ML RL 60 mX6_end := aw_me (dkT_at _ _ tbK_7 20 _ rfl) rfl
theorem lL_64 : ML RL 64 mX6_rules := aw_me (dkT_at _ _ tbK_7 23 _ rfl) rfl
theorem lX6_183 : ML RX6 183 mX3_readLines := aw_me (dkT_at _ _ tbK_7 26 _ rfl) rfl
theorem lX3_28 : ML RX3 28 mX3_readToken := aw_me (dkT_at _ _ tbK_7 29 _ rfl) rfl
theorem lX3_62 : ML RX3 62 mX3_isLetter := aw_me (dkT_at _ _ tbK_7 31 _ rfl) rfl
theorem lX3_58 : MLN RX3 58 mX6_within := dkT_at _ _ tbK_8 1 _ rfl
theorem lX3_65 : ML RX3 65 mX3_readRule := aw_me (dkT_at _ _ tbK_8 2 _ rfl) rfl
theorem lX3_74 : ML RX3 74 mX3_textOf := aw_me (dkT_at _ _ tbK_8 4 _ rfl) rfl
theorem lX3_78 : ML RX3 78 mX3_isText := aw_me (dkT_at _ _ tbK_8 6 _ rfl) rfl
theorem lX3_82 : ML RX3 82 mJ0_length_8abf5 := aw_me (dkT_at _ _ tbK_8 8 _ rfl) rfl
theorem lJ0_335 : ML RJ0 335 mJ0_coder_7d493 := aw_me (dkT_at _ _ tbK_8 11 _ rfl) rfl
-- field: ('fieldLink', 'java/lang/String', 38, 'java/lang/String', 'COMPACT_STRINGS', 'Z')
theorem lX3_87 : ML RX3 87 mJ0_charAt_5068e := aw_me (dkT_at _ _ tbK_8 14 _ rfl) rfl
theorem lJ0_492 : ML RJ0 492 mJ0_isLatin1_aae02 := aw_me (dkT_at _ _ tbK_8 17 _ rfl) rfl
theorem lJ0_495 : ML RJ0 495 mJ1_charAt_3b067 := aw_me (dkT_at _ _ tbK_8 20 _ rfl) rfl
theorem lJ1_9 : ML RJ1 9 mJ0_checkIndex_df160 := aw_me (dkT_at _ _ tbK_8 22 _ rfl) rfl
-- field: ('fieldLink', 'java/lang/String', 1053, 'jdk/internal/util/Preconditions', 'SIOOBE_FORMATTER', 'Ljava/util/function/BiFunction;')
theorem lJ0_1059 : ML RJ0 1059 mJ3_checkIndex_8e157 := aw_me (dkT_at _ _ tbK_8 24 _ rfl) rfl
theorem lJ0_498 : ML RJ0 498 mJ2_charAt_3b067 := aw_me (dkT_at _ _ tbK_8 26 _ rfl) rfl
theorem lJ2_67 : ML RJ2 67 mJ2_checkIndex_2214a := aw_me (dkT_at _ _ tbK_8 28 _ rfl) rfl
theorem lJ2_48 : ML RJ2 48 mJ2_length_9d52b := aw_me (dkT_at _ _ tbK_8 30 _ rfl) rfl
theorem lJ2_414 : ML RJ2 414 mJ0_checkIndex_df160 := aw_me (dkT_at _ _ tbK_9 0 _ rfl) rfl
theorem lJ2_71 : ML RJ2 71 mJ2_getChar_3b067 := aw_me (dkT_at _ _ tbK_9 1 _ rfl) rfl
-- field: ('fieldLink', 'java/lang/StringUTF16', 44, 'java/lang/StringUTF16', '$assertionsDisabled', 'Z')
-- field: ('fieldLink', 'java/lang/StringUTF16', 59, 'java/lang/StringUTF16', 'HI_BYTE_SHIFT', 'I')
-- field: ('fieldLink', 'java/lang/StringUTF16', 63, 'java/lang/StringUTF16', 'LO_BYTE_SHIFT', 'I')
theorem lX3_68 : ML RX3 68 mX3_isFigure := aw_me (dkT_at _ _ tbK_9 3 _ rfl) rfl
theorem lX3_71 : ML RX3 71 mX3_readNumber := aw_me (dkT_at _ _ tbK_9 5 _ rfl) rfl
theorem lX3_34 : ML RX3 34 mX3_readLine := aw_me (dkT_at _ _ tbK_9 7 _ rfl) rfl
theorem lX3_41 : ML RX3 41 mX3_stands := aw_me (dkT_at _ _ tbK_9 9 _ rfl) rfl
theorem lX3_48 : MLN RX3 48 mX6_hasBit := dkT_at _ _ tbK_9 11 _ rfl
theorem lL_69 : ML RL 69 mX6_fault := aw_me (dkT_at _ _ tbK_9 12 _ rfl) rfl
theorem lL_73 : ML RL 73 mX6_rule := aw_me (dkT_at _ _ tbK_9 15 _ rfl) rfl
theorem lL_77 : ML RL 77 mX6_trust := aw_me (dkT_at _ _ tbK_9 18 _ rfl) rfl
theorem lX6_190 : ML RX6 190 mX6_layFlow := aw_me (dkT_at _ _ tbK_9 21 _ rfl) rfl
theorem lX6_332 : ML RX6 332 mX0_clear := aw_me (dkT_at _ _ tbK_9 23 _ rfl) rfl
theorem lX0_30 : ML RX0 30 mJ7_fill_53178 := aw_me (dkT_at _ _ tbK_9 26 _ rfl) rfl
theorem lX6_335 : ML RX6 335 mX0_give := aw_me (dkT_at _ _ tbK_9 28 _ rfl) rfl
theorem lX0_36 : ML RX0 36 mX0_widen := aw_me (dkT_at _ _ tbK_9 31 _ rfl) rfl
theorem lX6_338 : ML RX6 338 mX0_join := aw_me (dkT_at _ _ tbK_10 1 _ rfl) rfl
theorem lX6_193 : ML RX6 193 mX0_most := aw_me (dkT_at _ _ tbK_10 4 _ rfl) rfl
-- link: ('methodLink', 'ManyNames$Flow', 40, ('java/lang/System', 'arraycopy', '(Ljava/lang/Object;ILjava/lang/Object;II)V'))
theorem lX0_46 : ML RX0 46 mX0_search := aw_me (dkT_at _ _ tbK_10 7 _ rfl) rfl
theorem lX0_57 : MLN RX0 57 mX6_hasBit := dkT_at _ _ tbK_10 9 _ rfl
theorem lX0_50 : ML RX0 50 mX0_push := aw_me (dkT_at _ _ tbK_10 10 _ rfl) rfl
theorem lX0_61 : ML RX0 61 mJ9_min_7cf53 := aw_me (dkT_at _ _ tbK_10 12 _ rfl) rfl
theorem lL_81 : ML RL 81 mX6_heap := aw_me (dkT_at _ _ tbK_10 14 _ rfl) rfl
theorem lX6_196 : ML RX6 196 mX6_isHeap := aw_me (dkT_at _ _ tbK_10 17 _ rfl) rfl
theorem lL_85 : ML RL 85 mX6_cut := aw_me (dkT_at _ _ tbK_10 19 _ rfl) rfl
theorem lX6_202 : ML RX6 202 mX6_tiesOutOf := aw_me (dkT_at _ _ tbK_10 22 _ rfl) rfl
theorem lX6_205 : ML RX6 205 mX6_givenBeyond := aw_me (dkT_at _ _ tbK_10 24 _ rfl) rfl
theorem lL_89 : ML RL 89 mX6_low := aw_me (dkT_at _ _ tbK_10 26 _ rfl) rfl
theorem lX6_208 : ML RX6 208 mX6_isPlain := aw_me (dkT_at _ _ tbK_10 29 _ rfl) rfl
theorem lL_93 : ML RL 93 mX6_twins := aw_me (dkT_at _ _ tbK_10 31 _ rfl) rfl
theorem lX6_211 : ML RX6 211 mX6_fillTrusts := aw_me (dkT_at _ _ tbK_11 2 _ rfl) rfl
theorem lL_97 : ML RL 97 mX6_word := aw_me (dkT_at _ _ tbK_11 4 _ rfl) rfl
theorem lX6_214 : ML RX6 214 mX6_refusalOf := aw_me (dkT_at _ _ tbK_11 7 _ rfl) rfl
theorem lX6_217 : ML RX6 217 mX5_enter := aw_me (dkT_at _ _ tbK_11 9 _ rfl) rfl
theorem lX5_38 : ML RX5 38 mX5_isNewDeal := aw_me (dkT_at _ _ tbK_11 12 _ rfl) rfl
theorem lL_101 : ML RL 101 mX6_wordOf := aw_me (dkT_at _ _ tbK_11 14 _ rfl) rfl
theorem lX6_218 : ML RX6 218 mX6_isWord := aw_me (dkT_at _ _ tbK_11 17 _ rfl) rfl
theorem lX6_234 : ML RX6 234 mX5_doesCount := aw_me (dkT_at _ _ tbK_11 19 _ rfl) rfl
theorem lX5_42 : ML RX5 42 mX5_countingOf := aw_me (dkT_at _ _ tbK_11 22 _ rfl) rfl
theorem lL_105 : ML RL 105 mX6_weight := aw_me (dkT_at _ _ tbK_11 25 _ rfl) rfl
theorem lX6_237 : ML RX6 237 mX6_sayersOf := aw_me (dkT_at _ _ tbK_11 28 _ rfl) rfl
theorem lX6_240 : ML RX6 240 mX6_weighSayers := aw_me (dkT_at _ _ tbK_11 30 _ rfl) rfl
theorem lX6_342 : ML RX6 342 mX5_countingOf := aw_me (dkT_at _ _ tbK_12 0 _ rfl) rfl
theorem lL_109 : ML RL 109 mX6_sayers := aw_me (dkT_at _ _ tbK_12 1 _ rfl) rfl
theorem lL_113 : ML RL 113 mX6_mark := aw_me (dkT_at _ _ tbK_12 4 _ rfl) rfl
theorem lX6_243 : ML RX6 243 mX6_summedMarks := aw_me (dkT_at _ _ tbK_12 7 _ rfl) rfl
theorem lX6_247 : ML RX6 247 mX6_inLowest := aw_me (dkT_at _ _ tbK_12 9 _ rfl) rfl
theorem lX6_345 : ML RX6 345 mX6_commonPart := aw_me (dkT_at _ _ tbK_12 11 _ rfl) rfl
theorem lX6_349 : ML RX6 349 mJ9_max_f86c9 := aw_me (dkT_at _ _ tbK_12 13 _ rfl) rfl
theorem lL_117 : ML RL 117 mX6_span := aw_me (dkT_at _ _ tbK_12 15 _ rfl) rfl
theorem lX6_251 : ML RX6 251 mX6_greatestStakes := aw_me (dkT_at _ _ tbK_12 18 _ rfl) rfl
theorem lL_122 : ML RL 122 mX6_ring := aw_me (dkT_at _ _ tbK_12 20 _ rfl) rfl
theorem lX6_256 : ML RX6 256 mX6_wordsWithin := aw_me (dkT_at _ _ tbK_12 23 _ rfl) rfl
theorem lL_126 : ML RL 126 mX6_odds := aw_me (dkT_at _ _ tbK_12 25 _ rfl) rfl
theorem qX6_259 : Cond.constantLong RX6 259 (-1) ∈ aw_tb := aw_me (dkT_at _ _ tbK_12 28 _ rfl) rfl
theorem lX6_261 : ML RX6 261 mX6_waysOf := aw_me (dkT_at _ _ tbK_12 29 _ rfl) rfl
theorem lX6_265 : ML RX6 265 mX6_choose := aw_me (dkT_at _ _ tbK_12 31 _ rfl) rfl
theorem lL_131 : ML RL 131 mX6_oddest := aw_me (dkT_at _ _ tbK_13 1 _ rfl) rfl
theorem qX6_268 : Cond.constantLong RX6 268 (-4) ∈ aw_tb := aw_me (dkT_at _ _ tbK_13 4 _ rfl) rfl
theorem lL_136 : ML RL 136 mX6_gain := aw_me (dkT_at _ _ tbK_13 5 _ rfl) rfl
theorem lX6_270 : ML RX6 270 mX6_isOffer := aw_me (dkT_at _ _ tbK_13 8 _ rfl) rfl
theorem lX6_273 : ML RX6 273 mX6_sellingNames := aw_me (dkT_at _ _ tbK_13 10 _ rfl) rfl
theorem qX6_276 : Cond.constant RX6 276 (-1000000) ∈ aw_tb := aw_me (dkT_at _ _ tbK_13 12 _ rfl) rfl
theorem lX6_277 : ML RX6 277 mX6_boughtRoom := aw_me (dkT_at _ _ tbK_13 13 _ rfl) rfl
theorem lX6_280 : ML RX6 280 mX6_gainBy := aw_me (dkT_at _ _ tbK_13 15 _ rfl) rfl
theorem lX6_354 : ML RX6 354 mX0_partCheat := aw_me (dkT_at _ _ tbK_13 17 _ rfl) rfl
theorem lL_140 : ML RL 140 mX6_best := aw_me (dkT_at _ _ tbK_13 20 _ rfl) rfl
theorem lL_144 : ML RL 144 mX6_sheet := aw_me (dkT_at _ _ tbK_13 23 _ rfl) rfl
theorem lX6_284 : ML RX6 284 mX6_isSheet := aw_me (dkT_at _ _ tbK_13 26 _ rfl) rfl
theorem lX6_287 : ML RX6 287 mX6_isLane := aw_me (dkT_at _ _ tbK_13 28 _ rfl) rfl
theorem lX6_290 : ML RX6 290 mX2_renewRow := aw_me (dkT_at _ _ tbK_13 30 _ rfl) rfl
theorem lX2_19 : ML RX2 19 mJ7_fill_53178 := aw_me (dkT_at _ _ tbK_14 1 _ rfl) rfl
theorem lL_148 : ML RL 148 mX6_lay := aw_me (dkT_at _ _ tbK_14 2 _ rfl) rfl
theorem lX6_294 : ML RX6 294 mX2_faultAt := aw_me (dkT_at _ _ tbK_14 5 _ rfl) rfl
theorem lX2_28 : ML RX2 28 mX2_isNothing := aw_me (dkT_at _ _ tbK_14 8 _ rfl) rfl
theorem lX2_32 : MLN RX2 32 mX6_within := dkT_at _ _ tbK_14 11 _ rfl
theorem lX6_297 : ML RX6 297 mX2_put := aw_me (dkT_at _ _ tbK_14 12 _ rfl) rfl
theorem lL_152 : ML RL 152 mX6_read := aw_me (dkT_at _ _ tbK_14 15 _ rfl) rfl
theorem lX6_300 : ML RX6 300 mX2_wholeWords := aw_me (dkT_at _ _ tbK_14 18 _ rfl) rfl
theorem lX2_36 : ML RX2 36 mJ9_min_7cf53 := aw_me (dkT_at _ _ tbK_14 21 _ rfl) rfl
theorem lX6_306 : ML RX6 306 mX2_faultOfReading := aw_me (dkT_at _ _ tbK_14 22 _ rfl) rfl
theorem lL_156 : ML RL 156 mX6_lost := aw_me (dkT_at _ _ tbK_14 25 _ rfl) rfl
theorem lL_160 : ML RL 160 mX6_count := aw_me (dkT_at _ _ tbK_14 28 _ rfl) rfl
theorem lX6_312 : ML RX6 312 mX6_countTrue := aw_me (dkT_at _ _ tbK_14 31 _ rfl) rfl
theorem lX6_316 : ML RX6 316 mX6_countFined := aw_me (dkT_at _ _ tbK_15 1 _ rfl) rfl
theorem lX6_319 : ML RX6 319 mX5_countingOnes := aw_me (dkT_at _ _ tbK_15 3 _ rfl) rfl
theorem lX5_46 : ML RX5 46 mX5_doesCount := aw_me (dkT_at _ _ tbK_15 6 _ rfl) rfl
theorem lX5_49 : MLN RX5 49 mX6_oneIf := dkT_at _ _ tbK_15 7 _ rfl
theorem lX6_322 : ML RX6 322 mX2_isNothing := aw_me (dkT_at _ _ tbK_15 8 _ rfl) rfl
theorem lL_12 : ML RL 12 mX7_init := aw_me (dkT_at _ _ tbK_15 9 _ rfl) rfl
-- link: ('methodLink', 'ManyNamesModel', 1, ('java/lang/Object', '<init>', '()V'))
theorem lX7_92 : ML RX7 92 mX7_firstRules := aw_me (dkT_at _ _ tbK_15 10 _ rfl) rfl
theorem lX7_95 : ML RX7 95 mX7_keepRules := aw_me (dkT_at _ _ tbK_15 12 _ rfl) rfl
theorem gX7_98 : FL RX7 98 7 0 := ⟨RX7, TX7, 44, rfl, by decide, aw_me (dkT_at _ _ tbK_15 14 _ rfl) rfl, wnX7, rfl⟩
theorem gX7_7 : FL RX7 7 7 1 := ⟨RX7, TX7, 44, rfl, by decide, aw_me (dkT_at _ _ tbK_15 15 _ rfl) rfl, wnX7, rfl⟩
theorem gX7_13 : FL RX7 13 7 2 := ⟨RX7, TX7, 44, rfl, by decide, aw_me (dkT_at _ _ tbK_15 16 _ rfl) rfl, wnX7, rfl⟩
theorem gX7_17 : FL RX7 17 7 3 := ⟨RX7, TX7, 44, rfl, by decide, aw_me (dkT_at _ _ tbK_15 17 _ rfl) rfl, wnX7, rfl⟩
theorem gX7_20 : FL RX7 20 7 4 := ⟨RX7, TX7, 44, rfl, by decide, aw_me (dkT_at _ _ tbK_15 18 _ rfl) rfl, wnX7, rfl⟩
theorem gX7_23 : FL RX7 23 7 5 := ⟨RX7, TX7, 44, rfl, by decide, aw_me (dkT_at _ _ tbK_15 19 _ rfl) rfl, wnX7, rfl⟩
theorem gX7_121 : FL RX7 121 7 6 := ⟨RX7, TX7, 44, rfl, by decide, aw_me (dkT_at _ _ tbK_15 20 _ rfl) rfl, wnX7, rfl⟩
theorem gX7_26 : FL RX7 26 7 7 := ⟨RX7, TX7, 44, rfl, by decide, aw_me (dkT_at _ _ tbK_15 21 _ rfl) rfl, wnX7, rfl⟩
theorem gX7_29 : FL RX7 29 7 8 := ⟨RX7, TX7, 44, rfl, by decide, aw_me (dkT_at _ _ tbK_15 22 _ rfl) rfl, wnX7, rfl⟩
theorem gX7_32 : FL RX7 32 7 9 := ⟨RX7, TX7, 44, rfl, by decide, aw_me (dkT_at _ _ tbK_15 23 _ rfl) rfl, wnX7, rfl⟩
theorem gX7_35 : FL RX7 35 7 10 := ⟨RX7, TX7, 44, rfl, by decide, aw_me (dkT_at _ _ tbK_15 24 _ rfl) rfl, wnX7, rfl⟩
theorem gX7_38 : FL RX7 38 7 11 := ⟨RX7, TX7, 44, rfl, by decide, aw_me (dkT_at _ _ tbK_15 25 _ rfl) rfl, wnX7, rfl⟩
theorem gX7_106 : FL RX7 106 7 12 := ⟨RX7, TX7, 44, rfl, by decide, aw_me (dkT_at _ _ tbK_15 26 _ rfl) rfl, wnX7, rfl⟩
theorem gX7_41 : FL RX7 41 7 13 := ⟨RX7, TX7, 44, rfl, by decide, aw_me (dkT_at _ _ tbK_15 27 _ rfl) rfl, wnX7, rfl⟩
theorem gX7_44 : FL RX7 44 7 14 := ⟨RX7, TX7, 44, rfl, by decide, aw_me (dkT_at _ _ tbK_15 28 _ rfl) rfl, wnX7, rfl⟩
theorem gX7_47 : FL RX7 47 7 15 := ⟨RX7, TX7, 44, rfl, by decide, aw_me (dkT_at _ _ tbK_15 29 _ rfl) rfl, wnX7, rfl⟩
theorem gX7_50 : FL RX7 50 7 16 := ⟨RX7, TX7, 44, rfl, by decide, aw_me (dkT_at _ _ tbK_15 30 _ rfl) rfl, wnX7, rfl⟩
theorem gX7_149 : FL RX7 149 7 17 := ⟨RX7, TX7, 44, rfl, by decide, aw_me (dkT_at _ _ tbK_15 31 _ rfl) rfl, wnX7, rfl⟩
theorem gX7_163 : FL RX7 163 7 18 := ⟨RX7, TX7, 44, rfl, by decide, aw_me (dkT_at _ _ tbK_16 0 _ rfl) rfl, wnX7, rfl⟩
theorem gX7_157 : FL RX7 157 7 19 := ⟨RX7, TX7, 44, rfl, by decide, aw_me (dkT_at _ _ tbK_16 1 _ rfl) rfl, wnX7, rfl⟩
theorem gX7_173 : FL RX7 173 7 20 := ⟨RX7, TX7, 44, rfl, by decide, aw_me (dkT_at _ _ tbK_16 2 _ rfl) rfl, wnX7, rfl⟩
theorem gX7_184 : FL RX7 184 7 21 := ⟨RX7, TX7, 44, rfl, by decide, aw_me (dkT_at _ _ tbK_16 3 _ rfl) rfl, wnX7, rfl⟩
theorem gX7_154 : FL RX7 154 7 22 := ⟨RX7, TX7, 44, rfl, by decide, aw_me (dkT_at _ _ tbK_16 4 _ rfl) rfl, wnX7, rfl⟩
theorem gX7_160 : FL RX7 160 7 23 := ⟨RX7, TX7, 44, rfl, by decide, aw_me (dkT_at _ _ tbK_16 5 _ rfl) rfl, wnX7, rfl⟩
theorem gX7_53 : FL RX7 53 7 24 := ⟨RX7, TX7, 44, rfl, by decide, aw_me (dkT_at _ _ tbK_16 6 _ rfl) rfl, wnX7, rfl⟩
theorem gX7_56 : FL RX7 56 7 25 := ⟨RX7, TX7, 44, rfl, by decide, aw_me (dkT_at _ _ tbK_16 7 _ rfl) rfl, wnX7, rfl⟩
theorem gX7_59 : FL RX7 59 7 26 := ⟨RX7, TX7, 44, rfl, by decide, aw_me (dkT_at _ _ tbK_16 8 _ rfl) rfl, wnX7, rfl⟩
theorem gX7_235 : FL RX7 235 7 27 := ⟨RX7, TX7, 44, rfl, by decide, aw_me (dkT_at _ _ tbK_16 9 _ rfl) rfl, wnX7, rfl⟩
theorem gX7_62 : FL RX7 62 7 28 := ⟨RX7, TX7, 44, rfl, by decide, aw_me (dkT_at _ _ tbK_16 10 _ rfl) rfl, wnX7, rfl⟩
theorem gX7_65 : FL RX7 65 7 29 := ⟨RX7, TX7, 44, rfl, by decide, aw_me (dkT_at _ _ tbK_16 11 _ rfl) rfl, wnX7, rfl⟩
theorem gX7_68 : FL RX7 68 7 30 := ⟨RX7, TX7, 44, rfl, by decide, aw_me (dkT_at _ _ tbK_16 12 _ rfl) rfl, wnX7, rfl⟩
theorem gX7_71 : FL RX7 71 7 31 := ⟨RX7, TX7, 44, rfl, by decide, aw_me (dkT_at _ _ tbK_16 13 _ rfl) rfl, wnX7, rfl⟩
theorem gX7_74 : FL RX7 74 7 32 := ⟨RX7, TX7, 44, rfl, by decide, aw_me (dkT_at _ _ tbK_16 14 _ rfl) rfl, wnX7, rfl⟩
theorem gX7_262 : FL RX7 262 7 33 := ⟨RX7, TX7, 44, rfl, by decide, aw_me (dkT_at _ _ tbK_16 15 _ rfl) rfl, wnX7, rfl⟩
theorem gX7_77 : FL RX7 77 7 34 := ⟨RX7, TX7, 44, rfl, by decide, aw_me (dkT_at _ _ tbK_16 16 _ rfl) rfl, wnX7, rfl⟩
theorem gX7_80 : FL RX7 80 7 35 := ⟨RX7, TX7, 44, rfl, by decide, aw_me (dkT_at _ _ tbK_16 17 _ rfl) rfl, wnX7, rfl⟩
theorem gX7_265 : FL RX7 265 7 36 := ⟨RX7, TX7, 44, rfl, by decide, aw_me (dkT_at _ _ tbK_16 18 _ rfl) rfl, wnX7, rfl⟩
theorem gX7_268 : FL RX7 268 7 37 := ⟨RX7, TX7, 44, rfl, by decide, aw_me (dkT_at _ _ tbK_16 19 _ rfl) rfl, wnX7, rfl⟩
theorem gX7_296 : FL RX7 296 7 38 := ⟨RX7, TX7, 44, rfl, by decide, aw_me (dkT_at _ _ tbK_16 20 _ rfl) rfl, wnX7, rfl⟩
theorem gX7_304 : FL RX7 304 7 39 := ⟨RX7, TX7, 44, rfl, by decide, aw_me (dkT_at _ _ tbK_16 21 _ rfl) rfl, wnX7, rfl⟩
theorem gX7_83 : FL RX7 83 7 40 := ⟨RX7, TX7, 44, rfl, by decide, aw_me (dkT_at _ _ tbK_16 22 _ rfl) rfl, wnX7, rfl⟩
theorem gX7_86 : FL RX7 86 7 41 := ⟨RX7, TX7, 44, rfl, by decide, aw_me (dkT_at _ _ tbK_16 23 _ rfl) rfl, wnX7, rfl⟩
theorem gX7_89 : FL RX7 89 7 42 := ⟨RX7, TX7, 44, rfl, by decide, aw_me (dkT_at _ _ tbK_16 24 _ rfl) rfl, wnX7, rfl⟩
theorem gX7_333 : FL RX7 333 7 43 := ⟨RX7, TX7, 44, rfl, by decide, aw_me (dkT_at _ _ tbK_16 25 _ rfl) rfl, wnX7, rfl⟩
theorem lL_17 : ML RL 17 mX7_name := aw_me (dkT_at _ _ tbK_16 26 _ rfl) rfl
theorem qX7_109 : Cond.constantLong RX7 109 (999) ∈ aw_tb := aw_me (dkT_at _ _ tbK_16 29 _ rfl) rfl
theorem lX7_102 : ML RX7 102 mX7_in := aw_me (dkT_at _ _ tbK_16 30 _ rfl) rfl
theorem lL_22 : ML RL 22 mX7_seed := aw_me (dkT_at _ _ tbK_17 0 _ rfl) rfl
theorem lX7_111 : ML RX7 111 mX7_isName := aw_me (dkT_at _ _ tbK_17 3 _ rfl) rfl
theorem lL_27 : ML RL 27 mX7_pledge := aw_me (dkT_at _ _ tbK_17 5 _ rfl) rfl
theorem lX7_115 : ML RX7 115 mX7_pledged := aw_me (dkT_at _ _ tbK_17 8 _ rfl) rfl
theorem lL_32 : ML RL 32 mX7_tie := aw_me (dkT_at _ _ tbK_17 10 _ rfl) rfl
theorem qX7_119 : Cond.constantLong RX7 119 (3) ∈ aw_tb := aw_me (dkT_at _ _ tbK_17 13 _ rfl) rfl
theorem lL_36 : ML RL 36 mX7_tieOf := aw_me (dkT_at _ _ tbK_17 14 _ rfl) rfl
theorem lX7_131 : ML RX7 131 mX7_isTie := aw_me (dkT_at _ _ tbK_17 17 _ rfl) rfl
theorem qX7_134 : Cond.constantLong RX7 134 (5) ∈ aw_tb := aw_me (dkT_at _ _ tbK_17 19 _ rfl) rfl
theorem lX7_136 : ML RX7 136 mX7_roomOf := aw_me (dkT_at _ _ tbK_17 20 _ rfl) rfl
theorem lX7_124 : ML RX7 124 mX7_faded := aw_me (dkT_at _ _ tbK_17 22 _ rfl) rfl
theorem lX7_128 : ML RX7 128 mX7_isFined := aw_me (dkT_at _ _ tbK_17 24 _ rfl) rfl
theorem lL_40 : ML RL 40 mX7_renew := aw_me (dkT_at _ _ tbK_17 26 _ rfl) rfl
theorem lL_44 : ML RL 44 mX7_of := aw_me (dkT_at _ _ tbK_17 29 _ rfl) rfl
theorem qX7_139 : Cond.constantLong RX7 139 (6) ∈ aw_tb := aw_me (dkT_at _ _ tbK_18 0 _ rfl) rfl
theorem lX7_141 : ML RX7 141 mX7_given := aw_me (dkT_at _ _ tbK_18 1 _ rfl) rfl
theorem lL_48 : ML RL 48 mX7_made := aw_me (dkT_at _ _ tbK_18 3 _ rfl) rfl
theorem lX7_144 : ML RX7 144 mX7_bits := aw_me (dkT_at _ _ tbK_18 6 _ rfl) rfl
theorem lL_52 : ML RL 52 mX7_day := aw_me (dkT_at _ _ tbK_18 8 _ rfl) rfl
theorem qX7_147 : Cond.constantLong RX7 147 (9999) ∈ aw_tb := aw_me (dkT_at _ _ tbK_18 11 _ rfl) rfl
theorem lL_59 : ML RL 59 mX7_feed := aw_me (dkT_at _ _ tbK_18 12 _ rfl) rfl
theorem qX7_152 : Cond.constantLong RX7 152 (255) ∈ aw_tb := aw_me (dkT_at _ _ tbK_18 15 _ rfl) rfl
theorem lL_63 : ML RL 63 mX7_end := aw_me (dkT_at _ _ tbK_18 16 _ rfl) rfl
theorem lL_68 : ML RL 68 mX7_rules := aw_me (dkT_at _ _ tbK_18 19 _ rfl) rfl
theorem lX7_195 : ML RX7 195 mX7_next := aw_me (dkT_at _ _ tbK_18 22 _ rfl) rfl
theorem lX7_166 : ML RX7 166 mX7_look := aw_me (dkT_at _ _ tbK_18 24 _ rfl) rfl
theorem qX7_176 : Cond.constantLong RX7 176 (97) ∈ aw_tb := aw_me (dkT_at _ _ tbK_18 26 _ rfl) rfl
theorem qX7_178 : Cond.constantLong RX7 178 (122) ∈ aw_tb := aw_me (dkT_at _ _ tbK_18 27 _ rfl) rfl
theorem lX7_180 : ML RX7 180 mX7_nameNow := aw_me (dkT_at _ _ tbK_18 28 _ rfl) rfl
theorem lX7_169 : ML RX7 169 mX7_is := aw_me (dkT_at _ _ tbK_18 30 _ rfl) rfl
theorem lX7_187 : ML RX7 187 mX7_wants := aw_me (dkT_at _ _ tbK_19 0 _ rfl) rfl
theorem qX7_191 : Cond.constantLong RX7 191 (48) ∈ aw_tb := aw_me (dkT_at _ _ tbK_19 2 _ rfl) rfl
theorem qX7_193 : Cond.constantLong RX7 193 (57) ∈ aw_tb := aw_me (dkT_at _ _ tbK_19 3 _ rfl) rfl
theorem lX7_204 : ML RX7 204 mX7_readLine := aw_me (dkT_at _ _ tbK_19 4 _ rfl) rfl
theorem lX7_198 : ML RX7 198 mX7_least := aw_me (dkT_at _ _ tbK_19 6 _ rfl) rfl
theorem lX7_201 : ML RX7 201 mX7_most := aw_me (dkT_at _ _ tbK_19 8 _ rfl) rfl
theorem lL_72 : ML RL 72 mX7_fault := aw_me (dkT_at _ _ tbK_19 10 _ rfl) rfl
theorem lL_76 : ML RL 76 mX7_rule := aw_me (dkT_at _ _ tbK_19 13 _ rfl) rfl
theorem qX7_207 : Cond.constantLong RX7 207 (9) ∈ aw_tb := aw_me (dkT_at _ _ tbK_19 16 _ rfl) rfl
theorem lL_80 : ML RL 80 mX7_trust := aw_me (dkT_at _ _ tbK_19 17 _ rfl) rfl
theorem lX7_220 : ML RX7 220 mX7_trustOf := aw_me (dkT_at _ _ tbK_19 20 _ rfl) rfl
theorem lX7_214 : ML RX7 214 mX7_begins := aw_me (dkT_at _ _ tbK_19 22 _ rfl) rfl
theorem qX7_213 : Cond.constant RX7 213 (100000000) ∈ aw_tb := aw_me (dkT_at _ _ tbK_19 24 _ rfl) rfl
theorem lX7_217 : ML RX7 217 mX7_flows := aw_me (dkT_at _ _ tbK_19 25 _ rfl) rfl
theorem lX7_209 : ML RX7 209 mX7_reaches := aw_me (dkT_at _ _ tbK_19 27 _ rfl) rfl
theorem lL_84 : ML RL 84 mX7_heap := aw_me (dkT_at _ _ tbK_19 29 _ rfl) rfl
theorem lX7_223 : ML RX7 223 mX7_areNames := aw_me (dkT_at _ _ tbK_20 0 _ rfl) rfl
theorem lL_88 : ML RL 88 mX7_cut := aw_me (dkT_at _ _ tbK_20 2 _ rfl) rfl
theorem qX7_226 : Cond.constantLong RX7 226 (2) ∈ aw_tb := aw_me (dkT_at _ _ tbK_20 5 _ rfl) rfl
theorem lL_92 : ML RL 92 mX7_low := aw_me (dkT_at _ _ tbK_20 6 _ rfl) rfl
theorem lX7_228 : ML RX7 228 mX7_isPlain := aw_me (dkT_at _ _ tbK_20 9 _ rfl) rfl
theorem lL_96 : ML RL 96 mX7_twins := aw_me (dkT_at _ _ tbK_20 11 _ rfl) rfl
theorem lL_100 : ML RL 100 mX7_word := aw_me (dkT_at _ _ tbK_20 14 _ rfl) rfl
theorem lX7_238 : ML RX7 238 mX7_isWord := aw_me (dkT_at _ _ tbK_20 17 _ rfl) rfl
theorem qX7_231 : Cond.constantLong RX7 231 (99) ∈ aw_tb := aw_me (dkT_at _ _ tbK_20 19 _ rfl) rfl
theorem qX7_233 : Cond.constantLong RX7 233 (10) ∈ aw_tb := aw_me (dkT_at _ _ tbK_20 20 _ rfl) rfl
theorem lX7_242 : ML RX7 242 mX7_says := aw_me (dkT_at _ _ tbK_20 21 _ rfl) rfl
theorem lL_104 : ML RL 104 mX7_wordOf := aw_me (dkT_at _ _ tbK_20 23 _ rfl) rfl
theorem lX7_249 : ML RX7 249 mX7_counts := aw_me (dkT_at _ _ tbK_20 26 _ rfl) rfl
theorem lX7_246 : ML RX7 246 mX7_isFirst := aw_me (dkT_at _ _ tbK_20 28 _ rfl) rfl
theorem lL_108 : ML RL 108 mX7_weight := aw_me (dkT_at _ _ tbK_20 30 _ rfl) rfl
theorem lX7_256 : ML RX7 256 mX7_sayersOf := aw_me (dkT_at _ _ tbK_21 1 _ rfl) rfl
theorem lX7_252 : ML RX7 252 mX7_wordBy := aw_me (dkT_at _ _ tbK_21 3 _ rfl) rfl
theorem lX7_259 : ML RX7 259 mX7_weightOf := aw_me (dkT_at _ _ tbK_21 5 _ rfl) rfl
theorem lL_112 : ML RL 112 mX7_sayers := aw_me (dkT_at _ _ tbK_21 7 _ rfl) rfl
theorem lL_116 : ML RL 116 mX7_mark := aw_me (dkT_at _ _ tbK_21 10 _ rfl) rfl
theorem lX7_275 : ML RX7 275 mX7_lists := aw_me (dkT_at _ _ tbK_21 13 _ rfl) rfl
theorem lX7_279 : ML RX7 279 mX7_fraction := aw_me (dkT_at _ _ tbK_21 15 _ rfl) rfl
theorem lX7_271 : ML RX7 271 mX7_common := aw_me (dkT_at _ _ tbK_21 17 _ rfl) rfl
theorem lL_121 : ML RL 121 mX7_span := aw_me (dkT_at _ _ tbK_21 19 _ rfl) rfl
theorem lX7_282 : ML RX7 282 mX7_moved := aw_me (dkT_at _ _ tbK_21 22 _ rfl) rfl
theorem lL_125 : ML RL 125 mX7_ring := aw_me (dkT_at _ _ tbK_21 24 _ rfl) rfl
theorem lX7_293 : ML RX7 293 mX7_ringOf := aw_me (dkT_at _ _ tbK_21 27 _ rfl) rfl
theorem lX7_286 : ML RX7 286 mX7_isBetween := aw_me (dkT_at _ _ tbK_21 29 _ rfl) rfl
theorem lX7_290 : ML RX7 290 mX7_isGood := aw_me (dkT_at _ _ tbK_21 31 _ rfl) rfl
theorem lL_130 : ML RL 130 mX7_odds := aw_me (dkT_at _ _ tbK_22 1 _ rfl) rfl
theorem qX7_307 : Cond.constantLong RX7 307 (-1) ∈ aw_tb := aw_me (dkT_at _ _ tbK_22 4 _ rfl) rfl
theorem lX7_309 : ML RX7 309 mX7_findOdds := aw_me (dkT_at _ _ tbK_22 5 _ rfl) rfl
theorem lX7_300 : ML RX7 300 mX7_ways := aw_me (dkT_at _ _ tbK_22 7 _ rfl) rfl
theorem lL_135 : ML RL 135 mX7_oddest := aw_me (dkT_at _ _ tbK_22 9 _ rfl) rfl
theorem qX7_312 : Cond.constantLong RX7 312 (-4) ∈ aw_tb := aw_me (dkT_at _ _ tbK_22 12 _ rfl) rfl
theorem lL_139 : ML RL 139 mX7_gain := aw_me (dkT_at _ _ tbK_22 13 _ rfl) rfl
theorem lX7_317 : ML RX7 317 mX7_sellers := aw_me (dkT_at _ _ tbK_22 16 _ rfl) rfl
theorem lX7_314 : ML RX7 314 mX7_sells := aw_me (dkT_at _ _ tbK_22 18 _ rfl) rfl
theorem qX7_320 : Cond.constant RX7 320 (-1000000) ∈ aw_tb := aw_me (dkT_at _ _ tbK_22 20 _ rfl) rfl
theorem lX7_321 : ML RX7 321 mX7_gainOf := aw_me (dkT_at _ _ tbK_22 21 _ rfl) rfl
theorem lL_143 : ML RL 143 mX7_best := aw_me (dkT_at _ _ tbK_22 23 _ rfl) rfl
theorem lL_147 : ML RL 147 mX7_sheet := aw_me (dkT_at _ _ tbK_22 26 _ rfl) rfl
theorem lX7_324 : ML RX7 324 mX7_isSheet := aw_me (dkT_at _ _ tbK_22 29 _ rfl) rfl
theorem lL_151 : ML RL 151 mX7_lay := aw_me (dkT_at _ _ tbK_22 31 _ rfl) rfl
theorem lL_155 : ML RL 155 mX7_read := aw_me (dkT_at _ _ tbK_23 2 _ rfl) rfl
theorem qX7_327 : Cond.constantLong RX7 327 (12) ∈ aw_tb := aw_me (dkT_at _ _ tbK_23 5 _ rfl) rfl
theorem lX7_329 : ML RX7 329 mX7_refuses := aw_me (dkT_at _ _ tbK_23 6 _ rfl) rfl
theorem lL_159 : ML RL 159 mX7_lost := aw_me (dkT_at _ _ tbK_23 8 _ rfl) rfl
theorem lL_163 : ML RL 163 mX7_count := aw_me (dkT_at _ _ tbK_23 11 _ rfl) rfl
theorem qL_53 : Cond.constantLong RL 53 (4294967295) ∈ aw_tb := aw_me (dkT_at _ _ tbK_23 14 _ rfl) rfl
-- field: ('fieldLink', 'java/lang/String', 9, 'java/lang/String', 'value', '[B')
-- field: ('fieldLink', 'java/lang/String', 15, 'java/lang/String', 'coder', 'B')
