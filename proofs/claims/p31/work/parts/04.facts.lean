def layX : List SP := [(9, 0, [3, 4, 5, 6, 7, 8, 13, 14, 15, 16, 17, 0, 0]), (4, 0, [18, 19, 20, 21, 22, 0]), (7, 0, [23, 24, 25, 26, 27, 0]), (8, 0, [28, 29, 30, 31, 32, 33, 34, 0]), (6, 0, [35, 0, 0, 0, 0, 0, 0, 0]), (3, 0, [36, 37, 38, 39, 40, 41, 0]), (2, 4, [7, 8, 9, 10]), (5, 0, [42, 0, 0]), (5, 0, [43, 0, 0]), (5, 0, [44, 0, 0]), (5, 0, [45, 0, 0]), (0, 10, []), (0, 10, []), (0, 12, []), (0, 12, []), (0, 12, []), (0, 12, []), (1, 12, []), (1, 12, []), (0, 12, []), (0, 12, []), (0, 24, []), (0, 24, []), (0, 24, []), (0, 24, []), (0, 24, []), (0, 24, []), (0, 24, []), (0, 24, []), (0, 24, []), (0, 24, []), (0, 24, []), (1, 24, []), (0, 200, []), (0, 196, []), (0, 14, []), (0, 196, []), (0, 14, []), (0, 14, []), (0, 14, []), (0, 48, []), (0, 48, []), (0, 48, []), (0, 48, [])]
def layM : List SP := [(10, 0, [0, 3, 4, 5, 6, 7, 0, 8, 9, 10, 11, 12, 0, 13, 14, 15, 16, 0, 0, 0, 0, 0, 0, 0, 17, 18, 19, 0, 20, 21, 22, 23, 24, 0, 25, 26, 0, 0, 1, 1, 27, 28, 29, 0]), (0, 12, []), (1, 12, []), (1, 12, []), (0, 12, []), (0, 12, []), (0, 24, []), (0, 24, []), (0, 24, []), (0, 24, []), (0, 24, []), (0, 10, []), (0, 10, []), (1, 10, []), (0, 200, []), (0, 196, []), (0, 14, []), (0, 14, []), (0, 24, []), (0, 24, []), (0, 24, []), (0, 24, []), (0, 24, []), (0, 12, []), (0, 12, []), (0, 4, []), (0, 4, []), (0, 192, [])]
-- X cells: 0.held=11, 0.draft=12, 0.weights=13, 0.marks=14, 0.stakes=15, 1.price=16, 1.seed=17, 1.made=18, 1.finedTo=19, 1.coins=20, 2.first=21, 2.second=22, 2.room=23, 2.kind=24, 2.since=25, 3.sayer=26, 3.seller=27, 3.deal=28, 3.mark=29, 3.since=30, 3.bothEnds=31, 3.firstOfDeal=32, 4.bytes=33, 5.rooms=34, 5.ways=35, 5.left=36, 5.open=37, 5.from=38, 5.queue=39, 7.cells=40, 8.cells=41, 9.cells=42, 10.cells=43
-- M cells: price=1, isSeed=2, isMade=3, finedTo=4, coins=5, one=6, two=7, told=8, kind=9, since=10, rules=11, draft=12, isTold=13, tape=14, left=15, by=16, row=17, who=18, seller=19, deal=20, marked=21, saidOn=22, weights=23, marks=24, lanes=25, sizes=26, cells=27
abbrev wX (l : Launch) (g : Geo) (sta : Nat → Nat) : WT := (l, g, layX, sta)
abbrev wM (l : Launch) (g : Geo) (sta : Nat → Nat) : WT := (l, g, layM, sta)
theorem wnX0 : ∀ w ∈ wsX00, w ∈ aw_tb := by
  have h : ∀ w ∈ wsX00, goodWord w = true := by decide +kernel
  exact fun w hw => List.mem_filter.mpr ⟨inX0 w hw, h w hw⟩
theorem clsX0 : CLS 0 RX0 := ⟨_, rfl, rfl⟩
theorem fpX0_6 : FP_ 0 6 .int := ⟨RX0, TX0, 7, tyX0, rfl, tyX0_ok, nmX0, rfl, by decide +kernel⟩
theorem wnX1 : ∀ w ∈ wsX10, w ∈ aw_tb := by
  have h : ∀ w ∈ wsX10, goodWord w = true := by decide +kernel
  exact fun w hw => List.mem_filter.mpr ⟨inX1 w hw, h w hw⟩
theorem clsX1 : CLS 1 RX1 := ⟨_, rfl, rfl⟩
theorem fpX1_5 : FP_ 1 5 .int := ⟨RX1, TX1, 6, tyX1, rfl, tyX1_ok, nmX1, rfl, by decide +kernel⟩
theorem wnX2 : ∀ w ∈ wsX20, w ∈ aw_tb := by
  have h : ∀ w ∈ wsX20, goodWord w = true := by decide +kernel
  exact fun w hw => List.mem_filter.mpr ⟨inX2 w hw, h w hw⟩
theorem clsX2 : CLS 2 RX2 := ⟨_, rfl, rfl⟩
theorem fpX2_1 : FP_ 2 1 .int := ⟨RX2, TX2, 3, tyX2, rfl, tyX2_ok, nmX2, rfl, by decide +kernel⟩
theorem fpX2_2 : FP_ 2 2 .int := ⟨RX2, TX2, 3, tyX2, rfl, tyX2_ok, nmX2, rfl, by decide +kernel⟩
theorem wnX3 : ∀ w ∈ wsX30, w ∈ aw_tb := by
  have h : ∀ w ∈ wsX30, goodWord w = true := by decide +kernel
  exact fun w hw => List.mem_filter.mpr ⟨inX3 w hw, h w hw⟩
theorem clsX3 : CLS 3 RX3 := ⟨_, rfl, rfl⟩
theorem fpX3_1 : FP_ 3 1 .int := ⟨RX3, TX3, 8, tyX3, rfl, tyX3_ok, nmX3, rfl, by decide +kernel⟩
theorem fpX3_2 : FP_ 3 2 .int := ⟨RX3, TX3, 8, tyX3, rfl, tyX3_ok, nmX3, rfl, by decide +kernel⟩
theorem fpX3_3 : FP_ 3 3 .int := ⟨RX3, TX3, 8, tyX3, rfl, tyX3_ok, nmX3, rfl, by decide +kernel⟩
theorem fpX3_4 : FP_ 3 4 .int := ⟨RX3, TX3, 8, tyX3, rfl, tyX3_ok, nmX3, rfl, by decide +kernel⟩
theorem fpX3_5 : FP_ 3 5 .int := ⟨RX3, TX3, 8, tyX3, rfl, tyX3_ok, nmX3, rfl, by decide +kernel⟩
theorem fpX3_6 : FP_ 3 6 .int := ⟨RX3, TX3, 8, tyX3, rfl, tyX3_ok, nmX3, rfl, by decide +kernel⟩
theorem fpX3_7 : FP_ 3 7 .int := ⟨RX3, TX3, 8, tyX3, rfl, tyX3_ok, nmX3, rfl, by decide +kernel⟩
theorem wnX4 : ∀ w ∈ wsX40, w ∈ aw_tb := by
  have h : ∀ w ∈ wsX40, goodWord w = true := by decide +kernel
  exact fun w hw => List.mem_filter.mpr ⟨inX4 w hw, h w hw⟩
theorem clsX4 : CLS 4 RX4 := ⟨_, rfl, rfl⟩
theorem fpX4_5 : FP_ 4 5 .int := ⟨RX4, TX4, 6, tyX4, rfl, tyX4_ok, nmX4, rfl, by decide +kernel⟩
theorem wnX5 : ∀ w ∈ wsX50, w ∈ aw_tb := by
  have h : ∀ w ∈ wsX50, goodWord w = true := by decide +kernel
  exact fun w hw => List.mem_filter.mpr ⟨inX5 w hw, h w hw⟩
theorem clsX5 : CLS 5 RX5 := ⟨_, rfl, rfl⟩
theorem fpX5_7 : FP_ 5 7 .int := ⟨RX5, TX5, 8, tyX5, rfl, tyX5_ok, nmX5, rfl, by decide +kernel⟩
theorem wnX6 : ∀ w ∈ wsX60, w ∈ aw_tb := by
  have h : ∀ w ∈ wsX60, goodWord w = true := by decide +kernel
  exact fun w hw => List.mem_filter.mpr ⟨inX6 w hw, h w hw⟩
theorem clsX6 : CLS 6 RX6 := ⟨_, rfl, rfl⟩
theorem fpX6_11 : FP_ 6 11 .int := ⟨RX6, TX6, 13, tyX6, rfl, tyX6_ok, nmX6, rfl, by decide +kernel⟩
theorem fpX6_12 : FP_ 6 12 .int := ⟨RX6, TX6, 13, tyX6, rfl, tyX6_ok, nmX6, rfl, by decide +kernel⟩
theorem wnX7 : ∀ w ∈ wsX70, w ∈ aw_tb := by
  have h : ∀ w ∈ wsX70, goodWord w = true := by decide +kernel
  exact fun w hw => List.mem_filter.mpr ⟨inX7 w hw, h w hw⟩
theorem clsX7 : CLS 7 RX7 := ⟨_, rfl, rfl⟩
theorem fpX7_0 : FP_ 7 0 .int := ⟨RX7, TX7, 44, tyX7, rfl, tyX7_ok, nmX7, rfl, by decide +kernel⟩
theorem fpX7_6 : FP_ 7 6 .int := ⟨RX7, TX7, 44, tyX7, rfl, tyX7_ok, nmX7, rfl, by decide +kernel⟩
theorem fpX7_12 : FP_ 7 12 .int := ⟨RX7, TX7, 44, tyX7, rfl, tyX7_ok, nmX7, rfl, by decide +kernel⟩
theorem fpX7_17 : FP_ 7 17 .int := ⟨RX7, TX7, 44, tyX7, rfl, tyX7_ok, nmX7, rfl, by decide +kernel⟩
theorem fpX7_18 : FP_ 7 18 .int := ⟨RX7, TX7, 44, tyX7, rfl, tyX7_ok, nmX7, rfl, by decide +kernel⟩
theorem fpX7_19 : FP_ 7 19 .int := ⟨RX7, TX7, 44, tyX7, rfl, tyX7_ok, nmX7, rfl, by decide +kernel⟩
theorem fpX7_20 : FP_ 7 20 .int := ⟨RX7, TX7, 44, tyX7, rfl, tyX7_ok, nmX7, rfl, by decide +kernel⟩
theorem fpX7_21 : FP_ 7 21 .int := ⟨RX7, TX7, 44, tyX7, rfl, tyX7_ok, nmX7, rfl, by decide +kernel⟩
theorem fpX7_22 : FP_ 7 22 .int := ⟨RX7, TX7, 44, tyX7, rfl, tyX7_ok, nmX7, rfl, by decide +kernel⟩
theorem fpX7_23 : FP_ 7 23 .int := ⟨RX7, TX7, 44, tyX7, rfl, tyX7_ok, nmX7, rfl, by decide +kernel⟩
theorem fpX7_27 : FP_ 7 27 .int := ⟨RX7, TX7, 44, tyX7, rfl, tyX7_ok, nmX7, rfl, by decide +kernel⟩
theorem fpX7_33 : FP_ 7 33 .int := ⟨RX7, TX7, 44, tyX7, rfl, tyX7_ok, nmX7, rfl, by decide +kernel⟩
theorem fpX7_36 : FP_ 7 36 .int := ⟨RX7, TX7, 44, tyX7, rfl, tyX7_ok, nmX7, rfl, by decide +kernel⟩
theorem fpX7_37 : FP_ 7 37 .int := ⟨RX7, TX7, 44, tyX7, rfl, tyX7_ok, nmX7, rfl, by decide +kernel⟩
theorem fpX7_38 : FP_ 7 38 .long := ⟨RX7, TX7, 44, tyX7, rfl, tyX7_ok, nmX7, rfl, by decide +kernel⟩
theorem fpX7_39 : FP_ 7 39 .long := ⟨RX7, TX7, 44, tyX7, rfl, tyX7_ok, nmX7, rfl, by decide +kernel⟩
theorem fpX7_43 : FP_ 7 43 .int := ⟨RX7, TX7, 44, tyX7, rfl, tyX7_ok, nmX7, rfl, by decide +kernel⟩
abbrev mX0_init : MI := (yX0_init, cX0_init, 1, none)
abbrev mJ7_fill_53178 : MI := (yJ7_fill_53178, cJ7_fill_53178, 4, none)
abbrev mX0_clear : MI := (yX0_clear, cX0_clear, 1, none)
abbrev mX0_widen : MI := (yX0_widen, cX0_widen, 4, none)
abbrev mX0_give : MI := (yX0_give, cX0_give, 3, none)
abbrev mX0_join : MI := (yX0_join, cX0_join, 4, none)
abbrev mX0_partCheat : MI := (yX0_partCheat, cX0_partCheat, 2, none)
abbrev mX6_hasBit : MI := (yX6_hasBit, cX6_hasBit, 2, (some .boolean))
abbrev mX0_search : MI := (yX0_search, cX0_search, 7, (some .int))
abbrev mX0_push : MI := (yX0_push, cX0_push, 6, (some .int))
abbrev mX0_most : MI := (yX0_most, cX0_most, 5, (some .int))
abbrev mX1_init : MI := (yX1_init, cX1_init, 1, none)
abbrev mX1_enter : MI := (yX1_enter, cX1_enter, 2, (some .int))
abbrev mX2_init : MI := (yX2_init, cX2_init, 1, none)
abbrev mX2_isNothing : MI := (yX2_isNothing, cX2_isNothing, 1, (some .boolean))
abbrev mX2_renewRow : MI := (yX2_renewRow, cX2_renewRow, 3, none)
abbrev mX6_within : MI := (yX6_within, cX6_within, 3, (some .boolean))
abbrev mX2_faultAt : MI := (yX2_faultAt, cX2_faultAt, 2, (some .int))
abbrev mX2_put : MI := (yX2_put, cX2_put, 3, none)
abbrev mX2_wholeWords : MI := (yX2_wholeWords, cX2_wholeWords, 4, (some .int))
abbrev mX2_faultOfReading : MI := (yX2_faultOfReading, cX2_faultOfReading, 4, (some .int))
abbrev mX3_init : MI := (yX3_init, cX3_init, 1, none)
abbrev mX3_takeEight : MI := (yX3_takeEight, cX3_takeEight, 4, (some .int))
abbrev mX3_isLetter : MI := (yX3_isLetter, cX3_isLetter, 2, (some .boolean))
abbrev mX3_textOf : MI := (yX3_textOf, cX3_textOf, 1, (some (.object "java/lang/String")))
abbrev mJ0_coder_7d493 : MI := (yJ0_coder_7d493, cJ0_coder_7d493, 1, (some .byte))
abbrev mJ0_length_8abf5 : MI := (yJ0_length_8abf5, cJ0_length_8abf5, 1, (some .int))
abbrev mJ0_isLatin1_aae02 : MI := (yJ0_isLatin1_aae02, cJ0_isLatin1_aae02, 1, (some .boolean))
abbrev mJ3_checkIndex_8e157 : MI := (yJ3_checkIndex_8e157, cJ3_checkIndex_8e157, 3, (some .int))
abbrev mJ0_checkIndex_df160 : MI := (yJ0_checkIndex_df160, cJ0_checkIndex_df160, 2, none)
abbrev mJ1_charAt_3b067 : MI := (yJ1_charAt_3b067, cJ1_charAt_3b067, 2, (some .char))
abbrev mJ2_length_9d52b : MI := (yJ2_length_9d52b, cJ2_length_9d52b, 1, (some .int))
abbrev mJ2_checkIndex_2214a : MI := (yJ2_checkIndex_2214a, cJ2_checkIndex_2214a, 2, none)
abbrev mJ2_getChar_3b067 : MI := (yJ2_getChar_3b067, cJ2_getChar_3b067, 2, (some .char))
abbrev mJ2_charAt_3b067 : MI := (yJ2_charAt_3b067, cJ2_charAt_3b067, 2, (some .char))
abbrev mJ0_charAt_5068e : MI := (yJ0_charAt_5068e, cJ0_charAt_5068e, 2, (some .char))
abbrev mX3_isText : MI := (yX3_isText, cX3_isText, 3, (some .boolean))
abbrev mX3_readRule : MI := (yX3_readRule, cX3_readRule, 2, none)
abbrev mX3_isFigure : MI := (yX3_isFigure, cX3_isFigure, 2, (some .boolean))
abbrev mX3_readNumber : MI := (yX3_readNumber, cX3_readNumber, 1, none)
abbrev mX3_readToken : MI := (yX3_readToken, cX3_readToken, 1, none)
abbrev mX3_stands : MI := (yX3_stands, cX3_stands, 2, (some .boolean))
abbrev mX3_readLine : MI := (yX3_readLine, cX3_readLine, 3, none)
abbrev mX3_readLines : MI := (yX3_readLines, cX3_readLines, 3, (some .int))
abbrev mX4_init : MI := (yX4_init, cX4_init, 1, none)
abbrev mX4_enter : MI := (yX4_enter, cX4_enter, 6, (some .int))
abbrev mX5_init : MI := (yX5_init, cX5_init, 1, none)
abbrev mX5_isNewDeal : MI := (yX5_isNewDeal, cX5_isNewDeal, 3, (some .boolean))
abbrev mX5_enter : MI := (yX5_enter, cX5_enter, 6, (some .int))
abbrev mX5_countingOf : MI := (yX5_countingOf, cX5_countingOf, 4, (some .int))
abbrev mX5_doesCount : MI := (yX5_doesCount, cX5_doesCount, 2, (some .boolean))
abbrev mX6_oneIf : MI := (yX6_oneIf, cX6_oneIf, 1, (some .int))
abbrev mX5_countingOnes : MI := (yX5_countingOnes, cX5_countingOnes, 3, (some .int))
abbrev mX6_init : MI := (yX6_init, cX6_init, 2, none)
abbrev mX6_name : MI := (yX6_name, cX6_name, 2, (some .int))
abbrev mX6_isName : MI := (yX6_isName, cX6_isName, 2, (some .boolean))
abbrev mX6_seed : MI := (yX6_seed, cX6_seed, 4, (some .int))
abbrev mX6_pledgeRoom : MI := (yX6_pledgeRoom, cX6_pledgeRoom, 2, (some .int))
abbrev mX6_pledge : MI := (yX6_pledge, cX6_pledge, 3, (some .int))
abbrev mX6_arePair : MI := (yX6_arePair, cX6_arePair, 3, (some .boolean))
abbrev mX6_tie : MI := (yX6_tie, cX6_tie, 5, (some .int))
abbrev mX6_isTie : MI := (yX6_isTie, cX6_isTie, 2, (some .boolean))
abbrev mX6_hasMadeEnd : MI := (yX6_hasMadeEnd, cX6_hasMadeEnd, 2, (some .boolean))
abbrev mX6_faded : MI := (yX6_faded, cX6_faded, 4, (some .int))
abbrev mX6_isFined : MI := (yX6_isFined, cX6_isFined, 2, (some .boolean))
abbrev mX6_roomOf : MI := (yX6_roomOf, cX6_roomOf, 3, (some .int))
abbrev mX6_tieOf : MI := (yX6_tieOf, cX6_tieOf, 3, (some .int))
abbrev mX6_renew : MI := (yX6_renew, cX6_renew, 3, (some .int))
abbrev mX6_givenTo : MI := (yX6_givenTo, cX6_givenTo, 2, (some .int))
abbrev mX6_openTies : MI := (yX6_openTies, cX6_openTies, 5, (some .int))
abbrev mX6_of : MI := (yX6_of, cX6_of, 3, (some .int))
abbrev mX6_standingFor : MI := (yX6_standingFor, cX6_standingFor, 5, (some .int))
abbrev mJ6_bitCount_0f7a4 : MI := (yJ6_bitCount_0f7a4, cJ6_bitCount_0f7a4, 1, (some .int))
abbrev mX6_made : MI := (yX6_made, cX6_made, 4, (some .int))
abbrev mX6_day : MI := (yX6_day, cX6_day, 3, (some .int))
abbrev mX6_feed : MI := (yX6_feed, cX6_feed, 3, (some .int))
abbrev mX6_end : MI := (yX6_end, cX6_end, 3, (some .int))
abbrev mX6_rules : MI := (yX6_rules, cX6_rules, 2, (some .int))
abbrev mX6_fault : MI := (yX6_fault, cX6_fault, 1, (some .int))
abbrev mX6_rule : MI := (yX6_rule, cX6_rule, 2, (some .int))
abbrev mX6_layFlow : MI := (yX6_layFlow, cX6_layFlow, 2, none)
abbrev mX6_trust : MI := (yX6_trust, cX6_trust, 2, (some .int))
abbrev mX6_isHeap : MI := (yX6_isHeap, cX6_isHeap, 2, (some .boolean))
abbrev mX6_heap : MI := (yX6_heap, cX6_heap, 2, (some .int))
abbrev mX6_tiesOutOf : MI := (yX6_tiesOutOf, cX6_tiesOutOf, 5, (some .int))
abbrev mX6_givenBeyond : MI := (yX6_givenBeyond, cX6_givenBeyond, 4, (some .int))
abbrev mX6_cut : MI := (yX6_cut, cX6_cut, 4, (some .int))
abbrev mX6_isPlain : MI := (yX6_isPlain, cX6_isPlain, 2, (some .boolean))
abbrev mX6_low : MI := (yX6_low, cX6_low, 6, (some .int))
abbrev mX6_fillTrusts : MI := (yX6_fillTrusts, cX6_fillTrusts, 2, none)
abbrev mX6_twins : MI := (yX6_twins, cX6_twins, 7, (some .int))
abbrev mX6_refusalOf : MI := (yX6_refusalOf, cX6_refusalOf, 6, (some .int))
abbrev mX6_word : MI := (yX6_word, cX6_word, 6, (some .int))
abbrev mX6_isWord : MI := (yX6_isWord, cX6_isWord, 2, (some .boolean))
abbrev mX6_wordOf : MI := (yX6_wordOf, cX6_wordOf, 3, (some .int))
abbrev mX6_sayersOf : MI := (yX6_sayersOf, cX6_sayersOf, 5, (some .int))
abbrev mX6_weighSayers : MI := (yX6_weighSayers, cX6_weighSayers, 9, (some .int))
abbrev mX6_weight : MI := (yX6_weight, cX6_weight, 3, (some .int))
abbrev mX6_sayers : MI := (yX6_sayers, cX6_sayers, 2, (some .int))
abbrev mX6_summedMarks : MI := (yX6_summedMarks, cX6_summedMarks, 3, (some .int))
abbrev mX6_commonPart : MI := (yX6_commonPart, cX6_commonPart, 11, (some .long))
abbrev mX6_inLowest : MI := (yX6_inLowest, cX6_inLowest, 7, (some .long))
abbrev mX6_mark : MI := (yX6_mark, cX6_mark, 4, (some .int))
abbrev mX6_greatestStakes : MI := (yX6_greatestStakes, cX6_greatestStakes, 7, (some .int))
abbrev mX6_span : MI := (yX6_span, cX6_span, 8, (some .int))
abbrev mX6_wordsWithin : MI := (yX6_wordsWithin, cX6_wordsWithin, 6, (some .int))
abbrev mX6_ring : MI := (yX6_ring, cX6_ring, 3, (some .int))
abbrev mX6_choose : MI := (yX6_choose, cX6_choose, 5, (some .long))
abbrev mX6_waysOf : MI := (yX6_waysOf, cX6_waysOf, 8, (some .long))
abbrev mX6_odds : MI := (yX6_odds, cX6_odds, 4, (some .long))
abbrev mX6_oddest : MI := (yX6_oddest, cX6_oddest, 11, (some .long))
abbrev mX6_isOffer : MI := (yX6_isOffer, cX6_isOffer, 2, (some .boolean))
abbrev mX6_sellingNames : MI := (yX6_sellingNames, cX6_sellingNames, 3, (some .int))
abbrev mX6_boughtRoom : MI := (yX6_boughtRoom, cX6_boughtRoom, 2, (some .int))
abbrev mX6_gainBy : MI := (yX6_gainBy, cX6_gainBy, 6, (some .int))
abbrev mX6_gain : MI := (yX6_gain, cX6_gain, 4, (some .int))
abbrev mX6_best : MI := (yX6_best, cX6_best, 10, (some .int))
abbrev mX6_isSheet : MI := (yX6_isSheet, cX6_isSheet, 1, (some .boolean))
abbrev mX6_isLane : MI := (yX6_isLane, cX6_isLane, 1, (some .boolean))
abbrev mX6_sheet : MI := (yX6_sheet, cX6_sheet, 4, (some .int))
abbrev mX6_lay : MI := (yX6_lay, cX6_lay, 5, (some .int))
abbrev mX6_read : MI := (yX6_read, cX6_read, 10, (some .int))
abbrev mX6_lost : MI := (yX6_lost, cX6_lost, 1, (some .int))
abbrev mX6_countTrue : MI := (yX6_countTrue, cX6_countTrue, 4, (some .int))
abbrev mX6_countFined : MI := (yX6_countFined, cX6_countFined, 3, (some .int))
abbrev mX6_count : MI := (yX6_count, cX6_count, 2, (some .int))
abbrev mX7_firstRules : MI := (yX7_firstRules, cX7_firstRules, 2, none)
abbrev mX7_keepRules : MI := (yX7_keepRules, cX7_keepRules, 2, none)
abbrev mX7_init : MI := (yX7_init, cX7_init, 2, none)
abbrev mX7_in : MI := (yX7_in, cX7_in, 6, (some .boolean))
abbrev mX7_bits : MI := (yX7_bits, cX7_bits, 3, (some .int))
abbrev mX7_common : MI := (yX7_common, cX7_common, 10, (some .long))
abbrev mX7_isName : MI := (yX7_isName, cX7_isName, 2, (some .boolean))
abbrev mX7_isFined : MI := (yX7_isFined, cX7_isFined, 2, (some .boolean))
abbrev mX7_name : MI := (yX7_name, cX7_name, 2, (some .int))
abbrev mX7_seed : MI := (yX7_seed, cX7_seed, 4, (some .int))
abbrev mX7_pledged : MI := (yX7_pledged, cX7_pledged, 2, (some .int))
abbrev mX7_pledge : MI := (yX7_pledge, cX7_pledge, 3, (some .int))
abbrev mX7_tie : MI := (yX7_tie, cX7_tie, 5, (some .int))
abbrev mX7_faded : MI := (yX7_faded, cX7_faded, 4, (some .int))
abbrev mX7_roomOf : MI := (yX7_roomOf, cX7_roomOf, 3, (some .int))
abbrev mX7_isTie : MI := (yX7_isTie, cX7_isTie, 2, (some .boolean))
abbrev mX7_tieOf : MI := (yX7_tieOf, cX7_tieOf, 3, (some .int))
abbrev mX7_renew : MI := (yX7_renew, cX7_renew, 3, (some .int))
abbrev mX7_given : MI := (yX7_given, cX7_given, 2, (some .int))
abbrev mX7_of : MI := (yX7_of, cX7_of, 5, (some .int))
abbrev mX7_made : MI := (yX7_made, cX7_made, 4, (some .int))
abbrev mX7_day : MI := (yX7_day, cX7_day, 3, (some .int))
abbrev mX7_feed : MI := (yX7_feed, cX7_feed, 4, (some .int))
abbrev mX7_end : MI := (yX7_end, cX7_end, 3, (some .int))
abbrev mX7_wants : MI := (yX7_wants, cX7_wants, 3, none)
abbrev mX7_look : MI := (yX7_look, cX7_look, 2, (some .int))
abbrev mX7_is : MI := (yX7_is, cX7_is, 6, (some .boolean))
abbrev mX7_nameNow : MI := (yX7_nameNow, cX7_nameNow, 1, (some .int))
abbrev mX7_next : MI := (yX7_next, cX7_next, 2, none)
abbrev mX7_least : MI := (yX7_least, cX7_least, 1, (some .int))
abbrev mX7_most : MI := (yX7_most, cX7_most, 1, (some .int))
abbrev mX7_readLine : MI := (yX7_readLine, cX7_readLine, 3, none)
abbrev mX7_rules : MI := (yX7_rules, cX7_rules, 2, (some .int))
abbrev mX7_fault : MI := (yX7_fault, cX7_fault, 1, (some .int))
abbrev mX7_rule : MI := (yX7_rule, cX7_rule, 2, (some .int))
abbrev mX7_begins : MI := (yX7_begins, cX7_begins, 3, none)
abbrev mX7_reaches : MI := (yX7_reaches, cX7_reaches, 4, (some .boolean))
abbrev mX7_flows : MI := (yX7_flows, cX7_flows, 5, (some .int))
abbrev mX7_trustOf : MI := (yX7_trustOf, cX7_trustOf, 3, (some .int))
abbrev mX7_areNames : MI := (yX7_areNames, cX7_areNames, 2, (some .boolean))
abbrev mX7_trust : MI := (yX7_trust, cX7_trust, 2, (some .int))
abbrev mX7_heap : MI := (yX7_heap, cX7_heap, 2, (some .int))
abbrev mX7_cut : MI := (yX7_cut, cX7_cut, 8, (some .int))
abbrev mX7_isPlain : MI := (yX7_isPlain, cX7_isPlain, 2, (some .boolean))
abbrev mX7_low : MI := (yX7_low, cX7_low, 7, (some .int))
abbrev mX7_twins : MI := (yX7_twins, cX7_twins, 7, (some .int))
abbrev mX7_isWord : MI := (yX7_isWord, cX7_isWord, 5, (some .boolean))
abbrev mX7_says : MI := (yX7_says, cX7_says, 5, none)
abbrev mX7_word : MI := (yX7_word, cX7_word, 5, (some .int))
abbrev mX7_isFirst : MI := (yX7_isFirst, cX7_isFirst, 4, (some .boolean))
abbrev mX7_counts : MI := (yX7_counts, cX7_counts, 4, (some .boolean))
abbrev mX7_wordOf : MI := (yX7_wordOf, cX7_wordOf, 3, (some .int))
abbrev mX7_wordBy : MI := (yX7_wordBy, cX7_wordBy, 5, (some .int))
abbrev mX7_sayersOf : MI := (yX7_sayersOf, cX7_sayersOf, 4, (some .int))
abbrev mX7_weightOf : MI := (yX7_weightOf, cX7_weightOf, 5, (some .int))
abbrev mX7_weight : MI := (yX7_weight, cX7_weight, 3, (some .int))
abbrev mX7_sayers : MI := (yX7_sayers, cX7_sayers, 2, (some .int))
abbrev mX7_lists : MI := (yX7_lists, cX7_lists, 4, none)
abbrev mX7_fraction : MI := (yX7_fraction, cX7_fraction, 4, (some .int))
abbrev mX7_mark : MI := (yX7_mark, cX7_mark, 3, (some .int))
abbrev mX7_moved : MI := (yX7_moved, cX7_moved, 11, (some .int))
abbrev mX7_span : MI := (yX7_span, cX7_span, 4, (some .int))
abbrev mX7_isGood : MI := (yX7_isGood, cX7_isGood, 2, (some .boolean))
abbrev mX7_isBetween : MI := (yX7_isBetween, cX7_isBetween, 3, (some .boolean))
abbrev mX7_ringOf : MI := (yX7_ringOf, cX7_ringOf, 6, (some .int))
abbrev mX7_ring : MI := (yX7_ring, cX7_ring, 3, (some .int))
abbrev mX7_ways : MI := (yX7_ways, cX7_ways, 5, (some .long))
abbrev mX7_findOdds : MI := (yX7_findOdds, cX7_findOdds, 8, none)
abbrev mX7_odds : MI := (yX7_odds, cX7_odds, 3, (some .long))
abbrev mX7_oddest : MI := (yX7_oddest, cX7_oddest, 8, (some .long))
abbrev mX7_sells : MI := (yX7_sells, cX7_sells, 2, (some .boolean))
abbrev mX7_gainOf : MI := (yX7_gainOf, cX7_gainOf, 7, (some .int))
abbrev mX7_sellers : MI := (yX7_sellers, cX7_sellers, 3, (some .int))
abbrev mX7_gain : MI := (yX7_gain, cX7_gain, 4, (some .int))
abbrev mX7_best : MI := (yX7_best, cX7_best, 9, (some .int))
abbrev mX7_isSheet : MI := (yX7_isSheet, cX7_isSheet, 2, (some .boolean))
abbrev mX7_sheet : MI := (yX7_sheet, cX7_sheet, 5, (some .int))
abbrev mX7_lay : MI := (yX7_lay, cX7_lay, 4, (some .int))
abbrev mX7_refuses : MI := (yX7_refuses, cX7_refuses, 5, (some .int))
abbrev mX7_read : MI := (yX7_read, cX7_read, 9, (some .int))
abbrev mX7_lost : MI := (yX7_lost, cX7_lost, 1, (some .int))
abbrev mX7_count : MI := (yX7_count, cX7_count, 8, (some .int))
abbrev mJ9_max_7cf53 : MI := (yJ9_max_7cf53, cJ9_max_7cf53, 2, (some .int))
abbrev mJ9_max_f86c9 : MI := (yJ9_max_f86c9, cJ9_max_f86c9, 4, (some .long))
abbrev mJ9_min_7cf53 : MI := (yJ9_min_7cf53, cJ9_min_7cf53, 2, (some .int))
theorem iniJ0 : Cond.initialized RJ0 ∈ aw_tb := aw_in 91 (by decide +kernel) rfl
theorem nmhJ0 : RJ0 ≠ "java/lang/invoke/MethodHandle" ∧ RJ0 ≠ "java/lang/invoke/VarHandle" := ⟨by decide +kernel, by decide +kernel⟩
theorem iniJ1 : Cond.initialized RJ1 ∈ aw_tb := aw_in 92 (by decide +kernel) rfl
theorem nmhJ1 : RJ1 ≠ "java/lang/invoke/MethodHandle" ∧ RJ1 ≠ "java/lang/invoke/VarHandle" := ⟨by decide +kernel, by decide +kernel⟩
theorem iniJ2 : Cond.initialized RJ2 ∈ aw_tb := aw_in 94 (by decide +kernel) rfl
theorem nmhJ2 : RJ2 ≠ "java/lang/invoke/MethodHandle" ∧ RJ2 ≠ "java/lang/invoke/VarHandle" := ⟨by decide +kernel, by decide +kernel⟩
theorem iniJ3 : Cond.initialized RJ3 ∈ aw_tb := aw_in 93 (by decide +kernel) rfl
theorem nmhJ3 : RJ3 ≠ "java/lang/invoke/MethodHandle" ∧ RJ3 ≠ "java/lang/invoke/VarHandle" := ⟨by decide +kernel, by decide +kernel⟩
theorem iniJ6 : Cond.initialized RJ6 ∈ aw_tb := aw_in 90 (by decide +kernel) rfl
theorem nmhJ6 : RJ6 ≠ "java/lang/invoke/MethodHandle" ∧ RJ6 ≠ "java/lang/invoke/VarHandle" := ⟨by decide +kernel, by decide +kernel⟩
theorem iniJ7 : Cond.initialized RJ7 ∈ aw_tb := aw_in 95 (by decide +kernel) rfl
theorem nmhJ7 : RJ7 ≠ "java/lang/invoke/MethodHandle" ∧ RJ7 ≠ "java/lang/invoke/VarHandle" := ⟨by decide +kernel, by decide +kernel⟩
theorem iniJ9 : Cond.initialized RJ9 ∈ aw_tb := aw_in 89 (by decide +kernel) rfl
theorem nmhJ9 : RJ9 ≠ "java/lang/invoke/MethodHandle" ∧ RJ9 ≠ "java/lang/invoke/VarHandle" := ⟨by decide +kernel, by decide +kernel⟩
theorem iniX0 : Cond.initialized RX0 ∈ aw_tb := aw_in 85 (by decide +kernel) rfl
theorem nmhX0 : RX0 ≠ "java/lang/invoke/MethodHandle" ∧ RX0 ≠ "java/lang/invoke/VarHandle" := ⟨by decide +kernel, by decide +kernel⟩
theorem iniX1 : Cond.initialized RX1 ∈ aw_tb := aw_in 81 (by decide +kernel) rfl
theorem nmhX1 : RX1 ≠ "java/lang/invoke/MethodHandle" ∧ RX1 ≠ "java/lang/invoke/VarHandle" := ⟨by decide +kernel, by decide +kernel⟩
theorem iniX2 : Cond.initialized RX2 ∈ aw_tb := aw_in 87 (by decide +kernel) rfl
theorem nmhX2 : RX2 ≠ "java/lang/invoke/MethodHandle" ∧ RX2 ≠ "java/lang/invoke/VarHandle" := ⟨by decide +kernel, by decide +kernel⟩
theorem iniX3 : Cond.initialized RX3 ∈ aw_tb := aw_in 84 (by decide +kernel) rfl
theorem nmhX3 : RX3 ≠ "java/lang/invoke/MethodHandle" ∧ RX3 ≠ "java/lang/invoke/VarHandle" := ⟨by decide +kernel, by decide +kernel⟩
theorem iniX4 : Cond.initialized RX4 ∈ aw_tb := aw_in 82 (by decide +kernel) rfl
theorem nmhX4 : RX4 ≠ "java/lang/invoke/MethodHandle" ∧ RX4 ≠ "java/lang/invoke/VarHandle" := ⟨by decide +kernel, by decide +kernel⟩
theorem iniX5 : Cond.initialized RX5 ∈ aw_tb := aw_in 83 (by decide +kernel) rfl
theorem nmhX5 : RX5 ≠ "java/lang/invoke/MethodHandle" ∧ RX5 ≠ "java/lang/invoke/VarHandle" := ⟨by decide +kernel, by decide +kernel⟩
theorem iniX6 : Cond.initialized RX6 ∈ aw_tb := aw_in 80 (by decide +kernel) rfl
theorem nmhX6 : RX6 ≠ "java/lang/invoke/MethodHandle" ∧ RX6 ≠ "java/lang/invoke/VarHandle" := ⟨by decide +kernel, by decide +kernel⟩
theorem iniX7 : Cond.initialized RX7 ∈ aw_tb := aw_in 88 (by decide +kernel) rfl
theorem nmhX7 : RX7 ≠ "java/lang/invoke/MethodHandle" ∧ RX7 ≠ "java/lang/invoke/VarHandle" := ⟨by decide +kernel, by decide +kernel⟩
set_option maxRecDepth 100000 in
theorem fJ7_fill_53178 : MFs mJ7_fill_53178 2 := ⟨⟨aw_in 580 rfl rfl, iniJ7, ⟨nmhJ7.1, nmhJ7.2, by decide +kernel⟩, by decide⟩, aw_in 579 (by decide +kernel) rfl⟩
set_option maxRecDepth 100000 in
theorem fX0_clear : MFv mX0_clear 0 := ⟨⟨aw_in 577 rfl rfl, iniX0, ⟨nmhX0.1, nmhX0.2, by decide +kernel⟩, by decide⟩, aw_in 575 (by decide +kernel) rfl, aw_in 576 (by decide +kernel) rfl⟩
set_option maxRecDepth 100000 in
theorem fX0_widen : MFv mX0_widen 3 := ⟨⟨aw_in 588 rfl rfl, iniX0, ⟨nmhX0.1, nmhX0.2, by decide +kernel⟩, by decide⟩, aw_in 587 (by decide +kernel) rfl, aw_in 19 (by decide +kernel) rfl⟩
set_option maxRecDepth 100000 in
theorem fX0_give : MFv mX0_give 2 := ⟨⟨aw_in 584 rfl rfl, iniX0, ⟨nmhX0.1, nmhX0.2, by decide +kernel⟩, by decide⟩, aw_in 582 (by decide +kernel) rfl, aw_in 583 (by decide +kernel) rfl⟩
set_option maxRecDepth 100000 in
theorem fX0_join : MFv mX0_join 3 := ⟨⟨aw_in 592 rfl rfl, iniX0, ⟨nmhX0.1, nmhX0.2, by decide +kernel⟩, by decide⟩, aw_in 590 (by decide +kernel) rfl, aw_in 591 (by decide +kernel) rfl⟩
set_option maxRecDepth 100000 in
theorem fX0_partCheat : MFv mX0_partCheat 0 := ⟨⟨aw_in 768 rfl rfl, iniX0, ⟨nmhX0.1, nmhX0.2, by decide +kernel⟩, by decide⟩, aw_in 766 (by decide +kernel) rfl, aw_in 767 (by decide +kernel) rfl⟩
set_option maxRecDepth 100000 in
theorem fX6_hasBit : MFs mX6_hasBit 2 := ⟨⟨aw_in 418 rfl rfl, iniX6, ⟨nmhX6.1, nmhX6.2, by decide +kernel⟩, by decide⟩, aw_in 417 (by decide +kernel) rfl⟩
set_option maxRecDepth 100000 in
theorem fX0_search : MFv mX0_search 1 := ⟨⟨aw_in 601 rfl rfl, iniX0, ⟨nmhX0.1, nmhX0.2, by decide +kernel⟩, by decide⟩, aw_in 600 (by decide +kernel) rfl, aw_in 20 (by decide +kernel) rfl⟩
set_option maxRecDepth 100000 in
theorem fX0_push : MFv mX0_push 1 := ⟨⟨aw_in 606 rfl rfl, iniX0, ⟨nmhX0.1, nmhX0.2, by decide +kernel⟩, by decide⟩, aw_in 605 (by decide +kernel) rfl, aw_in 21 (by decide +kernel) rfl⟩
set_option maxRecDepth 100000 in
theorem fX0_most : MFv mX0_most 1 := ⟨⟨aw_in 596 rfl rfl, iniX0, ⟨nmhX0.1, nmhX0.2, by decide +kernel⟩, by decide⟩, aw_in 594 (by decide +kernel) rfl, aw_in 595 (by decide +kernel) rfl⟩
set_option maxRecDepth 100000 in
theorem fX1_enter : MFv mX1_enter 1 := ⟨⟨aw_in 342 rfl rfl, iniX1, ⟨nmhX1.1, nmhX1.2, by decide +kernel⟩, by decide⟩, aw_in 340 (by decide +kernel) rfl, aw_in 341 (by decide +kernel) rfl⟩
set_option maxRecDepth 100000 in
theorem fX2_isNothing : MFv mX2_isNothing 0 := ⟨⟨aw_in 799 rfl rfl, iniX2, ⟨nmhX2.1, nmhX2.2, by decide +kernel⟩, by decide⟩, aw_in 797 (by decide +kernel) rfl, aw_in 798 (by decide +kernel) rfl⟩
set_option maxRecDepth 100000 in
theorem fX2_renewRow : MFv mX2_renewRow 2 := ⟨⟨aw_in 786 rfl rfl, iniX2, ⟨nmhX2.1, nmhX2.2, by decide +kernel⟩, by decide⟩, aw_in 784 (by decide +kernel) rfl, aw_in 785 (by decide +kernel) rfl⟩
set_option maxRecDepth 100000 in
theorem fX6_within : MFs mX6_within 3 := ⟨⟨aw_in 338 rfl rfl, iniX6, ⟨nmhX6.1, nmhX6.2, by decide +kernel⟩, by decide⟩, aw_in 337 (by decide +kernel) rfl⟩
set_option maxRecDepth 100000 in
theorem fX2_faultAt : MFv mX2_faultAt 1 := ⟨⟨aw_in 795 rfl rfl, iniX2, ⟨nmhX2.1, nmhX2.2, by decide +kernel⟩, by decide⟩, aw_in 793 (by decide +kernel) rfl, aw_in 794 (by decide +kernel) rfl⟩
set_option maxRecDepth 100000 in
theorem fX2_put : MFv mX2_put 2 := ⟨⟨aw_in 804 rfl rfl, iniX2, ⟨nmhX2.1, nmhX2.2, by decide +kernel⟩, by decide⟩, aw_in 802 (by decide +kernel) rfl, aw_in 803 (by decide +kernel) rfl⟩
set_option maxRecDepth 100000 in
theorem fX2_wholeWords : MFv mX2_wholeWords 3 := ⟨⟨aw_in 812 rfl rfl, iniX2, ⟨nmhX2.1, nmhX2.2, by decide +kernel⟩, by decide⟩, aw_in 810 (by decide +kernel) rfl, aw_in 811 (by decide +kernel) rfl⟩
set_option maxRecDepth 100000 in
theorem fX2_faultOfReading : MFv mX2_faultOfReading 3 := ⟨⟨aw_in 817 rfl rfl, iniX2, ⟨nmhX2.1, nmhX2.2, by decide +kernel⟩, by decide⟩, aw_in 815 (by decide +kernel) rfl, aw_in 816 (by decide +kernel) rfl⟩
set_option maxRecDepth 100000 in
theorem fX3_takeEight : MFv mX3_takeEight 1 := ⟨⟨aw_in 444 rfl rfl, iniX3, ⟨nmhX3.1, nmhX3.2, by decide +kernel⟩, by decide⟩, aw_in 442 (by decide +kernel) rfl, aw_in 443 (by decide +kernel) rfl⟩
set_option maxRecDepth 100000 in
theorem fX3_isLetter : MFv mX3_isLetter 1 := ⟨⟨aw_in 464 rfl rfl, iniX3, ⟨nmhX3.1, nmhX3.2, by decide +kernel⟩, by decide⟩, aw_in 463 (by decide +kernel) rfl, aw_in 11 (by decide +kernel) rfl⟩
set_option maxRecDepth 100000 in
theorem fX3_textOf : MFs mX3_textOf 1 := ⟨⟨aw_in 472 rfl rfl, iniX3, ⟨nmhX3.1, nmhX3.2, by decide +kernel⟩, by decide⟩, aw_in 471 (by decide +kernel) rfl⟩
set_option maxRecDepth 100000 in
theorem fJ0_coder_7d493 : MFv mJ0_coder_7d493 0 := ⟨⟨aw_in 495 rfl rfl, iniJ0, ⟨nmhJ0.1, nmhJ0.2, by decide +kernel⟩, by decide⟩, aw_in 493 (by decide +kernel) rfl, aw_in 494 (by decide +kernel) rfl⟩
set_option maxRecDepth 100000 in
theorem fJ0_length_8abf5 : MFv mJ0_length_8abf5 0 := ⟨⟨aw_in 491 rfl rfl, iniJ0, ⟨nmhJ0.1, nmhJ0.2, by decide +kernel⟩, by decide⟩, aw_in 489 (by decide +kernel) rfl, aw_in 490 (by decide +kernel) rfl⟩
set_option maxRecDepth 100000 in
theorem fJ0_isLatin1_aae02 : MFv mJ0_isLatin1_aae02 0 := ⟨⟨aw_in 505 rfl rfl, iniJ0, ⟨nmhJ0.1, nmhJ0.2, by decide +kernel⟩, by decide⟩, aw_in 503 (by decide +kernel) rfl, aw_in 504 (by decide +kernel) rfl⟩
set_option maxRecDepth 100000 in
theorem fJ3_checkIndex_8e157 : MFs mJ3_checkIndex_8e157 3 := ⟨⟨aw_in 516 rfl rfl, iniJ3, ⟨nmhJ3.1, nmhJ3.2, by decide +kernel⟩, by decide⟩, aw_in 515 (by decide +kernel) rfl⟩
set_option maxRecDepth 100000 in
theorem fJ0_checkIndex_df160 : MFs mJ0_checkIndex_df160 2 := ⟨⟨aw_in 511 rfl rfl, iniJ0, ⟨nmhJ0.1, nmhJ0.2, by decide +kernel⟩, by decide⟩, aw_in 510 (by decide +kernel) rfl⟩
set_option maxRecDepth 100000 in
theorem fJ1_charAt_3b067 : MFs mJ1_charAt_3b067 2 := ⟨⟨aw_in 508 rfl rfl, iniJ1, ⟨nmhJ1.1, nmhJ1.2, by decide +kernel⟩, by decide⟩, aw_in 507 (by decide +kernel) rfl⟩
set_option maxRecDepth 100000 in
theorem fJ2_length_9d52b : MFs mJ2_length_9d52b 1 := ⟨⟨aw_in 525 rfl rfl, iniJ2, ⟨nmhJ2.1, nmhJ2.2, by decide +kernel⟩, by decide⟩, aw_in 524 (by decide +kernel) rfl⟩
set_option maxRecDepth 100000 in
theorem fJ2_checkIndex_2214a : MFs mJ2_checkIndex_2214a 2 := ⟨⟨aw_in 522 rfl rfl, iniJ2, ⟨nmhJ2.1, nmhJ2.2, by decide +kernel⟩, by decide⟩, aw_in 521 (by decide +kernel) rfl⟩
set_option maxRecDepth 100000 in
theorem fJ2_getChar_3b067 : MFs mJ2_getChar_3b067 2 := ⟨⟨aw_in 529 rfl rfl, iniJ2, ⟨nmhJ2.1, nmhJ2.2, by decide +kernel⟩, by decide⟩, aw_in 528 (by decide +kernel) rfl⟩
set_option maxRecDepth 100000 in
theorem fJ2_charAt_3b067 : MFs mJ2_charAt_3b067 2 := ⟨⟨aw_in 519 rfl rfl, iniJ2, ⟨nmhJ2.1, nmhJ2.2, by decide +kernel⟩, by decide⟩, aw_in 518 (by decide +kernel) rfl⟩
set_option maxRecDepth 100000 in
theorem fJ0_charAt_5068e : MFv mJ0_charAt_5068e 1 := ⟨⟨aw_in 501 rfl rfl, iniJ0, ⟨nmhJ0.1, nmhJ0.2, by decide +kernel⟩, by decide⟩, aw_in 499 (by decide +kernel) rfl, aw_in 500 (by decide +kernel) rfl⟩
set_option maxRecDepth 100000 in
theorem fX3_isText : MFv mX3_isText 1 := ⟨⟨aw_in 487 rfl rfl, iniX3, ⟨nmhX3.1, nmhX3.2, by decide +kernel⟩, by decide⟩, aw_in 486 (by decide +kernel) rfl, aw_in 13 (by decide +kernel) rfl⟩
set_option maxRecDepth 100000 in
theorem fX3_readRule : MFv mX3_readRule 0 := ⟨⟨aw_in 469 rfl rfl, iniX3, ⟨nmhX3.1, nmhX3.2, by decide +kernel⟩, by decide⟩, aw_in 468 (by decide +kernel) rfl, aw_in 12 (by decide +kernel) rfl⟩
set_option maxRecDepth 100000 in
theorem fX3_isFigure : MFv mX3_isFigure 1 := ⟨⟨aw_in 539 rfl rfl, iniX3, ⟨nmhX3.1, nmhX3.2, by decide +kernel⟩, by decide⟩, aw_in 538 (by decide +kernel) rfl, aw_in 14 (by decide +kernel) rfl⟩
set_option maxRecDepth 100000 in
theorem fX3_readNumber : MFv mX3_readNumber 0 := ⟨⟨aw_in 543 rfl rfl, iniX3, ⟨nmhX3.1, nmhX3.2, by decide +kernel⟩, by decide⟩, aw_in 542 (by decide +kernel) rfl, aw_in 15 (by decide +kernel) rfl⟩
set_option maxRecDepth 100000 in
theorem fX3_readToken : MFv mX3_readToken 0 := ⟨⟨aw_in 460 rfl rfl, iniX3, ⟨nmhX3.1, nmhX3.2, by decide +kernel⟩, by decide⟩, aw_in 459 (by decide +kernel) rfl, aw_in 10 (by decide +kernel) rfl⟩
set_option maxRecDepth 100000 in
theorem fX3_stands : MFv mX3_stands 1 := ⟨⟨aw_in 551 rfl rfl, iniX3, ⟨nmhX3.1, nmhX3.2, by decide +kernel⟩, by decide⟩, aw_in 550 (by decide +kernel) rfl, aw_in 17 (by decide +kernel) rfl⟩
set_option maxRecDepth 100000 in
theorem fX3_readLine : MFv mX3_readLine 1 := ⟨⟨aw_in 547 rfl rfl, iniX3, ⟨nmhX3.1, nmhX3.2, by decide +kernel⟩, by decide⟩, aw_in 546 (by decide +kernel) rfl, aw_in 16 (by decide +kernel) rfl⟩
set_option maxRecDepth 100000 in
theorem fX3_readLines : MFv mX3_readLines 1 := ⟨⟨aw_in 456 rfl rfl, iniX3, ⟨nmhX3.1, nmhX3.2, by decide +kernel⟩, by decide⟩, aw_in 454 (by decide +kernel) rfl, aw_in 455 (by decide +kernel) rfl⟩
set_option maxRecDepth 100000 in
theorem fX4_enter : MFv mX4_enter 5 := ⟨⟨aw_in 373 rfl rfl, iniX4, ⟨nmhX4.1, nmhX4.2, by decide +kernel⟩, by decide⟩, aw_in 371 (by decide +kernel) rfl, aw_in 372 (by decide +kernel) rfl⟩
set_option maxRecDepth 100000 in
theorem fX5_isNewDeal : MFv mX5_isNewDeal 1 := ⟨⟨aw_in 661 rfl rfl, iniX5, ⟨nmhX5.1, nmhX5.2, by decide +kernel⟩, by decide⟩, aw_in 660 (by decide +kernel) rfl, aw_in 28 (by decide +kernel) rfl⟩
set_option maxRecDepth 100000 in
theorem fX5_enter : MFv mX5_enter 5 := ⟨⟨aw_in 657 rfl rfl, iniX5, ⟨nmhX5.1, nmhX5.2, by decide +kernel⟩, by decide⟩, aw_in 655 (by decide +kernel) rfl, aw_in 656 (by decide +kernel) rfl⟩
set_option maxRecDepth 100000 in
theorem fX5_countingOf : MFv mX5_countingOf 2 := ⟨⟨aw_in 677 rfl rfl, iniX5, ⟨nmhX5.1, nmhX5.2, by decide +kernel⟩, by decide⟩, aw_in 675 (by decide +kernel) rfl, aw_in 676 (by decide +kernel) rfl⟩
set_option maxRecDepth 100000 in
theorem fX5_doesCount : MFv mX5_doesCount 1 := ⟨⟨aw_in 673 rfl rfl, iniX5, ⟨nmhX5.1, nmhX5.2, by decide +kernel⟩, by decide⟩, aw_in 671 (by decide +kernel) rfl, aw_in 672 (by decide +kernel) rfl⟩
set_option maxRecDepth 100000 in
theorem fX6_oneIf : MFs mX6_oneIf 1 := ⟨⟨aw_in 353 rfl rfl, iniX6, ⟨nmhX6.1, nmhX6.2, by decide +kernel⟩, by decide⟩, aw_in 352 (by decide +kernel) rfl⟩
set_option maxRecDepth 100000 in
theorem fX5_countingOnes : MFv mX5_countingOnes 0 := ⟨⟨aw_in 837 rfl rfl, iniX5, ⟨nmhX5.1, nmhX5.2, by decide +kernel⟩, by decide⟩, aw_in 835 (by decide +kernel) rfl, aw_in 836 (by decide +kernel) rfl⟩
set_option maxRecDepth 100000 in
theorem fX6_name : MFv mX6_name 1 := ⟨⟨aw_in 335 rfl rfl, iniX6, ⟨nmhX6.1, nmhX6.2, by decide +kernel⟩, by decide⟩, aw_in 333 (by decide +kernel) rfl, aw_in 334 (by decide +kernel) rfl⟩
set_option maxRecDepth 100000 in
theorem fX6_isName : MFv mX6_isName 1 := ⟨⟨aw_in 350 rfl rfl, iniX6, ⟨nmhX6.1, nmhX6.2, by decide +kernel⟩, by decide⟩, aw_in 349 (by decide +kernel) rfl, aw_in 0 (by decide +kernel) rfl⟩
set_option maxRecDepth 100000 in
theorem fX6_seed : MFv mX6_seed 2 := ⟨⟨aw_in 346 rfl rfl, iniX6, ⟨nmhX6.1, nmhX6.2, by decide +kernel⟩, by decide⟩, aw_in 344 (by decide +kernel) rfl, aw_in 345 (by decide +kernel) rfl⟩
set_option maxRecDepth 100000 in
theorem fX6_pledgeRoom : MFv mX6_pledgeRoom 1 := ⟨⟨aw_in 361 rfl rfl, iniX6, ⟨nmhX6.1, nmhX6.2, by decide +kernel⟩, by decide⟩, aw_in 360 (by decide +kernel) rfl, aw_in 1 (by decide +kernel) rfl⟩
set_option maxRecDepth 100000 in
theorem fX6_pledge : MFv mX6_pledge 2 := ⟨⟨aw_in 357 rfl rfl, iniX6, ⟨nmhX6.1, nmhX6.2, by decide +kernel⟩, by decide⟩, aw_in 355 (by decide +kernel) rfl, aw_in 356 (by decide +kernel) rfl⟩
set_option maxRecDepth 100000 in
theorem fX6_arePair : MFv mX6_arePair 2 := ⟨⟨aw_in 369 rfl rfl, iniX6, ⟨nmhX6.1, nmhX6.2, by decide +kernel⟩, by decide⟩, aw_in 368 (by decide +kernel) rfl, aw_in 2 (by decide +kernel) rfl⟩
set_option maxRecDepth 100000 in
theorem fX6_tie : MFv mX6_tie 4 := ⟨⟨aw_in 365 rfl rfl, iniX6, ⟨nmhX6.1, nmhX6.2, by decide +kernel⟩, by decide⟩, aw_in 363 (by decide +kernel) rfl, aw_in 364 (by decide +kernel) rfl⟩
set_option maxRecDepth 100000 in
theorem fX6_isTie : MFv mX6_isTie 1 := ⟨⟨aw_in 381 rfl rfl, iniX6, ⟨nmhX6.1, nmhX6.2, by decide +kernel⟩, by decide⟩, aw_in 380 (by decide +kernel) rfl, aw_in 3 (by decide +kernel) rfl⟩
set_option maxRecDepth 100000 in
theorem fX6_hasMadeEnd : MFv mX6_hasMadeEnd 1 := ⟨⟨aw_in 389 rfl rfl, iniX6, ⟨nmhX6.1, nmhX6.2, by decide +kernel⟩, by decide⟩, aw_in 388 (by decide +kernel) rfl, aw_in 5 (by decide +kernel) rfl⟩
set_option maxRecDepth 100000 in
theorem fX6_faded : MFs mX6_faded 3 := ⟨⟨aw_in 392 rfl rfl, iniX6, ⟨nmhX6.1, nmhX6.2, by decide +kernel⟩, by decide⟩, aw_in 391 (by decide +kernel) rfl⟩
set_option maxRecDepth 100000 in
theorem fX6_isFined : MFv mX6_isFined 1 := ⟨⟨aw_in 399 rfl rfl, iniX6, ⟨nmhX6.1, nmhX6.2, by decide +kernel⟩, by decide⟩, aw_in 398 (by decide +kernel) rfl, aw_in 6 (by decide +kernel) rfl⟩
set_option maxRecDepth 100000 in
theorem fX6_roomOf : MFv mX6_roomOf 1 := ⟨⟨aw_in 385 rfl rfl, iniX6, ⟨nmhX6.1, nmhX6.2, by decide +kernel⟩, by decide⟩, aw_in 384 (by decide +kernel) rfl, aw_in 4 (by decide +kernel) rfl⟩
set_option maxRecDepth 100000 in
theorem fX6_tieOf : MFv mX6_tieOf 2 := ⟨⟨aw_in 377 rfl rfl, iniX6, ⟨nmhX6.1, nmhX6.2, by decide +kernel⟩, by decide⟩, aw_in 375 (by decide +kernel) rfl, aw_in 376 (by decide +kernel) rfl⟩
set_option maxRecDepth 100000 in
theorem fX6_renew : MFv mX6_renew 1 := ⟨⟨aw_in 403 rfl rfl, iniX6, ⟨nmhX6.1, nmhX6.2, by decide +kernel⟩, by decide⟩, aw_in 401 (by decide +kernel) rfl, aw_in 402 (by decide +kernel) rfl⟩
set_option maxRecDepth 100000 in
theorem fX6_givenTo : MFv mX6_givenTo 1 := ⟨⟨aw_in 411 rfl rfl, iniX6, ⟨nmhX6.1, nmhX6.2, by decide +kernel⟩, by decide⟩, aw_in 410 (by decide +kernel) rfl, aw_in 7 (by decide +kernel) rfl⟩
set_option maxRecDepth 100000 in
theorem fX6_openTies : MFv mX6_openTies 1 := ⟨⟨aw_in 415 rfl rfl, iniX6, ⟨nmhX6.1, nmhX6.2, by decide +kernel⟩, by decide⟩, aw_in 414 (by decide +kernel) rfl, aw_in 8 (by decide +kernel) rfl⟩
set_option maxRecDepth 100000 in
theorem fX6_of : MFv mX6_of 2 := ⟨⟨aw_in 407 rfl rfl, iniX6, ⟨nmhX6.1, nmhX6.2, by decide +kernel⟩, by decide⟩, aw_in 405 (by decide +kernel) rfl, aw_in 406 (by decide +kernel) rfl⟩
set_option maxRecDepth 100000 in
theorem fX6_standingFor : MFv mX6_standingFor 1 := ⟨⟨aw_in 426 rfl rfl, iniX6, ⟨nmhX6.1, nmhX6.2, by decide +kernel⟩, by decide⟩, aw_in 425 (by decide +kernel) rfl, aw_in 9 (by decide +kernel) rfl⟩
set_option maxRecDepth 100000 in
theorem fJ6_bitCount_0f7a4 : MFs mJ6_bitCount_0f7a4 1 := ⟨⟨aw_in 429 rfl rfl, iniJ6, ⟨nmhJ6.1, nmhJ6.2, by decide +kernel⟩, by decide⟩, aw_in 428 (by decide +kernel) rfl⟩
set_option maxRecDepth 100000 in
theorem fX6_made : MFv mX6_made 1 := ⟨⟨aw_in 422 rfl rfl, iniX6, ⟨nmhX6.1, nmhX6.2, by decide +kernel⟩, by decide⟩, aw_in 420 (by decide +kernel) rfl, aw_in 421 (by decide +kernel) rfl⟩
set_option maxRecDepth 100000 in
theorem fX6_day : MFv mX6_day 1 := ⟨⟨aw_in 436 rfl rfl, iniX6, ⟨nmhX6.1, nmhX6.2, by decide +kernel⟩, by decide⟩, aw_in 434 (by decide +kernel) rfl, aw_in 435 (by decide +kernel) rfl⟩
set_option maxRecDepth 100000 in
theorem fX6_feed : MFv mX6_feed 1 := ⟨⟨aw_in 440 rfl rfl, iniX6, ⟨nmhX6.1, nmhX6.2, by decide +kernel⟩, by decide⟩, aw_in 438 (by decide +kernel) rfl, aw_in 439 (by decide +kernel) rfl⟩
set_option maxRecDepth 100000 in
theorem fX6_end : MFv mX6_end 1 := ⟨⟨aw_in 448 rfl rfl, iniX6, ⟨nmhX6.1, nmhX6.2, by decide +kernel⟩, by decide⟩, aw_in 446 (by decide +kernel) rfl, aw_in 447 (by decide +kernel) rfl⟩
set_option maxRecDepth 100000 in
theorem fX6_rules : MFv mX6_rules 0 := ⟨⟨aw_in 452 rfl rfl, iniX6, ⟨nmhX6.1, nmhX6.2, by decide +kernel⟩, by decide⟩, aw_in 450 (by decide +kernel) rfl, aw_in 451 (by decide +kernel) rfl⟩
set_option maxRecDepth 100000 in
theorem fX6_fault : MFv mX6_fault 0 := ⟨⟨aw_in 561 rfl rfl, iniX6, ⟨nmhX6.1, nmhX6.2, by decide +kernel⟩, by decide⟩, aw_in 559 (by decide +kernel) rfl, aw_in 560 (by decide +kernel) rfl⟩
set_option maxRecDepth 100000 in
theorem fX6_rule : MFv mX6_rule 1 := ⟨⟨aw_in 565 rfl rfl, iniX6, ⟨nmhX6.1, nmhX6.2, by decide +kernel⟩, by decide⟩, aw_in 563 (by decide +kernel) rfl, aw_in 564 (by decide +kernel) rfl⟩
set_option maxRecDepth 100000 in
theorem fX6_layFlow : MFv mX6_layFlow 0 := ⟨⟨aw_in 573 rfl rfl, iniX6, ⟨nmhX6.1, nmhX6.2, by decide +kernel⟩, by decide⟩, aw_in 572 (by decide +kernel) rfl, aw_in 18 (by decide +kernel) rfl⟩
set_option maxRecDepth 100000 in
theorem fX6_trust : MFv mX6_trust 1 := ⟨⟨aw_in 569 rfl rfl, iniX6, ⟨nmhX6.1, nmhX6.2, by decide +kernel⟩, by decide⟩, aw_in 567 (by decide +kernel) rfl, aw_in 568 (by decide +kernel) rfl⟩
set_option maxRecDepth 100000 in
theorem fX6_isHeap : MFv mX6_isHeap 1 := ⟨⟨aw_in 617 rfl rfl, iniX6, ⟨nmhX6.1, nmhX6.2, by decide +kernel⟩, by decide⟩, aw_in 616 (by decide +kernel) rfl, aw_in 22 (by decide +kernel) rfl⟩
set_option maxRecDepth 100000 in
theorem fX6_heap : MFv mX6_heap 1 := ⟨⟨aw_in 613 rfl rfl, iniX6, ⟨nmhX6.1, nmhX6.2, by decide +kernel⟩, by decide⟩, aw_in 611 (by decide +kernel) rfl, aw_in 612 (by decide +kernel) rfl⟩
set_option maxRecDepth 100000 in
theorem fX6_tiesOutOf : MFv mX6_tiesOutOf 1 := ⟨⟨aw_in 625 rfl rfl, iniX6, ⟨nmhX6.1, nmhX6.2, by decide +kernel⟩, by decide⟩, aw_in 624 (by decide +kernel) rfl, aw_in 23 (by decide +kernel) rfl⟩
set_option maxRecDepth 100000 in
theorem fX6_givenBeyond : MFv mX6_givenBeyond 1 := ⟨⟨aw_in 629 rfl rfl, iniX6, ⟨nmhX6.1, nmhX6.2, by decide +kernel⟩, by decide⟩, aw_in 628 (by decide +kernel) rfl, aw_in 24 (by decide +kernel) rfl⟩
set_option maxRecDepth 100000 in
theorem fX6_cut : MFv mX6_cut 2 := ⟨⟨aw_in 621 rfl rfl, iniX6, ⟨nmhX6.1, nmhX6.2, by decide +kernel⟩, by decide⟩, aw_in 619 (by decide +kernel) rfl, aw_in 620 (by decide +kernel) rfl⟩
set_option maxRecDepth 100000 in
theorem fX6_isPlain : MFv mX6_isPlain 1 := ⟨⟨aw_in 637 rfl rfl, iniX6, ⟨nmhX6.1, nmhX6.2, by decide +kernel⟩, by decide⟩, aw_in 636 (by decide +kernel) rfl, aw_in 25 (by decide +kernel) rfl⟩
set_option maxRecDepth 100000 in
theorem fX6_low : MFv mX6_low 1 := ⟨⟨aw_in 633 rfl rfl, iniX6, ⟨nmhX6.1, nmhX6.2, by decide +kernel⟩, by decide⟩, aw_in 631 (by decide +kernel) rfl, aw_in 632 (by decide +kernel) rfl⟩
set_option maxRecDepth 100000 in
theorem fX6_fillTrusts : MFv mX6_fillTrusts 0 := ⟨⟨aw_in 645 rfl rfl, iniX6, ⟨nmhX6.1, nmhX6.2, by decide +kernel⟩, by decide⟩, aw_in 644 (by decide +kernel) rfl, aw_in 26 (by decide +kernel) rfl⟩
set_option maxRecDepth 100000 in
theorem fX6_twins : MFv mX6_twins 1 := ⟨⟨aw_in 641 rfl rfl, iniX6, ⟨nmhX6.1, nmhX6.2, by decide +kernel⟩, by decide⟩, aw_in 639 (by decide +kernel) rfl, aw_in 640 (by decide +kernel) rfl⟩
set_option maxRecDepth 100000 in
theorem fX6_refusalOf : MFv mX6_refusalOf 5 := ⟨⟨aw_in 653 rfl rfl, iniX6, ⟨nmhX6.1, nmhX6.2, by decide +kernel⟩, by decide⟩, aw_in 652 (by decide +kernel) rfl, aw_in 27 (by decide +kernel) rfl⟩
set_option maxRecDepth 100000 in
theorem fX6_word : MFv mX6_word 4 := ⟨⟨aw_in 649 rfl rfl, iniX6, ⟨nmhX6.1, nmhX6.2, by decide +kernel⟩, by decide⟩, aw_in 647 (by decide +kernel) rfl, aw_in 648 (by decide +kernel) rfl⟩
set_option maxRecDepth 100000 in
theorem fX6_isWord : MFv mX6_isWord 1 := ⟨⟨aw_in 669 rfl rfl, iniX6, ⟨nmhX6.1, nmhX6.2, by decide +kernel⟩, by decide⟩, aw_in 668 (by decide +kernel) rfl, aw_in 29 (by decide +kernel) rfl⟩
set_option maxRecDepth 100000 in
theorem fX6_wordOf : MFv mX6_wordOf 2 := ⟨⟨aw_in 665 rfl rfl, iniX6, ⟨nmhX6.1, nmhX6.2, by decide +kernel⟩, by decide⟩, aw_in 663 (by decide +kernel) rfl, aw_in 664 (by decide +kernel) rfl⟩
set_option maxRecDepth 100000 in
theorem fX6_sayersOf : MFv mX6_sayersOf 1 := ⟨⟨aw_in 685 rfl rfl, iniX6, ⟨nmhX6.1, nmhX6.2, by decide +kernel⟩, by decide⟩, aw_in 684 (by decide +kernel) rfl, aw_in 30 (by decide +kernel) rfl⟩
set_option maxRecDepth 100000 in
theorem fX6_weighSayers : MFv mX6_weighSayers 1 := ⟨⟨aw_in 689 rfl rfl, iniX6, ⟨nmhX6.1, nmhX6.2, by decide +kernel⟩, by decide⟩, aw_in 688 (by decide +kernel) rfl, aw_in 31 (by decide +kernel) rfl⟩
set_option maxRecDepth 100000 in
theorem fX6_weight : MFv mX6_weight 2 := ⟨⟨aw_in 681 rfl rfl, iniX6, ⟨nmhX6.1, nmhX6.2, by decide +kernel⟩, by decide⟩, aw_in 679 (by decide +kernel) rfl, aw_in 680 (by decide +kernel) rfl⟩
set_option maxRecDepth 100000 in
theorem fX6_sayers : MFv mX6_sayers 1 := ⟨⟨aw_in 694 rfl rfl, iniX6, ⟨nmhX6.1, nmhX6.2, by decide +kernel⟩, by decide⟩, aw_in 692 (by decide +kernel) rfl, aw_in 693 (by decide +kernel) rfl⟩
set_option maxRecDepth 100000 in
theorem fX6_summedMarks : MFv mX6_summedMarks 0 := ⟨⟨aw_in 702 rfl rfl, iniX6, ⟨nmhX6.1, nmhX6.2, by decide +kernel⟩, by decide⟩, aw_in 701 (by decide +kernel) rfl, aw_in 32 (by decide +kernel) rfl⟩
set_option maxRecDepth 100000 in
theorem fX6_commonPart : MFs mX6_commonPart 2 := ⟨⟨aw_in 708 rfl rfl, iniX6, ⟨nmhX6.1, nmhX6.2, by decide +kernel⟩, by decide⟩, aw_in 707 (by decide +kernel) rfl⟩
set_option maxRecDepth 100000 in
theorem fX6_inLowest : MFs mX6_inLowest 3 := ⟨⟨aw_in 705 rfl rfl, iniX6, ⟨nmhX6.1, nmhX6.2, by decide +kernel⟩, by decide⟩, aw_in 704 (by decide +kernel) rfl⟩
set_option maxRecDepth 100000 in
theorem fX6_mark : MFv mX6_mark 2 := ⟨⟨aw_in 698 rfl rfl, iniX6, ⟨nmhX6.1, nmhX6.2, by decide +kernel⟩, by decide⟩, aw_in 696 (by decide +kernel) rfl, aw_in 697 (by decide +kernel) rfl⟩
set_option maxRecDepth 100000 in
theorem fX6_greatestStakes : MFv mX6_greatestStakes 2 := ⟨⟨aw_in 719 rfl rfl, iniX6, ⟨nmhX6.1, nmhX6.2, by decide +kernel⟩, by decide⟩, aw_in 718 (by decide +kernel) rfl, aw_in 33 (by decide +kernel) rfl⟩
set_option maxRecDepth 100000 in
theorem fX6_span : MFv mX6_span 3 := ⟨⟨aw_in 715 rfl rfl, iniX6, ⟨nmhX6.1, nmhX6.2, by decide +kernel⟩, by decide⟩, aw_in 713 (by decide +kernel) rfl, aw_in 714 (by decide +kernel) rfl⟩
set_option maxRecDepth 100000 in
theorem fX6_wordsWithin : MFv mX6_wordsWithin 2 := ⟨⟨aw_in 727 rfl rfl, iniX6, ⟨nmhX6.1, nmhX6.2, by decide +kernel⟩, by decide⟩, aw_in 726 (by decide +kernel) rfl, aw_in 34 (by decide +kernel) rfl⟩
set_option maxRecDepth 100000 in
theorem fX6_ring : MFv mX6_ring 2 := ⟨⟨aw_in 723 rfl rfl, iniX6, ⟨nmhX6.1, nmhX6.2, by decide +kernel⟩, by decide⟩, aw_in 721 (by decide +kernel) rfl, aw_in 722 (by decide +kernel) rfl⟩
set_option maxRecDepth 100000 in
theorem fX6_choose : MFs mX6_choose 2 := ⟨⟨aw_in 739 rfl rfl, iniX6, ⟨nmhX6.1, nmhX6.2, by decide +kernel⟩, by decide⟩, aw_in 738 (by decide +kernel) rfl⟩
set_option maxRecDepth 100000 in
theorem fX6_waysOf : MFv mX6_waysOf 2 := ⟨⟨aw_in 736 rfl rfl, iniX6, ⟨nmhX6.1, nmhX6.2, by decide +kernel⟩, by decide⟩, aw_in 735 (by decide +kernel) rfl, aw_in 35 (by decide +kernel) rfl⟩
set_option maxRecDepth 100000 in
theorem fX6_odds : MFv mX6_odds 2 := ⟨⟨aw_in 731 rfl rfl, iniX6, ⟨nmhX6.1, nmhX6.2, by decide +kernel⟩, by decide⟩, aw_in 729 (by decide +kernel) rfl, aw_in 730 (by decide +kernel) rfl⟩
set_option maxRecDepth 100000 in
theorem fX6_oddest : MFv mX6_oddest 1 := ⟨⟨aw_in 743 rfl rfl, iniX6, ⟨nmhX6.1, nmhX6.2, by decide +kernel⟩, by decide⟩, aw_in 741 (by decide +kernel) rfl, aw_in 742 (by decide +kernel) rfl⟩
set_option maxRecDepth 100000 in
theorem fX6_isOffer : MFs mX6_isOffer 2 := ⟨⟨aw_in 751 rfl rfl, iniX6, ⟨nmhX6.1, nmhX6.2, by decide +kernel⟩, by decide⟩, aw_in 750 (by decide +kernel) rfl⟩
set_option maxRecDepth 100000 in
theorem fX6_sellingNames : MFv mX6_sellingNames 0 := ⟨⟨aw_in 755 rfl rfl, iniX6, ⟨nmhX6.1, nmhX6.2, by decide +kernel⟩, by decide⟩, aw_in 754 (by decide +kernel) rfl, aw_in 36 (by decide +kernel) rfl⟩
set_option maxRecDepth 100000 in
theorem fX6_boughtRoom : MFv mX6_boughtRoom 1 := ⟨⟨aw_in 760 rfl rfl, iniX6, ⟨nmhX6.1, nmhX6.2, by decide +kernel⟩, by decide⟩, aw_in 759 (by decide +kernel) rfl, aw_in 37 (by decide +kernel) rfl⟩
set_option maxRecDepth 100000 in
theorem fX6_gainBy : MFv mX6_gainBy 3 := ⟨⟨aw_in 764 rfl rfl, iniX6, ⟨nmhX6.1, nmhX6.2, by decide +kernel⟩, by decide⟩, aw_in 763 (by decide +kernel) rfl, aw_in 38 (by decide +kernel) rfl⟩
set_option maxRecDepth 100000 in
theorem fX6_gain : MFv mX6_gain 3 := ⟨⟨aw_in 748 rfl rfl, iniX6, ⟨nmhX6.1, nmhX6.2, by decide +kernel⟩, by decide⟩, aw_in 746 (by decide +kernel) rfl, aw_in 747 (by decide +kernel) rfl⟩
set_option maxRecDepth 100000 in
theorem fX6_best : MFv mX6_best 3 := ⟨⟨aw_in 772 rfl rfl, iniX6, ⟨nmhX6.1, nmhX6.2, by decide +kernel⟩, by decide⟩, aw_in 770 (by decide +kernel) rfl, aw_in 771 (by decide +kernel) rfl⟩
set_option maxRecDepth 100000 in
theorem fX6_isSheet : MFs mX6_isSheet 1 := ⟨⟨aw_in 779 rfl rfl, iniX6, ⟨nmhX6.1, nmhX6.2, by decide +kernel⟩, by decide⟩, aw_in 778 (by decide +kernel) rfl⟩
set_option maxRecDepth 100000 in
theorem fX6_isLane : MFs mX6_isLane 1 := ⟨⟨aw_in 782 rfl rfl, iniX6, ⟨nmhX6.1, nmhX6.2, by decide +kernel⟩, by decide⟩, aw_in 781 (by decide +kernel) rfl⟩
set_option maxRecDepth 100000 in
theorem fX6_sheet : MFv mX6_sheet 3 := ⟨⟨aw_in 776 rfl rfl, iniX6, ⟨nmhX6.1, nmhX6.2, by decide +kernel⟩, by decide⟩, aw_in 774 (by decide +kernel) rfl, aw_in 775 (by decide +kernel) rfl⟩
set_option maxRecDepth 100000 in
theorem fX6_lay : MFv mX6_lay 3 := ⟨⟨aw_in 791 rfl rfl, iniX6, ⟨nmhX6.1, nmhX6.2, by decide +kernel⟩, by decide⟩, aw_in 789 (by decide +kernel) rfl, aw_in 790 (by decide +kernel) rfl⟩
set_option maxRecDepth 100000 in
theorem fX6_read : MFv mX6_read 4 := ⟨⟨aw_in 808 rfl rfl, iniX6, ⟨nmhX6.1, nmhX6.2, by decide +kernel⟩, by decide⟩, aw_in 806 (by decide +kernel) rfl, aw_in 807 (by decide +kernel) rfl⟩
set_option maxRecDepth 100000 in
theorem fX6_lost : MFv mX6_lost 0 := ⟨⟨aw_in 821 rfl rfl, iniX6, ⟨nmhX6.1, nmhX6.2, by decide +kernel⟩, by decide⟩, aw_in 819 (by decide +kernel) rfl, aw_in 820 (by decide +kernel) rfl⟩
set_option maxRecDepth 100000 in
theorem fX6_countTrue : MFv mX6_countTrue 1 := ⟨⟨aw_in 829 rfl rfl, iniX6, ⟨nmhX6.1, nmhX6.2, by decide +kernel⟩, by decide⟩, aw_in 828 (by decide +kernel) rfl, aw_in 39 (by decide +kernel) rfl⟩
set_option maxRecDepth 100000 in
theorem fX6_countFined : MFv mX6_countFined 0 := ⟨⟨aw_in 833 rfl rfl, iniX6, ⟨nmhX6.1, nmhX6.2, by decide +kernel⟩, by decide⟩, aw_in 832 (by decide +kernel) rfl, aw_in 40 (by decide +kernel) rfl⟩
set_option maxRecDepth 100000 in
theorem fX6_count : MFv mX6_count 1 := ⟨⟨aw_in 825 rfl rfl, iniX6, ⟨nmhX6.1, nmhX6.2, by decide +kernel⟩, by decide⟩, aw_in 823 (by decide +kernel) rfl, aw_in 824 (by decide +kernel) rfl⟩
set_option maxRecDepth 100000 in
theorem fX7_firstRules : MFv mX7_firstRules 0 := ⟨⟨aw_in 850 rfl rfl, iniX7, ⟨nmhX7.1, nmhX7.2, by decide +kernel⟩, by decide⟩, aw_in 849 (by decide +kernel) rfl, aw_in 41 (by decide +kernel) rfl⟩
set_option maxRecDepth 100000 in
theorem fX7_keepRules : MFv mX7_keepRules 0 := ⟨⟨aw_in 854 rfl rfl, iniX7, ⟨nmhX7.1, nmhX7.2, by decide +kernel⟩, by decide⟩, aw_in 853 (by decide +kernel) rfl, aw_in 42 (by decide +kernel) rfl⟩
set_option maxRecDepth 100000 in
theorem fX7_in : MFs mX7_in 3 := ⟨⟨aw_in 995 rfl rfl, iniX7, ⟨nmhX7.1, nmhX7.2, by decide +kernel⟩, by decide⟩, aw_in 994 (by decide +kernel) rfl⟩
set_option maxRecDepth 100000 in
theorem fX7_bits : MFs mX7_bits 1 := ⟨⟨aw_in 1056 rfl rfl, iniX7, ⟨nmhX7.1, nmhX7.2, by decide +kernel⟩, by decide⟩, aw_in 1055 (by decide +kernel) rfl⟩
set_option maxRecDepth 100000 in
theorem fX7_common : MFs mX7_common 2 := ⟨⟨aw_in 1224 rfl rfl, iniX7, ⟨nmhX7.1, nmhX7.2, by decide +kernel⟩, by decide⟩, aw_in 1223 (by decide +kernel) rfl⟩
set_option maxRecDepth 100000 in
theorem fX7_isName : MFv mX7_isName 1 := ⟨⟨aw_in 1003 rfl rfl, iniX7, ⟨nmhX7.1, nmhX7.2, by decide +kernel⟩, by decide⟩, aw_in 1002 (by decide +kernel) rfl, aw_in 43 (by decide +kernel) rfl⟩
set_option maxRecDepth 100000 in
theorem fX7_isFined : MFv mX7_isFined 1 := ⟨⟨aw_in 1036 rfl rfl, iniX7, ⟨nmhX7.1, nmhX7.2, by decide +kernel⟩, by decide⟩, aw_in 1035 (by decide +kernel) rfl, aw_in 47 (by decide +kernel) rfl⟩
set_option maxRecDepth 100000 in
theorem fX7_name : MFv mX7_name 1 := ⟨⟨aw_in 991 rfl rfl, iniX7, ⟨nmhX7.1, nmhX7.2, by decide +kernel⟩, by decide⟩, aw_in 989 (by decide +kernel) rfl, aw_in 990 (by decide +kernel) rfl⟩
set_option maxRecDepth 100000 in
theorem fX7_seed : MFv mX7_seed 2 := ⟨⟨aw_in 999 rfl rfl, iniX7, ⟨nmhX7.1, nmhX7.2, by decide +kernel⟩, by decide⟩, aw_in 997 (by decide +kernel) rfl, aw_in 998 (by decide +kernel) rfl⟩
set_option maxRecDepth 100000 in
theorem fX7_pledged : MFv mX7_pledged 1 := ⟨⟨aw_in 1011 rfl rfl, iniX7, ⟨nmhX7.1, nmhX7.2, by decide +kernel⟩, by decide⟩, aw_in 1010 (by decide +kernel) rfl, aw_in 44 (by decide +kernel) rfl⟩
set_option maxRecDepth 100000 in
theorem fX7_pledge : MFv mX7_pledge 2 := ⟨⟨aw_in 1007 rfl rfl, iniX7, ⟨nmhX7.1, nmhX7.2, by decide +kernel⟩, by decide⟩, aw_in 1005 (by decide +kernel) rfl, aw_in 1006 (by decide +kernel) rfl⟩
set_option maxRecDepth 100000 in
theorem fX7_tie : MFv mX7_tie 4 := ⟨⟨aw_in 1015 rfl rfl, iniX7, ⟨nmhX7.1, nmhX7.2, by decide +kernel⟩, by decide⟩, aw_in 1013 (by decide +kernel) rfl, aw_in 1014 (by decide +kernel) rfl⟩
set_option maxRecDepth 100000 in
theorem fX7_faded : MFs mX7_faded 3 := ⟨⟨aw_in 1032 rfl rfl, iniX7, ⟨nmhX7.1, nmhX7.2, by decide +kernel⟩, by decide⟩, aw_in 1031 (by decide +kernel) rfl⟩
set_option maxRecDepth 100000 in
theorem fX7_roomOf : MFv mX7_roomOf 1 := ⟨⟨aw_in 1029 rfl rfl, iniX7, ⟨nmhX7.1, nmhX7.2, by decide +kernel⟩, by decide⟩, aw_in 1028 (by decide +kernel) rfl, aw_in 46 (by decide +kernel) rfl⟩
set_option maxRecDepth 100000 in
theorem fX7_isTie : MFv mX7_isTie 1 := ⟨⟨aw_in 1024 rfl rfl, iniX7, ⟨nmhX7.1, nmhX7.2, by decide +kernel⟩, by decide⟩, aw_in 1023 (by decide +kernel) rfl, aw_in 45 (by decide +kernel) rfl⟩
set_option maxRecDepth 100000 in
theorem fX7_tieOf : MFv mX7_tieOf 2 := ⟨⟨aw_in 1020 rfl rfl, iniX7, ⟨nmhX7.1, nmhX7.2, by decide +kernel⟩, by decide⟩, aw_in 1018 (by decide +kernel) rfl, aw_in 1019 (by decide +kernel) rfl⟩
set_option maxRecDepth 100000 in
theorem fX7_renew : MFv mX7_renew 1 := ⟨⟨aw_in 1040 rfl rfl, iniX7, ⟨nmhX7.1, nmhX7.2, by decide +kernel⟩, by decide⟩, aw_in 1038 (by decide +kernel) rfl, aw_in 1039 (by decide +kernel) rfl⟩
set_option maxRecDepth 100000 in
theorem fX7_given : MFv mX7_given 1 := ⟨⟨aw_in 1049 rfl rfl, iniX7, ⟨nmhX7.1, nmhX7.2, by decide +kernel⟩, by decide⟩, aw_in 1048 (by decide +kernel) rfl, aw_in 48 (by decide +kernel) rfl⟩
set_option maxRecDepth 100000 in
theorem fX7_of : MFv mX7_of 2 := ⟨⟨aw_in 1044 rfl rfl, iniX7, ⟨nmhX7.1, nmhX7.2, by decide +kernel⟩, by decide⟩, aw_in 1042 (by decide +kernel) rfl, aw_in 1043 (by decide +kernel) rfl⟩
set_option maxRecDepth 100000 in
theorem fX7_made : MFv mX7_made 1 := ⟨⟨aw_in 1053 rfl rfl, iniX7, ⟨nmhX7.1, nmhX7.2, by decide +kernel⟩, by decide⟩, aw_in 1051 (by decide +kernel) rfl, aw_in 1052 (by decide +kernel) rfl⟩
set_option maxRecDepth 100000 in
theorem fX7_day : MFv mX7_day 1 := ⟨⟨aw_in 1060 rfl rfl, iniX7, ⟨nmhX7.1, nmhX7.2, by decide +kernel⟩, by decide⟩, aw_in 1058 (by decide +kernel) rfl, aw_in 1059 (by decide +kernel) rfl⟩
set_option maxRecDepth 100000 in
theorem fX7_feed : MFv mX7_feed 1 := ⟨⟨aw_in 1065 rfl rfl, iniX7, ⟨nmhX7.1, nmhX7.2, by decide +kernel⟩, by decide⟩, aw_in 1063 (by decide +kernel) rfl, aw_in 1064 (by decide +kernel) rfl⟩
set_option maxRecDepth 100000 in
theorem fX7_end : MFv mX7_end 1 := ⟨⟨aw_in 1070 rfl rfl, iniX7, ⟨nmhX7.1, nmhX7.2, by decide +kernel⟩, by decide⟩, aw_in 1068 (by decide +kernel) rfl, aw_in 1069 (by decide +kernel) rfl⟩
set_option maxRecDepth 100000 in
theorem fX7_wants : MFv mX7_wants 2 := ⟨⟨aw_in 1096 rfl rfl, iniX7, ⟨nmhX7.1, nmhX7.2, by decide +kernel⟩, by decide⟩, aw_in 1095 (by decide +kernel) rfl, aw_in 53 (by decide +kernel) rfl⟩
set_option maxRecDepth 100000 in
theorem fX7_look : MFv mX7_look 1 := ⟨⟨aw_in 1082 rfl rfl, iniX7, ⟨nmhX7.1, nmhX7.2, by decide +kernel⟩, by decide⟩, aw_in 1081 (by decide +kernel) rfl, aw_in 50 (by decide +kernel) rfl⟩
set_option maxRecDepth 100000 in
theorem fX7_is : MFv mX7_is 5 := ⟨⟨aw_in 1092 rfl rfl, iniX7, ⟨nmhX7.1, nmhX7.2, by decide +kernel⟩, by decide⟩, aw_in 1091 (by decide +kernel) rfl, aw_in 52 (by decide +kernel) rfl⟩
set_option maxRecDepth 100000 in
theorem fX7_nameNow : MFv mX7_nameNow 0 := ⟨⟨aw_in 1088 rfl rfl, iniX7, ⟨nmhX7.1, nmhX7.2, by decide +kernel⟩, by decide⟩, aw_in 1087 (by decide +kernel) rfl, aw_in 51 (by decide +kernel) rfl⟩
set_option maxRecDepth 100000 in
theorem fX7_next : MFv mX7_next 0 := ⟨⟨aw_in 1078 rfl rfl, iniX7, ⟨nmhX7.1, nmhX7.2, by decide +kernel⟩, by decide⟩, aw_in 1077 (by decide +kernel) rfl, aw_in 49 (by decide +kernel) rfl⟩
set_option maxRecDepth 100000 in
theorem fX7_least : MFs mX7_least 1 := ⟨⟨aw_in 1105 rfl rfl, iniX7, ⟨nmhX7.1, nmhX7.2, by decide +kernel⟩, by decide⟩, aw_in 1104 (by decide +kernel) rfl⟩
set_option maxRecDepth 100000 in
theorem fX7_most : MFs mX7_most 1 := ⟨⟨aw_in 1108 rfl rfl, iniX7, ⟨nmhX7.1, nmhX7.2, by decide +kernel⟩, by decide⟩, aw_in 1107 (by decide +kernel) rfl⟩
set_option maxRecDepth 100000 in
theorem fX7_readLine : MFv mX7_readLine 0 := ⟨⟨aw_in 1102 rfl rfl, iniX7, ⟨nmhX7.1, nmhX7.2, by decide +kernel⟩, by decide⟩, aw_in 1101 (by decide +kernel) rfl, aw_in 54 (by decide +kernel) rfl⟩
set_option maxRecDepth 100000 in
theorem fX7_rules : MFv mX7_rules 0 := ⟨⟨aw_in 1074 rfl rfl, iniX7, ⟨nmhX7.1, nmhX7.2, by decide +kernel⟩, by decide⟩, aw_in 1072 (by decide +kernel) rfl, aw_in 1073 (by decide +kernel) rfl⟩
set_option maxRecDepth 100000 in
theorem fX7_fault : MFv mX7_fault 0 := ⟨⟨aw_in 1112 rfl rfl, iniX7, ⟨nmhX7.1, nmhX7.2, by decide +kernel⟩, by decide⟩, aw_in 1110 (by decide +kernel) rfl, aw_in 1111 (by decide +kernel) rfl⟩
set_option maxRecDepth 100000 in
theorem fX7_rule : MFv mX7_rule 1 := ⟨⟨aw_in 1116 rfl rfl, iniX7, ⟨nmhX7.1, nmhX7.2, by decide +kernel⟩, by decide⟩, aw_in 1114 (by decide +kernel) rfl, aw_in 1115 (by decide +kernel) rfl⟩
set_option maxRecDepth 100000 in
theorem fX7_begins : MFv mX7_begins 0 := ⟨⟨aw_in 1129 rfl rfl, iniX7, ⟨nmhX7.1, nmhX7.2, by decide +kernel⟩, by decide⟩, aw_in 1128 (by decide +kernel) rfl, aw_in 56 (by decide +kernel) rfl⟩
set_option maxRecDepth 100000 in
theorem fX7_reaches : MFv mX7_reaches 0 := ⟨⟨aw_in 1138 rfl rfl, iniX7, ⟨nmhX7.1, nmhX7.2, by decide +kernel⟩, by decide⟩, aw_in 1137 (by decide +kernel) rfl, aw_in 58 (by decide +kernel) rfl⟩
set_option maxRecDepth 100000 in
theorem fX7_flows : MFv mX7_flows 0 := ⟨⟨aw_in 1134 rfl rfl, iniX7, ⟨nmhX7.1, nmhX7.2, by decide +kernel⟩, by decide⟩, aw_in 1133 (by decide +kernel) rfl, aw_in 57 (by decide +kernel) rfl⟩
set_option maxRecDepth 100000 in
theorem fX7_trustOf : MFv mX7_trustOf 1 := ⟨⟨aw_in 1125 rfl rfl, iniX7, ⟨nmhX7.1, nmhX7.2, by decide +kernel⟩, by decide⟩, aw_in 1124 (by decide +kernel) rfl, aw_in 55 (by decide +kernel) rfl⟩
set_option maxRecDepth 100000 in
theorem fX7_areNames : MFv mX7_areNames 1 := ⟨⟨aw_in 1146 rfl rfl, iniX7, ⟨nmhX7.1, nmhX7.2, by decide +kernel⟩, by decide⟩, aw_in 1145 (by decide +kernel) rfl, aw_in 59 (by decide +kernel) rfl⟩
set_option maxRecDepth 100000 in
theorem fX7_trust : MFv mX7_trust 1 := ⟨⟨aw_in 1121 rfl rfl, iniX7, ⟨nmhX7.1, nmhX7.2, by decide +kernel⟩, by decide⟩, aw_in 1119 (by decide +kernel) rfl, aw_in 1120 (by decide +kernel) rfl⟩
set_option maxRecDepth 100000 in
theorem fX7_heap : MFv mX7_heap 1 := ⟨⟨aw_in 1142 rfl rfl, iniX7, ⟨nmhX7.1, nmhX7.2, by decide +kernel⟩, by decide⟩, aw_in 1140 (by decide +kernel) rfl, aw_in 1141 (by decide +kernel) rfl⟩
set_option maxRecDepth 100000 in
theorem fX7_cut : MFv mX7_cut 2 := ⟨⟨aw_in 1150 rfl rfl, iniX7, ⟨nmhX7.1, nmhX7.2, by decide +kernel⟩, by decide⟩, aw_in 1148 (by decide +kernel) rfl, aw_in 1149 (by decide +kernel) rfl⟩
set_option maxRecDepth 100000 in
theorem fX7_isPlain : MFv mX7_isPlain 1 := ⟨⟨aw_in 1159 rfl rfl, iniX7, ⟨nmhX7.1, nmhX7.2, by decide +kernel⟩, by decide⟩, aw_in 1158 (by decide +kernel) rfl, aw_in 60 (by decide +kernel) rfl⟩
set_option maxRecDepth 100000 in
theorem fX7_low : MFv mX7_low 1 := ⟨⟨aw_in 1155 rfl rfl, iniX7, ⟨nmhX7.1, nmhX7.2, by decide +kernel⟩, by decide⟩, aw_in 1153 (by decide +kernel) rfl, aw_in 1154 (by decide +kernel) rfl⟩
set_option maxRecDepth 100000 in
theorem fX7_twins : MFv mX7_twins 1 := ⟨⟨aw_in 1163 rfl rfl, iniX7, ⟨nmhX7.1, nmhX7.2, by decide +kernel⟩, by decide⟩, aw_in 1161 (by decide +kernel) rfl, aw_in 1162 (by decide +kernel) rfl⟩
set_option maxRecDepth 100000 in
theorem fX7_isWord : MFv mX7_isWord 4 := ⟨⟨aw_in 1171 rfl rfl, iniX7, ⟨nmhX7.1, nmhX7.2, by decide +kernel⟩, by decide⟩, aw_in 1170 (by decide +kernel) rfl, aw_in 61 (by decide +kernel) rfl⟩
set_option maxRecDepth 100000 in
theorem fX7_says : MFv mX7_says 4 := ⟨⟨aw_in 1177 rfl rfl, iniX7, ⟨nmhX7.1, nmhX7.2, by decide +kernel⟩, by decide⟩, aw_in 1176 (by decide +kernel) rfl, aw_in 62 (by decide +kernel) rfl⟩
set_option maxRecDepth 100000 in
theorem fX7_word : MFv mX7_word 4 := ⟨⟨aw_in 1167 rfl rfl, iniX7, ⟨nmhX7.1, nmhX7.2, by decide +kernel⟩, by decide⟩, aw_in 1165 (by decide +kernel) rfl, aw_in 1166 (by decide +kernel) rfl⟩
set_option maxRecDepth 100000 in
theorem fX7_isFirst : MFv mX7_isFirst 1 := ⟨⟨aw_in 1189 rfl rfl, iniX7, ⟨nmhX7.1, nmhX7.2, by decide +kernel⟩, by decide⟩, aw_in 1188 (by decide +kernel) rfl, aw_in 64 (by decide +kernel) rfl⟩
set_option maxRecDepth 100000 in
theorem fX7_counts : MFv mX7_counts 1 := ⟨⟨aw_in 1185 rfl rfl, iniX7, ⟨nmhX7.1, nmhX7.2, by decide +kernel⟩, by decide⟩, aw_in 1184 (by decide +kernel) rfl, aw_in 63 (by decide +kernel) rfl⟩
set_option maxRecDepth 100000 in
theorem fX7_wordOf : MFv mX7_wordOf 2 := ⟨⟨aw_in 1181 rfl rfl, iniX7, ⟨nmhX7.1, nmhX7.2, by decide +kernel⟩, by decide⟩, aw_in 1179 (by decide +kernel) rfl, aw_in 1180 (by decide +kernel) rfl⟩
set_option maxRecDepth 100000 in
theorem fX7_wordBy : MFv mX7_wordBy 2 := ⟨⟨aw_in 1201 rfl rfl, iniX7, ⟨nmhX7.1, nmhX7.2, by decide +kernel⟩, by decide⟩, aw_in 1200 (by decide +kernel) rfl, aw_in 66 (by decide +kernel) rfl⟩
set_option maxRecDepth 100000 in
theorem fX7_sayersOf : MFv mX7_sayersOf 1 := ⟨⟨aw_in 1197 rfl rfl, iniX7, ⟨nmhX7.1, nmhX7.2, by decide +kernel⟩, by decide⟩, aw_in 1196 (by decide +kernel) rfl, aw_in 65 (by decide +kernel) rfl⟩
set_option maxRecDepth 100000 in
theorem fX7_weightOf : MFv mX7_weightOf 2 := ⟨⟨aw_in 1205 rfl rfl, iniX7, ⟨nmhX7.1, nmhX7.2, by decide +kernel⟩, by decide⟩, aw_in 1204 (by decide +kernel) rfl, aw_in 67 (by decide +kernel) rfl⟩
set_option maxRecDepth 100000 in
theorem fX7_weight : MFv mX7_weight 2 := ⟨⟨aw_in 1193 rfl rfl, iniX7, ⟨nmhX7.1, nmhX7.2, by decide +kernel⟩, by decide⟩, aw_in 1191 (by decide +kernel) rfl, aw_in 1192 (by decide +kernel) rfl⟩
set_option maxRecDepth 100000 in
theorem fX7_sayers : MFv mX7_sayers 1 := ⟨⟨aw_in 1209 rfl rfl, iniX7, ⟨nmhX7.1, nmhX7.2, by decide +kernel⟩, by decide⟩, aw_in 1207 (by decide +kernel) rfl, aw_in 1208 (by decide +kernel) rfl⟩
set_option maxRecDepth 100000 in
theorem fX7_lists : MFv mX7_lists 1 := ⟨⟨aw_in 1217 rfl rfl, iniX7, ⟨nmhX7.1, nmhX7.2, by decide +kernel⟩, by decide⟩, aw_in 1216 (by decide +kernel) rfl, aw_in 68 (by decide +kernel) rfl⟩
set_option maxRecDepth 100000 in
theorem fX7_fraction : MFv mX7_fraction 2 := ⟨⟨aw_in 1221 rfl rfl, iniX7, ⟨nmhX7.1, nmhX7.2, by decide +kernel⟩, by decide⟩, aw_in 1220 (by decide +kernel) rfl, aw_in 69 (by decide +kernel) rfl⟩
set_option maxRecDepth 100000 in
theorem fX7_mark : MFv mX7_mark 2 := ⟨⟨aw_in 1213 rfl rfl, iniX7, ⟨nmhX7.1, nmhX7.2, by decide +kernel⟩, by decide⟩, aw_in 1211 (by decide +kernel) rfl, aw_in 1212 (by decide +kernel) rfl⟩
set_option maxRecDepth 100000 in
theorem fX7_moved : MFv mX7_moved 2 := ⟨⟨aw_in 1232 rfl rfl, iniX7, ⟨nmhX7.1, nmhX7.2, by decide +kernel⟩, by decide⟩, aw_in 1231 (by decide +kernel) rfl, aw_in 70 (by decide +kernel) rfl⟩
set_option maxRecDepth 100000 in
theorem fX7_span : MFv mX7_span 3 := ⟨⟨aw_in 1228 rfl rfl, iniX7, ⟨nmhX7.1, nmhX7.2, by decide +kernel⟩, by decide⟩, aw_in 1226 (by decide +kernel) rfl, aw_in 1227 (by decide +kernel) rfl⟩
set_option maxRecDepth 100000 in
theorem fX7_isGood : MFv mX7_isGood 1 := ⟨⟨aw_in 1248 rfl rfl, iniX7, ⟨nmhX7.1, nmhX7.2, by decide +kernel⟩, by decide⟩, aw_in 1247 (by decide +kernel) rfl, aw_in 73 (by decide +kernel) rfl⟩
set_option maxRecDepth 100000 in
theorem fX7_isBetween : MFv mX7_isBetween 2 := ⟨⟨aw_in 1244 rfl rfl, iniX7, ⟨nmhX7.1, nmhX7.2, by decide +kernel⟩, by decide⟩, aw_in 1243 (by decide +kernel) rfl, aw_in 72 (by decide +kernel) rfl⟩
set_option maxRecDepth 100000 in
theorem fX7_ringOf : MFv mX7_ringOf 2 := ⟨⟨aw_in 1240 rfl rfl, iniX7, ⟨nmhX7.1, nmhX7.2, by decide +kernel⟩, by decide⟩, aw_in 1239 (by decide +kernel) rfl, aw_in 71 (by decide +kernel) rfl⟩
set_option maxRecDepth 100000 in
theorem fX7_ring : MFv mX7_ring 2 := ⟨⟨aw_in 1236 rfl rfl, iniX7, ⟨nmhX7.1, nmhX7.2, by decide +kernel⟩, by decide⟩, aw_in 1234 (by decide +kernel) rfl, aw_in 1235 (by decide +kernel) rfl⟩
set_option maxRecDepth 100000 in
theorem fX7_ways : MFs mX7_ways 2 := ⟨⟨aw_in 1260 rfl rfl, iniX7, ⟨nmhX7.1, nmhX7.2, by decide +kernel⟩, by decide⟩, aw_in 1259 (by decide +kernel) rfl⟩
set_option maxRecDepth 100000 in
theorem fX7_findOdds : MFv mX7_findOdds 1 := ⟨⟨aw_in 1257 rfl rfl, iniX7, ⟨nmhX7.1, nmhX7.2, by decide +kernel⟩, by decide⟩, aw_in 1256 (by decide +kernel) rfl, aw_in 74 (by decide +kernel) rfl⟩
set_option maxRecDepth 100000 in
theorem fX7_odds : MFv mX7_odds 2 := ⟨⟨aw_in 1252 rfl rfl, iniX7, ⟨nmhX7.1, nmhX7.2, by decide +kernel⟩, by decide⟩, aw_in 1250 (by decide +kernel) rfl, aw_in 1251 (by decide +kernel) rfl⟩
set_option maxRecDepth 100000 in
theorem fX7_oddest : MFv mX7_oddest 1 := ⟨⟨aw_in 1264 rfl rfl, iniX7, ⟨nmhX7.1, nmhX7.2, by decide +kernel⟩, by decide⟩, aw_in 1262 (by decide +kernel) rfl, aw_in 1263 (by decide +kernel) rfl⟩
set_option maxRecDepth 100000 in
theorem fX7_sells : MFv mX7_sells 1 := ⟨⟨aw_in 1277 rfl rfl, iniX7, ⟨nmhX7.1, nmhX7.2, by decide +kernel⟩, by decide⟩, aw_in 1276 (by decide +kernel) rfl, aw_in 76 (by decide +kernel) rfl⟩
set_option maxRecDepth 100000 in
theorem fX7_gainOf : MFv mX7_gainOf 3 := ⟨⟨aw_in 1282 rfl rfl, iniX7, ⟨nmhX7.1, nmhX7.2, by decide +kernel⟩, by decide⟩, aw_in 1281 (by decide +kernel) rfl, aw_in 77 (by decide +kernel) rfl⟩
set_option maxRecDepth 100000 in
theorem fX7_sellers : MFv mX7_sellers 0 := ⟨⟨aw_in 1273 rfl rfl, iniX7, ⟨nmhX7.1, nmhX7.2, by decide +kernel⟩, by decide⟩, aw_in 1272 (by decide +kernel) rfl, aw_in 75 (by decide +kernel) rfl⟩
set_option maxRecDepth 100000 in
theorem fX7_gain : MFv mX7_gain 3 := ⟨⟨aw_in 1269 rfl rfl, iniX7, ⟨nmhX7.1, nmhX7.2, by decide +kernel⟩, by decide⟩, aw_in 1267 (by decide +kernel) rfl, aw_in 1268 (by decide +kernel) rfl⟩
set_option maxRecDepth 100000 in
theorem fX7_best : MFv mX7_best 3 := ⟨⟨aw_in 1286 rfl rfl, iniX7, ⟨nmhX7.1, nmhX7.2, by decide +kernel⟩, by decide⟩, aw_in 1284 (by decide +kernel) rfl, aw_in 1285 (by decide +kernel) rfl⟩
set_option maxRecDepth 100000 in
theorem fX7_isSheet : MFs mX7_isSheet 2 := ⟨⟨aw_in 1293 rfl rfl, iniX7, ⟨nmhX7.1, nmhX7.2, by decide +kernel⟩, by decide⟩, aw_in 1292 (by decide +kernel) rfl⟩
set_option maxRecDepth 100000 in
theorem fX7_sheet : MFv mX7_sheet 3 := ⟨⟨aw_in 1290 rfl rfl, iniX7, ⟨nmhX7.1, nmhX7.2, by decide +kernel⟩, by decide⟩, aw_in 1288 (by decide +kernel) rfl, aw_in 1289 (by decide +kernel) rfl⟩
set_option maxRecDepth 100000 in
theorem fX7_lay : MFv mX7_lay 3 := ⟨⟨aw_in 1297 rfl rfl, iniX7, ⟨nmhX7.1, nmhX7.2, by decide +kernel⟩, by decide⟩, aw_in 1295 (by decide +kernel) rfl, aw_in 1296 (by decide +kernel) rfl⟩
set_option maxRecDepth 100000 in
theorem fX7_refuses : MFv mX7_refuses 3 := ⟨⟨aw_in 1306 rfl rfl, iniX7, ⟨nmhX7.1, nmhX7.2, by decide +kernel⟩, by decide⟩, aw_in 1305 (by decide +kernel) rfl, aw_in 78 (by decide +kernel) rfl⟩
set_option maxRecDepth 100000 in
theorem fX7_read : MFv mX7_read 4 := ⟨⟨aw_in 1301 rfl rfl, iniX7, ⟨nmhX7.1, nmhX7.2, by decide +kernel⟩, by decide⟩, aw_in 1299 (by decide +kernel) rfl, aw_in 1300 (by decide +kernel) rfl⟩
set_option maxRecDepth 100000 in
theorem fX7_lost : MFv mX7_lost 0 := ⟨⟨aw_in 1310 rfl rfl, iniX7, ⟨nmhX7.1, nmhX7.2, by decide +kernel⟩, by decide⟩, aw_in 1308 (by decide +kernel) rfl, aw_in 1309 (by decide +kernel) rfl⟩
set_option maxRecDepth 100000 in
theorem fX7_count : MFv mX7_count 1 := ⟨⟨aw_in 1314 rfl rfl, iniX7, ⟨nmhX7.1, nmhX7.2, by decide +kernel⟩, by decide⟩, aw_in 1312 (by decide +kernel) rfl, aw_in 1313 (by decide +kernel) rfl⟩
set_option maxRecDepth 100000 in
theorem fJ9_max_7cf53 : MFs mJ9_max_7cf53 2 := ⟨⟨aw_in 395 rfl rfl, iniJ9, ⟨nmhJ9.1, nmhJ9.2, by decide +kernel⟩, by decide⟩, aw_in 394 (by decide +kernel) rfl⟩
set_option maxRecDepth 100000 in
theorem fJ9_max_f86c9 : MFs mJ9_max_f86c9 2 := ⟨⟨aw_in 711 rfl rfl, iniJ9, ⟨nmhJ9.1, nmhJ9.2, by decide +kernel⟩, by decide⟩, aw_in 710 (by decide +kernel) rfl⟩
set_option maxRecDepth 100000 in
theorem fJ9_min_7cf53 : MFs mJ9_min_7cf53 2 := ⟨⟨aw_in 609 rfl rfl, iniJ9, ⟨nmhJ9.1, nmhJ9.2, by decide +kernel⟩, by decide⟩, aw_in 608 (by decide +kernel) rfl⟩
theorem lL_9 : ML RL 9 mX6_init := aw_in 98 (by decide +kernel) rfl
-- link: ('methodLink', 'ManyNames', 3, ('java/lang/Object', '<init>', '()V'))
-- link: ('methodLink', 'ManyNames$Folk', 3, ('java/lang/Object', '<init>', '()V'))
theorem gX1_9 : FL RX1 9 1 0 := ⟨RX1, TX1, 6, rfl, by decide, aw_in 110 (by decide +kernel) rfl, wnX1, rfl⟩
theorem gX6_143 : FL RX6 143 1 0 := ⟨RX1, TX1, 6, rfl, by decide, aw_in 111 (by decide +kernel) rfl, wnX1, rfl⟩
theorem gX1_15 : FL RX1 15 1 1 := ⟨RX1, TX1, 6, rfl, by decide, aw_in 112 (by decide +kernel) rfl, wnX1, rfl⟩
theorem gX6_88 : FL RX6 88 1 1 := ⟨RX1, TX1, 6, rfl, by decide, aw_in 113 (by decide +kernel) rfl, wnX1, rfl⟩
theorem gX1_19 : FL RX1 19 1 2 := ⟨RX1, TX1, 6, rfl, by decide, aw_in 114 (by decide +kernel) rfl, wnX1, rfl⟩
theorem gX6_96 : FL RX6 96 1 2 := ⟨RX1, TX1, 6, rfl, by decide, aw_in 115 (by decide +kernel) rfl, wnX1, rfl⟩
theorem gX1_22 : FL RX1 22 1 3 := ⟨RX1, TX1, 6, rfl, by decide, aw_in 116 (by decide +kernel) rfl, wnX1, rfl⟩
theorem gX6_149 : FL RX6 149 1 3 := ⟨RX1, TX1, 6, rfl, by decide, aw_in 117 (by decide +kernel) rfl, wnX1, rfl⟩
theorem gX1_25 : FL RX1 25 1 4 := ⟨RX1, TX1, 6, rfl, by decide, aw_in 118 (by decide +kernel) rfl, wnX1, rfl⟩
theorem gX6_99 : FL RX6 99 1 4 := ⟨RX1, TX1, 6, rfl, by decide, aw_in 119 (by decide +kernel) rfl, wnX1, rfl⟩
theorem gX1_28 : FL RX1 28 1 5 := ⟨RX1, TX1, 6, rfl, by decide, aw_in 120 (by decide +kernel) rfl, wnX1, rfl⟩
theorem gX6_161 : FL RX6 161 1 5 := ⟨RX1, TX1, 6, rfl, by decide, aw_in 121 (by decide +kernel) rfl, wnX1, rfl⟩
-- link: ('methodLink', 'ManyNames$Ties', 3, ('java/lang/Object', '<init>', '()V'))
theorem gX4_9 : FL RX4 9 4 0 := ⟨RX4, TX4, 6, rfl, by decide, aw_in 143 (by decide +kernel) rfl, wnX4, rfl⟩
theorem gX6_122 : FL RX6 122 4 0 := ⟨RX4, TX4, 6, rfl, by decide, aw_in 144 (by decide +kernel) rfl, wnX4, rfl⟩
theorem gX4_15 : FL RX4 15 4 1 := ⟨RX4, TX4, 6, rfl, by decide, aw_in 145 (by decide +kernel) rfl, wnX4, rfl⟩
theorem gX6_125 : FL RX6 125 4 1 := ⟨RX4, TX4, 6, rfl, by decide, aw_in 146 (by decide +kernel) rfl, wnX4, rfl⟩
theorem gX4_18 : FL RX4 18 4 2 := ⟨RX4, TX4, 6, rfl, by decide, aw_in 147 (by decide +kernel) rfl, wnX4, rfl⟩
theorem gX6_128 : FL RX6 128 4 2 := ⟨RX4, TX4, 6, rfl, by decide, aw_in 148 (by decide +kernel) rfl, wnX4, rfl⟩
theorem gX4_21 : FL RX4 21 4 3 := ⟨RX4, TX4, 6, rfl, by decide, aw_in 149 (by decide +kernel) rfl, wnX4, rfl⟩
theorem gX6_131 : FL RX6 131 4 3 := ⟨RX4, TX4, 6, rfl, by decide, aw_in 150 (by decide +kernel) rfl, wnX4, rfl⟩
theorem gX4_24 : FL RX4 24 4 4 := ⟨RX4, TX4, 6, rfl, by decide, aw_in 151 (by decide +kernel) rfl, wnX4, rfl⟩
theorem gX6_134 : FL RX6 134 4 4 := ⟨RX4, TX4, 6, rfl, by decide, aw_in 152 (by decide +kernel) rfl, wnX4, rfl⟩
theorem gX4_27 : FL RX4 27 4 5 := ⟨RX4, TX4, 6, rfl, by decide, aw_in 153 (by decide +kernel) rfl, wnX4, rfl⟩
theorem gX6_109 : FL RX6 109 4 5 := ⟨RX4, TX4, 6, rfl, by decide, aw_in 154 (by decide +kernel) rfl, wnX4, rfl⟩
-- link: ('methodLink', 'ManyNames$Words', 3, ('java/lang/Object', '<init>', '()V'))
theorem gX5_9 : FL RX5 9 5 0 := ⟨RX5, TX5, 8, rfl, by decide, aw_in 174 (by decide +kernel) rfl, wnX5, rfl⟩
theorem gX6_221 : FL RX6 221 5 0 := ⟨RX5, TX5, 8, rfl, by decide, aw_in 175 (by decide +kernel) rfl, wnX5, rfl⟩
theorem gX5_15 : FL RX5 15 5 1 := ⟨RX5, TX5, 8, rfl, by decide, aw_in 176 (by decide +kernel) rfl, wnX5, rfl⟩
theorem gX6_224 : FL RX6 224 5 1 := ⟨RX5, TX5, 8, rfl, by decide, aw_in 177 (by decide +kernel) rfl, wnX5, rfl⟩
theorem gX5_18 : FL RX5 18 5 2 := ⟨RX5, TX5, 8, rfl, by decide, aw_in 178 (by decide +kernel) rfl, wnX5, rfl⟩
theorem gX6_227 : FL RX6 227 5 2 := ⟨RX5, TX5, 8, rfl, by decide, aw_in 179 (by decide +kernel) rfl, wnX5, rfl⟩
theorem gX5_21 : FL RX5 21 5 3 := ⟨RX5, TX5, 8, rfl, by decide, aw_in 180 (by decide +kernel) rfl, wnX5, rfl⟩
theorem gX6_230 : FL RX6 230 5 3 := ⟨RX5, TX5, 8, rfl, by decide, aw_in 181 (by decide +kernel) rfl, wnX5, rfl⟩
theorem gX5_24 : FL RX5 24 5 4 := ⟨RX5, TX5, 8, rfl, by decide, aw_in 182 (by decide +kernel) rfl, wnX5, rfl⟩
theorem gX6_233 : FL RX6 233 5 4 := ⟨RX5, TX5, 8, rfl, by decide, aw_in 183 (by decide +kernel) rfl, wnX5, rfl⟩
theorem gX5_27 : FL RX5 27 5 5 := ⟨RX5, TX5, 8, rfl, by decide, aw_in 184 (by decide +kernel) rfl, wnX5, rfl⟩
theorem gX6_351 : FL RX6 351 5 5 := ⟨RX5, TX5, 8, rfl, by decide, aw_in 185 (by decide +kernel) rfl, wnX5, rfl⟩
theorem gX5_30 : FL RX5 30 5 6 := ⟨RX5, TX5, 8, rfl, by decide, aw_in 186 (by decide +kernel) rfl, wnX5, rfl⟩
theorem gX5_34 : FL RX5 34 5 7 := ⟨RX5, TX5, 8, rfl, by decide, aw_in 187 (by decide +kernel) rfl, wnX5, rfl⟩
theorem gX6_255 : FL RX6 255 5 7 := ⟨RX5, TX5, 8, rfl, by decide, aw_in 188 (by decide +kernel) rfl, wnX5, rfl⟩
-- link: ('methodLink', 'ManyNames$Tape', 3, ('java/lang/Object', '<init>', '()V'))
theorem gX3_11 : FL RX3 11 3 0 := ⟨RX3, TX3, 8, rfl, by decide, aw_in 212 (by decide +kernel) rfl, wnX3, rfl⟩
theorem gX3_15 : FL RX3 15 3 1 := ⟨RX3, TX3, 8, rfl, by decide, aw_in 213 (by decide +kernel) rfl, wnX3, rfl⟩
theorem gX6_180 : FL RX6 180 3 1 := ⟨RX3, TX3, 8, rfl, by decide, aw_in 214 (by decide +kernel) rfl, wnX3, rfl⟩
theorem gX3_25 : FL RX3 25 3 2 := ⟨RX3, TX3, 8, rfl, by decide, aw_in 215 (by decide +kernel) rfl, wnX3, rfl⟩
theorem gX6_187 : FL RX6 187 3 2 := ⟨RX3, TX3, 8, rfl, by decide, aw_in 216 (by decide +kernel) rfl, wnX3, rfl⟩
theorem gX3_19 : FL RX3 19 3 3 := ⟨RX3, TX3, 8, rfl, by decide, aw_in 217 (by decide +kernel) rfl, wnX3, rfl⟩
theorem gX3_38 : FL RX3 38 3 4 := ⟨RX3, TX3, 8, rfl, by decide, aw_in 218 (by decide +kernel) rfl, wnX3, rfl⟩
theorem gX3_31 : FL RX3 31 3 5 := ⟨RX3, TX3, 8, rfl, by decide, aw_in 219 (by decide +kernel) rfl, wnX3, rfl⟩
theorem gX3_45 : FL RX3 45 3 6 := ⟨RX3, TX3, 8, rfl, by decide, aw_in 220 (by decide +kernel) rfl, wnX3, rfl⟩
theorem gX3_22 : FL RX3 22 3 7 := ⟨RX3, TX3, 8, rfl, by decide, aw_in 221 (by decide +kernel) rfl, wnX3, rfl⟩
-- link: ('methodLink', 'ManyNames$Flow', 3, ('java/lang/Object', '<init>', '()V'))
theorem gX0_11 : FL RX0 11 0 0 := ⟨RX0, TX0, 7, rfl, by decide, aw_in 245 (by decide +kernel) rfl, wnX0, rfl⟩
theorem gX0_15 : FL RX0 15 0 1 := ⟨RX0, TX0, 7, rfl, by decide, aw_in 246 (by decide +kernel) rfl, wnX0, rfl⟩
theorem gX0_18 : FL RX0 18 0 2 := ⟨RX0, TX0, 7, rfl, by decide, aw_in 247 (by decide +kernel) rfl, wnX0, rfl⟩
theorem gX0_21 : FL RX0 21 0 3 := ⟨RX0, TX0, 7, rfl, by decide, aw_in 248 (by decide +kernel) rfl, wnX0, rfl⟩
theorem gX0_24 : FL RX0 24 0 4 := ⟨RX0, TX0, 7, rfl, by decide, aw_in 249 (by decide +kernel) rfl, wnX0, rfl⟩
theorem gX0_27 : FL RX0 27 0 5 := ⟨RX0, TX0, 7, rfl, by decide, aw_in 250 (by decide +kernel) rfl, wnX0, rfl⟩
theorem gX0_53 : FL RX0 53 0 6 := ⟨RX0, TX0, 7, rfl, by decide, aw_in 251 (by decide +kernel) rfl, wnX0, rfl⟩
theorem gX6_199 : FL RX6 199 0 6 := ⟨RX0, TX0, 7, rfl, by decide, aw_in 252 (by decide +kernel) rfl, wnX0, rfl⟩
-- static field: ('fieldLink', 'ManyNames', 66, 'ManyNames', 'RULES_AT_FIRST', '[I') 270
-- link: ('methodLink', 'ManyNames', 69, ('java/lang/System', 'arraycopy', '(Ljava/lang/Object;ILjava/lang/Object;II)V'))
-- link: ('methodLink', 'ManyNames$Sheet', 3, ('java/lang/Object', '<init>', '()V'))
theorem gX2_11 : FL RX2 11 2 0 := ⟨RX2, TX2, 3, rfl, by decide, aw_in 280 (by decide +kernel) rfl, wnX2, rfl⟩
theorem gX6_303 : FL RX6 303 2 0 := ⟨RX2, TX2, 3, rfl, by decide, aw_in 281 (by decide +kernel) rfl, wnX2, rfl⟩
theorem gX2_25 : FL RX2 25 2 1 := ⟨RX2, TX2, 3, rfl, by decide, aw_in 282 (by decide +kernel) rfl, wnX2, rfl⟩
theorem gX2_15 : FL RX2 15 2 2 := ⟨RX2, TX2, 3, rfl, by decide, aw_in 283 (by decide +kernel) rfl, wnX2, rfl⟩
theorem gX6_326 : FL RX6 326 2 2 := ⟨RX2, TX2, 3, rfl, by decide, aw_in 284 (by decide +kernel) rfl, wnX2, rfl⟩
theorem gX6_12 : FL RX6 12 6 0 := ⟨RX6, TX6, 13, rfl, by decide, aw_in 292 (by decide +kernel) rfl, wnX6, rfl⟩
theorem gX6_19 : FL RX6 19 6 1 := ⟨RX6, TX6, 13, rfl, by decide, aw_in 293 (by decide +kernel) rfl, wnX6, rfl⟩
theorem gX6_26 : FL RX6 26 6 2 := ⟨RX6, TX6, 13, rfl, by decide, aw_in 294 (by decide +kernel) rfl, wnX6, rfl⟩
theorem gX6_33 : FL RX6 33 6 3 := ⟨RX6, TX6, 13, rfl, by decide, aw_in 295 (by decide +kernel) rfl, wnX6, rfl⟩
theorem gX6_40 : FL RX6 40 6 4 := ⟨RX6, TX6, 13, rfl, by decide, aw_in 296 (by decide +kernel) rfl, wnX6, rfl⟩
theorem gX6_46 : FL RX6 46 6 5 := ⟨RX6, TX6, 13, rfl, by decide, aw_in 297 (by decide +kernel) rfl, wnX6, rfl⟩
theorem gX6_50 : FL RX6 50 6 6 := ⟨RX6, TX6, 13, rfl, by decide, aw_in 298 (by decide +kernel) rfl, wnX6, rfl⟩
theorem gX6_54 : FL RX6 54 6 7 := ⟨RX6, TX6, 13, rfl, by decide, aw_in 299 (by decide +kernel) rfl, wnX6, rfl⟩
theorem gX6_57 : FL RX6 57 6 8 := ⟨RX6, TX6, 13, rfl, by decide, aw_in 300 (by decide +kernel) rfl, wnX6, rfl⟩
theorem gX6_60 : FL RX6 60 6 9 := ⟨RX6, TX6, 13, rfl, by decide, aw_in 301 (by decide +kernel) rfl, wnX6, rfl⟩
theorem gX6_63 : FL RX6 63 6 10 := ⟨RX6, TX6, 13, rfl, by decide, aw_in 302 (by decide +kernel) rfl, wnX6, rfl⟩
theorem gX6_113 : FL RX6 113 6 11 := ⟨RX6, TX6, 13, rfl, by decide, aw_in 303 (by decide +kernel) rfl, wnX6, rfl⟩
theorem gX6_309 : FL RX6 309 6 12 := ⟨RX6, TX6, 13, rfl, by decide, aw_in 304 (by decide +kernel) rfl, wnX6, rfl⟩
theorem lL_13 : ML RL 13 mX6_name := aw_in 332 (by decide +kernel) rfl
theorem lX6_76 : ML RX6 76 mX6_within := aw_in 336 (by decide +kernel) rfl
theorem lX6_80 : ML RX6 80 mX1_enter := aw_in 339 (by decide +kernel) rfl
theorem lL_18 : ML RL 18 mX6_seed := aw_in 343 (by decide +kernel) rfl
theorem lX6_84 : ML RX6 84 mX6_isName := aw_in 347 (by decide +kernel) rfl
theorem lX6_92 : ML RX6 92 mX6_oneIf := aw_in 351 (by decide +kernel) rfl
theorem lL_23 : ML RL 23 mX6_pledge := aw_in 354 (by decide +kernel) rfl
theorem lX6_102 : ML RX6 102 mX6_pledgeRoom := aw_in 358 (by decide +kernel) rfl
theorem lL_28 : ML RL 28 mX6_tie := aw_in 362 (by decide +kernel) rfl
theorem lX6_105 : ML RX6 105 mX6_arePair := aw_in 366 (by decide +kernel) rfl
theorem lX6_116 : ML RX6 116 mX4_enter := aw_in 370 (by decide +kernel) rfl
theorem lL_33 : ML RL 33 mX6_tieOf := aw_in 374 (by decide +kernel) rfl
theorem lX6_119 : ML RX6 119 mX6_isTie := aw_in 378 (by decide +kernel) rfl
theorem lX6_137 : ML RX6 137 mX6_roomOf := aw_in 382 (by decide +kernel) rfl
theorem lX6_140 : ML RX6 140 mX6_hasMadeEnd := aw_in 386 (by decide +kernel) rfl
theorem lX6_329 : ML RX6 329 mX6_faded := aw_in 390 (by decide +kernel) rfl
theorem lX6_165 : ML RX6 165 mJ9_max_7cf53 := aw_in 393 (by decide +kernel) rfl
theorem lX6_146 : ML RX6 146 mX6_isFined := aw_in 396 (by decide +kernel) rfl
theorem lL_37 : ML RL 37 mX6_renew := aw_in 400 (by decide +kernel) rfl
theorem lL_41 : ML RL 41 mX6_of := aw_in 404 (by decide +kernel) rfl
theorem lX6_152 : ML RX6 152 mX6_givenTo := aw_in 408 (by decide +kernel) rfl
theorem lX6_155 : ML RX6 155 mX6_openTies := aw_in 412 (by decide +kernel) rfl
theorem lX6_162 : ML RX6 162 mX6_hasBit := aw_in 416 (by decide +kernel) rfl
theorem lL_45 : ML RL 45 mX6_made := aw_in 419 (by decide +kernel) rfl
theorem lX6_158 : ML RX6 158 mX6_standingFor := aw_in 423 (by decide +kernel) rfl
theorem lX6_171 : ML RX6 171 mJ6_bitCount_0f7a4 := aw_in 427 (by decide +kernel) rfl
theorem qJ6_265 : Cond.constant RJ6 265 (1431655765) ∈ aw_tb := aw_in 430 (by decide +kernel) rfl
theorem qJ6_266 : Cond.constant RJ6 266 (858993459) ∈ aw_tb := aw_in 431 (by decide +kernel) rfl
theorem qJ6_267 : Cond.constant RJ6 267 (252645135) ∈ aw_tb := aw_in 432 (by decide +kernel) rfl
theorem lL_49 : ML RL 49 mX6_day := aw_in 433 (by decide +kernel) rfl
theorem lL_55 : ML RL 55 mX6_feed := aw_in 437 (by decide +kernel) rfl
theorem lX6_176 : ML RX6 176 mX3_takeEight := aw_in 441 (by decide +kernel) rfl
theorem lL_60 : ML RL 60 mX6_end := aw_in 445 (by decide +kernel) rfl
theorem lL_64 : ML RL 64 mX6_rules := aw_in 449 (by decide +kernel) rfl
theorem lX6_183 : ML RX6 183 mX3_readLines := aw_in 453 (by decide +kernel) rfl
theorem lX3_28 : ML RX3 28 mX3_readToken := aw_in 457 (by decide +kernel) rfl
theorem lX3_62 : ML RX3 62 mX3_isLetter := aw_in 461 (by decide +kernel) rfl
theorem lX3_58 : MLN RX3 58 mX6_within := List.mem_of_getElem? (i := 465) (by decide +kernel)
theorem lX3_65 : ML RX3 65 mX3_readRule := aw_in 466 (by decide +kernel) rfl
theorem lX3_74 : ML RX3 74 mX3_textOf := aw_in 470 (by decide +kernel) rfl
theorem lX3_78 : ML RX3 78 mX3_isText := aw_in 484 (by decide +kernel) rfl
theorem lX3_82 : ML RX3 82 mJ0_length_8abf5 := aw_in 488 (by decide +kernel) rfl
theorem lJ0_335 : ML RJ0 335 mJ0_coder_7d493 := aw_in 492 (by decide +kernel) rfl
-- field: ('fieldLink', 'java/lang/String', 38, 'java/lang/String', 'COMPACT_STRINGS', 'Z')
theorem lX3_87 : ML RX3 87 mJ0_charAt_5068e := aw_in 498 (by decide +kernel) rfl
theorem lJ0_492 : ML RJ0 492 mJ0_isLatin1_aae02 := aw_in 502 (by decide +kernel) rfl
theorem lJ0_495 : ML RJ0 495 mJ1_charAt_3b067 := aw_in 506 (by decide +kernel) rfl
theorem lJ1_9 : ML RJ1 9 mJ0_checkIndex_df160 := aw_in 509 (by decide +kernel) rfl
-- field: ('fieldLink', 'java/lang/String', 1053, 'jdk/internal/util/Preconditions', 'SIOOBE_FORMATTER', 'Ljava/util/function/BiFunction;')
theorem lJ0_1059 : ML RJ0 1059 mJ3_checkIndex_8e157 := aw_in 514 (by decide +kernel) rfl
theorem lJ0_498 : ML RJ0 498 mJ2_charAt_3b067 := aw_in 517 (by decide +kernel) rfl
theorem lJ2_67 : ML RJ2 67 mJ2_checkIndex_2214a := aw_in 520 (by decide +kernel) rfl
theorem lJ2_48 : ML RJ2 48 mJ2_length_9d52b := aw_in 523 (by decide +kernel) rfl
theorem lJ2_414 : ML RJ2 414 mJ0_checkIndex_df160 := aw_in 526 (by decide +kernel) rfl
theorem lJ2_71 : ML RJ2 71 mJ2_getChar_3b067 := aw_in 527 (by decide +kernel) rfl
-- field: ('fieldLink', 'java/lang/StringUTF16', 44, 'java/lang/StringUTF16', '$assertionsDisabled', 'Z')
-- field: ('fieldLink', 'java/lang/StringUTF16', 59, 'java/lang/StringUTF16', 'HI_BYTE_SHIFT', 'I')
-- field: ('fieldLink', 'java/lang/StringUTF16', 63, 'java/lang/StringUTF16', 'LO_BYTE_SHIFT', 'I')
theorem lX3_68 : ML RX3 68 mX3_isFigure := aw_in 536 (by decide +kernel) rfl
theorem lX3_71 : ML RX3 71 mX3_readNumber := aw_in 540 (by decide +kernel) rfl
theorem lX3_34 : ML RX3 34 mX3_readLine := aw_in 544 (by decide +kernel) rfl
theorem lX3_41 : ML RX3 41 mX3_stands := aw_in 548 (by decide +kernel) rfl
theorem lX3_48 : MLN RX3 48 mX6_hasBit := List.mem_of_getElem? (i := 552) (by decide +kernel)
theorem lL_69 : ML RL 69 mX6_fault := aw_in 558 (by decide +kernel) rfl
theorem lL_73 : ML RL 73 mX6_rule := aw_in 562 (by decide +kernel) rfl
theorem lL_77 : ML RL 77 mX6_trust := aw_in 566 (by decide +kernel) rfl
theorem lX6_190 : ML RX6 190 mX6_layFlow := aw_in 570 (by decide +kernel) rfl
theorem lX6_332 : ML RX6 332 mX0_clear := aw_in 574 (by decide +kernel) rfl
theorem lX0_30 : ML RX0 30 mJ7_fill_53178 := aw_in 578 (by decide +kernel) rfl
theorem lX6_335 : ML RX6 335 mX0_give := aw_in 581 (by decide +kernel) rfl
theorem lX0_36 : ML RX0 36 mX0_widen := aw_in 585 (by decide +kernel) rfl
theorem lX6_338 : ML RX6 338 mX0_join := aw_in 589 (by decide +kernel) rfl
theorem lX6_193 : ML RX6 193 mX0_most := aw_in 593 (by decide +kernel) rfl
-- link: ('methodLink', 'ManyNames$Flow', 40, ('java/lang/System', 'arraycopy', '(Ljava/lang/Object;ILjava/lang/Object;II)V'))
theorem lX0_46 : ML RX0 46 mX0_search := aw_in 598 (by decide +kernel) rfl
theorem lX0_57 : MLN RX0 57 mX6_hasBit := List.mem_of_getElem? (i := 602) (by decide +kernel)
theorem lX0_50 : ML RX0 50 mX0_push := aw_in 603 (by decide +kernel) rfl
theorem lX0_61 : ML RX0 61 mJ9_min_7cf53 := aw_in 607 (by decide +kernel) rfl
theorem lL_81 : ML RL 81 mX6_heap := aw_in 610 (by decide +kernel) rfl
theorem lX6_196 : ML RX6 196 mX6_isHeap := aw_in 614 (by decide +kernel) rfl
theorem lL_85 : ML RL 85 mX6_cut := aw_in 618 (by decide +kernel) rfl
theorem lX6_202 : ML RX6 202 mX6_tiesOutOf := aw_in 622 (by decide +kernel) rfl
theorem lX6_205 : ML RX6 205 mX6_givenBeyond := aw_in 626 (by decide +kernel) rfl
theorem lL_89 : ML RL 89 mX6_low := aw_in 630 (by decide +kernel) rfl
theorem lX6_208 : ML RX6 208 mX6_isPlain := aw_in 634 (by decide +kernel) rfl
theorem lL_93 : ML RL 93 mX6_twins := aw_in 638 (by decide +kernel) rfl
theorem lX6_211 : ML RX6 211 mX6_fillTrusts := aw_in 642 (by decide +kernel) rfl
theorem lL_97 : ML RL 97 mX6_word := aw_in 646 (by decide +kernel) rfl
theorem lX6_214 : ML RX6 214 mX6_refusalOf := aw_in 650 (by decide +kernel) rfl
theorem lX6_217 : ML RX6 217 mX5_enter := aw_in 654 (by decide +kernel) rfl
theorem lX5_38 : ML RX5 38 mX5_isNewDeal := aw_in 658 (by decide +kernel) rfl
theorem lL_101 : ML RL 101 mX6_wordOf := aw_in 662 (by decide +kernel) rfl
theorem lX6_218 : ML RX6 218 mX6_isWord := aw_in 666 (by decide +kernel) rfl
theorem lX6_234 : ML RX6 234 mX5_doesCount := aw_in 670 (by decide +kernel) rfl
theorem lX5_42 : ML RX5 42 mX5_countingOf := aw_in 674 (by decide +kernel) rfl
theorem lL_105 : ML RL 105 mX6_weight := aw_in 678 (by decide +kernel) rfl
theorem lX6_237 : ML RX6 237 mX6_sayersOf := aw_in 682 (by decide +kernel) rfl
theorem lX6_240 : ML RX6 240 mX6_weighSayers := aw_in 686 (by decide +kernel) rfl
theorem lX6_342 : ML RX6 342 mX5_countingOf := aw_in 690 (by decide +kernel) rfl
theorem lL_109 : ML RL 109 mX6_sayers := aw_in 691 (by decide +kernel) rfl
theorem lL_113 : ML RL 113 mX6_mark := aw_in 695 (by decide +kernel) rfl
theorem lX6_243 : ML RX6 243 mX6_summedMarks := aw_in 699 (by decide +kernel) rfl
theorem lX6_247 : ML RX6 247 mX6_inLowest := aw_in 703 (by decide +kernel) rfl
theorem lX6_345 : ML RX6 345 mX6_commonPart := aw_in 706 (by decide +kernel) rfl
theorem lX6_349 : ML RX6 349 mJ9_max_f86c9 := aw_in 709 (by decide +kernel) rfl
theorem lL_117 : ML RL 117 mX6_span := aw_in 712 (by decide +kernel) rfl
theorem lX6_251 : ML RX6 251 mX6_greatestStakes := aw_in 716 (by decide +kernel) rfl
theorem lL_122 : ML RL 122 mX6_ring := aw_in 720 (by decide +kernel) rfl
theorem lX6_256 : ML RX6 256 mX6_wordsWithin := aw_in 724 (by decide +kernel) rfl
theorem lL_126 : ML RL 126 mX6_odds := aw_in 728 (by decide +kernel) rfl
theorem qX6_259 : Cond.constantLong RX6 259 (-1) ∈ aw_tb := aw_in 732 (by decide +kernel) rfl
theorem lX6_261 : ML RX6 261 mX6_waysOf := aw_in 733 (by decide +kernel) rfl
theorem lX6_265 : ML RX6 265 mX6_choose := aw_in 737 (by decide +kernel) rfl
theorem lL_131 : ML RL 131 mX6_oddest := aw_in 740 (by decide +kernel) rfl
theorem qX6_268 : Cond.constantLong RX6 268 (-4) ∈ aw_tb := aw_in 744 (by decide +kernel) rfl
theorem lL_136 : ML RL 136 mX6_gain := aw_in 745 (by decide +kernel) rfl
theorem lX6_270 : ML RX6 270 mX6_isOffer := aw_in 749 (by decide +kernel) rfl
theorem lX6_273 : ML RX6 273 mX6_sellingNames := aw_in 752 (by decide +kernel) rfl
theorem qX6_276 : Cond.constant RX6 276 (-1000000) ∈ aw_tb := aw_in 756 (by decide +kernel) rfl
theorem lX6_277 : ML RX6 277 mX6_boughtRoom := aw_in 757 (by decide +kernel) rfl
theorem lX6_280 : ML RX6 280 mX6_gainBy := aw_in 761 (by decide +kernel) rfl
theorem lX6_354 : ML RX6 354 mX0_partCheat := aw_in 765 (by decide +kernel) rfl
theorem lL_140 : ML RL 140 mX6_best := aw_in 769 (by decide +kernel) rfl
theorem lL_144 : ML RL 144 mX6_sheet := aw_in 773 (by decide +kernel) rfl
theorem lX6_284 : ML RX6 284 mX6_isSheet := aw_in 777 (by decide +kernel) rfl
theorem lX6_287 : ML RX6 287 mX6_isLane := aw_in 780 (by decide +kernel) rfl
theorem lX6_290 : ML RX6 290 mX2_renewRow := aw_in 783 (by decide +kernel) rfl
theorem lX2_19 : ML RX2 19 mJ7_fill_53178 := aw_in 787 (by decide +kernel) rfl
theorem lL_148 : ML RL 148 mX6_lay := aw_in 788 (by decide +kernel) rfl
theorem lX6_294 : ML RX6 294 mX2_faultAt := aw_in 792 (by decide +kernel) rfl
theorem lX2_28 : ML RX2 28 mX2_isNothing := aw_in 796 (by decide +kernel) rfl
theorem lX2_32 : MLN RX2 32 mX6_within := List.mem_of_getElem? (i := 800) (by decide +kernel)
theorem lX6_297 : ML RX6 297 mX2_put := aw_in 801 (by decide +kernel) rfl
theorem lL_152 : ML RL 152 mX6_read := aw_in 805 (by decide +kernel) rfl
theorem lX6_300 : ML RX6 300 mX2_wholeWords := aw_in 809 (by decide +kernel) rfl
theorem lX2_36 : ML RX2 36 mJ9_min_7cf53 := aw_in 813 (by decide +kernel) rfl
theorem lX6_306 : ML RX6 306 mX2_faultOfReading := aw_in 814 (by decide +kernel) rfl
theorem lL_156 : ML RL 156 mX6_lost := aw_in 818 (by decide +kernel) rfl
theorem lL_160 : ML RL 160 mX6_count := aw_in 822 (by decide +kernel) rfl
theorem lX6_312 : ML RX6 312 mX6_countTrue := aw_in 826 (by decide +kernel) rfl
theorem lX6_316 : ML RX6 316 mX6_countFined := aw_in 830 (by decide +kernel) rfl
theorem lX6_319 : ML RX6 319 mX5_countingOnes := aw_in 834 (by decide +kernel) rfl
theorem lX5_46 : ML RX5 46 mX5_doesCount := aw_in 838 (by decide +kernel) rfl
theorem lX5_49 : MLN RX5 49 mX6_oneIf := List.mem_of_getElem? (i := 839) (by decide +kernel)
theorem lX6_322 : ML RX6 322 mX2_isNothing := aw_in 840 (by decide +kernel) rfl
theorem lL_12 : ML RL 12 mX7_init := aw_in 843 (by decide +kernel) rfl
-- link: ('methodLink', 'ManyNamesModel', 1, ('java/lang/Object', '<init>', '()V'))
theorem lX7_92 : ML RX7 92 mX7_firstRules := aw_in 847 (by decide +kernel) rfl
theorem lX7_95 : ML RX7 95 mX7_keepRules := aw_in 851 (by decide +kernel) rfl
theorem gX7_98 : FL RX7 98 7 0 := ⟨RX7, TX7, 44, rfl, by decide, aw_in 855 (by decide +kernel) rfl, wnX7, rfl⟩
theorem gX7_7 : FL RX7 7 7 1 := ⟨RX7, TX7, 44, rfl, by decide, aw_in 856 (by decide +kernel) rfl, wnX7, rfl⟩
theorem gX7_13 : FL RX7 13 7 2 := ⟨RX7, TX7, 44, rfl, by decide, aw_in 857 (by decide +kernel) rfl, wnX7, rfl⟩
theorem gX7_17 : FL RX7 17 7 3 := ⟨RX7, TX7, 44, rfl, by decide, aw_in 858 (by decide +kernel) rfl, wnX7, rfl⟩
theorem gX7_20 : FL RX7 20 7 4 := ⟨RX7, TX7, 44, rfl, by decide, aw_in 859 (by decide +kernel) rfl, wnX7, rfl⟩
theorem gX7_23 : FL RX7 23 7 5 := ⟨RX7, TX7, 44, rfl, by decide, aw_in 860 (by decide +kernel) rfl, wnX7, rfl⟩
theorem gX7_121 : FL RX7 121 7 6 := ⟨RX7, TX7, 44, rfl, by decide, aw_in 861 (by decide +kernel) rfl, wnX7, rfl⟩
theorem gX7_26 : FL RX7 26 7 7 := ⟨RX7, TX7, 44, rfl, by decide, aw_in 862 (by decide +kernel) rfl, wnX7, rfl⟩
theorem gX7_29 : FL RX7 29 7 8 := ⟨RX7, TX7, 44, rfl, by decide, aw_in 863 (by decide +kernel) rfl, wnX7, rfl⟩
theorem gX7_32 : FL RX7 32 7 9 := ⟨RX7, TX7, 44, rfl, by decide, aw_in 864 (by decide +kernel) rfl, wnX7, rfl⟩
theorem gX7_35 : FL RX7 35 7 10 := ⟨RX7, TX7, 44, rfl, by decide, aw_in 865 (by decide +kernel) rfl, wnX7, rfl⟩
theorem gX7_38 : FL RX7 38 7 11 := ⟨RX7, TX7, 44, rfl, by decide, aw_in 866 (by decide +kernel) rfl, wnX7, rfl⟩
theorem gX7_106 : FL RX7 106 7 12 := ⟨RX7, TX7, 44, rfl, by decide, aw_in 867 (by decide +kernel) rfl, wnX7, rfl⟩
theorem gX7_41 : FL RX7 41 7 13 := ⟨RX7, TX7, 44, rfl, by decide, aw_in 868 (by decide +kernel) rfl, wnX7, rfl⟩
theorem gX7_44 : FL RX7 44 7 14 := ⟨RX7, TX7, 44, rfl, by decide, aw_in 869 (by decide +kernel) rfl, wnX7, rfl⟩
theorem gX7_47 : FL RX7 47 7 15 := ⟨RX7, TX7, 44, rfl, by decide, aw_in 870 (by decide +kernel) rfl, wnX7, rfl⟩
theorem gX7_50 : FL RX7 50 7 16 := ⟨RX7, TX7, 44, rfl, by decide, aw_in 871 (by decide +kernel) rfl, wnX7, rfl⟩
theorem gX7_149 : FL RX7 149 7 17 := ⟨RX7, TX7, 44, rfl, by decide, aw_in 872 (by decide +kernel) rfl, wnX7, rfl⟩
theorem gX7_163 : FL RX7 163 7 18 := ⟨RX7, TX7, 44, rfl, by decide, aw_in 873 (by decide +kernel) rfl, wnX7, rfl⟩
theorem gX7_157 : FL RX7 157 7 19 := ⟨RX7, TX7, 44, rfl, by decide, aw_in 874 (by decide +kernel) rfl, wnX7, rfl⟩
theorem gX7_173 : FL RX7 173 7 20 := ⟨RX7, TX7, 44, rfl, by decide, aw_in 875 (by decide +kernel) rfl, wnX7, rfl⟩
theorem gX7_184 : FL RX7 184 7 21 := ⟨RX7, TX7, 44, rfl, by decide, aw_in 876 (by decide +kernel) rfl, wnX7, rfl⟩
theorem gX7_154 : FL RX7 154 7 22 := ⟨RX7, TX7, 44, rfl, by decide, aw_in 877 (by decide +kernel) rfl, wnX7, rfl⟩
theorem gX7_160 : FL RX7 160 7 23 := ⟨RX7, TX7, 44, rfl, by decide, aw_in 878 (by decide +kernel) rfl, wnX7, rfl⟩
theorem gX7_53 : FL RX7 53 7 24 := ⟨RX7, TX7, 44, rfl, by decide, aw_in 879 (by decide +kernel) rfl, wnX7, rfl⟩
theorem gX7_56 : FL RX7 56 7 25 := ⟨RX7, TX7, 44, rfl, by decide, aw_in 880 (by decide +kernel) rfl, wnX7, rfl⟩
theorem gX7_59 : FL RX7 59 7 26 := ⟨RX7, TX7, 44, rfl, by decide, aw_in 881 (by decide +kernel) rfl, wnX7, rfl⟩
theorem gX7_235 : FL RX7 235 7 27 := ⟨RX7, TX7, 44, rfl, by decide, aw_in 882 (by decide +kernel) rfl, wnX7, rfl⟩
theorem gX7_62 : FL RX7 62 7 28 := ⟨RX7, TX7, 44, rfl, by decide, aw_in 883 (by decide +kernel) rfl, wnX7, rfl⟩
theorem gX7_65 : FL RX7 65 7 29 := ⟨RX7, TX7, 44, rfl, by decide, aw_in 884 (by decide +kernel) rfl, wnX7, rfl⟩
theorem gX7_68 : FL RX7 68 7 30 := ⟨RX7, TX7, 44, rfl, by decide, aw_in 885 (by decide +kernel) rfl, wnX7, rfl⟩
theorem gX7_71 : FL RX7 71 7 31 := ⟨RX7, TX7, 44, rfl, by decide, aw_in 886 (by decide +kernel) rfl, wnX7, rfl⟩
theorem gX7_74 : FL RX7 74 7 32 := ⟨RX7, TX7, 44, rfl, by decide, aw_in 887 (by decide +kernel) rfl, wnX7, rfl⟩
theorem gX7_262 : FL RX7 262 7 33 := ⟨RX7, TX7, 44, rfl, by decide, aw_in 888 (by decide +kernel) rfl, wnX7, rfl⟩
theorem gX7_77 : FL RX7 77 7 34 := ⟨RX7, TX7, 44, rfl, by decide, aw_in 889 (by decide +kernel) rfl, wnX7, rfl⟩
theorem gX7_80 : FL RX7 80 7 35 := ⟨RX7, TX7, 44, rfl, by decide, aw_in 890 (by decide +kernel) rfl, wnX7, rfl⟩
theorem gX7_265 : FL RX7 265 7 36 := ⟨RX7, TX7, 44, rfl, by decide, aw_in 891 (by decide +kernel) rfl, wnX7, rfl⟩
theorem gX7_268 : FL RX7 268 7 37 := ⟨RX7, TX7, 44, rfl, by decide, aw_in 892 (by decide +kernel) rfl, wnX7, rfl⟩
theorem gX7_296 : FL RX7 296 7 38 := ⟨RX7, TX7, 44, rfl, by decide, aw_in 893 (by decide +kernel) rfl, wnX7, rfl⟩
theorem gX7_304 : FL RX7 304 7 39 := ⟨RX7, TX7, 44, rfl, by decide, aw_in 894 (by decide +kernel) rfl, wnX7, rfl⟩
theorem gX7_83 : FL RX7 83 7 40 := ⟨RX7, TX7, 44, rfl, by decide, aw_in 895 (by decide +kernel) rfl, wnX7, rfl⟩
theorem gX7_86 : FL RX7 86 7 41 := ⟨RX7, TX7, 44, rfl, by decide, aw_in 896 (by decide +kernel) rfl, wnX7, rfl⟩
theorem gX7_89 : FL RX7 89 7 42 := ⟨RX7, TX7, 44, rfl, by decide, aw_in 897 (by decide +kernel) rfl, wnX7, rfl⟩
theorem gX7_333 : FL RX7 333 7 43 := ⟨RX7, TX7, 44, rfl, by decide, aw_in 898 (by decide +kernel) rfl, wnX7, rfl⟩
theorem lL_17 : ML RL 17 mX7_name := aw_in 988 (by decide +kernel) rfl
theorem qX7_109 : Cond.constantLong RX7 109 (999) ∈ aw_tb := aw_in 992 (by decide +kernel) rfl
theorem lX7_102 : ML RX7 102 mX7_in := aw_in 993 (by decide +kernel) rfl
theorem lL_22 : ML RL 22 mX7_seed := aw_in 996 (by decide +kernel) rfl
theorem lX7_111 : ML RX7 111 mX7_isName := aw_in 1000 (by decide +kernel) rfl
theorem lL_27 : ML RL 27 mX7_pledge := aw_in 1004 (by decide +kernel) rfl
theorem lX7_115 : ML RX7 115 mX7_pledged := aw_in 1008 (by decide +kernel) rfl
theorem lL_32 : ML RL 32 mX7_tie := aw_in 1012 (by decide +kernel) rfl
theorem qX7_119 : Cond.constantLong RX7 119 (3) ∈ aw_tb := aw_in 1016 (by decide +kernel) rfl
theorem lL_36 : ML RL 36 mX7_tieOf := aw_in 1017 (by decide +kernel) rfl
theorem lX7_131 : ML RX7 131 mX7_isTie := aw_in 1021 (by decide +kernel) rfl
theorem qX7_134 : Cond.constantLong RX7 134 (5) ∈ aw_tb := aw_in 1025 (by decide +kernel) rfl
theorem lX7_136 : ML RX7 136 mX7_roomOf := aw_in 1026 (by decide +kernel) rfl
theorem lX7_124 : ML RX7 124 mX7_faded := aw_in 1030 (by decide +kernel) rfl
theorem lX7_128 : ML RX7 128 mX7_isFined := aw_in 1033 (by decide +kernel) rfl
theorem lL_40 : ML RL 40 mX7_renew := aw_in 1037 (by decide +kernel) rfl
theorem lL_44 : ML RL 44 mX7_of := aw_in 1041 (by decide +kernel) rfl
theorem qX7_139 : Cond.constantLong RX7 139 (6) ∈ aw_tb := aw_in 1045 (by decide +kernel) rfl
theorem lX7_141 : ML RX7 141 mX7_given := aw_in 1046 (by decide +kernel) rfl
theorem lL_48 : ML RL 48 mX7_made := aw_in 1050 (by decide +kernel) rfl
theorem lX7_144 : ML RX7 144 mX7_bits := aw_in 1054 (by decide +kernel) rfl
theorem lL_52 : ML RL 52 mX7_day := aw_in 1057 (by decide +kernel) rfl
theorem qX7_147 : Cond.constantLong RX7 147 (9999) ∈ aw_tb := aw_in 1061 (by decide +kernel) rfl
theorem lL_59 : ML RL 59 mX7_feed := aw_in 1062 (by decide +kernel) rfl
theorem qX7_152 : Cond.constantLong RX7 152 (255) ∈ aw_tb := aw_in 1066 (by decide +kernel) rfl
theorem lL_63 : ML RL 63 mX7_end := aw_in 1067 (by decide +kernel) rfl
theorem lL_68 : ML RL 68 mX7_rules := aw_in 1071 (by decide +kernel) rfl
theorem lX7_195 : ML RX7 195 mX7_next := aw_in 1075 (by decide +kernel) rfl
theorem lX7_166 : ML RX7 166 mX7_look := aw_in 1079 (by decide +kernel) rfl
theorem qX7_176 : Cond.constantLong RX7 176 (97) ∈ aw_tb := aw_in 1083 (by decide +kernel) rfl
theorem qX7_178 : Cond.constantLong RX7 178 (122) ∈ aw_tb := aw_in 1084 (by decide +kernel) rfl
theorem lX7_180 : ML RX7 180 mX7_nameNow := aw_in 1085 (by decide +kernel) rfl
theorem lX7_169 : ML RX7 169 mX7_is := aw_in 1089 (by decide +kernel) rfl
theorem lX7_187 : ML RX7 187 mX7_wants := aw_in 1093 (by decide +kernel) rfl
theorem qX7_191 : Cond.constantLong RX7 191 (48) ∈ aw_tb := aw_in 1097 (by decide +kernel) rfl
theorem qX7_193 : Cond.constantLong RX7 193 (57) ∈ aw_tb := aw_in 1098 (by decide +kernel) rfl
theorem lX7_204 : ML RX7 204 mX7_readLine := aw_in 1099 (by decide +kernel) rfl
theorem lX7_198 : ML RX7 198 mX7_least := aw_in 1103 (by decide +kernel) rfl
theorem lX7_201 : ML RX7 201 mX7_most := aw_in 1106 (by decide +kernel) rfl
theorem lL_72 : ML RL 72 mX7_fault := aw_in 1109 (by decide +kernel) rfl
theorem lL_76 : ML RL 76 mX7_rule := aw_in 1113 (by decide +kernel) rfl
theorem qX7_207 : Cond.constantLong RX7 207 (9) ∈ aw_tb := aw_in 1117 (by decide +kernel) rfl
theorem lL_80 : ML RL 80 mX7_trust := aw_in 1118 (by decide +kernel) rfl
theorem lX7_220 : ML RX7 220 mX7_trustOf := aw_in 1122 (by decide +kernel) rfl
theorem lX7_214 : ML RX7 214 mX7_begins := aw_in 1126 (by decide +kernel) rfl
theorem qX7_213 : Cond.constant RX7 213 (100000000) ∈ aw_tb := aw_in 1130 (by decide +kernel) rfl
theorem lX7_217 : ML RX7 217 mX7_flows := aw_in 1131 (by decide +kernel) rfl
theorem lX7_209 : ML RX7 209 mX7_reaches := aw_in 1135 (by decide +kernel) rfl
theorem lL_84 : ML RL 84 mX7_heap := aw_in 1139 (by decide +kernel) rfl
theorem lX7_223 : ML RX7 223 mX7_areNames := aw_in 1143 (by decide +kernel) rfl
theorem lL_88 : ML RL 88 mX7_cut := aw_in 1147 (by decide +kernel) rfl
theorem qX7_226 : Cond.constantLong RX7 226 (2) ∈ aw_tb := aw_in 1151 (by decide +kernel) rfl
theorem lL_92 : ML RL 92 mX7_low := aw_in 1152 (by decide +kernel) rfl
theorem lX7_228 : ML RX7 228 mX7_isPlain := aw_in 1156 (by decide +kernel) rfl
theorem lL_96 : ML RL 96 mX7_twins := aw_in 1160 (by decide +kernel) rfl
theorem lL_100 : ML RL 100 mX7_word := aw_in 1164 (by decide +kernel) rfl
theorem lX7_238 : ML RX7 238 mX7_isWord := aw_in 1168 (by decide +kernel) rfl
theorem qX7_231 : Cond.constantLong RX7 231 (99) ∈ aw_tb := aw_in 1172 (by decide +kernel) rfl
theorem qX7_233 : Cond.constantLong RX7 233 (10) ∈ aw_tb := aw_in 1173 (by decide +kernel) rfl
theorem lX7_242 : ML RX7 242 mX7_says := aw_in 1174 (by decide +kernel) rfl
theorem lL_104 : ML RL 104 mX7_wordOf := aw_in 1178 (by decide +kernel) rfl
theorem lX7_249 : ML RX7 249 mX7_counts := aw_in 1182 (by decide +kernel) rfl
theorem lX7_246 : ML RX7 246 mX7_isFirst := aw_in 1186 (by decide +kernel) rfl
theorem lL_108 : ML RL 108 mX7_weight := aw_in 1190 (by decide +kernel) rfl
theorem lX7_256 : ML RX7 256 mX7_sayersOf := aw_in 1194 (by decide +kernel) rfl
theorem lX7_252 : ML RX7 252 mX7_wordBy := aw_in 1198 (by decide +kernel) rfl
theorem lX7_259 : ML RX7 259 mX7_weightOf := aw_in 1202 (by decide +kernel) rfl
theorem lL_112 : ML RL 112 mX7_sayers := aw_in 1206 (by decide +kernel) rfl
theorem lL_116 : ML RL 116 mX7_mark := aw_in 1210 (by decide +kernel) rfl
theorem lX7_275 : ML RX7 275 mX7_lists := aw_in 1214 (by decide +kernel) rfl
theorem lX7_279 : ML RX7 279 mX7_fraction := aw_in 1218 (by decide +kernel) rfl
theorem lX7_271 : ML RX7 271 mX7_common := aw_in 1222 (by decide +kernel) rfl
theorem lL_121 : ML RL 121 mX7_span := aw_in 1225 (by decide +kernel) rfl
theorem lX7_282 : ML RX7 282 mX7_moved := aw_in 1229 (by decide +kernel) rfl
theorem lL_125 : ML RL 125 mX7_ring := aw_in 1233 (by decide +kernel) rfl
theorem lX7_293 : ML RX7 293 mX7_ringOf := aw_in 1237 (by decide +kernel) rfl
theorem lX7_286 : ML RX7 286 mX7_isBetween := aw_in 1241 (by decide +kernel) rfl
theorem lX7_290 : ML RX7 290 mX7_isGood := aw_in 1245 (by decide +kernel) rfl
theorem lL_130 : ML RL 130 mX7_odds := aw_in 1249 (by decide +kernel) rfl
theorem qX7_307 : Cond.constantLong RX7 307 (-1) ∈ aw_tb := aw_in 1253 (by decide +kernel) rfl
theorem lX7_309 : ML RX7 309 mX7_findOdds := aw_in 1254 (by decide +kernel) rfl
theorem lX7_300 : ML RX7 300 mX7_ways := aw_in 1258 (by decide +kernel) rfl
theorem lL_135 : ML RL 135 mX7_oddest := aw_in 1261 (by decide +kernel) rfl
theorem qX7_312 : Cond.constantLong RX7 312 (-4) ∈ aw_tb := aw_in 1265 (by decide +kernel) rfl
theorem lL_139 : ML RL 139 mX7_gain := aw_in 1266 (by decide +kernel) rfl
theorem lX7_317 : ML RX7 317 mX7_sellers := aw_in 1270 (by decide +kernel) rfl
theorem lX7_314 : ML RX7 314 mX7_sells := aw_in 1274 (by decide +kernel) rfl
theorem qX7_320 : Cond.constant RX7 320 (-1000000) ∈ aw_tb := aw_in 1278 (by decide +kernel) rfl
theorem lX7_321 : ML RX7 321 mX7_gainOf := aw_in 1279 (by decide +kernel) rfl
theorem lL_143 : ML RL 143 mX7_best := aw_in 1283 (by decide +kernel) rfl
theorem lL_147 : ML RL 147 mX7_sheet := aw_in 1287 (by decide +kernel) rfl
theorem lX7_324 : ML RX7 324 mX7_isSheet := aw_in 1291 (by decide +kernel) rfl
theorem lL_151 : ML RL 151 mX7_lay := aw_in 1294 (by decide +kernel) rfl
theorem lL_155 : ML RL 155 mX7_read := aw_in 1298 (by decide +kernel) rfl
theorem qX7_327 : Cond.constantLong RX7 327 (12) ∈ aw_tb := aw_in 1302 (by decide +kernel) rfl
theorem lX7_329 : ML RX7 329 mX7_refuses := aw_in 1303 (by decide +kernel) rfl
theorem lL_159 : ML RL 159 mX7_lost := aw_in 1307 (by decide +kernel) rfl
theorem lL_163 : ML RL 163 mX7_count := aw_in 1311 (by decide +kernel) rfl
theorem qL_53 : Cond.constantLong RL 53 (4294967295) ∈ aw_tb := aw_in 1315 (by decide +kernel) rfl
-- field: ('fieldLink', 'java/lang/String', 9, 'java/lang/String', 'value', '[B')
-- field: ('fieldLink', 'java/lang/String', 15, 'java/lang/String', 'coder', 'B')
