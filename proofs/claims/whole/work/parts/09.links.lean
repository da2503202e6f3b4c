def miJ0_charAt_5068e : zM := (yJ0_charAt_5068e, cJ0_charAt_5068e, 2, (some FieldType.char))
theorem tcJ0_charAt_5068e : zCode miJ0_charAt_5068e ∈ zT := tw_779
def miJ0_checkBoundsBeginEnd_23922 : zM := (yJ0_checkBoundsBeginEnd_23922, cJ0_checkBoundsBeginEnd_23922, 3, none)
theorem tcJ0_checkBoundsBeginEnd_23922 : zCode miJ0_checkBoundsBeginEnd_23922 ∈ zT := tw_873
def miJ0_checkIndex_df160 : zM := (yJ0_checkIndex_df160, cJ0_checkIndex_df160, 2, none)
theorem tcJ0_checkIndex_df160 : zCode miJ0_checkIndex_df160 ∈ zT := tw_789
def miJ0_coder_7d493 : zM := (yJ0_coder_7d493, cJ0_coder_7d493, 1, (some FieldType.byte))
theorem tcJ0_coder_7d493 : zCode miJ0_coder_7d493 ∈ zT := tw_773
def miJ0_indexOf_0f7a4 : zM := (yJ0_indexOf_0f7a4, cJ0_indexOf_0f7a4, 2, (some FieldType.int))
theorem tcJ0_indexOf_0f7a4 : zCode miJ0_indexOf_0f7a4 ∈ zT := tw_842
def miJ0_indexOf_7cf53 : zM := (yJ0_indexOf_7cf53, cJ0_indexOf_7cf53, 3, (some FieldType.int))
theorem tcJ0_indexOf_7cf53 : zCode miJ0_indexOf_7cf53 ∈ zT := tw_846
def miJ0_isLatin1_aae02 : zM := (yJ0_isLatin1_aae02, cJ0_isLatin1_aae02, 1, (some FieldType.boolean))
theorem tcJ0_isLatin1_aae02 : zCode miJ0_isLatin1_aae02 ∈ zT := tw_783
def miJ0_length_8abf5 : zM := (yJ0_length_8abf5, cJ0_length_8abf5, 1, (some FieldType.int))
theorem tcJ0_length_8abf5 : zCode miJ0_length_8abf5 ∈ zT := tw_769
def miJ11_highSurrogate_5068e : zM := (yJ11_highSurrogate_5068e, cJ11_highSurrogate_5068e, 1, (some FieldType.char))
theorem tcJ11_highSurrogate_5068e : zCode miJ11_highSurrogate_5068e ∈ zT := tw_888
def miJ11_isValidCodePoint_9a6ad : zM := (yJ11_isValidCodePoint_9a6ad, cJ11_isValidCodePoint_9a6ad, 2, (some FieldType.boolean))
theorem tcJ11_isValidCodePoint_9a6ad : zCode miJ11_isValidCodePoint_9a6ad ∈ zT := tw_885
def miJ11_lowSurrogate_5068e : zM := (yJ11_lowSurrogate_5068e, cJ11_lowSurrogate_5068e, 1, (some FieldType.char))
theorem tcJ11_lowSurrogate_5068e : zCode miJ11_lowSurrogate_5068e ∈ zT := tw_892
def miJ1_canEncode_9a6ad : zM := (yJ1_canEncode_9a6ad, cJ1_canEncode_9a6ad, 1, (some FieldType.boolean))
theorem tcJ1_canEncode_9a6ad : zCode miJ1_canEncode_9a6ad ∈ zT := tw_853
def miJ1_charAt_3b067 : zM := (yJ1_charAt_3b067, cJ1_charAt_3b067, 2, (some FieldType.char))
theorem tcJ1_charAt_3b067 : zCode miJ1_charAt_3b067 ∈ zT := tw_786
def miJ1_indexOfChar_4cfef : zM := (yJ1_indexOfChar_4cfef, cJ1_indexOfChar_4cfef, 6, (some FieldType.int))
theorem tcJ1_indexOfChar_4cfef : zCode miJ1_indexOfChar_4cfef ∈ zT := tw_858
def miJ1_indexOf_4cfef : zM := (yJ1_indexOf_4cfef, cJ1_indexOf_4cfef, 4, (some FieldType.int))
theorem tcJ1_indexOf_4cfef : zCode miJ1_indexOf_4cfef ∈ zT := tw_850
def miJ2_charAt_3b067 : zM := (yJ2_charAt_3b067, cJ2_charAt_3b067, 2, (some FieldType.char))
theorem tcJ2_charAt_3b067 : zCode miJ2_charAt_3b067 ∈ zT := tw_797
def miJ2_checkBoundsBeginEnd_d044e : zM := (yJ2_checkBoundsBeginEnd_d044e, cJ2_checkBoundsBeginEnd_d044e, 3, none)
theorem tcJ2_checkBoundsBeginEnd_d044e : zCode miJ2_checkBoundsBeginEnd_d044e ∈ zT := tw_870
def miJ2_checkIndex_2214a : zM := (yJ2_checkIndex_2214a, cJ2_checkIndex_2214a, 2, none)
theorem tcJ2_checkIndex_2214a : zCode miJ2_checkIndex_2214a ∈ zT := tw_800
def miJ2_getChar_3b067 : zM := (yJ2_getChar_3b067, cJ2_getChar_3b067, 2, (some FieldType.char))
theorem tcJ2_getChar_3b067 : zCode miJ2_getChar_3b067 ∈ zT := tw_807
def miJ2_indexOfCharUnsafe_4cfef : zM := (yJ2_indexOfCharUnsafe_4cfef, cJ2_indexOfCharUnsafe_4cfef, 5, (some FieldType.int))
theorem tcJ2_indexOfCharUnsafe_4cfef : zCode miJ2_indexOfCharUnsafe_4cfef ∈ zT := tw_879
def miJ2_indexOfChar_4cfef : zM := (yJ2_indexOfChar_4cfef, cJ2_indexOfChar_4cfef, 4, (some FieldType.int))
theorem tcJ2_indexOfChar_4cfef : zCode miJ2_indexOfChar_4cfef ∈ zT := tw_867
def miJ2_indexOfSupplementary_4cfef : zM := (yJ2_indexOfSupplementary_4cfef, cJ2_indexOfSupplementary_4cfef, 7, (some FieldType.int))
theorem tcJ2_indexOfSupplementary_4cfef : zCode miJ2_indexOfSupplementary_4cfef ∈ zT := tw_882
def miJ2_indexOf_4cfef : zM := (yJ2_indexOf_4cfef, cJ2_indexOf_4cfef, 4, (some FieldType.int))
theorem tcJ2_indexOf_4cfef : zCode miJ2_indexOf_4cfef ∈ zT := tw_861
def miJ2_length_9d52b : zM := (yJ2_length_9d52b, cJ2_length_9d52b, 1, (some FieldType.int))
theorem tcJ2_length_9d52b : zCode miJ2_length_9d52b ∈ zT := tw_803
def miJ3_checkFromToIndex_8c36e : zM := (yJ3_checkFromToIndex_8c36e, cJ3_checkFromToIndex_8c36e, 4, (some FieldType.int))
theorem tcJ3_checkFromToIndex_8c36e : zCode miJ3_checkFromToIndex_8c36e ∈ zT := tw_876
def miJ3_checkIndex_8e157 : zM := (yJ3_checkIndex_8e157, cJ3_checkIndex_8e157, 3, (some FieldType.int))
theorem tcJ3_checkIndex_8e157 : zCode miJ3_checkIndex_8e157 ∈ zT := tw_794
def miJ7_copyOf_59c91 : zM := (yJ7_copyOf_59c91, cJ7_copyOf_59c91, 3, (some (FieldType.array FieldType.int)))
theorem tcJ7_copyOf_59c91 : zCode miJ7_copyOf_59c91 ∈ zT := tw_925
def miJ7_fill_53178 : zM := (yJ7_fill_53178, cJ7_fill_53178, 4, none)
theorem tcJ7_fill_53178 : zCode miJ7_fill_53178 ∈ zT := tw_622
def miJ9_max_7cf53 : zM := (yJ9_max_7cf53, cJ9_max_7cf53, 2, (some FieldType.int))
theorem tcJ9_max_7cf53 : zCode miJ9_max_7cf53 ∈ zT := tw_554
def miJ9_min_7cf53 : zM := (yJ9_min_7cf53, cJ9_min_7cf53, 2, (some FieldType.int))
theorem tcJ9_min_7cf53 : zCode miJ9_min_7cf53 ∈ zT := tw_510
def miX0_feels : zM := (yX0_feels, cX0_feels, 2, (some FieldType.int))
theorem tcX0_feels : zCode miX0_feels ∈ zT := tw_423
def miX0_isOf : zM := (yX0_isOf, cX0_isOf, 4, (some FieldType.boolean))
theorem tcX0_isOf : zCode miX0_isOf ∈ zT := tw_441
def miX0_wears : zM := (yX0_wears, cX0_wears, 2, (some FieldType.int))
theorem tcX0_wears : zCode miX0_wears ∈ zT := tw_557
def miX0_worth : zM := (yX0_worth, cX0_worth, 2, (some FieldType.int))
theorem tcX0_worth : zCode miX0_worth ∈ zT := tw_434
def miX10_about : zM := (yX10_about, cX10_about, 5, (some FieldType.int))
theorem tcX10_about : zCode miX10_about ∈ zT := tw_1240
def miX10_as : zM := (yX10_as, cX10_as, 3, (some FieldType.int))
theorem tcX10_as : zCode miX10_as ∈ zT := tw_1211
def miX10_ask : zM := (yX10_ask, cX10_ask, 3, (some FieldType.int))
theorem tcX10_ask : zCode miX10_ask ∈ zT := tw_1556
def miX10_at : zM := (yX10_at, cX10_at, 4, (some FieldType.int))
theorem tcX10_at : zCode miX10_at ∈ zT := tw_1271
def miX10_back : zM := (yX10_back, cX10_back, 1, (some FieldType.int))
theorem tcX10_back : zCode miX10_back ∈ zT := tw_1585
def miX10_becomes : zM := (yX10_becomes, cX10_becomes, 8, (some FieldType.int))
theorem tcX10_becomes : zCode miX10_becomes ∈ zT := tw_1410
def miX10_behind : zM := (yX10_behind, cX10_behind, 4, (some FieldType.int))
theorem tcX10_behind : zCode miX10_behind ∈ zT := tw_1394
def miX10_both : zM := (yX10_both, cX10_both, 2, (some FieldType.boolean))
theorem tcX10_both : zCode miX10_both ∈ zT := tw_1466
def miX10_changes : zM := (yX10_changes, cX10_changes, 4, (some FieldType.int))
theorem tcX10_changes : zCode miX10_changes ∈ zT := tw_1223
def miX10_check : zM := (yX10_check, cX10_check, 5, (some FieldType.int))
theorem tcX10_check : zCode miX10_check ∈ zT := tw_1572
def miX10_comes : zM := (yX10_comes, cX10_comes, 7, none)
theorem tcX10_comes : zCode miX10_comes ∈ zT := tw_1179
def miX10_copy : zM := (yX10_copy, cX10_copy, 7, (some FieldType.int))
theorem tcX10_copy : zCode miX10_copy ∈ zT := tw_1545
def miX10_count : zM := (yX10_count, cX10_count, 2, (some FieldType.int))
theorem tcX10_count : zCode miX10_count ∈ zT := tw_1589
def miX10_counts : zM := (yX10_counts, cX10_counts, 4, (some FieldType.int))
theorem tcX10_counts : zCode miX10_counts ∈ zT := tw_1304
def miX10_days : zM := (yX10_days, cX10_days, 4, (some FieldType.int))
theorem tcX10_days : zCode miX10_days ∈ zT := tw_1322
def miX10_deal : zM := (yX10_deal, cX10_deal, 7, (some FieldType.int))
theorem tcX10_deal : zCode miX10_deal ∈ zT := tw_1275
def miX10_drawn : zM := (yX10_drawn, cX10_drawn, 1, (some FieldType.int))
theorem tcX10_drawn : zCode miX10_drawn ∈ zT := tw_1279
def miX10_either : zM := (yX10_either, cX10_either, 2, (some FieldType.boolean))
theorem tcX10_either : zCode miX10_either ∈ zT := tw_1462
def miX10_enters : zM := (yX10_enters, cX10_enters, 4, (some FieldType.int))
theorem tcX10_enters : zCode miX10_enters ∈ zT := tw_1398
def miX10_fee : zM := (yX10_fee, cX10_fee, 2, (some FieldType.int))
theorem tcX10_fee : zCode miX10_fee ∈ zT := tw_1414
def miX10_feed : zM := (yX10_feed, cX10_feed, 6, (some FieldType.int))
theorem tcX10_feed : zCode miX10_feed ∈ zT := tw_1422
def miX10_feels : zM := (yX10_feels, cX10_feels, 2, (some FieldType.int))
theorem tcX10_feels : zCode miX10_feels ∈ zT := tw_1207
def miX10_findRooms : zM := (yX10_findRooms, cX10_findRooms, 8, none)
theorem tcX10_findRooms : zCode miX10_findRooms ∈ zT := tw_1362
def miX10_fine : zM := (yX10_fine, cX10_fine, 3, (some FieldType.int))
theorem tcX10_fine : zCode miX10_fine ∈ zT := tw_1418
def miX10_freed : zM := (yX10_freed, cX10_freed, 7, (some FieldType.int))
theorem tcX10_freed : zCode miX10_freed ∈ zT := tw_1402
def miX10_gives : zM := (yX10_gives, cX10_gives, 4, none)
theorem tcX10_gives : zCode miX10_gives ∈ zT := tw_1183
def miX10_goesOn : zM := (yX10_goesOn, cX10_goesOn, 3, none)
theorem tcX10_goesOn : zCode miX10_goesOn ∈ zT := tw_1330
def miX10_goesOnMany : zM := (yX10_goesOnMany, cX10_goesOnMany, 3, none)
theorem tcX10_goesOnMany : zCode miX10_goesOnMany ∈ zT := tw_1326
def miX10_goesThrough : zM := (yX10_goesThrough, cX10_goesThrough, 4, none)
theorem tcX10_goesThrough : zCode miX10_goesThrough ∈ zT := tw_1292
def miX10_halves : zM := (yX10_halves, cX10_halves, 3, none)
theorem tcX10_halves : zCode miX10_halves ∈ zT := tw_1342
def miX10_init : zM := (yX10_init, cX10_init, 2, none)
theorem tcX10_init : zCode miX10_init ∈ zT := tw_1056
def miX10_isAsked : zM := (yX10_isAsked, cX10_isAsked, 2, (some FieldType.boolean))
theorem tcX10_isAsked : zCode miX10_isAsked ∈ zT := tw_1405
def miX10_isDigit : zM := (yX10_isDigit, cX10_isDigit, 2, (some FieldType.boolean))
theorem tcX10_isDigit : zCode miX10_isDigit ∈ zT := tw_1448
def miX10_isIn : zM := (yX10_isIn, cX10_isIn, 6, (some FieldType.boolean))
theorem tcX10_isIn : zCode miX10_isIn ∈ zT := tw_1165
def miX10_isLetter : zM := (yX10_isLetter, cX10_isLetter, 2, (some FieldType.boolean))
theorem tcX10_isLetter : zCode miX10_isLetter ∈ zT := tw_1442
def miX10_isLock : zM := (yX10_isLock, cX10_isLock, 2, (some FieldType.boolean))
theorem tcX10_isLock : zCode miX10_isLock ∈ zT := tw_1244
def miX10_isLockSo : zM := (yX10_isLockSo, cX10_isLockSo, 4, (some FieldType.boolean))
theorem tcX10_isLockSo : zCode miX10_isLockSo ∈ zT := tw_1235
def miX10_isMost : zM := (yX10_isMost, cX10_isMost, 1, (some FieldType.boolean))
theorem tcX10_isMost : zCode miX10_isMost ∈ zT := tw_1172
def miX10_isName : zM := (yX10_isName, cX10_isName, 2, (some FieldType.boolean))
theorem tcX10_isName : zCode miX10_isName ∈ zT := tw_1489
def miX10_isOf : zM := (yX10_isOf, cX10_isOf, 2, (some FieldType.boolean))
theorem tcX10_isOf : zCode miX10_isOf ∈ zT := tw_1214
def miX10_isOne : zM := (yX10_isOne, cX10_isOne, 2, (some FieldType.boolean))
theorem tcX10_isOne : zCode miX10_isOne ∈ zT := tw_1191
def miX10_isOpen : zM := (yX10_isOpen, cX10_isOpen, 3, (some FieldType.boolean))
theorem tcX10_isOpen : zCode miX10_isOpen ∈ zT := tw_1252
def miX10_isRoom : zM := (yX10_isRoom, cX10_isRoom, 1, (some FieldType.boolean))
theorem tcX10_isRoom : zCode miX10_isRoom ∈ zT := tw_1168
def miX10_isSheet : zM := (yX10_isSheet, cX10_isSheet, 1, (some FieldType.boolean))
theorem tcX10_isSheet : zCode miX10_isSheet ∈ zT := tw_1515
def miX10_isSign : zM := (yX10_isSign, cX10_isSign, 2, (some FieldType.boolean))
theorem tcX10_isSign : zCode miX10_isSign ∈ zT := tw_1493
def miX10_isSlot : zM := (yX10_isSlot, cX10_isSlot, 1, (some FieldType.boolean))
theorem tcX10_isSlot : zCode miX10_isSlot ∈ zT := tw_1552
def miX10_isText : zM := (yX10_isText, cX10_isText, 2, (some FieldType.boolean))
theorem tcX10_isText : zCode miX10_isText ∈ zT := tw_1501
def miX10_isWordAt : zM := (yX10_isWordAt, cX10_isWordAt, 6, (some FieldType.boolean))
theorem tcX10_isWordAt : zCode miX10_isWordAt ∈ zT := tw_1458
def miX10_item : zM := (yX10_item, cX10_item, 4, (some FieldType.int))
theorem tcX10_item : zCode miX10_item ∈ zT := tw_1560
def miX10_joined : zM := (yX10_joined, cX10_joined, 3, (some FieldType.int))
theorem tcX10_joined : zCode miX10_joined ∈ zT := tw_1315
def miX10_just : zM := (yX10_just, cX10_just, 6, (some FieldType.int))
theorem tcX10_just : zCode miX10_just ∈ zT := tw_1374
def miX10_keep : zM := (yX10_keep, cX10_keep, 1, (some FieldType.int))
theorem tcX10_keep : zCode miX10_keep ∈ zT := tw_1581
def miX10_key : zM := (yX10_key, cX10_key, 1, (some FieldType.int))
theorem tcX10_key : zCode miX10_key ∈ zT := tw_1454
def miX10_latches : zM := (yX10_latches, cX10_latches, 1, (some FieldType.int))
theorem tcX10_latches : zCode miX10_latches ∈ zT := tw_1365
def miX10_lay : zM := (yX10_lay, cX10_lay, 7, (some FieldType.int))
theorem tcX10_lay : zCode miX10_lay ∈ zT := tw_1549
def miX10_laysBack : zM := (yX10_laysBack, cX10_laysBack, 2, none)
theorem tcX10_laysBack : zCode miX10_laysBack ∈ zT := tw_1390
def miX10_laysBy : zM := (yX10_laysBy, cX10_laysBy, 2, none)
theorem tcX10_laysBy : zCode miX10_laysBy ∈ zT := tw_1386
def miX10_like : zM := (yX10_like, cX10_like, 7, (some FieldType.int))
theorem tcX10_like : zCode miX10_like ∈ zT := tw_1537
def miX10_likeOnes : zM := (yX10_likeOnes, cX10_likeOnes, 6, (some FieldType.int))
theorem tcX10_likeOnes : zCode miX10_likeOnes ∈ zT := tw_1541
def miX10_lock : zM := (yX10_lock, cX10_lock, 6, (some FieldType.int))
theorem tcX10_lock : zCode miX10_lock ∈ zT := tw_1232
def miX10_lockOf : zM := (yX10_lockOf, cX10_lockOf, 3, (some FieldType.int))
theorem tcX10_lockOf : zCode miX10_lockOf ∈ zT := tw_1248
def miX10_mark : zM := (yX10_mark, cX10_mark, 4, (some FieldType.int))
theorem tcX10_mark : zCode miX10_mark ∈ zT := tw_1521
def miX10_mends : zM := (yX10_mends, cX10_mends, 2, (some FieldType.int))
theorem tcX10_mends : zCode miX10_mends ∈ zT := tw_1261
def miX10_more : zM := (yX10_more, cX10_more, 4, none)
theorem tcX10_more : zCode miX10_more ∈ zT := tw_1338
def miX10_nextToken : zM := (yX10_nextToken, cX10_nextToken, 3, none)
theorem tcX10_nextToken : zCode miX10_nextToken ∈ zT := tw_1438
def miX10_of : zM := (yX10_of, cX10_of, 3, (some FieldType.int))
theorem tcX10_of : zCode miX10_of ∈ zT := tw_1196
def miX10_one : zM := (yX10_one, cX10_one, 6, (some FieldType.int))
theorem tcX10_one : zCode miX10_one ∈ zT := tw_1161
def miX10_orNone : zM := (yX10_orNone, cX10_orNone, 1, (some FieldType.int))
theorem tcX10_orNone : zCode miX10_orNone ∈ zT := tw_1508
def miX10_pardoned : zM := (yX10_pardoned, cX10_pardoned, 3, (some FieldType.int))
theorem tcX10_pardoned : zCode miX10_pardoned ∈ zT := tw_1382
def miX10_parse : zM := (yX10_parse, cX10_parse, 3, (some FieldType.int))
theorem tcX10_parse : zCode miX10_parse ∈ zT := tw_1434
def miX10_part0 : zM := (yX10_part0, cX10_part0, 2, (some FieldType.boolean))
theorem tcX10_part0 : zCode miX10_part0 ∈ zT := tw_1482
def miX10_passes : zM := (yX10_passes, cX10_passes, 3, (some FieldType.int))
theorem tcX10_passes : zCode miX10_passes ∈ zT := tw_1288
def miX10_pour : zM := (yX10_pour, cX10_pour, 6, (some FieldType.int))
theorem tcX10_pour : zCode miX10_pour ∈ zT := tw_1529
def miX10_reach : zM := (yX10_reach, cX10_reach, 2, (some FieldType.int))
theorem tcX10_reach : zCode miX10_reach ∈ zT := tw_1354
def miX10_reached : zM := (yX10_reached, cX10_reached, 4, (some FieldType.int))
theorem tcX10_reached : zCode miX10_reached ∈ zT := tw_1358
def miX10_reads : zM := (yX10_reads, cX10_reads, 4, (some FieldType.int))
theorem tcX10_reads : zCode miX10_reads ∈ zT := tw_1533
def miX10_regrets : zM := (yX10_regrets, cX10_regrets, 2, (some FieldType.int))
theorem tcX10_regrets : zCode miX10_regrets ∈ zT := tw_1204
def miX10_regretsOfAll : zM := (yX10_regretsOfAll, cX10_regretsOfAll, 3, (some FieldType.int))
theorem tcX10_regretsOfAll : zCode miX10_regretsOfAll ∈ zT := tw_1350
def miX10_rest : zM := (yX10_rest, cX10_rest, 3, (some FieldType.int))
theorem tcX10_rest : zCode miX10_rest ∈ zT := tw_1564
def miX10_rule : zM := (yX10_rule, cX10_rule, 3, (some FieldType.int))
theorem tcX10_rule : zCode miX10_rule ∈ zT := tw_1266
def miX10_seed : zM := (yX10_seed, cX10_seed, 2, (some FieldType.int))
theorem tcX10_seed : zCode miX10_seed ∈ zT := tw_1284
def miX10_set : zM := (yX10_set, cX10_set, 4, (some FieldType.int))
theorem tcX10_set : zCode miX10_set ∈ zT := tw_1227
def miX10_setAside : zM := (yX10_setAside, cX10_setAside, 4, none)
theorem tcX10_setAside : zCode miX10_setAside ∈ zT := tw_1577
def miX10_sets : zM := (yX10_sets, cX10_sets, 4, (some FieldType.int))
theorem tcX10_sets : zCode miX10_sets ∈ zT := tw_1256
def miX10_sheet : zM := (yX10_sheet, cX10_sheet, 5, (some FieldType.int))
theorem tcX10_sheet : zCode miX10_sheet ∈ zT := tw_1512
def miX10_sorry : zM := (yX10_sorry, cX10_sorry, 5, (some FieldType.int))
theorem tcX10_sorry : zCode miX10_sorry ∈ zT := tw_1378
def miX10_step : zM := (yX10_step, cX10_step, 3, none)
theorem tcX10_step : zCode miX10_step ∈ zT := tw_1486
def miX10_sum : zM := (yX10_sum, cX10_sum, 3, (some FieldType.boolean))
theorem tcX10_sum : zCode miX10_sum ∈ zT := tw_1474
def miX10_tell : zM := (yX10_tell, cX10_tell, 2, (some FieldType.int))
theorem tcX10_tell : zCode miX10_tell ∈ zT := tw_1568
def miX10_term : zM := (yX10_term, cX10_term, 3, (some FieldType.boolean))
theorem tcX10_term : zCode miX10_term ∈ zT := tw_1478
def miX10_test : zM := (yX10_test, cX10_test, 3, (some FieldType.boolean))
theorem tcX10_test : zCode miX10_test ∈ zT := tw_1470
def miX10_text : zM := (yX10_text, cX10_text, 3, (some FieldType.int))
theorem tcX10_text : zCode miX10_text ∈ zT := tw_1430
def miX10_textAt : zM := (yX10_textAt, cX10_textAt, 2, (some FieldType.int))
theorem tcX10_textAt : zCode miX10_textAt ∈ zT := tw_1308
def miX10_textTold : zM := (yX10_textTold, cX10_textTold, 3, (some FieldType.int))
theorem tcX10_textTold : zCode miX10_textTold ∈ zT := tw_1497
def miX10_told : zM := (yX10_told, cX10_told, 3, (some FieldType.int))
theorem tcX10_told : zCode miX10_told ∈ zT := tw_1187
def miX10_town : zM := (yX10_town, cX10_town, 4, (some FieldType.int))
theorem tcX10_town : zCode miX10_town ∈ zT := tw_1346
def miX10_tries : zM := (yX10_tries, cX10_tries, 3, none)
theorem tcX10_tries : zCode miX10_tries ∈ zT := tw_1334
def miX10_trim : zM := (yX10_trim, cX10_trim, 2, (some FieldType.int))
theorem tcX10_trim : zCode miX10_trim ∈ zT := tw_1426
def miX10_turns : zM := (yX10_turns, cX10_turns, 3, (some FieldType.int))
theorem tcX10_turns : zCode miX10_turns ∈ zT := tw_1219
def miX10_way : zM := (yX10_way, cX10_way, 6, (some FieldType.int))
theorem tcX10_way : zCode miX10_way ∈ zT := tw_1369
def miX10_wears : zM := (yX10_wears, cX10_wears, 6, (some FieldType.int))
theorem tcX10_wears : zCode miX10_wears ∈ zT := tw_1300
def miX10_why : zM := (yX10_why, cX10_why, 2, (some FieldType.int))
theorem tcX10_why : zCode miX10_why ∈ zT := tw_1505
def miX10_within : zM := (yX10_within, cX10_within, 2, (some FieldType.int))
theorem tcX10_within : zCode miX10_within ∈ zT := tw_1318
def miX10_worked : zM := (yX10_worked, cX10_worked, 6, (some FieldType.int))
theorem tcX10_worked : zCode miX10_worked ∈ zT := tw_1312
def miX10_worn : zM := (yX10_worn, cX10_worn, 5, (some FieldType.int))
theorem tcX10_worn : zCode miX10_worn ∈ zT := tw_1296
def miX10_worth : zM := (yX10_worth, cX10_worth, 3, (some FieldType.int))
theorem tcX10_worth : zCode miX10_worth ∈ zT := tw_1200
def miX1_become : zM := (yX1_become, cX1_become, 5, none)
theorem tcX1_become : zCode miX1_become ∈ zT := tw_466
def miX1_becomeAs : zM := (yX1_becomeAs, cX1_becomeAs, 2, none)
theorem tcX1_becomeAs : zCode miX1_becomeAs ∈ zT := tw_674
def miX1_init : zM := (yX1_init, cX1_init, 1, none)
theorem tcX1_init : zCode miX1_init ∈ zT := tw_139
def miX1_opensFor : zM := (yX1_opensFor, cX1_opensFor, 2, (some FieldType.boolean))
theorem tcX1_opensFor : zCode miX1_opensFor ∈ zT := tw_532
def miX2_begin : zM := (yX2_begin, cX2_begin, 3, none)
theorem tcX2_begin : zCode miX2_begin ∈ zT := tw_747
def miX2_closeDownTo : zM := (yX2_closeDownTo, cX2_closeDownTo, 2, none)
theorem tcX2_closeDownTo : zCode miX2_closeDownTo ∈ zT := tw_913
def miX2_closeNots : zM := (yX2_closeNots, cX2_closeNots, 1, none)
theorem tcX2_closeNots : zCode miX2_closeNots ∈ zT := tw_831
def miX2_closesBracket : zM := (yX2_closesBracket, cX2_closesBracket, 1, (some FieldType.boolean))
theorem tcX2_closesBracket : zCode miX2_closesBracket ∈ zT := tw_909
def miX2_findFault : zM := (yX2_findFault, cX2_findFault, 5, (some FieldType.int))
theorem tcX2_findFault : zCode miX2_findFault ∈ zT := tw_743
def miX2_init : zM := (yX2_init, cX2_init, 1, none)
theorem tcX2_init : zCode miX2_init ∈ zT := tw_257
def miX2_isAtHand : zM := (yX2_isAtHand, cX2_isAtHand, 3, (some FieldType.boolean))
theorem tcX2_isAtHand : zCode miX2_isAtHand ∈ zT := tw_765
def miX2_keyAtHand : zM := (yX2_keyAtHand, cX2_keyAtHand, 1, (some FieldType.int))
theorem tcX2_keyAtHand : zCode miX2_keyAtHand ∈ zT := tw_760
def miX2_levelOf : zM := (yX2_levelOf, cX2_levelOf, 1, (some FieldType.int))
theorem tcX2_levelOf : zCode miX2_levelOf ∈ zT := tw_916
def miX2_makeText : zM := (yX2_makeText, cX2_makeText, 2, (some (FieldType.object "RegretLocks$Text")))
theorem tcX2_makeText : zCode miX2_makeText ∈ zT := tw_920
def miX2_next : zM := (yX2_next, cX2_next, 3, none)
theorem tcX2_next : zCode miX2_next ∈ zT := tw_752
def miX2_opens : zM := (yX2_opens, cX2_opens, 2, (some FieldType.boolean))
theorem tcX2_opens : zCode miX2_opens ∈ zT := tw_897
def miX2_putOff : zM := (yX2_putOff, cX2_putOff, 2, none)
theorem tcX2_putOff : zCode miX2_putOff ∈ zT := tw_901
def miX2_sortAt : zM := (yX2_sortAt, cX2_sortAt, 3, (some FieldType.int))
theorem tcX2_sortAt : zCode miX2_sortAt ∈ zT := tw_756
def miX2_takesName : zM := (yX2_takesName, cX2_takesName, 3, (some FieldType.boolean))
theorem tcX2_takesName : zCode miX2_takesName ∈ zT := tw_835
def miX2_takesNumber : zM := (yX2_takesNumber, cX2_takesNumber, 3, (some FieldType.boolean))
theorem tcX2_takesNumber : zCode miX2_takesNumber ∈ zT := tw_823
def miX2_takesPiece : zM := (yX2_takesPiece, cX2_takesPiece, 1, (some FieldType.boolean))
theorem tcX2_takesPiece : zCode miX2_takesPiece ∈ zT := tw_819
def miX2_takesSign : zM := (yX2_takesSign, cX2_takesSign, 3, (some FieldType.boolean))
theorem tcX2_takesSign : zCode miX2_takesSign ∈ zT := tw_905
def miX2_write : zM := (yX2_write, cX2_write, 2, none)
theorem tcX2_write : zCode miX2_write ∈ zT := tw_827
def miX3_allRegrets : zM := (yX3_allRegrets, cX3_allRegrets, 1, (some FieldType.int))
theorem tcX3_allRegrets : zCode miX3_allRegrets ∈ zT := tw_431
def miX3_become : zM := (yX3_become, cX3_become, 6, none)
theorem tcX3_become : zCode miX3_become ∈ zT := tw_408
def miX3_becomeAs : zM := (yX3_becomeAs, cX3_becomeAs, 2, none)
theorem tcX3_becomeAs : zCode miX3_becomeAs ∈ zT := tw_669
def miX3_feelsOf : zM := (yX3_feelsOf, cX3_feelsOf, 2, (some FieldType.int))
theorem tcX3_feelsOf : zCode miX3_feelsOf ∈ zT := tw_420
def miX3_init : zM := (yX3_init, cX3_init, 1, none)
theorem tcX3_init : zCode miX3_init ∈ zT := tw_114
def miX3_regretHalf : zM := (yX3_regretHalf, cX3_regretHalf, 2, none)
theorem tcX3_regretHalf : zCode miX3_regretHalf ∈ zT := tw_593
def miX3_regretMore : zM := (yX3_regretMore, cX3_regretMore, 3, none)
theorem tcX3_regretMore : zCode miX3_regretMore ∈ zT := tw_580
def miX3_worth : zM := (yX3_worth, cX3_worth, 1, (some FieldType.int))
theorem tcX3_worth : zCode miX3_worth ∈ zT := tw_427
def miX4_become : zM := (yX4_become, cX4_become, 3, none)
theorem tcX4_become : zCode miX4_become ∈ zT := tw_975
def miX4_becomeAs : zM := (yX4_becomeAs, cX4_becomeAs, 2, none)
theorem tcX4_becomeAs : zCode miX4_becomeAs ∈ zT := tw_1018
def miX4_hasPlace : zM := (yX4_hasPlace, cX4_hasPlace, 2, (some FieldType.boolean))
theorem tcX4_hasPlace : zCode miX4_hasPlace ∈ zT := tw_985
def miX4_hasPlaces : zM := (yX4_hasPlaces, cX4_hasPlaces, 3, (some FieldType.boolean))
theorem tcX4_hasPlaces : zCode miX4_hasPlaces ∈ zT := tw_1005
def miX4_init : zM := (yX4_init, cX4_init, 1, none)
theorem tcX4_init : zCode miX4_init ∈ zT := tw_310
def miX4_isMissing : zM := (yX4_isMissing, cX4_isMissing, 1, (some FieldType.boolean))
theorem tcX4_isMissing : zCode miX4_isMissing ∈ zT := tw_702
def miX4_isNumber : zM := (yX4_isNumber, cX4_isNumber, 2, (some FieldType.boolean))
theorem tcX4_isNumber : zCode miX4_isNumber ∈ zT := tw_712
def miX5_init : zM := (yX5_init, cX5_init, 1, none)
theorem tcX5_init : zCode miX5_init ∈ zT := tw_328
def miX6_init : zM := (yX6_init, cX6_init, 5, none)
theorem tcX6_init : zCode miX6_init ∈ zT := tw_939
def miX6_join : zM := (yX6_join, cX6_join, 3, (some FieldType.int))
theorem tcX6_join : zCode miX6_join ∈ zT := tw_548
def miX6_value : zM := (yX6_value, cX6_value, 8, (some FieldType.int))
theorem tcX6_value : zCode miX6_value ∈ zT := tw_545
def miX7_allRegrets : zM := (yX7_allRegrets, cX7_allRegrets, 3, (some FieldType.int))
theorem tcX7_allRegrets : zCode miX7_allRegrets ∈ zT := tw_605
def miX7_becomeAs : zM := (yX7_becomeAs, cX7_becomeAs, 3, none)
theorem tcX7_becomeAs : zCode miX7_becomeAs ∈ zT := tw_665
def miX7_draw : zM := (yX7_draw, cX7_draw, 1, (some FieldType.int))
theorem tcX7_draw : zCode miX7_draw ∈ zT := tw_518
def miX7_drawPerson : zM := (yX7_drawPerson, cX7_drawPerson, 6, none)
theorem tcX7_drawPerson : zCode miX7_drawPerson ∈ zT := tw_514
def miX7_goOn : zM := (yX7_goOn, cX7_goOn, 3, none)
theorem tcX7_goOn : zCode miX7_goOn ∈ zT := tw_574
def miX7_goThrough : zM := (yX7_goThrough, cX7_goThrough, 3, none)
theorem tcX7_goThrough : zCode miX7_goThrough ∈ zT := tw_537
def miX7_init : zM := (yX7_init, cX7_init, 2, none)
theorem tcX7_init : zCode miX7_init ∈ zT := tw_103
def miX7_jammedLocks : zM := (yX7_jammedLocks, cX7_jammedLocks, 3, (some FieldType.int))
theorem tcX7_jammedLocks : zCode miX7_jammedLocks ∈ zT := tw_610
def miX7_leftOf : zM := (yX7_leftOf, cX7_leftOf, 6, (some FieldType.int))
theorem tcX7_leftOf : zCode miX7_leftOf ∈ zT := tw_541
def miX7_liveDay : zM := (yX7_liveDay, cX7_liveDay, 2, none)
theorem tcX7_liveDay : zCode miX7_liveDay ∈ zT := tw_566
def miX7_mendAll : zM := (yX7_mendAll, cX7_mendAll, 2, none)
theorem tcX7_mendAll : zCode miX7_mendAll ∈ zT := tw_597
def miX7_sufferDeed : zM := (yX7_sufferDeed, cX7_sufferDeed, 3, none)
theorem tcX7_sufferDeed : zCode miX7_sufferDeed ∈ zT := tw_585
def miX7_sufferPardon : zM := (yX7_sufferPardon, cX7_sufferPardon, 1, none)
theorem tcX7_sufferPardon : zCode miX7_sufferPardon ∈ zT := tw_589
def miX7_thoseWhoFeel : zM := (yX7_thoseWhoFeel, cX7_thoseWhoFeel, 5, (some FieldType.int))
theorem tcX7_thoseWhoFeel : zCode miX7_thoseWhoFeel ∈ zT := tw_482
def miX7_thoseWhoOpen : zM := (yX7_thoseWhoOpen, cX7_thoseWhoOpen, 2, (some FieldType.int))
theorem tcX7_thoseWhoOpen : zCode miX7_thoseWhoOpen ∈ zT := tw_478
def miX7_tryFalsely : zM := (yX7_tryFalsely, cX7_tryFalsely, 3, none)
theorem tcX7_tryFalsely : zCode miX7_tryFalsely ∈ zT := tw_570
def miX8_find : zM := (yX8_find, cX8_find, 7, none)
theorem tcX8_find : zCode miX8_find ∈ zT := tw_618
def miX8_goOnFrom : zM := (yX8_goOnFrom, cX8_goOnFrom, 8, none)
theorem tcX8_goOnFrom : zCode miX8_goOnFrom ∈ zT := tw_632
def miX8_init : zM := (yX8_init, cX8_init, 1, none)
theorem tcX8_init : zCode miX8_init ∈ zT := tw_235
def miX8_reached : zM := (yX8_reached, cX8_reached, 3, (some FieldType.int))
theorem tcX8_reached : zCode miX8_reached ∈ zT := tw_638
def miX8_wearAll : zM := (yX8_wearAll, cX8_wearAll, 7, none)
theorem tcX8_wearAll : zCode miX8_wearAll ∈ zT := tw_626
def miX9_about : zM := (yX9_about, cX9_about, 4, (some FieldType.int))
theorem tcX9_about : zCode miX9_about ∈ zT := tw_470
def miX9_as : zM := (yX9_as, cX9_as, 4, (some FieldType.int))
theorem tcX9_as : zCode miX9_as ∈ zT := tw_438
def miX9_ask : zM := (yX9_ask, cX9_ask, 4, (some FieldType.int))
theorem tcX9_ask : zCode miX9_ask ∈ zT := tw_1023
def miX9_at : zM := (yX9_at, cX9_at, 4, (some FieldType.int))
theorem tcX9_at : zCode miX9_at ∈ zT := tw_503
def miX9_back : zM := (yX9_back, cX9_back, 1, (some FieldType.int))
theorem tcX9_back : zCode miX9_back ∈ zT := tw_1047
def miX9_becomes : zM := (yX9_becomes, cX9_becomes, 8, (some FieldType.int))
theorem tcX9_becomes : zCode miX9_becomes ∈ zT := tw_691
def miX9_behind : zM := (yX9_behind, cX9_behind, 4, (some FieldType.int))
theorem tcX9_behind : zCode miX9_behind ∈ zT := tw_661
def miX9_check : zM := (yX9_check, cX9_check, 6, (some FieldType.int))
theorem tcX9_check : zCode miX9_check ∈ zT := tw_1039
def miX9_copy : zM := (yX9_copy, cX9_copy, 8, (some FieldType.int))
theorem tcX9_copy : zCode miX9_copy ∈ zT := tw_1001
def miX9_count : zM := (yX9_count, cX9_count, 2, (some FieldType.int))
theorem tcX9_count : zCode miX9_count ∈ zT := tw_1051
def miX9_countHits : zM := (yX9_countHits, cX9_countHits, 4, none)
theorem tcX9_countHits : zCode miX9_countHits ∈ zT := tw_707
def miX9_days : zM := (yX9_days, cX9_days, 5, (some FieldType.int))
theorem tcX9_days : zCode miX9_days ∈ zT := tw_562
def miX9_deal : zM := (yX9_deal, cX9_deal, 4, (some FieldType.int))
theorem tcX9_deal : zCode miX9_deal ∈ zT := tw_507
def miX9_enters : zM := (yX9_enters, cX9_enters, 4, (some FieldType.int))
theorem tcX9_enters : zCode miX9_enters ∈ zT := tw_679
def miX9_entriesThought : zM := (yX9_entriesThought, cX9_entriesThought, 3, (some FieldType.int))
theorem tcX9_entriesThought : zCode miX9_entriesThought ∈ zT := tw_687
def miX9_fee : zM := (yX9_fee, cX9_fee, 2, (some FieldType.int))
theorem tcX9_fee : zCode miX9_fee ∈ zT := tw_717
def miX9_feed : zM := (yX9_feed, cX9_feed, 4, (some FieldType.int))
theorem tcX9_feed : zCode miX9_feed ∈ zT := tw_727
def miX9_feedFour : zM := (yX9_feedFour, cX9_feedFour, 3, none)
theorem tcX9_feedFour : zCode miX9_feedFour ∈ zT := tw_731
def miX9_fine : zM := (yX9_fine, cX9_fine, 4, (some FieldType.int))
theorem tcX9_fine : zCode miX9_fine ∈ zT := tw_722
def miX9_fitsLock : zM := (yX9_fitsLock, cX9_fitsLock, 2, (some FieldType.boolean))
theorem tcX9_fitsLock : zCode miX9_fitsLock ∈ zT := tw_490
def miX9_freed : zM := (yX9_freed, cX9_freed, 7, (some FieldType.int))
theorem tcX9_freed : zCode miX9_freed ∈ zT := tw_683
def miX9_held : zM := (yX9_held, cX9_held, 2, (some FieldType.int))
theorem tcX9_held : zCode miX9_held ∈ zT := tw_551
def miX9_init : zM := (yX9_init, cX9_init, 2, none)
theorem tcX9_init : zCode miX9_init ∈ zT := tw_95
def miX9_isKind : zM := (yX9_isKind, cX9_isKind, 1, (some FieldType.boolean))
theorem tcX9_isKind : zCode miX9_isKind ∈ zT := tw_396
def miX9_isLock : zM := (yX9_isLock, cX9_isLock, 2, (some FieldType.boolean))
theorem tcX9_isLock : zCode miX9_isLock ∈ zT := tw_474
def miX9_isOne : zM := (yX9_isOne, cX9_isOne, 2, (some FieldType.boolean))
theorem tcX9_isOne : zCode miX9_isOne ∈ zT := tw_416
def miX9_isRegret : zM := (yX9_isRegret, cX9_isRegret, 1, (some FieldType.boolean))
theorem tcX9_isRegret : zCode miX9_isRegret ∈ zT := tw_402
def miX9_isRoom : zM := (yX9_isRoom, cX9_isRoom, 1, (some FieldType.boolean))
theorem tcX9_isRoom : zCode miX9_isRoom ∈ zT := tw_399
def miX9_isSet : zM := (yX9_isSet, cX9_isSet, 1, (some FieldType.boolean))
theorem tcX9_isSet : zCode miX9_isSet ∈ zT := tw_462
def miX9_isSheet : zM := (yX9_isSheet, cX9_isSheet, 1, (some FieldType.boolean))
theorem tcX9_isSheet : zCode miX9_isSheet ∈ zT := tw_698
def miX9_isSlot : zM := (yX9_isSlot, cX9_isSlot, 1, (some FieldType.boolean))
theorem tcX9_isSlot : zCode miX9_isSlot ∈ zT := tw_1013
def miX9_isSort : zM := (yX9_isSort, cX9_isSort, 1, (some FieldType.boolean))
theorem tcX9_isSort : zCode miX9_isSort ∈ zT := tw_459
def miX9_item : zM := (yX9_item, cX9_item, 4, (some FieldType.int))
theorem tcX9_item : zCode miX9_item ∈ zT := tw_1027
def miX9_just : zM := (yX9_just, cX9_just, 5, (some FieldType.int))
theorem tcX9_just : zCode miX9_just ∈ zT := tw_650
def miX9_keep : zM := (yX9_keep, cX9_keep, 1, (some FieldType.int))
theorem tcX9_keep : zCode miX9_keep ∈ zT := tw_1043
def miX9_lay : zM := (yX9_lay, cX9_lay, 6, (some FieldType.int))
theorem tcX9_lay : zCode miX9_lay ∈ zT := tw_1010
def miX9_like : zM := (yX9_like, cX9_like, 5, (some FieldType.int))
theorem tcX9_like : zCode miX9_like ∈ zT := tw_695
def miX9_lock : zM := (yX9_lock, cX9_lock, 5, (some FieldType.int))
theorem tcX9_lock : zCode miX9_lock ∈ zT := tw_456
def miX9_mark : zM := (yX9_mark, cX9_mark, 5, (some FieldType.int))
theorem tcX9_mark : zCode miX9_mark ∈ zT := tw_981
def miX9_mends : zM := (yX9_mends, cX9_mends, 2, (some FieldType.int))
theorem tcX9_mends : zCode miX9_mends ∈ zT := tw_494
def miX9_one : zM := (yX9_one, cX9_one, 6, (some FieldType.int))
theorem tcX9_one : zCode miX9_one ∈ zT := tw_393
def miX9_pardoned : zM := (yX9_pardoned, cX9_pardoned, 2, (some FieldType.int))
theorem tcX9_pardoned : zCode miX9_pardoned ∈ zT := tw_646
def miX9_passes : zM := (yX9_passes, cX9_passes, 5, (some FieldType.int))
theorem tcX9_passes : zCode miX9_passes ∈ zT := tw_528
def miX9_pour : zM := (yX9_pour, cX9_pour, 7, (some FieldType.int))
theorem tcX9_pour : zCode miX9_pour ∈ zT := tw_992
def miX9_reach : zM := (yX9_reach, cX9_reach, 2, (some FieldType.int))
theorem tcX9_reach : zCode miX9_reach ∈ zT := tw_614
def miX9_reads : zM := (yX9_reads, cX9_reads, 4, (some FieldType.int))
theorem tcX9_reads : zCode miX9_reads ∈ zT := tw_997
def miX9_rest : zM := (yX9_rest, cX9_rest, 4, (some FieldType.int))
theorem tcX9_rest : zCode miX9_rest ∈ zT := tw_1031
def miX9_rule : zM := (yX9_rule, cX9_rule, 4, (some FieldType.int))
theorem tcX9_rule : zCode miX9_rule ∈ zT := tw_499
def miX9_seed : zM := (yX9_seed, cX9_seed, 3, (some FieldType.int))
theorem tcX9_seed : zCode miX9_seed ∈ zT := tw_524
def miX9_set : zM := (yX9_set, cX9_set, 6, (some FieldType.int))
theorem tcX9_set : zCode miX9_set ∈ zT := tw_452
def miX9_sets : zM := (yX9_sets, cX9_sets, 6, (some FieldType.int))
theorem tcX9_sets : zCode miX9_sets ∈ zT := tw_487
def miX9_sheet : zM := (yX9_sheet, cX9_sheet, 4, (some FieldType.int))
theorem tcX9_sheet : zCode miX9_sheet ∈ zT := tw_971
def miX9_sorry : zM := (yX9_sorry, cX9_sorry, 7, (some FieldType.int))
theorem tcX9_sorry : zCode miX9_sorry ∈ zT := tw_656
def miX9_tell : zM := (yX9_tell, cX9_tell, 2, (some FieldType.int))
theorem tcX9_tell : zCode miX9_tell ∈ zT := tw_1035
def miX9_text : zM := (yX9_text, cX9_text, 3, (some FieldType.int))
theorem tcX9_text : zCode miX9_text ∈ zT := tw_739
def miX9_textTold : zM := (yX9_textTold, cX9_textTold, 4, (some FieldType.int))
theorem tcX9_textTold : zCode miX9_textTold ∈ zT := tw_963
def miX9_told : zM := (yX9_told, cX9_told, 4, (some FieldType.int))
theorem tcX9_told : zCode miX9_told ∈ zT := tw_412
def miX9_town : zM := (yX9_town, cX9_town, 2, (some FieldType.int))
theorem tcX9_town : zCode miX9_town ∈ zT := tw_601
def miX9_trim : zM := (yX9_trim, cX9_trim, 2, (some FieldType.int))
theorem tcX9_trim : zCode miX9_trim ∈ zT := tw_735
def miX9_turns : zM := (yX9_turns, cX9_turns, 4, (some FieldType.int))
theorem tcX9_turns : zCode miX9_turns ∈ zT := tw_448
def miX9_way : zM := (yX9_way, cX9_way, 3, (some FieldType.int))
theorem tcX9_way : zCode miX9_way ∈ zT := tw_642
def miX9_why : zM := (yX9_why, cX9_why, 3, (some FieldType.int))
theorem tcX9_why : zCode miX9_why ∈ zT := tw_967
theorem inzX1 : ∀ w ∈ wsX10, w ∈ zT := fun w h => List.mem_filter.mpr ⟨inX1 w h, List.all_eq_true.mp (by decide +kernel : wsX10.all goodWord = true) w h⟩
theorem inzX2 : ∀ w ∈ wsX20, w ∈ zT := fun w h => List.mem_filter.mpr ⟨inX2 w h, List.all_eq_true.mp (by decide +kernel : wsX20.all goodWord = true) w h⟩
theorem inzX3 : ∀ w ∈ wsX30, w ∈ zT := fun w h => List.mem_filter.mpr ⟨inX3 w h, List.all_eq_true.mp (by decide +kernel : wsX30.all goodWord = true) w h⟩
theorem inzX4 : ∀ w ∈ wsX40, w ∈ zT := fun w h => List.mem_filter.mpr ⟨inX4 w h, List.all_eq_true.mp (by decide +kernel : wsX40.all goodWord = true) w h⟩
theorem inzX5 : ∀ w ∈ wsX50, w ∈ zT := fun w h => List.mem_filter.mpr ⟨inX5 w h, List.all_eq_true.mp (by decide +kernel : wsX50.all goodWord = true) w h⟩
theorem inzX6 : ∀ w ∈ wsX60, w ∈ zT := fun w h => List.mem_filter.mpr ⟨inX6 w h, List.all_eq_true.mp (by decide +kernel : wsX60.all goodWord = true) w h⟩
theorem inzX7 : ∀ w ∈ wsX70, w ∈ zT := fun w h => List.mem_filter.mpr ⟨inX7 w h, List.all_eq_true.mp (by decide +kernel : wsX70.all goodWord = true) w h⟩
theorem inzX8 : ∀ w ∈ wsX80, w ∈ zT := fun w h => List.mem_filter.mpr ⟨inX8 w h, List.all_eq_true.mp (by decide +kernel : wsX80.all goodWord = true) w h⟩
theorem inzX9 : ∀ w ∈ wsX90, w ∈ zT := fun w h => List.mem_filter.mpr ⟨inX9 w h, List.all_eq_true.mp (by decide +kernel : wsX90.all goodWord = true) w h⟩
theorem inzX10 : ∀ w ∈ wsX100, w ∈ zT := fun w h => List.mem_filter.mpr ⟨inX10 w h, List.all_eq_true.mp (by decide +kernel : wsX100.all goodWord = true) w h⟩
theorem tJ0_38 : Cond.fieldLink "java/lang/String" 38 "java/lang/String" "COMPACT_STRINGS" "Z" ∈ zT := tw_774
theorem tJ0_1053 : Cond.fieldLink "java/lang/String" 1053 "jdk/internal/util/Preconditions" "SIOOBE_FORMATTER" "Ljava/util/function/BiFunction;" ∈ zT := tw_790
theorem sJ0_495 : zCSt "java/lang/String" 495 miJ1_charAt_3b067 2 := ⟨⟨tw_784, tcJ1_charAt_3b067, tw_86, by decide, by decide, by decide⟩, tw_785⟩
theorem sJ0_498 : zCSt "java/lang/String" 498 miJ2_charAt_3b067 2 := ⟨⟨tw_795, tcJ2_charAt_3b067, tw_88, by decide, by decide, by decide⟩, tw_796⟩
theorem sJ0_637 : zCSt "java/lang/String" 637 miJ1_indexOf_4cfef 4 := ⟨⟨tw_848, tcJ1_indexOf_4cfef, tw_86, by decide, by decide, by decide⟩, tw_849⟩
theorem sJ0_640 : zCSt "java/lang/String" 640 miJ2_indexOf_4cfef 4 := ⟨⟨tw_859, tcJ2_indexOf_4cfef, tw_88, by decide, by decide, by decide⟩, tw_860⟩
theorem sJ0_1059 : zCSt "java/lang/String" 1059 miJ3_checkIndex_8e157 3 := ⟨⟨tw_792, tcJ3_checkIndex_8e157, tw_87, by decide, by decide, by decide⟩, tw_793⟩
theorem sJ0_1062 : zCSt "java/lang/String" 1062 miJ3_checkFromToIndex_8c36e 4 := ⟨⟨tw_874, tcJ3_checkFromToIndex_8c36e, tw_87, by decide, by decide, by decide⟩, tw_875⟩
theorem sJ1_9 : zCSt "java/lang/StringLatin1" 9 miJ0_checkIndex_df160 2 := ⟨⟨tw_787, tcJ0_checkIndex_df160, tw_85, by decide, by decide, by decide⟩, tw_788⟩
theorem sJ1_38 : zCSt "java/lang/StringLatin1" 38 miJ9_min_7cf53 2 := ⟨⟨tw_855, tcJ9_min_7cf53, tw_82, by decide, by decide, by decide⟩, tw_509⟩
theorem sJ1_88 : zCSt "java/lang/StringLatin1" 88 miJ1_canEncode_9a6ad 1 := ⟨⟨tw_851, tcJ1_canEncode_9a6ad, tw_86, by decide, by decide, by decide⟩, tw_852⟩
theorem sJ1_92 : zCSt "java/lang/StringLatin1" 92 miJ9_max_7cf53 2 := ⟨⟨tw_854, tcJ9_max_7cf53, tw_82, by decide, by decide, by decide⟩, tw_553⟩
theorem sJ1_95 : zCSt "java/lang/StringLatin1" 95 miJ1_indexOfChar_4cfef 4 := ⟨⟨tw_856, tcJ1_indexOfChar_4cfef, tw_86, by decide, by decide, by decide⟩, tw_857⟩
theorem kJ11_76 : Cond.constant "java/lang/Character" 76 (56320) ∈ zT := tw_893
theorem kJ11_110 : Cond.constant "java/lang/Character" 110 (55232) ∈ zT := tw_889
theorem tJ2_44 : Cond.fieldLink "java/lang/StringUTF16" 44 "java/lang/StringUTF16" "$assertionsDisabled" "Z" ∈ zT := tw_808
theorem tJ2_59 : Cond.fieldLink "java/lang/StringUTF16" 59 "java/lang/StringUTF16" "HI_BYTE_SHIFT" "I" ∈ zT := tw_810
theorem tJ2_63 : Cond.fieldLink "java/lang/StringUTF16" 63 "java/lang/StringUTF16" "LO_BYTE_SHIFT" "I" ∈ zT := tw_812
theorem sJ2_48 : zCSt "java/lang/StringUTF16" 48 miJ2_length_9d52b 1 := ⟨⟨tw_801, tcJ2_length_9d52b, tw_88, by decide, by decide, by decide⟩, tw_802⟩
theorem sJ2_67 : zCSt "java/lang/StringUTF16" 67 miJ2_checkIndex_2214a 2 := ⟨⟨tw_798, tcJ2_checkIndex_2214a, tw_88, by decide, by decide, by decide⟩, tw_799⟩
theorem sJ2_71 : zCSt "java/lang/StringUTF16" 71 miJ2_getChar_3b067 2 := ⟨⟨tw_805, tcJ2_getChar_3b067, tw_88, by decide, by decide, by decide⟩, tw_806⟩
theorem sJ2_96 : zCSt "java/lang/StringUTF16" 96 miJ2_checkBoundsBeginEnd_d044e 3 := ⟨⟨tw_868, tcJ2_checkBoundsBeginEnd_d044e, tw_88, by decide, by decide, by decide⟩, tw_869⟩
theorem sJ2_157 : zCSt "java/lang/StringUTF16" 157 miJ11_highSurrogate_5068e 1 := ⟨⟨tw_886, tcJ11_highSurrogate_5068e, tw_89, by decide, by decide, by decide⟩, tw_887⟩
theorem sJ2_161 : zCSt "java/lang/StringUTF16" 161 miJ11_lowSurrogate_5068e 1 := ⟨⟨tw_890, tcJ11_lowSurrogate_5068e, tw_89, by decide, by decide, by decide⟩, tw_891⟩
theorem sJ2_164 : zCSt "java/lang/StringUTF16" 164 miJ11_isValidCodePoint_9a6ad 1 := ⟨⟨tw_883, tcJ11_isValidCodePoint_9a6ad, tw_89, by decide, by decide, by decide⟩, tw_884⟩
theorem sJ2_183 : zCSt "java/lang/StringUTF16" 183 miJ9_min_7cf53 2 := ⟨⟨tw_863, tcJ9_min_7cf53, tw_82, by decide, by decide, by decide⟩, tw_509⟩
theorem sJ2_224 : zCSt "java/lang/StringUTF16" 224 miJ9_max_7cf53 2 := ⟨⟨tw_862, tcJ9_max_7cf53, tw_82, by decide, by decide, by decide⟩, tw_553⟩
theorem sJ2_228 : zCSt "java/lang/StringUTF16" 228 miJ2_indexOfChar_4cfef 4 := ⟨⟨tw_865, tcJ2_indexOfChar_4cfef, tw_88, by decide, by decide, by decide⟩, tw_866⟩
theorem sJ2_232 : zCSt "java/lang/StringUTF16" 232 miJ2_indexOfSupplementary_4cfef 4 := ⟨⟨tw_880, tcJ2_indexOfSupplementary_4cfef, tw_88, by decide, by decide, by decide⟩, tw_881⟩
theorem sJ2_241 : zCSt "java/lang/StringUTF16" 241 miJ0_checkBoundsBeginEnd_23922 3 := ⟨⟨tw_871, tcJ0_checkBoundsBeginEnd_23922, tw_85, by decide, by decide, by decide⟩, tw_872⟩
theorem sJ2_244 : zCSt "java/lang/StringUTF16" 244 miJ2_indexOfCharUnsafe_4cfef 4 := ⟨⟨tw_877, tcJ2_indexOfCharUnsafe_4cfef, tw_88, by decide, by decide, by decide⟩, tw_878⟩
theorem sJ2_414 : zCSt "java/lang/StringUTF16" 414 miJ0_checkIndex_df160 2 := ⟨⟨tw_804, tcJ0_checkIndex_df160, tw_85, by decide, by decide, by decide⟩, tw_788⟩
theorem kJ2_227 : Cond.constant "java/lang/StringUTF16" 227 (65536) ∈ zT := tw_864
theorem sJ7_304 : zCSt "java/util/Arrays" 304 miJ9_min_7cf53 2 := ⟨⟨tw_933, tcJ9_min_7cf53, tw_82, by decide, by decide, by decide⟩, tw_509⟩
theorem sL_9 : zCIn "RegretLocksLaw" 9 miX9_init 0 := ⟨⟨tw_93, tcX9_init, tw_72, by decide, by decide, by decide⟩, rfl, tw_94, rfl⟩
theorem sL_12 : zCIn "RegretLocksLaw" 12 miX10_init 0 := ⟨⟨tw_1054, tcX10_init, tw_80, by decide, by decide, by decide⟩, rfl, tw_1055, rfl⟩
theorem sL_13 : zCVi "RegretLocksLaw" 13 miX9_one 5 8 := ⟨⟨tw_390, tcX9_one, tw_72, by decide, by decide, by decide⟩, tw_391, tw_392, by decide, TX9, 13, rfl⟩
theorem sL_17 : zCVi "RegretLocksLaw" 17 miX10_one 5 9 := ⟨⟨tw_1158, tcX10_one, tw_80, by decide, by decide, by decide⟩, tw_1159, tw_1160, by decide, TX10, 33, rfl⟩
theorem sL_18 : zCVi "RegretLocksLaw" 18 miX9_told 2 8 := ⟨⟨tw_409, tcX9_told, tw_72, by decide, by decide, by decide⟩, tw_410, tw_411, by decide, TX9, 13, rfl⟩
theorem sL_22 : zCVi "RegretLocksLaw" 22 miX10_told 2 9 := ⟨⟨tw_1184, tcX10_told, tw_80, by decide, by decide, by decide⟩, tw_1185, tw_1186, by decide, TX10, 33, rfl⟩
theorem sL_23 : zCVi "RegretLocksLaw" 23 miX9_as 2 8 := ⟨⟨tw_435, tcX9_as, tw_72, by decide, by decide, by decide⟩, tw_436, tw_437, by decide, TX9, 13, rfl⟩
theorem sL_26 : zCVi "RegretLocksLaw" 26 miX10_as 2 9 := ⟨⟨tw_1208, tcX10_as, tw_80, by decide, by decide, by decide⟩, tw_1209, tw_1210, by decide, TX10, 33, rfl⟩
theorem sL_27 : zCVi "RegretLocksLaw" 27 miX9_turns 2 8 := ⟨⟨tw_445, tcX9_turns, tw_72, by decide, by decide, by decide⟩, tw_446, tw_447, by decide, TX9, 13, rfl⟩
theorem sL_30 : zCVi "RegretLocksLaw" 30 miX10_turns 2 9 := ⟨⟨tw_1216, tcX10_turns, tw_80, by decide, by decide, by decide⟩, tw_1217, tw_1218, by decide, TX10, 33, rfl⟩
theorem sL_31 : zCVi "RegretLocksLaw" 31 miX9_set 3 8 := ⟨⟨tw_449, tcX9_set, tw_72, by decide, by decide, by decide⟩, tw_450, tw_451, by decide, TX9, 13, rfl⟩
theorem sL_35 : zCVi "RegretLocksLaw" 35 miX10_set 3 9 := ⟨⟨tw_1224, tcX10_set, tw_80, by decide, by decide, by decide⟩, tw_1225, tw_1226, by decide, TX10, 33, rfl⟩
theorem sL_36 : zCVi "RegretLocksLaw" 36 miX9_lock 4 8 := ⟨⟨tw_453, tcX9_lock, tw_72, by decide, by decide, by decide⟩, tw_454, tw_455, by decide, TX9, 13, rfl⟩
theorem sL_40 : zCVi "RegretLocksLaw" 40 miX10_lock 4 9 := ⟨⟨tw_1229, tcX10_lock, tw_80, by decide, by decide, by decide⟩, tw_1230, tw_1231, by decide, TX10, 33, rfl⟩
theorem sL_41 : zCVi "RegretLocksLaw" 41 miX9_about 2 8 := ⟨⟨tw_467, tcX9_about, tw_72, by decide, by decide, by decide⟩, tw_468, tw_469, by decide, TX9, 13, rfl⟩
theorem sL_44 : zCVi "RegretLocksLaw" 44 miX10_about 2 9 := ⟨⟨tw_1237, tcX10_about, tw_80, by decide, by decide, by decide⟩, tw_1238, tw_1239, by decide, TX10, 33, rfl⟩
theorem sL_45 : zCVi "RegretLocksLaw" 45 miX9_sets 3 8 := ⟨⟨tw_484, tcX9_sets, tw_72, by decide, by decide, by decide⟩, tw_485, tw_486, by decide, TX9, 13, rfl⟩
theorem sL_48 : zCVi "RegretLocksLaw" 48 miX10_sets 3 9 := ⟨⟨tw_1253, tcX10_sets, tw_80, by decide, by decide, by decide⟩, tw_1254, tw_1255, by decide, TX10, 33, rfl⟩
theorem sL_49 : zCVi "RegretLocksLaw" 49 miX9_mends 1 8 := ⟨⟨tw_491, tcX9_mends, tw_72, by decide, by decide, by decide⟩, tw_492, tw_493, by decide, TX9, 13, rfl⟩
theorem sL_53 : zCVi "RegretLocksLaw" 53 miX10_mends 1 9 := ⟨⟨tw_1258, tcX10_mends, tw_80, by decide, by decide, by decide⟩, tw_1259, tw_1260, by decide, TX10, 33, rfl⟩
theorem sL_54 : zCVi "RegretLocksLaw" 54 miX9_rule 2 8 := ⟨⟨tw_496, tcX9_rule, tw_72, by decide, by decide, by decide⟩, tw_497, tw_498, by decide, TX9, 13, rfl⟩
theorem sL_57 : zCVi "RegretLocksLaw" 57 miX10_rule 2 9 := ⟨⟨tw_1263, tcX10_rule, tw_80, by decide, by decide, by decide⟩, tw_1264, tw_1265, by decide, TX10, 33, rfl⟩
theorem sL_58 : zCVi "RegretLocksLaw" 58 miX9_at 1 8 := ⟨⟨tw_500, tcX9_at, tw_72, by decide, by decide, by decide⟩, tw_501, tw_502, by decide, TX9, 13, rfl⟩
theorem sL_61 : zCVi "RegretLocksLaw" 61 miX10_at 1 9 := ⟨⟨tw_1268, tcX10_at, tw_80, by decide, by decide, by decide⟩, tw_1269, tw_1270, by decide, TX10, 33, rfl⟩
theorem sL_62 : zCVi "RegretLocksLaw" 62 miX9_deal 1 8 := ⟨⟨tw_504, tcX9_deal, tw_72, by decide, by decide, by decide⟩, tw_505, tw_506, by decide, TX9, 13, rfl⟩
theorem sL_65 : zCVi "RegretLocksLaw" 65 miX10_deal 1 9 := ⟨⟨tw_1272, tcX10_deal, tw_80, by decide, by decide, by decide⟩, tw_1273, tw_1274, by decide, TX10, 33, rfl⟩
theorem sL_66 : zCVi "RegretLocksLaw" 66 miX9_seed 1 8 := ⟨⟨tw_521, tcX9_seed, tw_72, by decide, by decide, by decide⟩, tw_522, tw_523, by decide, TX9, 13, rfl⟩
theorem sL_69 : zCVi "RegretLocksLaw" 69 miX10_seed 1 9 := ⟨⟨tw_1281, tcX10_seed, tw_80, by decide, by decide, by decide⟩, tw_1282, tw_1283, by decide, TX10, 33, rfl⟩
theorem sL_70 : zCVi "RegretLocksLaw" 70 miX9_passes 2 8 := ⟨⟨tw_525, tcX9_passes, tw_72, by decide, by decide, by decide⟩, tw_526, tw_527, by decide, TX9, 13, rfl⟩
theorem sL_73 : zCVi "RegretLocksLaw" 73 miX10_passes 2 9 := ⟨⟨tw_1285, tcX10_passes, tw_80, by decide, by decide, by decide⟩, tw_1286, tw_1287, by decide, TX10, 33, rfl⟩
theorem sL_74 : zCVi "RegretLocksLaw" 74 miX9_days 1 8 := ⟨⟨tw_559, tcX9_days, tw_72, by decide, by decide, by decide⟩, tw_560, tw_561, by decide, TX9, 13, rfl⟩
theorem sL_77 : zCVi "RegretLocksLaw" 77 miX10_days 1 9 := ⟨⟨tw_1319, tcX10_days, tw_80, by decide, by decide, by decide⟩, tw_1320, tw_1321, by decide, TX10, 33, rfl⟩
theorem sL_78 : zCVi "RegretLocksLaw" 78 miX9_town 1 8 := ⟨⟨tw_598, tcX9_town, tw_72, by decide, by decide, by decide⟩, tw_599, tw_600, by decide, TX9, 13, rfl⟩
theorem sL_81 : zCVi "RegretLocksLaw" 81 miX10_town 1 9 := ⟨⟨tw_1343, tcX10_town, tw_80, by decide, by decide, by decide⟩, tw_1344, tw_1345, by decide, TX10, 33, rfl⟩
theorem sL_82 : zCVi "RegretLocksLaw" 82 miX9_reach 1 8 := ⟨⟨tw_611, tcX9_reach, tw_72, by decide, by decide, by decide⟩, tw_612, tw_613, by decide, TX9, 13, rfl⟩
theorem sL_85 : zCVi "RegretLocksLaw" 85 miX10_reach 1 9 := ⟨⟨tw_1351, tcX10_reach, tw_80, by decide, by decide, by decide⟩, tw_1352, tw_1353, by decide, TX10, 33, rfl⟩
theorem sL_86 : zCVi "RegretLocksLaw" 86 miX9_way 2 8 := ⟨⟨tw_639, tcX9_way, tw_72, by decide, by decide, by decide⟩, tw_640, tw_641, by decide, TX9, 13, rfl⟩
theorem sL_89 : zCVi "RegretLocksLaw" 89 miX10_way 2 9 := ⟨⟨tw_1366, tcX10_way, tw_80, by decide, by decide, by decide⟩, tw_1367, tw_1368, by decide, TX10, 33, rfl⟩
theorem sL_90 : zCVi "RegretLocksLaw" 90 miX9_pardoned 1 8 := ⟨⟨tw_643, tcX9_pardoned, tw_72, by decide, by decide, by decide⟩, tw_644, tw_645, by decide, TX9, 13, rfl⟩
theorem sL_93 : zCVi "RegretLocksLaw" 93 miX10_pardoned 1 9 := ⟨⟨tw_1379, tcX10_pardoned, tw_80, by decide, by decide, by decide⟩, tw_1380, tw_1381, by decide, TX10, 33, rfl⟩
theorem sL_94 : zCVi "RegretLocksLaw" 94 miX9_just 2 8 := ⟨⟨tw_647, tcX9_just, tw_72, by decide, by decide, by decide⟩, tw_648, tw_649, by decide, TX9, 13, rfl⟩
theorem sL_97 : zCVi "RegretLocksLaw" 97 miX10_just 2 9 := ⟨⟨tw_1371, tcX10_just, tw_80, by decide, by decide, by decide⟩, tw_1372, tw_1373, by decide, TX10, 33, rfl⟩
theorem sL_98 : zCVi "RegretLocksLaw" 98 miX9_sorry 2 8 := ⟨⟨tw_653, tcX9_sorry, tw_72, by decide, by decide, by decide⟩, tw_654, tw_655, by decide, TX9, 13, rfl⟩
theorem sL_101 : zCVi "RegretLocksLaw" 101 miX10_sorry 2 9 := ⟨⟨tw_1375, tcX10_sorry, tw_80, by decide, by decide, by decide⟩, tw_1376, tw_1377, by decide, TX10, 33, rfl⟩
theorem sL_102 : zCVi "RegretLocksLaw" 102 miX9_behind 2 8 := ⟨⟨tw_658, tcX9_behind, tw_72, by decide, by decide, by decide⟩, tw_659, tw_660, by decide, TX9, 13, rfl⟩
theorem sL_105 : zCVi "RegretLocksLaw" 105 miX10_behind 2 9 := ⟨⟨tw_1391, tcX10_behind, tw_80, by decide, by decide, by decide⟩, tw_1392, tw_1393, by decide, TX10, 33, rfl⟩
theorem sL_106 : zCVi "RegretLocksLaw" 106 miX9_enters 2 8 := ⟨⟨tw_676, tcX9_enters, tw_72, by decide, by decide, by decide⟩, tw_677, tw_678, by decide, TX9, 13, rfl⟩
theorem sL_109 : zCVi "RegretLocksLaw" 109 miX10_enters 2 9 := ⟨⟨tw_1395, tcX10_enters, tw_80, by decide, by decide, by decide⟩, tw_1396, tw_1397, by decide, TX10, 33, rfl⟩
theorem sL_110 : zCVi "RegretLocksLaw" 110 miX9_freed 2 8 := ⟨⟨tw_680, tcX9_freed, tw_72, by decide, by decide, by decide⟩, tw_681, tw_682, by decide, TX9, 13, rfl⟩
theorem sL_113 : zCVi "RegretLocksLaw" 113 miX10_freed 2 9 := ⟨⟨tw_1399, tcX10_freed, tw_80, by decide, by decide, by decide⟩, tw_1400, tw_1401, by decide, TX10, 33, rfl⟩
theorem sL_114 : zCVi "RegretLocksLaw" 114 miX9_becomes 3 8 := ⟨⟨tw_688, tcX9_becomes, tw_72, by decide, by decide, by decide⟩, tw_689, tw_690, by decide, TX9, 13, rfl⟩
theorem sL_117 : zCVi "RegretLocksLaw" 117 miX10_becomes 3 9 := ⟨⟨tw_1407, tcX10_becomes, tw_80, by decide, by decide, by decide⟩, tw_1408, tw_1409, by decide, TX10, 33, rfl⟩
theorem sL_118 : zCVi "RegretLocksLaw" 118 miX9_like 2 8 := ⟨⟨tw_692, tcX9_like, tw_72, by decide, by decide, by decide⟩, tw_693, tw_694, by decide, TX9, 13, rfl⟩
theorem sL_121 : zCVi "RegretLocksLaw" 121 miX10_like 2 9 := ⟨⟨tw_1534, tcX10_like, tw_80, by decide, by decide, by decide⟩, tw_1535, tw_1536, by decide, TX10, 33, rfl⟩
theorem sL_122 : zCVi "RegretLocksLaw" 122 miX9_fee 0 8 := ⟨⟨tw_714, tcX9_fee, tw_72, by decide, by decide, by decide⟩, tw_715, tw_716, by decide, TX9, 13, rfl⟩
theorem sL_126 : zCVi "RegretLocksLaw" 126 miX10_fee 0 9 := ⟨⟨tw_1411, tcX10_fee, tw_80, by decide, by decide, by decide⟩, tw_1412, tw_1413, by decide, TX10, 33, rfl⟩
theorem sL_127 : zCVi "RegretLocksLaw" 127 miX9_fine 1 8 := ⟨⟨tw_719, tcX9_fine, tw_72, by decide, by decide, by decide⟩, tw_720, tw_721, by decide, TX9, 13, rfl⟩
theorem sL_130 : zCVi "RegretLocksLaw" 130 miX10_fine 1 9 := ⟨⟨tw_1415, tcX10_fine, tw_80, by decide, by decide, by decide⟩, tw_1416, tw_1417, by decide, TX10, 33, rfl⟩
theorem sL_131 : zCVi "RegretLocksLaw" 131 miX9_feed 3 8 := ⟨⟨tw_724, tcX9_feed, tw_72, by decide, by decide, by decide⟩, tw_725, tw_726, by decide, TX9, 13, rfl⟩
theorem sL_134 : zCVi "RegretLocksLaw" 134 miX10_feed 3 9 := ⟨⟨tw_1419, tcX10_feed, tw_80, by decide, by decide, by decide⟩, tw_1420, tw_1421, by decide, TX10, 33, rfl⟩
theorem sL_135 : zCVi "RegretLocksLaw" 135 miX9_trim 1 8 := ⟨⟨tw_732, tcX9_trim, tw_72, by decide, by decide, by decide⟩, tw_733, tw_734, by decide, TX9, 13, rfl⟩
theorem sL_138 : zCVi "RegretLocksLaw" 138 miX10_trim 1 9 := ⟨⟨tw_1423, tcX10_trim, tw_80, by decide, by decide, by decide⟩, tw_1424, tw_1425, by decide, TX10, 33, rfl⟩
theorem sL_139 : zCVi "RegretLocksLaw" 139 miX9_text 0 8 := ⟨⟨tw_736, tcX9_text, tw_72, by decide, by decide, by decide⟩, tw_737, tw_738, by decide, TX9, 13, rfl⟩
theorem sL_142 : zCVi "RegretLocksLaw" 142 miX10_text 0 9 := ⟨⟨tw_1427, tcX10_text, tw_80, by decide, by decide, by decide⟩, tw_1428, tw_1429, by decide, TX10, 33, rfl⟩
theorem sL_143 : zCVi "RegretLocksLaw" 143 miX9_textTold 2 8 := ⟨⟨tw_960, tcX9_textTold, tw_72, by decide, by decide, by decide⟩, tw_961, tw_962, by decide, TX9, 13, rfl⟩
theorem sL_146 : zCVi "RegretLocksLaw" 146 miX10_textTold 2 9 := ⟨⟨tw_1494, tcX10_textTold, tw_80, by decide, by decide, by decide⟩, tw_1495, tw_1496, by decide, TX10, 33, rfl⟩
theorem sL_147 : zCVi "RegretLocksLaw" 147 miX9_why 1 8 := ⟨⟨tw_964, tcX9_why, tw_72, by decide, by decide, by decide⟩, tw_965, tw_966, by decide, TX9, 13, rfl⟩
theorem sL_150 : zCVi "RegretLocksLaw" 150 miX10_why 1 9 := ⟨⟨tw_1502, tcX10_why, tw_80, by decide, by decide, by decide⟩, tw_1503, tw_1504, by decide, TX10, 33, rfl⟩
theorem sL_151 : zCVi "RegretLocksLaw" 151 miX9_sheet 3 8 := ⟨⟨tw_968, tcX9_sheet, tw_72, by decide, by decide, by decide⟩, tw_969, tw_970, by decide, TX9, 13, rfl⟩
theorem sL_154 : zCVi "RegretLocksLaw" 154 miX10_sheet 3 9 := ⟨⟨tw_1509, tcX10_sheet, tw_80, by decide, by decide, by decide⟩, tw_1510, tw_1511, by decide, TX10, 33, rfl⟩
theorem sL_155 : zCVi "RegretLocksLaw" 155 miX9_mark 3 8 := ⟨⟨tw_978, tcX9_mark, tw_72, by decide, by decide, by decide⟩, tw_979, tw_980, by decide, TX9, 13, rfl⟩
theorem sL_158 : zCVi "RegretLocksLaw" 158 miX10_mark 3 9 := ⟨⟨tw_1518, tcX10_mark, tw_80, by decide, by decide, by decide⟩, tw_1519, tw_1520, by decide, TX10, 33, rfl⟩
theorem sL_159 : zCVi "RegretLocksLaw" 159 miX9_pour 1 8 := ⟨⟨tw_989, tcX9_pour, tw_72, by decide, by decide, by decide⟩, tw_990, tw_991, by decide, TX9, 13, rfl⟩
theorem sL_162 : zCVi "RegretLocksLaw" 162 miX10_pour 1 9 := ⟨⟨tw_1526, tcX10_pour, tw_80, by decide, by decide, by decide⟩, tw_1527, tw_1528, by decide, TX10, 33, rfl⟩
theorem sL_163 : zCVi "RegretLocksLaw" 163 miX9_reads 1 8 := ⟨⟨tw_994, tcX9_reads, tw_72, by decide, by decide, by decide⟩, tw_995, tw_996, by decide, TX9, 13, rfl⟩
theorem sL_166 : zCVi "RegretLocksLaw" 166 miX10_reads 1 9 := ⟨⟨tw_1530, tcX10_reads, tw_80, by decide, by decide, by decide⟩, tw_1531, tw_1532, by decide, TX10, 33, rfl⟩
theorem sL_167 : zCVi "RegretLocksLaw" 167 miX9_copy 5 8 := ⟨⟨tw_998, tcX9_copy, tw_72, by decide, by decide, by decide⟩, tw_999, tw_1000, by decide, TX9, 13, rfl⟩
theorem sL_170 : zCVi "RegretLocksLaw" 170 miX10_copy 5 9 := ⟨⟨tw_1542, tcX10_copy, tw_80, by decide, by decide, by decide⟩, tw_1543, tw_1544, by decide, TX10, 33, rfl⟩
theorem sL_171 : zCVi "RegretLocksLaw" 171 miX9_lay 3 8 := ⟨⟨tw_1007, tcX9_lay, tw_72, by decide, by decide, by decide⟩, tw_1008, tw_1009, by decide, TX9, 13, rfl⟩
theorem sL_174 : zCVi "RegretLocksLaw" 174 miX10_lay 3 9 := ⟨⟨tw_1546, tcX10_lay, tw_80, by decide, by decide, by decide⟩, tw_1547, tw_1548, by decide, TX10, 33, rfl⟩
theorem sL_175 : zCVi "RegretLocksLaw" 175 miX9_ask 2 8 := ⟨⟨tw_1020, tcX9_ask, tw_72, by decide, by decide, by decide⟩, tw_1021, tw_1022, by decide, TX9, 13, rfl⟩
theorem sL_178 : zCVi "RegretLocksLaw" 178 miX10_ask 2 9 := ⟨⟨tw_1553, tcX10_ask, tw_80, by decide, by decide, by decide⟩, tw_1554, tw_1555, by decide, TX10, 33, rfl⟩
theorem sL_179 : zCVi "RegretLocksLaw" 179 miX9_item 2 8 := ⟨⟨tw_1024, tcX9_item, tw_72, by decide, by decide, by decide⟩, tw_1025, tw_1026, by decide, TX9, 13, rfl⟩
theorem sL_182 : zCVi "RegretLocksLaw" 182 miX10_item 2 9 := ⟨⟨tw_1557, tcX10_item, tw_80, by decide, by decide, by decide⟩, tw_1558, tw_1559, by decide, TX10, 33, rfl⟩
theorem sL_183 : zCVi "RegretLocksLaw" 183 miX9_rest 2 8 := ⟨⟨tw_1028, tcX9_rest, tw_72, by decide, by decide, by decide⟩, tw_1029, tw_1030, by decide, TX9, 13, rfl⟩
theorem sL_186 : zCVi "RegretLocksLaw" 186 miX10_rest 2 9 := ⟨⟨tw_1561, tcX10_rest, tw_80, by decide, by decide, by decide⟩, tw_1562, tw_1563, by decide, TX10, 33, rfl⟩
theorem sL_187 : zCVi "RegretLocksLaw" 187 miX9_tell 1 8 := ⟨⟨tw_1032, tcX9_tell, tw_72, by decide, by decide, by decide⟩, tw_1033, tw_1034, by decide, TX9, 13, rfl⟩
theorem sL_190 : zCVi "RegretLocksLaw" 190 miX10_tell 1 9 := ⟨⟨tw_1565, tcX10_tell, tw_80, by decide, by decide, by decide⟩, tw_1566, tw_1567, by decide, TX10, 33, rfl⟩
theorem sL_191 : zCVi "RegretLocksLaw" 191 miX9_check 1 8 := ⟨⟨tw_1036, tcX9_check, tw_72, by decide, by decide, by decide⟩, tw_1037, tw_1038, by decide, TX9, 13, rfl⟩
theorem sL_194 : zCVi "RegretLocksLaw" 194 miX10_check 1 9 := ⟨⟨tw_1569, tcX10_check, tw_80, by decide, by decide, by decide⟩, tw_1570, tw_1571, by decide, TX10, 33, rfl⟩
theorem sL_195 : zCVi "RegretLocksLaw" 195 miX9_keep 0 8 := ⟨⟨tw_1040, tcX9_keep, tw_72, by decide, by decide, by decide⟩, tw_1041, tw_1042, by decide, TX9, 13, rfl⟩
theorem sL_198 : zCVi "RegretLocksLaw" 198 miX10_keep 0 9 := ⟨⟨tw_1578, tcX10_keep, tw_80, by decide, by decide, by decide⟩, tw_1579, tw_1580, by decide, TX10, 33, rfl⟩
theorem sL_199 : zCVi "RegretLocksLaw" 199 miX9_back 0 8 := ⟨⟨tw_1044, tcX9_back, tw_72, by decide, by decide, by decide⟩, tw_1045, tw_1046, by decide, TX9, 13, rfl⟩
theorem sL_202 : zCVi "RegretLocksLaw" 202 miX10_back 0 9 := ⟨⟨tw_1582, tcX10_back, tw_80, by decide, by decide, by decide⟩, tw_1583, tw_1584, by decide, TX10, 33, rfl⟩
theorem sL_203 : zCVi "RegretLocksLaw" 203 miX9_count 1 8 := ⟨⟨tw_1048, tcX9_count, tw_72, by decide, by decide, by decide⟩, tw_1049, tw_1050, by decide, TX9, 13, rfl⟩
theorem sL_206 : zCVi "RegretLocksLaw" 206 miX10_count 1 9 := ⟨⟨tw_1586, tcX10_count, tw_80, by decide, by decide, by decide⟩, tw_1587, tw_1588, by decide, TX10, 33, rfl⟩
theorem nL_7 : zNW "RegretLocksLaw" 7 8 13 := ⟨RX9, TX9, tyX9, rfl, inzX9, by decide, tyX9_ok, tw_91, tw_92, tw_72, fun j hj => match j, hj with | 0, _ => rfl | 1, _ => rfl | 2, _ => rfl | 3, _ => rfl | 4, _ => rfl | 5, _ => rfl | 6, _ => rfl | 7, _ => rfl | 8, _ => rfl | 9, _ => rfl | 10, _ => rfl | 11, _ => rfl | 12, _ => rfl | j + 13, h => absurd h (by omega)⟩
theorem nL_10 : zNW "RegretLocksLaw" 10 9 33 := ⟨RX10, TX10, tyX10, rfl, inzX10, by decide, tyX10_ok, tw_1052, tw_1053, tw_80, fun j hj => match j, hj with | 0, _ => rfl | 1, _ => rfl | 2, _ => rfl | 3, _ => rfl | 4, _ => rfl | 5, _ => rfl | 6, _ => rfl | 7, _ => rfl | 8, _ => rfl | 9, _ => rfl | 10, _ => rfl | 11, _ => rfl | 12, _ => rfl | 13, _ => rfl | 14, _ => rfl | 15, _ => rfl | 16, _ => rfl | 17, _ => rfl | 18, _ => rfl | 19, _ => rfl | 20, _ => rfl | 21, _ => rfl | 22, _ => rfl | 23, _ => rfl | 24, _ => rfl | 25, _ => rfl | 26, _ => rfl | 27, _ => rfl | 28, _ => rfl | 29, _ => rfl | 30, _ => rfl | 31, _ => rfl | 32, _ => rfl | j + 33, h => absurd h (by omega)⟩
theorem tX0_9 : Cond.fieldLink "RegretLocks$Kinds" 9 "RegretLocks$Kinds" "ABOVE" "[I" ∈ zT := tw_442
theorem fX1_7 : zFI "RegretLocks$Lock" 7 0 0 := ⟨RX1, TX1, 5, rfl, by decide, inzX1, tw_141, by decide, rfl⟩
theorem fX1_13 : zFI "RegretLocks$Lock" 13 0 1 := ⟨RX1, TX1, 5, rfl, by decide, inzX1, tw_145, by decide, rfl⟩
theorem fX1_16 : zFI "RegretLocks$Lock" 16 0 2 := ⟨RX1, TX1, 5, rfl, by decide, inzX1, tw_149, by decide, rfl⟩
theorem fX1_19 : zFI "RegretLocks$Lock" 19 0 3 := ⟨RX1, TX1, 5, rfl, by decide, inzX1, tw_153, by decide, rfl⟩
theorem fX1_22 : zFI "RegretLocks$Lock" 22 0 4 := ⟨RX1, TX1, 5, rfl, by decide, inzX1, tw_157, by decide, rfl⟩
theorem sX1_26 : zCVi "RegretLocks$Lock" 26 miX1_become 4 0 := ⟨⟨tw_675, tcX1_become, tw_75, by decide, by decide, by decide⟩, tw_464, tw_465, by decide, TX1, 5, rfl⟩
theorem sX1_30 : zCVi "RegretLocks$Lock" 30 miX3_feelsOf 1 2 := ⟨⟨tw_533, tcX3_feelsOf, tw_74, by decide, by decide, by decide⟩, tw_418, tw_419, by decide, TX3, 3, rfl⟩
theorem pX1_7 : zFP "RegretLocks$Lock" 7 0 0 .int false true := ⟨RX1, TX1, 5, tyX1, rfl, by decide, inzX1, tw_141, by decide, rfl, tyX1_ok, nmX1, rfl, rfl, fun h => by cases h⟩
theorem pX1_13 : zFP "RegretLocks$Lock" 13 0 1 .int false true := ⟨RX1, TX1, 5, tyX1, rfl, by decide, inzX1, tw_145, by decide, rfl, tyX1_ok, nmX1, rfl, rfl, fun h => by cases h⟩
theorem pX1_16 : zFP "RegretLocks$Lock" 16 0 2 .int false true := ⟨RX1, TX1, 5, tyX1, rfl, by decide, inzX1, tw_149, by decide, rfl, tyX1_ok, nmX1, rfl, rfl, fun h => by cases h⟩
theorem pX1_19 : zFP "RegretLocks$Lock" 19 0 3 .int false true := ⟨RX1, TX1, 5, tyX1, rfl, by decide, inzX1, tw_153, by decide, rfl, tyX1_ok, nmX1, rfl, rfl, fun h => by cases h⟩
theorem pX1_22 : zFP "RegretLocks$Lock" 22 0 4 .boolean false true := ⟨RX1, TX1, 5, tyX1, rfl, by decide, inzX1, tw_157, by decide, rfl, tyX1_ok, nmX1, rfl, rfl, fun h => by cases h⟩
theorem fX10_7 : zFR "RegretLocksModel" 7 9 0 := ⟨RX10, TX10, 33, rfl, by decide, inzX10, tw_1058, by decide, rfl⟩
theorem fX10_13 : zFR "RegretLocksModel" 13 9 1 := ⟨RX10, TX10, 33, rfl, by decide, inzX10, tw_1059, by decide, rfl⟩
theorem fX10_16 : zFR "RegretLocksModel" 16 9 2 := ⟨RX10, TX10, 33, rfl, by decide, inzX10, tw_1060, by decide, rfl⟩
theorem fX10_19 : zFR "RegretLocksModel" 19 9 4 := ⟨RX10, TX10, 33, rfl, by decide, inzX10, tw_1062, by decide, rfl⟩
theorem fX10_22 : zFR "RegretLocksModel" 22 9 5 := ⟨RX10, TX10, 33, rfl, by decide, inzX10, tw_1063, by decide, rfl⟩
theorem fX10_25 : zFR "RegretLocksModel" 25 9 6 := ⟨RX10, TX10, 33, rfl, by decide, inzX10, tw_1064, by decide, rfl⟩
theorem fX10_28 : zFR "RegretLocksModel" 28 9 7 := ⟨RX10, TX10, 33, rfl, by decide, inzX10, tw_1065, by decide, rfl⟩
theorem fX10_31 : zFR "RegretLocksModel" 31 9 8 := ⟨RX10, TX10, 33, rfl, by decide, inzX10, tw_1066, by decide, rfl⟩
theorem fX10_34 : zFR "RegretLocksModel" 34 9 9 := ⟨RX10, TX10, 33, rfl, by decide, inzX10, tw_1067, by decide, rfl⟩
theorem fX10_37 : zFR "RegretLocksModel" 37 9 10 := ⟨RX10, TX10, 33, rfl, by decide, inzX10, tw_1068, by decide, rfl⟩
theorem fX10_40 : zFR "RegretLocksModel" 40 9 11 := ⟨RX10, TX10, 33, rfl, by decide, inzX10, tw_1069, by decide, rfl⟩
theorem fX10_43 : zFR "RegretLocksModel" 43 9 12 := ⟨RX10, TX10, 33, rfl, by decide, inzX10, tw_1070, by decide, rfl⟩
theorem fX10_46 : zFR "RegretLocksModel" 46 9 13 := ⟨RX10, TX10, 33, rfl, by decide, inzX10, tw_1071, by decide, rfl⟩
theorem fX10_49 : zFR "RegretLocksModel" 49 9 14 := ⟨RX10, TX10, 33, rfl, by decide, inzX10, tw_1072, by decide, rfl⟩
theorem fX10_52 : zFR "RegretLocksModel" 52 9 15 := ⟨RX10, TX10, 33, rfl, by decide, inzX10, tw_1073, by decide, rfl⟩
theorem fX10_55 : zFR "RegretLocksModel" 55 9 27 := ⟨RX10, TX10, 33, rfl, by decide, inzX10, tw_1085, by decide, rfl⟩
theorem fX10_58 : zFR "RegretLocksModel" 58 9 28 := ⟨RX10, TX10, 33, rfl, by decide, inzX10, tw_1086, by decide, rfl⟩
theorem fX10_61 : zFR "RegretLocksModel" 61 9 29 := ⟨RX10, TX10, 33, rfl, by decide, inzX10, tw_1087, by decide, rfl⟩
theorem fX10_64 : zFR "RegretLocksModel" 64 9 30 := ⟨RX10, TX10, 33, rfl, by decide, inzX10, tw_1088, by decide, rfl⟩
theorem fX10_67 : zFR "RegretLocksModel" 67 9 32 := ⟨RX10, TX10, 33, rfl, by decide, inzX10, tw_1090, by decide, rfl⟩
theorem fX10_211 : zFI "RegretLocksModel" 211 9 16 := ⟨RX10, TX10, 33, rfl, by decide, inzX10, tw_1074, by decide, rfl⟩
theorem fX10_223 : zFI "RegretLocksModel" 223 9 18 := ⟨RX10, TX10, 33, rfl, by decide, inzX10, tw_1076, by decide, rfl⟩
theorem fX10_226 : zFI "RegretLocksModel" 226 9 19 := ⟨RX10, TX10, 33, rfl, by decide, inzX10, tw_1077, by decide, rfl⟩
theorem fX10_229 : zFI "RegretLocksModel" 229 9 17 := ⟨RX10, TX10, 33, rfl, by decide, inzX10, tw_1075, by decide, rfl⟩
theorem fX10_235 : zFI "RegretLocksModel" 235 9 21 := ⟨RX10, TX10, 33, rfl, by decide, inzX10, tw_1079, by decide, rfl⟩
theorem fX10_241 : zFI "RegretLocksModel" 241 9 20 := ⟨RX10, TX10, 33, rfl, by decide, inzX10, tw_1078, by decide, rfl⟩
theorem fX10_247 : zFI "RegretLocksModel" 247 9 25 := ⟨RX10, TX10, 33, rfl, by decide, inzX10, tw_1083, by decide, rfl⟩
theorem fX10_250 : zFI "RegretLocksModel" 250 9 24 := ⟨RX10, TX10, 33, rfl, by decide, inzX10, tw_1082, by decide, rfl⟩
theorem fX10_277 : zFI "RegretLocksModel" 277 9 26 := ⟨RX10, TX10, 33, rfl, by decide, inzX10, tw_1084, by decide, rfl⟩
theorem fX10_283 : zFI "RegretLocksModel" 283 9 23 := ⟨RX10, TX10, 33, rfl, by decide, inzX10, tw_1081, by decide, rfl⟩
theorem fX10_286 : zFI "RegretLocksModel" 286 9 22 := ⟨RX10, TX10, 33, rfl, by decide, inzX10, tw_1080, by decide, rfl⟩
theorem fX10_328 : zFI "RegretLocksModel" 328 9 31 := ⟨RX10, TX10, 33, rfl, by decide, inzX10, tw_1089, by decide, rfl⟩
theorem fX10_333 : zFI "RegretLocksModel" 333 9 3 := ⟨RX10, TX10, 33, rfl, by decide, inzX10, tw_1061, by decide, rfl⟩
theorem sX10_71 : zCSt "RegretLocksModel" 71 miX10_isIn 3 := ⟨⟨tw_1163, tcX10_isIn, tw_80, by decide, by decide, by decide⟩, tw_1164⟩
theorem sX10_86 : zCSt "RegretLocksModel" 86 miX10_isRoom 1 := ⟨⟨tw_1166, tcX10_isRoom, tw_80, by decide, by decide, by decide⟩, tw_1167⟩
theorem sX10_90 : zCSt "RegretLocksModel" 90 miX10_isMost 1 := ⟨⟨tw_1170, tcX10_isMost, tw_80, by decide, by decide, by decide⟩, tw_1171⟩
theorem sX10_106 : zCSt "RegretLocksModel" 106 miX10_within 2 := ⟨⟨tw_1316, tcX10_within, tw_80, by decide, by decide, by decide⟩, tw_1317⟩
theorem sX10_128 : zCSt "RegretLocksModel" 128 miX10_feels 2 := ⟨⟨tw_1205, tcX10_feels, tw_80, by decide, by decide, by decide⟩, tw_1206⟩
theorem sX10_131 : zCSt "RegretLocksModel" 131 miX10_isOf 2 := ⟨⟨tw_1212, tcX10_isOf, tw_80, by decide, by decide, by decide⟩, tw_1213⟩
theorem sX10_143 : zCSt "RegretLocksModel" 143 miX10_isLockSo 4 := ⟨⟨tw_1233, tcX10_isLockSo, tw_80, by decide, by decide, by decide⟩, tw_1234⟩
theorem sX10_191 : zCSt "RegretLocksModel" 191 miX10_latches 1 := ⟨⟨tw_1363, tcX10_latches, tw_80, by decide, by decide, by decide⟩, tw_1364⟩
theorem sX10_208 : zCSt "RegretLocksModel" 208 miX10_isAsked 2 := ⟨⟨tw_1403, tcX10_isAsked, tw_80, by decide, by decide, by decide⟩, tw_1404⟩
theorem sX10_280 : zCSt "RegretLocksModel" 280 miX10_isName 2 := ⟨⟨tw_1487, tcX10_isName, tw_80, by decide, by decide, by decide⟩, tw_1488⟩
theorem sX10_304 : zCSt "RegretLocksModel" 304 miX10_orNone 1 := ⟨⟨tw_1506, tcX10_orNone, tw_80, by decide, by decide, by decide⟩, tw_1507⟩
theorem sX10_307 : zCSt "RegretLocksModel" 307 miX10_joined 3 := ⟨⟨tw_1313, tcX10_joined, tw_80, by decide, by decide, by decide⟩, tw_1314⟩
theorem sX10_310 : zCSt "RegretLocksModel" 310 miX10_isSheet 1 := ⟨⟨tw_1513, tcX10_isSheet, tw_80, by decide, by decide, by decide⟩, tw_1514⟩
theorem sX10_325 : zCSt "RegretLocksModel" 325 miX10_isSlot 1 := ⟨⟨tw_1550, tcX10_isSlot, tw_80, by decide, by decide, by decide⟩, tw_1551⟩
theorem sX10_80 : zCVi "RegretLocksModel" 80 miX10_gives 3 9 := ⟨⟨tw_1180, tcX10_gives, tw_80, by decide, by decide, by decide⟩, tw_1182, tw_28, by decide, TX10, 33, rfl⟩
theorem sX10_95 : zCVi "RegretLocksModel" 95 miX10_comes 5 9 := ⟨⟨tw_1176, tcX10_comes, tw_80, by decide, by decide, by decide⟩, tw_1178, tw_27, by decide, TX10, 33, rfl⟩
theorem sX10_99 : zCVi "RegretLocksModel" 99 miX10_counts 1 9 := ⟨⟨tw_1301, tcX10_counts, tw_80, by decide, by decide, by decide⟩, tw_1303, tw_41, by decide, TX10, 33, rfl⟩
theorem sX10_103 : zCVi "RegretLocksModel" 103 miX10_worked 1 9 := ⟨⟨tw_1309, tcX10_worked, tw_80, by decide, by decide, by decide⟩, tw_1311, tw_43, by decide, TX10, 33, rfl⟩
theorem sX10_110 : zCVi "RegretLocksModel" 110 miX10_wears 3 9 := ⟨⟨tw_1297, tcX10_wears, tw_80, by decide, by decide, by decide⟩, tw_1299, tw_40, by decide, TX10, 33, rfl⟩
theorem sX10_114 : zCVi "RegretLocksModel" 114 miX10_of 2 9 := ⟨⟨tw_1193, tcX10_of, tw_80, by decide, by decide, by decide⟩, tw_1195, tw_30, by decide, TX10, 33, rfl⟩
theorem sX10_117 : zCVi "RegretLocksModel" 117 miX10_regrets 1 9 := ⟨⟨tw_1201, tcX10_regrets, tw_80, by decide, by decide, by decide⟩, tw_1203, tw_32, by decide, TX10, 33, rfl⟩
theorem sX10_120 : zCVi "RegretLocksModel" 120 miX10_isOne 1 9 := ⟨⟨tw_1188, tcX10_isOne, tw_80, by decide, by decide, by decide⟩, tw_1190, tw_29, by decide, TX10, 33, rfl⟩
theorem sX10_125 : zCVi "RegretLocksModel" 125 miX10_worth 1 9 := ⟨⟨tw_1197, tcX10_worth, tw_80, by decide, by decide, by decide⟩, tw_1199, tw_31, by decide, TX10, 33, rfl⟩
theorem sX10_136 : zCVi "RegretLocksModel" 136 miX10_changes 2 9 := ⟨⟨tw_1220, tcX10_changes, tw_80, by decide, by decide, by decide⟩, tw_1222, tw_33, by decide, TX10, 33, rfl⟩
theorem sX10_147 : zCVi "RegretLocksModel" 147 miX10_lockOf 2 9 := ⟨⟨tw_1245, tcX10_lockOf, tw_80, by decide, by decide, by decide⟩, tw_1247, tw_35, by decide, TX10, 33, rfl⟩
theorem sX10_150 : zCVi "RegretLocksModel" 150 miX10_isLock 1 9 := ⟨⟨tw_1241, tcX10_isLock, tw_80, by decide, by decide, by decide⟩, tw_1243, tw_34, by decide, TX10, 33, rfl⟩
theorem sX10_153 : zCVi "RegretLocksModel" 153 miX10_isOpen 2 9 := ⟨⟨tw_1249, tcX10_isOpen, tw_80, by decide, by decide, by decide⟩, tw_1251, tw_36, by decide, TX10, 33, rfl⟩
theorem sX10_161 : zCVi "RegretLocksModel" 161 miX10_drawn 0 9 := ⟨⟨tw_1276, tcX10_drawn, tw_80, by decide, by decide, by decide⟩, tw_1278, tw_37, by decide, TX10, 33, rfl⟩
theorem sX10_165 : zCVi "RegretLocksModel" 165 miX10_worn 3 9 := ⟨⟨tw_1293, tcX10_worn, tw_80, by decide, by decide, by decide⟩, tw_1295, tw_39, by decide, TX10, 33, rfl⟩
theorem sX10_168 : zCVi "RegretLocksModel" 168 miX10_goesThrough 2 9 := ⟨⟨tw_1289, tcX10_goesThrough, tw_80, by decide, by decide, by decide⟩, tw_1291, tw_38, by decide, TX10, 33, rfl⟩
theorem sX10_172 : zCVi "RegretLocksModel" 172 miX10_tries 1 9 := ⟨⟨tw_1331, tcX10_tries, tw_80, by decide, by decide, by decide⟩, tw_1333, tw_46, by decide, TX10, 33, rfl⟩
theorem sX10_176 : zCVi "RegretLocksModel" 176 miX10_more 3 9 := ⟨⟨tw_1335, tcX10_more, tw_80, by decide, by decide, by decide⟩, tw_1337, tw_47, by decide, TX10, 33, rfl⟩
theorem sX10_179 : zCVi "RegretLocksModel" 179 miX10_halves 1 9 := ⟨⟨tw_1339, tcX10_halves, tw_80, by decide, by decide, by decide⟩, tw_1341, tw_48, by decide, TX10, 33, rfl⟩
theorem sX10_182 : zCVi "RegretLocksModel" 182 miX10_goesOn 0 9 := ⟨⟨tw_1327, tcX10_goesOn, tw_80, by decide, by decide, by decide⟩, tw_1329, tw_45, by decide, TX10, 33, rfl⟩
theorem sX10_185 : zCVi "RegretLocksModel" 185 miX10_goesOnMany 1 9 := ⟨⟨tw_1323, tcX10_goesOnMany, tw_80, by decide, by decide, by decide⟩, tw_1325, tw_44, by decide, TX10, 33, rfl⟩
theorem sX10_188 : zCVi "RegretLocksModel" 188 miX10_regretsOfAll 0 9 := ⟨⟨tw_1347, tcX10_regretsOfAll, tw_80, by decide, by decide, by decide⟩, tw_1349, tw_49, by decide, TX10, 33, rfl⟩
theorem sX10_194 : zCVi "RegretLocksModel" 194 miX10_findRooms 1 9 := ⟨⟨tw_1359, tcX10_findRooms, tw_80, by decide, by decide, by decide⟩, tw_1361, tw_51, by decide, TX10, 33, rfl⟩
theorem sX10_197 : zCVi "RegretLocksModel" 197 miX10_reached 1 9 := ⟨⟨tw_1355, tcX10_reached, tw_80, by decide, by decide, by decide⟩, tw_1357, tw_50, by decide, TX10, 33, rfl⟩
theorem sX10_200 : zCVi "RegretLocksModel" 200 miX10_laysBy 0 9 := ⟨⟨tw_1383, tcX10_laysBy, tw_80, by decide, by decide, by decide⟩, tw_1385, tw_52, by decide, TX10, 33, rfl⟩
theorem sX10_203 : zCVi "RegretLocksModel" 203 miX10_laysBack 0 9 := ⟨⟨tw_1387, tcX10_laysBack, tw_80, by decide, by decide, by decide⟩, tw_1389, tw_53, by decide, TX10, 33, rfl⟩
theorem sX10_232 : zCVi "RegretLocksModel" 232 miX10_isLetter 1 9 := ⟨⟨tw_1439, tcX10_isLetter, tw_80, by decide, by decide, by decide⟩, tw_1441, tw_56, by decide, TX10, 33, rfl⟩
theorem sX10_238 : zCVi "RegretLocksModel" 238 miX10_isDigit 1 9 := ⟨⟨tw_1445, tcX10_isDigit, tw_80, by decide, by decide, by decide⟩, tw_1447, tw_57, by decide, TX10, 33, rfl⟩
theorem sX10_244 : zCVi "RegretLocksModel" 244 miX10_isWordAt 4 9 := ⟨⟨tw_1455, tcX10_isWordAt, tw_80, by decide, by decide, by decide⟩, tw_1457, tw_59, by decide, TX10, 33, rfl⟩
theorem sX10_253 : zCVi "RegretLocksModel" 253 miX10_both 1 9 := ⟨⟨tw_1463, tcX10_both, tw_80, by decide, by decide, by decide⟩, tw_1465, tw_61, by decide, TX10, 33, rfl⟩
theorem sX10_256 : zCVi "RegretLocksModel" 256 miX10_isSign 1 9 := ⟨⟨tw_1490, tcX10_isSign, tw_80, by decide, by decide, by decide⟩, tw_1492, tw_67, by decide, TX10, 33, rfl⟩
theorem sX10_259 : zCVi "RegretLocksModel" 259 miX10_nextToken 0 9 := ⟨⟨tw_1435, tcX10_nextToken, tw_80, by decide, by decide, by decide⟩, tw_1437, tw_55, by decide, TX10, 33, rfl⟩
theorem sX10_262 : zCVi "RegretLocksModel" 262 miX10_step 2 9 := ⟨⟨tw_1483, tcX10_step, tw_80, by decide, by decide, by decide⟩, tw_1485, tw_66, by decide, TX10, 33, rfl⟩
theorem sX10_265 : zCVi "RegretLocksModel" 265 miX10_test 1 9 := ⟨⟨tw_1467, tcX10_test, tw_80, by decide, by decide, by decide⟩, tw_1469, tw_62, by decide, TX10, 33, rfl⟩
theorem sX10_268 : zCVi "RegretLocksModel" 268 miX10_sum 1 9 := ⟨⟨tw_1471, tcX10_sum, tw_80, by decide, by decide, by decide⟩, tw_1473, tw_63, by decide, TX10, 33, rfl⟩
theorem sX10_271 : zCVi "RegretLocksModel" 271 miX10_term 1 9 := ⟨⟨tw_1475, tcX10_term, tw_80, by decide, by decide, by decide⟩, tw_1477, tw_64, by decide, TX10, 33, rfl⟩
theorem sX10_274 : zCVi "RegretLocksModel" 274 miX10_part0 1 9 := ⟨⟨tw_1479, tcX10_part0, tw_80, by decide, by decide, by decide⟩, tw_1481, tw_65, by decide, TX10, 33, rfl⟩
theorem sX10_289 : zCVi "RegretLocksModel" 289 miX10_either 1 9 := ⟨⟨tw_1459, tcX10_either, tw_80, by decide, by decide, by decide⟩, tw_1461, tw_60, by decide, TX10, 33, rfl⟩
theorem sX10_292 : zCVi "RegretLocksModel" 292 miX10_textAt 1 9 := ⟨⟨tw_1305, tcX10_textAt, tw_80, by decide, by decide, by decide⟩, tw_1307, tw_42, by decide, TX10, 33, rfl⟩
theorem sX10_295 : zCVi "RegretLocksModel" 295 miX10_key 0 9 := ⟨⟨tw_1451, tcX10_key, tw_80, by decide, by decide, by decide⟩, tw_1453, tw_58, by decide, TX10, 33, rfl⟩
theorem sX10_298 : zCVi "RegretLocksModel" 298 miX10_parse 0 9 := ⟨⟨tw_1431, tcX10_parse, tw_80, by decide, by decide, by decide⟩, tw_1433, tw_54, by decide, TX10, 33, rfl⟩
theorem sX10_301 : zCVi "RegretLocksModel" 301 miX10_isText 1 9 := ⟨⟨tw_1498, tcX10_isText, tw_80, by decide, by decide, by decide⟩, tw_1500, tw_68, by decide, TX10, 33, rfl⟩
theorem sX10_322 : zCVi "RegretLocksModel" 322 miX10_likeOnes 2 9 := ⟨⟨tw_1538, tcX10_likeOnes, tw_80, by decide, by decide, by decide⟩, tw_1540, tw_69, by decide, TX10, 33, rfl⟩
theorem sX10_337 : zCVi "RegretLocksModel" 337 miX10_setAside 2 9 := ⟨⟨tw_1574, tcX10_setAside, tw_80, by decide, by decide, by decide⟩, tw_1576, tw_70, by decide, TX10, 33, rfl⟩
theorem kX10_70 : Cond.constant "RegretLocksModel" 70 (-1000000005) ∈ zT := tw_1370
theorem kX10_75 : Cond.constant "RegretLocksModel" 75 (1103515245) ∈ zT := tw_1280
theorem kX10_93 : Cond.constant "RegretLocksModel" 93 (-1000000001) ∈ zT := tw_1174
theorem kX10_94 : Cond.constant "RegretLocksModel" 94 (-1000000003) ∈ zT := tw_1175
theorem kX10_135 : Cond.constant "RegretLocksModel" 135 (-1000000012) ∈ zT := tw_1215
theorem kX10_158 : Cond.constant "RegretLocksModel" 158 (-1000000002) ∈ zT := tw_1262
theorem kX10_76 : Cond.constantLong "RegretLocksModel" 76 (7) ∈ zT := tw_1169
theorem kX10_78 : Cond.constantLong "RegretLocksModel" 78 (99) ∈ zT := tw_1173
theorem kX10_84 : Cond.constantLong "RegretLocksModel" 84 (5) ∈ zT := tw_1162
theorem kX10_123 : Cond.constantLong "RegretLocksModel" 123 (8) ∈ zT := tw_1192
theorem kX10_139 : Cond.constantLong "RegretLocksModel" 139 (4) ∈ zT := tw_1228
theorem kX10_141 : Cond.constantLong "RegretLocksModel" 141 (2) ∈ zT := tw_1236
theorem kX10_156 : Cond.constantLong "RegretLocksModel" 156 (3) ∈ zT := tw_1257
theorem kX10_159 : Cond.constantLong "RegretLocksModel" 159 (100) ∈ zT := tw_1267
theorem kX10_206 : Cond.constantLong "RegretLocksModel" 206 (60) ∈ zT := tw_1406
theorem kX10_215 : Cond.constantLong "RegretLocksModel" 215 (97) ∈ zT := tw_1443
theorem kX10_217 : Cond.constantLong "RegretLocksModel" 217 (122) ∈ zT := tw_1444
theorem kX10_219 : Cond.constantLong "RegretLocksModel" 219 (48) ∈ zT := tw_1449
theorem kX10_221 : Cond.constantLong "RegretLocksModel" 221 (57) ∈ zT := tw_1450
theorem kX10_313 : Cond.constantLong "RegretLocksModel" 313 (-1) ∈ zT := tw_1516
theorem kX10_318 : Cond.constantLong "RegretLocksModel" 318 (-99999) ∈ zT := tw_1524
theorem kX10_320 : Cond.constantLong "RegretLocksModel" 320 (99999) ∈ zT := tw_1525
theorem kX10_331 : Cond.constantLong "RegretLocksModel" 331 (30) ∈ zT := tw_1573
theorem kX10_315 : Cond.constant "RegretLocksModel" 315 (-1000000014) ∈ zT := tw_1517
theorem kX10_316 : Cond.constant "RegretLocksModel" 316 (-1000000011) ∈ zT := tw_1522
theorem kX10_317 : Cond.constant "RegretLocksModel" 317 (-1000000013) ∈ zT := tw_1523
theorem pX10_7 : zFP "RegretLocksModel" 7 9 0 (.array .int) true false := ⟨RX10, TX10, 33, tyX10, rfl, by decide, inzX10, tw_1058, by decide, rfl, tyX10_ok, nmX10, rfl, rfl, fun _ => rfl⟩
theorem pX10_13 : zFP "RegretLocksModel" 13 9 1 (.array .int) true false := ⟨RX10, TX10, 33, tyX10, rfl, by decide, inzX10, tw_1059, by decide, rfl, tyX10_ok, nmX10, rfl, rfl, fun _ => rfl⟩
theorem pX10_16 : zFP "RegretLocksModel" 16 9 2 (.array .int) true false := ⟨RX10, TX10, 33, tyX10, rfl, by decide, inzX10, tw_1060, by decide, rfl, tyX10_ok, nmX10, rfl, rfl, fun _ => rfl⟩
theorem pX10_19 : zFP "RegretLocksModel" 19 9 4 (.array .int) true false := ⟨RX10, TX10, 33, tyX10, rfl, by decide, inzX10, tw_1062, by decide, rfl, tyX10_ok, nmX10, rfl, rfl, fun _ => rfl⟩
theorem pX10_22 : zFP "RegretLocksModel" 22 9 5 (.array .int) true false := ⟨RX10, TX10, 33, tyX10, rfl, by decide, inzX10, tw_1063, by decide, rfl, tyX10_ok, nmX10, rfl, rfl, fun _ => rfl⟩
theorem pX10_25 : zFP "RegretLocksModel" 25 9 6 (.array .int) true false := ⟨RX10, TX10, 33, tyX10, rfl, by decide, inzX10, tw_1064, by decide, rfl, tyX10_ok, nmX10, rfl, rfl, fun _ => rfl⟩
theorem pX10_28 : zFP "RegretLocksModel" 28 9 7 (.array .int) true false := ⟨RX10, TX10, 33, tyX10, rfl, by decide, inzX10, tw_1065, by decide, rfl, tyX10_ok, nmX10, rfl, rfl, fun _ => rfl⟩
theorem pX10_31 : zFP "RegretLocksModel" 31 9 8 (.array .int) true false := ⟨RX10, TX10, 33, tyX10, rfl, by decide, inzX10, tw_1066, by decide, rfl, tyX10_ok, nmX10, rfl, rfl, fun _ => rfl⟩
theorem pX10_34 : zFP "RegretLocksModel" 34 9 9 (.array .int) true false := ⟨RX10, TX10, 33, tyX10, rfl, by decide, inzX10, tw_1067, by decide, rfl, tyX10_ok, nmX10, rfl, rfl, fun _ => rfl⟩
theorem pX10_37 : zFP "RegretLocksModel" 37 9 10 (.array .int) true false := ⟨RX10, TX10, 33, tyX10, rfl, by decide, inzX10, tw_1068, by decide, rfl, tyX10_ok, nmX10, rfl, rfl, fun _ => rfl⟩
theorem pX10_40 : zFP "RegretLocksModel" 40 9 11 (.array .int) true false := ⟨RX10, TX10, 33, tyX10, rfl, by decide, inzX10, tw_1069, by decide, rfl, tyX10_ok, nmX10, rfl, rfl, fun _ => rfl⟩
theorem pX10_43 : zFP "RegretLocksModel" 43 9 12 (.array .int) true false := ⟨RX10, TX10, 33, tyX10, rfl, by decide, inzX10, tw_1070, by decide, rfl, tyX10_ok, nmX10, rfl, rfl, fun _ => rfl⟩
theorem pX10_46 : zFP "RegretLocksModel" 46 9 13 (.array .int) true false := ⟨RX10, TX10, 33, tyX10, rfl, by decide, inzX10, tw_1071, by decide, rfl, tyX10_ok, nmX10, rfl, rfl, fun _ => rfl⟩
theorem pX10_49 : zFP "RegretLocksModel" 49 9 14 (.array .int) true false := ⟨RX10, TX10, 33, tyX10, rfl, by decide, inzX10, tw_1072, by decide, rfl, tyX10_ok, nmX10, rfl, rfl, fun _ => rfl⟩
theorem pX10_52 : zFP "RegretLocksModel" 52 9 15 (.array .int) true false := ⟨RX10, TX10, 33, tyX10, rfl, by decide, inzX10, tw_1073, by decide, rfl, tyX10_ok, nmX10, rfl, rfl, fun _ => rfl⟩
theorem pX10_55 : zFP "RegretLocksModel" 55 9 27 (.array .int) true false := ⟨RX10, TX10, 33, tyX10, rfl, by decide, inzX10, tw_1085, by decide, rfl, tyX10_ok, nmX10, rfl, rfl, fun _ => rfl⟩
theorem pX10_58 : zFP "RegretLocksModel" 58 9 28 (.array .int) true false := ⟨RX10, TX10, 33, tyX10, rfl, by decide, inzX10, tw_1086, by decide, rfl, tyX10_ok, nmX10, rfl, rfl, fun _ => rfl⟩
theorem pX10_61 : zFP "RegretLocksModel" 61 9 29 (.array .int) true false := ⟨RX10, TX10, 33, tyX10, rfl, by decide, inzX10, tw_1087, by decide, rfl, tyX10_ok, nmX10, rfl, rfl, fun _ => rfl⟩
theorem pX10_64 : zFP "RegretLocksModel" 64 9 30 (.array .int) true false := ⟨RX10, TX10, 33, tyX10, rfl, by decide, inzX10, tw_1088, by decide, rfl, tyX10_ok, nmX10, rfl, rfl, fun _ => rfl⟩
theorem pX10_67 : zFP "RegretLocksModel" 67 9 32 (.array .int) true false := ⟨RX10, TX10, 33, tyX10, rfl, by decide, inzX10, tw_1090, by decide, rfl, tyX10_ok, nmX10, rfl, rfl, fun _ => rfl⟩
theorem pX10_211 : zFP "RegretLocksModel" 211 9 16 .int false true := ⟨RX10, TX10, 33, tyX10, rfl, by decide, inzX10, tw_1074, by decide, rfl, tyX10_ok, nmX10, rfl, rfl, fun h => by cases h⟩
theorem pX10_223 : zFP "RegretLocksModel" 223 9 18 .int false true := ⟨RX10, TX10, 33, tyX10, rfl, by decide, inzX10, tw_1076, by decide, rfl, tyX10_ok, nmX10, rfl, rfl, fun h => by cases h⟩
theorem pX10_226 : zFP "RegretLocksModel" 226 9 19 .int false true := ⟨RX10, TX10, 33, tyX10, rfl, by decide, inzX10, tw_1077, by decide, rfl, tyX10_ok, nmX10, rfl, rfl, fun h => by cases h⟩
theorem pX10_229 : zFP "RegretLocksModel" 229 9 17 .int false true := ⟨RX10, TX10, 33, tyX10, rfl, by decide, inzX10, tw_1075, by decide, rfl, tyX10_ok, nmX10, rfl, rfl, fun h => by cases h⟩
theorem pX10_235 : zFP "RegretLocksModel" 235 9 21 .int false true := ⟨RX10, TX10, 33, tyX10, rfl, by decide, inzX10, tw_1079, by decide, rfl, tyX10_ok, nmX10, rfl, rfl, fun h => by cases h⟩
theorem pX10_241 : zFP "RegretLocksModel" 241 9 20 .int false true := ⟨RX10, TX10, 33, tyX10, rfl, by decide, inzX10, tw_1078, by decide, rfl, tyX10_ok, nmX10, rfl, rfl, fun h => by cases h⟩
theorem pX10_247 : zFP "RegretLocksModel" 247 9 25 .int false true := ⟨RX10, TX10, 33, tyX10, rfl, by decide, inzX10, tw_1083, by decide, rfl, tyX10_ok, nmX10, rfl, rfl, fun h => by cases h⟩
theorem pX10_250 : zFP "RegretLocksModel" 250 9 24 .int false true := ⟨RX10, TX10, 33, tyX10, rfl, by decide, inzX10, tw_1082, by decide, rfl, tyX10_ok, nmX10, rfl, rfl, fun h => by cases h⟩
theorem pX10_277 : zFP "RegretLocksModel" 277 9 26 .int false true := ⟨RX10, TX10, 33, tyX10, rfl, by decide, inzX10, tw_1084, by decide, rfl, tyX10_ok, nmX10, rfl, rfl, fun h => by cases h⟩
theorem pX10_283 : zFP "RegretLocksModel" 283 9 23 .int false true := ⟨RX10, TX10, 33, tyX10, rfl, by decide, inzX10, tw_1081, by decide, rfl, tyX10_ok, nmX10, rfl, rfl, fun h => by cases h⟩
theorem pX10_286 : zFP "RegretLocksModel" 286 9 22 .int false true := ⟨RX10, TX10, 33, tyX10, rfl, by decide, inzX10, tw_1080, by decide, rfl, tyX10_ok, nmX10, rfl, rfl, fun h => by cases h⟩
theorem pX10_328 : zFP "RegretLocksModel" 328 9 31 .int false true := ⟨RX10, TX10, 33, tyX10, rfl, by decide, inzX10, tw_1089, by decide, rfl, tyX10_ok, nmX10, rfl, rfl, fun h => by cases h⟩
theorem pX10_333 : zFP "RegretLocksModel" 333 9 3 .boolean false true := ⟨RX10, TX10, 33, tyX10, rfl, by decide, inzX10, tw_1061, by decide, rfl, tyX10_ok, nmX10, rfl, rfl, fun h => by cases h⟩
theorem fX2_9 : zFR "RegretLocks$Parser" 9 1 0 := ⟨RX2, TX2, 14, rfl, by decide, inzX2, tw_259, by decide, rfl⟩
theorem fX2_15 : zFR "RegretLocks$Parser" 15 1 8 := ⟨RX2, TX2, 14, rfl, by decide, inzX2, tw_267, by decide, rfl⟩
theorem fX2_19 : zFR "RegretLocks$Parser" 19 1 10 := ⟨RX2, TX2, 14, rfl, by decide, inzX2, tw_269, by decide, rfl⟩
theorem fX2_33 : zFI "RegretLocks$Parser" 33 1 6 := ⟨RX2, TX2, 14, rfl, by decide, inzX2, tw_265, by decide, rfl⟩
theorem fX2_37 : zFI "RegretLocks$Parser" 37 1 2 := ⟨RX2, TX2, 14, rfl, by decide, inzX2, tw_261, by decide, rfl⟩
theorem fX2_40 : zFI "RegretLocks$Parser" 40 1 4 := ⟨RX2, TX2, 14, rfl, by decide, inzX2, tw_263, by decide, rfl⟩
theorem fX2_43 : zFI "RegretLocks$Parser" 43 1 5 := ⟨RX2, TX2, 14, rfl, by decide, inzX2, tw_264, by decide, rfl⟩
theorem fX2_54 : zFI "RegretLocks$Parser" 54 1 12 := ⟨RX2, TX2, 14, rfl, by decide, inzX2, tw_271, by decide, rfl⟩
theorem fX2_57 : zFI "RegretLocks$Parser" 57 1 1 := ⟨RX2, TX2, 14, rfl, by decide, inzX2, tw_260, by decide, rfl⟩
theorem fX2_66 : zFI "RegretLocks$Parser" 66 1 7 := ⟨RX2, TX2, 14, rfl, by decide, inzX2, tw_266, by decide, rfl⟩
theorem fX2_69 : zFI "RegretLocks$Parser" 69 1 9 := ⟨RX2, TX2, 14, rfl, by decide, inzX2, tw_268, by decide, rfl⟩
theorem fX2_87 : zFI "RegretLocks$Parser" 87 1 3 := ⟨RX2, TX2, 14, rfl, by decide, inzX2, tw_262, by decide, rfl⟩
theorem fX2_90 : zFI "RegretLocks$Parser" 90 1 11 := ⟨RX2, TX2, 14, rfl, by decide, inzX2, tw_270, by decide, rfl⟩
theorem fX2_93 : zFI "RegretLocks$Parser" 93 1 13 := ⟨RX2, TX2, 14, rfl, by decide, inzX2, tw_272, by decide, rfl⟩
theorem sX2_78 : zCIn "RegretLocks$Parser" 78 miX6_init 4 := ⟨⟨tw_937, tcX6_init, tw_83, by decide, by decide, by decide⟩, rfl, tw_938, rfl⟩
theorem sX2_72 : zCSt "RegretLocks$Parser" 72 miJ7_copyOf_59c91 2 := ⟨⟨tw_923, tcJ7_copyOf_59c91, tw_84, by decide, by decide, by decide⟩, tw_924⟩
theorem sX2_81 : zCSt "RegretLocks$Parser" 81 miJ9_min_7cf53 2 := ⟨⟨tw_748, tcJ9_min_7cf53, tw_82, by decide, by decide, by decide⟩, tw_509⟩
theorem sX2_149 : zCSt "RegretLocks$Parser" 149 miX2_levelOf 1 := ⟨⟨tw_914, tcX2_levelOf, tw_77, by decide, by decide, by decide⟩, tw_915⟩
theorem sX2_22 : zCVi "RegretLocks$Parser" 22 miX2_begin 2 1 := ⟨⟨tw_744, tcX2_begin, tw_77, by decide, by decide, by decide⟩, tw_746, tw_12, by decide, TX2, 14, rfl⟩
theorem sX2_26 : zCVi "RegretLocks$Parser" 26 miX2_next 0 1 := ⟨⟨tw_749, tcX2_next, tw_77, by decide, by decide, by decide⟩, tw_751, tw_13, by decide, TX2, 14, rfl⟩
theorem sX2_29 : zCVi "RegretLocks$Parser" 29 miX2_keyAtHand 0 1 := ⟨⟨tw_757, tcX2_keyAtHand, tw_77, by decide, by decide, by decide⟩, tw_759, tw_15, by decide, TX2, 14, rfl⟩
theorem sX2_47 : zCVi "RegretLocks$Parser" 47 miX2_takesPiece 0 1 := ⟨⟨tw_816, tcX2_takesPiece, tw_77, by decide, by decide, by decide⟩, tw_818, tw_17, by decide, TX2, 14, rfl⟩
theorem sX2_51 : zCVi "RegretLocks$Parser" 51 miX2_takesSign 0 1 := ⟨⟨tw_902, tcX2_takesSign, tw_77, by decide, by decide, by decide⟩, tw_904, tw_24, by decide, TX2, 14, rfl⟩
theorem sX2_60 : zCVi "RegretLocks$Parser" 60 miX2_closeDownTo 1 1 := ⟨⟨tw_910, tcX2_closeDownTo, tw_77, by decide, by decide, by decide⟩, tw_912, tw_26, by decide, TX2, 14, rfl⟩
theorem sX2_96 : zCVi "RegretLocks$Parser" 96 miX2_sortAt 1 1 := ⟨⟨tw_753, tcX2_sortAt, tw_77, by decide, by decide, by decide⟩, tw_755, tw_14, by decide, TX2, 14, rfl⟩
theorem sX2_102 : zCVi "RegretLocks$Parser" 102 miX2_isAtHand 1 1 := ⟨⟨tw_762, tcX2_isAtHand, tw_77, by decide, by decide, by decide⟩, tw_764, tw_16, by decide, TX2, 14, rfl⟩
theorem sX2_118 : zCVi "RegretLocks$Parser" 118 miX2_takesNumber 0 1 := ⟨⟨tw_820, tcX2_takesNumber, tw_77, by decide, by decide, by decide⟩, tw_822, tw_18, by decide, TX2, 14, rfl⟩
theorem sX2_121 : zCVi "RegretLocks$Parser" 121 miX2_takesName 0 1 := ⟨⟨tw_832, tcX2_takesName, tw_77, by decide, by decide, by decide⟩, tw_834, tw_21, by decide, TX2, 14, rfl⟩
theorem sX2_124 : zCVi "RegretLocks$Parser" 124 miX2_opens 1 1 := ⟨⟨tw_894, tcX2_opens, tw_77, by decide, by decide, by decide⟩, tw_896, tw_22, by decide, TX2, 14, rfl⟩
theorem sX2_128 : zCVi "RegretLocks$Parser" 128 miX2_write 1 1 := ⟨⟨tw_824, tcX2_write, tw_77, by decide, by decide, by decide⟩, tw_826, tw_19, by decide, TX2, 14, rfl⟩
theorem sX2_131 : zCVi "RegretLocks$Parser" 131 miX2_closeNots 0 1 := ⟨⟨tw_828, tcX2_closeNots, tw_77, by decide, by decide, by decide⟩, tw_830, tw_20, by decide, TX2, 14, rfl⟩
theorem sX2_143 : zCVi "RegretLocks$Parser" 143 miX2_putOff 1 1 := ⟨⟨tw_898, tcX2_putOff, tw_77, by decide, by decide, by decide⟩, tw_900, tw_23, by decide, TX2, 14, rfl⟩
theorem sX2_146 : zCVi "RegretLocks$Parser" 146 miX2_closesBracket 0 1 := ⟨⟨tw_906, tcX2_closesBracket, tw_77, by decide, by decide, by decide⟩, tw_908, tw_25, by decide, TX2, 14, rfl⟩
theorem nX2_64 : zNW "RegretLocks$Parser" 64 5 5 := ⟨RX6, TX6, tyX6, rfl, inzX6, by decide, tyX6_ok, tw_921, tw_922, tw_83, fun j hj => match j, hj with | 0, _ => rfl | 1, _ => rfl | 2, _ => rfl | 3, _ => rfl | 4, _ => rfl | j + 5, h => absurd h (by omega)⟩
theorem pX2_9 : zFP "RegretLocks$Parser" 9 1 0 (.array .byte) false false := ⟨RX2, TX2, 14, tyX2, rfl, by decide, inzX2, tw_259, by decide, rfl, tyX2_ok, nmX2, rfl, rfl, fun h => by cases h⟩
theorem pX2_15 : zFP "RegretLocks$Parser" 15 1 8 (.array .int) true false := ⟨RX2, TX2, 14, tyX2, rfl, by decide, inzX2, tw_267, by decide, rfl, tyX2_ok, nmX2, rfl, rfl, fun _ => rfl⟩
theorem pX2_19 : zFP "RegretLocks$Parser" 19 1 10 (.array .int) true false := ⟨RX2, TX2, 14, tyX2, rfl, by decide, inzX2, tw_269, by decide, rfl, tyX2_ok, nmX2, rfl, rfl, fun _ => rfl⟩
theorem pX2_33 : zFP "RegretLocks$Parser" 33 1 6 .int false true := ⟨RX2, TX2, 14, tyX2, rfl, by decide, inzX2, tw_265, by decide, rfl, tyX2_ok, nmX2, rfl, rfl, fun h => by cases h⟩
theorem pX2_37 : zFP "RegretLocks$Parser" 37 1 2 .int false true := ⟨RX2, TX2, 14, tyX2, rfl, by decide, inzX2, tw_261, by decide, rfl, tyX2_ok, nmX2, rfl, rfl, fun h => by cases h⟩
theorem pX2_40 : zFP "RegretLocks$Parser" 40 1 4 .int false true := ⟨RX2, TX2, 14, tyX2, rfl, by decide, inzX2, tw_263, by decide, rfl, tyX2_ok, nmX2, rfl, rfl, fun h => by cases h⟩
theorem pX2_43 : zFP "RegretLocks$Parser" 43 1 5 .boolean false true := ⟨RX2, TX2, 14, tyX2, rfl, by decide, inzX2, tw_264, by decide, rfl, tyX2_ok, nmX2, rfl, rfl, fun h => by cases h⟩
theorem pX2_54 : zFP "RegretLocks$Parser" 54 1 12 .int false true := ⟨RX2, TX2, 14, tyX2, rfl, by decide, inzX2, tw_271, by decide, rfl, tyX2_ok, nmX2, rfl, rfl, fun h => by cases h⟩
theorem pX2_57 : zFP "RegretLocks$Parser" 57 1 1 .int false true := ⟨RX2, TX2, 14, tyX2, rfl, by decide, inzX2, tw_260, by decide, rfl, tyX2_ok, nmX2, rfl, rfl, fun h => by cases h⟩
theorem pX2_66 : zFP "RegretLocks$Parser" 66 1 7 .int false true := ⟨RX2, TX2, 14, tyX2, rfl, by decide, inzX2, tw_266, by decide, rfl, tyX2_ok, nmX2, rfl, rfl, fun h => by cases h⟩
theorem pX2_69 : zFP "RegretLocks$Parser" 69 1 9 .int false true := ⟨RX2, TX2, 14, tyX2, rfl, by decide, inzX2, tw_268, by decide, rfl, tyX2_ok, nmX2, rfl, rfl, fun h => by cases h⟩
theorem pX2_87 : zFP "RegretLocks$Parser" 87 1 3 .int false true := ⟨RX2, TX2, 14, tyX2, rfl, by decide, inzX2, tw_262, by decide, rfl, tyX2_ok, nmX2, rfl, rfl, fun h => by cases h⟩
theorem pX2_90 : zFP "RegretLocks$Parser" 90 1 11 .int false true := ⟨RX2, TX2, 14, tyX2, rfl, by decide, inzX2, tw_270, by decide, rfl, tyX2_ok, nmX2, rfl, rfl, fun h => by cases h⟩
theorem pX2_93 : zFP "RegretLocks$Parser" 93 1 13 .int false true := ⟨RX2, TX2, 14, tyX2, rfl, by decide, inzX2, tw_272, by decide, rfl, tyX2_ok, nmX2, rfl, rfl, fun h => by cases h⟩
theorem fX3_9 : zFR "RegretLocks$Person" 9 2 2 := ⟨RX3, TX3, 3, rfl, by decide, inzX3, tw_124, by decide, rfl⟩
theorem fX3_15 : zFI "RegretLocks$Person" 15 2 0 := ⟨RX3, TX3, 3, rfl, by decide, inzX3, tw_116, by decide, rfl⟩
theorem fX3_19 : zFI "RegretLocks$Person" 19 2 1 := ⟨RX3, TX3, 3, rfl, by decide, inzX3, tw_120, by decide, rfl⟩
theorem sX3_26 : zCSt "RegretLocks$Person" 26 miX0_feels 2 := ⟨⟨tw_421, tcX0_feels, tw_81, by decide, by decide, by decide⟩, tw_422⟩
theorem sX3_36 : zCSt "RegretLocks$Person" 36 miX0_worth 2 := ⟨⟨tw_432, tcX0_worth, tw_81, by decide, by decide, by decide⟩, tw_433⟩
theorem sX3_39 : zCSt "RegretLocks$Person" 39 miJ9_min_7cf53 2 := ⟨⟨tw_581, tcJ9_min_7cf53, tw_82, by decide, by decide, by decide⟩, tw_509⟩
theorem sX3_22 : zCVi "RegretLocks$Person" 22 miX3_become 5 2 := ⟨⟨tw_670, tcX3_become, tw_74, by decide, by decide, by decide⟩, tw_406, tw_407, by decide, TX3, 3, rfl⟩
theorem sX3_32 : zCVi "RegretLocks$Person" 32 miX3_allRegrets 0 2 := ⟨⟨tw_428, tcX3_allRegrets, tw_74, by decide, by decide, by decide⟩, tw_429, tw_430, by decide, TX3, 3, rfl⟩
theorem pX3_9 : zFP "RegretLocks$Person" 9 2 2 (.array .int) true false := ⟨RX3, TX3, 3, tyX3, rfl, by decide, inzX3, tw_124, by decide, rfl, tyX3_ok, nmX3, rfl, rfl, fun _ => rfl⟩
theorem pX3_15 : zFP "RegretLocks$Person" 15 2 0 .int false true := ⟨RX3, TX3, 3, tyX3, rfl, by decide, inzX3, tw_116, by decide, rfl, tyX3_ok, nmX3, rfl, rfl, fun h => by cases h⟩
theorem pX3_19 : zFP "RegretLocks$Person" 19 2 1 .int false true := ⟨RX3, TX3, 3, tyX3, rfl, by decide, inzX3, tw_120, by decide, rfl, tyX3_ok, nmX3, rfl, rfl, fun h => by cases h⟩
theorem fX4_11 : zFI "RegretLocks$Sheet" 11 3 0 := ⟨RX4, TX4, 3, rfl, by decide, inzX4, tw_312, by decide, rfl⟩
theorem fX4_15 : zFR "RegretLocks$Sheet" 15 3 2 := ⟨RX4, TX4, 3, rfl, by decide, inzX4, tw_316, by decide, rfl⟩
theorem fX4_19 : zFI "RegretLocks$Sheet" 19 3 1 := ⟨RX4, TX4, 3, rfl, by decide, inzX4, tw_314, by decide, rfl⟩
theorem sX4_22 : zCSt "RegretLocks$Sheet" 22 miJ7_fill_53178 2 := ⟨⟨tw_976, tcJ7_fill_53178, tw_84, by decide, by decide, by decide⟩, tw_621⟩
theorem kX4_34 : Cond.constant "RegretLocks$Sheet" 34 (-1000000005) ∈ zT := tw_713
theorem pX4_11 : zFP "RegretLocks$Sheet" 11 3 0 .int false true := ⟨RX4, TX4, 3, tyX4, rfl, by decide, inzX4, tw_312, by decide, rfl, tyX4_ok, nmX4, rfl, rfl, fun h => by cases h⟩
theorem pX4_15 : zFP "RegretLocks$Sheet" 15 3 2 (.array .int) true false := ⟨RX4, TX4, 3, tyX4, rfl, by decide, inzX4, tw_316, by decide, rfl, tyX4_ok, nmX4, rfl, rfl, fun _ => rfl⟩
theorem pX4_19 : zFP "RegretLocks$Sheet" 19 3 1 .int false true := ⟨RX4, TX4, 3, tyX4, rfl, by decide, inzX4, tw_314, by decide, rfl, tyX4_ok, nmX4, rfl, rfl, fun h => by cases h⟩
theorem nX5_13 : zNW "RegretLocks$Slot" 13 2 3 := ⟨RX3, TX3, tyX3, rfl, inzX3, by decide, tyX3_ok, tw_330, tw_111, tw_74, fun j hj => match j, hj with | 0, _ => rfl | 1, _ => rfl | 2, _ => rfl | j + 3, h => absurd h (by omega)⟩
theorem nX5_20 : zNW "RegretLocks$Slot" 20 3 3 := ⟨RX4, TX4, tyX4, rfl, inzX4, by decide, tyX4_ok, tw_332, tw_307, tw_78, fun j hj => match j, hj with | 0, _ => rfl | 1, _ => rfl | 2, _ => rfl | j + 3, h => absurd h (by omega)⟩
theorem pX5_9 : zFP "RegretLocks$Slot" 9 4 0 .int false true := ⟨RX5, TX5, 4, tyX5, rfl, by decide, inzX5, tw_334, by decide, rfl, tyX5_ok, nmX5, rfl, rfl, fun h => by cases h⟩
theorem pX5_16 : zFP "RegretLocks$Slot" 16 4 1 (.object "RegretLocks$Person") true false := ⟨RX5, TX5, 4, tyX5, rfl, by decide, inzX5, tw_336, by decide, rfl, tyX5_ok, nmX5, rfl, rfl, fun _ => rfl⟩
theorem pX5_23 : zFP "RegretLocks$Slot" 23 4 2 (.object "RegretLocks$Sheet") true false := ⟨RX5, TX5, 4, tyX5, rfl, by decide, inzX5, tw_338, by decide, rfl, tyX5_ok, nmX5, rfl, rfl, fun _ => rfl⟩
theorem fX6_19 : zFR "RegretLocks$Text" 19 5 3 := ⟨RX6, TX6, 5, rfl, by decide, inzX6, tw_947, by decide, rfl⟩
theorem fX6_23 : zFR "RegretLocks$Text" 23 5 4 := ⟨RX6, TX6, 5, rfl, by decide, inzX6, tw_948, by decide, rfl⟩
theorem sX6_26 : zCSt "RegretLocks$Text" 26 miX6_join 3 := ⟨⟨tw_546, tcX6_join, tw_83, by decide, by decide, by decide⟩, tw_547⟩
theorem pX6_7 : zFP "RegretLocks$Text" 7 5 0 .int true true := ⟨RX6, TX6, 5, tyX6, rfl, by decide, inzX6, tw_941, by decide, rfl, tyX6_ok, nmX6, rfl, rfl, fun _ => rfl⟩
theorem pX6_13 : zFP "RegretLocks$Text" 13 5 1 .int true true := ⟨RX6, TX6, 5, tyX6, rfl, by decide, inzX6, tw_943, by decide, rfl, tyX6_ok, nmX6, rfl, rfl, fun _ => rfl⟩
theorem pX6_16 : zFP "RegretLocks$Text" 16 5 2 .int true true := ⟨RX6, TX6, 5, tyX6, rfl, by decide, inzX6, tw_945, by decide, rfl, tyX6_ok, nmX6, rfl, rfl, fun _ => rfl⟩
theorem pX6_19 : zFP "RegretLocks$Text" 19 5 3 (.array .int) true false := ⟨RX6, TX6, 5, tyX6, rfl, by decide, inzX6, tw_947, by decide, rfl, tyX6_ok, nmX6, rfl, rfl, fun _ => rfl⟩
theorem pX6_23 : zFP "RegretLocks$Text" 23 5 4 (.array .int) true false := ⟨RX6, TX6, 5, tyX6, rfl, by decide, inzX6, tw_948, by decide, rfl, tyX6_ok, nmX6, rfl, rfl, fun _ => rfl⟩
theorem aX7_9 : Cond.classLink "RegretLocks$Town" 9 "RegretLocks$Person" ∈ zT := tw_105
theorem aX7_17 : Cond.classLink "RegretLocks$Town" 17 "RegretLocks$Lock" ∈ zT := tw_107
theorem aX7_23 : Cond.classLink "RegretLocks$Town" 23 "RegretLocks$Text" ∈ zT := tw_109
theorem fX7_11 : zFR "RegretLocks$Town" 11 6 0 := ⟨RX7, TX7, 14, rfl, by decide, inzX7, tw_172, by decide, rfl⟩
theorem fX7_19 : zFR "RegretLocks$Town" 19 6 2 := ⟨RX7, TX7, 14, rfl, by decide, inzX7, tw_176, by decide, rfl⟩
theorem fX7_25 : zFR "RegretLocks$Town" 25 6 4 := ⟨RX7, TX7, 14, rfl, by decide, inzX7, tw_182, by decide, rfl⟩
theorem fX7_29 : zFR "RegretLocks$Town" 29 6 6 := ⟨RX7, TX7, 14, rfl, by decide, inzX7, tw_186, by decide, rfl⟩
theorem fX7_32 : zFI "RegretLocks$Town" 32 6 7 := ⟨RX7, TX7, 14, rfl, by decide, inzX7, tw_188, by decide, rfl⟩
theorem fX7_36 : zFI "RegretLocks$Town" 36 6 8 := ⟨RX7, TX7, 14, rfl, by decide, inzX7, tw_190, by decide, rfl⟩
theorem fX7_39 : zFI "RegretLocks$Town" 39 6 13 := ⟨RX7, TX7, 14, rfl, by decide, inzX7, tw_200, by decide, rfl⟩
theorem fX7_44 : zFI "RegretLocks$Town" 44 6 1 := ⟨RX7, TX7, 14, rfl, by decide, inzX7, tw_174, by decide, rfl⟩
theorem fX7_51 : zFI "RegretLocks$Town" 51 6 3 := ⟨RX7, TX7, 14, rfl, by decide, inzX7, tw_179, by decide, rfl⟩
theorem fX7_57 : zFI "RegretLocks$Town" 57 6 5 := ⟨RX7, TX7, 14, rfl, by decide, inzX7, tw_184, by decide, rfl⟩
theorem fX7_60 : zFI "RegretLocks$Town" 60 6 9 := ⟨RX7, TX7, 14, rfl, by decide, inzX7, tw_192, by decide, rfl⟩
theorem fX7_63 : zFI "RegretLocks$Town" 63 6 10 := ⟨RX7, TX7, 14, rfl, by decide, inzX7, tw_194, by decide, rfl⟩
theorem fX7_66 : zFI "RegretLocks$Town" 66 6 11 := ⟨RX7, TX7, 14, rfl, by decide, inzX7, tw_196, by decide, rfl⟩
theorem fX7_69 : zFI "RegretLocks$Town" 69 6 12 := ⟨RX7, TX7, 14, rfl, by decide, inzX7, tw_198, by decide, rfl⟩
theorem fX7_83 : zFI "RegretLocks$Town" 83 2 0 := ⟨RX3, TX3, 3, rfl, by decide, inzX3, tw_119, by decide, rfl⟩
theorem fX7_101 : zFI "RegretLocks$Town" 101 0 0 := ⟨RX1, TX1, 5, rfl, by decide, inzX1, tw_143, by decide, rfl⟩
theorem fX7_104 : zFI "RegretLocks$Town" 104 2 1 := ⟨RX3, TX3, 3, rfl, by decide, inzX3, tw_123, by decide, rfl⟩
theorem fX7_107 : zFI "RegretLocks$Town" 107 0 4 := ⟨RX1, TX1, 5, rfl, by decide, inzX1, tw_159, by decide, rfl⟩
theorem fX7_123 : zFR "RegretLocks$Town" 123 2 2 := ⟨RX3, TX3, 3, rfl, by decide, inzX3, tw_127, by decide, rfl⟩
theorem fX7_127 : zFI "RegretLocks$Town" 127 0 2 := ⟨RX1, TX1, 5, rfl, by decide, inzX1, tw_151, by decide, rfl⟩
theorem fX7_134 : zFI "RegretLocks$Town" 134 0 1 := ⟨RX1, TX1, 5, rfl, by decide, inzX1, tw_147, by decide, rfl⟩
theorem fX7_158 : zFI "RegretLocks$Town" 158 0 3 := ⟨RX1, TX1, 5, rfl, by decide, inzX1, tw_156, by decide, rfl⟩
theorem sX7_144 : zCSt "RegretLocks$Town" 144 miX0_wears 2 := ⟨⟨tw_555, tcX0_wears, tw_81, by decide, by decide, by decide⟩, tw_556⟩
theorem sX7_147 : zCSt "RegretLocks$Town" 147 miJ9_max_7cf53 2 := ⟨⟨tw_558, tcJ9_max_7cf53, tw_82, by decide, by decide, by decide⟩, tw_553⟩
theorem sX7_47 : zCVi "RegretLocks$Town" 47 miX3_becomeAs 1 2 := ⟨⟨tw_666, tcX3_becomeAs, tw_74, by decide, by decide, by decide⟩, tw_667, tw_668, by decide, TX3, 3, rfl⟩
theorem sX7_54 : zCVi "RegretLocks$Town" 54 miX1_becomeAs 1 0 := ⟨⟨tw_671, tcX1_becomeAs, tw_75, by decide, by decide, by decide⟩, tw_672, tw_673, by decide, TX1, 5, rfl⟩
theorem sX7_73 : zCVi "RegretLocks$Town" 73 miX7_draw 0 6 := ⟨⟨tw_515, tcX7_draw, tw_73, by decide, by decide, by decide⟩, tw_516, tw_517, by decide, TX7, 14, rfl⟩
theorem sX7_79 : zCVi "RegretLocks$Town" 79 miX3_become 5 2 := ⟨⟨tw_520, tcX3_become, tw_74, by decide, by decide, by decide⟩, tw_406, tw_407, by decide, TX3, 3, rfl⟩
theorem sX7_86 : zCVi "RegretLocks$Town" 86 miX7_tryFalsely 1 6 := ⟨⟨tw_567, tcX7_tryFalsely, tw_73, by decide, by decide, by decide⟩, tw_569, tw_2, by decide, TX7, 14, rfl⟩
theorem sX7_89 : zCVi "RegretLocks$Town" 89 miX7_goOn 1 6 := ⟨⟨tw_571, tcX7_goOn, tw_73, by decide, by decide, by decide⟩, tw_573, tw_3, by decide, TX7, 14, rfl⟩
theorem sX7_92 : zCVi "RegretLocks$Town" 92 miX7_sufferDeed 0 6 := ⟨⟨tw_582, tcX7_sufferDeed, tw_73, by decide, by decide, by decide⟩, tw_584, tw_4, by decide, TX7, 14, rfl⟩
theorem sX7_95 : zCVi "RegretLocks$Town" 95 miX7_sufferPardon 0 6 := ⟨⟨tw_586, tcX7_sufferPardon, tw_73, by decide, by decide, by decide⟩, tw_588, tw_5, by decide, TX7, 14, rfl⟩
theorem sX7_98 : zCVi "RegretLocks$Town" 98 miX7_mendAll 0 6 := ⟨⟨tw_594, tcX7_mendAll, tw_73, by decide, by decide, by decide⟩, tw_596, tw_6, by decide, TX7, 14, rfl⟩
theorem sX7_111 : zCVi "RegretLocks$Town" 111 miX1_opensFor 1 0 := ⟨⟨tw_575, tcX1_opensFor, tw_75, by decide, by decide, by decide⟩, tw_530, tw_531, by decide, TX1, 5, rfl⟩
theorem sX7_115 : zCVi "RegretLocks$Town" 115 miX7_goThrough 2 6 := ⟨⟨tw_576, tcX7_goThrough, tw_73, by decide, by decide, by decide⟩, tw_535, tw_536, by decide, TX7, 14, rfl⟩
theorem sX7_119 : zCVi "RegretLocks$Town" 119 miX3_regretMore 2 2 := ⟨⟨tw_577, tcX3_regretMore, tw_74, by decide, by decide, by decide⟩, tw_578, tw_579, by decide, TX3, 3, rfl⟩
theorem sX7_130 : zCVi "RegretLocks$Town" 130 miX7_leftOf 3 6 := ⟨⟨tw_538, tcX7_leftOf, tw_73, by decide, by decide, by decide⟩, tw_539, tw_540, by decide, TX7, 14, rfl⟩
theorem sX7_137 : zCVi "RegretLocks$Town" 137 miX6_value 3 5 := ⟨⟨tw_542, tcX6_value, tw_83, by decide, by decide, by decide⟩, tw_543, tw_544, by decide, TX6, 5, rfl⟩
theorem sX7_152 : zCVi "RegretLocks$Town" 152 miX3_regretHalf 0 2 := ⟨⟨tw_590, tcX3_regretHalf, tw_74, by decide, by decide, by decide⟩, tw_591, tw_592, by decide, TX3, 3, rfl⟩
theorem sX7_155 : zCVi "RegretLocks$Town" 155 miX3_allRegrets 0 2 := ⟨⟨tw_606, tcX3_allRegrets, tw_74, by decide, by decide, by decide⟩, tw_429, tw_430, by decide, TX3, 3, rfl⟩
theorem sX7_161 : zCVi "RegretLocks$Town" 161 miX7_thoseWhoFeel 2 6 := ⟨⟨tw_479, tcX7_thoseWhoFeel, tw_73, by decide, by decide, by decide⟩, tw_480, tw_481, by decide, TX7, 14, rfl⟩
theorem sX7_164 : zCVi "RegretLocks$Town" 164 miX3_feelsOf 1 2 := ⟨⟨tw_483, tcX3_feelsOf, tw_74, by decide, by decide, by decide⟩, tw_418, tw_419, by decide, TX3, 3, rfl⟩
theorem kX7_72 : Cond.constant "RegretLocks$Town" 72 (1103515245) ∈ zT := tw_519
theorem nX7_9 : zNW "RegretLocks$Town" 9 2 3 := ⟨RX3, TX3, tyX3, rfl, inzX3, by decide, tyX3_ok, tw_105, tw_111, tw_74, fun j hj => match j, hj with | 0, _ => rfl | 1, _ => rfl | 2, _ => rfl | j + 3, h => absurd h (by omega)⟩
theorem nX7_17 : zNW "RegretLocks$Town" 17 0 5 := ⟨RX1, TX1, tyX1, rfl, inzX1, by decide, tyX1_ok, tw_107, tw_136, tw_75, fun j hj => match j, hj with | 0, _ => rfl | 1, _ => rfl | 2, _ => rfl | 3, _ => rfl | 4, _ => rfl | j + 5, h => absurd h (by omega)⟩
theorem pX7_11 : zFP "RegretLocks$Town" 11 6 0 (.array (.object "RegretLocks$Person")) true false := ⟨RX7, TX7, 14, tyX7, rfl, by decide, inzX7, tw_172, by decide, rfl, tyX7_ok, nmX7, rfl, rfl, fun _ => rfl⟩
theorem pX7_19 : zFP "RegretLocks$Town" 19 6 2 (.array (.object "RegretLocks$Lock")) true false := ⟨RX7, TX7, 14, tyX7, rfl, by decide, inzX7, tw_176, by decide, rfl, tyX7_ok, nmX7, rfl, rfl, fun _ => rfl⟩
theorem pX7_25 : zFP "RegretLocks$Town" 25 6 4 (.array (.object "RegretLocks$Text")) true false := ⟨RX7, TX7, 14, tyX7, rfl, by decide, inzX7, tw_182, by decide, rfl, tyX7_ok, nmX7, rfl, rfl, fun _ => rfl⟩
theorem pX7_29 : zFP "RegretLocks$Town" 29 6 6 (.array (.object "RegretLocks$Text")) true false := ⟨RX7, TX7, 14, tyX7, rfl, by decide, inzX7, tw_186, by decide, rfl, tyX7_ok, nmX7, rfl, rfl, fun _ => rfl⟩
theorem pX7_32 : zFP "RegretLocks$Town" 32 6 7 .int false true := ⟨RX7, TX7, 14, tyX7, rfl, by decide, inzX7, tw_188, by decide, rfl, tyX7_ok, nmX7, rfl, rfl, fun h => by cases h⟩
theorem pX7_36 : zFP "RegretLocks$Town" 36 6 8 .int false true := ⟨RX7, TX7, 14, tyX7, rfl, by decide, inzX7, tw_190, by decide, rfl, tyX7_ok, nmX7, rfl, rfl, fun h => by cases h⟩
theorem pX7_39 : zFP "RegretLocks$Town" 39 6 13 .int false true := ⟨RX7, TX7, 14, tyX7, rfl, by decide, inzX7, tw_200, by decide, rfl, tyX7_ok, nmX7, rfl, rfl, fun h => by cases h⟩
theorem pX7_44 : zFP "RegretLocks$Town" 44 6 1 .int false true := ⟨RX7, TX7, 14, tyX7, rfl, by decide, inzX7, tw_174, by decide, rfl, tyX7_ok, nmX7, rfl, rfl, fun h => by cases h⟩
theorem pX7_51 : zFP "RegretLocks$Town" 51 6 3 .int false true := ⟨RX7, TX7, 14, tyX7, rfl, by decide, inzX7, tw_179, by decide, rfl, tyX7_ok, nmX7, rfl, rfl, fun h => by cases h⟩
theorem pX7_57 : zFP "RegretLocks$Town" 57 6 5 .int false true := ⟨RX7, TX7, 14, tyX7, rfl, by decide, inzX7, tw_184, by decide, rfl, tyX7_ok, nmX7, rfl, rfl, fun h => by cases h⟩
theorem pX7_60 : zFP "RegretLocks$Town" 60 6 9 .int false true := ⟨RX7, TX7, 14, tyX7, rfl, by decide, inzX7, tw_192, by decide, rfl, tyX7_ok, nmX7, rfl, rfl, fun h => by cases h⟩
theorem pX7_63 : zFP "RegretLocks$Town" 63 6 10 .int false true := ⟨RX7, TX7, 14, tyX7, rfl, by decide, inzX7, tw_194, by decide, rfl, tyX7_ok, nmX7, rfl, rfl, fun h => by cases h⟩
theorem pX7_66 : zFP "RegretLocks$Town" 66 6 11 .int false true := ⟨RX7, TX7, 14, tyX7, rfl, by decide, inzX7, tw_196, by decide, rfl, tyX7_ok, nmX7, rfl, rfl, fun h => by cases h⟩
theorem pX7_69 : zFP "RegretLocks$Town" 69 6 12 .int false true := ⟨RX7, TX7, 14, tyX7, rfl, by decide, inzX7, tw_198, by decide, rfl, tyX7_ok, nmX7, rfl, rfl, fun h => by cases h⟩
theorem pX7_104 : zFP "RegretLocks$Town" 104 2 1 .int false true := ⟨RX3, TX3, 3, tyX3, rfl, by decide, inzX3, tw_123, by decide, rfl, tyX3_ok, nmX3, rfl, rfl, fun h => by cases h⟩
theorem pX7_107 : zFP "RegretLocks$Town" 107 0 4 .boolean false true := ⟨RX1, TX1, 5, tyX1, rfl, by decide, inzX1, tw_159, by decide, rfl, tyX1_ok, nmX1, rfl, rfl, fun h => by cases h⟩
theorem fX8_9 : zFR "RegretLocks$Ways" 9 7 0 := ⟨RX8, TX8, 4, rfl, by decide, inzX8, tw_239, by decide, rfl⟩
theorem fX8_15 : zFR "RegretLocks$Ways" 15 7 1 := ⟨RX8, TX8, 4, rfl, by decide, inzX8, tw_241, by decide, rfl⟩
theorem fX8_20 : zFR "RegretLocks$Ways" 20 7 2 := ⟨RX8, TX8, 4, rfl, by decide, inzX8, tw_242, by decide, rfl⟩
theorem fX8_23 : zFR "RegretLocks$Ways" 23 7 3 := ⟨RX8, TX8, 4, rfl, by decide, inzX8, tw_243, by decide, rfl⟩
theorem fX8_37 : zFI "RegretLocks$Ways" 37 2 1 := ⟨RX3, TX3, 3, rfl, by decide, inzX3, tw_121, by decide, rfl⟩
theorem fX8_47 : zFR "RegretLocks$Ways" 47 2 2 := ⟨RX3, TX3, 3, rfl, by decide, inzX3, tw_126, by decide, rfl⟩
theorem fX8_50 : zFI "RegretLocks$Ways" 50 2 0 := ⟨RX3, TX3, 3, rfl, by decide, inzX3, tw_118, by decide, rfl⟩
theorem fX8_68 : zFI "RegretLocks$Ways" 68 6 3 := ⟨RX7, TX7, 14, rfl, by decide, inzX7, tw_180, by decide, rfl⟩
theorem fX8_71 : zFR "RegretLocks$Ways" 71 6 2 := ⟨RX7, TX7, 14, rfl, by decide, inzX7, tw_177, by decide, rfl⟩
theorem fX8_75 : zFI "RegretLocks$Ways" 75 0 4 := ⟨RX1, TX1, 5, rfl, by decide, inzX1, tw_158, by decide, rfl⟩
theorem fX8_81 : zFI "RegretLocks$Ways" 81 0 2 := ⟨RX1, TX1, 5, rfl, by decide, inzX1, tw_150, by decide, rfl⟩
theorem fX8_84 : zFI "RegretLocks$Ways" 84 0 3 := ⟨RX1, TX1, 5, rfl, by decide, inzX1, tw_154, by decide, rfl⟩
theorem fX8_87 : zFI "RegretLocks$Ways" 87 0 0 := ⟨RX1, TX1, 5, rfl, by decide, inzX1, tw_142, by decide, rfl⟩
theorem fX8_90 : zFI "RegretLocks$Ways" 90 0 1 := ⟨RX1, TX1, 5, rfl, by decide, inzX1, tw_146, by decide, rfl⟩
theorem tX8_65 : Cond.fieldLink "RegretLocks$Ways" 65 "RegretLocks$Ways" "STEPS" "[I" ∈ zT := tw_633
theorem sX8_27 : zCSt "RegretLocks$Ways" 27 miJ7_fill_53178 2 := ⟨⟨tw_620, tcJ7_fill_53178, tw_84, by decide, by decide, by decide⟩, tw_621⟩
theorem sX8_53 : zCSt "RegretLocks$Ways" 53 miX0_feels 2 := ⟨⟨tw_627, tcX0_feels, tw_81, by decide, by decide, by decide⟩, tw_422⟩
theorem sX8_33 : zCVi "RegretLocks$Ways" 33 miX8_wearAll 3 7 := ⟨⟨tw_623, tcX8_wearAll, tw_76, by decide, by decide, by decide⟩, tw_625, tw_7, by decide, TX8, 4, rfl⟩
theorem sX8_43 : zCVi "RegretLocks$Ways" 43 miX8_goOnFrom 2 7 := ⟨⟨tw_629, tcX8_goOnFrom, tw_76, by decide, by decide, by decide⟩, tw_631, tw_8, by decide, TX8, 4, rfl⟩
theorem sX8_59 : zCVi "RegretLocks$Ways" 59 miX7_leftOf 3 6 := ⟨⟨tw_628, tcX7_leftOf, tw_73, by decide, by decide, by decide⟩, tw_539, tw_540, by decide, TX7, 14, rfl⟩
theorem kX8_26 : Cond.constant "RegretLocks$Ways" 26 (-1000000005) ∈ zT := tw_619
theorem pX8_9 : zFP "RegretLocks$Ways" 9 7 0 (.array .int) true false := ⟨RX8, TX8, 4, tyX8, rfl, by decide, inzX8, tw_239, by decide, rfl, tyX8_ok, nmX8, rfl, rfl, fun _ => rfl⟩
theorem pX8_15 : zFP "RegretLocks$Ways" 15 7 1 (.array .int) true false := ⟨RX8, TX8, 4, tyX8, rfl, by decide, inzX8, tw_241, by decide, rfl, tyX8_ok, nmX8, rfl, rfl, fun _ => rfl⟩
theorem pX8_20 : zFP "RegretLocks$Ways" 20 7 2 (.array (.array .int)) true false := ⟨RX8, TX8, 4, tyX8, rfl, by decide, inzX8, tw_242, by decide, rfl, tyX8_ok, nmX8, rfl, rfl, fun _ => rfl⟩
theorem pX8_23 : zFP "RegretLocks$Ways" 23 7 3 (.array .int) true false := ⟨RX8, TX8, 4, tyX8, rfl, by decide, inzX8, tw_243, by decide, rfl, tyX8_ok, nmX8, rfl, rfl, fun _ => rfl⟩
theorem aX9_40 : Cond.classLink "RegretLocks" 40 "RegretLocks$Sheet" ∈ zT := tw_303
theorem aX9_46 : Cond.classLink "RegretLocks" 46 "RegretLocks$Slot" ∈ zT := tw_305
theorem fX9_10 : zFR "RegretLocks" 10 8 0 := ⟨RX9, TX9, 13, rfl, by decide, inzX9, tw_350, by decide, rfl⟩
theorem fX9_16 : zFR "RegretLocks" 16 8 1 := ⟨RX9, TX9, 13, rfl, by decide, inzX9, tw_351, by decide, rfl⟩
theorem fX9_19 : zFR "RegretLocks" 19 8 2 := ⟨RX9, TX9, 13, rfl, by decide, inzX9, tw_352, by decide, rfl⟩
theorem fX9_25 : zFR "RegretLocks" 25 8 4 := ⟨RX9, TX9, 13, rfl, by decide, inzX9, tw_354, by decide, rfl⟩
theorem fX9_32 : zFR "RegretLocks" 32 8 5 := ⟨RX9, TX9, 13, rfl, by decide, inzX9, tw_355, by decide, rfl⟩
theorem fX9_36 : zFR "RegretLocks" 36 8 6 := ⟨RX9, TX9, 13, rfl, by decide, inzX9, tw_356, by decide, rfl⟩
theorem fX9_42 : zFR "RegretLocks" 42 8 8 := ⟨RX9, TX9, 13, rfl, by decide, inzX9, tw_358, by decide, rfl⟩
theorem fX9_48 : zFR "RegretLocks" 48 8 9 := ⟨RX9, TX9, 13, rfl, by decide, inzX9, tw_359, by decide, rfl⟩
theorem fX9_52 : zFR "RegretLocks" 52 8 10 := ⟨RX9, TX9, 13, rfl, by decide, inzX9, tw_360, by decide, rfl⟩
theorem fX9_56 : zFR "RegretLocks" 56 8 12 := ⟨RX9, TX9, 13, rfl, by decide, inzX9, tw_362, by decide, rfl⟩
theorem fX9_72 : zFI "RegretLocks" 72 6 1 := ⟨RX7, TX7, 14, rfl, by decide, inzX7, tw_175, by decide, rfl⟩
theorem fX9_77 : zFR "RegretLocks" 77 6 0 := ⟨RX7, TX7, 14, rfl, by decide, inzX7, tw_173, by decide, rfl⟩
theorem fX9_90 : zFI "RegretLocks" 90 2 0 := ⟨RX3, TX3, 3, rfl, by decide, inzX3, tw_117, by decide, rfl⟩
theorem fX9_93 : zFI "RegretLocks" 93 2 1 := ⟨RX3, TX3, 3, rfl, by decide, inzX3, tw_122, by decide, rfl⟩
theorem fX9_96 : zFR "RegretLocks" 96 2 2 := ⟨RX3, TX3, 3, rfl, by decide, inzX3, tw_125, by decide, rfl⟩
theorem fX9_120 : zFI "RegretLocks" 120 6 3 := ⟨RX7, TX7, 14, rfl, by decide, inzX7, tw_181, by decide, rfl⟩
theorem fX9_123 : zFR "RegretLocks" 123 6 2 := ⟨RX7, TX7, 14, rfl, by decide, inzX7, tw_178, by decide, rfl⟩
theorem fX9_135 : zFI "RegretLocks" 135 0 0 := ⟨RX1, TX1, 5, rfl, by decide, inzX1, tw_144, by decide, rfl⟩
theorem fX9_138 : zFI "RegretLocks" 138 0 1 := ⟨RX1, TX1, 5, rfl, by decide, inzX1, tw_148, by decide, rfl⟩
theorem fX9_141 : zFI "RegretLocks" 141 0 2 := ⟨RX1, TX1, 5, rfl, by decide, inzX1, tw_152, by decide, rfl⟩
theorem fX9_144 : zFI "RegretLocks" 144 0 3 := ⟨RX1, TX1, 5, rfl, by decide, inzX1, tw_155, by decide, rfl⟩
theorem fX9_147 : zFI "RegretLocks" 147 0 4 := ⟨RX1, TX1, 5, rfl, by decide, inzX1, tw_160, by decide, rfl⟩
theorem fX9_159 : zFI "RegretLocks" 159 6 7 := ⟨RX7, TX7, 14, rfl, by decide, inzX7, tw_189, by decide, rfl⟩
theorem fX9_162 : zFI "RegretLocks" 162 6 8 := ⟨RX7, TX7, 14, rfl, by decide, inzX7, tw_191, by decide, rfl⟩
theorem fX9_174 : zFI "RegretLocks" 174 6 13 := ⟨RX7, TX7, 14, rfl, by decide, inzX7, tw_201, by decide, rfl⟩
theorem fX9_185 : zFI "RegretLocks" 185 6 9 := ⟨RX7, TX7, 14, rfl, by decide, inzX7, tw_193, by decide, rfl⟩
theorem fX9_188 : zFI "RegretLocks" 188 6 12 := ⟨RX7, TX7, 14, rfl, by decide, inzX7, tw_199, by decide, rfl⟩
theorem fX9_194 : zFI "RegretLocks" 194 6 10 := ⟨RX7, TX7, 14, rfl, by decide, inzX7, tw_195, by decide, rfl⟩
theorem fX9_197 : zFI "RegretLocks" 197 6 11 := ⟨RX7, TX7, 14, rfl, by decide, inzX7, tw_197, by decide, rfl⟩
theorem fX9_213 : zFR "RegretLocks" 213 7 0 := ⟨RX8, TX8, 4, rfl, by decide, inzX8, tw_240, by decide, rfl⟩
theorem fX9_242 : zFR "RegretLocks" 242 6 6 := ⟨RX7, TX7, 14, rfl, by decide, inzX7, tw_187, by decide, rfl⟩
theorem fX9_253 : zFI "RegretLocks" 253 8 7 := ⟨RX9, TX9, 13, rfl, by decide, inzX9, tw_357, by decide, rfl⟩
theorem fX9_264 : zFI "RegretLocks" 264 6 5 := ⟨RX7, TX7, 14, rfl, by decide, inzX7, tw_185, by decide, rfl⟩
theorem fX9_271 : zFR "RegretLocks" 271 6 4 := ⟨RX7, TX7, 14, rfl, by decide, inzX7, tw_183, by decide, rfl⟩
theorem fX9_274 : zFI "RegretLocks" 274 5 1 := ⟨RX6, TX6, 5, rfl, by decide, inzX6, tw_944, by decide, rfl⟩
theorem fX9_277 : zFI "RegretLocks" 277 5 2 := ⟨RX6, TX6, 5, rfl, by decide, inzX6, tw_946, by decide, rfl⟩
theorem fX9_280 : zFI "RegretLocks" 280 5 0 := ⟨RX6, TX6, 5, rfl, by decide, inzX6, tw_942, by decide, rfl⟩
theorem fX9_291 : zFI "RegretLocks" 291 3 0 := ⟨RX4, TX4, 3, rfl, by decide, inzX4, tw_313, by decide, rfl⟩
theorem fX9_292 : zFR "RegretLocks" 292 3 2 := ⟨RX4, TX4, 3, rfl, by decide, inzX4, tw_317, by decide, rfl⟩
theorem fX9_297 : zFI "RegretLocks" 297 3 1 := ⟨RX4, TX4, 3, rfl, by decide, inzX4, tw_315, by decide, rfl⟩
theorem fX9_318 : zFI "RegretLocks" 318 4 0 := ⟨RX5, TX5, 4, rfl, by decide, inzX5, tw_335, by decide, rfl⟩
theorem fX9_321 : zFR "RegretLocks" 321 4 1 := ⟨RX5, TX5, 4, rfl, by decide, inzX5, tw_337, by decide, rfl⟩
theorem fX9_328 : zFR "RegretLocks" 328 4 2 := ⟨RX5, TX5, 4, rfl, by decide, inzX5, tw_339, by decide, rfl⟩
theorem fX9_334 : zFI "RegretLocks" 334 4 3 := ⟨RX5, TX5, 4, rfl, by decide, inzX5, tw_340, by decide, rfl⟩
theorem fX9_335 : zFI "RegretLocks" 335 8 11 := ⟨RX9, TX9, 13, rfl, by decide, inzX9, tw_361, by decide, rfl⟩
theorem fX9_338 : zFI "RegretLocks" 338 8 3 := ⟨RX9, TX9, 13, rfl, by decide, inzX9, tw_353, by decide, rfl⟩
theorem sX9_9 : zCIn "RegretLocks" 9 miX7_init 0 := ⟨⟨tw_101, tcX7_init, tw_73, by decide, by decide, by decide⟩, rfl, tw_102, rfl⟩
theorem sX9_61 : zCSt "RegretLocks" 61 miX9_isKind 1 := ⟨⟨tw_394, tcX9_isKind, tw_72, by decide, by decide, by decide⟩, tw_395⟩
theorem sX9_65 : zCSt "RegretLocks" 65 miX9_isRoom 1 := ⟨⟨tw_397, tcX9_isRoom, tw_72, by decide, by decide, by decide⟩, tw_398⟩
theorem sX9_68 : zCSt "RegretLocks" 68 miX9_isRegret 1 := ⟨⟨tw_400, tcX9_isRegret, tw_72, by decide, by decide, by decide⟩, tw_401⟩
theorem sX9_107 : zCSt "RegretLocks" 107 miX0_isOf 2 := ⟨⟨tw_439, tcX0_isOf, tw_81, by decide, by decide, by decide⟩, tw_440⟩
theorem sX9_114 : zCSt "RegretLocks" 114 miX9_isSort 1 := ⟨⟨tw_457, tcX9_isSort, tw_72, by decide, by decide, by decide⟩, tw_458⟩
theorem sX9_117 : zCSt "RegretLocks" 117 miX9_isSet 1 := ⟨⟨tw_460, tcX9_isSet, tw_72, by decide, by decide, by decide⟩, tw_461⟩
theorem sX9_155 : zCSt "RegretLocks" 155 miX9_fitsLock 2 := ⟨⟨tw_488, tcX9_fitsLock, tw_72, by decide, by decide, by decide⟩, tw_489⟩
theorem sX9_165 : zCSt "RegretLocks" 165 miJ9_min_7cf53 2 := ⟨⟨tw_508, tcJ9_min_7cf53, tw_82, by decide, by decide, by decide⟩, tw_509⟩
theorem sX9_220 : zCSt "RegretLocks" 220 miX0_feels 2 := ⟨⟨tw_657, tcX0_feels, tw_81, by decide, by decide, by decide⟩, tw_422⟩
theorem sX9_230 : zCSt "RegretLocks" 230 miX9_isSheet 1 := ⟨⟨tw_696, tcX9_isSheet, tw_72, by decide, by decide, by decide⟩, tw_697⟩
theorem sX9_303 : zCSt "RegretLocks" 303 miX9_held 2 := ⟨⟨tw_993, tcX9_held, tw_72, by decide, by decide, by decide⟩, tw_550⟩
theorem sX9_315 : zCSt "RegretLocks" 315 miX9_isSlot 1 := ⟨⟨tw_1011, tcX9_isSlot, tw_72, by decide, by decide, by decide⟩, tw_1012⟩
theorem sX9_341 : zCSt "RegretLocks" 341 miJ9_max_7cf53 2 := ⟨⟨tw_552, tcJ9_max_7cf53, tw_82, by decide, by decide, by decide⟩, tw_553⟩
theorem sX9_344 : zCSt "RegretLocks" 344 miJ7_fill_53178 2 := ⟨⟨tw_708, tcJ7_fill_53178, tw_84, by decide, by decide, by decide⟩, tw_621⟩
theorem sX9_81 : zCVi "RegretLocks" 81 miX3_become 5 2 := ⟨⟨tw_405, tcX3_become, tw_74, by decide, by decide, by decide⟩, tw_406, tw_407, by decide, TX3, 3, rfl⟩
theorem sX9_87 : zCVi "RegretLocks" 87 miX9_isOne 1 8 := ⟨⟨tw_413, tcX9_isOne, tw_72, by decide, by decide, by decide⟩, tw_415, tw_0, by decide, TX9, 13, rfl⟩
theorem sX9_99 : zCVi "RegretLocks" 99 miX3_feelsOf 1 2 := ⟨⟨tw_417, tcX3_feelsOf, tw_74, by decide, by decide, by decide⟩, tw_418, tw_419, by decide, TX3, 3, rfl⟩
theorem sX9_103 : zCVi "RegretLocks" 103 miX3_worth 0 2 := ⟨⟨tw_424, tcX3_worth, tw_74, by decide, by decide, by decide⟩, tw_425, tw_426, by decide, TX3, 3, rfl⟩
theorem sX9_127 : zCVi "RegretLocks" 127 miX1_become 4 0 := ⟨⟨tw_463, tcX1_become, tw_75, by decide, by decide, by decide⟩, tw_464, tw_465, by decide, TX1, 5, rfl⟩
theorem sX9_132 : zCVi "RegretLocks" 132 miX9_isLock 1 8 := ⟨⟨tw_471, tcX9_isLock, tw_72, by decide, by decide, by decide⟩, tw_473, tw_1, by decide, TX9, 13, rfl⟩
theorem sX9_151 : zCVi "RegretLocks" 151 miX7_thoseWhoOpen 1 6 := ⟨⟨tw_475, tcX7_thoseWhoOpen, tw_73, by decide, by decide, by decide⟩, tw_476, tw_477, by decide, TX7, 14, rfl⟩
theorem sX9_171 : zCVi "RegretLocks" 171 miX7_drawPerson 0 6 := ⟨⟨tw_511, tcX7_drawPerson, tw_73, by decide, by decide, by decide⟩, tw_512, tw_513, by decide, TX7, 14, rfl⟩
theorem sX9_177 : zCVi "RegretLocks" 177 miX1_opensFor 1 0 := ⟨⟨tw_529, tcX1_opensFor, tw_75, by decide, by decide, by decide⟩, tw_530, tw_531, by decide, TX1, 5, rfl⟩
theorem sX9_181 : zCVi "RegretLocks" 181 miX7_goThrough 2 6 := ⟨⟨tw_534, tcX7_goThrough, tw_73, by decide, by decide, by decide⟩, tw_535, tw_536, by decide, TX7, 14, rfl⟩
theorem sX9_191 : zCVi "RegretLocks" 191 miX7_liveDay 0 6 := ⟨⟨tw_563, tcX7_liveDay, tw_73, by decide, by decide, by decide⟩, tw_564, tw_565, by decide, TX7, 14, rfl⟩
theorem sX9_200 : zCVi "RegretLocks" 200 miX7_allRegrets 0 6 := ⟨⟨tw_602, tcX7_allRegrets, tw_73, by decide, by decide, by decide⟩, tw_603, tw_604, by decide, TX7, 14, rfl⟩
theorem sX9_203 : zCVi "RegretLocks" 203 miX7_jammedLocks 0 6 := ⟨⟨tw_607, tcX7_jammedLocks, tw_73, by decide, by decide, by decide⟩, tw_608, tw_609, by decide, TX7, 14, rfl⟩
theorem sX9_206 : zCVi "RegretLocks" 206 miX8_find 3 7 := ⟨⟨tw_615, tcX8_find, tw_76, by decide, by decide, by decide⟩, tw_616, tw_617, by decide, TX8, 4, rfl⟩
theorem sX9_210 : zCVi "RegretLocks" 210 miX8_reached 0 7 := ⟨⟨tw_635, tcX8_reached, tw_76, by decide, by decide, by decide⟩, tw_636, tw_637, by decide, TX8, 4, rfl⟩
theorem sX9_216 : zCVi "RegretLocks" 216 miX7_thoseWhoFeel 2 6 := ⟨⟨tw_651, tcX7_thoseWhoFeel, tw_73, by decide, by decide, by decide⟩, tw_480, tw_481, by decide, TX7, 14, rfl⟩
theorem sX9_223 : zCVi "RegretLocks" 223 miX7_becomeAs 1 6 := ⟨⟨tw_662, tcX7_becomeAs, tw_73, by decide, by decide, by decide⟩, tw_663, tw_664, by decide, TX7, 14, rfl⟩
theorem sX9_227 : zCVi "RegretLocks" 227 miX9_entriesThought 1 8 := ⟨⟨tw_684, tcX9_entriesThought, tw_72, by decide, by decide, by decide⟩, tw_686, tw_9, by decide, TX9, 13, rfl⟩
theorem sX9_233 : zCVi "RegretLocks" 233 miX4_isMissing 0 3 := ⟨⟨tw_699, tcX4_isMissing, tw_78, by decide, by decide, by decide⟩, tw_700, tw_701, by decide, TX4, 3, rfl⟩
theorem sX9_238 : zCVi "RegretLocks" 238 miX9_countHits 1 8 := ⟨⟨tw_704, tcX9_countHits, tw_72, by decide, by decide, by decide⟩, tw_706, tw_10, by decide, TX9, 13, rfl⟩
theorem sX9_246 : zCVi "RegretLocks" 246 miX6_value 3 5 := ⟨⟨tw_718, tcX6_value, tw_83, by decide, by decide, by decide⟩, tw_543, tw_544, by decide, TX6, 5, rfl⟩
theorem sX9_252 : zCVi "RegretLocks" 252 miX3_allRegrets 0 2 := ⟨⟨tw_723, tcX3_allRegrets, tw_74, by decide, by decide, by decide⟩, tw_429, tw_430, by decide, TX3, 3, rfl⟩
theorem sX9_256 : zCVi "RegretLocks" 256 miX9_feedFour 1 8 := ⟨⟨tw_728, tcX9_feedFour, tw_72, by decide, by decide, by decide⟩, tw_730, tw_11, by decide, TX9, 13, rfl⟩
theorem sX9_260 : zCVi "RegretLocks" 260 miX2_findFault 2 1 := ⟨⟨tw_740, tcX2_findFault, tw_77, by decide, by decide, by decide⟩, tw_741, tw_742, by decide, TX2, 14, rfl⟩
theorem sX9_267 : zCVi "RegretLocks" 267 miX2_makeText 1 1 := ⟨⟨tw_917, tcX2_makeText, tw_77, by decide, by decide, by decide⟩, tw_918, tw_919, by decide, TX2, 14, rfl⟩
theorem sX9_283 : zCVi "RegretLocks" 283 miX4_become 2 3 := ⟨⟨tw_972, tcX4_become, tw_78, by decide, by decide, by decide⟩, tw_973, tw_974, by decide, TX4, 3, rfl⟩
theorem sX9_287 : zCVi "RegretLocks" 287 miX4_hasPlace 1 3 := ⟨⟨tw_982, tcX4_hasPlace, tw_78, by decide, by decide, by decide⟩, tw_983, tw_984, by decide, TX4, 3, rfl⟩
theorem sX9_300 : zCVi "RegretLocks" 300 miX4_isNumber 1 3 := ⟨⟨tw_709, tcX4_isNumber, tw_78, by decide, by decide, by decide⟩, tw_710, tw_711, by decide, TX4, 3, rfl⟩
theorem sX9_306 : zCVi "RegretLocks" 306 miX4_hasPlaces 2 3 := ⟨⟨tw_1002, tcX4_hasPlaces, tw_78, by decide, by decide, by decide⟩, tw_1003, tw_1004, by decide, TX4, 3, rfl⟩
theorem sX9_325 : zCVi "RegretLocks" 325 miX3_becomeAs 1 2 := ⟨⟨tw_1014, tcX3_becomeAs, tw_74, by decide, by decide, by decide⟩, tw_667, tw_668, by decide, TX3, 3, rfl⟩
theorem sX9_332 : zCVi "RegretLocks" 332 miX4_becomeAs 1 3 := ⟨⟨tw_1015, tcX4_becomeAs, tw_78, by decide, by decide, by decide⟩, tw_1016, tw_1017, by decide, TX4, 3, rfl⟩
theorem kX9_71 : Cond.constant "RegretLocks" 71 (-1000000001) ∈ zT := tw_403
theorem kX9_76 : Cond.constant "RegretLocks" 76 (-1000000003) ∈ zT := tw_404
theorem kX9_113 : Cond.constant "RegretLocks" 113 (-1000000012) ∈ zT := tw_444
theorem kX9_158 : Cond.constant "RegretLocks" 158 (-1000000002) ∈ zT := tw_495
theorem kX9_219 : Cond.constant "RegretLocks" 219 (-1000000005) ∈ zT := tw_652
theorem kX9_237 : Cond.constant "RegretLocks" 237 (-1000000011) ∈ zT := tw_703
theorem kX9_286 : Cond.constant "RegretLocks" 286 (-1000000014) ∈ zT := tw_977
theorem kX9_290 : Cond.constant "RegretLocks" 290 (-1000000013) ∈ zT := tw_986
theorem kX9_295 : Cond.constant "RegretLocks" 295 (-99999) ∈ zT := tw_987
theorem kX9_296 : Cond.constant "RegretLocks" 296 (99999) ∈ zT := tw_988
theorem nX9_7 : zNW "RegretLocks" 7 6 14 := ⟨RX7, TX7, tyX7, rfl, inzX7, by decide, tyX7_ok, tw_99, tw_100, tw_73, fun j hj => match j, hj with | 0, _ => rfl | 1, _ => rfl | 2, _ => rfl | 3, _ => rfl | 4, _ => rfl | 5, _ => rfl | 6, _ => rfl | 7, _ => rfl | 8, _ => rfl | 9, _ => rfl | 10, _ => rfl | 11, _ => rfl | 12, _ => rfl | 13, _ => rfl | j + 14, h => absurd h (by omega)⟩
theorem nX9_22 : zNW "RegretLocks" 22 7 4 := ⟨RX8, TX8, tyX8, rfl, inzX8, by decide, tyX8_ok, tw_231, tw_232, tw_76, fun j hj => match j, hj with | 0, _ => rfl | 1, _ => rfl | 2, _ => rfl | 3, _ => rfl | j + 4, h => absurd h (by omega)⟩
theorem nX9_29 : zNW "RegretLocks" 29 1 14 := ⟨RX2, TX2, tyX2, rfl, inzX2, by decide, tyX2_ok, tw_253, tw_254, tw_77, fun j hj => match j, hj with | 0, _ => rfl | 1, _ => rfl | 2, _ => rfl | 3, _ => rfl | 4, _ => rfl | 5, _ => rfl | 6, _ => rfl | 7, _ => rfl | 8, _ => rfl | 9, _ => rfl | 10, _ => rfl | 11, _ => rfl | 12, _ => rfl | 13, _ => rfl | j + 14, h => absurd h (by omega)⟩
theorem nX9_40 : zNW "RegretLocks" 40 3 3 := ⟨RX4, TX4, tyX4, rfl, inzX4, by decide, tyX4_ok, tw_303, tw_307, tw_78, fun j hj => match j, hj with | 0, _ => rfl | 1, _ => rfl | 2, _ => rfl | j + 3, h => absurd h (by omega)⟩
theorem nX9_46 : zNW "RegretLocks" 46 4 4 := ⟨RX5, TX5, tyX5, rfl, inzX5, by decide, tyX5_ok, tw_305, tw_325, tw_79, fun j hj => match j, hj with | 0, _ => rfl | 1, _ => rfl | 2, _ => rfl | 3, _ => rfl | j + 4, h => absurd h (by omega)⟩
theorem pX9_10 : zFP "RegretLocks" 10 8 0 (.object "RegretLocks$Town") true false := ⟨RX9, TX9, 13, tyX9, rfl, by decide, inzX9, tw_350, by decide, rfl, tyX9_ok, nmX9, rfl, rfl, fun _ => rfl⟩
theorem pX9_16 : zFP "RegretLocks" 16 8 1 (.object "RegretLocks$Town") true false := ⟨RX9, TX9, 13, tyX9, rfl, by decide, inzX9, tw_351, by decide, rfl, tyX9_ok, nmX9, rfl, rfl, fun _ => rfl⟩
theorem pX9_19 : zFP "RegretLocks" 19 8 2 (.object "RegretLocks$Town") true false := ⟨RX9, TX9, 13, tyX9, rfl, by decide, inzX9, tw_352, by decide, rfl, tyX9_ok, nmX9, rfl, rfl, fun _ => rfl⟩
theorem pX9_25 : zFP "RegretLocks" 25 8 4 (.object "RegretLocks$Ways") true false := ⟨RX9, TX9, 13, tyX9, rfl, by decide, inzX9, tw_354, by decide, rfl, tyX9_ok, nmX9, rfl, rfl, fun _ => rfl⟩
theorem pX9_32 : zFP "RegretLocks" 32 8 5 (.object "RegretLocks$Parser") true false := ⟨RX9, TX9, 13, tyX9, rfl, by decide, inzX9, tw_355, by decide, rfl, tyX9_ok, nmX9, rfl, rfl, fun _ => rfl⟩
theorem pX9_36 : zFP "RegretLocks" 36 8 6 (.array .byte) true false := ⟨RX9, TX9, 13, tyX9, rfl, by decide, inzX9, tw_356, by decide, rfl, tyX9_ok, nmX9, rfl, rfl, fun _ => rfl⟩
theorem pX9_42 : zFP "RegretLocks" 42 8 8 (.array (.object "RegretLocks$Sheet")) true false := ⟨RX9, TX9, 13, tyX9, rfl, by decide, inzX9, tw_358, by decide, rfl, tyX9_ok, nmX9, rfl, rfl, fun _ => rfl⟩
theorem pX9_48 : zFP "RegretLocks" 48 8 9 (.array (.object "RegretLocks$Slot")) true false := ⟨RX9, TX9, 13, tyX9, rfl, by decide, inzX9, tw_359, by decide, rfl, tyX9_ok, nmX9, rfl, rfl, fun _ => rfl⟩
theorem pX9_52 : zFP "RegretLocks" 52 8 10 (.array .int) true false := ⟨RX9, TX9, 13, tyX9, rfl, by decide, inzX9, tw_360, by decide, rfl, tyX9_ok, nmX9, rfl, rfl, fun _ => rfl⟩
theorem pX9_56 : zFP "RegretLocks" 56 8 12 (.array .int) true false := ⟨RX9, TX9, 13, tyX9, rfl, by decide, inzX9, tw_362, by decide, rfl, tyX9_ok, nmX9, rfl, rfl, fun _ => rfl⟩
theorem pX9_72 : zFP "RegretLocks" 72 6 1 .int false true := ⟨RX7, TX7, 14, tyX7, rfl, by decide, inzX7, tw_175, by decide, rfl, tyX7_ok, nmX7, rfl, rfl, fun h => by cases h⟩
theorem pX9_90 : zFP "RegretLocks" 90 2 0 .int false true := ⟨RX3, TX3, 3, tyX3, rfl, by decide, inzX3, tw_117, by decide, rfl, tyX3_ok, nmX3, rfl, rfl, fun h => by cases h⟩
theorem pX9_93 : zFP "RegretLocks" 93 2 1 .int false true := ⟨RX3, TX3, 3, tyX3, rfl, by decide, inzX3, tw_122, by decide, rfl, tyX3_ok, nmX3, rfl, rfl, fun h => by cases h⟩
theorem pX9_120 : zFP "RegretLocks" 120 6 3 .int false true := ⟨RX7, TX7, 14, tyX7, rfl, by decide, inzX7, tw_181, by decide, rfl, tyX7_ok, nmX7, rfl, rfl, fun h => by cases h⟩
theorem pX9_135 : zFP "RegretLocks" 135 0 0 .int false true := ⟨RX1, TX1, 5, tyX1, rfl, by decide, inzX1, tw_144, by decide, rfl, tyX1_ok, nmX1, rfl, rfl, fun h => by cases h⟩
theorem pX9_138 : zFP "RegretLocks" 138 0 1 .int false true := ⟨RX1, TX1, 5, tyX1, rfl, by decide, inzX1, tw_148, by decide, rfl, tyX1_ok, nmX1, rfl, rfl, fun h => by cases h⟩
theorem pX9_141 : zFP "RegretLocks" 141 0 2 .int false true := ⟨RX1, TX1, 5, tyX1, rfl, by decide, inzX1, tw_152, by decide, rfl, tyX1_ok, nmX1, rfl, rfl, fun h => by cases h⟩
theorem pX9_144 : zFP "RegretLocks" 144 0 3 .int false true := ⟨RX1, TX1, 5, tyX1, rfl, by decide, inzX1, tw_155, by decide, rfl, tyX1_ok, nmX1, rfl, rfl, fun h => by cases h⟩
theorem pX9_147 : zFP "RegretLocks" 147 0 4 .boolean false true := ⟨RX1, TX1, 5, tyX1, rfl, by decide, inzX1, tw_160, by decide, rfl, tyX1_ok, nmX1, rfl, rfl, fun h => by cases h⟩
theorem pX9_159 : zFP "RegretLocks" 159 6 7 .int false true := ⟨RX7, TX7, 14, tyX7, rfl, by decide, inzX7, tw_189, by decide, rfl, tyX7_ok, nmX7, rfl, rfl, fun h => by cases h⟩
theorem pX9_162 : zFP "RegretLocks" 162 6 8 .int false true := ⟨RX7, TX7, 14, tyX7, rfl, by decide, inzX7, tw_191, by decide, rfl, tyX7_ok, nmX7, rfl, rfl, fun h => by cases h⟩
theorem pX9_174 : zFP "RegretLocks" 174 6 13 .int false true := ⟨RX7, TX7, 14, tyX7, rfl, by decide, inzX7, tw_201, by decide, rfl, tyX7_ok, nmX7, rfl, rfl, fun h => by cases h⟩
theorem pX9_253 : zFP "RegretLocks" 253 8 7 .int false true := ⟨RX9, TX9, 13, tyX9, rfl, by decide, inzX9, tw_357, by decide, rfl, tyX9_ok, nmX9, rfl, rfl, fun h => by cases h⟩
theorem pX9_264 : zFP "RegretLocks" 264 6 5 .int false true := ⟨RX7, TX7, 14, tyX7, rfl, by decide, inzX7, tw_185, by decide, rfl, tyX7_ok, nmX7, rfl, rfl, fun h => by cases h⟩
theorem pX9_318 : zFP "RegretLocks" 318 4 0 .int false true := ⟨RX5, TX5, 4, tyX5, rfl, by decide, inzX5, tw_335, by decide, rfl, tyX5_ok, nmX5, rfl, rfl, fun h => by cases h⟩
theorem pX9_334 : zFP "RegretLocks" 334 4 3 .int false true := ⟨RX5, TX5, 4, tyX5, rfl, by decide, inzX5, tw_340, by decide, rfl, tyX5_ok, nmX5, rfl, rfl, fun h => by cases h⟩
theorem pX9_335 : zFP "RegretLocks" 335 8 11 .int false true := ⟨RX9, TX9, 13, tyX9, rfl, by decide, inzX9, tw_361, by decide, rfl, tyX9_ok, nmX9, rfl, rfl, fun h => by cases h⟩
theorem pX9_338 : zFP "RegretLocks" 338 8 3 .boolean false true := ⟨RX9, TX9, 13, tyX9, rfl, by decide, inzX9, tw_353, by decide, rfl, tyX9_ok, nmX9, rfl, rfl, fun h => by cases h⟩
theorem ac_int : Cond.arrayClass .int ∈ zT := tw_135
theorem ac_byte : Cond.arrayClass .byte ∈ zT := tw_302
theorem oX9_1 : Cond.methodLink "RegretLocks" 1 objectInit ∈ zT := tw_96
theorem oX7_3 : Cond.methodLink "RegretLocks$Town" 3 objectInit ∈ zT := tw_104
theorem oX3_3 : Cond.methodLink "RegretLocks$Person" 3 objectInit ∈ zT := tw_115
theorem oX1_1 : Cond.methodLink "RegretLocks$Lock" 1 objectInit ∈ zT := tw_140
theorem oX8_3 : Cond.methodLink "RegretLocks$Ways" 3 objectInit ∈ zT := tw_236
theorem oX2_3 : Cond.methodLink "RegretLocks$Parser" 3 objectInit ∈ zT := tw_258
theorem oX4_3 : Cond.methodLink "RegretLocks$Sheet" 3 objectInit ∈ zT := tw_311
theorem oX5_1 : Cond.methodLink "RegretLocks$Slot" 1 objectInit ∈ zT := tw_329
theorem oX6_1 : Cond.methodLink "RegretLocks$Text" 1 objectInit ∈ zT := tw_940
theorem oX10_1 : Cond.methodLink "RegretLocksModel" 1 objectInit ∈ zT := tw_1057
theorem oi_in : Cond.instanceMethod objectInit ∈ zT := tw_97
theorem oi_code : Cond.code objectInit ⟨#[0xb1]⟩ 1 none ∈ zT := tw_98
