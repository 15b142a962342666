theorem goodIn_sub {big ws : List Cond} (hm : ∀ w ∈ ws, w ∈ big) (h : ws.all goodWord = true) : GoodIn big ws := fun w hw => ⟨hm w hw, good_of_word (List.all_eq_true.mp h w hw)⟩
/-! the methods of the claim, by number: name, code, locals, answer, class -/
def mN : Nat → MethodName := fun y => match y with
  | 0 => yX0_init
  | 1 => yX0_set
  | 2 => yX0_commonOf
  | 3 => yX1_init
  | 4 => yX1_seekBest
  | 5 => yX1_gains
  | 6 => yX1_seek
  | 7 => yX1_wasThere
  | 8 => yX1_weigh
  | 9 => yX1_findPrices
  | 10 => yX1_raise
  | 11 => yX2_init
  | 12 => yX2_copy
  | 13 => yX2_mix
  | 14 => yX2_staysPut
  | 15 => yX3_init
  | 16 => yX3_mostHome
  | 17 => yX3_seek
  | 18 => yX3_mayHelp
  | 19 => yX3_goesRight
  | 20 => yX3_weigh
  | 21 => yX4_init
  | 22 => yX4_read
  | 23 => yX4_behind
  | 24 => yX4_behindWord
  | 25 => yX5_init
  | 26 => yX5_has
  | 27 => yX5_isFull
  | 28 => yX5_add
  | 29 => yX5_copy
  | 30 => yX5_mix
  | 31 => yX6_init
  | 32 => yX6_add
  | 33 => yX6_copy
  | 34 => yX6_isBlank
  | 35 => yX6_isLetter
  | 36 => yX6_isFigure
  | 37 => yX6_blanksEnd
  | 38 => yX6_tokenEnd
  | 39 => yX6_spells
  | 40 => yX6_number
  | 41 => yX7_init
  | 42 => yX7_unmove
  | 43 => yX7_depart
  | 44 => yX7_copy
  | 45 => yX7_follow
  | 46 => yX7_step
  | 47 => yX7_goUp
  | 48 => yX7_goDown
  | 49 => yX7_pass
  | 50 => yX7_passForChanges
  | 51 => yX7_spoil
  | 52 => yX7_eat
  | 53 => yX7_comeBack
  | 54 => yX7_arrive
  | 55 => yX7_weight
  | 56 => yX7_doTimes
  | 57 => yX7_doAll
  | 58 => yX7_canDo
  | 59 => yX7_moreWeight
  | 60 => yX7_doOnce
  | 61 => yX8_init
  | 62 => yX8_landing
  | 63 => yX8_thing
  | 64 => yX8_put
  | 65 => yX8_mayPut
  | 66 => yX8_change
  | 67 => yX8_moves
  | 68 => yX8_greeting
  | 69 => yX8_start
  | 70 => yX8_type
  | 71 => yX8_clear
  | 72 => yX8_fault
  | 73 => yX8_run
  | 74 => yX8_load
  | 75 => yX8_rival
  | 76 => yX8_isText
  | 77 => yX8_isVoyage
  | 78 => yX8_sail
  | 79 => yX8_ending
  | 80 => yX8_ring
  | 81 => yX8_price
  | 82 => yX8_best
  | 83 => yX8_worth
  | 84 => yX8_lack
  | 85 => yX8_crew
  | 86 => yX8_where
  | 87 => yX8_latest
  | 88 => yX8_rate
  | 89 => yX8_waits
  | 90 => yX8_isActs
  | 91 => yX8_canSeek
  | 92 => yX8_homeWith
  | 93 => yX8_bestNumber
  | 94 => yX8_movedBehind
  | 95 => yX8_part
  | 96 => yX8_image
  | 97 => yX8_from
  | 98 => yX8_count
  | 99 => yX8_digest
  | 100 => yX8_isImage
  | 101 => yX8_within
  | 102 => yX8_mixAll
  | 103 => yX9_init
  | 104 => yX9_in
  | 105 => yX9_landings
  | 106 => yX9_things
  | 107 => yX9_changes
  | 108 => yX9_isLanding
  | 109 => yX9_isThing
  | 110 => yX9_isChange
  | 111 => yX9_ofLanding
  | 112 => yX9_ofThing
  | 113 => yX9_number
  | 114 => yX9_of
  | 115 => yX9_landing
  | 116 => yX9_thing
  | 117 => yX9_fitsNumber
  | 118 => yX9_put
  | 119 => yX9_change
  | 120 => yX9_moves
  | 121 => yX9_greeting
  | 122 => yX9_start
  | 123 => yX9_isText
  | 124 => yX9_textLong
  | 125 => yX9_byteAt
  | 126 => yX9_type
  | 127 => yX9_clear
  | 128 => yX9_isSmall
  | 129 => yX9_isFigure
  | 130 => yX9_look
  | 131 => yX9_next
  | 132 => yX9_isWord
  | 133 => yX9_readStep
  | 134 => yX9_faultOf
  | 135 => yX9_fault
  | 136 => yX9_settle
  | 137 => yX9_begin
  | 138 => yX9_weight
  | 139 => yX9_goBack
  | 140 => yX9_pass
  | 141 => yX9_passAll
  | 142 => yX9_arrive
  | 143 => yX9_go
  | 144 => yX9_canDo
  | 145 => yX9_doOnce
  | 146 => yX9_doMany
  | 147 => yX9_goBy
  | 148 => yX9_tells
  | 149 => yX9_canGo
  | 150 => yX9_run
  | 151 => yX9_load
  | 152 => yX9_rival
  | 153 => yX9_findRing
  | 154 => yX9_fitsRing
  | 155 => yX9_takeRing
  | 156 => yX9_tell
  | 157 => yX9_ring
  | 158 => yX9_price
  | 159 => yX9_acted
  | 160 => yX9_didSome
  | 161 => yX9_findBest
  | 162 => yX9_isMany
  | 163 => yX9_isHome
  | 164 => yX9_best
  | 165 => yX9_worth
  | 166 => yX9_lack
  | 167 => yX9_bestOf
  | 168 => yX9_crew
  | 169 => yX9_where
  | 170 => yX9_latest
  | 171 => yX9_movedBy
  | 172 => yX9_rate
  | 173 => yX9_waits
  | 174 => yX9_part
  | 175 => yX9_image
  | 176 => yX9_from
  | 177 => yX9_count
  | 178 => yX9_sums
  | 179 => yX9_digest
  | 180 => yJ9_max_7cf53
  | 181 => yJ9_max_f86c9
  | 182 => yJ0_length_8abf5
  | 183 => yJ0_charAt_5068e
  | 184 => yJ0_coder_7d493
  | 185 => yJ0_isLatin1_aae02
  | 186 => yJ0_checkIndex_df160
  | 187 => yJ1_charAt_3b067
  | 188 => yJ2_getChar_3b067
  | 189 => yJ2_length_9d52b
  | 190 => yJ2_charAt_3b067
  | 191 => yJ2_checkIndex_2214a
  | 192 => yJ7_fill_d0a16
  | 193 => yJ7_fill_53178
  | 194 => yJ3_checkIndex_8e157
  | 195 => yL_law
  | _ => yL_law
def mB : Nat → ByteArray := fun y => match y with
  | 0 => cX0_init
  | 1 => cX0_set
  | 2 => cX0_commonOf
  | 3 => cX1_init
  | 4 => cX1_seekBest
  | 5 => cX1_gains
  | 6 => cX1_seek
  | 7 => cX1_wasThere
  | 8 => cX1_weigh
  | 9 => cX1_findPrices
  | 10 => cX1_raise
  | 11 => cX2_init
  | 12 => cX2_copy
  | 13 => cX2_mix
  | 14 => cX2_staysPut
  | 15 => cX3_init
  | 16 => cX3_mostHome
  | 17 => cX3_seek
  | 18 => cX3_mayHelp
  | 19 => cX3_goesRight
  | 20 => cX3_weigh
  | 21 => cX4_init
  | 22 => cX4_read
  | 23 => cX4_behind
  | 24 => cX4_behindWord
  | 25 => cX5_init
  | 26 => cX5_has
  | 27 => cX5_isFull
  | 28 => cX5_add
  | 29 => cX5_copy
  | 30 => cX5_mix
  | 31 => cX6_init
  | 32 => cX6_add
  | 33 => cX6_copy
  | 34 => cX6_isBlank
  | 35 => cX6_isLetter
  | 36 => cX6_isFigure
  | 37 => cX6_blanksEnd
  | 38 => cX6_tokenEnd
  | 39 => cX6_spells
  | 40 => cX6_number
  | 41 => cX7_init
  | 42 => cX7_unmove
  | 43 => cX7_depart
  | 44 => cX7_copy
  | 45 => cX7_follow
  | 46 => cX7_step
  | 47 => cX7_goUp
  | 48 => cX7_goDown
  | 49 => cX7_pass
  | 50 => cX7_passForChanges
  | 51 => cX7_spoil
  | 52 => cX7_eat
  | 53 => cX7_comeBack
  | 54 => cX7_arrive
  | 55 => cX7_weight
  | 56 => cX7_doTimes
  | 57 => cX7_doAll
  | 58 => cX7_canDo
  | 59 => cX7_moreWeight
  | 60 => cX7_doOnce
  | 61 => cX8_init
  | 62 => cX8_landing
  | 63 => cX8_thing
  | 64 => cX8_put
  | 65 => cX8_mayPut
  | 66 => cX8_change
  | 67 => cX8_moves
  | 68 => cX8_greeting
  | 69 => cX8_start
  | 70 => cX8_type
  | 71 => cX8_clear
  | 72 => cX8_fault
  | 73 => cX8_run
  | 74 => cX8_load
  | 75 => cX8_rival
  | 76 => cX8_isText
  | 77 => cX8_isVoyage
  | 78 => cX8_sail
  | 79 => cX8_ending
  | 80 => cX8_ring
  | 81 => cX8_price
  | 82 => cX8_best
  | 83 => cX8_worth
  | 84 => cX8_lack
  | 85 => cX8_crew
  | 86 => cX8_where
  | 87 => cX8_latest
  | 88 => cX8_rate
  | 89 => cX8_waits
  | 90 => cX8_isActs
  | 91 => cX8_canSeek
  | 92 => cX8_homeWith
  | 93 => cX8_bestNumber
  | 94 => cX8_movedBehind
  | 95 => cX8_part
  | 96 => cX8_image
  | 97 => cX8_from
  | 98 => cX8_count
  | 99 => cX8_digest
  | 100 => cX8_isImage
  | 101 => cX8_within
  | 102 => cX8_mixAll
  | 103 => cX9_init
  | 104 => cX9_in
  | 105 => cX9_landings
  | 106 => cX9_things
  | 107 => cX9_changes
  | 108 => cX9_isLanding
  | 109 => cX9_isThing
  | 110 => cX9_isChange
  | 111 => cX9_ofLanding
  | 112 => cX9_ofThing
  | 113 => cX9_number
  | 114 => cX9_of
  | 115 => cX9_landing
  | 116 => cX9_thing
  | 117 => cX9_fitsNumber
  | 118 => cX9_put
  | 119 => cX9_change
  | 120 => cX9_moves
  | 121 => cX9_greeting
  | 122 => cX9_start
  | 123 => cX9_isText
  | 124 => cX9_textLong
  | 125 => cX9_byteAt
  | 126 => cX9_type
  | 127 => cX9_clear
  | 128 => cX9_isSmall
  | 129 => cX9_isFigure
  | 130 => cX9_look
  | 131 => cX9_next
  | 132 => cX9_isWord
  | 133 => cX9_readStep
  | 134 => cX9_faultOf
  | 135 => cX9_fault
  | 136 => cX9_settle
  | 137 => cX9_begin
  | 138 => cX9_weight
  | 139 => cX9_goBack
  | 140 => cX9_pass
  | 141 => cX9_passAll
  | 142 => cX9_arrive
  | 143 => cX9_go
  | 144 => cX9_canDo
  | 145 => cX9_doOnce
  | 146 => cX9_doMany
  | 147 => cX9_goBy
  | 148 => cX9_tells
  | 149 => cX9_canGo
  | 150 => cX9_run
  | 151 => cX9_load
  | 152 => cX9_rival
  | 153 => cX9_findRing
  | 154 => cX9_fitsRing
  | 155 => cX9_takeRing
  | 156 => cX9_tell
  | 157 => cX9_ring
  | 158 => cX9_price
  | 159 => cX9_acted
  | 160 => cX9_didSome
  | 161 => cX9_findBest
  | 162 => cX9_isMany
  | 163 => cX9_isHome
  | 164 => cX9_best
  | 165 => cX9_worth
  | 166 => cX9_lack
  | 167 => cX9_bestOf
  | 168 => cX9_crew
  | 169 => cX9_where
  | 170 => cX9_latest
  | 171 => cX9_movedBy
  | 172 => cX9_rate
  | 173 => cX9_waits
  | 174 => cX9_part
  | 175 => cX9_image
  | 176 => cX9_from
  | 177 => cX9_count
  | 178 => cX9_sums
  | 179 => cX9_digest
  | 180 => cJ9_max_7cf53
  | 181 => cJ9_max_f86c9
  | 182 => cJ0_length_8abf5
  | 183 => cJ0_charAt_5068e
  | 184 => cJ0_coder_7d493
  | 185 => cJ0_isLatin1_aae02
  | 186 => cJ0_checkIndex_df160
  | 187 => cJ1_charAt_3b067
  | 188 => cJ2_getChar_3b067
  | 189 => cJ2_length_9d52b
  | 190 => cJ2_charAt_3b067
  | 191 => cJ2_checkIndex_2214a
  | 192 => cJ7_fill_d0a16
  | 193 => cJ7_fill_53178
  | 194 => cJ3_checkIndex_8e157
  | 195 => cL_law
  | _ => cL_law
def mL : Nat → Nat := fun y => match y with
  | 0 => 1
  | 1 => 7
  | 2 => 11
  | 3 => 2
  | 4 => 2
  | 5 => 1
  | 6 => 9
  | 7 => 4
  | 8 => 8
  | 9 => 4
  | 10 => 7
  | 11 => 1
  | 12 => 3
  | 13 => 6
  | 14 => 2
  | 15 => 3
  | 16 => 2
  | 17 => 4
  | 18 => 6
  | 19 => 2
  | 20 => 3
  | 21 => 1
  | 22 => 6
  | 23 => 6
  | 24 => 4
  | 25 => 3
  | 26 => 2
  | 27 => 1
  | 28 => 1
  | 29 => 3
  | 30 => 6
  | 31 => 1
  | 32 => 5
  | 33 => 2
  | 34 => 2
  | 35 => 2
  | 36 => 2
  | 37 => 3
  | 38 => 3
  | 39 => 5
  | 40 => 5
  | 41 => 2
  | 42 => 1
  | 43 => 2
  | 44 => 2
  | 45 => 3
  | 46 => 4
  | 47 => 4
  | 48 => 1
  | 49 => 3
  | 50 => 3
  | 51 => 2
  | 52 => 3
  | 53 => 3
  | 54 => 3
  | 55 => 3
  | 56 => 4
  | 57 => 6
  | 58 => 3
  | 59 => 4
  | 60 => 3
  | 61 => 2
  | 62 => 6
  | 63 => 5
  | 64 => 4
  | 65 => 3
  | 66 => 9
  | 67 => 6
  | 68 => 8
  | 69 => 5
  | 70 => 6
  | 71 => 3
  | 72 => 2
  | 73 => 3
  | 74 => 3
  | 75 => 4
  | 76 => 1
  | 77 => 2
  | 78 => 2
  | 79 => 2
  | 80 => 2
  | 81 => 3
  | 82 => 4
  | 83 => 3
  | 84 => 6
  | 85 => 2
  | 86 => 2
  | 87 => 4
  | 88 => 6
  | 89 => 7
  | 90 => 1
  | 91 => 1
  | 92 => 6
  | 93 => 10
  | 94 => 3
  | 95 => 2
  | 96 => 2
  | 97 => 2
  | 98 => 2
  | 99 => 4
  | 100 => 1
  | 101 => 3
  | 102 => 7
  | 103 => 1
  | 104 => 6
  | 105 => 1
  | 106 => 1
  | 107 => 1
  | 108 => 2
  | 109 => 2
  | 110 => 2
  | 111 => 3
  | 112 => 3
  | 113 => 2
  | 114 => 3
  | 115 => 6
  | 116 => 4
  | 117 => 3
  | 118 => 4
  | 119 => 7
  | 120 => 6
  | 121 => 8
  | 122 => 4
  | 123 => 1
  | 124 => 2
  | 125 => 3
  | 126 => 6
  | 127 => 3
  | 128 => 1
  | 129 => 1
  | 130 => 6
  | 131 => 2
  | 132 => 9
  | 133 => 2
  | 134 => 2
  | 135 => 2
  | 136 => 2
  | 137 => 2
  | 138 => 3
  | 139 => 3
  | 140 => 2
  | 141 => 3
  | 142 => 3
  | 143 => 4
  | 144 => 2
  | 145 => 2
  | 146 => 4
  | 147 => 3
  | 148 => 2
  | 149 => 2
  | 150 => 3
  | 151 => 3
  | 152 => 4
  | 153 => 2
  | 154 => 5
  | 155 => 9
  | 156 => 11
  | 157 => 2
  | 158 => 15
  | 159 => 2
  | 160 => 5
  | 161 => 11
  | 162 => 1
  | 163 => 1
  | 164 => 4
  | 165 => 5
  | 166 => 7
  | 167 => 10
  | 168 => 2
  | 169 => 2
  | 170 => 4
  | 171 => 3
  | 172 => 5
  | 173 => 5
  | 174 => 2
  | 175 => 3
  | 176 => 3
  | 177 => 2
  | 178 => 8
  | 179 => 4
  | 180 => 2
  | 181 => 4
  | 182 => 1
  | 183 => 2
  | 184 => 1
  | 185 => 1
  | 186 => 2
  | 187 => 2
  | 188 => 2
  | 189 => 1
  | 190 => 2
  | 191 => 2
  | 192 => 5
  | 193 => 4
  | 194 => 3
  | 195 => 4
  | _ => 0
def mR : Nat → Option FieldType := fun y => match y with
  | 0 => none
  | 1 => none
  | 2 => some FieldType.long
  | 3 => none
  | 4 => none
  | 5 => some FieldType.boolean
  | 6 => none
  | 7 => some FieldType.boolean
  | 8 => none
  | 9 => none
  | 10 => none
  | 11 => none
  | 12 => none
  | 13 => some FieldType.long
  | 14 => some FieldType.boolean
  | 15 => none
  | 16 => some FieldType.int
  | 17 => none
  | 18 => some FieldType.boolean
  | 19 => some FieldType.boolean
  | 20 => none
  | 21 => none
  | 22 => some FieldType.int
  | 23 => some FieldType.int
  | 24 => some FieldType.int
  | 25 => none
  | 26 => some FieldType.boolean
  | 27 => some FieldType.boolean
  | 28 => some FieldType.int
  | 29 => none
  | 30 => some FieldType.long
  | 31 => none
  | 32 => none
  | 33 => none
  | 34 => some FieldType.boolean
  | 35 => some FieldType.boolean
  | 36 => some FieldType.boolean
  | 37 => some FieldType.int
  | 38 => some FieldType.int
  | 39 => some FieldType.boolean
  | 40 => some FieldType.int
  | 41 => none
  | 42 => none
  | 43 => none
  | 44 => none
  | 45 => none
  | 46 => none
  | 47 => none
  | 48 => none
  | 49 => none
  | 50 => none
  | 51 => none
  | 52 => none
  | 53 => none
  | 54 => none
  | 55 => some FieldType.int
  | 56 => none
  | 57 => some FieldType.boolean
  | 58 => some FieldType.boolean
  | 59 => some FieldType.int
  | 60 => none
  | 61 => none
  | 62 => some FieldType.int
  | 63 => some FieldType.int
  | 64 => some FieldType.int
  | 65 => some FieldType.boolean
  | 66 => some FieldType.int
  | 67 => some FieldType.int
  | 68 => some FieldType.int
  | 69 => some FieldType.int
  | 70 => some FieldType.int
  | 71 => some FieldType.int
  | 72 => some FieldType.int
  | 73 => some FieldType.int
  | 74 => some FieldType.int
  | 75 => some FieldType.int
  | 76 => some FieldType.boolean
  | 77 => some FieldType.boolean
  | 78 => some FieldType.boolean
  | 79 => some FieldType.int
  | 80 => some FieldType.int
  | 81 => some FieldType.int
  | 82 => some FieldType.int
  | 83 => some FieldType.int
  | 84 => some FieldType.int
  | 85 => some FieldType.int
  | 86 => some FieldType.int
  | 87 => some FieldType.int
  | 88 => some FieldType.int
  | 89 => some FieldType.int
  | 90 => some FieldType.boolean
  | 91 => some FieldType.boolean
  | 92 => some FieldType.int
  | 93 => some FieldType.int
  | 94 => some FieldType.int
  | 95 => some FieldType.long
  | 96 => some FieldType.int
  | 97 => some FieldType.int
  | 98 => some FieldType.int
  | 99 => some FieldType.long
  | 100 => some FieldType.boolean
  | 101 => some FieldType.boolean
  | 102 => some FieldType.long
  | 103 => none
  | 104 => some FieldType.boolean
  | 105 => some FieldType.int
  | 106 => some FieldType.int
  | 107 => some FieldType.int
  | 108 => some FieldType.boolean
  | 109 => some FieldType.boolean
  | 110 => some FieldType.boolean
  | 111 => some FieldType.int
  | 112 => some FieldType.int
  | 113 => some FieldType.int
  | 114 => some FieldType.int
  | 115 => some FieldType.int
  | 116 => some FieldType.int
  | 117 => some FieldType.boolean
  | 118 => some FieldType.int
  | 119 => some FieldType.int
  | 120 => some FieldType.int
  | 121 => some FieldType.int
  | 122 => some FieldType.int
  | 123 => some FieldType.boolean
  | 124 => some FieldType.int
  | 125 => some FieldType.int
  | 126 => some FieldType.int
  | 127 => some FieldType.int
  | 128 => some FieldType.boolean
  | 129 => some FieldType.boolean
  | 130 => none
  | 131 => none
  | 132 => some FieldType.boolean
  | 133 => some FieldType.boolean
  | 134 => some FieldType.int
  | 135 => some FieldType.int
  | 136 => none
  | 137 => none
  | 138 => some FieldType.int
  | 139 => none
  | 140 => none
  | 141 => none
  | 142 => none
  | 143 => none
  | 144 => some FieldType.boolean
  | 145 => none
  | 146 => none
  | 147 => none
  | 148 => some FieldType.int
  | 149 => some FieldType.boolean
  | 150 => some FieldType.int
  | 151 => some FieldType.int
  | 152 => some FieldType.int
  | 153 => none
  | 154 => some FieldType.boolean
  | 155 => none
  | 156 => none
  | 157 => some FieldType.int
  | 158 => some FieldType.int
  | 159 => some FieldType.boolean
  | 160 => some FieldType.boolean
  | 161 => some FieldType.int
  | 162 => some FieldType.boolean
  | 163 => some FieldType.boolean
  | 164 => some FieldType.int
  | 165 => some FieldType.int
  | 166 => some FieldType.int
  | 167 => some FieldType.int
  | 168 => some FieldType.int
  | 169 => some FieldType.int
  | 170 => some FieldType.int
  | 171 => some FieldType.int
  | 172 => some FieldType.int
  | 173 => some FieldType.int
  | 174 => some FieldType.long
  | 175 => some FieldType.int
  | 176 => some FieldType.int
  | 177 => some FieldType.int
  | 178 => some FieldType.long
  | 179 => some FieldType.long
  | 180 => some FieldType.int
  | 181 => some FieldType.long
  | 182 => some FieldType.int
  | 183 => some FieldType.char
  | 184 => some FieldType.byte
  | 185 => some FieldType.boolean
  | 186 => none
  | 187 => some FieldType.char
  | 188 => some FieldType.char
  | 189 => some FieldType.int
  | 190 => some FieldType.char
  | 191 => none
  | 192 => none
  | 193 => none
  | 194 => some FieldType.int
  | 195 => some .boolean
  | _ => none
def mC : Nat → Nat := fun y => match y with
  | 0 => 0
  | 1 => 0
  | 2 => 0
  | 3 => 1
  | 4 => 1
  | 5 => 1
  | 6 => 1
  | 7 => 1
  | 8 => 1
  | 9 => 1
  | 10 => 1
  | 11 => 2
  | 12 => 2
  | 13 => 2
  | 14 => 2
  | 15 => 3
  | 16 => 3
  | 17 => 3
  | 18 => 3
  | 19 => 3
  | 20 => 3
  | 21 => 4
  | 22 => 4
  | 23 => 4
  | 24 => 4
  | 25 => 5
  | 26 => 5
  | 27 => 5
  | 28 => 5
  | 29 => 5
  | 30 => 5
  | 31 => 6
  | 32 => 6
  | 33 => 6
  | 34 => 6
  | 35 => 6
  | 36 => 6
  | 37 => 6
  | 38 => 6
  | 39 => 6
  | 40 => 6
  | 41 => 7
  | 42 => 7
  | 43 => 7
  | 44 => 7
  | 45 => 7
  | 46 => 7
  | 47 => 7
  | 48 => 7
  | 49 => 7
  | 50 => 7
  | 51 => 7
  | 52 => 7
  | 53 => 7
  | 54 => 7
  | 55 => 7
  | 56 => 7
  | 57 => 7
  | 58 => 7
  | 59 => 7
  | 60 => 7
  | 61 => 8
  | 62 => 8
  | 63 => 8
  | 64 => 8
  | 65 => 8
  | 66 => 8
  | 67 => 8
  | 68 => 8
  | 69 => 8
  | 70 => 8
  | 71 => 8
  | 72 => 8
  | 73 => 8
  | 74 => 8
  | 75 => 8
  | 76 => 8
  | 77 => 8
  | 78 => 8
  | 79 => 8
  | 80 => 8
  | 81 => 8
  | 82 => 8
  | 83 => 8
  | 84 => 8
  | 85 => 8
  | 86 => 8
  | 87 => 8
  | 88 => 8
  | 89 => 8
  | 90 => 8
  | 91 => 8
  | 92 => 8
  | 93 => 8
  | 94 => 8
  | 95 => 8
  | 96 => 8
  | 97 => 8
  | 98 => 8
  | 99 => 8
  | 100 => 8
  | 101 => 8
  | 102 => 8
  | 103 => 9
  | 104 => 9
  | 105 => 9
  | 106 => 9
  | 107 => 9
  | 108 => 9
  | 109 => 9
  | 110 => 9
  | 111 => 9
  | 112 => 9
  | 113 => 9
  | 114 => 9
  | 115 => 9
  | 116 => 9
  | 117 => 9
  | 118 => 9
  | 119 => 9
  | 120 => 9
  | 121 => 9
  | 122 => 9
  | 123 => 9
  | 124 => 9
  | 125 => 9
  | 126 => 9
  | 127 => 9
  | 128 => 9
  | 129 => 9
  | 130 => 9
  | 131 => 9
  | 132 => 9
  | 133 => 9
  | 134 => 9
  | 135 => 9
  | 136 => 9
  | 137 => 9
  | 138 => 9
  | 139 => 9
  | 140 => 9
  | 141 => 9
  | 142 => 9
  | 143 => 9
  | 144 => 9
  | 145 => 9
  | 146 => 9
  | 147 => 9
  | 148 => 9
  | 149 => 9
  | 150 => 9
  | 151 => 9
  | 152 => 9
  | 153 => 9
  | 154 => 9
  | 155 => 9
  | 156 => 9
  | 157 => 9
  | 158 => 9
  | 159 => 9
  | 160 => 9
  | 161 => 9
  | 162 => 9
  | 163 => 9
  | 164 => 9
  | 165 => 9
  | 166 => 9
  | 167 => 9
  | 168 => 9
  | 169 => 9
  | 170 => 9
  | 171 => 9
  | 172 => 9
  | 173 => 9
  | 174 => 9
  | 175 => 9
  | 176 => 9
  | 177 => 9
  | 178 => 9
  | 179 => 9
  | 180 => 29
  | 181 => 29
  | 182 => 20
  | 183 => 20
  | 184 => 20
  | 185 => 20
  | 186 => 20
  | 187 => 21
  | 188 => 22
  | 189 => 22
  | 190 => 22
  | 191 => 22
  | 192 => 27
  | 193 => 27
  | 194 => 23
  | 195 => 10
  | _ => 10
def RN : Nat → String := fun c => match c with
  | 0 => RX0
  | 1 => RX1
  | 2 => RX2
  | 3 => RX3
  | 4 => RX4
  | 5 => RX5
  | 6 => RX6
  | 7 => RX7
  | 8 => RX8
  | 9 => RX9
  | 10 => RL
  | 20 => RJ0
  | 21 => RJ1
  | 22 => RJ2
  | 23 => RJ3
  | 27 => RJ7
  | 29 => RJ9
  | 30 => RJ10
  | _ => ""
def TC : Nat → u_T := fun c => match c with
  | 0 => TX0
  | 1 => TX1
  | 2 => TX2
  | 3 => TX3
  | 4 => TX4
  | 5 => TX5
  | 6 => TX6
  | 7 => TX7
  | 8 => TX8
  | 9 => TX9
  | _ => TX0
def tyC : Nat → Nat → FieldType := fun c => match c with
  | 0 => tyX0
  | 1 => tyX1
  | 2 => tyX2
  | 3 => tyX3
  | 4 => tyX4
  | 5 => tyX5
  | 6 => tyX6
  | 7 => tyX7
  | 8 => tyX8
  | 9 => tyX9
  | _ => tyX0
def NC : Nat → Nat := fun c => match c with
  | 0 => 2
  | 1 => 8
  | 2 => 5
  | 3 => 7
  | 4 => 4
  | 5 => 3
  | 6 => 2
  | 7 => 10
  | 8 => 8
  | 9 => 34
  | _ => 0
def mSt : Nat → Bool := fun y => match y with
  | 2 => true
  | 6 => true
  | 17 => true
  | 19 => true
  | 76 => true
  | 90 => true
  | 100 => true
  | 101 => true
  | 102 => true
  | 104 => true
  | 123 => true
  | 128 => true
  | 129 => true
  | 162 => true
  | 180 => true
  | 181 => true
  | 186 => true
  | 187 => true
  | 188 => true
  | 189 => true
  | 190 => true
  | 191 => true
  | 192 => true
  | 193 => true
  | 194 => true
  | _ => false
def mIni : Nat → Bool := fun y => decide ((mN y).name = "<init>")
def LV : List Int64 := [-1, 499, 31, 9, 20, 50, 500, 6, 400, 5, 30, 99, 40, 90, 8, 255, 97, 122, 48, 57, 3, 4, 999, 2, 4294967295]
def SV : List String := ["up", "down", "wait", "do", ";"]
/-! pool entries, by class: index, kind, what it is -/
def RT0 : List (Nat × Nat × Nat × Nat) := [(1, 7, 0, 0), (7, 0, 0, 0), (13, 0, 0, 1), (16, 3, 2, 0), (20, 3, 181, 0)]
def RT1 : List (Nat × Nat × Nat × Nat) := [(3, 7, 0, 0), (9, 0, 1, 1), (15, 0, 1, 2), (18, 0, 1, 6), (22, 0, 1, 7), (25, 0, 1, 0), (29, 0, 1, 3), (33, 0, 5, 2), (36, 0, 5, 0), (40, 3, 6, 0), (44, 0, 1, 4), (48, 0, 1, 5), (51, 3, 8, 0), (55, 3, 7, 0), (59, 8, 0, 0), (65, 3, 192, 0), (71, 3, 10, 0)]
def RT2 : List (Nat × Nat × Nat × Nat) := [(3, 7, 0, 0), (9, 5, 5, 0), (11, 3, 25, 0), (14, 0, 2, 0), (20, 0, 2, 1), (23, 0, 2, 2), (26, 0, 2, 3), (30, 5, 6, 0), (32, 4, 31, 0), (33, 0, 2, 4), (37, 3, 29, 0), (41, 8, 0, 0), (47, 3, 33, 0), (50, 3, 30, 0), (54, 4, 102, 0), (58, 0, 6, 0), (61, 0, 6, 1)]
def RT3 : List (Nat × Nat × Nat × Nat) := [(3, 7, 0, 0), (9, 0, 3, 2), (15, 0, 3, 3), (18, 0, 3, 0), (22, 5, 7, 0), (24, 0, 3, 1), (28, 3, 41, 0), (31, 0, 3, 4), (35, 0, 3, 6), (38, 3, 42, 0), (41, 3, 43, 0), (44, 3, 17, 0), (48, 3, 20, 0), (52, 0, 2, 2), (58, 0, 5, 2), (63, 3, 18, 0), (67, 3, 44, 0), (71, 3, 19, 0), (75, 0, 7, 6), (78, 0, 5, 0), (82, 0, 2, 3), (85, 3, 58, 0), (89, 3, 57, 0), (92, 3, 47, 0), (95, 3, 48, 0), (98, 3, 49, 0), (101, 0, 7, 8), (104, 0, 7, 1), (107, 0, 3, 5), (108, 8, 0, 0)]
def RT4 : List (Nat × Nat × Nat × Nat) := [(3, 7, 0, 0), (9, 0, 4, 0), (15, 0, 4, 1), (18, 0, 4, 2), (21, 0, 4, 3), (25, 3, 37, 0), (31, 0, 6, 1), (34, 3, 38, 0), (37, 3, 23, 0), (41, 3, 24, 0), (45, 9, 4, 0), (47, 3, 39, 0), (51, 3, 40, 0), (55, 9, 0, 0), (57, 9, 1, 0), (59, 9, 2, 0), (61, 9, 3, 0)]
def RT5 : List (Nat × Nat × Nat × Nat) := [(1, 7, 0, 0), (7, 10, 0, 0), (9, 0, 5, 0), (14, 0, 5, 1), (18, 0, 5, 2), (21, 3, 193, 0), (27, 8, 0, 0), (33, 4, 102, 0)]
def RT6 : List (Nat × Nat × Nat × Nat) := [(3, 7, 0, 0), (9, 0, 6, 0), (15, 0, 6, 1), (19, 8, 0, 0), (25, 3, 34, 0), (29, 3, 35, 0), (32, 3, 36, 0), (35, 3, 182, 0), (40, 3, 183, 0)]
def RT7 : List (Nat × Nat × Nat × Nat) := [(3, 7, 0, 0), (9, 0, 7, 1), (15, 0, 7, 2), (18, 0, 7, 3), (21, 0, 7, 4), (24, 0, 7, 5), (27, 0, 7, 0), (31, 3, 193, 0), (37, 0, 2, 1), (43, 3, 26, 0), (49, 0, 5, 0), (53, 0, 7, 6), (57, 0, 7, 7), (60, 0, 7, 8), (63, 0, 7, 9), (66, 8, 0, 0), (72, 0, 4, 3), (77, 0, 4, 0), (80, 0, 4, 1), (83, 0, 4, 2), (84, 3, 46, 0), (88, 3, 47, 0), (91, 3, 48, 0), (94, 3, 49, 0), (98, 3, 56, 0), (102, 0, 2, 0), (105, 0, 2, 3), (108, 3, 180, 0), (114, 3, 54, 0), (117, 3, 51, 0), (120, 3, 52, 0), (123, 3, 53, 0), (126, 0, 5, 2), (127, 0, 2, 2), (129, 3, 55, 0), (133, 3, 58, 0), (136, 3, 60, 0), (139, 3, 59, 0), (143, 3, 14, 0)]
def RT8 : List (Nat × Nat × Nat × Nat) := [(3, 7, 0, 0), (9, 5, 2, 0), (11, 4, 11, 0), (12, 0, 8, 0), (16, 0, 8, 1), (20, 0, 8, 2), (24, 5, 4, 0), (26, 4, 21, 0), (27, 0, 8, 3), (31, 5, 7, 0), (33, 3, 41, 0), (36, 0, 8, 4), (40, 5, 3, 0), (42, 3, 15, 0), (43, 0, 8, 5), (47, 5, 1, 0), (49, 0, 2, 2), (53, 3, 3, 0), (56, 0, 8, 6), (60, 5, 0, 0), (62, 4, 0, 0), (63, 0, 8, 7), (67, 0, 2, 0), (70, 0, 5, 2), (76, 3, 101, 0), (80, 3, 27, 0), (84, 3, 28, 0), (88, 0, 5, 0), (92, 0, 2, 1), (95, 3, 65, 0), (99, 0, 2, 3), (103, 3, 26, 0), (107, 3, 76, 0), (110, 0, 2, 4), (114, 0, 6, 1), (119, 3, 32, 0), (122, 3, 22, 0), (126, 3, 78, 0), (129, 3, 79, 0), (133, 0, 7, 1), (136, 3, 77, 0), (139, 3, 50, 0), (143, 3, 43, 0), (146, 3, 45, 0), (150, 3, 42, 0), (153, 0, 7, 9), (156, 0, 7, 8), (159, 0, 7, 7), (162, 0, 7, 6), (165, 3, 4, 0), (168, 0, 1, 3), (169, 0, 1, 2), (172, 0, 1, 4), (176, 0, 1, 5), (179, 3, 1, 0), (183, 3, 5, 0), (186, 3, 9, 0), (189, 0, 1, 6), (193, 0, 1, 7), (196, 3, 90, 0), (199, 3, 91, 0), (202, 3, 16, 0), (205, 0, 3, 5), (206, 0, 3, 3), (207, 3, 92, 0), (211, 3, 93, 0), (215, 3, 94, 0), (219, 3, 180, 0), (225, 3, 14, 0), (229, 0, 0, 0), (230, 0, 0, 1), (231, 6, 0, 0), (233, 3, 100, 0), (236, 3, 12, 0), (239, 6, 1, 0), (241, 6, 2, 0), (243, 3, 98, 0), (246, 3, 13, 0)]
def RT9 : List (Nat × Nat × Nat × Nat) := [(1, 7, 0, 0), (7, 0, 9, 0), (13, 0, 9, 1), (16, 0, 9, 2), (20, 0, 9, 4), (24, 0, 9, 12), (27, 0, 9, 16), (30, 0, 9, 17), (33, 0, 9, 18), (36, 0, 9, 19), (39, 0, 9, 20), (42, 0, 9, 21), (45, 0, 9, 22), (48, 0, 9, 24), (51, 0, 9, 25), (54, 0, 9, 29), (58, 0, 9, 30), (61, 0, 9, 31), (64, 0, 9, 32), (67, 3, 105, 0), (71, 3, 104, 0), (75, 3, 106, 0), (78, 3, 107, 0), (81, 6, 3, 0), (83, 6, 4, 0), (85, 6, 5, 0), (87, 6, 6, 0), (89, 6, 7, 0), (91, 3, 109, 0), (95, 6, 8, 0), (97, 6, 9, 0), (99, 3, 108, 0), (102, 3, 117, 0), (106, 3, 113, 0), (110, 3, 110, 0), (113, 6, 10, 0), (115, 6, 11, 0), (117, 6, 12, 0), (119, 6, 13, 0), (121, 3, 112, 0), (125, 3, 123, 0), (128, 6, 14, 0), (130, 3, 124, 0), (133, 6, 15, 0), (135, 6, 16, 0), (137, 6, 17, 0), (139, 6, 18, 0), (141, 6, 19, 0), (143, 0, 9, 5), (147, 3, 125, 0), (150, 0, 9, 6), (153, 0, 9, 7), (156, 3, 128, 0), (159, 3, 129, 0), (162, 0, 9, 8), (165, 3, 130, 0), (169, 3, 132, 0), (173, 0, 9, 9), (176, 3, 131, 0), (180, 0, 9, 10), (183, 0, 9, 11), (186, 3, 133, 0), (189, 3, 134, 0), (192, 0, 9, 13), (195, 0, 9, 14), (198, 0, 9, 15), (201, 3, 114, 0), (204, 3, 139, 0), (207, 3, 140, 0), (210, 3, 111, 0), (213, 3, 138, 0), (216, 3, 141, 0), (219, 3, 142, 0), (222, 3, 144, 0), (225, 3, 145, 0), (228, 3, 137, 0), (231, 0, 9, 23), (234, 3, 143, 0), (238, 3, 146, 0), (241, 6, 20, 0), (243, 3, 149, 0), (246, 3, 136, 0), (249, 3, 147, 0), (252, 3, 148, 0), (255, 0, 9, 26), (258, 0, 9, 27), (261, 0, 9, 28), (264, 3, 154, 0), (267, 3, 155, 0), (270, 0, 9, 3), (273, 3, 153, 0), (276, 3, 156, 0), (280, 3, 160, 0), (283, 0, 9, 33), (286, 3, 159, 0), (289, 6, 21, 0), (291, 3, 162, 0), (294, 6, 0, 0), (296, 3, 163, 0), (300, 3, 161, 0), (303, 3, 167, 0), (307, 6, 22, 0), (309, 3, 171, 0), (312, 6, 23, 0), (314, 6, 2, 0), (316, 6, 1, 0), (318, 3, 177, 0), (321, 3, 178, 0)]
def RT10 : List (Nat × Nat × Nat × Nat) := [(7, 5, 8, 0), (9, 3, 61, 0), (10, 5, 9, 0), (12, 3, 103, 0), (13, 3, 62, 0), (17, 3, 115, 0), (18, 3, 63, 0), (21, 3, 116, 0), (22, 3, 64, 0), (25, 3, 118, 0), (26, 3, 66, 0), (30, 3, 119, 0), (31, 3, 67, 0), (35, 3, 120, 0), (36, 3, 68, 0), (40, 3, 121, 0), (41, 3, 69, 0), (44, 3, 122, 0), (45, 6, 24, 0), (47, 3, 70, 0), (51, 3, 126, 0), (52, 3, 71, 0), (56, 3, 127, 0), (57, 3, 72, 0), (60, 3, 135, 0), (61, 3, 73, 0), (64, 3, 150, 0), (65, 3, 74, 0), (68, 3, 151, 0), (69, 3, 75, 0), (72, 3, 152, 0), (73, 3, 80, 0), (76, 3, 157, 0), (77, 3, 81, 0), (80, 3, 158, 0), (81, 3, 82, 0), (84, 3, 164, 0), (85, 3, 83, 0), (88, 3, 165, 0), (89, 3, 84, 0), (92, 3, 166, 0), (93, 3, 85, 0), (96, 3, 168, 0), (97, 3, 86, 0), (100, 3, 169, 0), (101, 3, 87, 0), (104, 3, 170, 0), (105, 3, 88, 0), (109, 3, 172, 0), (110, 3, 89, 0), (113, 3, 173, 0), (114, 3, 95, 0), (118, 3, 174, 0), (119, 3, 96, 0), (122, 3, 175, 0), (123, 3, 97, 0), (126, 3, 176, 0), (127, 3, 98, 0), (130, 3, 177, 0), (131, 3, 99, 0), (135, 3, 179, 0)]
def RT20 : List (Nat × Nat × Nat × Nat) := [(9, 1, 1, 0), (15, 1, 0, 0), (38, 2, 0, 0), (335, 3, 184, 0), (492, 3, 185, 0), (495, 3, 187, 0), (498, 3, 190, 0), (1053, 2, 1, 0), (1059, 3, 194, 0)]
def RT21 : List (Nat × Nat × Nat × Nat) := [(9, 3, 186, 0)]
def RT22 : List (Nat × Nat × Nat × Nat) := [(48, 3, 189, 0), (67, 3, 191, 0), (71, 3, 188, 0), (414, 3, 186, 0)]
def RT : Nat → List (Nat × Nat × Nat × Nat) := fun c => match c with
  | 0 => RT0
  | 1 => RT1
  | 2 => RT2
  | 3 => RT3
  | 4 => RT4
  | 5 => RT5
  | 6 => RT6
  | 7 => RT7
  | 8 => RT8
  | 9 => RT9
  | 10 => RT10
  | 20 => RT20
  | 21 => RT21
  | 22 => RT22
  | _ => []
def rs (own idx : Nat) : Nat × Nat × Nat := match (RT own).find? (fun e => e.1 == idx) with | some e => e.2 | none => (99, 0, 0)
/-- the word that an entry stands on -/
def wOf (own : Nat) (e : Nat × Nat × Nat × Nat) : Cond := match e.2.1 with
  | 0 => .fieldLink (RN own) e.1 (TC e.2.2.1 e.2.2.2).1 (TC e.2.2.1 e.2.2.2).2.1 (TC e.2.2.1 e.2.2.2).2.2.1
  | 1 => if e.2.2.1 = 0 then .fieldLink (RN own) e.1 "java/lang/String" "coder" "B" else .fieldLink (RN own) e.1 "java/lang/String" "value" "[B"
  | 2 => if e.2.2.1 = 0 then .fieldLink (RN own) e.1 "java/lang/String" "COMPACT_STRINGS" "Z" else .fieldLink (RN own) e.1 "jdk/internal/util/Preconditions" "SIOOBE_FORMATTER" "Ljava/util/function/BiFunction;"
  | 3 => .methodLink (RN own) e.1 (mN e.2.2.1)
  | 4 => .methodLinkNest (RN own) e.1 (mN e.2.2.1) RX8
  | 5 => .classLink (RN own) e.1 (RN e.2.2.1)
  | 6 => .constantLong (RN own) e.1 (LV.getD e.2.2.1 0)
  | 7 => .methodLink (RN own) e.1 objectInit
  | 8 => .methodLink (RN own) e.1 arraycopyName
  | 9 => .stringRef (RN own) e.1 (SV.getD e.2.2.1 "")
  | _ => .classLink (RN own) e.1 "[[I"
theorem RTin0 : RT0.map (wOf 0) = [318, 319, 321, 639, 642].filterMap (fun i => lw_tbl[i]?) := by decide +kernel
theorem RTin1 : RT1.map (wOf 1) = [280, 282, 283, 291, 293, 281, 285, 115, 108, 621, 287, 289, 624, 631, 628, 657, 660].filterMap (fun i => lw_tbl[i]?) := by decide +kernel
theorem RTin2 : RT2.map (wOf 2) = [98, 99, 101, 144, 147, 150, 154, 126, 129, 158, 771, 776, 777, 801, 808, 134, 137].filterMap (fun i => lw_tbl[i]?) := by decide +kernel
theorem RTin3 : RT3.map (wOf 3) = [247, 253, 254, 251, 248, 252, 250, 256, 259, 679, 680, 681, 684, 152, 116, 689, 694, 699, 212, 111, 156, 693, 702, 710, 711, 712, 217, 205, 257, 688].filterMap (fun i => lw_tbl[i]?) := by decide +kernel
theorem RTin4 : RT4.map (wOf 4) = [178, 179, 181, 183, 185, 426, 136, 434, 446, 450, 510, 455, 511, 454, 507, 508, 509].filterMap (fun i => lw_tbl[i]?) := by decide +kernel
theorem RTin5 : RT5.map (wOf 5) = [104, 105, 107, 112, 113, 368, 775, 805].filterMap (fun i => lw_tbl[i]?) := by decide +kernel
theorem RTin6 : RT6.map (wOf 6) = [132, 133, 135, 781, 430, 438, 442, 459, 469].filterMap (fun i => lw_tbl[i]?) := by decide +kernel
theorem RTin7 : RT7.map (wOf 7) = [202, 204, 207, 208, 209, 210, 203, 532, 149, 537, 110, 211, 214, 216, 219, 698, 186, 180, 182, 184, 542, 546, 577, 553, 581, 146, 157, 550, 569, 557, 561, 565, 117, 153, 573, 585, 589, 706, 593].filterMap (fun i => lw_tbl[i]?) := by decide +kernel
theorem RTin8 : RT8.map (wOf 8) = [90, 93, 95, 328, 329, 330, 172, 175, 331, 197, 199, 332, 242, 244, 333, 275, 151, 277, 334, 313, 315, 335, 145, 114, 357, 360, 364, 109, 148, 379, 155, 383, 407, 159, 138, 410, 422, 520, 597, 206, 524, 609, 533, 538, 528, 220, 218, 215, 213, 617, 286, 284, 288, 290, 635, 649, 653, 292, 294, 668, 671, 675, 258, 255, 717, 729, 745, 750, 749, 320, 322, 759, 764, 767, 794, 795, 796, 797].filterMap (fun i => lw_tbl[i]?) := by decide +kernel
theorem RTin9 : RT9.map (wOf 9) = [814, 815, 816, 817, 819, 827, 831, 832, 833, 834, 835, 836, 837, 839, 840, 844, 845, 846, 847, 922, 927, 936, 968, 926, 934, 935, 948, 949, 950, 954, 955, 956, 944, 960, 976, 980, 981, 986, 987, 992, 1000, 1003, 1004, 1008, 1032, 1033, 1037, 1038, 820, 1025, 821, 822, 1029, 1034, 823, 1021, 1043, 824, 1047, 825, 826, 1039, 1017, 828, 829, 830, 1092, 1088, 1084, 1076, 1100, 1080, 1096, 1108, 1112, 1068, 838, 1072, 1104, 1055, 1056, 1060, 1064, 1116, 841, 842, 843, 1136, 1140, 818, 1132, 1144, 1173, 848, 1169, 1159, 1156, 1160, 1161, 1165, 1189, 1205, 1206, 1230, 1236, 1235, 1237, 1238].filterMap (fun i => lw_tbl[i]?) := by decide +kernel
theorem RTin10 : RT10.map (wOf 10) = [85, 87, 809, 811, 353, 918, 371, 930, 375, 940, 387, 964, 391, 972, 395, 982, 399, 988, 1242, 403, 996, 414, 1009, 418, 1013, 516, 1051, 601, 1120, 605, 1124, 613, 1128, 645, 1148, 664, 1152, 713, 1177, 721, 1181, 725, 1185, 733, 1193, 737, 1197, 741, 1201, 751, 1210, 755, 1214, 760, 1218, 782, 1222, 786, 1226, 790, 1231].filterMap (fun i => lw_tbl[i]?) := by decide +kernel
theorem RTin20 : RT20.map (wOf 20) = [1243, 1244, 467, 463, 473, 477, 488, 483, 485].filterMap (fun i => lw_tbl[i]?) := by decide +kernel
theorem RTin21 : RT21.map (wOf 21) = [480].filterMap (fun i => lw_tbl[i]?) := by decide +kernel
theorem RTin22 : RT22.map (wOf 22) = [494, 491, 498, 497].filterMap (fun i => lw_tbl[i]?) := by decide +kernel
def gw1 : Nat × Nat × Nat × Nat → Bool := fun e => !(e.2.1 == 4 || e.2.1 == 9)
def GWr : List Cond := (RT0.filter gw1).map (wOf 0) ++ (RT1.filter gw1).map (wOf 1) ++ (RT2.filter gw1).map (wOf 2) ++ (RT3.filter gw1).map (wOf 3) ++ (RT4.filter gw1).map (wOf 4) ++ (RT5.filter gw1).map (wOf 5) ++ (RT6.filter gw1).map (wOf 6) ++ (RT7.filter gw1).map (wOf 7) ++ (RT8.filter gw1).map (wOf 8) ++ (RT9.filter gw1).map (wOf 9) ++ (RT10.filter gw1).map (wOf 10) ++ (RT20.filter gw1).map (wOf 20) ++ (RT21.filter gw1).map (wOf 21) ++ (RT22.filter gw1).map (wOf 22)
def wcode (y : Nat) : Cond := .code (mN y) (mB y) (mL y) (mR y)
def GWc : List Cond := (List.range 195).map wcode
set_option maxRecDepth 200000 in
theorem wc0 : wcode 0 ∈ lw_tbl := List.mem_of_getElem? (i := 317) rfl
set_option maxRecDepth 200000 in
theorem wc1 : wcode 1 ∈ lw_tbl := List.mem_of_getElem? (i := 638) rfl
set_option maxRecDepth 200000 in
theorem wc2 : wcode 2 ∈ lw_tbl := List.mem_of_getElem? (i := 641) rfl
set_option maxRecDepth 200000 in
theorem wc3 : wcode 3 ∈ lw_tbl := List.mem_of_getElem? (i := 279) rfl
set_option maxRecDepth 200000 in
theorem wc4 : wcode 4 ∈ lw_tbl := List.mem_of_getElem? (i := 620) rfl
set_option maxRecDepth 200000 in
theorem wc5 : wcode 5 ∈ lw_tbl := List.mem_of_getElem? (i := 652) rfl
set_option maxRecDepth 200000 in
theorem wc6 : wcode 6 ∈ lw_tbl := List.mem_of_getElem? (i := 623) rfl
set_option maxRecDepth 200000 in
theorem wc7 : wcode 7 ∈ lw_tbl := List.mem_of_getElem? (i := 634) rfl
set_option maxRecDepth 200000 in
theorem wc8 : wcode 8 ∈ lw_tbl := List.mem_of_getElem? (i := 627) rfl
set_option maxRecDepth 200000 in
theorem wc9 : wcode 9 ∈ lw_tbl := List.mem_of_getElem? (i := 656) rfl
set_option maxRecDepth 200000 in
theorem wc10 : wcode 10 ∈ lw_tbl := List.mem_of_getElem? (i := 663) rfl
set_option maxRecDepth 200000 in
theorem wc11 : wcode 11 ∈ lw_tbl := List.mem_of_getElem? (i := 97) rfl
set_option maxRecDepth 200000 in
theorem wc12 : wcode 12 ∈ lw_tbl := List.mem_of_getElem? (i := 770) rfl
set_option maxRecDepth 200000 in
theorem wc13 : wcode 13 ∈ lw_tbl := List.mem_of_getElem? (i := 800) rfl
set_option maxRecDepth 200000 in
theorem wc14 : wcode 14 ∈ lw_tbl := List.mem_of_getElem? (i := 596) rfl
set_option maxRecDepth 200000 in
theorem wc15 : wcode 15 ∈ lw_tbl := List.mem_of_getElem? (i := 246) rfl
set_option maxRecDepth 200000 in
theorem wc16 : wcode 16 ∈ lw_tbl := List.mem_of_getElem? (i := 678) rfl
set_option maxRecDepth 200000 in
theorem wc17 : wcode 17 ∈ lw_tbl := List.mem_of_getElem? (i := 683) rfl
set_option maxRecDepth 200000 in
theorem wc18 : wcode 18 ∈ lw_tbl := List.mem_of_getElem? (i := 692) rfl
set_option maxRecDepth 200000 in
theorem wc19 : wcode 19 ∈ lw_tbl := List.mem_of_getElem? (i := 701) rfl
set_option maxRecDepth 200000 in
theorem wc20 : wcode 20 ∈ lw_tbl := List.mem_of_getElem? (i := 687) rfl
set_option maxRecDepth 200000 in
theorem wc21 : wcode 21 ∈ lw_tbl := List.mem_of_getElem? (i := 177) rfl
set_option maxRecDepth 200000 in
theorem wc22 : wcode 22 ∈ lw_tbl := List.mem_of_getElem? (i := 425) rfl
set_option maxRecDepth 200000 in
theorem wc23 : wcode 23 ∈ lw_tbl := List.mem_of_getElem? (i := 449) rfl
set_option maxRecDepth 200000 in
theorem wc24 : wcode 24 ∈ lw_tbl := List.mem_of_getElem? (i := 453) rfl
set_option maxRecDepth 200000 in
theorem wc25 : wcode 25 ∈ lw_tbl := List.mem_of_getElem? (i := 103) rfl
set_option maxRecDepth 200000 in
theorem wc26 : wcode 26 ∈ lw_tbl := List.mem_of_getElem? (i := 386) rfl
set_option maxRecDepth 200000 in
theorem wc27 : wcode 27 ∈ lw_tbl := List.mem_of_getElem? (i := 363) rfl
set_option maxRecDepth 200000 in
theorem wc28 : wcode 28 ∈ lw_tbl := List.mem_of_getElem? (i := 367) rfl
set_option maxRecDepth 200000 in
theorem wc29 : wcode 29 ∈ lw_tbl := List.mem_of_getElem? (i := 774) rfl
set_option maxRecDepth 200000 in
theorem wc30 : wcode 30 ∈ lw_tbl := List.mem_of_getElem? (i := 804) rfl
set_option maxRecDepth 200000 in
theorem wc31 : wcode 31 ∈ lw_tbl := List.mem_of_getElem? (i := 131) rfl
set_option maxRecDepth 200000 in
theorem wc32 : wcode 32 ∈ lw_tbl := List.mem_of_getElem? (i := 413) rfl
set_option maxRecDepth 200000 in
theorem wc33 : wcode 33 ∈ lw_tbl := List.mem_of_getElem? (i := 780) rfl
set_option maxRecDepth 200000 in
theorem wc34 : wcode 34 ∈ lw_tbl := List.mem_of_getElem? (i := 433) rfl
set_option maxRecDepth 200000 in
theorem wc35 : wcode 35 ∈ lw_tbl := List.mem_of_getElem? (i := 441) rfl
set_option maxRecDepth 200000 in
theorem wc36 : wcode 36 ∈ lw_tbl := List.mem_of_getElem? (i := 445) rfl
set_option maxRecDepth 200000 in
theorem wc37 : wcode 37 ∈ lw_tbl := List.mem_of_getElem? (i := 429) rfl
set_option maxRecDepth 200000 in
theorem wc38 : wcode 38 ∈ lw_tbl := List.mem_of_getElem? (i := 437) rfl
set_option maxRecDepth 200000 in
theorem wc39 : wcode 39 ∈ lw_tbl := List.mem_of_getElem? (i := 458) rfl
set_option maxRecDepth 200000 in
theorem wc40 : wcode 40 ∈ lw_tbl := List.mem_of_getElem? (i := 514) rfl
set_option maxRecDepth 200000 in
theorem wc41 : wcode 41 ∈ lw_tbl := List.mem_of_getElem? (i := 201) rfl
set_option maxRecDepth 200000 in
theorem wc42 : wcode 42 ∈ lw_tbl := List.mem_of_getElem? (i := 531) rfl
set_option maxRecDepth 200000 in
theorem wc43 : wcode 43 ∈ lw_tbl := List.mem_of_getElem? (i := 536) rfl
set_option maxRecDepth 200000 in
theorem wc44 : wcode 44 ∈ lw_tbl := List.mem_of_getElem? (i := 697) rfl
set_option maxRecDepth 200000 in
theorem wc45 : wcode 45 ∈ lw_tbl := List.mem_of_getElem? (i := 541) rfl
set_option maxRecDepth 200000 in
theorem wc46 : wcode 46 ∈ lw_tbl := List.mem_of_getElem? (i := 545) rfl
set_option maxRecDepth 200000 in
theorem wc47 : wcode 47 ∈ lw_tbl := List.mem_of_getElem? (i := 549) rfl
set_option maxRecDepth 200000 in
theorem wc48 : wcode 48 ∈ lw_tbl := List.mem_of_getElem? (i := 580) rfl
set_option maxRecDepth 200000 in
theorem wc49 : wcode 49 ∈ lw_tbl := List.mem_of_getElem? (i := 556) rfl
set_option maxRecDepth 200000 in
theorem wc50 : wcode 50 ∈ lw_tbl := List.mem_of_getElem? (i := 612) rfl
set_option maxRecDepth 200000 in
theorem wc51 : wcode 51 ∈ lw_tbl := List.mem_of_getElem? (i := 560) rfl
set_option maxRecDepth 200000 in
theorem wc52 : wcode 52 ∈ lw_tbl := List.mem_of_getElem? (i := 564) rfl
set_option maxRecDepth 200000 in
theorem wc53 : wcode 53 ∈ lw_tbl := List.mem_of_getElem? (i := 568) rfl
set_option maxRecDepth 200000 in
theorem wc54 : wcode 54 ∈ lw_tbl := List.mem_of_getElem? (i := 572) rfl
set_option maxRecDepth 200000 in
theorem wc55 : wcode 55 ∈ lw_tbl := List.mem_of_getElem? (i := 576) rfl
set_option maxRecDepth 200000 in
theorem wc56 : wcode 56 ∈ lw_tbl := List.mem_of_getElem? (i := 584) rfl
set_option maxRecDepth 200000 in
theorem wc57 : wcode 57 ∈ lw_tbl := List.mem_of_getElem? (i := 705) rfl
set_option maxRecDepth 200000 in
theorem wc58 : wcode 58 ∈ lw_tbl := List.mem_of_getElem? (i := 588) rfl
set_option maxRecDepth 200000 in
theorem wc59 : wcode 59 ∈ lw_tbl := List.mem_of_getElem? (i := 709) rfl
set_option maxRecDepth 200000 in
theorem wc60 : wcode 60 ∈ lw_tbl := List.mem_of_getElem? (i := 592) rfl
set_option maxRecDepth 200000 in
theorem wc61 : wcode 61 ∈ lw_tbl := List.mem_of_getElem? (i := 89) rfl
set_option maxRecDepth 200000 in
theorem wc62 : wcode 62 ∈ lw_tbl := List.mem_of_getElem? (i := 356) rfl
set_option maxRecDepth 200000 in
theorem wc63 : wcode 63 ∈ lw_tbl := List.mem_of_getElem? (i := 374) rfl
set_option maxRecDepth 200000 in
theorem wc64 : wcode 64 ∈ lw_tbl := List.mem_of_getElem? (i := 378) rfl
set_option maxRecDepth 200000 in
theorem wc65 : wcode 65 ∈ lw_tbl := List.mem_of_getElem? (i := 382) rfl
set_option maxRecDepth 200000 in
theorem wc66 : wcode 66 ∈ lw_tbl := List.mem_of_getElem? (i := 390) rfl
set_option maxRecDepth 200000 in
theorem wc67 : wcode 67 ∈ lw_tbl := List.mem_of_getElem? (i := 394) rfl
set_option maxRecDepth 200000 in
theorem wc68 : wcode 68 ∈ lw_tbl := List.mem_of_getElem? (i := 398) rfl
set_option maxRecDepth 200000 in
theorem wc69 : wcode 69 ∈ lw_tbl := List.mem_of_getElem? (i := 402) rfl
set_option maxRecDepth 200000 in
theorem wc70 : wcode 70 ∈ lw_tbl := List.mem_of_getElem? (i := 406) rfl
set_option maxRecDepth 200000 in
theorem wc71 : wcode 71 ∈ lw_tbl := List.mem_of_getElem? (i := 417) rfl
set_option maxRecDepth 200000 in
theorem wc72 : wcode 72 ∈ lw_tbl := List.mem_of_getElem? (i := 421) rfl
set_option maxRecDepth 200000 in
theorem wc73 : wcode 73 ∈ lw_tbl := List.mem_of_getElem? (i := 519) rfl
set_option maxRecDepth 200000 in
theorem wc74 : wcode 74 ∈ lw_tbl := List.mem_of_getElem? (i := 604) rfl
set_option maxRecDepth 200000 in
theorem wc75 : wcode 75 ∈ lw_tbl := List.mem_of_getElem? (i := 608) rfl
set_option maxRecDepth 200000 in
theorem wc76 : wcode 76 ∈ lw_tbl := List.mem_of_getElem? (i := 409) rfl
set_option maxRecDepth 200000 in
theorem wc77 : wcode 77 ∈ lw_tbl := List.mem_of_getElem? (i := 527) rfl
set_option maxRecDepth 200000 in
theorem wc78 : wcode 78 ∈ lw_tbl := List.mem_of_getElem? (i := 523) rfl
set_option maxRecDepth 200000 in
theorem wc79 : wcode 79 ∈ lw_tbl := List.mem_of_getElem? (i := 600) rfl
set_option maxRecDepth 200000 in
theorem wc80 : wcode 80 ∈ lw_tbl := List.mem_of_getElem? (i := 616) rfl
set_option maxRecDepth 200000 in
theorem wc81 : wcode 81 ∈ lw_tbl := List.mem_of_getElem? (i := 648) rfl
set_option maxRecDepth 200000 in
theorem wc82 : wcode 82 ∈ lw_tbl := List.mem_of_getElem? (i := 667) rfl
set_option maxRecDepth 200000 in
theorem wc83 : wcode 83 ∈ lw_tbl := List.mem_of_getElem? (i := 716) rfl
set_option maxRecDepth 200000 in
theorem wc84 : wcode 84 ∈ lw_tbl := List.mem_of_getElem? (i := 724) rfl
set_option maxRecDepth 200000 in
theorem wc85 : wcode 85 ∈ lw_tbl := List.mem_of_getElem? (i := 728) rfl
set_option maxRecDepth 200000 in
theorem wc86 : wcode 86 ∈ lw_tbl := List.mem_of_getElem? (i := 736) rfl
set_option maxRecDepth 200000 in
theorem wc87 : wcode 87 ∈ lw_tbl := List.mem_of_getElem? (i := 740) rfl
set_option maxRecDepth 200000 in
theorem wc88 : wcode 88 ∈ lw_tbl := List.mem_of_getElem? (i := 744) rfl
set_option maxRecDepth 200000 in
theorem wc89 : wcode 89 ∈ lw_tbl := List.mem_of_getElem? (i := 754) rfl
set_option maxRecDepth 200000 in
theorem wc90 : wcode 90 ∈ lw_tbl := List.mem_of_getElem? (i := 670) rfl
set_option maxRecDepth 200000 in
theorem wc91 : wcode 91 ∈ lw_tbl := List.mem_of_getElem? (i := 674) rfl
set_option maxRecDepth 200000 in
theorem wc92 : wcode 92 ∈ lw_tbl := List.mem_of_getElem? (i := 720) rfl
set_option maxRecDepth 200000 in
theorem wc93 : wcode 93 ∈ lw_tbl := List.mem_of_getElem? (i := 732) rfl
set_option maxRecDepth 200000 in
theorem wc94 : wcode 94 ∈ lw_tbl := List.mem_of_getElem? (i := 748) rfl
set_option maxRecDepth 200000 in
theorem wc95 : wcode 95 ∈ lw_tbl := List.mem_of_getElem? (i := 758) rfl
set_option maxRecDepth 200000 in
theorem wc96 : wcode 96 ∈ lw_tbl := List.mem_of_getElem? (i := 763) rfl
set_option maxRecDepth 200000 in
theorem wc97 : wcode 97 ∈ lw_tbl := List.mem_of_getElem? (i := 785) rfl
set_option maxRecDepth 200000 in
theorem wc98 : wcode 98 ∈ lw_tbl := List.mem_of_getElem? (i := 789) rfl
set_option maxRecDepth 200000 in
theorem wc99 : wcode 99 ∈ lw_tbl := List.mem_of_getElem? (i := 793) rfl
set_option maxRecDepth 200000 in
theorem wc100 : wcode 100 ∈ lw_tbl := List.mem_of_getElem? (i := 766) rfl
set_option maxRecDepth 200000 in
theorem wc101 : wcode 101 ∈ lw_tbl := List.mem_of_getElem? (i := 359) rfl
set_option maxRecDepth 200000 in
theorem wc102 : wcode 102 ∈ lw_tbl := List.mem_of_getElem? (i := 807) rfl
set_option maxRecDepth 200000 in
theorem wc103 : wcode 103 ∈ lw_tbl := List.mem_of_getElem? (i := 813) rfl
set_option maxRecDepth 200000 in
theorem wc104 : wcode 104 ∈ lw_tbl := List.mem_of_getElem? (i := 929) rfl
set_option maxRecDepth 200000 in
theorem wc105 : wcode 105 ∈ lw_tbl := List.mem_of_getElem? (i := 925) rfl
set_option maxRecDepth 200000 in
theorem wc106 : wcode 106 ∈ lw_tbl := List.mem_of_getElem? (i := 939) rfl
set_option maxRecDepth 200000 in
theorem wc107 : wcode 107 ∈ lw_tbl := List.mem_of_getElem? (i := 971) rfl
set_option maxRecDepth 200000 in
theorem wc108 : wcode 108 ∈ lw_tbl := List.mem_of_getElem? (i := 959) rfl
set_option maxRecDepth 200000 in
theorem wc109 : wcode 109 ∈ lw_tbl := List.mem_of_getElem? (i := 953) rfl
set_option maxRecDepth 200000 in
theorem wc110 : wcode 110 ∈ lw_tbl := List.mem_of_getElem? (i := 979) rfl
set_option maxRecDepth 200000 in
theorem wc111 : wcode 111 ∈ lw_tbl := List.mem_of_getElem? (i := 1079) rfl
set_option maxRecDepth 200000 in
theorem wc112 : wcode 112 ∈ lw_tbl := List.mem_of_getElem? (i := 995) rfl
set_option maxRecDepth 200000 in
theorem wc113 : wcode 113 ∈ lw_tbl := List.mem_of_getElem? (i := 963) rfl
set_option maxRecDepth 200000 in
theorem wc114 : wcode 114 ∈ lw_tbl := List.mem_of_getElem? (i := 1095) rfl
set_option maxRecDepth 200000 in
theorem wc115 : wcode 115 ∈ lw_tbl := List.mem_of_getElem? (i := 921) rfl
set_option maxRecDepth 200000 in
theorem wc116 : wcode 116 ∈ lw_tbl := List.mem_of_getElem? (i := 933) rfl
set_option maxRecDepth 200000 in
theorem wc117 : wcode 117 ∈ lw_tbl := List.mem_of_getElem? (i := 947) rfl
set_option maxRecDepth 200000 in
theorem wc118 : wcode 118 ∈ lw_tbl := List.mem_of_getElem? (i := 943) rfl
set_option maxRecDepth 200000 in
theorem wc119 : wcode 119 ∈ lw_tbl := List.mem_of_getElem? (i := 967) rfl
set_option maxRecDepth 200000 in
theorem wc120 : wcode 120 ∈ lw_tbl := List.mem_of_getElem? (i := 975) rfl
set_option maxRecDepth 200000 in
theorem wc121 : wcode 121 ∈ lw_tbl := List.mem_of_getElem? (i := 985) rfl
set_option maxRecDepth 200000 in
theorem wc122 : wcode 122 ∈ lw_tbl := List.mem_of_getElem? (i := 991) rfl
set_option maxRecDepth 200000 in
theorem wc123 : wcode 123 ∈ lw_tbl := List.mem_of_getElem? (i := 1002) rfl
set_option maxRecDepth 200000 in
theorem wc124 : wcode 124 ∈ lw_tbl := List.mem_of_getElem? (i := 1007) rfl
set_option maxRecDepth 200000 in
theorem wc125 : wcode 125 ∈ lw_tbl := List.mem_of_getElem? (i := 1028) rfl
set_option maxRecDepth 200000 in
theorem wc126 : wcode 126 ∈ lw_tbl := List.mem_of_getElem? (i := 999) rfl
set_option maxRecDepth 200000 in
theorem wc127 : wcode 127 ∈ lw_tbl := List.mem_of_getElem? (i := 1012) rfl
set_option maxRecDepth 200000 in
theorem wc128 : wcode 128 ∈ lw_tbl := List.mem_of_getElem? (i := 1031) rfl
set_option maxRecDepth 200000 in
theorem wc129 : wcode 129 ∈ lw_tbl := List.mem_of_getElem? (i := 1036) rfl
set_option maxRecDepth 200000 in
theorem wc130 : wcode 130 ∈ lw_tbl := List.mem_of_getElem? (i := 1024) rfl
set_option maxRecDepth 200000 in
theorem wc131 : wcode 131 ∈ lw_tbl := List.mem_of_getElem? (i := 1050) rfl
set_option maxRecDepth 200000 in
theorem wc132 : wcode 132 ∈ lw_tbl := List.mem_of_getElem? (i := 1046) rfl
set_option maxRecDepth 200000 in
theorem wc133 : wcode 133 ∈ lw_tbl := List.mem_of_getElem? (i := 1042) rfl
set_option maxRecDepth 200000 in
theorem wc134 : wcode 134 ∈ lw_tbl := List.mem_of_getElem? (i := 1020) rfl
set_option maxRecDepth 200000 in
theorem wc135 : wcode 135 ∈ lw_tbl := List.mem_of_getElem? (i := 1016) rfl
set_option maxRecDepth 200000 in
theorem wc136 : wcode 136 ∈ lw_tbl := List.mem_of_getElem? (i := 1063) rfl
set_option maxRecDepth 200000 in
theorem wc137 : wcode 137 ∈ lw_tbl := List.mem_of_getElem? (i := 1071) rfl
set_option maxRecDepth 200000 in
theorem wc138 : wcode 138 ∈ lw_tbl := List.mem_of_getElem? (i := 1103) rfl
set_option maxRecDepth 200000 in
theorem wc139 : wcode 139 ∈ lw_tbl := List.mem_of_getElem? (i := 1091) rfl
set_option maxRecDepth 200000 in
theorem wc140 : wcode 140 ∈ lw_tbl := List.mem_of_getElem? (i := 1087) rfl
set_option maxRecDepth 200000 in
theorem wc141 : wcode 141 ∈ lw_tbl := List.mem_of_getElem? (i := 1083) rfl
set_option maxRecDepth 200000 in
theorem wc142 : wcode 142 ∈ lw_tbl := List.mem_of_getElem? (i := 1099) rfl
set_option maxRecDepth 200000 in
theorem wc143 : wcode 143 ∈ lw_tbl := List.mem_of_getElem? (i := 1075) rfl
set_option maxRecDepth 200000 in
theorem wc144 : wcode 144 ∈ lw_tbl := List.mem_of_getElem? (i := 1111) rfl
set_option maxRecDepth 200000 in
theorem wc145 : wcode 145 ∈ lw_tbl := List.mem_of_getElem? (i := 1115) rfl
set_option maxRecDepth 200000 in
theorem wc146 : wcode 146 ∈ lw_tbl := List.mem_of_getElem? (i := 1107) rfl
set_option maxRecDepth 200000 in
theorem wc147 : wcode 147 ∈ lw_tbl := List.mem_of_getElem? (i := 1067) rfl
set_option maxRecDepth 200000 in
theorem wc148 : wcode 148 ∈ lw_tbl := List.mem_of_getElem? (i := 1119) rfl
set_option maxRecDepth 200000 in
theorem wc149 : wcode 149 ∈ lw_tbl := List.mem_of_getElem? (i := 1059) rfl
set_option maxRecDepth 200000 in
theorem wc150 : wcode 150 ∈ lw_tbl := List.mem_of_getElem? (i := 1054) rfl
set_option maxRecDepth 200000 in
theorem wc151 : wcode 151 ∈ lw_tbl := List.mem_of_getElem? (i := 1123) rfl
set_option maxRecDepth 200000 in
theorem wc152 : wcode 152 ∈ lw_tbl := List.mem_of_getElem? (i := 1127) rfl
set_option maxRecDepth 200000 in
theorem wc153 : wcode 153 ∈ lw_tbl := List.mem_of_getElem? (i := 1135) rfl
set_option maxRecDepth 200000 in
theorem wc154 : wcode 154 ∈ lw_tbl := List.mem_of_getElem? (i := 1139) rfl
set_option maxRecDepth 200000 in
theorem wc155 : wcode 155 ∈ lw_tbl := List.mem_of_getElem? (i := 1143) rfl
set_option maxRecDepth 200000 in
theorem wc156 : wcode 156 ∈ lw_tbl := List.mem_of_getElem? (i := 1147) rfl
set_option maxRecDepth 200000 in
theorem wc157 : wcode 157 ∈ lw_tbl := List.mem_of_getElem? (i := 1131) rfl
set_option maxRecDepth 200000 in
theorem wc158 : wcode 158 ∈ lw_tbl := List.mem_of_getElem? (i := 1151) rfl
set_option maxRecDepth 200000 in
theorem wc159 : wcode 159 ∈ lw_tbl := List.mem_of_getElem? (i := 1172) rfl
set_option maxRecDepth 200000 in
theorem wc160 : wcode 160 ∈ lw_tbl := List.mem_of_getElem? (i := 1176) rfl
set_option maxRecDepth 200000 in
theorem wc161 : wcode 161 ∈ lw_tbl := List.mem_of_getElem? (i := 1168) rfl
set_option maxRecDepth 200000 in
theorem wc162 : wcode 162 ∈ lw_tbl := List.mem_of_getElem? (i := 1158) rfl
set_option maxRecDepth 200000 in
theorem wc163 : wcode 163 ∈ lw_tbl := List.mem_of_getElem? (i := 1164) rfl
set_option maxRecDepth 200000 in
theorem wc164 : wcode 164 ∈ lw_tbl := List.mem_of_getElem? (i := 1155) rfl
set_option maxRecDepth 200000 in
theorem wc165 : wcode 165 ∈ lw_tbl := List.mem_of_getElem? (i := 1180) rfl
set_option maxRecDepth 200000 in
theorem wc166 : wcode 166 ∈ lw_tbl := List.mem_of_getElem? (i := 1184) rfl
set_option maxRecDepth 200000 in
theorem wc167 : wcode 167 ∈ lw_tbl := List.mem_of_getElem? (i := 1192) rfl
set_option maxRecDepth 200000 in
theorem wc168 : wcode 168 ∈ lw_tbl := List.mem_of_getElem? (i := 1188) rfl
set_option maxRecDepth 200000 in
theorem wc169 : wcode 169 ∈ lw_tbl := List.mem_of_getElem? (i := 1196) rfl
set_option maxRecDepth 200000 in
theorem wc170 : wcode 170 ∈ lw_tbl := List.mem_of_getElem? (i := 1200) rfl
set_option maxRecDepth 200000 in
theorem wc171 : wcode 171 ∈ lw_tbl := List.mem_of_getElem? (i := 1209) rfl
set_option maxRecDepth 200000 in
theorem wc172 : wcode 172 ∈ lw_tbl := List.mem_of_getElem? (i := 1204) rfl
set_option maxRecDepth 200000 in
theorem wc173 : wcode 173 ∈ lw_tbl := List.mem_of_getElem? (i := 1213) rfl
set_option maxRecDepth 200000 in
theorem wc174 : wcode 174 ∈ lw_tbl := List.mem_of_getElem? (i := 1217) rfl
set_option maxRecDepth 200000 in
theorem wc175 : wcode 175 ∈ lw_tbl := List.mem_of_getElem? (i := 1221) rfl
set_option maxRecDepth 200000 in
theorem wc176 : wcode 176 ∈ lw_tbl := List.mem_of_getElem? (i := 1225) rfl
set_option maxRecDepth 200000 in
theorem wc177 : wcode 177 ∈ lw_tbl := List.mem_of_getElem? (i := 1229) rfl
set_option maxRecDepth 200000 in
theorem wc178 : wcode 178 ∈ lw_tbl := List.mem_of_getElem? (i := 1241) rfl
set_option maxRecDepth 200000 in
theorem wc179 : wcode 179 ∈ lw_tbl := List.mem_of_getElem? (i := 1234) rfl
set_option maxRecDepth 200000 in
theorem wc180 : wcode 180 ∈ lw_tbl := List.mem_of_getElem? (i := 552) rfl
set_option maxRecDepth 200000 in
theorem wc181 : wcode 181 ∈ lw_tbl := List.mem_of_getElem? (i := 644) rfl
set_option maxRecDepth 200000 in
theorem wc182 : wcode 182 ∈ lw_tbl := List.mem_of_getElem? (i := 462) rfl
set_option maxRecDepth 200000 in
theorem wc183 : wcode 183 ∈ lw_tbl := List.mem_of_getElem? (i := 472) rfl
set_option maxRecDepth 200000 in
theorem wc184 : wcode 184 ∈ lw_tbl := List.mem_of_getElem? (i := 466) rfl
set_option maxRecDepth 200000 in
theorem wc185 : wcode 185 ∈ lw_tbl := List.mem_of_getElem? (i := 476) rfl
set_option maxRecDepth 200000 in
theorem wc186 : wcode 186 ∈ lw_tbl := List.mem_of_getElem? (i := 482) rfl
set_option maxRecDepth 200000 in
theorem wc187 : wcode 187 ∈ lw_tbl := List.mem_of_getElem? (i := 479) rfl
set_option maxRecDepth 200000 in
theorem wc188 : wcode 188 ∈ lw_tbl := List.mem_of_getElem? (i := 500) rfl
set_option maxRecDepth 200000 in
theorem wc189 : wcode 189 ∈ lw_tbl := List.mem_of_getElem? (i := 496) rfl
set_option maxRecDepth 200000 in
theorem wc190 : wcode 190 ∈ lw_tbl := List.mem_of_getElem? (i := 490) rfl
set_option maxRecDepth 200000 in
theorem wc191 : wcode 191 ∈ lw_tbl := List.mem_of_getElem? (i := 493) rfl
set_option maxRecDepth 200000 in
theorem wc192 : wcode 192 ∈ lw_tbl := List.mem_of_getElem? (i := 659) rfl
set_option maxRecDepth 200000 in
theorem wc193 : wcode 193 ∈ lw_tbl := List.mem_of_getElem? (i := 370) rfl
set_option maxRecDepth 200000 in
theorem wc194 : wcode 194 ∈ lw_tbl := List.mem_of_getElem? (i := 487) rfl
theorem wc_in : ∀ y : Nat, y < 195 → wcode y ∈ lw_tbl := fun y h => match y, h with
  | 0, _ => wc0
  | 1, _ => wc1
  | 2, _ => wc2
  | 3, _ => wc3
  | 4, _ => wc4
  | 5, _ => wc5
  | 6, _ => wc6
  | 7, _ => wc7
  | 8, _ => wc8
  | 9, _ => wc9
  | 10, _ => wc10
  | 11, _ => wc11
  | 12, _ => wc12
  | 13, _ => wc13
  | 14, _ => wc14
  | 15, _ => wc15
  | 16, _ => wc16
  | 17, _ => wc17
  | 18, _ => wc18
  | 19, _ => wc19
  | 20, _ => wc20
  | 21, _ => wc21
  | 22, _ => wc22
  | 23, _ => wc23
  | 24, _ => wc24
  | 25, _ => wc25
  | 26, _ => wc26
  | 27, _ => wc27
  | 28, _ => wc28
  | 29, _ => wc29
  | 30, _ => wc30
  | 31, _ => wc31
  | 32, _ => wc32
  | 33, _ => wc33
  | 34, _ => wc34
  | 35, _ => wc35
  | 36, _ => wc36
  | 37, _ => wc37
  | 38, _ => wc38
  | 39, _ => wc39
  | 40, _ => wc40
  | 41, _ => wc41
  | 42, _ => wc42
  | 43, _ => wc43
  | 44, _ => wc44
  | 45, _ => wc45
  | 46, _ => wc46
  | 47, _ => wc47
  | 48, _ => wc48
  | 49, _ => wc49
  | 50, _ => wc50
  | 51, _ => wc51
  | 52, _ => wc52
  | 53, _ => wc53
  | 54, _ => wc54
  | 55, _ => wc55
  | 56, _ => wc56
  | 57, _ => wc57
  | 58, _ => wc58
  | 59, _ => wc59
  | 60, _ => wc60
  | 61, _ => wc61
  | 62, _ => wc62
  | 63, _ => wc63
  | 64, _ => wc64
  | 65, _ => wc65
  | 66, _ => wc66
  | 67, _ => wc67
  | 68, _ => wc68
  | 69, _ => wc69
  | 70, _ => wc70
  | 71, _ => wc71
  | 72, _ => wc72
  | 73, _ => wc73
  | 74, _ => wc74
  | 75, _ => wc75
  | 76, _ => wc76
  | 77, _ => wc77
  | 78, _ => wc78
  | 79, _ => wc79
  | 80, _ => wc80
  | 81, _ => wc81
  | 82, _ => wc82
  | 83, _ => wc83
  | 84, _ => wc84
  | 85, _ => wc85
  | 86, _ => wc86
  | 87, _ => wc87
  | 88, _ => wc88
  | 89, _ => wc89
  | 90, _ => wc90
  | 91, _ => wc91
  | 92, _ => wc92
  | 93, _ => wc93
  | 94, _ => wc94
  | 95, _ => wc95
  | 96, _ => wc96
  | 97, _ => wc97
  | 98, _ => wc98
  | 99, _ => wc99
  | 100, _ => wc100
  | 101, _ => wc101
  | 102, _ => wc102
  | 103, _ => wc103
  | 104, _ => wc104
  | 105, _ => wc105
  | 106, _ => wc106
  | 107, _ => wc107
  | 108, _ => wc108
  | 109, _ => wc109
  | 110, _ => wc110
  | 111, _ => wc111
  | 112, _ => wc112
  | 113, _ => wc113
  | 114, _ => wc114
  | 115, _ => wc115
  | 116, _ => wc116
  | 117, _ => wc117
  | 118, _ => wc118
  | 119, _ => wc119
  | 120, _ => wc120
  | 121, _ => wc121
  | 122, _ => wc122
  | 123, _ => wc123
  | 124, _ => wc124
  | 125, _ => wc125
  | 126, _ => wc126
  | 127, _ => wc127
  | 128, _ => wc128
  | 129, _ => wc129
  | 130, _ => wc130
  | 131, _ => wc131
  | 132, _ => wc132
  | 133, _ => wc133
  | 134, _ => wc134
  | 135, _ => wc135
  | 136, _ => wc136
  | 137, _ => wc137
  | 138, _ => wc138
  | 139, _ => wc139
  | 140, _ => wc140
  | 141, _ => wc141
  | 142, _ => wc142
  | 143, _ => wc143
  | 144, _ => wc144
  | 145, _ => wc145
  | 146, _ => wc146
  | 147, _ => wc147
  | 148, _ => wc148
  | 149, _ => wc149
  | 150, _ => wc150
  | 151, _ => wc151
  | 152, _ => wc152
  | 153, _ => wc153
  | 154, _ => wc154
  | 155, _ => wc155
  | 156, _ => wc156
  | 157, _ => wc157
  | 158, _ => wc158
  | 159, _ => wc159
  | 160, _ => wc160
  | 161, _ => wc161
  | 162, _ => wc162
  | 163, _ => wc163
  | 164, _ => wc164
  | 165, _ => wc165
  | 166, _ => wc166
  | 167, _ => wc167
  | 168, _ => wc168
  | 169, _ => wc169
  | 170, _ => wc170
  | 171, _ => wc171
  | 172, _ => wc172
  | 173, _ => wc173
  | 174, _ => wc174
  | 175, _ => wc175
  | 176, _ => wc176
  | 177, _ => wc177
  | 178, _ => wc178
  | 179, _ => wc179
  | 180, _ => wc180
  | 181, _ => wc181
  | 182, _ => wc182
  | 183, _ => wc183
  | 184, _ => wc184
  | 185, _ => wc185
  | 186, _ => wc186
  | 187, _ => wc187
  | 188, _ => wc188
  | 189, _ => wc189
  | 190, _ => wc190
  | 191, _ => wc191
  | 192, _ => wc192
  | 193, _ => wc193
  | 194, _ => wc194
  | n + 195, h => absurd h (by omega)
theorem GWc_in : ∀ w ∈ GWc, w ∈ lw_tbl := by
  intro w hw
  obtain ⟨y, hy, rfl⟩ := List.mem_map.mp hw
  exact wc_in y (List.mem_range.mp hy)
def GWs : List Cond := [2, 6, 17, 19, 76, 90, 100, 101, 102, 104, 123, 128, 129, 162, 180, 181, 186, 187, 188, 189, 190, 191, 192, 193, 194].map (fun y => .static (mN y))
theorem GWs_in : GWs = [640, 622, 682, 700, 408, 669, 765, 358, 806, 928, 1001, 1030, 1035, 1157, 551, 643, 481, 478, 499, 495, 489, 492, 658, 369, 486].filterMap (fun i => lw_tbl[i]?) := by decide +kernel
def GWi : List Cond := [0, 1, 3, 4, 5, 7, 8, 9, 10, 11, 12, 13, 14, 15, 16, 18, 20, 21, 22, 23, 24, 25, 26, 27, 28, 29, 30, 31, 32, 33, 34, 35, 36, 37, 38, 39, 40, 41, 42, 43, 44, 45, 46, 47, 48, 49, 50, 51, 52, 53, 54, 55, 56, 57, 58, 59, 60, 61, 62, 63, 64, 65, 66, 67, 68, 69, 70, 71, 72, 73, 74, 75, 77, 78, 79, 80, 81, 82, 83, 84, 85, 86, 87, 88, 89, 91, 92, 93, 94, 95, 96, 97, 98, 99, 103, 105, 106, 107, 108, 109, 110, 111, 112, 113, 114, 115, 116, 117, 118, 119, 120, 121, 122, 124, 125, 126, 127, 130, 131, 132, 133, 134, 135, 136, 137, 138, 139, 140, 141, 142, 143, 144, 145, 146, 147, 148, 149, 150, 151, 152, 153, 154, 155, 156, 157, 158, 159, 160, 161, 163, 164, 165, 166, 167, 168, 169, 170, 171, 172, 173, 174, 175, 176, 177, 178, 179, 182, 183, 184, 185].map (fun y => .instanceMethod (mN y))
theorem GWi_in : GWi = [316, 636, 278, 618, 650, 633, 626, 654, 662, 96, 768, 798, 594, 245, 676, 691, 686, 176, 423, 448, 452, 102, 384, 361, 365, 772, 802, 130, 411, 778, 431, 439, 443, 427, 435, 456, 512, 200, 529, 534, 695, 539, 544, 547, 578, 554, 610, 559, 563, 567, 571, 575, 583, 703, 586, 708, 591, 88, 354, 372, 376, 381, 388, 392, 396, 400, 404, 415, 419, 517, 602, 606, 526, 522, 599, 614, 646, 665, 714, 722, 726, 734, 738, 742, 752, 673, 719, 731, 747, 756, 761, 783, 787, 791, 812, 924, 938, 970, 958, 952, 978, 1078, 994, 962, 1094, 919, 931, 946, 941, 965, 973, 983, 989, 1006, 1027, 997, 1010, 1023, 1049, 1045, 1041, 1019, 1014, 1062, 1070, 1102, 1090, 1086, 1082, 1098, 1074, 1110, 1114, 1106, 1066, 1118, 1058, 1052, 1121, 1125, 1134, 1138, 1142, 1146, 1129, 1149, 1171, 1175, 1167, 1163, 1153, 1178, 1182, 1191, 1186, 1194, 1198, 1208, 1202, 1211, 1215, 1219, 1223, 1227, 1240, 1232, 460, 470, 464, 474].filterMap (fun i => lw_tbl[i]?) := by decide +kernel
def GWv : List Cond := [1, 4, 5, 7, 8, 9, 10, 12, 13, 14, 16, 18, 20, 22, 23, 24, 26, 27, 28, 29, 30, 32, 33, 34, 35, 36, 37, 38, 39, 40, 42, 43, 44, 45, 46, 47, 48, 49, 50, 51, 52, 53, 54, 55, 56, 57, 58, 59, 60, 62, 63, 64, 65, 66, 67, 68, 69, 70, 71, 72, 73, 74, 75, 77, 78, 79, 80, 81, 82, 83, 84, 85, 86, 87, 88, 89, 91, 92, 93, 94, 95, 96, 97, 98, 99, 105, 106, 107, 108, 109, 110, 111, 112, 113, 114, 115, 116, 117, 118, 119, 120, 121, 122, 124, 125, 126, 127, 130, 131, 132, 133, 134, 135, 136, 137, 138, 139, 140, 141, 142, 143, 144, 145, 146, 147, 148, 149, 150, 151, 152, 153, 154, 155, 156, 157, 158, 159, 160, 161, 163, 164, 165, 166, 167, 168, 169, 170, 171, 172, 173, 174, 175, 176, 177, 178, 179, 182, 183, 184, 185].map (fun y => .selects (RN (mC y)) (mN y) (mN y))
theorem GWv_in : GWv = [637, 619, 651, 15, 14, 655, 16, 769, 799, 595, 677, 19, 18, 424, 1, 2, 385, 362, 366, 773, 803, 412, 779, 432, 440, 444, 428, 436, 457, 513, 530, 535, 696, 540, 5, 548, 579, 555, 611, 6, 7, 8, 9, 10, 11, 704, 587, 20, 12, 355, 373, 377, 0, 389, 393, 397, 401, 405, 416, 420, 518, 603, 607, 4, 3, 13, 615, 647, 666, 715, 723, 727, 735, 739, 743, 753, 17, 21, 22, 23, 757, 762, 784, 788, 792, 24, 25, 30, 28, 27, 31, 45, 32, 29, 49, 920, 932, 26, 942, 966, 974, 984, 990, 33, 36, 998, 1011, 35, 39, 38, 37, 34, 1015, 41, 43, 51, 48, 47, 46, 50, 44, 53, 54, 52, 42, 55, 40, 1053, 1122, 1126, 56, 57, 58, 59, 1130, 1150, 62, 63, 61, 60, 1154, 1179, 1183, 64, 1187, 1195, 1199, 65, 1203, 1212, 1216, 1220, 1224, 1228, 66, 1233, 461, 471, 465, 475].filterMap (fun i => lw_tbl[i]?) := by decide +kernel
def GWn : List Cond := [0, 1, 2, 3, 4, 5, 6, 7, 8, 9, 10, 20, 21, 22, 23, 27, 29, 30].map (fun c => .initialized (RN c))
theorem GWn_in : GWn = [76, 75, 69, 74, 72, 70, 71, 73, 68, 77, 67, 79, 80, 82, 81, 78, 83, 84].filterMap (fun i => lw_tbl[i]?) := by decide +kernel
def GWm : List Cond := (List.range 10).map (fun c => .instantiable (RN c) (NC c))
theorem GWm_in : GWm = [314, 276, 94, 243, 174, 100, 128, 198, 86, 810].filterMap (fun i => lw_tbl[i]?) := by decide +kernel
def GWf : List Cond := (List.range 10).flatMap (fun c => u_ws (RN c) (TC c) (NC c))
theorem GWf_in : GWf = [323, 325, 295, 297, 299, 301, 303, 305, 307, 309, 160, 162, 164, 166, 168, 260, 262, 264, 266, 268, 270, 272, 187, 189, 191, 193, 118, 120, 122, 139, 141, 221, 223, 225, 227, 229, 231, 233, 235, 237, 239, 336, 338, 340, 342, 344, 346, 348, 350, 849, 851, 853, 855, 857, 859, 861, 863, 865, 867, 869, 871, 873, 875, 877, 879, 881, 883, 885, 887, 889, 891, 893, 895, 897, 899, 901, 903, 905, 907, 909, 911, 913, 915].filterMap (fun i => lw_tbl[i]?) := by decide +kernel
def GWx : List Cond := [.arrayClass .int, .arrayClass .boolean, .arrayClass .long, .instanceMethod objectInit, .code objectInit ⟨#[0xb1]⟩ 1 none, .native arraycopyName, .static arraycopyName]
set_option maxRecDepth 200000 in
theorem GWx0 : (.arrayClass .int : Cond) ∈ lw_tbl := List.mem_of_getElem? (i := 125) rfl
set_option maxRecDepth 200000 in
theorem GWx1 : (.arrayClass .boolean : Cond) ∈ lw_tbl := List.mem_of_getElem? (i := 196) rfl
set_option maxRecDepth 200000 in
theorem GWx2 : (.arrayClass .long : Cond) ∈ lw_tbl := List.mem_of_getElem? (i := 312) rfl
set_option maxRecDepth 200000 in
theorem GWx3 : (.instanceMethod objectInit : Cond) ∈ lw_tbl := List.mem_of_getElem? (i := 91) rfl
set_option maxRecDepth 200000 in
theorem GWx4 : (.code objectInit ⟨#[0xb1]⟩ 1 none : Cond) ∈ lw_tbl := List.mem_of_getElem? (i := 92) rfl
set_option maxRecDepth 200000 in
theorem GWx5 : (.native arraycopyName : Cond) ∈ lw_tbl := List.mem_of_getElem? (i := 630) rfl
set_option maxRecDepth 200000 in
theorem GWx6 : (.static arraycopyName : Cond) ∈ lw_tbl := List.mem_of_getElem? (i := 629) rfl
theorem GWx_in : ∀ w ∈ GWx, w ∈ lw_tbl := by
  intro w hw
  simp only [GWx, List.mem_cons, List.not_mem_nil, or_false] at hw
  rcases hw with rfl | rfl | rfl | rfl | rfl | rfl | rfl
  · exact GWx0
  · exact GWx1
  · exact GWx2
  · exact GWx3
  · exact GWx4
  · exact GWx5
  · exact GWx6
def GWl : List Cond := GWr ++ (GWc ++ (GWs ++ (GWi ++ (GWv ++ (GWn ++ (GWm ++ (GWf ++ GWx)))))))
theorem memF {b ws : List Cond} {ps : List Nat} (h : ws = ps.filterMap (fun i => b[i]?)) : ∀ w ∈ ws, w ∈ b := by
  intro w hw
  rw [h] at hw
  obtain ⟨i, -, hi⟩ := List.mem_filterMap.mp hw
  exact List.mem_of_getElem? hi
theorem RT_in : ∀ own : Nat, ∀ e ∈ RT own, wOf own e ∈ lw_tbl := by
  intro own e he
  unfold RT at he
  split at he
  · exact memF RTin0 _ (List.mem_map_of_mem he)
  · exact memF RTin1 _ (List.mem_map_of_mem he)
  · exact memF RTin2 _ (List.mem_map_of_mem he)
  · exact memF RTin3 _ (List.mem_map_of_mem he)
  · exact memF RTin4 _ (List.mem_map_of_mem he)
  · exact memF RTin5 _ (List.mem_map_of_mem he)
  · exact memF RTin6 _ (List.mem_map_of_mem he)
  · exact memF RTin7 _ (List.mem_map_of_mem he)
  · exact memF RTin8 _ (List.mem_map_of_mem he)
  · exact memF RTin9 _ (List.mem_map_of_mem he)
  · exact memF RTin10 _ (List.mem_map_of_mem he)
  · exact memF RTin20 _ (List.mem_map_of_mem he)
  · exact memF RTin21 _ (List.mem_map_of_mem he)
  · exact memF RTin22 _ (List.mem_map_of_mem he)
  · cases he
theorem GWr_in : ∀ w ∈ GWr, w ∈ lw_tbl := by
  intro w hw
  unfold GWr at hw
  simp only [List.mem_append] at hw
  have key : ∀ own : Nat, ∀ w ∈ ((RT own).filter gw1).map (wOf own), w ∈ lw_tbl := fun own w h => by
    obtain ⟨e, he, rfl⟩ := List.mem_map.mp h
    exact RT_in own e (List.mem_filter.mp he).1
  rcases hw with ((((((((((((h | h) | h) | h) | h) | h) | h) | h) | h) | h) | h) | h) | h) | h
  · exact key 0 w h
  · exact key 1 w h
  · exact key 2 w h
  · exact key 3 w h
  · exact key 4 w h
  · exact key 5 w h
  · exact key 6 w h
  · exact key 7 w h
  · exact key 8 w h
  · exact key 9 w h
  · exact key 10 w h
  · exact key 20 w h
  · exact key 21 w h
  · exact key 22 w h
theorem GWl_in : ∀ w ∈ GWl, w ∈ lw_tbl := by
  intro w hw
  unfold GWl at hw
  simp only [List.mem_append] at hw
  rcases hw with h | h | h | h | h | h | h | h | h
  · exact GWr_in w h
  · exact GWc_in w h
  · exact memF GWs_in w h
  · exact memF GWi_in w h
  · exact memF GWv_in w h
  · exact memF GWn_in w h
  · exact memF GWm_in w h
  · exact memF GWf_in w h
  · exact GWx_in w h
theorem GWl_good : GWl.all goodWord = true := by decide +kernel
theorem GWl_gi : GoodIn lw_tbl GWl := goodIn_sub GWl_in GWl_good
theorem cdT_ok : ∀ y : Nat, (cdT y).all (cdp (mB y)) = true := fun y => match y with
  | 0 => cdok0
  | 1 => cdok1
  | 2 => cdok2
  | 3 => cdok3
  | 4 => cdok4
  | 5 => cdok5
  | 6 => cdok6
  | 7 => cdok7
  | 8 => cdok8
  | 9 => cdok9
  | 10 => cdok10
  | 11 => cdok11
  | 12 => cdok12
  | 13 => cdok13
  | 14 => cdok14
  | 15 => cdok15
  | 16 => cdok16
  | 17 => cdok17
  | 18 => cdok18
  | 19 => cdok19
  | 20 => cdok20
  | 21 => cdok21
  | 22 => cdok22
  | 23 => cdok23
  | 24 => cdok24
  | 25 => cdok25
  | 26 => cdok26
  | 27 => cdok27
  | 28 => cdok28
  | 29 => cdok29
  | 30 => cdok30
  | 31 => cdok31
  | 32 => cdok32
  | 33 => cdok33
  | 34 => cdok34
  | 35 => cdok35
  | 36 => cdok36
  | 37 => cdok37
  | 38 => cdok38
  | 39 => cdok39
  | 40 => cdok40
  | 41 => cdok41
  | 42 => cdok42
  | 43 => cdok43
  | 44 => cdok44
  | 45 => cdok45
  | 46 => cdok46
  | 47 => cdok47
  | 48 => cdok48
  | 49 => cdok49
  | 50 => cdok50
  | 51 => cdok51
  | 52 => cdok52
  | 53 => cdok53
  | 54 => cdok54
  | 55 => cdok55
  | 56 => cdok56
  | 57 => cdok57
  | 58 => cdok58
  | 59 => cdok59
  | 60 => cdok60
  | 61 => cdok61
  | 62 => cdok62
  | 63 => cdok63
  | 64 => cdok64
  | 65 => cdok65
  | 66 => cdok66
  | 67 => cdok67
  | 68 => cdok68
  | 69 => cdok69
  | 70 => cdok70
  | 71 => cdok71
  | 72 => cdok72
  | 73 => cdok73
  | 74 => cdok74
  | 75 => cdok75
  | 76 => cdok76
  | 77 => cdok77
  | 78 => cdok78
  | 79 => cdok79
  | 80 => cdok80
  | 81 => cdok81
  | 82 => cdok82
  | 83 => cdok83
  | 84 => cdok84
  | 85 => cdok85
  | 86 => cdok86
  | 87 => cdok87
  | 88 => cdok88
  | 89 => cdok89
  | 90 => cdok90
  | 91 => cdok91
  | 92 => cdok92
  | 93 => cdok93
  | 94 => cdok94
  | 95 => cdok95
  | 96 => cdok96
  | 97 => cdok97
  | 98 => cdok98
  | 99 => cdok99
  | 100 => cdok100
  | 101 => cdok101
  | 102 => cdok102
  | 103 => cdok103
  | 104 => cdok104
  | 105 => cdok105
  | 106 => cdok106
  | 107 => cdok107
  | 108 => cdok108
  | 109 => cdok109
  | 110 => cdok110
  | 111 => cdok111
  | 112 => cdok112
  | 113 => cdok113
  | 114 => cdok114
  | 115 => cdok115
  | 116 => cdok116
  | 117 => cdok117
  | 118 => cdok118
  | 119 => cdok119
  | 120 => cdok120
  | 121 => cdok121
  | 122 => cdok122
  | 123 => cdok123
  | 124 => cdok124
  | 125 => cdok125
  | 126 => cdok126
  | 127 => cdok127
  | 128 => cdok128
  | 129 => cdok129
  | 130 => cdok130
  | 131 => cdok131
  | 132 => cdok132
  | 133 => cdok133
  | 134 => cdok134
  | 135 => cdok135
  | 136 => cdok136
  | 137 => cdok137
  | 138 => cdok138
  | 139 => cdok139
  | 140 => cdok140
  | 141 => cdok141
  | 142 => cdok142
  | 143 => cdok143
  | 144 => cdok144
  | 145 => cdok145
  | 146 => cdok146
  | 147 => cdok147
  | 148 => cdok148
  | 149 => cdok149
  | 150 => cdok150
  | 151 => cdok151
  | 152 => cdok152
  | 153 => cdok153
  | 154 => cdok154
  | 155 => cdok155
  | 156 => cdok156
  | 157 => cdok157
  | 158 => cdok158
  | 159 => cdok159
  | 160 => cdok160
  | 161 => cdok161
  | 162 => cdok162
  | 163 => cdok163
  | 164 => cdok164
  | 165 => cdok165
  | 166 => cdok166
  | 167 => cdok167
  | 168 => cdok168
  | 169 => cdok169
  | 170 => cdok170
  | 171 => cdok171
  | 172 => cdok172
  | 173 => cdok173
  | 174 => cdok174
  | 175 => cdok175
  | 176 => cdok176
  | 177 => cdok177
  | 178 => cdok178
  | 179 => cdok179
  | 180 => cdok180
  | 181 => cdok181
  | 182 => cdok182
  | 183 => cdok183
  | 184 => cdok184
  | 185 => cdok185
  | 186 => cdok186
  | 187 => cdok187
  | 188 => cdok188
  | 189 => cdok189
  | 190 => cdok190
  | 191 => cdok191
  | 192 => cdok192
  | 193 => cdok193
  | 194 => cdok194
  | 195 => cdok195
  | n + 196 => rfl
theorem dec_ok {y pc : Nat} {ins : Instr} {len : Nat} (h : dec y pc = some (ins, len)) : decode (mB y) pc = .ok (ins, len) := by
  unfold dec at h
  rw [Option.map_eq_some_iff] at h
  obtain ⟨e, he, h2⟩ := h
  have h3 := List.all_eq_true.mp (cdT_ok y) e (List.mem_of_find?_eq_some he)
  have h4 := List.find?_some he
  simp only [beq_iff_eq] at h4
  unfold cdp at h3
  rw [decide_eq_true_eq] at h3
  rw [h4, h2] at h3
  exact h3
