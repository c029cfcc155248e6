/-! the words that a method may use: those of the tables that stay true -/
def wT : List Cond := lw_tbl.filter goodWord
theorem wT_lw {w : Cond} (h : w ∈ wT) : w ∈ lw_tbl := (List.mem_filter.mp h).1
theorem wT_in {w : Cond} (h : w ∈ tables_1) (hg : goodWord w = true) : w ∈ wT := List.mem_filter.mpr ⟨List.mem_append_right _ h, hg⟩
theorem wT_ins {w : Cond} (h : w ∈ k2_sels lw_privs) (hg : goodWord w = true) : w ∈ wT := List.mem_filter.mpr ⟨List.mem_append_left _ h, hg⟩
theorem wT_in1 {w : Cond} (h : w ∈ tables_1_1) (hg : goodWord w = true) : w ∈ wT := wT_in (List.mem_append_left _ h) hg
theorem wT_in2 {w : Cond} (h : w ∈ tables_1_2) (hg : goodWord w = true) : w ∈ wT := wT_in (List.mem_append_right _ (List.mem_append_left _ h)) hg
theorem wT_in3 {w : Cond} (h : w ∈ tables_1_3) (hg : goodWord w = true) : w ∈ wT := wT_in (List.mem_append_right _ (List.mem_append_right _ (List.mem_append_left _ h))) hg
theorem wT_in4 {w : Cond} (h : w ∈ tables_1_4) (hg : goodWord w = true) : w ∈ wT := wT_in (List.mem_append_right _ (List.mem_append_right _ (List.mem_append_right _ (List.mem_append_left _ h)))) hg
theorem wT_in5 {w : Cond} (h : w ∈ tables_1_5) (hg : goodWord w = true) : w ∈ wT := wT_in (List.mem_append_right _ (List.mem_append_right _ (List.mem_append_right _ (List.mem_append_right _ (List.mem_append_left _ h))))) hg
theorem wT_in6 {w : Cond} (h : w ∈ tables_1_6) (hg : goodWord w = true) : w ∈ wT := wT_in (List.mem_append_right _ (List.mem_append_right _ (List.mem_append_right _ (List.mem_append_right _ (List.mem_append_right _ h))))) hg
def isNest (w : Cond) : Bool := match w with
  | .fieldLinkNest .. => true
  | .methodLinkNest .. => true
  | _ => false
def wN : List Cond := lw_tbl.filter isNest
theorem wN_lw {w : Cond} (h : w ∈ wN) : w ∈ lw_tbl := (List.mem_filter.mp h).1
theorem wN_in {w : Cond} (h : w ∈ tables_1) (hg : isNest w = true) : w ∈ wN := List.mem_filter.mpr ⟨List.mem_append_right _ h, hg⟩
theorem wN_in1 {w : Cond} (h : w ∈ tables_1_1) (hg : isNest w = true) : w ∈ wN := wN_in (List.mem_append_left _ h) hg
theorem wN_in2 {w : Cond} (h : w ∈ tables_1_2) (hg : isNest w = true) : w ∈ wN := wN_in (List.mem_append_right _ (List.mem_append_left _ h)) hg
theorem wN_in3 {w : Cond} (h : w ∈ tables_1_3) (hg : isNest w = true) : w ∈ wN := wN_in (List.mem_append_right _ (List.mem_append_right _ (List.mem_append_left _ h))) hg
theorem wN_in4 {w : Cond} (h : w ∈ tables_1_4) (hg : isNest w = true) : w ∈ wN := wN_in (List.mem_append_right _ (List.mem_append_right _ (List.mem_append_right _ (List.mem_append_left _ h)))) hg
theorem wN_in5 {w : Cond} (h : w ∈ tables_1_5) (hg : isNest w = true) : w ∈ wN := wN_in (List.mem_append_right _ (List.mem_append_right _ (List.mem_append_right _ (List.mem_append_right _ (List.mem_append_left _ h))))) hg
theorem wN_warm {s U : State} (hW : s.WarmedH U.vm) (h : ∀ w ∈ wN, va_Nw w s) : ∀ w ∈ wN, va_Nw w U := by
  intro w hw
  have h1 := h w hw
  have h2 := (List.mem_filter.mp hw).2
  match w, h1, h2 with
  | .fieldLinkNest .., h1, _ => exact va_Nw.warmF hW h1
  | .methodLinkNest .., h1, _ => exact va_Nw.warmM hW h1
theorem wN_of {A : Array Value} {U : State} (h : ∀ w ∈ lw_tbl, w.before A U = true) : ∀ w ∈ wN, va_Nw w U := by
  intro w hw
  have h1 := h w (wN_lw hw)
  have h2 := (List.mem_filter.mp hw).2
  match w, h1, h2 with
  | .fieldLinkNest .., h1, _ => exact va_Nw.of rfl h1
  | .methodLinkNest .., h1, _ => exact va_Nw.of rfl h1
theorem wT_good {w : Cond} (h : w ∈ wT) : (w.onTables && w.keeps) = true ∨ ∃ ty, w = .arrayClass ty := good_of_word (List.mem_filter.mp h).2
/-! the methods as tuples: code, name, locals, answer, class, how many are told, frames and words of room -/
abbrev MI : Type := ByteArray × MethodName × Nat × Option FieldType × Nat × Nat × Nat × Nat
def kN (c : Nat) : String := match c with
  | 0 => RX0
  | 1 => RX1
  | 2 => RX2
  | 3 => RX3
  | 4 => RX4
  | 5 => RX5
  | 6 => RL
  | 7 => RJ0
  | 8 => RJ1
  | 9 => RJ3
  | _ => RJ9
def m_X4_letter : MI := (cX4_letter, yX4_letter, 2, (some .int), 4, 1, 1, 21)
def m_X4_refuse : MI := (cX4_refuse, yX4_refuse, 2, (some .int), 4, 1, 0, 0)
def m_X2_add : MI := (cX2_add, yX2_add, 2, none, 2, 1, 0, 0)
def m_X4_duchy : MI := (cX4_duchy, yX4_duchy, 6, (some .int), 4, 0, 7, 162)
def m_X2_firstMisfit : MI := (cX2_firstMisfit, yX2_firstMisfit, 4, (some .int), 2, 0, 5, 112)
def m_X2_letterAt : MI := (cX2_letterAt, yX2_letterAt, 2, (some .int), 2, 1, 0, 0)
def m_X2_formOf : MI := (cX2_formOf, yX2_formOf, 1, (some (.object "java/lang/String")), 2, 1, 0, 0)
def m_J0_length_8abf5 : MI := (cJ0_length_8abf5, yJ0_length_8abf5, 1, (some .int), 7, 0, 1, 20)
def m_J0_coder_7d493 : MI := (cJ0_coder_7d493, yJ0_coder_7d493, 1, (some .byte), 7, 0, 0, 0)
def m_J0_charAt_5068e : MI := (cJ0_charAt_5068e, yJ0_charAt_5068e, 2, (some .char), 7, 1, 3, 64)
def m_J0_isLatin1_aae02 : MI := (cJ0_isLatin1_aae02, yJ0_isLatin1_aae02, 1, (some .boolean), 7, 0, 0, 0)
def m_J1_charAt_3b067 : MI := (cJ1_charAt_3b067, yJ1_charAt_3b067, 2, (some .char), 8, 2, 2, 43)
def m_J0_checkIndex_df160 : MI := (cJ0_checkIndex_df160, yJ0_checkIndex_df160, 2, none, 7, 2, 1, 22)
def m_J3_checkIndex_8e157 : MI := (cJ3_checkIndex_8e157, yJ3_checkIndex_8e157, 3, (some .int), 9, 3, 0, 0)
def m_X2_fits : MI := (cX2_fits, yX2_fits, 2, (some .boolean), 2, 2, 4, 91)
def m_J0_indexOf_0f7a4 : MI := (cJ0_indexOf_0f7a4, yJ0_indexOf_0f7a4, 2, (some .int), 7, 1, 3, 70)
def m_J0_indexOf_7cf53 : MI := (cJ0_indexOf_7cf53, yJ0_indexOf_7cf53, 3, (some .int), 7, 2, 2, 48)
def m_J1_indexOf_4cfef : MI := (cJ1_indexOf_4cfef, yJ1_indexOf_4cfef, 4, (some .int), 8, 4, 1, 25)
def m_J1_canEncode_9a6ad : MI := (cJ1_canEncode_9a6ad, yJ1_canEncode_9a6ad, 1, (some .boolean), 8, 1, 0, 0)
def m_J1_indexOfChar_4cfef : MI := (cJ1_indexOfChar_4cfef, yJ1_indexOfChar_4cfef, 6, (some .int), 8, 4, 0, 0)
def m_X3_behind : MI := (cX3_behind, yX3_behind, 3, (some (.object "PostByEnemy$Duchy")), 3, 2, 5, 117)
def m_X0_become : MI := (cX0_become, yX0_become, 2, none, 0, 1, 1, 26)
def m_X0_passDays : MI := (cX0_passDays, yX0_passDays, 3, none, 0, 1, 4, 95)
def m_X0_passDay : MI := (cX0_passDay, yX0_passDay, 2, none, 0, 1, 3, 74)
def m_X0_carryOn : MI := (cX0_carryOn, yX0_carryOn, 3, none, 0, 0, 2, 46)
def m_X0_hasPerson : MI := (cX0_hasPerson, yX0_hasPerson, 2, (some .boolean), 0, 1, 0, 0)
def m_X0_addHate : MI := (cX0_addHate, yX0_addHate, 5, (some .boolean), 0, 3, 1, 22)
def m_X0_hasPair : MI := (cX0_hasPair, yX0_hasPair, 3, (some .boolean), 0, 2, 0, 0)
def m_X0_giveOut : MI := (cX0_giveOut, yX0_giveOut, 3, none, 0, 0, 2, 52)
def m_X0_enemyOf : MI := (cX0_enemyOf, yX0_enemyOf, 7, (some .int), 0, 2, 1, 26)
def m_X0_maliceOf : MI := (cX0_maliceOf, yX0_maliceOf, 7, (some .int), 0, 2, 0, 0)
def m_X0_carries : MI := (cX0_carries, yX0_carries, 3, (some .boolean), 0, 1, 0, 0)
def m_X0_apart : MI := (cX0_apart, yX0_apart, 3, (some .int), 0, 2, 1, 22)
def m_X0_milesOf : MI := (cX0_milesOf, yX0_milesOf, 1, (some .int), 0, 1, 0, 0)
def m_X0_daysOnRoad : MI := (cX0_daysOnRoad, yX0_daysOnRoad, 2, (some .int), 0, 2, 0, 0)
def m_X0_coolDown : MI := (cX0_coolDown, yX0_coolDown, 2, none, 0, 0, 0, 0)
def m_X2_tell : MI := (cX2_tell, yX2_tell, 5, (some .boolean), 2, 2, 6, 138)
def m_X2_digitAt : MI := (cX2_digitAt, yX2_digitAt, 2, (some .int), 2, 1, 1, 21)
def m_X2_numberAt : MI := (cX2_numberAt, yX2_numberAt, 2, (some .int), 2, 1, 2, 42)
def m_X0_addPerson : MI := (cX0_addPerson, yX0_addPerson, 4, (some .boolean), 0, 3, 0, 0)
def m_X0_setHate : MI := (cX0_setHate, yX0_setHate, 4, (some .boolean), 0, 3, 1, 22)
def m_X0_addParcel : MI := (cX0_addParcel, yX0_addParcel, 3, (some .boolean), 0, 2, 1, 21)
def m_X0_makePeace : MI := (cX0_makePeace, yX0_makePeace, 3, (some .boolean), 0, 2, 2, 45)
def m_X0_hateOf : MI := (cX0_hateOf, yX0_hateOf, 3, (some .int), 0, 2, 1, 22)
def m_X2_letDaysPass : MI := (cX2_letDaysPass, yX2_letDaysPass, 2, (some .boolean), 2, 2, 5, 117)
def m_X2_lengthAt : MI := (cX2_lengthAt, yX2_lengthAt, 2, (some .int), 2, 1, 2, 40)
def m_X4_person : MI := (cX4_person, yX4_person, 3, (some .int), 4, 2, 2, 44)
def m_X0_ofPerson : MI := (cX0_ofPerson, yX0_ofPerson, 3, (some .int), 0, 2, 1, 22)
def m_X4_parcel : MI := (cX4_parcel, yX4_parcel, 3, (some .int), 4, 2, 2, 43)
def m_X0_hasParcel : MI := (cX0_hasParcel, yX0_hasParcel, 2, (some .boolean), 0, 1, 0, 0)
def m_X0_ofParcel : MI := (cX0_ofParcel, yX0_ofParcel, 3, (some .int), 0, 2, 1, 21)
def m_X4_hate : MI := (cX4_hate, yX4_hate, 3, (some .int), 4, 2, 2, 44)
def m_X4_posts : MI := (cX4_posts, yX4_posts, 3, (some .int), 4, 2, 2, 43)
def m_X4_hates : MI := (cX4_hates, yX4_hates, 5, (some .int), 4, 3, 2, 45)
def m_X4_slights : MI := (cX4_slights, yX4_slights, 3, (some .int), 4, 2, 2, 46)
def m_X4_peace : MI := (cX4_peace, yX4_peace, 3, (some .int), 4, 2, 3, 67)
def m_X4_moves : MI := (cX4_moves, yX4_moves, 4, (some .int), 4, 2, 1, 21)
def m_X4_turn : MI := (cX4_turn, yX4_turn, 5, (some .int), 4, 3, 1, 21)
def m_X4_days : MI := (cX4_days, yX4_days, 2, (some .int), 4, 1, 5, 117)
def m_X0_brought : MI := (cX0_brought, yX0_brought, 3, (some .int), 0, 0, 0, 0)
def m_X4_parcelThen : MI := (cX4_parcelThen, yX4_parcelThen, 5, (some .int), 4, 3, 6, 139)
def m_X0_stateOf : MI := (cX0_stateOf, yX0_stateOf, 2, (some .int), 0, 1, 1, 21)
def m_X0_carrierOf : MI := (cX0_carrierOf, yX0_carrierOf, 2, (some .int), 0, 1, 1, 21)
def m_X4_hateThen : MI := (cX4_hateThen, yX4_hateThen, 4, (some .int), 4, 3, 6, 139)
def m_X4_gotThen : MI := (cX4_gotThen, yX4_gotThen, 4, (some .int), 4, 2, 6, 139)
def m_X4_when : MI := (cX4_when, yX4_when, 2, (some .int), 4, 1, 6, 139)
def m_X4_daysTillBrought : MI := (cX4_daysTillBrought, yX4_daysTillBrought, 4, (some .int), 4, 3, 4, 95)
def m_X4_dayOrNone : MI := (cX4_dayOrNone, yX4_dayOrNone, 1, (some .int), 4, 1, 0, 0)
def m_X4_first : MI := (cX4_first, yX4_first, 3, (some .int), 4, 1, 6, 139)
def m_X3_daysTillAll : MI := (cX3_daysTillAll, yX3_daysTillAll, 3, (some .int), 3, 1, 4, 95)
def m_X3_firstBrought : MI := (cX3_firstBrought, yX3_firstBrought, 4, (some .int), 3, 1, 4, 95)
def m_X4_enemy : MI := (cX4_enemy, yX4_enemy, 4, (some .int), 4, 2, 2, 52)
def m_X4_malice : MI := (cX4_malice, yX4_malice, 3, (some .int), 4, 2, 1, 26)
def m_X4_loved : MI := (cX4_loved, yX4_loved, 3, (some .int), 4, 0, 2, 52)
def m_X4_busiest : MI := (cX4_busiest, yX4_busiest, 6, (some .int), 4, 1, 3, 75)
def m_X0_enemyOfHowMany : MI := (cX0_enemyOfHowMany, yX0_enemyOfHowMany, 4, (some .int), 0, 1, 2, 52)
def m_X4_ring : MI := (cX4_ring, yX4_ring, 7, (some .int), 4, 2, 2, 52)
def m_X4_slight : MI := (cX4_slight, yX4_slight, 3, (some .int), 4, 1, 6, 145)
def m_X4_notWaiting : MI := (cX4_notWaiting, yX4_notWaiting, 2, (some .int), 4, 1, 2, 42)
def m_X3_bestSlight : MI := (cX3_bestSlight, yX3_bestSlight, 8, (some .int), 3, 2, 5, 118)
def m_X0_receiverOf : MI := (cX0_receiverOf, yX0_receiverOf, 2, (some .int), 0, 1, 1, 21)
def m_X4_cost : MI := (cX4_cost, yX4_cost, 4, (some .int), 4, 2, 6, 144)
def m_X3_isEnough : MI := (cX3_isEnough, yX3_isEnough, 7, (some .boolean), 3, 4, 5, 118)
def m_X3_slightAll : MI := (cX3_slightAll, yX3_slightAll, 9, (some .boolean), 3, 3, 2, 46)
def m_X4_makeUp : MI := (cX4_makeUp, yX4_makeUp, 3, (some .int), 4, 1, 6, 145)
def m_X3_worstPeace : MI := (cX3_worstPeace, yX3_worstPeace, 8, (some .int), 3, 2, 5, 118)
def m_X4_post : MI := (cX4_post, yX4_post, 3, (some .int), 4, 2, 6, 145)
def m_X3_bestPosting : MI := (cX3_bestPosting, yX3_bestPosting, 8, (some .int), 3, 3, 5, 118)
def m_X4_road : MI := (cX4_road, yX4_road, 3, (some .int), 4, 2, 2, 44)
def m_X4_farthest : MI := (cX4_farthest, yX4_farthest, 6, (some .int), 4, 0, 2, 44)
def m_X4_fair : MI := (cX4_fair, yX4_fair, 6, (some .int), 4, 1, 3, 75)
def m_X0_mutualEnemies : MI := (cX0_mutualEnemies, yX0_mutualEnemies, 4, (some .int), 0, 0, 2, 52)
def m_X0_maliceOfAll : MI := (cX0_maliceOfAll, yX0_maliceOfAll, 4, (some .int), 0, 1, 1, 26)
def m_X4_two : MI := (cX4_two, yX4_two, 4, (some .int), 4, 3, 6, 142)
def m_X3_court : MI := (cX3_court, yX3_court, 6, (some .int), 3, 4, 5, 117)
def m_X3_broughtTo : MI := (cX3_broughtTo, yX3_broughtTo, 4, (some .int), 3, 1, 2, 42)
def m_X4_snow : MI := (cX4_snow, yX4_snow, 8, (some .long), 4, 4, 5, 126)
def m_X4_refuseLong : MI := (cX4_refuseLong, yX4_refuseLong, 2, (some .long), 4, 1, 1, 21)
def m_X3_broughtOfAll : MI := (cX3_broughtOfAll, yX3_broughtOfAll, 12, (some .long), 3, 4, 4, 95)
def m_X4_partOf : MI := (cX4_partOf, yX4_partOf, 7, (some .long), 4, 3, 1, 30)
def m_X4_greatestDivisor : MI := (cX4_greatestDivisor, yX4_greatestDivisor, 11, (some .long), 4, 2, 0, 0)
def m_X4_mean : MI := (cX4_mean, yX4_mean, 2, (some .long), 4, 1, 2, 56)
def m_X0_hatesTogether : MI := (cX0_hatesTogether, yX0_hatesTogether, 3, (some .int), 0, 0, 0, 0)
def m_X4_who : MI := (cX4_who, yX4_who, 4, (some .int), 4, 3, 6, 146)
def m_X3_fitting : MI := (cX3_fitting, yX3_fitting, 9, (some .int), 3, 5, 5, 118)
def m_X3_goesAsTold : MI := (cX3_goesAsTold, yX3_goesAsTold, 4, (some .boolean), 3, 2, 4, 95)
def m_X1_at : MI := (cX1_at, yX1_at, 2, (some .int), 1, 1, 0, 0)
def m_X4_asTold : MI := (cX4_asTold, yX4_asTold, 1, (some .int), 4, 1, 0, 0)
def m_X4_row : MI := (cX4_row, yX4_row, 2, (some .int), 4, 1, 1, 21)
def m_X1_add : MI := (cX1_add, yX1_add, 2, none, 1, 1, 0, 0)
def m_X4_judge : MI := (cX4_judge, yX4_judge, 3, (some .int), 4, 0, 2, 52)
def m_X4_clear : MI := (cX4_clear, yX4_clear, 2, (some .int), 4, 0, 0, 0)
def m_X4_lots : MI := (cX4_lots, yX4_lots, 4, (some .int), 4, 3, 6, 144)
def m_X3_ofDrawnDuchies : MI := (cX3_ofDrawnDuchies, yX3_ofDrawnDuchies, 8, (some .int), 3, 4, 5, 117)
def m_X3_drawHates : MI := (cX3_drawHates, yX3_drawHates, 5, (some .int), 3, 1, 2, 45)
def m_X4_image : MI := (cX4_image, yX4_image, 1, (some .int), 4, 0, 2, 47)
def m_X4_on : MI := (cX4_on, yX4_on, 1, (some .int), 4, 0, 2, 47)
def m_X4_count : MI := (cX4_count, yX4_count, 2, (some .int), 4, 1, 1, 23)
def m_X0_parcelsThat : MI := (cX0_parcelsThat, yX0_parcelsThat, 4, (some .int), 0, 1, 0, 0)
def m_X5_letter : MI := (cX5_letter, yX5_letter, 3, (some .int), 5, 1, 1, 22)
def m_X5_bound : MI := (cX5_bound, yX5_bound, 3, (some .int), 5, 3, 0, 0)
def m_X5_no : MI := (cX5_no, yX5_no, 2, (some .int), 5, 1, 0, 0)
def m_X5_duchy : MI := (cX5_duchy, yX5_duchy, 3, (some .int), 5, 0, 9, 199)
def m_X5_statement : MI := (cX5_statement, yX5_statement, 2, (some .boolean), 5, 0, 4, 89)
def m_X5_next : MI := (cX5_next, yX5_next, 1, (some .int), 5, 0, 0, 0)
def m_X5_readsAll : MI := (cX5_readsAll, yX5_readsAll, 3, (some .boolean), 5, 2, 3, 67)
def m_X5_readsOne : MI := (cX5_readsOne, yX5_readsOne, 2, (some .boolean), 5, 1, 2, 46)
def m_X5_kindOf : MI := (cX5_kindOf, yX5_kindOf, 1, (some .int), 5, 1, 0, 0)
def m_X5_readsDigits : MI := (cX5_readsDigits, yX5_readsDigits, 5, (some .boolean), 5, 2, 1, 22)
def m_X5_isIn : MI := (cX5_isIn, yX5_isIn, 3, (some .boolean), 5, 3, 0, 0)
def m_X5_passesAll : MI := (cX5_passesAll, yX5_passesAll, 3, none, 5, 2, 1, 22)
def m_X5_passes : MI := (cX5_passes, yX5_passes, 3, none, 5, 1, 0, 0)
def m_X5_passOne : MI := (cX5_passOne, yX5_passOne, 3, (some .int), 5, 1, 0, 0)
def m_X5_comes : MI := (cX5_comes, yX5_comes, 3, (some .boolean), 5, 1, 8, 177)
def m_X5_comesOne : MI := (cX5_comesOne, yX5_comesOne, 5, (some .boolean), 5, 3, 1, 21)
def m_X5_spot : MI := (cX5_spot, yX5_spot, 2, (some .int), 5, 2, 0, 0)
def m_X5_comesParcel : MI := (cX5_comesParcel, yX5_comesParcel, 3, (some .boolean), 5, 2, 1, 22)
def m_X5_isOne : MI := (cX5_isOne, yX5_isOne, 2, (some .boolean), 5, 1, 0, 0)
def m_X5_adds : MI := (cX5_adds, yX5_adds, 3, none, 5, 2, 0, 0)
def m_X5_comesDays : MI := (cX5_comesDays, yX5_comesDays, 2, (some .boolean), 5, 1, 7, 156)
def m_X5_goes : MI := (cX5_goes, yX5_goes, 3, none, 5, 1, 6, 134)
def m_X5_goesDay : MI := (cX5_goesDay, yX5_goesDay, 3, none, 5, 1, 5, 112)
def m_X5_comesNearer : MI := (cX5_comesNearer, yX5_comesNearer, 2, none, 5, 1, 1, 22)
def m_X5_held : MI := (cX5_held, yX5_held, 3, (some .int), 5, 3, 0, 0)
def m_X5_isTaken : MI := (cX5_isTaken, yX5_isTaken, 3, none, 5, 1, 4, 90)
def m_X5_enemyOf : MI := (cX5_enemyOf, yX5_enemyOf, 2, (some .int), 5, 1, 3, 69)
def m_X5_enemyBut : MI := (cX5_enemyBut, yX5_enemyBut, 5, (some .int), 5, 2, 2, 45)
def m_X5_maliceOf : MI := (cX5_maliceOf, yX5_maliceOf, 5, (some .int), 5, 2, 1, 21)
def m_X5_apart : MI := (cX5_apart, yX5_apart, 2, (some .int), 5, 2, 0, 0)
def m_X5_isCarrying : MI := (cX5_isCarrying, yX5_isCarrying, 3, (some .boolean), 5, 1, 0, 0)
def m_X5_milesOf : MI := (cX5_milesOf, yX5_milesOf, 2, (some .int), 5, 1, 0, 0)
def m_X5_comesTwo : MI := (cX5_comesTwo, yX5_comesTwo, 5, (some .boolean), 5, 4, 2, 45)
def m_X5_areTwo : MI := (cX5_areTwo, yX5_areTwo, 3, (some .boolean), 5, 2, 1, 21)
def m_X5_slighted : MI := (cX5_slighted, yX5_slighted, 4, none, 5, 3, 1, 22)
def m_X5_madeUp : MI := (cX5_madeUp, yX5_madeUp, 3, none, 5, 2, 1, 21)
def m_X5_image : MI := (cX5_image, yX5_image, 1, (some .int), 5, 0, 2, 44)
def m_X5_on : MI := (cX5_on, yX5_on, 1, (some .int), 5, 0, 2, 44)
def m_X5_person : MI := (cX5_person, yX5_person, 3, (some .int), 5, 2, 1, 22)
def m_X5_parcel : MI := (cX5_parcel, yX5_parcel, 3, (some .int), 5, 2, 1, 21)
def m_X5_isParcel : MI := (cX5_isParcel, yX5_isParcel, 2, (some .boolean), 5, 1, 0, 0)
def m_X5_hate : MI := (cX5_hate, yX5_hate, 3, (some .int), 5, 2, 2, 43)
def m_X5_posts : MI := (cX5_posts, yX5_posts, 4, (some .int), 5, 2, 1, 22)
def m_X5_hates : MI := (cX5_hates, yX5_hates, 6, (some .int), 5, 3, 2, 43)
def m_X5_slights : MI := (cX5_slights, yX5_slights, 3, (some .int), 5, 2, 2, 45)
def m_X5_peace : MI := (cX5_peace, yX5_peace, 3, (some .int), 5, 2, 2, 43)
def m_X5_moves : MI := (cX5_moves, yX5_moves, 5, (some .int), 5, 2, 1, 22)
def m_X5_turn : MI := (cX5_turn, yX5_turn, 6, (some .int), 5, 3, 1, 22)
def m_X5_days : MI := (cX5_days, yX5_days, 3, (some .int), 5, 1, 7, 156)
def m_X5_thoseIn : MI := (cX5_thoseIn, yX5_thoseIn, 4, (some .int), 5, 1, 0, 0)
def m_X5_bits : MI := (cX5_bits, yX5_bits, 3, (some .int), 5, 1, 0, 0)
def m_X5_parcelThen : MI := (cX5_parcelThen, yX5_parcelThen, 6, (some .int), 5, 3, 7, 156)
def m_X5_notDays : MI := (cX5_notDays, yX5_notDays, 1, (some .int), 5, 1, 1, 22)
def m_X5_thinks : MI := (cX5_thinks, yX5_thinks, 1, none, 5, 0, 2, 44)
def m_X5_forgets : MI := (cX5_forgets, yX5_forgets, 1, none, 5, 0, 2, 44)
def m_X5_hateThen : MI := (cX5_hateThen, yX5_hateThen, 6, (some .int), 5, 3, 7, 156)
def m_X5_gotThen : MI := (cX5_gotThen, yX5_gotThen, 5, (some .int), 5, 2, 7, 156)
def m_X5_when : MI := (cX5_when, yX5_when, 2, (some .int), 5, 1, 7, 157)
def m_X5_whenOf : MI := (cX5_whenOf, yX5_whenOf, 4, (some .int), 5, 1, 6, 134)
def m_X5_first : MI := (cX5_first, yX5_first, 7, (some .int), 5, 1, 8, 179)
def m_X5_lateOf : MI := (cX5_lateOf, yX5_lateOf, 3, (some .int), 5, 1, 7, 157)
def m_X5_enemy : MI := (cX5_enemy, yX5_enemy, 5, (some .int), 5, 2, 4, 90)
def m_X5_malice : MI := (cX5_malice, yX5_malice, 3, (some .int), 5, 2, 2, 45)
def m_X5_loved : MI := (cX5_loved, yX5_loved, 3, (some .int), 5, 0, 4, 90)
def m_X5_busiest : MI := (cX5_busiest, yX5_busiest, 5, (some .int), 5, 1, 5, 113)
def m_X5_enemyOfMany : MI := (cX5_enemyOfMany, yX5_enemyOfMany, 4, (some .int), 5, 1, 4, 90)
def m_X5_ring : MI := (cX5_ring, yX5_ring, 6, (some .int), 5, 2, 4, 90)
def m_X5_has : MI := (cX5_has, yX5_has, 2, (some .boolean), 5, 2, 0, 0)
def m_X5_slight : MI := (cX5_slight, yX5_slight, 7, (some .int), 5, 1, 9, 203)
def m_X5_lateSlighting : MI := (cX5_lateSlighting, yX5_lateSlighting, 5, (some .int), 5, 2, 8, 179)
def m_X5_cost : MI := (cX5_cost, yX5_cost, 7, (some .int), 5, 2, 9, 204)
def m_X5_slightsOf : MI := (cX5_slightsOf, yX5_slightsOf, 6, (some .int), 5, 2, 0, 0)
def m_X5_bringsIn : MI := (cX5_bringsIn, yX5_bringsIn, 6, (some .boolean), 5, 3, 8, 179)
def m_X5_changes : MI := (cX5_changes, yX5_changes, 1, none, 5, 0, 2, 44)
def m_X5_changesBack : MI := (cX5_changesBack, yX5_changesBack, 1, none, 5, 0, 2, 44)
def m_X5_makeUp : MI := (cX5_makeUp, yX5_makeUp, 7, (some .int), 5, 1, 9, 202)
def m_X5_latePeace : MI := (cX5_latePeace, yX5_latePeace, 4, (some .int), 5, 2, 8, 179)
def m_X5_post : MI := (cX5_post, yX5_post, 8, (some .int), 5, 2, 9, 202)
def m_X5_latePosted : MI := (cX5_latePosted, yX5_latePosted, 4, (some .int), 5, 2, 8, 179)
def m_X5_road : MI := (cX5_road, yX5_road, 3, (some .int), 5, 2, 2, 43)
def m_X5_farthest : MI := (cX5_farthest, yX5_farthest, 5, (some .int), 5, 0, 1, 21)
def m_X5_fair : MI := (cX5_fair, yX5_fair, 5, (some .int), 5, 1, 5, 113)
def m_X5_pairs : MI := (cX5_pairs, yX5_pairs, 4, (some .int), 5, 0, 4, 90)
def m_X5_maliceFor : MI := (cX5_maliceFor, yX5_maliceFor, 4, (some .int), 5, 1, 2, 45)
def m_X5_two : MI := (cX5_two, yX5_two, 6, (some .int), 5, 3, 8, 180)
def m_X5_findBrought : MI := (cX5_findBrought, yX5_findBrought, 5, none, 5, 3, 7, 156)
def m_X5_broughtTo : MI := (cX5_broughtTo, yX5_broughtTo, 4, (some .int), 5, 1, 0, 0)
def m_X5_snow : MI := (cX5_snow, yX5_snow, 14, (some .long), 5, 4, 6, 134)
def m_X5_lowestOf : MI := (cX5_lowestOf, yX5_lowestOf, 2, (some .long), 5, 1, 0, 0)
def m_X5_partOf : MI := (cX5_partOf, yX5_partOf, 5, (some .long), 5, 3, 1, 29)
def m_X5_divisor : MI := (cX5_divisor, yX5_divisor, 10, (some .long), 5, 2, 0, 0)
def m_X5_mean : MI := (cX5_mean, yX5_mean, 2, (some .long), 5, 1, 2, 53)
def m_X5_allHate : MI := (cX5_allHate, yX5_allHate, 3, (some .int), 5, 0, 0, 0)
def m_X5_who : MI := (cX5_who, yX5_who, 5, (some .int), 5, 3, 8, 184)
def m_X5_bitsFor : MI := (cX5_bitsFor, yX5_bitsFor, 8, (some .int), 5, 4, 7, 157)
def m_X5_isSo : MI := (cX5_isSo, yX5_isSo, 4, (some .boolean), 5, 1, 6, 134)
def m_X5_row : MI := (cX5_row, yX5_row, 3, (some .int), 5, 1, 1, 22)
def m_X5_judge : MI := (cX5_judge, yX5_judge, 3, (some .int), 5, 0, 4, 90)
def m_X5_clear : MI := (cX5_clear, yX5_clear, 2, (some .int), 5, 0, 0, 0)
def m_X5_lots : MI := (cX5_lots, yX5_lots, 9, (some .int), 5, 3, 7, 156)
def m_X5_count : MI := (cX5_count, yX5_count, 2, (some .int), 5, 1, 1, 23)
def m_law : MI := (code, yL_law, 4, some .boolean, 6, 1, 12, 462)
def fL0 : List (Nat × Nat × Nat) := [(9, 0, 0), (15, 0, 1), (18, 0, 2), (21, 0, 3), (25, 0, 4), (28, 0, 5), (31, 0, 6), (34, 0, 7), (37, 0, 8), (40, 0, 9), (43, 0, 10), (46, 0, 11), (49, 0, 12)]
def fL1 : List (Nat × Nat × Nat) := [(9, 1, 0), (15, 1, 1)]
def fL2 : List (Nat × Nat × Nat) := [(9, 2, 0), (15, 2, 1), (95, 0, 2)]
def fL3 : List (Nat × Nat × Nat) := [(12, 3, 0), (18, 3, 1), (21, 3, 2), (25, 3, 3), (40, 0, 1), (59, 0, 0), (92, 0, 4), (95, 0, 3), (102, 1, 0)]
def fL4 : List (Nat × Nat × Nat) := [(10, 4, 0), (16, 4, 1), (19, 4, 2), (26, 4, 3), (33, 4, 4), (40, 4, 5), (44, 4, 6), (52, 2, 0), (105, 0, 1), (121, 0, 5), (124, 0, 3), (127, 0, 4), (130, 0, 2), (145, 0, 6), (168, 0, 0), (224, 1, 0)]
def fL5 : List (Nat × Nat × Nat) := [(7, 5, 0), (13, 5, 1), (16, 5, 2), (19, 5, 3), (22, 5, 4), (25, 5, 5), (28, 5, 6), (31, 5, 7), (34, 5, 8), (37, 5, 9), (40, 5, 10), (43, 5, 14), (46, 5, 15), (49, 5, 16), (52, 5, 17), (55, 5, 21), (58, 5, 25), (61, 5, 26), (64, 5, 11), (74, 5, 12), (81, 5, 18), (88, 5, 19), (109, 5, 20), (133, 5, 13), (164, 5, 23), (168, 5, 24), (178, 5, 22), (290, 5, 27)]
def fLs (c : Nat) : List (Nat × Nat × Nat) := match c with
  | 0 => fL0
  | 1 => fL1
  | 2 => fL2
  | 3 => fL3
  | 4 => fL4
  | 5 => fL5
  | _ => []
def fld (c i : Nat) : Option (Nat × Nat) := ((fLs c).find? (fun r => r.1 == i)).map (fun r => r.2)
def mL0 : List (Nat × Nat × MI) := [(58, 0, m_X0_hasPerson), (62, 1, m_X0_milesOf), (66, 0, m_X0_carries), (69, 0, m_X0_hasParcel), (72, 0, m_X0_hasPair), (85, 0, m_X0_hateOf), (88, 0, m_X0_setHate), (95, 0, m_X0_maliceOf), (98, 0, m_X0_enemyOf), (101, 0, m_X0_passDay), (105, 0, m_X0_carryOn), (108, 0, m_X0_giveOut), (111, 0, m_X0_coolDown), (114, 0, m_X0_addHate), (117, 0, m_X0_apart), (120, 1, m_X0_daysOnRoad)]
def mL2 : List (Nat × Nat × MI) := [(35, 0, m_J0_indexOf_0f7a4), (41, 0, m_X2_letterAt), (44, 1, m_X2_formOf), (48, 0, m_J0_length_8abf5), (52, 0, m_J0_charAt_5068e), (56, 1, m_X2_fits), (66, 0, m_X2_digitAt), (69, 0, m_X2_numberAt), (72, 0, m_X0_addPerson), (78, 0, m_X0_setHate), (81, 0, m_X0_addParcel), (85, 0, m_X0_addHate), (88, 0, m_X0_makePeace), (91, 1, m_X2_letDaysPass), (98, 0, m_X0_passDays)]
def mL3 : List (Nat × Nat × MI) := [(28, 0, m_X0_become), (32, 0, m_X0_passDays), (36, 0, m_X0_passDay), (44, 0, m_X0_stateOf), (48, 0, m_X0_brought), (52, 0, m_X0_receiverOf), (55, 2, m_X4_daysTillBrought), (62, 0, m_X0_addHate), (66, 0, m_X0_makePeace), (70, 0, m_X3_slightAll), (79, 0, m_X0_addParcel), (82, 2, m_X4_dayOrNone), (85, 0, m_X3_broughtTo), (88, 0, m_X0_hasPerson), (98, 0, m_X3_goesAsTold), (107, 0, m_X1_at), (110, 0, m_X0_carrierOf), (113, 2, m_X4_asTold), (116, 0, m_X3_drawHates), (119, 0, m_X0_hatesTogether), (125, 0, m_X0_setHate)]
def mL4 : List (Nat × Nat × MI) := [(48, 0, m_X4_refuse), (56, 0, m_X2_add), (60, 0, m_X2_firstMisfit), (64, 0, m_X3_behind), (68, 0, m_X2_tell), (72, 0, m_X2_lengthAt), (81, 0, m_X0_become), (85, 0, m_X0_hasPerson), (89, 0, m_X0_ofPerson), (92, 0, m_X0_hasParcel), (95, 0, m_X0_ofParcel), (98, 0, m_X0_hasPair), (102, 0, m_X0_hateOf), (108, 0, m_X0_addParcel), (111, 0, m_X0_setHate), (115, 0, m_X0_addHate), (118, 0, m_X0_makePeace), (133, 0, m_X0_passDays), (136, 0, m_X0_brought), (139, 0, m_X0_stateOf), (142, 0, m_X0_carrierOf), (148, 1, m_X4_daysTillBrought), (152, 1, m_X4_dayOrNone), (155, 0, m_X3_daysTillAll), (159, 0, m_X3_firstBrought), (162, 0, m_X0_enemyOf), (165, 0, m_X0_maliceOf), (171, 0, m_X0_enemyOfHowMany), (174, 0, m_X4_notWaiting), (177, 0, m_X3_bestSlight), (181, 0, m_X3_isEnough), (185, 0, m_X3_worstPeace), (188, 0, m_X3_bestPosting), (192, 0, m_X0_apart), (195, 0, m_X0_mutualEnemies), (198, 0, m_X0_maliceOfAll), (201, 0, m_X3_court), (205, 0, m_X4_refuseLong), (209, 0, m_X3_broughtOfAll), (213, 1, m_X4_partOf), (217, 0, m_X0_hatesTogether), (220, 0, m_X3_fitting), (225, 0, m_X1_add), (226, 0, m_X1_at), (229, 1, m_X4_asTold), (232, 0, m_X3_ofDrawnDuchies), (236, 0, m_X0_parcelsThat), (241, 0, m_X0_passDay), (245, 1, m_X4_greatestDivisor)]
def mL5 : List (Nat × Nat × MI) := [(70, 0, m_X5_isOne), (77, 1, m_X5_bound), (84, 0, m_X5_no), (91, 0, m_X5_next), (95, 1, m_X5_isIn), (99, 1, m_X5_kindOf), (102, 0, m_X5_readsDigits), (106, 0, m_X5_readsOne), (112, 0, m_X5_readsAll), (115, 1, m_X5_spot), (119, 0, m_X5_adds), (123, 0, m_X5_areTwo), (126, 0, m_X5_slighted), (130, 0, m_X5_madeUp), (136, 0, m_X5_goes), (140, 0, m_X5_comesOne), (143, 0, m_X5_comesParcel), (146, 0, m_X5_comesDays), (149, 0, m_X5_comesTwo), (153, 0, m_X5_statement), (157, 0, m_X5_passesAll), (161, 0, m_X5_comes), (171, 0, m_X5_passes), (175, 0, m_X5_passOne), (181, 1, m_X5_held), (184, 1, m_X5_apart), (187, 0, m_X5_maliceOf), (190, 0, m_X5_enemyBut), (193, 0, m_X5_enemyOf), (196, 0, m_X5_isCarrying), (199, 0, m_X5_milesOf), (202, 0, m_X5_comesNearer), (205, 0, m_X5_isTaken), (208, 0, m_X5_goesDay), (212, 0, m_X5_isParcel), (215, 0, m_X5_thoseIn), (218, 1, m_X5_bits), (221, 1, m_X5_notDays), (224, 0, m_X5_thinks), (227, 0, m_X5_forgets), (230, 0, m_X5_whenOf), (233, 0, m_X5_lateOf), (236, 0, m_X5_enemyOfMany), (239, 1, m_X5_has), (242, 0, m_X5_lateSlighting), (245, 0, m_X5_changes), (248, 0, m_X5_changesBack), (251, 0, m_X5_slightsOf), (254, 0, m_X5_bringsIn), (257, 0, m_X5_latePeace), (260, 0, m_X5_latePosted), (263, 0, m_X5_pairs), (266, 0, m_X5_maliceFor), (269, 0, m_X5_broughtTo), (272, 0, m_X5_findBrought), (275, 1, m_X5_divisor), (279, 0, m_X5_lowestOf), (283, 1, m_X5_partOf), (287, 0, m_X5_allHate), (293, 0, m_X5_isSo), (296, 0, m_X5_bitsFor)]
def mL6 : List (Nat × Nat × MI) := [(13, 0, m_X4_letter), (17, 0, m_X5_letter), (18, 0, m_X4_duchy), (22, 0, m_X5_duchy), (23, 0, m_X4_person), (27, 0, m_X5_person), (28, 0, m_X4_parcel), (31, 0, m_X5_parcel), (32, 0, m_X4_hate), (35, 0, m_X5_hate), (36, 0, m_X4_posts), (39, 0, m_X5_posts), (40, 0, m_X4_hates), (44, 0, m_X5_hates), (45, 0, m_X4_slights), (48, 0, m_X5_slights), (49, 0, m_X4_peace), (52, 0, m_X5_peace), (53, 0, m_X4_moves), (56, 0, m_X5_moves), (57, 0, m_X4_turn), (60, 0, m_X5_turn), (61, 0, m_X4_days), (64, 0, m_X5_days), (65, 0, m_X4_parcelThen), (68, 0, m_X5_parcelThen), (69, 0, m_X4_hateThen), (72, 0, m_X5_hateThen), (73, 0, m_X4_gotThen), (76, 0, m_X5_gotThen), (77, 0, m_X4_when), (80, 0, m_X5_when), (81, 0, m_X4_first), (84, 0, m_X5_first), (85, 0, m_X4_enemy), (88, 0, m_X5_enemy), (89, 0, m_X4_malice), (92, 0, m_X5_malice), (93, 0, m_X4_loved), (96, 0, m_X5_loved), (97, 0, m_X4_busiest), (100, 0, m_X5_busiest), (101, 0, m_X4_ring), (104, 0, m_X5_ring), (105, 0, m_X4_slight), (108, 0, m_X5_slight), (109, 0, m_X4_cost), (112, 0, m_X5_cost), (113, 0, m_X4_makeUp), (116, 0, m_X5_makeUp), (117, 0, m_X4_post), (120, 0, m_X5_post), (121, 0, m_X4_road), (124, 0, m_X5_road), (125, 0, m_X4_farthest), (128, 0, m_X5_farthest), (129, 0, m_X4_fair), (132, 0, m_X5_fair), (133, 0, m_X4_two), (136, 0, m_X5_two), (137, 0, m_X4_snow), (141, 0, m_X5_snow), (142, 0, m_X4_mean), (146, 0, m_X5_mean), (147, 0, m_X4_who), (150, 0, m_X5_who), (151, 0, m_X4_row), (154, 0, m_X5_row), (155, 0, m_X4_judge), (158, 0, m_X5_judge), (159, 0, m_X4_clear), (162, 0, m_X5_clear), (163, 0, m_X4_lots), (166, 0, m_X5_lots), (167, 0, m_X4_image), (170, 0, m_X5_image), (171, 0, m_X4_on), (174, 0, m_X5_on), (175, 0, m_X4_count), (178, 0, m_X5_count)]
def mL7 : List (Nat × Nat × MI) := [(335, 0, m_J0_coder_7d493), (492, 0, m_J0_isLatin1_aae02), (495, 1, m_J1_charAt_3b067), (505, 0, m_J0_length_8abf5), (633, 0, m_J0_indexOf_7cf53), (637, 1, m_J1_indexOf_4cfef), (1059, 1, m_J3_checkIndex_8e157)]
def mL8 : List (Nat × Nat × MI) := [(9, 1, m_J0_checkIndex_df160), (88, 1, m_J1_canEncode_9a6ad), (95, 1, m_J1_indexOfChar_4cfef)]
def mLs (c : Nat) : List (Nat × Nat × MI) := match c with
  | 0 => mL0
  | 2 => mL2
  | 3 => mL3
  | 4 => mL4
  | 5 => mL5
  | 6 => mL6
  | 7 => mL7
  | 8 => mL8
  | _ => []
def mth (c i : Nat) : Option (Nat × MI) := ((mLs c).find? (fun r => r.1 == i)).map (fun r => r.2)
def isAC (c i : Nat) : Bool := c == 0 && i == 52
def mthM (c i : Nat) : Option Nat := match c, i with
  | 0, 76 => some 1
  | 0, 82 => some 0
  | 0, 92 => some 2
  | 2, 60 => some 0
  | 3, 73 => some 0
  | 4, 75 => some 0
  | 8, 38 => some 1
  | 8, 92 => some 0
  | _, _ => none
def okMI (m : MI) : Prop := plainName m.2.1.cls = true ∧ Cond.code m.2.1 m.1 m.2.2.1 m.2.2.2.1 ∈ wT ∧ (m.2.1.cls ≠ "java/lang/invoke/MethodHandle" ∧ m.2.1.cls ≠ "java/lang/invoke/VarHandle" ∧ (parseMethodDescriptor m.2.1.desc).map (fun d => d.parameters.length) = some m.2.2.2.2.2.1) ∧ kN m.2.2.2.2.1 = m.2.1.cls
def okF (c : Nat) (r : Nat × Nat × Nat) : Prop := ∃ q : vw_C, vwCl[r.2.1]? = some q ∧ r.2.2 < q.2.2 ∧ (Cond.fieldLink (kN c) r.1 (q.2.1 r.2.2).1 (q.2.1 r.2.2).2.1 (q.2.1 r.2.2).2.2.1 ∈ wT ∨ ∃ host, Cond.fieldLinkNest (kN c) r.1 (q.2.1 r.2.2).1 (q.2.1 r.2.2).2.1 (q.2.1 r.2.2).2.2.1 host ∈ wN) ∧ ∀ w ∈ u_ws q.1 q.2.1 q.2.2, w ∈ wT
def okL (c : Nat) (r : Nat × Nat × MI) : Prop := okMI r.2.2 ∧ Cond.initialized r.2.2.2.1.cls ∈ wT ∧ (r.2.1 = 0 → Cond.methodLink (kN c) r.1 r.2.2.2.1 ∈ wT ∧ Cond.instanceMethod r.2.2.2.1 ∈ wT ∧ Cond.selects r.2.2.2.1.cls r.2.2.2.1 r.2.2.2.1 ∈ wT) ∧ (r.2.1 = 1 → Cond.methodLink (kN c) r.1 r.2.2.2.1 ∈ wT ∧ Cond.static r.2.2.2.1 ∈ wT) ∧ (r.2.1 = 2 → (∃ host, Cond.methodLinkNest (kN c) r.1 r.2.2.2.1 host ∈ wN) ∧ Cond.static r.2.2.2.1 ∈ wT)
def conI (c i : Nat) : Option Int := match c, i with
  | 3, 122 => some 1664525
  | 3, 123 => some 1013904223
  | 3, 124 => some 2147483647
  | 5, 300 => some 1664525
  | 5, 301 => some 1013904223
  | 5, 302 => some 2147483647
  | _, _ => none
def conL (c i : Nat) : Option Int := match c, i with
  | 4, 239 => some 4000000000000000000
  | 5, 68 => some 4000000000000000000
  | _, _ => none
def conS (c i : Nat) : Option Nat := match c, i with
  | 2, 19 => some 1
  | 2, 21 => some 2
  | 2, 23 => some 3
  | 2, 25 => some 4
  | 2, 27 => some 5
  | 2, 29 => some 6
  | 2, 31 => some 7
  | 2, 33 => some 8
  | _, _ => none
theorem q_1_156 : Cond.code yX4_letter cX4_letter 2 (some .int) ∈ wT := wT_in1 (List.mem_of_getElem? (i := 156) rfl) (by decide)
theorem q_1_160 : Cond.code yX4_refuse cX4_refuse 2 (some .int) ∈ wT := wT_in1 (List.mem_of_getElem? (i := 160) rfl) (by decide)
theorem q_1_164 : Cond.code yX2_add cX2_add 2 none ∈ wT := wT_in1 (List.mem_of_getElem? (i := 164) rfl) (by decide)
theorem q_1_168 : Cond.code yX4_duchy cX4_duchy 6 (some .int) ∈ wT := wT_in1 (List.mem_of_getElem? (i := 168) rfl) (by decide)
theorem q_1_172 : Cond.code yX2_firstMisfit cX2_firstMisfit 4 (some .int) ∈ wT := wT_in1 (List.mem_of_getElem? (i := 172) rfl) (by decide)
theorem q_1_176 : Cond.code yX2_letterAt cX2_letterAt 2 (some .int) ∈ wT := wT_in1 (List.mem_of_getElem? (i := 176) rfl) (by decide)
theorem q_1_179 : Cond.code yX2_formOf cX2_formOf 1 (some (.object "java/lang/String")) ∈ wT := wT_in1 (List.mem_of_getElem? (i := 179) rfl) (by decide)
theorem q_1_190 : Cond.code yJ0_length_8abf5 cJ0_length_8abf5 1 (some .int) ∈ wT := wT_in1 (List.mem_of_getElem? (i := 190) rfl) (by decide)
theorem q_1_194 : Cond.code yJ0_coder_7d493 cJ0_coder_7d493 1 (some .byte) ∈ wT := wT_in1 (List.mem_of_getElem? (i := 194) rfl) (by decide)
theorem q_1_200 : Cond.code yJ0_charAt_5068e cJ0_charAt_5068e 2 (some .char) ∈ wT := wT_in1 (List.mem_of_getElem? (i := 200) rfl) (by decide)
theorem q_1_204 : Cond.code yJ0_isLatin1_aae02 cJ0_isLatin1_aae02 1 (some .boolean) ∈ wT := wT_in1 (List.mem_of_getElem? (i := 204) rfl) (by decide)
theorem q_1_207 : Cond.code yJ1_charAt_3b067 cJ1_charAt_3b067 2 (some .char) ∈ wT := wT_in1 (List.mem_of_getElem? (i := 207) rfl) (by decide)
theorem q_1_210 : Cond.code yJ0_checkIndex_df160 cJ0_checkIndex_df160 2 none ∈ wT := wT_in1 (List.mem_of_getElem? (i := 210) rfl) (by decide)
theorem q_1_215 : Cond.code yJ3_checkIndex_8e157 cJ3_checkIndex_8e157 3 (some .int) ∈ wT := wT_in1 (List.mem_of_getElem? (i := 215) rfl) (by decide)
theorem q_1_237 : Cond.code yX2_fits cX2_fits 2 (some .boolean) ∈ wT := wT_in1 (List.mem_of_getElem? (i := 237) rfl) (by decide)
theorem q_2_2 : Cond.code yJ0_indexOf_0f7a4 cJ0_indexOf_0f7a4 2 (some .int) ∈ wT := wT_in2 (List.mem_of_getElem? (i := 2) rfl) (by decide)
theorem q_2_6 : Cond.code yJ0_indexOf_7cf53 cJ0_indexOf_7cf53 3 (some .int) ∈ wT := wT_in2 (List.mem_of_getElem? (i := 6) rfl) (by decide)
theorem q_2_10 : Cond.code yJ1_indexOf_4cfef cJ1_indexOf_4cfef 4 (some .int) ∈ wT := wT_in2 (List.mem_of_getElem? (i := 10) rfl) (by decide)
theorem q_2_13 : Cond.code yJ1_canEncode_9a6ad cJ1_canEncode_9a6ad 1 (some .boolean) ∈ wT := wT_in2 (List.mem_of_getElem? (i := 13) rfl) (by decide)
theorem q_2_22 : Cond.code yJ1_indexOfChar_4cfef cJ1_indexOfChar_4cfef 6 (some .int) ∈ wT := wT_in2 (List.mem_of_getElem? (i := 22) rfl) (by decide)
theorem q_2_62 : Cond.code yX3_behind cX3_behind 3 (some (.object "PostByEnemy$Duchy")) ∈ wT := wT_in2 (List.mem_of_getElem? (i := 62) rfl) (by decide)
theorem q_2_66 : Cond.code yX0_become cX0_become 2 none ∈ wT := wT_in2 (List.mem_of_getElem? (i := 66) rfl) (by decide)
theorem q_2_73 : Cond.code yX0_passDays cX0_passDays 3 none ∈ wT := wT_in2 (List.mem_of_getElem? (i := 73) rfl) (by decide)
theorem q_2_77 : Cond.code yX0_passDay cX0_passDay 2 none ∈ wT := wT_in2 (List.mem_of_getElem? (i := 77) rfl) (by decide)
theorem q_2_81 : Cond.code yX0_carryOn cX0_carryOn 3 none ∈ wT := wT_in2 (List.mem_of_getElem? (i := 81) rfl) (by decide)
theorem q_2_85 : Cond.code yX0_hasPerson cX0_hasPerson 2 (some .boolean) ∈ wT := wT_in2 (List.mem_of_getElem? (i := 85) rfl) (by decide)
theorem q_2_90 : Cond.code yX0_addHate cX0_addHate 5 (some .boolean) ∈ wT := wT_in2 (List.mem_of_getElem? (i := 90) rfl) (by decide)
theorem q_2_94 : Cond.code yX0_hasPair cX0_hasPair 3 (some .boolean) ∈ wT := wT_in2 (List.mem_of_getElem? (i := 94) rfl) (by decide)
theorem q_2_99 : Cond.code yX0_giveOut cX0_giveOut 3 none ∈ wT := wT_in2 (List.mem_of_getElem? (i := 99) rfl) (by decide)
theorem q_2_103 : Cond.code yX0_enemyOf cX0_enemyOf 7 (some .int) ∈ wT := wT_in2 (List.mem_of_getElem? (i := 103) rfl) (by decide)
theorem q_2_107 : Cond.code yX0_maliceOf cX0_maliceOf 7 (some .int) ∈ wT := wT_in2 (List.mem_of_getElem? (i := 107) rfl) (by decide)
theorem q_2_111 : Cond.code yX0_carries cX0_carries 3 (some .boolean) ∈ wT := wT_in2 (List.mem_of_getElem? (i := 111) rfl) (by decide)
theorem q_2_115 : Cond.code yX0_apart cX0_apart 3 (some .int) ∈ wT := wT_in2 (List.mem_of_getElem? (i := 115) rfl) (by decide)
theorem q_2_121 : Cond.code yX0_milesOf cX0_milesOf 1 (some .int) ∈ wT := wT_in2 (List.mem_of_getElem? (i := 121) rfl) (by decide)
theorem q_2_124 : Cond.code yX0_daysOnRoad cX0_daysOnRoad 2 (some .int) ∈ wT := wT_in2 (List.mem_of_getElem? (i := 124) rfl) (by decide)
theorem q_2_128 : Cond.code yX0_coolDown cX0_coolDown 2 none ∈ wT := wT_in2 (List.mem_of_getElem? (i := 128) rfl) (by decide)
theorem q_2_132 : Cond.code yX2_tell cX2_tell 5 (some .boolean) ∈ wT := wT_in2 (List.mem_of_getElem? (i := 132) rfl) (by decide)
theorem q_2_136 : Cond.code yX2_digitAt cX2_digitAt 2 (some .int) ∈ wT := wT_in2 (List.mem_of_getElem? (i := 136) rfl) (by decide)
theorem q_2_140 : Cond.code yX2_numberAt cX2_numberAt 2 (some .int) ∈ wT := wT_in2 (List.mem_of_getElem? (i := 140) rfl) (by decide)
theorem q_2_144 : Cond.code yX0_addPerson cX0_addPerson 4 (some .boolean) ∈ wT := wT_in2 (List.mem_of_getElem? (i := 144) rfl) (by decide)
theorem q_2_148 : Cond.code yX0_setHate cX0_setHate 4 (some .boolean) ∈ wT := wT_in2 (List.mem_of_getElem? (i := 148) rfl) (by decide)
theorem q_2_152 : Cond.code yX0_addParcel cX0_addParcel 3 (some .boolean) ∈ wT := wT_in2 (List.mem_of_getElem? (i := 152) rfl) (by decide)
theorem q_2_157 : Cond.code yX0_makePeace cX0_makePeace 3 (some .boolean) ∈ wT := wT_in2 (List.mem_of_getElem? (i := 157) rfl) (by decide)
theorem q_2_161 : Cond.code yX0_hateOf cX0_hateOf 3 (some .int) ∈ wT := wT_in2 (List.mem_of_getElem? (i := 161) rfl) (by decide)
theorem q_2_165 : Cond.code yX2_letDaysPass cX2_letDaysPass 2 (some .boolean) ∈ wT := wT_in2 (List.mem_of_getElem? (i := 165) rfl) (by decide)
theorem q_2_170 : Cond.code yX2_lengthAt cX2_lengthAt 2 (some .int) ∈ wT := wT_in2 (List.mem_of_getElem? (i := 170) rfl) (by decide)
theorem q_2_177 : Cond.code yX4_person cX4_person 3 (some .int) ∈ wT := wT_in2 (List.mem_of_getElem? (i := 177) rfl) (by decide)
theorem q_2_182 : Cond.code yX0_ofPerson cX0_ofPerson 3 (some .int) ∈ wT := wT_in2 (List.mem_of_getElem? (i := 182) rfl) (by decide)
theorem q_2_186 : Cond.code yX4_parcel cX4_parcel 3 (some .int) ∈ wT := wT_in2 (List.mem_of_getElem? (i := 186) rfl) (by decide)
theorem q_2_190 : Cond.code yX0_hasParcel cX0_hasParcel 2 (some .boolean) ∈ wT := wT_in2 (List.mem_of_getElem? (i := 190) rfl) (by decide)
theorem q_2_194 : Cond.code yX0_ofParcel cX0_ofParcel 3 (some .int) ∈ wT := wT_in2 (List.mem_of_getElem? (i := 194) rfl) (by decide)
theorem q_2_199 : Cond.code yX4_hate cX4_hate 3 (some .int) ∈ wT := wT_in2 (List.mem_of_getElem? (i := 199) rfl) (by decide)
theorem q_2_205 : Cond.code yX4_posts cX4_posts 3 (some .int) ∈ wT := wT_in2 (List.mem_of_getElem? (i := 205) rfl) (by decide)
theorem q_2_210 : Cond.code yX4_hates cX4_hates 5 (some .int) ∈ wT := wT_in2 (List.mem_of_getElem? (i := 210) rfl) (by decide)
theorem q_2_215 : Cond.code yX4_slights cX4_slights 3 (some .int) ∈ wT := wT_in2 (List.mem_of_getElem? (i := 215) rfl) (by decide)
theorem q_2_220 : Cond.code yX4_peace cX4_peace 3 (some .int) ∈ wT := wT_in2 (List.mem_of_getElem? (i := 220) rfl) (by decide)
theorem q_2_225 : Cond.code yX4_moves cX4_moves 4 (some .int) ∈ wT := wT_in2 (List.mem_of_getElem? (i := 225) rfl) (by decide)
theorem q_2_229 : Cond.code yX4_turn cX4_turn 5 (some .int) ∈ wT := wT_in2 (List.mem_of_getElem? (i := 229) rfl) (by decide)
theorem q_2_233 : Cond.code yX4_days cX4_days 2 (some .int) ∈ wT := wT_in2 (List.mem_of_getElem? (i := 233) rfl) (by decide)
theorem q_2_238 : Cond.code yX0_brought cX0_brought 3 (some .int) ∈ wT := wT_in2 (List.mem_of_getElem? (i := 238) rfl) (by decide)
theorem q_3_2 : Cond.code yX4_parcelThen cX4_parcelThen 5 (some .int) ∈ wT := wT_in3 (List.mem_of_getElem? (i := 2) rfl) (by decide)
theorem q_3_6 : Cond.code yX0_stateOf cX0_stateOf 2 (some .int) ∈ wT := wT_in3 (List.mem_of_getElem? (i := 6) rfl) (by decide)
theorem q_3_10 : Cond.code yX0_carrierOf cX0_carrierOf 2 (some .int) ∈ wT := wT_in3 (List.mem_of_getElem? (i := 10) rfl) (by decide)
theorem q_3_14 : Cond.code yX4_hateThen cX4_hateThen 4 (some .int) ∈ wT := wT_in3 (List.mem_of_getElem? (i := 14) rfl) (by decide)
theorem q_3_18 : Cond.code yX4_gotThen cX4_gotThen 4 (some .int) ∈ wT := wT_in3 (List.mem_of_getElem? (i := 18) rfl) (by decide)
theorem q_3_22 : Cond.code yX4_when cX4_when 2 (some .int) ∈ wT := wT_in3 (List.mem_of_getElem? (i := 22) rfl) (by decide)
theorem q_3_25 : Cond.code yX4_daysTillBrought cX4_daysTillBrought 4 (some .int) ∈ wT := wT_in3 (List.mem_of_getElem? (i := 25) rfl) (by decide)
theorem q_3_29 : Cond.code yX4_dayOrNone cX4_dayOrNone 1 (some .int) ∈ wT := wT_in3 (List.mem_of_getElem? (i := 29) rfl) (by decide)
theorem q_3_33 : Cond.code yX4_first cX4_first 3 (some .int) ∈ wT := wT_in3 (List.mem_of_getElem? (i := 33) rfl) (by decide)
theorem q_3_37 : Cond.code yX3_daysTillAll cX3_daysTillAll 3 (some .int) ∈ wT := wT_in3 (List.mem_of_getElem? (i := 37) rfl) (by decide)
theorem q_3_43 : Cond.code yX3_firstBrought cX3_firstBrought 4 (some .int) ∈ wT := wT_in3 (List.mem_of_getElem? (i := 43) rfl) (by decide)
theorem q_3_48 : Cond.code yX4_enemy cX4_enemy 4 (some .int) ∈ wT := wT_in3 (List.mem_of_getElem? (i := 48) rfl) (by decide)
theorem q_3_53 : Cond.code yX4_malice cX4_malice 3 (some .int) ∈ wT := wT_in3 (List.mem_of_getElem? (i := 53) rfl) (by decide)
theorem q_3_58 : Cond.code yX4_loved cX4_loved 3 (some .int) ∈ wT := wT_in3 (List.mem_of_getElem? (i := 58) rfl) (by decide)
theorem q_3_62 : Cond.code yX4_busiest cX4_busiest 6 (some .int) ∈ wT := wT_in3 (List.mem_of_getElem? (i := 62) rfl) (by decide)
theorem q_3_66 : Cond.code yX0_enemyOfHowMany cX0_enemyOfHowMany 4 (some .int) ∈ wT := wT_in3 (List.mem_of_getElem? (i := 66) rfl) (by decide)
theorem q_3_70 : Cond.code yX4_ring cX4_ring 7 (some .int) ∈ wT := wT_in3 (List.mem_of_getElem? (i := 70) rfl) (by decide)
theorem q_3_74 : Cond.code yX4_slight cX4_slight 3 (some .int) ∈ wT := wT_in3 (List.mem_of_getElem? (i := 74) rfl) (by decide)
theorem q_3_78 : Cond.code yX4_notWaiting cX4_notWaiting 2 (some .int) ∈ wT := wT_in3 (List.mem_of_getElem? (i := 78) rfl) (by decide)
theorem q_3_82 : Cond.code yX3_bestSlight cX3_bestSlight 8 (some .int) ∈ wT := wT_in3 (List.mem_of_getElem? (i := 82) rfl) (by decide)
theorem q_3_86 : Cond.code yX0_receiverOf cX0_receiverOf 2 (some .int) ∈ wT := wT_in3 (List.mem_of_getElem? (i := 86) rfl) (by decide)
theorem q_3_92 : Cond.code yX4_cost cX4_cost 4 (some .int) ∈ wT := wT_in3 (List.mem_of_getElem? (i := 92) rfl) (by decide)
theorem q_3_96 : Cond.code yX3_isEnough cX3_isEnough 7 (some .boolean) ∈ wT := wT_in3 (List.mem_of_getElem? (i := 96) rfl) (by decide)
theorem q_3_100 : Cond.code yX3_slightAll cX3_slightAll 9 (some .boolean) ∈ wT := wT_in3 (List.mem_of_getElem? (i := 100) rfl) (by decide)
theorem q_3_105 : Cond.code yX4_makeUp cX4_makeUp 3 (some .int) ∈ wT := wT_in3 (List.mem_of_getElem? (i := 105) rfl) (by decide)
theorem q_3_109 : Cond.code yX3_worstPeace cX3_worstPeace 8 (some .int) ∈ wT := wT_in3 (List.mem_of_getElem? (i := 109) rfl) (by decide)
theorem q_3_114 : Cond.code yX4_post cX4_post 3 (some .int) ∈ wT := wT_in3 (List.mem_of_getElem? (i := 114) rfl) (by decide)
theorem q_3_118 : Cond.code yX3_bestPosting cX3_bestPosting 8 (some .int) ∈ wT := wT_in3 (List.mem_of_getElem? (i := 118) rfl) (by decide)
theorem q_3_124 : Cond.code yX4_road cX4_road 3 (some .int) ∈ wT := wT_in3 (List.mem_of_getElem? (i := 124) rfl) (by decide)
theorem q_3_129 : Cond.code yX4_farthest cX4_farthest 6 (some .int) ∈ wT := wT_in3 (List.mem_of_getElem? (i := 129) rfl) (by decide)
theorem q_3_133 : Cond.code yX4_fair cX4_fair 6 (some .int) ∈ wT := wT_in3 (List.mem_of_getElem? (i := 133) rfl) (by decide)
theorem q_3_137 : Cond.code yX0_mutualEnemies cX0_mutualEnemies 4 (some .int) ∈ wT := wT_in3 (List.mem_of_getElem? (i := 137) rfl) (by decide)
theorem q_3_141 : Cond.code yX0_maliceOfAll cX0_maliceOfAll 4 (some .int) ∈ wT := wT_in3 (List.mem_of_getElem? (i := 141) rfl) (by decide)
theorem q_3_145 : Cond.code yX4_two cX4_two 4 (some .int) ∈ wT := wT_in3 (List.mem_of_getElem? (i := 145) rfl) (by decide)
theorem q_3_149 : Cond.code yX3_court cX3_court 6 (some .int) ∈ wT := wT_in3 (List.mem_of_getElem? (i := 149) rfl) (by decide)
theorem q_3_153 : Cond.code yX3_broughtTo cX3_broughtTo 4 (some .int) ∈ wT := wT_in3 (List.mem_of_getElem? (i := 153) rfl) (by decide)
theorem q_3_157 : Cond.code yX4_snow cX4_snow 8 (some .long) ∈ wT := wT_in3 (List.mem_of_getElem? (i := 157) rfl) (by decide)
theorem q_3_161 : Cond.code yX4_refuseLong cX4_refuseLong 2 (some .long) ∈ wT := wT_in3 (List.mem_of_getElem? (i := 161) rfl) (by decide)
theorem q_3_166 : Cond.code yX3_broughtOfAll cX3_broughtOfAll 12 (some .long) ∈ wT := wT_in3 (List.mem_of_getElem? (i := 166) rfl) (by decide)
theorem q_3_169 : Cond.code yX4_partOf cX4_partOf 7 (some .long) ∈ wT := wT_in3 (List.mem_of_getElem? (i := 169) rfl) (by decide)
theorem q_3_172 : Cond.code yX4_greatestDivisor cX4_greatestDivisor 11 (some .long) ∈ wT := wT_in3 (List.mem_of_getElem? (i := 172) rfl) (by decide)
theorem q_3_176 : Cond.code yX4_mean cX4_mean 2 (some .long) ∈ wT := wT_in3 (List.mem_of_getElem? (i := 176) rfl) (by decide)
theorem q_3_180 : Cond.code yX0_hatesTogether cX0_hatesTogether 3 (some .int) ∈ wT := wT_in3 (List.mem_of_getElem? (i := 180) rfl) (by decide)
theorem q_3_184 : Cond.code yX4_who cX4_who 4 (some .int) ∈ wT := wT_in3 (List.mem_of_getElem? (i := 184) rfl) (by decide)
theorem q_3_188 : Cond.code yX3_fitting cX3_fitting 9 (some .int) ∈ wT := wT_in3 (List.mem_of_getElem? (i := 188) rfl) (by decide)
theorem q_3_193 : Cond.code yX3_goesAsTold cX3_goesAsTold 4 (some .boolean) ∈ wT := wT_in3 (List.mem_of_getElem? (i := 193) rfl) (by decide)
theorem q_3_197 : Cond.code yX1_at cX1_at 2 (some .int) ∈ wT := wT_in3 (List.mem_of_getElem? (i := 197) rfl) (by decide)
theorem q_3_201 : Cond.code yX4_asTold cX4_asTold 1 (some .int) ∈ wT := wT_in3 (List.mem_of_getElem? (i := 201) rfl) (by decide)
theorem q_3_205 : Cond.code yX4_row cX4_row 2 (some .int) ∈ wT := wT_in3 (List.mem_of_getElem? (i := 205) rfl) (by decide)
theorem q_3_209 : Cond.code yX1_add cX1_add 2 none ∈ wT := wT_in3 (List.mem_of_getElem? (i := 209) rfl) (by decide)
theorem q_3_213 : Cond.code yX4_judge cX4_judge 3 (some .int) ∈ wT := wT_in3 (List.mem_of_getElem? (i := 213) rfl) (by decide)
theorem q_3_219 : Cond.code yX4_clear cX4_clear 2 (some .int) ∈ wT := wT_in3 (List.mem_of_getElem? (i := 219) rfl) (by decide)
theorem q_3_223 : Cond.code yX4_lots cX4_lots 4 (some .int) ∈ wT := wT_in3 (List.mem_of_getElem? (i := 223) rfl) (by decide)
theorem q_3_227 : Cond.code yX3_ofDrawnDuchies cX3_ofDrawnDuchies 8 (some .int) ∈ wT := wT_in3 (List.mem_of_getElem? (i := 227) rfl) (by decide)
theorem q_3_231 : Cond.code yX3_drawHates cX3_drawHates 5 (some .int) ∈ wT := wT_in3 (List.mem_of_getElem? (i := 231) rfl) (by decide)
theorem q_4_0 : Cond.code yX4_image cX4_image 1 (some .int) ∈ wT := wT_in4 (List.mem_of_getElem? (i := 0) rfl) (by decide)
theorem q_4_4 : Cond.code yX4_on cX4_on 1 (some .int) ∈ wT := wT_in4 (List.mem_of_getElem? (i := 4) rfl) (by decide)
theorem q_4_8 : Cond.code yX4_count cX4_count 2 (some .int) ∈ wT := wT_in4 (List.mem_of_getElem? (i := 8) rfl) (by decide)
theorem q_4_12 : Cond.code yX0_parcelsThat cX0_parcelsThat 4 (some .int) ∈ wT := wT_in4 (List.mem_of_getElem? (i := 12) rfl) (by decide)
theorem q_4_107 : Cond.code yX5_letter cX5_letter 3 (some .int) ∈ wT := wT_in4 (List.mem_of_getElem? (i := 107) rfl) (by decide)
theorem q_4_110 : Cond.code yX5_bound cX5_bound 3 (some .int) ∈ wT := wT_in4 (List.mem_of_getElem? (i := 110) rfl) (by decide)
theorem q_4_114 : Cond.code yX5_no cX5_no 2 (some .int) ∈ wT := wT_in4 (List.mem_of_getElem? (i := 114) rfl) (by decide)
theorem q_4_118 : Cond.code yX5_duchy cX5_duchy 3 (some .int) ∈ wT := wT_in4 (List.mem_of_getElem? (i := 118) rfl) (by decide)
theorem q_4_122 : Cond.code yX5_statement cX5_statement 2 (some .boolean) ∈ wT := wT_in4 (List.mem_of_getElem? (i := 122) rfl) (by decide)
theorem q_4_126 : Cond.code yX5_next cX5_next 1 (some .int) ∈ wT := wT_in4 (List.mem_of_getElem? (i := 126) rfl) (by decide)
theorem q_4_130 : Cond.code yX5_readsAll cX5_readsAll 3 (some .boolean) ∈ wT := wT_in4 (List.mem_of_getElem? (i := 130) rfl) (by decide)
theorem q_4_134 : Cond.code yX5_readsOne cX5_readsOne 2 (some .boolean) ∈ wT := wT_in4 (List.mem_of_getElem? (i := 134) rfl) (by decide)
theorem q_4_137 : Cond.code yX5_kindOf cX5_kindOf 1 (some .int) ∈ wT := wT_in4 (List.mem_of_getElem? (i := 137) rfl) (by decide)
theorem q_4_141 : Cond.code yX5_readsDigits cX5_readsDigits 5 (some .boolean) ∈ wT := wT_in4 (List.mem_of_getElem? (i := 141) rfl) (by decide)
theorem q_4_144 : Cond.code yX5_isIn cX5_isIn 3 (some .boolean) ∈ wT := wT_in4 (List.mem_of_getElem? (i := 144) rfl) (by decide)
theorem q_4_148 : Cond.code yX5_passesAll cX5_passesAll 3 none ∈ wT := wT_in4 (List.mem_of_getElem? (i := 148) rfl) (by decide)
theorem q_4_152 : Cond.code yX5_passes cX5_passes 3 none ∈ wT := wT_in4 (List.mem_of_getElem? (i := 152) rfl) (by decide)
theorem q_4_156 : Cond.code yX5_passOne cX5_passOne 3 (some .int) ∈ wT := wT_in4 (List.mem_of_getElem? (i := 156) rfl) (by decide)
theorem q_4_160 : Cond.code yX5_comes cX5_comes 3 (some .boolean) ∈ wT := wT_in4 (List.mem_of_getElem? (i := 160) rfl) (by decide)
theorem q_4_164 : Cond.code yX5_comesOne cX5_comesOne 5 (some .boolean) ∈ wT := wT_in4 (List.mem_of_getElem? (i := 164) rfl) (by decide)
theorem q_4_167 : Cond.code yX5_spot cX5_spot 2 (some .int) ∈ wT := wT_in4 (List.mem_of_getElem? (i := 167) rfl) (by decide)
theorem q_4_171 : Cond.code yX5_comesParcel cX5_comesParcel 3 (some .boolean) ∈ wT := wT_in4 (List.mem_of_getElem? (i := 171) rfl) (by decide)
theorem q_4_175 : Cond.code yX5_isOne cX5_isOne 2 (some .boolean) ∈ wT := wT_in4 (List.mem_of_getElem? (i := 175) rfl) (by decide)
theorem q_4_179 : Cond.code yX5_adds cX5_adds 3 none ∈ wT := wT_in4 (List.mem_of_getElem? (i := 179) rfl) (by decide)
theorem q_4_183 : Cond.code yX5_comesDays cX5_comesDays 2 (some .boolean) ∈ wT := wT_in4 (List.mem_of_getElem? (i := 183) rfl) (by decide)
theorem q_4_187 : Cond.code yX5_goes cX5_goes 3 none ∈ wT := wT_in4 (List.mem_of_getElem? (i := 187) rfl) (by decide)
theorem q_4_191 : Cond.code yX5_goesDay cX5_goesDay 3 none ∈ wT := wT_in4 (List.mem_of_getElem? (i := 191) rfl) (by decide)
theorem q_4_195 : Cond.code yX5_comesNearer cX5_comesNearer 2 none ∈ wT := wT_in4 (List.mem_of_getElem? (i := 195) rfl) (by decide)
theorem q_4_198 : Cond.code yX5_held cX5_held 3 (some .int) ∈ wT := wT_in4 (List.mem_of_getElem? (i := 198) rfl) (by decide)
theorem q_4_202 : Cond.code yX5_isTaken cX5_isTaken 3 none ∈ wT := wT_in4 (List.mem_of_getElem? (i := 202) rfl) (by decide)
theorem q_4_206 : Cond.code yX5_enemyOf cX5_enemyOf 2 (some .int) ∈ wT := wT_in4 (List.mem_of_getElem? (i := 206) rfl) (by decide)
theorem q_4_210 : Cond.code yX5_enemyBut cX5_enemyBut 5 (some .int) ∈ wT := wT_in4 (List.mem_of_getElem? (i := 210) rfl) (by decide)
theorem q_4_214 : Cond.code yX5_maliceOf cX5_maliceOf 5 (some .int) ∈ wT := wT_in4 (List.mem_of_getElem? (i := 214) rfl) (by decide)
theorem q_4_217 : Cond.code yX5_apart cX5_apart 2 (some .int) ∈ wT := wT_in4 (List.mem_of_getElem? (i := 217) rfl) (by decide)
theorem q_4_221 : Cond.code yX5_isCarrying cX5_isCarrying 3 (some .boolean) ∈ wT := wT_in4 (List.mem_of_getElem? (i := 221) rfl) (by decide)
theorem q_4_225 : Cond.code yX5_milesOf cX5_milesOf 2 (some .int) ∈ wT := wT_in4 (List.mem_of_getElem? (i := 225) rfl) (by decide)
theorem q_4_229 : Cond.code yX5_comesTwo cX5_comesTwo 5 (some .boolean) ∈ wT := wT_in4 (List.mem_of_getElem? (i := 229) rfl) (by decide)
theorem q_4_233 : Cond.code yX5_areTwo cX5_areTwo 3 (some .boolean) ∈ wT := wT_in4 (List.mem_of_getElem? (i := 233) rfl) (by decide)
theorem q_4_237 : Cond.code yX5_slighted cX5_slighted 4 none ∈ wT := wT_in4 (List.mem_of_getElem? (i := 237) rfl) (by decide)
theorem q_5_1 : Cond.code yX5_madeUp cX5_madeUp 3 none ∈ wT := wT_in5 (List.mem_of_getElem? (i := 1) rfl) (by decide)
theorem q_5_5 : Cond.code yX5_image cX5_image 1 (some .int) ∈ wT := wT_in5 (List.mem_of_getElem? (i := 5) rfl) (by decide)
theorem q_5_9 : Cond.code yX5_on cX5_on 1 (some .int) ∈ wT := wT_in5 (List.mem_of_getElem? (i := 9) rfl) (by decide)
theorem q_5_13 : Cond.code yX5_person cX5_person 3 (some .int) ∈ wT := wT_in5 (List.mem_of_getElem? (i := 13) rfl) (by decide)
theorem q_5_17 : Cond.code yX5_parcel cX5_parcel 3 (some .int) ∈ wT := wT_in5 (List.mem_of_getElem? (i := 17) rfl) (by decide)
theorem q_5_21 : Cond.code yX5_isParcel cX5_isParcel 2 (some .boolean) ∈ wT := wT_in5 (List.mem_of_getElem? (i := 21) rfl) (by decide)
theorem q_5_25 : Cond.code yX5_hate cX5_hate 3 (some .int) ∈ wT := wT_in5 (List.mem_of_getElem? (i := 25) rfl) (by decide)
theorem q_5_29 : Cond.code yX5_posts cX5_posts 4 (some .int) ∈ wT := wT_in5 (List.mem_of_getElem? (i := 29) rfl) (by decide)
theorem q_5_33 : Cond.code yX5_hates cX5_hates 6 (some .int) ∈ wT := wT_in5 (List.mem_of_getElem? (i := 33) rfl) (by decide)
theorem q_5_37 : Cond.code yX5_slights cX5_slights 3 (some .int) ∈ wT := wT_in5 (List.mem_of_getElem? (i := 37) rfl) (by decide)
theorem q_5_41 : Cond.code yX5_peace cX5_peace 3 (some .int) ∈ wT := wT_in5 (List.mem_of_getElem? (i := 41) rfl) (by decide)
theorem q_5_45 : Cond.code yX5_moves cX5_moves 5 (some .int) ∈ wT := wT_in5 (List.mem_of_getElem? (i := 45) rfl) (by decide)
theorem q_5_49 : Cond.code yX5_turn cX5_turn 6 (some .int) ∈ wT := wT_in5 (List.mem_of_getElem? (i := 49) rfl) (by decide)
theorem q_5_53 : Cond.code yX5_days cX5_days 3 (some .int) ∈ wT := wT_in5 (List.mem_of_getElem? (i := 53) rfl) (by decide)
theorem q_5_57 : Cond.code yX5_thoseIn cX5_thoseIn 4 (some .int) ∈ wT := wT_in5 (List.mem_of_getElem? (i := 57) rfl) (by decide)
theorem q_5_60 : Cond.code yX5_bits cX5_bits 3 (some .int) ∈ wT := wT_in5 (List.mem_of_getElem? (i := 60) rfl) (by decide)
theorem q_5_64 : Cond.code yX5_parcelThen cX5_parcelThen 6 (some .int) ∈ wT := wT_in5 (List.mem_of_getElem? (i := 64) rfl) (by decide)
theorem q_5_67 : Cond.code yX5_notDays cX5_notDays 1 (some .int) ∈ wT := wT_in5 (List.mem_of_getElem? (i := 67) rfl) (by decide)
theorem q_5_71 : Cond.code yX5_thinks cX5_thinks 1 none ∈ wT := wT_in5 (List.mem_of_getElem? (i := 71) rfl) (by decide)
theorem q_5_75 : Cond.code yX5_forgets cX5_forgets 1 none ∈ wT := wT_in5 (List.mem_of_getElem? (i := 75) rfl) (by decide)
theorem q_5_79 : Cond.code yX5_hateThen cX5_hateThen 6 (some .int) ∈ wT := wT_in5 (List.mem_of_getElem? (i := 79) rfl) (by decide)
theorem q_5_83 : Cond.code yX5_gotThen cX5_gotThen 5 (some .int) ∈ wT := wT_in5 (List.mem_of_getElem? (i := 83) rfl) (by decide)
theorem q_5_87 : Cond.code yX5_when cX5_when 2 (some .int) ∈ wT := wT_in5 (List.mem_of_getElem? (i := 87) rfl) (by decide)
theorem q_5_91 : Cond.code yX5_whenOf cX5_whenOf 4 (some .int) ∈ wT := wT_in5 (List.mem_of_getElem? (i := 91) rfl) (by decide)
theorem q_5_95 : Cond.code yX5_first cX5_first 7 (some .int) ∈ wT := wT_in5 (List.mem_of_getElem? (i := 95) rfl) (by decide)
theorem q_5_99 : Cond.code yX5_lateOf cX5_lateOf 3 (some .int) ∈ wT := wT_in5 (List.mem_of_getElem? (i := 99) rfl) (by decide)
theorem q_5_103 : Cond.code yX5_enemy cX5_enemy 5 (some .int) ∈ wT := wT_in5 (List.mem_of_getElem? (i := 103) rfl) (by decide)
theorem q_5_107 : Cond.code yX5_malice cX5_malice 3 (some .int) ∈ wT := wT_in5 (List.mem_of_getElem? (i := 107) rfl) (by decide)
theorem q_5_111 : Cond.code yX5_loved cX5_loved 3 (some .int) ∈ wT := wT_in5 (List.mem_of_getElem? (i := 111) rfl) (by decide)
theorem q_5_115 : Cond.code yX5_busiest cX5_busiest 5 (some .int) ∈ wT := wT_in5 (List.mem_of_getElem? (i := 115) rfl) (by decide)
theorem q_5_119 : Cond.code yX5_enemyOfMany cX5_enemyOfMany 4 (some .int) ∈ wT := wT_in5 (List.mem_of_getElem? (i := 119) rfl) (by decide)
theorem q_5_123 : Cond.code yX5_ring cX5_ring 6 (some .int) ∈ wT := wT_in5 (List.mem_of_getElem? (i := 123) rfl) (by decide)
theorem q_5_126 : Cond.code yX5_has cX5_has 2 (some .boolean) ∈ wT := wT_in5 (List.mem_of_getElem? (i := 126) rfl) (by decide)
theorem q_5_130 : Cond.code yX5_slight cX5_slight 7 (some .int) ∈ wT := wT_in5 (List.mem_of_getElem? (i := 130) rfl) (by decide)
theorem q_5_134 : Cond.code yX5_lateSlighting cX5_lateSlighting 5 (some .int) ∈ wT := wT_in5 (List.mem_of_getElem? (i := 134) rfl) (by decide)
theorem q_5_138 : Cond.code yX5_cost cX5_cost 7 (some .int) ∈ wT := wT_in5 (List.mem_of_getElem? (i := 138) rfl) (by decide)
theorem q_5_142 : Cond.code yX5_slightsOf cX5_slightsOf 6 (some .int) ∈ wT := wT_in5 (List.mem_of_getElem? (i := 142) rfl) (by decide)
theorem q_5_146 : Cond.code yX5_bringsIn cX5_bringsIn 6 (some .boolean) ∈ wT := wT_in5 (List.mem_of_getElem? (i := 146) rfl) (by decide)
theorem q_5_150 : Cond.code yX5_changes cX5_changes 1 none ∈ wT := wT_in5 (List.mem_of_getElem? (i := 150) rfl) (by decide)
theorem q_5_154 : Cond.code yX5_changesBack cX5_changesBack 1 none ∈ wT := wT_in5 (List.mem_of_getElem? (i := 154) rfl) (by decide)
theorem q_5_158 : Cond.code yX5_makeUp cX5_makeUp 7 (some .int) ∈ wT := wT_in5 (List.mem_of_getElem? (i := 158) rfl) (by decide)
theorem q_5_162 : Cond.code yX5_latePeace cX5_latePeace 4 (some .int) ∈ wT := wT_in5 (List.mem_of_getElem? (i := 162) rfl) (by decide)
theorem q_5_166 : Cond.code yX5_post cX5_post 8 (some .int) ∈ wT := wT_in5 (List.mem_of_getElem? (i := 166) rfl) (by decide)
theorem q_5_170 : Cond.code yX5_latePosted cX5_latePosted 4 (some .int) ∈ wT := wT_in5 (List.mem_of_getElem? (i := 170) rfl) (by decide)
theorem q_5_174 : Cond.code yX5_road cX5_road 3 (some .int) ∈ wT := wT_in5 (List.mem_of_getElem? (i := 174) rfl) (by decide)
theorem q_5_178 : Cond.code yX5_farthest cX5_farthest 5 (some .int) ∈ wT := wT_in5 (List.mem_of_getElem? (i := 178) rfl) (by decide)
theorem q_5_182 : Cond.code yX5_fair cX5_fair 5 (some .int) ∈ wT := wT_in5 (List.mem_of_getElem? (i := 182) rfl) (by decide)
theorem q_5_186 : Cond.code yX5_pairs cX5_pairs 4 (some .int) ∈ wT := wT_in5 (List.mem_of_getElem? (i := 186) rfl) (by decide)
theorem q_5_190 : Cond.code yX5_maliceFor cX5_maliceFor 4 (some .int) ∈ wT := wT_in5 (List.mem_of_getElem? (i := 190) rfl) (by decide)
theorem q_5_194 : Cond.code yX5_two cX5_two 6 (some .int) ∈ wT := wT_in5 (List.mem_of_getElem? (i := 194) rfl) (by decide)
theorem q_5_198 : Cond.code yX5_findBrought cX5_findBrought 5 none ∈ wT := wT_in5 (List.mem_of_getElem? (i := 198) rfl) (by decide)
theorem q_5_202 : Cond.code yX5_broughtTo cX5_broughtTo 4 (some .int) ∈ wT := wT_in5 (List.mem_of_getElem? (i := 202) rfl) (by decide)
theorem q_5_206 : Cond.code yX5_snow cX5_snow 14 (some .long) ∈ wT := wT_in5 (List.mem_of_getElem? (i := 206) rfl) (by decide)
theorem q_5_210 : Cond.code yX5_lowestOf cX5_lowestOf 2 (some .long) ∈ wT := wT_in5 (List.mem_of_getElem? (i := 210) rfl) (by decide)
theorem q_5_214 : Cond.code yX5_partOf cX5_partOf 5 (some .long) ∈ wT := wT_in5 (List.mem_of_getElem? (i := 214) rfl) (by decide)
theorem q_5_217 : Cond.code yX5_divisor cX5_divisor 10 (some .long) ∈ wT := wT_in5 (List.mem_of_getElem? (i := 217) rfl) (by decide)
theorem q_5_221 : Cond.code yX5_mean cX5_mean 2 (some .long) ∈ wT := wT_in5 (List.mem_of_getElem? (i := 221) rfl) (by decide)
theorem q_5_225 : Cond.code yX5_allHate cX5_allHate 3 (some .int) ∈ wT := wT_in5 (List.mem_of_getElem? (i := 225) rfl) (by decide)
theorem q_5_229 : Cond.code yX5_who cX5_who 5 (some .int) ∈ wT := wT_in5 (List.mem_of_getElem? (i := 229) rfl) (by decide)
theorem q_5_233 : Cond.code yX5_bitsFor cX5_bitsFor 8 (some .int) ∈ wT := wT_in5 (List.mem_of_getElem? (i := 233) rfl) (by decide)
theorem q_5_237 : Cond.code yX5_isSo cX5_isSo 4 (some .boolean) ∈ wT := wT_in5 (List.mem_of_getElem? (i := 237) rfl) (by decide)
theorem q_6_1 : Cond.code yX5_row cX5_row 3 (some .int) ∈ wT := wT_in6 (List.mem_of_getElem? (i := 1) rfl) (by decide)
theorem q_6_5 : Cond.code yX5_judge cX5_judge 3 (some .int) ∈ wT := wT_in6 (List.mem_of_getElem? (i := 5) rfl) (by decide)
theorem q_6_9 : Cond.code yX5_clear cX5_clear 2 (some .int) ∈ wT := wT_in6 (List.mem_of_getElem? (i := 9) rfl) (by decide)
theorem q_6_13 : Cond.code yX5_lots cX5_lots 9 (some .int) ∈ wT := wT_in6 (List.mem_of_getElem? (i := 13) rfl) (by decide)
theorem q_6_20 : Cond.code yX5_count cX5_count 2 (some .int) ∈ wT := wT_in6 (List.mem_of_getElem? (i := 20) rfl) (by decide)
theorem q_1_52 : Cond.fieldLink RX0 49 "PostByEnemy$Duchy" "lefts" "[I" ∈ wT := wT_in1 (List.mem_of_getElem? (i := 52) rfl) (by decide)
theorem q_1_51 : Cond.fieldLink RX0 46 "PostByEnemy$Duchy" "carriers" "[I" ∈ wT := wT_in1 (List.mem_of_getElem? (i := 51) rfl) (by decide)
theorem q_1_50 : Cond.fieldLink RX0 43 "PostByEnemy$Duchy" "states" "[I" ∈ wT := wT_in1 (List.mem_of_getElem? (i := 50) rfl) (by decide)
theorem q_1_49 : Cond.fieldLink RX0 40 "PostByEnemy$Duchy" "worths" "[I" ∈ wT := wT_in1 (List.mem_of_getElem? (i := 49) rfl) (by decide)
theorem q_1_48 : Cond.fieldLink RX0 37 "PostByEnemy$Duchy" "receivers" "[I" ∈ wT := wT_in1 (List.mem_of_getElem? (i := 48) rfl) (by decide)
theorem q_1_47 : Cond.fieldLink RX0 34 "PostByEnemy$Duchy" "feelings" "[I" ∈ wT := wT_in1 (List.mem_of_getElem? (i := 47) rfl) (by decide)
theorem q_1_45 : Cond.fieldLink RX0 31 "PostByEnemy$Duchy" "gots" "[I" ∈ wT := wT_in1 (List.mem_of_getElem? (i := 45) rfl) (by decide)
theorem q_1_43 : Cond.fieldLink RX0 28 "PostByEnemy$Duchy" "places" "[I" ∈ wT := wT_in1 (List.mem_of_getElem? (i := 43) rfl) (by decide)
theorem q_1_40 : Cond.fieldLink RX0 25 "PostByEnemy$Duchy" "figures" "[I" ∈ wT := wT_in1 (List.mem_of_getElem? (i := 40) rfl) (by decide)
theorem q_1_37 : Cond.fieldLink RX0 21 "PostByEnemy$Duchy" "kinds" "[I" ∈ wT := wT_in1 (List.mem_of_getElem? (i := 37) rfl) (by decide)
theorem q_1_34 : Cond.fieldLink RX0 18 "PostByEnemy$Duchy" "date" "I" ∈ wT := wT_in1 (List.mem_of_getElem? (i := 34) rfl) (by decide)
theorem q_1_31 : Cond.fieldLink RX0 15 "PostByEnemy$Duchy" "parcels" "I" ∈ wT := wT_in1 (List.mem_of_getElem? (i := 31) rfl) (by decide)
theorem q_1_28 : Cond.fieldLink RX0 9 "PostByEnemy$Duchy" "people" "I" ∈ wT := wT_in1 (List.mem_of_getElem? (i := 28) rfl) (by decide)
theorem q_1_125 : Cond.fieldLink RX1 15 "PostByEnemy$Row" "numbers" "[I" ∈ wT := wT_in1 (List.mem_of_getElem? (i := 125) rfl) (by decide)
theorem q_1_122 : Cond.fieldLink RX1 9 "PostByEnemy$Row" "size" "I" ∈ wT := wT_in1 (List.mem_of_getElem? (i := 122) rfl) (by decide)
theorem qn_1_35 : Cond.fieldLinkNest RX2 95 "PostByEnemy$Duchy" "date" "I" "PostByEnemy" ∈ wN := wN_in1 (List.mem_of_getElem? (i := 35) rfl) rfl
theorem q_1_110 : Cond.fieldLink RX2 15 "PostByEnemy$Text" "letters" "[I" ∈ wT := wT_in1 (List.mem_of_getElem? (i := 110) rfl) (by decide)
theorem q_1_108 : Cond.fieldLink RX2 9 "PostByEnemy$Text" "size" "I" ∈ wT := wT_in1 (List.mem_of_getElem? (i := 108) rfl) (by decide)
theorem qn_1_123 : Cond.fieldLinkNest RX3 102 "PostByEnemy$Row" "size" "I" "PostByEnemy" ∈ wN := wN_in1 (List.mem_of_getElem? (i := 123) rfl) rfl
theorem qn_1_39 : Cond.fieldLinkNest RX3 95 "PostByEnemy$Duchy" "kinds" "[I" "PostByEnemy" ∈ wN := wN_in1 (List.mem_of_getElem? (i := 39) rfl) rfl
theorem qn_1_42 : Cond.fieldLinkNest RX3 92 "PostByEnemy$Duchy" "figures" "[I" "PostByEnemy" ∈ wN := wN_in1 (List.mem_of_getElem? (i := 42) rfl) rfl
theorem qn_1_29 : Cond.fieldLinkNest RX3 59 "PostByEnemy$Duchy" "people" "I" "PostByEnemy" ∈ wN := wN_in1 (List.mem_of_getElem? (i := 29) rfl) rfl
theorem qn_1_32 : Cond.fieldLinkNest RX3 40 "PostByEnemy$Duchy" "parcels" "I" "PostByEnemy" ∈ wN := wN_in1 (List.mem_of_getElem? (i := 32) rfl) rfl
theorem q_1_92 : Cond.fieldLink RX3 25 "PostByEnemy$Thought" "otherGot" "[I" ∈ wT := wT_in1 (List.mem_of_getElem? (i := 92) rfl) (by decide)
theorem q_1_91 : Cond.fieldLink RX3 21 "PostByEnemy$Thought" "firstGot" "[I" ∈ wT := wT_in1 (List.mem_of_getElem? (i := 91) rfl) (by decide)
theorem q_1_90 : Cond.fieldLink RX3 18 "PostByEnemy$Thought" "later" "LPostByEnemy$Duchy;" ∈ wT := wT_in1 (List.mem_of_getElem? (i := 90) rfl) (by decide)
theorem q_1_89 : Cond.fieldLink RX3 12 "PostByEnemy$Thought" "mind" "LPostByEnemy$Duchy;" ∈ wT := wT_in1 (List.mem_of_getElem? (i := 89) rfl) (by decide)
theorem qn_1_124 : Cond.fieldLinkNest RX4 224 "PostByEnemy$Row" "size" "I" "PostByEnemy" ∈ wN := wN_in1 (List.mem_of_getElem? (i := 124) rfl) rfl
theorem qn_1_30 : Cond.fieldLinkNest RX4 168 "PostByEnemy$Duchy" "people" "I" "PostByEnemy" ∈ wN := wN_in1 (List.mem_of_getElem? (i := 30) rfl) rfl
theorem qn_1_46 : Cond.fieldLinkNest RX4 145 "PostByEnemy$Duchy" "gots" "[I" "PostByEnemy" ∈ wN := wN_in1 (List.mem_of_getElem? (i := 46) rfl) rfl
theorem qn_1_36 : Cond.fieldLinkNest RX4 130 "PostByEnemy$Duchy" "date" "I" "PostByEnemy" ∈ wN := wN_in1 (List.mem_of_getElem? (i := 36) rfl) rfl
theorem qn_1_41 : Cond.fieldLinkNest RX4 127 "PostByEnemy$Duchy" "figures" "[I" "PostByEnemy" ∈ wN := wN_in1 (List.mem_of_getElem? (i := 41) rfl) rfl
theorem qn_1_38 : Cond.fieldLinkNest RX4 124 "PostByEnemy$Duchy" "kinds" "[I" "PostByEnemy" ∈ wN := wN_in1 (List.mem_of_getElem? (i := 38) rfl) rfl
theorem qn_1_44 : Cond.fieldLinkNest RX4 121 "PostByEnemy$Duchy" "places" "[I" "PostByEnemy" ∈ wN := wN_in1 (List.mem_of_getElem? (i := 44) rfl) rfl
theorem qn_1_33 : Cond.fieldLinkNest RX4 105 "PostByEnemy$Duchy" "parcels" "I" "PostByEnemy" ∈ wN := wN_in1 (List.mem_of_getElem? (i := 33) rfl) rfl
theorem qn_1_109 : Cond.fieldLinkNest RX4 52 "PostByEnemy$Text" "size" "I" "PostByEnemy" ∈ wN := wN_in1 (List.mem_of_getElem? (i := 109) rfl) rfl
theorem q_1_137 : Cond.fieldLink RX4 44 "PostByEnemy" "refused" "[I" ∈ wT := wT_in1 (List.mem_of_getElem? (i := 137) rfl) (by decide)
theorem q_1_136 : Cond.fieldLink RX4 40 "PostByEnemy" "told" "LPostByEnemy$Row;" ∈ wT := wT_in1 (List.mem_of_getElem? (i := 136) rfl) (by decide)
theorem q_1_135 : Cond.fieldLink RX4 33 "PostByEnemy" "text" "LPostByEnemy$Text;" ∈ wT := wT_in1 (List.mem_of_getElem? (i := 135) rfl) (by decide)
theorem q_1_134 : Cond.fieldLink RX4 26 "PostByEnemy" "thought" "LPostByEnemy$Thought;" ∈ wT := wT_in1 (List.mem_of_getElem? (i := 134) rfl) (by decide)
theorem q_1_133 : Cond.fieldLink RX4 19 "PostByEnemy" "isTaken" "Z" ∈ wT := wT_in1 (List.mem_of_getElem? (i := 133) rfl) (by decide)
theorem q_1_132 : Cond.fieldLink RX4 16 "PostByEnemy" "taken" "LPostByEnemy$Duchy;" ∈ wT := wT_in1 (List.mem_of_getElem? (i := 132) rfl) (by decide)
theorem q_1_131 : Cond.fieldLink RX4 10 "PostByEnemy" "now" "LPostByEnemy$Duchy;" ∈ wT := wT_in1 (List.mem_of_getElem? (i := 131) rfl) (by decide)
theorem q_4_46 : Cond.fieldLink RX5 290 "PostByEnemyModel" "rowMany" "I" ∈ wT := wT_in4 (List.mem_of_getElem? (i := 46) rfl) (by decide)
theorem q_4_41 : Cond.fieldLink RX5 178 "PostByEnemyModel" "hasImage" "Z" ∈ wT := wT_in4 (List.mem_of_getElem? (i := 41) rfl) (by decide)
theorem q_4_43 : Cond.fieldLink RX5 168 "PostByEnemyModel" "cursor" "I" ∈ wT := wT_in4 (List.mem_of_getElem? (i := 43) rfl) (by decide)
theorem q_4_42 : Cond.fieldLink RX5 164 "PostByEnemyModel" "isKeeping" "Z" ∈ wT := wT_in4 (List.mem_of_getElem? (i := 42) rfl) (by decide)
theorem q_4_32 : Cond.fieldLink RX5 133 "PostByEnemyModel" "day" "I" ∈ wT := wT_in4 (List.mem_of_getElem? (i := 32) rfl) (by decide)
theorem q_4_39 : Cond.fieldLink RX5 109 "PostByEnemyModel" "statements" "I" ∈ wT := wT_in4 (List.mem_of_getElem? (i := 39) rfl) (by decide)
theorem q_4_38 : Cond.fieldLink RX5 88 "PostByEnemyModel" "at" "I" ∈ wT := wT_in4 (List.mem_of_getElem? (i := 38) rfl) (by decide)
theorem q_4_37 : Cond.fieldLink RX5 81 "PostByEnemyModel" "taped" "I" ∈ wT := wT_in4 (List.mem_of_getElem? (i := 37) rfl) (by decide)
theorem q_4_31 : Cond.fieldLink RX5 74 "PostByEnemyModel" "parcels" "I" ∈ wT := wT_in4 (List.mem_of_getElem? (i := 31) rfl) (by decide)
theorem q_4_30 : Cond.fieldLink RX5 64 "PostByEnemyModel" "people" "I" ∈ wT := wT_in4 (List.mem_of_getElem? (i := 30) rfl) (by decide)
theorem q_4_45 : Cond.fieldLink RX5 61 "PostByEnemyModel" "row" "[I" ∈ wT := wT_in4 (List.mem_of_getElem? (i := 45) rfl) (by decide)
theorem q_4_44 : Cond.fieldLink RX5 58 "PostByEnemyModel" "broughtBy" "[I" ∈ wT := wT_in4 (List.mem_of_getElem? (i := 44) rfl) (by decide)
theorem q_4_40 : Cond.fieldLink RX5 55 "PostByEnemyModel" "kept" "[I" ∈ wT := wT_in4 (List.mem_of_getElem? (i := 40) rfl) (by decide)
theorem q_4_36 : Cond.fieldLink RX5 52 "PostByEnemyModel" "told" "[I" ∈ wT := wT_in4 (List.mem_of_getElem? (i := 36) rfl) (by decide)
theorem q_4_35 : Cond.fieldLink RX5 49 "PostByEnemyModel" "letterAt" "[I" ∈ wT := wT_in4 (List.mem_of_getElem? (i := 35) rfl) (by decide)
theorem q_4_34 : Cond.fieldLink RX5 46 "PostByEnemyModel" "letter" "[I" ∈ wT := wT_in4 (List.mem_of_getElem? (i := 34) rfl) (by decide)
theorem q_4_33 : Cond.fieldLink RX5 43 "PostByEnemyModel" "tape" "[I" ∈ wT := wT_in4 (List.mem_of_getElem? (i := 33) rfl) (by decide)
theorem q_4_29 : Cond.fieldLink RX5 40 "PostByEnemyModel" "by" "[I" ∈ wT := wT_in4 (List.mem_of_getElem? (i := 29) rfl) (by decide)
theorem q_4_28 : Cond.fieldLink RX5 37 "PostByEnemyModel" "left" "[I" ∈ wT := wT_in4 (List.mem_of_getElem? (i := 28) rfl) (by decide)
theorem q_4_27 : Cond.fieldLink RX5 34 "PostByEnemyModel" "state" "[I" ∈ wT := wT_in4 (List.mem_of_getElem? (i := 27) rfl) (by decide)
theorem q_4_26 : Cond.fieldLink RX5 31 "PostByEnemyModel" "worth" "[I" ∈ wT := wT_in4 (List.mem_of_getElem? (i := 26) rfl) (by decide)
theorem q_4_25 : Cond.fieldLink RX5 28 "PostByEnemyModel" "to" "[I" ∈ wT := wT_in4 (List.mem_of_getElem? (i := 25) rfl) (by decide)
theorem q_4_24 : Cond.fieldLink RX5 25 "PostByEnemyModel" "hate" "[I" ∈ wT := wT_in4 (List.mem_of_getElem? (i := 24) rfl) (by decide)
theorem q_4_23 : Cond.fieldLink RX5 22 "PostByEnemyModel" "got" "[I" ∈ wT := wT_in4 (List.mem_of_getElem? (i := 23) rfl) (by decide)
theorem q_4_22 : Cond.fieldLink RX5 19 "PostByEnemyModel" "place" "[I" ∈ wT := wT_in4 (List.mem_of_getElem? (i := 22) rfl) (by decide)
theorem q_4_21 : Cond.fieldLink RX5 16 "PostByEnemyModel" "figure" "[I" ∈ wT := wT_in4 (List.mem_of_getElem? (i := 21) rfl) (by decide)
theorem q_4_20 : Cond.fieldLink RX5 13 "PostByEnemyModel" "kind" "[I" ∈ wT := wT_in4 (List.mem_of_getElem? (i := 20) rfl) (by decide)
theorem q_4_19 : Cond.fieldLink RX5 7 "PostByEnemyModel" "refused" "[I" ∈ wT := wT_in4 (List.mem_of_getElem? (i := 19) rfl) (by decide)
theorem q_1_2 : Cond.initialized RX0 ∈ wT := wT_in1 (List.mem_of_getElem? (i := 2) rfl) (by decide)
theorem q_2_122 : Cond.methodLink RX0 120 yX0_daysOnRoad ∈ wT := wT_in2 (List.mem_of_getElem? (i := 122) rfl) (by decide)
theorem q_2_123 : Cond.static yX0_daysOnRoad ∈ wT := wT_in2 (List.mem_of_getElem? (i := 123) rfl) (by decide)
theorem q_2_114 : Cond.selects RX0 yX0_apart yX0_apart ∈ wT := wT_in2 (List.mem_of_getElem? (i := 114) rfl) (by decide)
theorem q_2_112 : Cond.methodLink RX0 117 yX0_apart ∈ wT := wT_in2 (List.mem_of_getElem? (i := 112) rfl) (by decide)
theorem q_2_113 : Cond.instanceMethod yX0_apart ∈ wT := wT_in2 (List.mem_of_getElem? (i := 113) rfl) (by decide)
theorem q_2_89 : Cond.selects RX0 yX0_addHate yX0_addHate ∈ wT := wT_in2 (List.mem_of_getElem? (i := 89) rfl) (by decide)
theorem q_2_87 : Cond.methodLink RX0 114 yX0_addHate ∈ wT := wT_in2 (List.mem_of_getElem? (i := 87) rfl) (by decide)
theorem q_2_88 : Cond.instanceMethod yX0_addHate ∈ wT := wT_in2 (List.mem_of_getElem? (i := 88) rfl) (by decide)
theorem q_s_4 : Cond.selects RX0 yX0_coolDown yX0_coolDown ∈ wT := wT_ins (List.mem_of_getElem? (i := 4) rfl) (by decide)
theorem q_2_125 : Cond.methodLink RX0 111 yX0_coolDown ∈ wT := wT_in2 (List.mem_of_getElem? (i := 125) rfl) (by decide)
theorem q_2_127 : Cond.instanceMethod yX0_coolDown ∈ wT := wT_in2 (List.mem_of_getElem? (i := 127) rfl) (by decide)
theorem q_s_3 : Cond.selects RX0 yX0_giveOut yX0_giveOut ∈ wT := wT_ins (List.mem_of_getElem? (i := 3) rfl) (by decide)
theorem q_2_96 : Cond.methodLink RX0 108 yX0_giveOut ∈ wT := wT_in2 (List.mem_of_getElem? (i := 96) rfl) (by decide)
theorem q_2_98 : Cond.instanceMethod yX0_giveOut ∈ wT := wT_in2 (List.mem_of_getElem? (i := 98) rfl) (by decide)
theorem q_s_2 : Cond.selects RX0 yX0_carryOn yX0_carryOn ∈ wT := wT_ins (List.mem_of_getElem? (i := 2) rfl) (by decide)
theorem q_2_78 : Cond.methodLink RX0 105 yX0_carryOn ∈ wT := wT_in2 (List.mem_of_getElem? (i := 78) rfl) (by decide)
theorem q_2_80 : Cond.instanceMethod yX0_carryOn ∈ wT := wT_in2 (List.mem_of_getElem? (i := 80) rfl) (by decide)
theorem q_2_76 : Cond.selects RX0 yX0_passDay yX0_passDay ∈ wT := wT_in2 (List.mem_of_getElem? (i := 76) rfl) (by decide)
theorem q_2_74 : Cond.methodLink RX0 101 yX0_passDay ∈ wT := wT_in2 (List.mem_of_getElem? (i := 74) rfl) (by decide)
theorem q_2_75 : Cond.instanceMethod yX0_passDay ∈ wT := wT_in2 (List.mem_of_getElem? (i := 75) rfl) (by decide)
theorem q_2_102 : Cond.selects RX0 yX0_enemyOf yX0_enemyOf ∈ wT := wT_in2 (List.mem_of_getElem? (i := 102) rfl) (by decide)
theorem q_2_100 : Cond.methodLink RX0 98 yX0_enemyOf ∈ wT := wT_in2 (List.mem_of_getElem? (i := 100) rfl) (by decide)
theorem q_2_101 : Cond.instanceMethod yX0_enemyOf ∈ wT := wT_in2 (List.mem_of_getElem? (i := 101) rfl) (by decide)
theorem q_2_106 : Cond.selects RX0 yX0_maliceOf yX0_maliceOf ∈ wT := wT_in2 (List.mem_of_getElem? (i := 106) rfl) (by decide)
theorem q_2_104 : Cond.methodLink RX0 95 yX0_maliceOf ∈ wT := wT_in2 (List.mem_of_getElem? (i := 104) rfl) (by decide)
theorem q_2_105 : Cond.instanceMethod yX0_maliceOf ∈ wT := wT_in2 (List.mem_of_getElem? (i := 105) rfl) (by decide)
theorem q_2_147 : Cond.selects RX0 yX0_setHate yX0_setHate ∈ wT := wT_in2 (List.mem_of_getElem? (i := 147) rfl) (by decide)
theorem q_2_162 : Cond.methodLink RX0 88 yX0_setHate ∈ wT := wT_in2 (List.mem_of_getElem? (i := 162) rfl) (by decide)
theorem q_2_146 : Cond.instanceMethod yX0_setHate ∈ wT := wT_in2 (List.mem_of_getElem? (i := 146) rfl) (by decide)
theorem q_2_160 : Cond.selects RX0 yX0_hateOf yX0_hateOf ∈ wT := wT_in2 (List.mem_of_getElem? (i := 160) rfl) (by decide)
theorem q_2_158 : Cond.methodLink RX0 85 yX0_hateOf ∈ wT := wT_in2 (List.mem_of_getElem? (i := 158) rfl) (by decide)
theorem q_2_159 : Cond.instanceMethod yX0_hateOf ∈ wT := wT_in2 (List.mem_of_getElem? (i := 159) rfl) (by decide)
theorem q_2_93 : Cond.selects RX0 yX0_hasPair yX0_hasPair ∈ wT := wT_in2 (List.mem_of_getElem? (i := 93) rfl) (by decide)
theorem q_2_91 : Cond.methodLink RX0 72 yX0_hasPair ∈ wT := wT_in2 (List.mem_of_getElem? (i := 91) rfl) (by decide)
theorem q_2_92 : Cond.instanceMethod yX0_hasPair ∈ wT := wT_in2 (List.mem_of_getElem? (i := 92) rfl) (by decide)
theorem q_2_189 : Cond.selects RX0 yX0_hasParcel yX0_hasParcel ∈ wT := wT_in2 (List.mem_of_getElem? (i := 189) rfl) (by decide)
theorem q_2_195 : Cond.methodLink RX0 69 yX0_hasParcel ∈ wT := wT_in2 (List.mem_of_getElem? (i := 195) rfl) (by decide)
theorem q_2_188 : Cond.instanceMethod yX0_hasParcel ∈ wT := wT_in2 (List.mem_of_getElem? (i := 188) rfl) (by decide)
theorem q_2_110 : Cond.selects RX0 yX0_carries yX0_carries ∈ wT := wT_in2 (List.mem_of_getElem? (i := 110) rfl) (by decide)
theorem q_2_108 : Cond.methodLink RX0 66 yX0_carries ∈ wT := wT_in2 (List.mem_of_getElem? (i := 108) rfl) (by decide)
theorem q_2_109 : Cond.instanceMethod yX0_carries ∈ wT := wT_in2 (List.mem_of_getElem? (i := 109) rfl) (by decide)
theorem q_2_119 : Cond.methodLink RX0 62 yX0_milesOf ∈ wT := wT_in2 (List.mem_of_getElem? (i := 119) rfl) (by decide)
theorem q_2_120 : Cond.static yX0_milesOf ∈ wT := wT_in2 (List.mem_of_getElem? (i := 120) rfl) (by decide)
theorem q_2_84 : Cond.selects RX0 yX0_hasPerson yX0_hasPerson ∈ wT := wT_in2 (List.mem_of_getElem? (i := 84) rfl) (by decide)
theorem q_2_82 : Cond.methodLink RX0 58 yX0_hasPerson ∈ wT := wT_in2 (List.mem_of_getElem? (i := 82) rfl) (by decide)
theorem q_2_83 : Cond.instanceMethod yX0_hasPerson ∈ wT := wT_in2 (List.mem_of_getElem? (i := 83) rfl) (by decide)
theorem q_2_72 : Cond.selects RX0 yX0_passDays yX0_passDays ∈ wT := wT_in2 (List.mem_of_getElem? (i := 72) rfl) (by decide)
theorem q_2_166 : Cond.methodLink RX2 98 yX0_passDays ∈ wT := wT_in2 (List.mem_of_getElem? (i := 166) rfl) (by decide)
theorem q_2_71 : Cond.instanceMethod yX0_passDays ∈ wT := wT_in2 (List.mem_of_getElem? (i := 71) rfl) (by decide)
theorem q_1_4 : Cond.initialized RX2 ∈ wT := wT_in1 (List.mem_of_getElem? (i := 4) rfl) (by decide)
theorem q_2_163 : Cond.methodLink RX2 91 yX2_letDaysPass ∈ wT := wT_in2 (List.mem_of_getElem? (i := 163) rfl) (by decide)
theorem q_2_164 : Cond.static yX2_letDaysPass ∈ wT := wT_in2 (List.mem_of_getElem? (i := 164) rfl) (by decide)
theorem q_2_156 : Cond.selects RX0 yX0_makePeace yX0_makePeace ∈ wT := wT_in2 (List.mem_of_getElem? (i := 156) rfl) (by decide)
theorem q_2_154 : Cond.methodLink RX2 88 yX0_makePeace ∈ wT := wT_in2 (List.mem_of_getElem? (i := 154) rfl) (by decide)
theorem q_2_155 : Cond.instanceMethod yX0_makePeace ∈ wT := wT_in2 (List.mem_of_getElem? (i := 155) rfl) (by decide)
theorem q_2_153 : Cond.methodLink RX2 85 yX0_addHate ∈ wT := wT_in2 (List.mem_of_getElem? (i := 153) rfl) (by decide)
theorem q_2_151 : Cond.selects RX0 yX0_addParcel yX0_addParcel ∈ wT := wT_in2 (List.mem_of_getElem? (i := 151) rfl) (by decide)
theorem q_2_149 : Cond.methodLink RX2 81 yX0_addParcel ∈ wT := wT_in2 (List.mem_of_getElem? (i := 149) rfl) (by decide)
theorem q_2_150 : Cond.instanceMethod yX0_addParcel ∈ wT := wT_in2 (List.mem_of_getElem? (i := 150) rfl) (by decide)
theorem q_2_145 : Cond.methodLink RX2 78 yX0_setHate ∈ wT := wT_in2 (List.mem_of_getElem? (i := 145) rfl) (by decide)
theorem q_2_143 : Cond.selects RX0 yX0_addPerson yX0_addPerson ∈ wT := wT_in2 (List.mem_of_getElem? (i := 143) rfl) (by decide)
theorem q_2_141 : Cond.methodLink RX2 72 yX0_addPerson ∈ wT := wT_in2 (List.mem_of_getElem? (i := 141) rfl) (by decide)
theorem q_2_142 : Cond.instanceMethod yX0_addPerson ∈ wT := wT_in2 (List.mem_of_getElem? (i := 142) rfl) (by decide)
theorem q_s_6 : Cond.selects RX2 yX2_numberAt yX2_numberAt ∈ wT := wT_ins (List.mem_of_getElem? (i := 6) rfl) (by decide)
theorem q_2_137 : Cond.methodLink RX2 69 yX2_numberAt ∈ wT := wT_in2 (List.mem_of_getElem? (i := 137) rfl) (by decide)
theorem q_2_139 : Cond.instanceMethod yX2_numberAt ∈ wT := wT_in2 (List.mem_of_getElem? (i := 139) rfl) (by decide)
theorem q_s_5 : Cond.selects RX2 yX2_digitAt yX2_digitAt ∈ wT := wT_ins (List.mem_of_getElem? (i := 5) rfl) (by decide)
theorem q_2_133 : Cond.methodLink RX2 66 yX2_digitAt ∈ wT := wT_in2 (List.mem_of_getElem? (i := 133) rfl) (by decide)
theorem q_2_135 : Cond.instanceMethod yX2_digitAt ∈ wT := wT_in2 (List.mem_of_getElem? (i := 135) rfl) (by decide)
theorem q_1_235 : Cond.methodLink RX2 56 yX2_fits ∈ wT := wT_in1 (List.mem_of_getElem? (i := 235) rfl) (by decide)
theorem q_1_236 : Cond.static yX2_fits ∈ wT := wT_in1 (List.mem_of_getElem? (i := 236) rfl) (by decide)
theorem q_1_7 : Cond.initialized RJ0 ∈ wT := wT_in1 (List.mem_of_getElem? (i := 7) rfl) (by decide)
theorem q_1_199 : Cond.selects RJ0 yJ0_charAt_5068e yJ0_charAt_5068e ∈ wT := wT_in1 (List.mem_of_getElem? (i := 199) rfl) (by decide)
theorem q_1_197 : Cond.methodLink RX2 52 yJ0_charAt_5068e ∈ wT := wT_in1 (List.mem_of_getElem? (i := 197) rfl) (by decide)
theorem q_1_198 : Cond.instanceMethod yJ0_charAt_5068e ∈ wT := wT_in1 (List.mem_of_getElem? (i := 198) rfl) (by decide)
theorem q_1_189 : Cond.selects RJ0 yJ0_length_8abf5 yJ0_length_8abf5 ∈ wT := wT_in1 (List.mem_of_getElem? (i := 189) rfl) (by decide)
theorem q_1_187 : Cond.methodLink RX2 48 yJ0_length_8abf5 ∈ wT := wT_in1 (List.mem_of_getElem? (i := 187) rfl) (by decide)
theorem q_1_188 : Cond.instanceMethod yJ0_length_8abf5 ∈ wT := wT_in1 (List.mem_of_getElem? (i := 188) rfl) (by decide)
theorem q_1_177 : Cond.methodLink RX2 44 yX2_formOf ∈ wT := wT_in1 (List.mem_of_getElem? (i := 177) rfl) (by decide)
theorem q_1_178 : Cond.static yX2_formOf ∈ wT := wT_in1 (List.mem_of_getElem? (i := 178) rfl) (by decide)
theorem q_s_1 : Cond.selects RX2 yX2_letterAt yX2_letterAt ∈ wT := wT_ins (List.mem_of_getElem? (i := 1) rfl) (by decide)
theorem q_1_173 : Cond.methodLink RX2 41 yX2_letterAt ∈ wT := wT_in1 (List.mem_of_getElem? (i := 173) rfl) (by decide)
theorem q_1_175 : Cond.instanceMethod yX2_letterAt ∈ wT := wT_in1 (List.mem_of_getElem? (i := 175) rfl) (by decide)
theorem q_2_1 : Cond.selects RJ0 yJ0_indexOf_0f7a4 yJ0_indexOf_0f7a4 ∈ wT := wT_in2 (List.mem_of_getElem? (i := 1) rfl) (by decide)
theorem q_1_239 : Cond.methodLink RX2 35 yJ0_indexOf_0f7a4 ∈ wT := wT_in1 (List.mem_of_getElem? (i := 239) rfl) (by decide)
theorem q_2_0 : Cond.instanceMethod yJ0_indexOf_0f7a4 ∈ wT := wT_in2 (List.mem_of_getElem? (i := 0) rfl) (by decide)
theorem q_3_235 : Cond.methodLink RX3 125 yX0_setHate ∈ wT := wT_in3 (List.mem_of_getElem? (i := 235) rfl) (by decide)
theorem q_3_179 : Cond.selects RX0 yX0_hatesTogether yX0_hatesTogether ∈ wT := wT_in3 (List.mem_of_getElem? (i := 179) rfl) (by decide)
theorem q_3_236 : Cond.methodLink RX3 119 yX0_hatesTogether ∈ wT := wT_in3 (List.mem_of_getElem? (i := 236) rfl) (by decide)
theorem q_3_178 : Cond.instanceMethod yX0_hatesTogether ∈ wT := wT_in3 (List.mem_of_getElem? (i := 178) rfl) (by decide)
theorem q_1_3 : Cond.initialized RX3 ∈ wT := wT_in1 (List.mem_of_getElem? (i := 3) rfl) (by decide)
theorem q_s_12 : Cond.selects RX3 yX3_drawHates yX3_drawHates ∈ wT := wT_ins (List.mem_of_getElem? (i := 12) rfl) (by decide)
theorem q_3_228 : Cond.methodLink RX3 116 yX3_drawHates ∈ wT := wT_in3 (List.mem_of_getElem? (i := 228) rfl) (by decide)
theorem q_3_230 : Cond.instanceMethod yX3_drawHates ∈ wT := wT_in3 (List.mem_of_getElem? (i := 230) rfl) (by decide)
theorem q_1_1 : Cond.initialized RX4 ∈ wT := wT_in1 (List.mem_of_getElem? (i := 1) rfl) (by decide)
theorem qn_3_199 : Cond.methodLinkNest RX3 113 yX4_asTold "PostByEnemy" ∈ wN := wN_in3 (List.mem_of_getElem? (i := 199) rfl) rfl
theorem q_3_200 : Cond.static yX4_asTold ∈ wT := wT_in3 (List.mem_of_getElem? (i := 200) rfl) (by decide)
theorem q_3_9 : Cond.selects RX0 yX0_carrierOf yX0_carrierOf ∈ wT := wT_in3 (List.mem_of_getElem? (i := 9) rfl) (by decide)
theorem q_3_198 : Cond.methodLink RX3 110 yX0_carrierOf ∈ wT := wT_in3 (List.mem_of_getElem? (i := 198) rfl) (by decide)
theorem q_3_8 : Cond.instanceMethod yX0_carrierOf ∈ wT := wT_in3 (List.mem_of_getElem? (i := 8) rfl) (by decide)
theorem q_1_5 : Cond.initialized RX1 ∈ wT := wT_in1 (List.mem_of_getElem? (i := 5) rfl) (by decide)
theorem q_3_196 : Cond.selects RX1 yX1_at yX1_at ∈ wT := wT_in3 (List.mem_of_getElem? (i := 196) rfl) (by decide)
theorem q_3_194 : Cond.methodLink RX3 107 yX1_at ∈ wT := wT_in3 (List.mem_of_getElem? (i := 194) rfl) (by decide)
theorem q_3_195 : Cond.instanceMethod yX1_at ∈ wT := wT_in3 (List.mem_of_getElem? (i := 195) rfl) (by decide)
theorem q_s_11 : Cond.selects RX3 yX3_goesAsTold yX3_goesAsTold ∈ wT := wT_ins (List.mem_of_getElem? (i := 11) rfl) (by decide)
theorem q_3_190 : Cond.methodLink RX3 98 yX3_goesAsTold ∈ wT := wT_in3 (List.mem_of_getElem? (i := 190) rfl) (by decide)
theorem q_3_192 : Cond.instanceMethod yX3_goesAsTold ∈ wT := wT_in3 (List.mem_of_getElem? (i := 192) rfl) (by decide)
theorem q_3_189 : Cond.methodLink RX3 88 yX0_hasPerson ∈ wT := wT_in3 (List.mem_of_getElem? (i := 189) rfl) (by decide)
theorem q_s_9 : Cond.selects RX3 yX3_broughtTo yX3_broughtTo ∈ wT := wT_ins (List.mem_of_getElem? (i := 9) rfl) (by decide)
theorem q_3_150 : Cond.methodLink RX3 85 yX3_broughtTo ∈ wT := wT_in3 (List.mem_of_getElem? (i := 150) rfl) (by decide)
theorem q_3_152 : Cond.instanceMethod yX3_broughtTo ∈ wT := wT_in3 (List.mem_of_getElem? (i := 152) rfl) (by decide)
theorem qn_3_120 : Cond.methodLinkNest RX3 82 yX4_dayOrNone "PostByEnemy" ∈ wN := wN_in3 (List.mem_of_getElem? (i := 120) rfl) rfl
theorem q_3_28 : Cond.static yX4_dayOrNone ∈ wT := wT_in3 (List.mem_of_getElem? (i := 28) rfl) (by decide)
theorem q_3_119 : Cond.methodLink RX3 79 yX0_addParcel ∈ wT := wT_in3 (List.mem_of_getElem? (i := 119) rfl) (by decide)
theorem q_s_8 : Cond.selects RX3 yX3_slightAll yX3_slightAll ∈ wT := wT_ins (List.mem_of_getElem? (i := 8) rfl) (by decide)
theorem q_3_97 : Cond.methodLink RX3 70 yX3_slightAll ∈ wT := wT_in3 (List.mem_of_getElem? (i := 97) rfl) (by decide)
theorem q_3_99 : Cond.instanceMethod yX3_slightAll ∈ wT := wT_in3 (List.mem_of_getElem? (i := 99) rfl) (by decide)
theorem q_3_110 : Cond.methodLink RX3 66 yX0_makePeace ∈ wT := wT_in3 (List.mem_of_getElem? (i := 110) rfl) (by decide)
theorem q_3_88 : Cond.methodLink RX3 62 yX0_addHate ∈ wT := wT_in3 (List.mem_of_getElem? (i := 88) rfl) (by decide)
theorem qn_3_87 : Cond.methodLinkNest RX3 55 yX4_daysTillBrought "PostByEnemy" ∈ wN := wN_in3 (List.mem_of_getElem? (i := 87) rfl) rfl
theorem q_3_24 : Cond.static yX4_daysTillBrought ∈ wT := wT_in3 (List.mem_of_getElem? (i := 24) rfl) (by decide)
theorem q_3_85 : Cond.selects RX0 yX0_receiverOf yX0_receiverOf ∈ wT := wT_in3 (List.mem_of_getElem? (i := 85) rfl) (by decide)
theorem q_3_83 : Cond.methodLink RX3 52 yX0_receiverOf ∈ wT := wT_in3 (List.mem_of_getElem? (i := 83) rfl) (by decide)
theorem q_3_84 : Cond.instanceMethod yX0_receiverOf ∈ wT := wT_in3 (List.mem_of_getElem? (i := 84) rfl) (by decide)
theorem q_2_237 : Cond.selects RX0 yX0_brought yX0_brought ∈ wT := wT_in2 (List.mem_of_getElem? (i := 237) rfl) (by decide)
theorem q_3_38 : Cond.methodLink RX3 48 yX0_brought ∈ wT := wT_in3 (List.mem_of_getElem? (i := 38) rfl) (by decide)
theorem q_2_236 : Cond.instanceMethod yX0_brought ∈ wT := wT_in2 (List.mem_of_getElem? (i := 236) rfl) (by decide)
theorem q_3_5 : Cond.selects RX0 yX0_stateOf yX0_stateOf ∈ wT := wT_in3 (List.mem_of_getElem? (i := 5) rfl) (by decide)
theorem q_3_44 : Cond.methodLink RX3 44 yX0_stateOf ∈ wT := wT_in3 (List.mem_of_getElem? (i := 44) rfl) (by decide)
theorem q_3_4 : Cond.instanceMethod yX0_stateOf ∈ wT := wT_in3 (List.mem_of_getElem? (i := 4) rfl) (by decide)
theorem q_3_39 : Cond.methodLink RX3 36 yX0_passDay ∈ wT := wT_in3 (List.mem_of_getElem? (i := 39) rfl) (by decide)
theorem q_2_70 : Cond.methodLink RX3 32 yX0_passDays ∈ wT := wT_in2 (List.mem_of_getElem? (i := 70) rfl) (by decide)
theorem q_2_65 : Cond.selects RX0 yX0_become yX0_become ∈ wT := wT_in2 (List.mem_of_getElem? (i := 65) rfl) (by decide)
theorem q_2_63 : Cond.methodLink RX3 28 yX0_become ∈ wT := wT_in2 (List.mem_of_getElem? (i := 63) rfl) (by decide)
theorem q_2_64 : Cond.instanceMethod yX0_become ∈ wT := wT_in2 (List.mem_of_getElem? (i := 64) rfl) (by decide)
theorem q_3_42 : Cond.selects RX3 yX3_firstBrought yX3_firstBrought ∈ wT := wT_in3 (List.mem_of_getElem? (i := 42) rfl) (by decide)
theorem q_3_40 : Cond.methodLink RX4 159 yX3_firstBrought ∈ wT := wT_in3 (List.mem_of_getElem? (i := 40) rfl) (by decide)
theorem q_3_41 : Cond.instanceMethod yX3_firstBrought ∈ wT := wT_in3 (List.mem_of_getElem? (i := 41) rfl) (by decide)
theorem q_3_36 : Cond.selects RX3 yX3_daysTillAll yX3_daysTillAll ∈ wT := wT_in3 (List.mem_of_getElem? (i := 36) rfl) (by decide)
theorem q_3_34 : Cond.methodLink RX4 155 yX3_daysTillAll ∈ wT := wT_in3 (List.mem_of_getElem? (i := 34) rfl) (by decide)
theorem q_3_35 : Cond.instanceMethod yX3_daysTillAll ∈ wT := wT_in3 (List.mem_of_getElem? (i := 35) rfl) (by decide)
theorem q_3_27 : Cond.methodLink RX4 152 yX4_dayOrNone ∈ wT := wT_in3 (List.mem_of_getElem? (i := 27) rfl) (by decide)
theorem q_3_23 : Cond.methodLink RX4 148 yX4_daysTillBrought ∈ wT := wT_in3 (List.mem_of_getElem? (i := 23) rfl) (by decide)
theorem q_3_7 : Cond.methodLink RX4 142 yX0_carrierOf ∈ wT := wT_in3 (List.mem_of_getElem? (i := 7) rfl) (by decide)
theorem q_3_3 : Cond.methodLink RX4 139 yX0_stateOf ∈ wT := wT_in3 (List.mem_of_getElem? (i := 3) rfl) (by decide)
theorem q_2_235 : Cond.methodLink RX4 136 yX0_brought ∈ wT := wT_in2 (List.mem_of_getElem? (i := 235) rfl) (by decide)
theorem q_2_234 : Cond.methodLink RX4 133 yX0_passDays ∈ wT := wT_in2 (List.mem_of_getElem? (i := 234) rfl) (by decide)
theorem q_2_221 : Cond.methodLink RX4 118 yX0_makePeace ∈ wT := wT_in2 (List.mem_of_getElem? (i := 221) rfl) (by decide)
theorem q_2_216 : Cond.methodLink RX4 115 yX0_addHate ∈ wT := wT_in2 (List.mem_of_getElem? (i := 216) rfl) (by decide)
theorem q_2_211 : Cond.methodLink RX4 111 yX0_setHate ∈ wT := wT_in2 (List.mem_of_getElem? (i := 211) rfl) (by decide)
theorem q_2_206 : Cond.methodLink RX4 108 yX0_addParcel ∈ wT := wT_in2 (List.mem_of_getElem? (i := 206) rfl) (by decide)
theorem q_2_201 : Cond.methodLink RX4 102 yX0_hateOf ∈ wT := wT_in2 (List.mem_of_getElem? (i := 201) rfl) (by decide)
theorem q_2_200 : Cond.methodLink RX4 98 yX0_hasPair ∈ wT := wT_in2 (List.mem_of_getElem? (i := 200) rfl) (by decide)
theorem q_2_193 : Cond.selects RX0 yX0_ofParcel yX0_ofParcel ∈ wT := wT_in2 (List.mem_of_getElem? (i := 193) rfl) (by decide)
theorem q_2_191 : Cond.methodLink RX4 95 yX0_ofParcel ∈ wT := wT_in2 (List.mem_of_getElem? (i := 191) rfl) (by decide)
theorem q_2_192 : Cond.instanceMethod yX0_ofParcel ∈ wT := wT_in2 (List.mem_of_getElem? (i := 192) rfl) (by decide)
theorem q_2_187 : Cond.methodLink RX4 92 yX0_hasParcel ∈ wT := wT_in2 (List.mem_of_getElem? (i := 187) rfl) (by decide)
theorem q_2_181 : Cond.selects RX0 yX0_ofPerson yX0_ofPerson ∈ wT := wT_in2 (List.mem_of_getElem? (i := 181) rfl) (by decide)
theorem q_2_179 : Cond.methodLink RX4 89 yX0_ofPerson ∈ wT := wT_in2 (List.mem_of_getElem? (i := 179) rfl) (by decide)
theorem q_2_180 : Cond.instanceMethod yX0_ofPerson ∈ wT := wT_in2 (List.mem_of_getElem? (i := 180) rfl) (by decide)
theorem q_2_178 : Cond.methodLink RX4 85 yX0_hasPerson ∈ wT := wT_in2 (List.mem_of_getElem? (i := 178) rfl) (by decide)
theorem q_2_172 : Cond.methodLink RX4 81 yX0_become ∈ wT := wT_in2 (List.mem_of_getElem? (i := 172) rfl) (by decide)
theorem q_2_169 : Cond.selects RX2 yX2_lengthAt yX2_lengthAt ∈ wT := wT_in2 (List.mem_of_getElem? (i := 169) rfl) (by decide)
theorem q_2_167 : Cond.methodLink RX4 72 yX2_lengthAt ∈ wT := wT_in2 (List.mem_of_getElem? (i := 167) rfl) (by decide)
theorem q_2_168 : Cond.instanceMethod yX2_lengthAt ∈ wT := wT_in2 (List.mem_of_getElem? (i := 168) rfl) (by decide)
theorem q_2_131 : Cond.selects RX2 yX2_tell yX2_tell ∈ wT := wT_in2 (List.mem_of_getElem? (i := 131) rfl) (by decide)
theorem q_2_129 : Cond.methodLink RX4 68 yX2_tell ∈ wT := wT_in2 (List.mem_of_getElem? (i := 129) rfl) (by decide)
theorem q_2_130 : Cond.instanceMethod yX2_tell ∈ wT := wT_in2 (List.mem_of_getElem? (i := 130) rfl) (by decide)
theorem q_2_61 : Cond.selects RX3 yX3_behind yX3_behind ∈ wT := wT_in2 (List.mem_of_getElem? (i := 61) rfl) (by decide)
theorem q_2_59 : Cond.methodLink RX4 64 yX3_behind ∈ wT := wT_in2 (List.mem_of_getElem? (i := 59) rfl) (by decide)
theorem q_2_60 : Cond.instanceMethod yX3_behind ∈ wT := wT_in2 (List.mem_of_getElem? (i := 60) rfl) (by decide)
theorem q_1_171 : Cond.selects RX2 yX2_firstMisfit yX2_firstMisfit ∈ wT := wT_in1 (List.mem_of_getElem? (i := 171) rfl) (by decide)
theorem q_1_169 : Cond.methodLink RX4 60 yX2_firstMisfit ∈ wT := wT_in1 (List.mem_of_getElem? (i := 169) rfl) (by decide)
theorem q_1_170 : Cond.instanceMethod yX2_firstMisfit ∈ wT := wT_in1 (List.mem_of_getElem? (i := 170) rfl) (by decide)
theorem q_1_163 : Cond.selects RX2 yX2_add yX2_add ∈ wT := wT_in1 (List.mem_of_getElem? (i := 163) rfl) (by decide)
theorem q_1_161 : Cond.methodLink RX4 56 yX2_add ∈ wT := wT_in1 (List.mem_of_getElem? (i := 161) rfl) (by decide)
theorem q_1_162 : Cond.instanceMethod yX2_add ∈ wT := wT_in1 (List.mem_of_getElem? (i := 162) rfl) (by decide)
theorem q_s_0 : Cond.selects RX4 yX4_refuse yX4_refuse ∈ wT := wT_ins (List.mem_of_getElem? (i := 0) rfl) (by decide)
theorem q_1_157 : Cond.methodLink RX4 48 yX4_refuse ∈ wT := wT_in1 (List.mem_of_getElem? (i := 157) rfl) (by decide)
theorem q_1_159 : Cond.instanceMethod yX4_refuse ∈ wT := wT_in1 (List.mem_of_getElem? (i := 159) rfl) (by decide)
theorem q_3_170 : Cond.methodLink RX4 245 yX4_greatestDivisor ∈ wT := wT_in3 (List.mem_of_getElem? (i := 170) rfl) (by decide)
theorem q_3_171 : Cond.static yX4_greatestDivisor ∈ wT := wT_in3 (List.mem_of_getElem? (i := 171) rfl) (by decide)
theorem q_3_26 : Cond.methodLink RX4 241 yX0_passDay ∈ wT := wT_in3 (List.mem_of_getElem? (i := 26) rfl) (by decide)
theorem q_4_11 : Cond.selects RX0 yX0_parcelsThat yX0_parcelsThat ∈ wT := wT_in4 (List.mem_of_getElem? (i := 11) rfl) (by decide)
theorem q_4_9 : Cond.methodLink RX4 236 yX0_parcelsThat ∈ wT := wT_in4 (List.mem_of_getElem? (i := 9) rfl) (by decide)
theorem q_4_10 : Cond.instanceMethod yX0_parcelsThat ∈ wT := wT_in4 (List.mem_of_getElem? (i := 10) rfl) (by decide)
theorem q_3_226 : Cond.selects RX3 yX3_ofDrawnDuchies yX3_ofDrawnDuchies ∈ wT := wT_in3 (List.mem_of_getElem? (i := 226) rfl) (by decide)
theorem q_3_224 : Cond.methodLink RX4 232 yX3_ofDrawnDuchies ∈ wT := wT_in3 (List.mem_of_getElem? (i := 224) rfl) (by decide)
theorem q_3_225 : Cond.instanceMethod yX3_ofDrawnDuchies ∈ wT := wT_in3 (List.mem_of_getElem? (i := 225) rfl) (by decide)
theorem q_3_215 : Cond.methodLink RX4 229 yX4_asTold ∈ wT := wT_in3 (List.mem_of_getElem? (i := 215) rfl) (by decide)
theorem q_3_214 : Cond.methodLink RX4 226 yX1_at ∈ wT := wT_in3 (List.mem_of_getElem? (i := 214) rfl) (by decide)
theorem q_3_208 : Cond.selects RX1 yX1_add yX1_add ∈ wT := wT_in3 (List.mem_of_getElem? (i := 208) rfl) (by decide)
theorem q_3_206 : Cond.methodLink RX4 225 yX1_add ∈ wT := wT_in3 (List.mem_of_getElem? (i := 206) rfl) (by decide)
theorem q_3_207 : Cond.instanceMethod yX1_add ∈ wT := wT_in3 (List.mem_of_getElem? (i := 207) rfl) (by decide)
theorem q_3_187 : Cond.selects RX3 yX3_fitting yX3_fitting ∈ wT := wT_in3 (List.mem_of_getElem? (i := 187) rfl) (by decide)
theorem q_3_185 : Cond.methodLink RX4 220 yX3_fitting ∈ wT := wT_in3 (List.mem_of_getElem? (i := 185) rfl) (by decide)
theorem q_3_186 : Cond.instanceMethod yX3_fitting ∈ wT := wT_in3 (List.mem_of_getElem? (i := 186) rfl) (by decide)
theorem q_3_177 : Cond.methodLink RX4 217 yX0_hatesTogether ∈ wT := wT_in3 (List.mem_of_getElem? (i := 177) rfl) (by decide)
theorem q_3_167 : Cond.methodLink RX4 213 yX4_partOf ∈ wT := wT_in3 (List.mem_of_getElem? (i := 167) rfl) (by decide)
theorem q_3_168 : Cond.static yX4_partOf ∈ wT := wT_in3 (List.mem_of_getElem? (i := 168) rfl) (by decide)
theorem q_3_165 : Cond.selects RX3 yX3_broughtOfAll yX3_broughtOfAll ∈ wT := wT_in3 (List.mem_of_getElem? (i := 165) rfl) (by decide)
theorem q_3_163 : Cond.methodLink RX4 209 yX3_broughtOfAll ∈ wT := wT_in3 (List.mem_of_getElem? (i := 163) rfl) (by decide)
theorem q_3_164 : Cond.instanceMethod yX3_broughtOfAll ∈ wT := wT_in3 (List.mem_of_getElem? (i := 164) rfl) (by decide)
theorem q_s_10 : Cond.selects RX4 yX4_refuseLong yX4_refuseLong ∈ wT := wT_ins (List.mem_of_getElem? (i := 10) rfl) (by decide)
theorem q_3_158 : Cond.methodLink RX4 205 yX4_refuseLong ∈ wT := wT_in3 (List.mem_of_getElem? (i := 158) rfl) (by decide)
theorem q_3_160 : Cond.instanceMethod yX4_refuseLong ∈ wT := wT_in3 (List.mem_of_getElem? (i := 160) rfl) (by decide)
theorem q_3_148 : Cond.selects RX3 yX3_court yX3_court ∈ wT := wT_in3 (List.mem_of_getElem? (i := 148) rfl) (by decide)
theorem q_3_146 : Cond.methodLink RX4 201 yX3_court ∈ wT := wT_in3 (List.mem_of_getElem? (i := 146) rfl) (by decide)
theorem q_3_147 : Cond.instanceMethod yX3_court ∈ wT := wT_in3 (List.mem_of_getElem? (i := 147) rfl) (by decide)
theorem q_3_140 : Cond.selects RX0 yX0_maliceOfAll yX0_maliceOfAll ∈ wT := wT_in3 (List.mem_of_getElem? (i := 140) rfl) (by decide)
theorem q_3_138 : Cond.methodLink RX4 198 yX0_maliceOfAll ∈ wT := wT_in3 (List.mem_of_getElem? (i := 138) rfl) (by decide)
theorem q_3_139 : Cond.instanceMethod yX0_maliceOfAll ∈ wT := wT_in3 (List.mem_of_getElem? (i := 139) rfl) (by decide)
theorem q_3_136 : Cond.selects RX0 yX0_mutualEnemies yX0_mutualEnemies ∈ wT := wT_in3 (List.mem_of_getElem? (i := 136) rfl) (by decide)
theorem q_3_134 : Cond.methodLink RX4 195 yX0_mutualEnemies ∈ wT := wT_in3 (List.mem_of_getElem? (i := 134) rfl) (by decide)
theorem q_3_135 : Cond.instanceMethod yX0_mutualEnemies ∈ wT := wT_in3 (List.mem_of_getElem? (i := 135) rfl) (by decide)
theorem q_3_125 : Cond.methodLink RX4 192 yX0_apart ∈ wT := wT_in3 (List.mem_of_getElem? (i := 125) rfl) (by decide)
theorem q_3_117 : Cond.selects RX3 yX3_bestPosting yX3_bestPosting ∈ wT := wT_in3 (List.mem_of_getElem? (i := 117) rfl) (by decide)
theorem q_3_115 : Cond.methodLink RX4 188 yX3_bestPosting ∈ wT := wT_in3 (List.mem_of_getElem? (i := 115) rfl) (by decide)
theorem q_3_116 : Cond.instanceMethod yX3_bestPosting ∈ wT := wT_in3 (List.mem_of_getElem? (i := 116) rfl) (by decide)
theorem q_3_108 : Cond.selects RX3 yX3_worstPeace yX3_worstPeace ∈ wT := wT_in3 (List.mem_of_getElem? (i := 108) rfl) (by decide)
theorem q_3_106 : Cond.methodLink RX4 185 yX3_worstPeace ∈ wT := wT_in3 (List.mem_of_getElem? (i := 106) rfl) (by decide)
theorem q_3_107 : Cond.instanceMethod yX3_worstPeace ∈ wT := wT_in3 (List.mem_of_getElem? (i := 107) rfl) (by decide)
theorem q_3_95 : Cond.selects RX3 yX3_isEnough yX3_isEnough ∈ wT := wT_in3 (List.mem_of_getElem? (i := 95) rfl) (by decide)
theorem q_3_93 : Cond.methodLink RX4 181 yX3_isEnough ∈ wT := wT_in3 (List.mem_of_getElem? (i := 93) rfl) (by decide)
theorem q_3_94 : Cond.instanceMethod yX3_isEnough ∈ wT := wT_in3 (List.mem_of_getElem? (i := 94) rfl) (by decide)
theorem q_3_81 : Cond.selects RX3 yX3_bestSlight yX3_bestSlight ∈ wT := wT_in3 (List.mem_of_getElem? (i := 81) rfl) (by decide)
theorem q_3_79 : Cond.methodLink RX4 177 yX3_bestSlight ∈ wT := wT_in3 (List.mem_of_getElem? (i := 79) rfl) (by decide)
theorem q_3_80 : Cond.instanceMethod yX3_bestSlight ∈ wT := wT_in3 (List.mem_of_getElem? (i := 80) rfl) (by decide)
theorem q_s_7 : Cond.selects RX4 yX4_notWaiting yX4_notWaiting ∈ wT := wT_ins (List.mem_of_getElem? (i := 7) rfl) (by decide)
theorem q_3_75 : Cond.methodLink RX4 174 yX4_notWaiting ∈ wT := wT_in3 (List.mem_of_getElem? (i := 75) rfl) (by decide)
theorem q_3_77 : Cond.instanceMethod yX4_notWaiting ∈ wT := wT_in3 (List.mem_of_getElem? (i := 77) rfl) (by decide)
theorem q_3_65 : Cond.selects RX0 yX0_enemyOfHowMany yX0_enemyOfHowMany ∈ wT := wT_in3 (List.mem_of_getElem? (i := 65) rfl) (by decide)
theorem q_3_63 : Cond.methodLink RX4 171 yX0_enemyOfHowMany ∈ wT := wT_in3 (List.mem_of_getElem? (i := 63) rfl) (by decide)
theorem q_3_64 : Cond.instanceMethod yX0_enemyOfHowMany ∈ wT := wT_in3 (List.mem_of_getElem? (i := 64) rfl) (by decide)
theorem q_3_54 : Cond.methodLink RX4 165 yX0_maliceOf ∈ wT := wT_in3 (List.mem_of_getElem? (i := 54) rfl) (by decide)
theorem q_3_49 : Cond.methodLink RX4 162 yX0_enemyOf ∈ wT := wT_in3 (List.mem_of_getElem? (i := 49) rfl) (by decide)
theorem q_1_6 : Cond.initialized RX5 ∈ wT := wT_in1 (List.mem_of_getElem? (i := 6) rfl) (by decide)
theorem q_4_196 : Cond.methodLink RX5 181 yX5_held ∈ wT := wT_in4 (List.mem_of_getElem? (i := 196) rfl) (by decide)
theorem q_4_197 : Cond.static yX5_held ∈ wT := wT_in4 (List.mem_of_getElem? (i := 197) rfl) (by decide)
theorem q_s_21 : Cond.selects RX5 yX5_passOne yX5_passOne ∈ wT := wT_ins (List.mem_of_getElem? (i := 21) rfl) (by decide)
theorem q_4_153 : Cond.methodLink RX5 175 yX5_passOne ∈ wT := wT_in4 (List.mem_of_getElem? (i := 153) rfl) (by decide)
theorem q_4_155 : Cond.instanceMethod yX5_passOne ∈ wT := wT_in4 (List.mem_of_getElem? (i := 155) rfl) (by decide)
theorem q_s_20 : Cond.selects RX5 yX5_passes yX5_passes ∈ wT := wT_ins (List.mem_of_getElem? (i := 20) rfl) (by decide)
theorem q_4_149 : Cond.methodLink RX5 171 yX5_passes ∈ wT := wT_in4 (List.mem_of_getElem? (i := 149) rfl) (by decide)
theorem q_4_151 : Cond.instanceMethod yX5_passes ∈ wT := wT_in4 (List.mem_of_getElem? (i := 151) rfl) (by decide)
theorem q_s_22 : Cond.selects RX5 yX5_comes yX5_comes ∈ wT := wT_ins (List.mem_of_getElem? (i := 22) rfl) (by decide)
theorem q_4_157 : Cond.methodLink RX5 161 yX5_comes ∈ wT := wT_in4 (List.mem_of_getElem? (i := 157) rfl) (by decide)
theorem q_4_159 : Cond.instanceMethod yX5_comes ∈ wT := wT_in4 (List.mem_of_getElem? (i := 159) rfl) (by decide)
theorem q_s_19 : Cond.selects RX5 yX5_passesAll yX5_passesAll ∈ wT := wT_ins (List.mem_of_getElem? (i := 19) rfl) (by decide)
theorem q_4_145 : Cond.methodLink RX5 157 yX5_passesAll ∈ wT := wT_in4 (List.mem_of_getElem? (i := 145) rfl) (by decide)
theorem q_4_147 : Cond.instanceMethod yX5_passesAll ∈ wT := wT_in4 (List.mem_of_getElem? (i := 147) rfl) (by decide)
theorem q_s_14 : Cond.selects RX5 yX5_statement yX5_statement ∈ wT := wT_ins (List.mem_of_getElem? (i := 14) rfl) (by decide)
theorem q_4_119 : Cond.methodLink RX5 153 yX5_statement ∈ wT := wT_in4 (List.mem_of_getElem? (i := 119) rfl) (by decide)
theorem q_4_121 : Cond.instanceMethod yX5_statement ∈ wT := wT_in4 (List.mem_of_getElem? (i := 121) rfl) (by decide)
theorem q_s_37 : Cond.selects RX5 yX5_comesTwo yX5_comesTwo ∈ wT := wT_ins (List.mem_of_getElem? (i := 37) rfl) (by decide)
theorem q_4_226 : Cond.methodLink RX5 149 yX5_comesTwo ∈ wT := wT_in4 (List.mem_of_getElem? (i := 226) rfl) (by decide)
theorem q_4_228 : Cond.instanceMethod yX5_comesTwo ∈ wT := wT_in4 (List.mem_of_getElem? (i := 228) rfl) (by decide)
theorem q_s_27 : Cond.selects RX5 yX5_comesDays yX5_comesDays ∈ wT := wT_ins (List.mem_of_getElem? (i := 27) rfl) (by decide)
theorem q_4_180 : Cond.methodLink RX5 146 yX5_comesDays ∈ wT := wT_in4 (List.mem_of_getElem? (i := 180) rfl) (by decide)
theorem q_4_182 : Cond.instanceMethod yX5_comesDays ∈ wT := wT_in4 (List.mem_of_getElem? (i := 182) rfl) (by decide)
theorem q_s_24 : Cond.selects RX5 yX5_comesParcel yX5_comesParcel ∈ wT := wT_ins (List.mem_of_getElem? (i := 24) rfl) (by decide)
theorem q_4_168 : Cond.methodLink RX5 143 yX5_comesParcel ∈ wT := wT_in4 (List.mem_of_getElem? (i := 168) rfl) (by decide)
theorem q_4_170 : Cond.instanceMethod yX5_comesParcel ∈ wT := wT_in4 (List.mem_of_getElem? (i := 170) rfl) (by decide)
theorem q_s_23 : Cond.selects RX5 yX5_comesOne yX5_comesOne ∈ wT := wT_ins (List.mem_of_getElem? (i := 23) rfl) (by decide)
theorem q_4_161 : Cond.methodLink RX5 140 yX5_comesOne ∈ wT := wT_in4 (List.mem_of_getElem? (i := 161) rfl) (by decide)
theorem q_4_163 : Cond.instanceMethod yX5_comesOne ∈ wT := wT_in4 (List.mem_of_getElem? (i := 163) rfl) (by decide)
theorem q_s_28 : Cond.selects RX5 yX5_goes yX5_goes ∈ wT := wT_ins (List.mem_of_getElem? (i := 28) rfl) (by decide)
theorem q_4_184 : Cond.methodLink RX5 136 yX5_goes ∈ wT := wT_in4 (List.mem_of_getElem? (i := 184) rfl) (by decide)
theorem q_4_186 : Cond.instanceMethod yX5_goes ∈ wT := wT_in4 (List.mem_of_getElem? (i := 186) rfl) (by decide)
theorem q_s_40 : Cond.selects RX5 yX5_madeUp yX5_madeUp ∈ wT := wT_ins (List.mem_of_getElem? (i := 40) rfl) (by decide)
theorem q_4_238 : Cond.methodLink RX5 130 yX5_madeUp ∈ wT := wT_in4 (List.mem_of_getElem? (i := 238) rfl) (by decide)
theorem q_5_0 : Cond.instanceMethod yX5_madeUp ∈ wT := wT_in5 (List.mem_of_getElem? (i := 0) rfl) (by decide)
theorem q_s_39 : Cond.selects RX5 yX5_slighted yX5_slighted ∈ wT := wT_ins (List.mem_of_getElem? (i := 39) rfl) (by decide)
theorem q_4_234 : Cond.methodLink RX5 126 yX5_slighted ∈ wT := wT_in4 (List.mem_of_getElem? (i := 234) rfl) (by decide)
theorem q_4_236 : Cond.instanceMethod yX5_slighted ∈ wT := wT_in4 (List.mem_of_getElem? (i := 236) rfl) (by decide)
theorem q_s_38 : Cond.selects RX5 yX5_areTwo yX5_areTwo ∈ wT := wT_ins (List.mem_of_getElem? (i := 38) rfl) (by decide)
theorem q_4_230 : Cond.methodLink RX5 123 yX5_areTwo ∈ wT := wT_in4 (List.mem_of_getElem? (i := 230) rfl) (by decide)
theorem q_4_232 : Cond.instanceMethod yX5_areTwo ∈ wT := wT_in4 (List.mem_of_getElem? (i := 232) rfl) (by decide)
theorem q_s_26 : Cond.selects RX5 yX5_adds yX5_adds ∈ wT := wT_ins (List.mem_of_getElem? (i := 26) rfl) (by decide)
theorem q_4_176 : Cond.methodLink RX5 119 yX5_adds ∈ wT := wT_in4 (List.mem_of_getElem? (i := 176) rfl) (by decide)
theorem q_4_178 : Cond.instanceMethod yX5_adds ∈ wT := wT_in4 (List.mem_of_getElem? (i := 178) rfl) (by decide)
theorem q_4_165 : Cond.methodLink RX5 115 yX5_spot ∈ wT := wT_in4 (List.mem_of_getElem? (i := 165) rfl) (by decide)
theorem q_4_166 : Cond.static yX5_spot ∈ wT := wT_in4 (List.mem_of_getElem? (i := 166) rfl) (by decide)
theorem q_s_16 : Cond.selects RX5 yX5_readsAll yX5_readsAll ∈ wT := wT_ins (List.mem_of_getElem? (i := 16) rfl) (by decide)
theorem q_4_127 : Cond.methodLink RX5 112 yX5_readsAll ∈ wT := wT_in4 (List.mem_of_getElem? (i := 127) rfl) (by decide)
theorem q_4_129 : Cond.instanceMethod yX5_readsAll ∈ wT := wT_in4 (List.mem_of_getElem? (i := 129) rfl) (by decide)
theorem q_s_17 : Cond.selects RX5 yX5_readsOne yX5_readsOne ∈ wT := wT_ins (List.mem_of_getElem? (i := 17) rfl) (by decide)
theorem q_4_131 : Cond.methodLink RX5 106 yX5_readsOne ∈ wT := wT_in4 (List.mem_of_getElem? (i := 131) rfl) (by decide)
theorem q_4_133 : Cond.instanceMethod yX5_readsOne ∈ wT := wT_in4 (List.mem_of_getElem? (i := 133) rfl) (by decide)
theorem q_s_18 : Cond.selects RX5 yX5_readsDigits yX5_readsDigits ∈ wT := wT_ins (List.mem_of_getElem? (i := 18) rfl) (by decide)
theorem q_4_138 : Cond.methodLink RX5 102 yX5_readsDigits ∈ wT := wT_in4 (List.mem_of_getElem? (i := 138) rfl) (by decide)
theorem q_4_140 : Cond.instanceMethod yX5_readsDigits ∈ wT := wT_in4 (List.mem_of_getElem? (i := 140) rfl) (by decide)
theorem q_4_135 : Cond.methodLink RX5 99 yX5_kindOf ∈ wT := wT_in4 (List.mem_of_getElem? (i := 135) rfl) (by decide)
theorem q_4_136 : Cond.static yX5_kindOf ∈ wT := wT_in4 (List.mem_of_getElem? (i := 136) rfl) (by decide)
theorem q_4_142 : Cond.methodLink RX5 95 yX5_isIn ∈ wT := wT_in4 (List.mem_of_getElem? (i := 142) rfl) (by decide)
theorem q_4_143 : Cond.static yX5_isIn ∈ wT := wT_in4 (List.mem_of_getElem? (i := 143) rfl) (by decide)
theorem q_s_15 : Cond.selects RX5 yX5_next yX5_next ∈ wT := wT_ins (List.mem_of_getElem? (i := 15) rfl) (by decide)
theorem q_4_123 : Cond.methodLink RX5 91 yX5_next ∈ wT := wT_in4 (List.mem_of_getElem? (i := 123) rfl) (by decide)
theorem q_4_125 : Cond.instanceMethod yX5_next ∈ wT := wT_in4 (List.mem_of_getElem? (i := 125) rfl) (by decide)
theorem q_s_13 : Cond.selects RX5 yX5_no yX5_no ∈ wT := wT_ins (List.mem_of_getElem? (i := 13) rfl) (by decide)
theorem q_4_111 : Cond.methodLink RX5 84 yX5_no ∈ wT := wT_in4 (List.mem_of_getElem? (i := 111) rfl) (by decide)
theorem q_4_113 : Cond.instanceMethod yX5_no ∈ wT := wT_in4 (List.mem_of_getElem? (i := 113) rfl) (by decide)
theorem q_4_108 : Cond.methodLink RX5 77 yX5_bound ∈ wT := wT_in4 (List.mem_of_getElem? (i := 108) rfl) (by decide)
theorem q_4_109 : Cond.static yX5_bound ∈ wT := wT_in4 (List.mem_of_getElem? (i := 109) rfl) (by decide)
theorem q_s_25 : Cond.selects RX5 yX5_isOne yX5_isOne ∈ wT := wT_ins (List.mem_of_getElem? (i := 25) rfl) (by decide)
theorem q_4_172 : Cond.methodLink RX5 70 yX5_isOne ∈ wT := wT_in4 (List.mem_of_getElem? (i := 172) rfl) (by decide)
theorem q_4_174 : Cond.instanceMethod yX5_isOne ∈ wT := wT_in4 (List.mem_of_getElem? (i := 174) rfl) (by decide)
theorem q_s_53 : Cond.selects RX5 yX5_latePeace yX5_latePeace ∈ wT := wT_ins (List.mem_of_getElem? (i := 53) rfl) (by decide)
theorem q_5_159 : Cond.methodLink RX5 257 yX5_latePeace ∈ wT := wT_in5 (List.mem_of_getElem? (i := 159) rfl) (by decide)
theorem q_5_161 : Cond.instanceMethod yX5_latePeace ∈ wT := wT_in5 (List.mem_of_getElem? (i := 161) rfl) (by decide)
theorem q_s_50 : Cond.selects RX5 yX5_bringsIn yX5_bringsIn ∈ wT := wT_ins (List.mem_of_getElem? (i := 50) rfl) (by decide)
theorem q_5_143 : Cond.methodLink RX5 254 yX5_bringsIn ∈ wT := wT_in5 (List.mem_of_getElem? (i := 143) rfl) (by decide)
theorem q_5_145 : Cond.instanceMethod yX5_bringsIn ∈ wT := wT_in5 (List.mem_of_getElem? (i := 145) rfl) (by decide)
theorem q_s_49 : Cond.selects RX5 yX5_slightsOf yX5_slightsOf ∈ wT := wT_ins (List.mem_of_getElem? (i := 49) rfl) (by decide)
theorem q_5_139 : Cond.methodLink RX5 251 yX5_slightsOf ∈ wT := wT_in5 (List.mem_of_getElem? (i := 139) rfl) (by decide)
theorem q_5_141 : Cond.instanceMethod yX5_slightsOf ∈ wT := wT_in5 (List.mem_of_getElem? (i := 141) rfl) (by decide)
theorem q_s_52 : Cond.selects RX5 yX5_changesBack yX5_changesBack ∈ wT := wT_ins (List.mem_of_getElem? (i := 52) rfl) (by decide)
theorem q_5_151 : Cond.methodLink RX5 248 yX5_changesBack ∈ wT := wT_in5 (List.mem_of_getElem? (i := 151) rfl) (by decide)
theorem q_5_153 : Cond.instanceMethod yX5_changesBack ∈ wT := wT_in5 (List.mem_of_getElem? (i := 153) rfl) (by decide)
theorem q_s_51 : Cond.selects RX5 yX5_changes yX5_changes ∈ wT := wT_ins (List.mem_of_getElem? (i := 51) rfl) (by decide)
theorem q_5_147 : Cond.methodLink RX5 245 yX5_changes ∈ wT := wT_in5 (List.mem_of_getElem? (i := 147) rfl) (by decide)
theorem q_5_149 : Cond.instanceMethod yX5_changes ∈ wT := wT_in5 (List.mem_of_getElem? (i := 149) rfl) (by decide)
theorem q_s_48 : Cond.selects RX5 yX5_lateSlighting yX5_lateSlighting ∈ wT := wT_ins (List.mem_of_getElem? (i := 48) rfl) (by decide)
theorem q_5_131 : Cond.methodLink RX5 242 yX5_lateSlighting ∈ wT := wT_in5 (List.mem_of_getElem? (i := 131) rfl) (by decide)
theorem q_5_133 : Cond.instanceMethod yX5_lateSlighting ∈ wT := wT_in5 (List.mem_of_getElem? (i := 133) rfl) (by decide)
theorem q_5_124 : Cond.methodLink RX5 239 yX5_has ∈ wT := wT_in5 (List.mem_of_getElem? (i := 124) rfl) (by decide)
theorem q_5_125 : Cond.static yX5_has ∈ wT := wT_in5 (List.mem_of_getElem? (i := 125) rfl) (by decide)
theorem q_s_47 : Cond.selects RX5 yX5_enemyOfMany yX5_enemyOfMany ∈ wT := wT_ins (List.mem_of_getElem? (i := 47) rfl) (by decide)
theorem q_5_116 : Cond.methodLink RX5 236 yX5_enemyOfMany ∈ wT := wT_in5 (List.mem_of_getElem? (i := 116) rfl) (by decide)
theorem q_5_118 : Cond.instanceMethod yX5_enemyOfMany ∈ wT := wT_in5 (List.mem_of_getElem? (i := 118) rfl) (by decide)
theorem q_s_46 : Cond.selects RX5 yX5_lateOf yX5_lateOf ∈ wT := wT_ins (List.mem_of_getElem? (i := 46) rfl) (by decide)
theorem q_5_96 : Cond.methodLink RX5 233 yX5_lateOf ∈ wT := wT_in5 (List.mem_of_getElem? (i := 96) rfl) (by decide)
theorem q_5_98 : Cond.instanceMethod yX5_lateOf ∈ wT := wT_in5 (List.mem_of_getElem? (i := 98) rfl) (by decide)
theorem q_s_45 : Cond.selects RX5 yX5_whenOf yX5_whenOf ∈ wT := wT_ins (List.mem_of_getElem? (i := 45) rfl) (by decide)
theorem q_5_88 : Cond.methodLink RX5 230 yX5_whenOf ∈ wT := wT_in5 (List.mem_of_getElem? (i := 88) rfl) (by decide)
theorem q_5_90 : Cond.instanceMethod yX5_whenOf ∈ wT := wT_in5 (List.mem_of_getElem? (i := 90) rfl) (by decide)
theorem q_s_44 : Cond.selects RX5 yX5_forgets yX5_forgets ∈ wT := wT_ins (List.mem_of_getElem? (i := 44) rfl) (by decide)
theorem q_5_72 : Cond.methodLink RX5 227 yX5_forgets ∈ wT := wT_in5 (List.mem_of_getElem? (i := 72) rfl) (by decide)
theorem q_5_74 : Cond.instanceMethod yX5_forgets ∈ wT := wT_in5 (List.mem_of_getElem? (i := 74) rfl) (by decide)
theorem q_s_43 : Cond.selects RX5 yX5_thinks yX5_thinks ∈ wT := wT_ins (List.mem_of_getElem? (i := 43) rfl) (by decide)
theorem q_5_68 : Cond.methodLink RX5 224 yX5_thinks ∈ wT := wT_in5 (List.mem_of_getElem? (i := 68) rfl) (by decide)
theorem q_5_70 : Cond.instanceMethod yX5_thinks ∈ wT := wT_in5 (List.mem_of_getElem? (i := 70) rfl) (by decide)
theorem q_5_65 : Cond.methodLink RX5 221 yX5_notDays ∈ wT := wT_in5 (List.mem_of_getElem? (i := 65) rfl) (by decide)
theorem q_5_66 : Cond.static yX5_notDays ∈ wT := wT_in5 (List.mem_of_getElem? (i := 66) rfl) (by decide)
theorem q_5_58 : Cond.methodLink RX5 218 yX5_bits ∈ wT := wT_in5 (List.mem_of_getElem? (i := 58) rfl) (by decide)
theorem q_5_59 : Cond.static yX5_bits ∈ wT := wT_in5 (List.mem_of_getElem? (i := 59) rfl) (by decide)
theorem q_s_42 : Cond.selects RX5 yX5_thoseIn yX5_thoseIn ∈ wT := wT_ins (List.mem_of_getElem? (i := 42) rfl) (by decide)
theorem q_5_54 : Cond.methodLink RX5 215 yX5_thoseIn ∈ wT := wT_in5 (List.mem_of_getElem? (i := 54) rfl) (by decide)
theorem q_5_56 : Cond.instanceMethod yX5_thoseIn ∈ wT := wT_in5 (List.mem_of_getElem? (i := 56) rfl) (by decide)
theorem q_s_41 : Cond.selects RX5 yX5_isParcel yX5_isParcel ∈ wT := wT_ins (List.mem_of_getElem? (i := 41) rfl) (by decide)
theorem q_5_18 : Cond.methodLink RX5 212 yX5_isParcel ∈ wT := wT_in5 (List.mem_of_getElem? (i := 18) rfl) (by decide)
theorem q_5_20 : Cond.instanceMethod yX5_isParcel ∈ wT := wT_in5 (List.mem_of_getElem? (i := 20) rfl) (by decide)
theorem q_s_29 : Cond.selects RX5 yX5_goesDay yX5_goesDay ∈ wT := wT_ins (List.mem_of_getElem? (i := 29) rfl) (by decide)
theorem q_4_188 : Cond.methodLink RX5 208 yX5_goesDay ∈ wT := wT_in4 (List.mem_of_getElem? (i := 188) rfl) (by decide)
theorem q_4_190 : Cond.instanceMethod yX5_goesDay ∈ wT := wT_in4 (List.mem_of_getElem? (i := 190) rfl) (by decide)
theorem q_s_31 : Cond.selects RX5 yX5_isTaken yX5_isTaken ∈ wT := wT_ins (List.mem_of_getElem? (i := 31) rfl) (by decide)
theorem q_4_199 : Cond.methodLink RX5 205 yX5_isTaken ∈ wT := wT_in4 (List.mem_of_getElem? (i := 199) rfl) (by decide)
theorem q_4_201 : Cond.instanceMethod yX5_isTaken ∈ wT := wT_in4 (List.mem_of_getElem? (i := 201) rfl) (by decide)
theorem q_s_30 : Cond.selects RX5 yX5_comesNearer yX5_comesNearer ∈ wT := wT_ins (List.mem_of_getElem? (i := 30) rfl) (by decide)
theorem q_4_192 : Cond.methodLink RX5 202 yX5_comesNearer ∈ wT := wT_in4 (List.mem_of_getElem? (i := 192) rfl) (by decide)
theorem q_4_194 : Cond.instanceMethod yX5_comesNearer ∈ wT := wT_in4 (List.mem_of_getElem? (i := 194) rfl) (by decide)
theorem q_s_36 : Cond.selects RX5 yX5_milesOf yX5_milesOf ∈ wT := wT_ins (List.mem_of_getElem? (i := 36) rfl) (by decide)
theorem q_4_222 : Cond.methodLink RX5 199 yX5_milesOf ∈ wT := wT_in4 (List.mem_of_getElem? (i := 222) rfl) (by decide)
theorem q_4_224 : Cond.instanceMethod yX5_milesOf ∈ wT := wT_in4 (List.mem_of_getElem? (i := 224) rfl) (by decide)
theorem q_s_35 : Cond.selects RX5 yX5_isCarrying yX5_isCarrying ∈ wT := wT_ins (List.mem_of_getElem? (i := 35) rfl) (by decide)
theorem q_4_218 : Cond.methodLink RX5 196 yX5_isCarrying ∈ wT := wT_in4 (List.mem_of_getElem? (i := 218) rfl) (by decide)
theorem q_4_220 : Cond.instanceMethod yX5_isCarrying ∈ wT := wT_in4 (List.mem_of_getElem? (i := 220) rfl) (by decide)
theorem q_s_32 : Cond.selects RX5 yX5_enemyOf yX5_enemyOf ∈ wT := wT_ins (List.mem_of_getElem? (i := 32) rfl) (by decide)
theorem q_4_203 : Cond.methodLink RX5 193 yX5_enemyOf ∈ wT := wT_in4 (List.mem_of_getElem? (i := 203) rfl) (by decide)
theorem q_4_205 : Cond.instanceMethod yX5_enemyOf ∈ wT := wT_in4 (List.mem_of_getElem? (i := 205) rfl) (by decide)
theorem q_s_33 : Cond.selects RX5 yX5_enemyBut yX5_enemyBut ∈ wT := wT_ins (List.mem_of_getElem? (i := 33) rfl) (by decide)
theorem q_4_207 : Cond.methodLink RX5 190 yX5_enemyBut ∈ wT := wT_in4 (List.mem_of_getElem? (i := 207) rfl) (by decide)
theorem q_4_209 : Cond.instanceMethod yX5_enemyBut ∈ wT := wT_in4 (List.mem_of_getElem? (i := 209) rfl) (by decide)
theorem q_s_34 : Cond.selects RX5 yX5_maliceOf yX5_maliceOf ∈ wT := wT_ins (List.mem_of_getElem? (i := 34) rfl) (by decide)
theorem q_4_211 : Cond.methodLink RX5 187 yX5_maliceOf ∈ wT := wT_in4 (List.mem_of_getElem? (i := 211) rfl) (by decide)
theorem q_4_213 : Cond.instanceMethod yX5_maliceOf ∈ wT := wT_in4 (List.mem_of_getElem? (i := 213) rfl) (by decide)
theorem q_4_215 : Cond.methodLink RX5 184 yX5_apart ∈ wT := wT_in4 (List.mem_of_getElem? (i := 215) rfl) (by decide)
theorem q_4_216 : Cond.static yX5_apart ∈ wT := wT_in4 (List.mem_of_getElem? (i := 216) rfl) (by decide)
theorem q_s_61 : Cond.selects RX5 yX5_bitsFor yX5_bitsFor ∈ wT := wT_ins (List.mem_of_getElem? (i := 61) rfl) (by decide)
theorem q_5_230 : Cond.methodLink RX5 296 yX5_bitsFor ∈ wT := wT_in5 (List.mem_of_getElem? (i := 230) rfl) (by decide)
theorem q_5_232 : Cond.instanceMethod yX5_bitsFor ∈ wT := wT_in5 (List.mem_of_getElem? (i := 232) rfl) (by decide)
theorem q_s_62 : Cond.selects RX5 yX5_isSo yX5_isSo ∈ wT := wT_ins (List.mem_of_getElem? (i := 62) rfl) (by decide)
theorem q_5_234 : Cond.methodLink RX5 293 yX5_isSo ∈ wT := wT_in5 (List.mem_of_getElem? (i := 234) rfl) (by decide)
theorem q_5_236 : Cond.instanceMethod yX5_isSo ∈ wT := wT_in5 (List.mem_of_getElem? (i := 236) rfl) (by decide)
theorem q_s_60 : Cond.selects RX5 yX5_allHate yX5_allHate ∈ wT := wT_ins (List.mem_of_getElem? (i := 60) rfl) (by decide)
theorem q_5_222 : Cond.methodLink RX5 287 yX5_allHate ∈ wT := wT_in5 (List.mem_of_getElem? (i := 222) rfl) (by decide)
theorem q_5_224 : Cond.instanceMethod yX5_allHate ∈ wT := wT_in5 (List.mem_of_getElem? (i := 224) rfl) (by decide)
theorem q_5_212 : Cond.methodLink RX5 283 yX5_partOf ∈ wT := wT_in5 (List.mem_of_getElem? (i := 212) rfl) (by decide)
theorem q_5_213 : Cond.static yX5_partOf ∈ wT := wT_in5 (List.mem_of_getElem? (i := 213) rfl) (by decide)
theorem q_s_59 : Cond.selects RX5 yX5_lowestOf yX5_lowestOf ∈ wT := wT_ins (List.mem_of_getElem? (i := 59) rfl) (by decide)
theorem q_5_207 : Cond.methodLink RX5 279 yX5_lowestOf ∈ wT := wT_in5 (List.mem_of_getElem? (i := 207) rfl) (by decide)
theorem q_5_209 : Cond.instanceMethod yX5_lowestOf ∈ wT := wT_in5 (List.mem_of_getElem? (i := 209) rfl) (by decide)
theorem q_5_215 : Cond.methodLink RX5 275 yX5_divisor ∈ wT := wT_in5 (List.mem_of_getElem? (i := 215) rfl) (by decide)
theorem q_5_216 : Cond.static yX5_divisor ∈ wT := wT_in5 (List.mem_of_getElem? (i := 216) rfl) (by decide)
theorem q_s_57 : Cond.selects RX5 yX5_findBrought yX5_findBrought ∈ wT := wT_ins (List.mem_of_getElem? (i := 57) rfl) (by decide)
theorem q_5_195 : Cond.methodLink RX5 272 yX5_findBrought ∈ wT := wT_in5 (List.mem_of_getElem? (i := 195) rfl) (by decide)
theorem q_5_197 : Cond.instanceMethod yX5_findBrought ∈ wT := wT_in5 (List.mem_of_getElem? (i := 197) rfl) (by decide)
theorem q_s_58 : Cond.selects RX5 yX5_broughtTo yX5_broughtTo ∈ wT := wT_ins (List.mem_of_getElem? (i := 58) rfl) (by decide)
theorem q_5_199 : Cond.methodLink RX5 269 yX5_broughtTo ∈ wT := wT_in5 (List.mem_of_getElem? (i := 199) rfl) (by decide)
theorem q_5_201 : Cond.instanceMethod yX5_broughtTo ∈ wT := wT_in5 (List.mem_of_getElem? (i := 201) rfl) (by decide)
theorem q_s_56 : Cond.selects RX5 yX5_maliceFor yX5_maliceFor ∈ wT := wT_ins (List.mem_of_getElem? (i := 56) rfl) (by decide)
theorem q_5_187 : Cond.methodLink RX5 266 yX5_maliceFor ∈ wT := wT_in5 (List.mem_of_getElem? (i := 187) rfl) (by decide)
theorem q_5_189 : Cond.instanceMethod yX5_maliceFor ∈ wT := wT_in5 (List.mem_of_getElem? (i := 189) rfl) (by decide)
theorem q_s_55 : Cond.selects RX5 yX5_pairs yX5_pairs ∈ wT := wT_ins (List.mem_of_getElem? (i := 55) rfl) (by decide)
theorem q_5_183 : Cond.methodLink RX5 263 yX5_pairs ∈ wT := wT_in5 (List.mem_of_getElem? (i := 183) rfl) (by decide)
theorem q_5_185 : Cond.instanceMethod yX5_pairs ∈ wT := wT_in5 (List.mem_of_getElem? (i := 185) rfl) (by decide)
theorem q_s_54 : Cond.selects RX5 yX5_latePosted yX5_latePosted ∈ wT := wT_ins (List.mem_of_getElem? (i := 54) rfl) (by decide)
theorem q_5_167 : Cond.methodLink RX5 260 yX5_latePosted ∈ wT := wT_in5 (List.mem_of_getElem? (i := 167) rfl) (by decide)
theorem q_5_169 : Cond.instanceMethod yX5_latePosted ∈ wT := wT_in5 (List.mem_of_getElem? (i := 169) rfl) (by decide)
theorem q_3_1 : Cond.selects RX4 yX4_parcelThen yX4_parcelThen ∈ wT := wT_in3 (List.mem_of_getElem? (i := 1) rfl) (by decide)
theorem q_2_239 : Cond.methodLink RL 65 yX4_parcelThen ∈ wT := wT_in2 (List.mem_of_getElem? (i := 239) rfl) (by decide)
theorem q_3_0 : Cond.instanceMethod yX4_parcelThen ∈ wT := wT_in3 (List.mem_of_getElem? (i := 0) rfl) (by decide)
theorem q_5_52 : Cond.selects RX5 yX5_days yX5_days ∈ wT := wT_in5 (List.mem_of_getElem? (i := 52) rfl) (by decide)
theorem q_5_50 : Cond.methodLink RL 64 yX5_days ∈ wT := wT_in5 (List.mem_of_getElem? (i := 50) rfl) (by decide)
theorem q_5_51 : Cond.instanceMethod yX5_days ∈ wT := wT_in5 (List.mem_of_getElem? (i := 51) rfl) (by decide)
theorem q_2_232 : Cond.selects RX4 yX4_days yX4_days ∈ wT := wT_in2 (List.mem_of_getElem? (i := 232) rfl) (by decide)
theorem q_2_230 : Cond.methodLink RL 61 yX4_days ∈ wT := wT_in2 (List.mem_of_getElem? (i := 230) rfl) (by decide)
theorem q_2_231 : Cond.instanceMethod yX4_days ∈ wT := wT_in2 (List.mem_of_getElem? (i := 231) rfl) (by decide)
theorem q_5_48 : Cond.selects RX5 yX5_turn yX5_turn ∈ wT := wT_in5 (List.mem_of_getElem? (i := 48) rfl) (by decide)
theorem q_5_46 : Cond.methodLink RL 60 yX5_turn ∈ wT := wT_in5 (List.mem_of_getElem? (i := 46) rfl) (by decide)
theorem q_5_47 : Cond.instanceMethod yX5_turn ∈ wT := wT_in5 (List.mem_of_getElem? (i := 47) rfl) (by decide)
theorem q_2_228 : Cond.selects RX4 yX4_turn yX4_turn ∈ wT := wT_in2 (List.mem_of_getElem? (i := 228) rfl) (by decide)
theorem q_2_226 : Cond.methodLink RL 57 yX4_turn ∈ wT := wT_in2 (List.mem_of_getElem? (i := 226) rfl) (by decide)
theorem q_2_227 : Cond.instanceMethod yX4_turn ∈ wT := wT_in2 (List.mem_of_getElem? (i := 227) rfl) (by decide)
theorem q_5_44 : Cond.selects RX5 yX5_moves yX5_moves ∈ wT := wT_in5 (List.mem_of_getElem? (i := 44) rfl) (by decide)
theorem q_5_42 : Cond.methodLink RL 56 yX5_moves ∈ wT := wT_in5 (List.mem_of_getElem? (i := 42) rfl) (by decide)
theorem q_5_43 : Cond.instanceMethod yX5_moves ∈ wT := wT_in5 (List.mem_of_getElem? (i := 43) rfl) (by decide)
theorem q_2_224 : Cond.selects RX4 yX4_moves yX4_moves ∈ wT := wT_in2 (List.mem_of_getElem? (i := 224) rfl) (by decide)
theorem q_2_222 : Cond.methodLink RL 53 yX4_moves ∈ wT := wT_in2 (List.mem_of_getElem? (i := 222) rfl) (by decide)
theorem q_2_223 : Cond.instanceMethod yX4_moves ∈ wT := wT_in2 (List.mem_of_getElem? (i := 223) rfl) (by decide)
theorem q_5_40 : Cond.selects RX5 yX5_peace yX5_peace ∈ wT := wT_in5 (List.mem_of_getElem? (i := 40) rfl) (by decide)
theorem q_5_38 : Cond.methodLink RL 52 yX5_peace ∈ wT := wT_in5 (List.mem_of_getElem? (i := 38) rfl) (by decide)
theorem q_5_39 : Cond.instanceMethod yX5_peace ∈ wT := wT_in5 (List.mem_of_getElem? (i := 39) rfl) (by decide)
theorem q_2_219 : Cond.selects RX4 yX4_peace yX4_peace ∈ wT := wT_in2 (List.mem_of_getElem? (i := 219) rfl) (by decide)
theorem q_2_217 : Cond.methodLink RL 49 yX4_peace ∈ wT := wT_in2 (List.mem_of_getElem? (i := 217) rfl) (by decide)
theorem q_2_218 : Cond.instanceMethod yX4_peace ∈ wT := wT_in2 (List.mem_of_getElem? (i := 218) rfl) (by decide)
theorem q_5_36 : Cond.selects RX5 yX5_slights yX5_slights ∈ wT := wT_in5 (List.mem_of_getElem? (i := 36) rfl) (by decide)
theorem q_5_34 : Cond.methodLink RL 48 yX5_slights ∈ wT := wT_in5 (List.mem_of_getElem? (i := 34) rfl) (by decide)
theorem q_5_35 : Cond.instanceMethod yX5_slights ∈ wT := wT_in5 (List.mem_of_getElem? (i := 35) rfl) (by decide)
theorem q_2_214 : Cond.selects RX4 yX4_slights yX4_slights ∈ wT := wT_in2 (List.mem_of_getElem? (i := 214) rfl) (by decide)
theorem q_2_212 : Cond.methodLink RL 45 yX4_slights ∈ wT := wT_in2 (List.mem_of_getElem? (i := 212) rfl) (by decide)
theorem q_2_213 : Cond.instanceMethod yX4_slights ∈ wT := wT_in2 (List.mem_of_getElem? (i := 213) rfl) (by decide)
theorem q_5_32 : Cond.selects RX5 yX5_hates yX5_hates ∈ wT := wT_in5 (List.mem_of_getElem? (i := 32) rfl) (by decide)
theorem q_5_30 : Cond.methodLink RL 44 yX5_hates ∈ wT := wT_in5 (List.mem_of_getElem? (i := 30) rfl) (by decide)
theorem q_5_31 : Cond.instanceMethod yX5_hates ∈ wT := wT_in5 (List.mem_of_getElem? (i := 31) rfl) (by decide)
theorem q_2_209 : Cond.selects RX4 yX4_hates yX4_hates ∈ wT := wT_in2 (List.mem_of_getElem? (i := 209) rfl) (by decide)
theorem q_2_207 : Cond.methodLink RL 40 yX4_hates ∈ wT := wT_in2 (List.mem_of_getElem? (i := 207) rfl) (by decide)
theorem q_2_208 : Cond.instanceMethod yX4_hates ∈ wT := wT_in2 (List.mem_of_getElem? (i := 208) rfl) (by decide)
theorem q_5_28 : Cond.selects RX5 yX5_posts yX5_posts ∈ wT := wT_in5 (List.mem_of_getElem? (i := 28) rfl) (by decide)
theorem q_5_26 : Cond.methodLink RL 39 yX5_posts ∈ wT := wT_in5 (List.mem_of_getElem? (i := 26) rfl) (by decide)
theorem q_5_27 : Cond.instanceMethod yX5_posts ∈ wT := wT_in5 (List.mem_of_getElem? (i := 27) rfl) (by decide)
theorem q_2_204 : Cond.selects RX4 yX4_posts yX4_posts ∈ wT := wT_in2 (List.mem_of_getElem? (i := 204) rfl) (by decide)
theorem q_2_202 : Cond.methodLink RL 36 yX4_posts ∈ wT := wT_in2 (List.mem_of_getElem? (i := 202) rfl) (by decide)
theorem q_2_203 : Cond.instanceMethod yX4_posts ∈ wT := wT_in2 (List.mem_of_getElem? (i := 203) rfl) (by decide)
theorem q_5_24 : Cond.selects RX5 yX5_hate yX5_hate ∈ wT := wT_in5 (List.mem_of_getElem? (i := 24) rfl) (by decide)
theorem q_5_22 : Cond.methodLink RL 35 yX5_hate ∈ wT := wT_in5 (List.mem_of_getElem? (i := 22) rfl) (by decide)
theorem q_5_23 : Cond.instanceMethod yX5_hate ∈ wT := wT_in5 (List.mem_of_getElem? (i := 23) rfl) (by decide)
theorem q_2_198 : Cond.selects RX4 yX4_hate yX4_hate ∈ wT := wT_in2 (List.mem_of_getElem? (i := 198) rfl) (by decide)
theorem q_2_196 : Cond.methodLink RL 32 yX4_hate ∈ wT := wT_in2 (List.mem_of_getElem? (i := 196) rfl) (by decide)
theorem q_2_197 : Cond.instanceMethod yX4_hate ∈ wT := wT_in2 (List.mem_of_getElem? (i := 197) rfl) (by decide)
theorem q_5_16 : Cond.selects RX5 yX5_parcel yX5_parcel ∈ wT := wT_in5 (List.mem_of_getElem? (i := 16) rfl) (by decide)
theorem q_5_14 : Cond.methodLink RL 31 yX5_parcel ∈ wT := wT_in5 (List.mem_of_getElem? (i := 14) rfl) (by decide)
theorem q_5_15 : Cond.instanceMethod yX5_parcel ∈ wT := wT_in5 (List.mem_of_getElem? (i := 15) rfl) (by decide)
theorem q_2_185 : Cond.selects RX4 yX4_parcel yX4_parcel ∈ wT := wT_in2 (List.mem_of_getElem? (i := 185) rfl) (by decide)
theorem q_2_183 : Cond.methodLink RL 28 yX4_parcel ∈ wT := wT_in2 (List.mem_of_getElem? (i := 183) rfl) (by decide)
theorem q_2_184 : Cond.instanceMethod yX4_parcel ∈ wT := wT_in2 (List.mem_of_getElem? (i := 184) rfl) (by decide)
theorem q_5_12 : Cond.selects RX5 yX5_person yX5_person ∈ wT := wT_in5 (List.mem_of_getElem? (i := 12) rfl) (by decide)
theorem q_5_10 : Cond.methodLink RL 27 yX5_person ∈ wT := wT_in5 (List.mem_of_getElem? (i := 10) rfl) (by decide)
theorem q_5_11 : Cond.instanceMethod yX5_person ∈ wT := wT_in5 (List.mem_of_getElem? (i := 11) rfl) (by decide)
theorem q_2_176 : Cond.selects RX4 yX4_person yX4_person ∈ wT := wT_in2 (List.mem_of_getElem? (i := 176) rfl) (by decide)
theorem q_2_174 : Cond.methodLink RL 23 yX4_person ∈ wT := wT_in2 (List.mem_of_getElem? (i := 174) rfl) (by decide)
theorem q_2_175 : Cond.instanceMethod yX4_person ∈ wT := wT_in2 (List.mem_of_getElem? (i := 175) rfl) (by decide)
theorem q_4_117 : Cond.selects RX5 yX5_duchy yX5_duchy ∈ wT := wT_in4 (List.mem_of_getElem? (i := 117) rfl) (by decide)
theorem q_4_115 : Cond.methodLink RL 22 yX5_duchy ∈ wT := wT_in4 (List.mem_of_getElem? (i := 115) rfl) (by decide)
theorem q_4_116 : Cond.instanceMethod yX5_duchy ∈ wT := wT_in4 (List.mem_of_getElem? (i := 116) rfl) (by decide)
theorem q_1_167 : Cond.selects RX4 yX4_duchy yX4_duchy ∈ wT := wT_in1 (List.mem_of_getElem? (i := 167) rfl) (by decide)
theorem q_1_165 : Cond.methodLink RL 18 yX4_duchy ∈ wT := wT_in1 (List.mem_of_getElem? (i := 165) rfl) (by decide)
theorem q_1_166 : Cond.instanceMethod yX4_duchy ∈ wT := wT_in1 (List.mem_of_getElem? (i := 166) rfl) (by decide)
theorem q_4_106 : Cond.selects RX5 yX5_letter yX5_letter ∈ wT := wT_in4 (List.mem_of_getElem? (i := 106) rfl) (by decide)
theorem q_4_104 : Cond.methodLink RL 17 yX5_letter ∈ wT := wT_in4 (List.mem_of_getElem? (i := 104) rfl) (by decide)
theorem q_4_105 : Cond.instanceMethod yX5_letter ∈ wT := wT_in4 (List.mem_of_getElem? (i := 105) rfl) (by decide)
theorem q_1_155 : Cond.selects RX4 yX4_letter yX4_letter ∈ wT := wT_in1 (List.mem_of_getElem? (i := 155) rfl) (by decide)
theorem q_1_153 : Cond.methodLink RL 13 yX4_letter ∈ wT := wT_in1 (List.mem_of_getElem? (i := 153) rfl) (by decide)
theorem q_1_154 : Cond.instanceMethod yX4_letter ∈ wT := wT_in1 (List.mem_of_getElem? (i := 154) rfl) (by decide)
theorem q_5_157 : Cond.selects RX5 yX5_makeUp yX5_makeUp ∈ wT := wT_in5 (List.mem_of_getElem? (i := 157) rfl) (by decide)
theorem q_5_155 : Cond.methodLink RL 116 yX5_makeUp ∈ wT := wT_in5 (List.mem_of_getElem? (i := 155) rfl) (by decide)
theorem q_5_156 : Cond.instanceMethod yX5_makeUp ∈ wT := wT_in5 (List.mem_of_getElem? (i := 156) rfl) (by decide)
theorem q_3_104 : Cond.selects RX4 yX4_makeUp yX4_makeUp ∈ wT := wT_in3 (List.mem_of_getElem? (i := 104) rfl) (by decide)
theorem q_3_102 : Cond.methodLink RL 113 yX4_makeUp ∈ wT := wT_in3 (List.mem_of_getElem? (i := 102) rfl) (by decide)
theorem q_3_103 : Cond.instanceMethod yX4_makeUp ∈ wT := wT_in3 (List.mem_of_getElem? (i := 103) rfl) (by decide)
theorem q_5_137 : Cond.selects RX5 yX5_cost yX5_cost ∈ wT := wT_in5 (List.mem_of_getElem? (i := 137) rfl) (by decide)
theorem q_5_135 : Cond.methodLink RL 112 yX5_cost ∈ wT := wT_in5 (List.mem_of_getElem? (i := 135) rfl) (by decide)
theorem q_5_136 : Cond.instanceMethod yX5_cost ∈ wT := wT_in5 (List.mem_of_getElem? (i := 136) rfl) (by decide)
theorem q_3_91 : Cond.selects RX4 yX4_cost yX4_cost ∈ wT := wT_in3 (List.mem_of_getElem? (i := 91) rfl) (by decide)
theorem q_3_89 : Cond.methodLink RL 109 yX4_cost ∈ wT := wT_in3 (List.mem_of_getElem? (i := 89) rfl) (by decide)
theorem q_3_90 : Cond.instanceMethod yX4_cost ∈ wT := wT_in3 (List.mem_of_getElem? (i := 90) rfl) (by decide)
theorem q_5_129 : Cond.selects RX5 yX5_slight yX5_slight ∈ wT := wT_in5 (List.mem_of_getElem? (i := 129) rfl) (by decide)
theorem q_5_127 : Cond.methodLink RL 108 yX5_slight ∈ wT := wT_in5 (List.mem_of_getElem? (i := 127) rfl) (by decide)
theorem q_5_128 : Cond.instanceMethod yX5_slight ∈ wT := wT_in5 (List.mem_of_getElem? (i := 128) rfl) (by decide)
theorem q_3_73 : Cond.selects RX4 yX4_slight yX4_slight ∈ wT := wT_in3 (List.mem_of_getElem? (i := 73) rfl) (by decide)
theorem q_3_71 : Cond.methodLink RL 105 yX4_slight ∈ wT := wT_in3 (List.mem_of_getElem? (i := 71) rfl) (by decide)
theorem q_3_72 : Cond.instanceMethod yX4_slight ∈ wT := wT_in3 (List.mem_of_getElem? (i := 72) rfl) (by decide)
theorem q_5_122 : Cond.selects RX5 yX5_ring yX5_ring ∈ wT := wT_in5 (List.mem_of_getElem? (i := 122) rfl) (by decide)
theorem q_5_120 : Cond.methodLink RL 104 yX5_ring ∈ wT := wT_in5 (List.mem_of_getElem? (i := 120) rfl) (by decide)
theorem q_5_121 : Cond.instanceMethod yX5_ring ∈ wT := wT_in5 (List.mem_of_getElem? (i := 121) rfl) (by decide)
theorem q_3_69 : Cond.selects RX4 yX4_ring yX4_ring ∈ wT := wT_in3 (List.mem_of_getElem? (i := 69) rfl) (by decide)
theorem q_3_67 : Cond.methodLink RL 101 yX4_ring ∈ wT := wT_in3 (List.mem_of_getElem? (i := 67) rfl) (by decide)
theorem q_3_68 : Cond.instanceMethod yX4_ring ∈ wT := wT_in3 (List.mem_of_getElem? (i := 68) rfl) (by decide)
theorem q_5_114 : Cond.selects RX5 yX5_busiest yX5_busiest ∈ wT := wT_in5 (List.mem_of_getElem? (i := 114) rfl) (by decide)
theorem q_5_112 : Cond.methodLink RL 100 yX5_busiest ∈ wT := wT_in5 (List.mem_of_getElem? (i := 112) rfl) (by decide)
theorem q_5_113 : Cond.instanceMethod yX5_busiest ∈ wT := wT_in5 (List.mem_of_getElem? (i := 113) rfl) (by decide)
theorem q_3_61 : Cond.selects RX4 yX4_busiest yX4_busiest ∈ wT := wT_in3 (List.mem_of_getElem? (i := 61) rfl) (by decide)
theorem q_3_59 : Cond.methodLink RL 97 yX4_busiest ∈ wT := wT_in3 (List.mem_of_getElem? (i := 59) rfl) (by decide)
theorem q_3_60 : Cond.instanceMethod yX4_busiest ∈ wT := wT_in3 (List.mem_of_getElem? (i := 60) rfl) (by decide)
theorem q_5_110 : Cond.selects RX5 yX5_loved yX5_loved ∈ wT := wT_in5 (List.mem_of_getElem? (i := 110) rfl) (by decide)
theorem q_5_108 : Cond.methodLink RL 96 yX5_loved ∈ wT := wT_in5 (List.mem_of_getElem? (i := 108) rfl) (by decide)
theorem q_5_109 : Cond.instanceMethod yX5_loved ∈ wT := wT_in5 (List.mem_of_getElem? (i := 109) rfl) (by decide)
theorem q_3_57 : Cond.selects RX4 yX4_loved yX4_loved ∈ wT := wT_in3 (List.mem_of_getElem? (i := 57) rfl) (by decide)
theorem q_3_55 : Cond.methodLink RL 93 yX4_loved ∈ wT := wT_in3 (List.mem_of_getElem? (i := 55) rfl) (by decide)
theorem q_3_56 : Cond.instanceMethod yX4_loved ∈ wT := wT_in3 (List.mem_of_getElem? (i := 56) rfl) (by decide)
theorem q_5_106 : Cond.selects RX5 yX5_malice yX5_malice ∈ wT := wT_in5 (List.mem_of_getElem? (i := 106) rfl) (by decide)
theorem q_5_104 : Cond.methodLink RL 92 yX5_malice ∈ wT := wT_in5 (List.mem_of_getElem? (i := 104) rfl) (by decide)
theorem q_5_105 : Cond.instanceMethod yX5_malice ∈ wT := wT_in5 (List.mem_of_getElem? (i := 105) rfl) (by decide)
theorem q_3_52 : Cond.selects RX4 yX4_malice yX4_malice ∈ wT := wT_in3 (List.mem_of_getElem? (i := 52) rfl) (by decide)
theorem q_3_50 : Cond.methodLink RL 89 yX4_malice ∈ wT := wT_in3 (List.mem_of_getElem? (i := 50) rfl) (by decide)
theorem q_3_51 : Cond.instanceMethod yX4_malice ∈ wT := wT_in3 (List.mem_of_getElem? (i := 51) rfl) (by decide)
theorem q_5_102 : Cond.selects RX5 yX5_enemy yX5_enemy ∈ wT := wT_in5 (List.mem_of_getElem? (i := 102) rfl) (by decide)
theorem q_5_100 : Cond.methodLink RL 88 yX5_enemy ∈ wT := wT_in5 (List.mem_of_getElem? (i := 100) rfl) (by decide)
theorem q_5_101 : Cond.instanceMethod yX5_enemy ∈ wT := wT_in5 (List.mem_of_getElem? (i := 101) rfl) (by decide)
theorem q_3_47 : Cond.selects RX4 yX4_enemy yX4_enemy ∈ wT := wT_in3 (List.mem_of_getElem? (i := 47) rfl) (by decide)
theorem q_3_45 : Cond.methodLink RL 85 yX4_enemy ∈ wT := wT_in3 (List.mem_of_getElem? (i := 45) rfl) (by decide)
theorem q_3_46 : Cond.instanceMethod yX4_enemy ∈ wT := wT_in3 (List.mem_of_getElem? (i := 46) rfl) (by decide)
theorem q_5_94 : Cond.selects RX5 yX5_first yX5_first ∈ wT := wT_in5 (List.mem_of_getElem? (i := 94) rfl) (by decide)
theorem q_5_92 : Cond.methodLink RL 84 yX5_first ∈ wT := wT_in5 (List.mem_of_getElem? (i := 92) rfl) (by decide)
theorem q_5_93 : Cond.instanceMethod yX5_first ∈ wT := wT_in5 (List.mem_of_getElem? (i := 93) rfl) (by decide)
theorem q_3_32 : Cond.selects RX4 yX4_first yX4_first ∈ wT := wT_in3 (List.mem_of_getElem? (i := 32) rfl) (by decide)
theorem q_3_30 : Cond.methodLink RL 81 yX4_first ∈ wT := wT_in3 (List.mem_of_getElem? (i := 30) rfl) (by decide)
theorem q_3_31 : Cond.instanceMethod yX4_first ∈ wT := wT_in3 (List.mem_of_getElem? (i := 31) rfl) (by decide)
theorem q_5_86 : Cond.selects RX5 yX5_when yX5_when ∈ wT := wT_in5 (List.mem_of_getElem? (i := 86) rfl) (by decide)
theorem q_5_84 : Cond.methodLink RL 80 yX5_when ∈ wT := wT_in5 (List.mem_of_getElem? (i := 84) rfl) (by decide)
theorem q_5_85 : Cond.instanceMethod yX5_when ∈ wT := wT_in5 (List.mem_of_getElem? (i := 85) rfl) (by decide)
theorem q_3_21 : Cond.selects RX4 yX4_when yX4_when ∈ wT := wT_in3 (List.mem_of_getElem? (i := 21) rfl) (by decide)
theorem q_3_19 : Cond.methodLink RL 77 yX4_when ∈ wT := wT_in3 (List.mem_of_getElem? (i := 19) rfl) (by decide)
theorem q_3_20 : Cond.instanceMethod yX4_when ∈ wT := wT_in3 (List.mem_of_getElem? (i := 20) rfl) (by decide)
theorem q_5_82 : Cond.selects RX5 yX5_gotThen yX5_gotThen ∈ wT := wT_in5 (List.mem_of_getElem? (i := 82) rfl) (by decide)
theorem q_5_80 : Cond.methodLink RL 76 yX5_gotThen ∈ wT := wT_in5 (List.mem_of_getElem? (i := 80) rfl) (by decide)
theorem q_5_81 : Cond.instanceMethod yX5_gotThen ∈ wT := wT_in5 (List.mem_of_getElem? (i := 81) rfl) (by decide)
theorem q_3_17 : Cond.selects RX4 yX4_gotThen yX4_gotThen ∈ wT := wT_in3 (List.mem_of_getElem? (i := 17) rfl) (by decide)
theorem q_3_15 : Cond.methodLink RL 73 yX4_gotThen ∈ wT := wT_in3 (List.mem_of_getElem? (i := 15) rfl) (by decide)
theorem q_3_16 : Cond.instanceMethod yX4_gotThen ∈ wT := wT_in3 (List.mem_of_getElem? (i := 16) rfl) (by decide)
theorem q_5_78 : Cond.selects RX5 yX5_hateThen yX5_hateThen ∈ wT := wT_in5 (List.mem_of_getElem? (i := 78) rfl) (by decide)
theorem q_5_76 : Cond.methodLink RL 72 yX5_hateThen ∈ wT := wT_in5 (List.mem_of_getElem? (i := 76) rfl) (by decide)
theorem q_5_77 : Cond.instanceMethod yX5_hateThen ∈ wT := wT_in5 (List.mem_of_getElem? (i := 77) rfl) (by decide)
theorem q_3_13 : Cond.selects RX4 yX4_hateThen yX4_hateThen ∈ wT := wT_in3 (List.mem_of_getElem? (i := 13) rfl) (by decide)
theorem q_3_11 : Cond.methodLink RL 69 yX4_hateThen ∈ wT := wT_in3 (List.mem_of_getElem? (i := 11) rfl) (by decide)
theorem q_3_12 : Cond.instanceMethod yX4_hateThen ∈ wT := wT_in3 (List.mem_of_getElem? (i := 12) rfl) (by decide)
theorem q_5_63 : Cond.selects RX5 yX5_parcelThen yX5_parcelThen ∈ wT := wT_in5 (List.mem_of_getElem? (i := 63) rfl) (by decide)
theorem q_5_61 : Cond.methodLink RL 68 yX5_parcelThen ∈ wT := wT_in5 (List.mem_of_getElem? (i := 61) rfl) (by decide)
theorem q_5_62 : Cond.instanceMethod yX5_parcelThen ∈ wT := wT_in5 (List.mem_of_getElem? (i := 62) rfl) (by decide)
theorem q_3_239 : Cond.selects RX4 yX4_image yX4_image ∈ wT := wT_in3 (List.mem_of_getElem? (i := 239) rfl) (by decide)
theorem q_3_237 : Cond.methodLink RL 167 yX4_image ∈ wT := wT_in3 (List.mem_of_getElem? (i := 237) rfl) (by decide)
theorem q_3_238 : Cond.instanceMethod yX4_image ∈ wT := wT_in3 (List.mem_of_getElem? (i := 238) rfl) (by decide)
theorem q_6_12 : Cond.selects RX5 yX5_lots yX5_lots ∈ wT := wT_in6 (List.mem_of_getElem? (i := 12) rfl) (by decide)
theorem q_6_10 : Cond.methodLink RL 166 yX5_lots ∈ wT := wT_in6 (List.mem_of_getElem? (i := 10) rfl) (by decide)
theorem q_6_11 : Cond.instanceMethod yX5_lots ∈ wT := wT_in6 (List.mem_of_getElem? (i := 11) rfl) (by decide)
theorem q_3_222 : Cond.selects RX4 yX4_lots yX4_lots ∈ wT := wT_in3 (List.mem_of_getElem? (i := 222) rfl) (by decide)
theorem q_3_220 : Cond.methodLink RL 163 yX4_lots ∈ wT := wT_in3 (List.mem_of_getElem? (i := 220) rfl) (by decide)
theorem q_3_221 : Cond.instanceMethod yX4_lots ∈ wT := wT_in3 (List.mem_of_getElem? (i := 221) rfl) (by decide)
theorem q_6_8 : Cond.selects RX5 yX5_clear yX5_clear ∈ wT := wT_in6 (List.mem_of_getElem? (i := 8) rfl) (by decide)
theorem q_6_6 : Cond.methodLink RL 162 yX5_clear ∈ wT := wT_in6 (List.mem_of_getElem? (i := 6) rfl) (by decide)
theorem q_6_7 : Cond.instanceMethod yX5_clear ∈ wT := wT_in6 (List.mem_of_getElem? (i := 7) rfl) (by decide)
theorem q_3_218 : Cond.selects RX4 yX4_clear yX4_clear ∈ wT := wT_in3 (List.mem_of_getElem? (i := 218) rfl) (by decide)
theorem q_3_216 : Cond.methodLink RL 159 yX4_clear ∈ wT := wT_in3 (List.mem_of_getElem? (i := 216) rfl) (by decide)
theorem q_3_217 : Cond.instanceMethod yX4_clear ∈ wT := wT_in3 (List.mem_of_getElem? (i := 217) rfl) (by decide)
theorem q_6_4 : Cond.selects RX5 yX5_judge yX5_judge ∈ wT := wT_in6 (List.mem_of_getElem? (i := 4) rfl) (by decide)
theorem q_6_2 : Cond.methodLink RL 158 yX5_judge ∈ wT := wT_in6 (List.mem_of_getElem? (i := 2) rfl) (by decide)
theorem q_6_3 : Cond.instanceMethod yX5_judge ∈ wT := wT_in6 (List.mem_of_getElem? (i := 3) rfl) (by decide)
theorem q_3_212 : Cond.selects RX4 yX4_judge yX4_judge ∈ wT := wT_in3 (List.mem_of_getElem? (i := 212) rfl) (by decide)
theorem q_3_210 : Cond.methodLink RL 155 yX4_judge ∈ wT := wT_in3 (List.mem_of_getElem? (i := 210) rfl) (by decide)
theorem q_3_211 : Cond.instanceMethod yX4_judge ∈ wT := wT_in3 (List.mem_of_getElem? (i := 211) rfl) (by decide)
theorem q_6_0 : Cond.selects RX5 yX5_row yX5_row ∈ wT := wT_in6 (List.mem_of_getElem? (i := 0) rfl) (by decide)
theorem q_5_238 : Cond.methodLink RL 154 yX5_row ∈ wT := wT_in5 (List.mem_of_getElem? (i := 238) rfl) (by decide)
theorem q_5_239 : Cond.instanceMethod yX5_row ∈ wT := wT_in5 (List.mem_of_getElem? (i := 239) rfl) (by decide)
theorem q_3_204 : Cond.selects RX4 yX4_row yX4_row ∈ wT := wT_in3 (List.mem_of_getElem? (i := 204) rfl) (by decide)
theorem q_3_202 : Cond.methodLink RL 151 yX4_row ∈ wT := wT_in3 (List.mem_of_getElem? (i := 202) rfl) (by decide)
theorem q_3_203 : Cond.instanceMethod yX4_row ∈ wT := wT_in3 (List.mem_of_getElem? (i := 203) rfl) (by decide)
theorem q_5_228 : Cond.selects RX5 yX5_who yX5_who ∈ wT := wT_in5 (List.mem_of_getElem? (i := 228) rfl) (by decide)
theorem q_5_226 : Cond.methodLink RL 150 yX5_who ∈ wT := wT_in5 (List.mem_of_getElem? (i := 226) rfl) (by decide)
theorem q_5_227 : Cond.instanceMethod yX5_who ∈ wT := wT_in5 (List.mem_of_getElem? (i := 227) rfl) (by decide)
theorem q_3_183 : Cond.selects RX4 yX4_who yX4_who ∈ wT := wT_in3 (List.mem_of_getElem? (i := 183) rfl) (by decide)
theorem q_3_181 : Cond.methodLink RL 147 yX4_who ∈ wT := wT_in3 (List.mem_of_getElem? (i := 181) rfl) (by decide)
theorem q_3_182 : Cond.instanceMethod yX4_who ∈ wT := wT_in3 (List.mem_of_getElem? (i := 182) rfl) (by decide)
theorem q_5_220 : Cond.selects RX5 yX5_mean yX5_mean ∈ wT := wT_in5 (List.mem_of_getElem? (i := 220) rfl) (by decide)
theorem q_5_218 : Cond.methodLink RL 146 yX5_mean ∈ wT := wT_in5 (List.mem_of_getElem? (i := 218) rfl) (by decide)
theorem q_5_219 : Cond.instanceMethod yX5_mean ∈ wT := wT_in5 (List.mem_of_getElem? (i := 219) rfl) (by decide)
theorem q_3_175 : Cond.selects RX4 yX4_mean yX4_mean ∈ wT := wT_in3 (List.mem_of_getElem? (i := 175) rfl) (by decide)
theorem q_3_173 : Cond.methodLink RL 142 yX4_mean ∈ wT := wT_in3 (List.mem_of_getElem? (i := 173) rfl) (by decide)
theorem q_3_174 : Cond.instanceMethod yX4_mean ∈ wT := wT_in3 (List.mem_of_getElem? (i := 174) rfl) (by decide)
theorem q_5_205 : Cond.selects RX5 yX5_snow yX5_snow ∈ wT := wT_in5 (List.mem_of_getElem? (i := 205) rfl) (by decide)
theorem q_5_203 : Cond.methodLink RL 141 yX5_snow ∈ wT := wT_in5 (List.mem_of_getElem? (i := 203) rfl) (by decide)
theorem q_5_204 : Cond.instanceMethod yX5_snow ∈ wT := wT_in5 (List.mem_of_getElem? (i := 204) rfl) (by decide)
theorem q_3_156 : Cond.selects RX4 yX4_snow yX4_snow ∈ wT := wT_in3 (List.mem_of_getElem? (i := 156) rfl) (by decide)
theorem q_3_154 : Cond.methodLink RL 137 yX4_snow ∈ wT := wT_in3 (List.mem_of_getElem? (i := 154) rfl) (by decide)
theorem q_3_155 : Cond.instanceMethod yX4_snow ∈ wT := wT_in3 (List.mem_of_getElem? (i := 155) rfl) (by decide)
theorem q_5_193 : Cond.selects RX5 yX5_two yX5_two ∈ wT := wT_in5 (List.mem_of_getElem? (i := 193) rfl) (by decide)
theorem q_5_191 : Cond.methodLink RL 136 yX5_two ∈ wT := wT_in5 (List.mem_of_getElem? (i := 191) rfl) (by decide)
theorem q_5_192 : Cond.instanceMethod yX5_two ∈ wT := wT_in5 (List.mem_of_getElem? (i := 192) rfl) (by decide)
theorem q_3_144 : Cond.selects RX4 yX4_two yX4_two ∈ wT := wT_in3 (List.mem_of_getElem? (i := 144) rfl) (by decide)
theorem q_3_142 : Cond.methodLink RL 133 yX4_two ∈ wT := wT_in3 (List.mem_of_getElem? (i := 142) rfl) (by decide)
theorem q_3_143 : Cond.instanceMethod yX4_two ∈ wT := wT_in3 (List.mem_of_getElem? (i := 143) rfl) (by decide)
theorem q_5_181 : Cond.selects RX5 yX5_fair yX5_fair ∈ wT := wT_in5 (List.mem_of_getElem? (i := 181) rfl) (by decide)
theorem q_5_179 : Cond.methodLink RL 132 yX5_fair ∈ wT := wT_in5 (List.mem_of_getElem? (i := 179) rfl) (by decide)
theorem q_5_180 : Cond.instanceMethod yX5_fair ∈ wT := wT_in5 (List.mem_of_getElem? (i := 180) rfl) (by decide)
theorem q_3_132 : Cond.selects RX4 yX4_fair yX4_fair ∈ wT := wT_in3 (List.mem_of_getElem? (i := 132) rfl) (by decide)
theorem q_3_130 : Cond.methodLink RL 129 yX4_fair ∈ wT := wT_in3 (List.mem_of_getElem? (i := 130) rfl) (by decide)
theorem q_3_131 : Cond.instanceMethod yX4_fair ∈ wT := wT_in3 (List.mem_of_getElem? (i := 131) rfl) (by decide)
theorem q_5_177 : Cond.selects RX5 yX5_farthest yX5_farthest ∈ wT := wT_in5 (List.mem_of_getElem? (i := 177) rfl) (by decide)
theorem q_5_175 : Cond.methodLink RL 128 yX5_farthest ∈ wT := wT_in5 (List.mem_of_getElem? (i := 175) rfl) (by decide)
theorem q_5_176 : Cond.instanceMethod yX5_farthest ∈ wT := wT_in5 (List.mem_of_getElem? (i := 176) rfl) (by decide)
theorem q_3_128 : Cond.selects RX4 yX4_farthest yX4_farthest ∈ wT := wT_in3 (List.mem_of_getElem? (i := 128) rfl) (by decide)
theorem q_3_126 : Cond.methodLink RL 125 yX4_farthest ∈ wT := wT_in3 (List.mem_of_getElem? (i := 126) rfl) (by decide)
theorem q_3_127 : Cond.instanceMethod yX4_farthest ∈ wT := wT_in3 (List.mem_of_getElem? (i := 127) rfl) (by decide)
theorem q_5_173 : Cond.selects RX5 yX5_road yX5_road ∈ wT := wT_in5 (List.mem_of_getElem? (i := 173) rfl) (by decide)
theorem q_5_171 : Cond.methodLink RL 124 yX5_road ∈ wT := wT_in5 (List.mem_of_getElem? (i := 171) rfl) (by decide)
theorem q_5_172 : Cond.instanceMethod yX5_road ∈ wT := wT_in5 (List.mem_of_getElem? (i := 172) rfl) (by decide)
theorem q_3_123 : Cond.selects RX4 yX4_road yX4_road ∈ wT := wT_in3 (List.mem_of_getElem? (i := 123) rfl) (by decide)
theorem q_3_121 : Cond.methodLink RL 121 yX4_road ∈ wT := wT_in3 (List.mem_of_getElem? (i := 121) rfl) (by decide)
theorem q_3_122 : Cond.instanceMethod yX4_road ∈ wT := wT_in3 (List.mem_of_getElem? (i := 122) rfl) (by decide)
theorem q_5_165 : Cond.selects RX5 yX5_post yX5_post ∈ wT := wT_in5 (List.mem_of_getElem? (i := 165) rfl) (by decide)
theorem q_5_163 : Cond.methodLink RL 120 yX5_post ∈ wT := wT_in5 (List.mem_of_getElem? (i := 163) rfl) (by decide)
theorem q_5_164 : Cond.instanceMethod yX5_post ∈ wT := wT_in5 (List.mem_of_getElem? (i := 164) rfl) (by decide)
theorem q_3_113 : Cond.selects RX4 yX4_post yX4_post ∈ wT := wT_in3 (List.mem_of_getElem? (i := 113) rfl) (by decide)
theorem q_3_111 : Cond.methodLink RL 117 yX4_post ∈ wT := wT_in3 (List.mem_of_getElem? (i := 111) rfl) (by decide)
theorem q_3_112 : Cond.instanceMethod yX4_post ∈ wT := wT_in3 (List.mem_of_getElem? (i := 112) rfl) (by decide)
theorem q_6_19 : Cond.selects RX5 yX5_count yX5_count ∈ wT := wT_in6 (List.mem_of_getElem? (i := 19) rfl) (by decide)
theorem q_6_17 : Cond.methodLink RL 178 yX5_count ∈ wT := wT_in6 (List.mem_of_getElem? (i := 17) rfl) (by decide)
theorem q_6_18 : Cond.instanceMethod yX5_count ∈ wT := wT_in6 (List.mem_of_getElem? (i := 18) rfl) (by decide)
theorem q_4_7 : Cond.selects RX4 yX4_count yX4_count ∈ wT := wT_in4 (List.mem_of_getElem? (i := 7) rfl) (by decide)
theorem q_4_5 : Cond.methodLink RL 175 yX4_count ∈ wT := wT_in4 (List.mem_of_getElem? (i := 5) rfl) (by decide)
theorem q_4_6 : Cond.instanceMethod yX4_count ∈ wT := wT_in4 (List.mem_of_getElem? (i := 6) rfl) (by decide)
theorem q_5_8 : Cond.selects RX5 yX5_on yX5_on ∈ wT := wT_in5 (List.mem_of_getElem? (i := 8) rfl) (by decide)
theorem q_5_6 : Cond.methodLink RL 174 yX5_on ∈ wT := wT_in5 (List.mem_of_getElem? (i := 6) rfl) (by decide)
theorem q_5_7 : Cond.instanceMethod yX5_on ∈ wT := wT_in5 (List.mem_of_getElem? (i := 7) rfl) (by decide)
theorem q_4_3 : Cond.selects RX4 yX4_on yX4_on ∈ wT := wT_in4 (List.mem_of_getElem? (i := 3) rfl) (by decide)
theorem q_4_1 : Cond.methodLink RL 171 yX4_on ∈ wT := wT_in4 (List.mem_of_getElem? (i := 1) rfl) (by decide)
theorem q_4_2 : Cond.instanceMethod yX4_on ∈ wT := wT_in4 (List.mem_of_getElem? (i := 2) rfl) (by decide)
theorem q_5_4 : Cond.selects RX5 yX5_image yX5_image ∈ wT := wT_in5 (List.mem_of_getElem? (i := 4) rfl) (by decide)
theorem q_5_2 : Cond.methodLink RL 170 yX5_image ∈ wT := wT_in5 (List.mem_of_getElem? (i := 2) rfl) (by decide)
theorem q_5_3 : Cond.instanceMethod yX5_image ∈ wT := wT_in5 (List.mem_of_getElem? (i := 3) rfl) (by decide)
theorem q_1_9 : Cond.initialized RJ3 ∈ wT := wT_in1 (List.mem_of_getElem? (i := 9) rfl) (by decide)
theorem q_1_213 : Cond.methodLink RJ0 1059 yJ3_checkIndex_8e157 ∈ wT := wT_in1 (List.mem_of_getElem? (i := 213) rfl) (by decide)
theorem q_1_214 : Cond.static yJ3_checkIndex_8e157 ∈ wT := wT_in1 (List.mem_of_getElem? (i := 214) rfl) (by decide)
theorem q_1_8 : Cond.initialized RJ1 ∈ wT := wT_in1 (List.mem_of_getElem? (i := 8) rfl) (by decide)
theorem q_2_8 : Cond.methodLink RJ0 637 yJ1_indexOf_4cfef ∈ wT := wT_in2 (List.mem_of_getElem? (i := 8) rfl) (by decide)
theorem q_2_9 : Cond.static yJ1_indexOf_4cfef ∈ wT := wT_in2 (List.mem_of_getElem? (i := 9) rfl) (by decide)
theorem q_2_5 : Cond.selects RJ0 yJ0_indexOf_7cf53 yJ0_indexOf_7cf53 ∈ wT := wT_in2 (List.mem_of_getElem? (i := 5) rfl) (by decide)
theorem q_2_3 : Cond.methodLink RJ0 633 yJ0_indexOf_7cf53 ∈ wT := wT_in2 (List.mem_of_getElem? (i := 3) rfl) (by decide)
theorem q_2_4 : Cond.instanceMethod yJ0_indexOf_7cf53 ∈ wT := wT_in2 (List.mem_of_getElem? (i := 4) rfl) (by decide)
theorem q_2_7 : Cond.methodLink RJ0 505 yJ0_length_8abf5 ∈ wT := wT_in2 (List.mem_of_getElem? (i := 7) rfl) (by decide)
theorem q_1_205 : Cond.methodLink RJ0 495 yJ1_charAt_3b067 ∈ wT := wT_in1 (List.mem_of_getElem? (i := 205) rfl) (by decide)
theorem q_1_206 : Cond.static yJ1_charAt_3b067 ∈ wT := wT_in1 (List.mem_of_getElem? (i := 206) rfl) (by decide)
theorem q_1_203 : Cond.selects RJ0 yJ0_isLatin1_aae02 yJ0_isLatin1_aae02 ∈ wT := wT_in1 (List.mem_of_getElem? (i := 203) rfl) (by decide)
theorem q_1_201 : Cond.methodLink RJ0 492 yJ0_isLatin1_aae02 ∈ wT := wT_in1 (List.mem_of_getElem? (i := 201) rfl) (by decide)
theorem q_1_202 : Cond.instanceMethod yJ0_isLatin1_aae02 ∈ wT := wT_in1 (List.mem_of_getElem? (i := 202) rfl) (by decide)
theorem q_1_193 : Cond.selects RJ0 yJ0_coder_7d493 yJ0_coder_7d493 ∈ wT := wT_in1 (List.mem_of_getElem? (i := 193) rfl) (by decide)
theorem q_1_191 : Cond.methodLink RJ0 335 yJ0_coder_7d493 ∈ wT := wT_in1 (List.mem_of_getElem? (i := 191) rfl) (by decide)
theorem q_1_192 : Cond.instanceMethod yJ0_coder_7d493 ∈ wT := wT_in1 (List.mem_of_getElem? (i := 192) rfl) (by decide)
theorem q_2_20 : Cond.methodLink RJ1 95 yJ1_indexOfChar_4cfef ∈ wT := wT_in2 (List.mem_of_getElem? (i := 20) rfl) (by decide)
theorem q_2_21 : Cond.static yJ1_indexOfChar_4cfef ∈ wT := wT_in2 (List.mem_of_getElem? (i := 21) rfl) (by decide)
theorem q_2_11 : Cond.methodLink RJ1 88 yJ1_canEncode_9a6ad ∈ wT := wT_in2 (List.mem_of_getElem? (i := 11) rfl) (by decide)
theorem q_2_12 : Cond.static yJ1_canEncode_9a6ad ∈ wT := wT_in2 (List.mem_of_getElem? (i := 12) rfl) (by decide)
theorem q_1_208 : Cond.methodLink RJ1 9 yJ0_checkIndex_df160 ∈ wT := wT_in1 (List.mem_of_getElem? (i := 208) rfl) (by decide)
theorem q_1_209 : Cond.static yJ0_checkIndex_df160 ∈ wT := wT_in1 (List.mem_of_getElem? (i := 209) rfl) (by decide)
theorem q_3_232 : Cond.constant RX3 122 (Int32.ofInt 1664525) ∈ wT := wT_in3 (List.mem_of_getElem? (i := 232) rfl) (by decide)
theorem q_3_233 : Cond.constant RX3 123 (Int32.ofInt 1013904223) ∈ wT := wT_in3 (List.mem_of_getElem? (i := 233) rfl) (by decide)
theorem q_3_234 : Cond.constant RX3 124 (Int32.ofInt 2147483647) ∈ wT := wT_in3 (List.mem_of_getElem? (i := 234) rfl) (by decide)
theorem q_6_14 : Cond.constant RX5 300 (Int32.ofInt 1664525) ∈ wT := wT_in6 (List.mem_of_getElem? (i := 14) rfl) (by decide)
theorem q_6_15 : Cond.constant RX5 301 (Int32.ofInt 1013904223) ∈ wT := wT_in6 (List.mem_of_getElem? (i := 15) rfl) (by decide)
theorem q_6_16 : Cond.constant RX5 302 (Int32.ofInt 2147483647) ∈ wT := wT_in6 (List.mem_of_getElem? (i := 16) rfl) (by decide)
theorem q_3_162 : Cond.constantLong RX4 239 (Int64.ofInt 4000000000000000000) ∈ wT := wT_in3 (List.mem_of_getElem? (i := 162) rfl) (by decide)
theorem q_5_211 : Cond.constantLong RX5 68 (Int64.ofInt 4000000000000000000) ∈ wT := wT_in5 (List.mem_of_getElem? (i := 211) rfl) (by decide)
theorem q_2_67 : Cond.methodLink RX0 52 arraycopyName ∈ wT := wT_in2 (List.mem_of_getElem? (i := 67) rfl) (by decide)
theorem q_2_69 : Cond.native arraycopyName ∈ wT := wT_in2 (List.mem_of_getElem? (i := 69) rfl) (by decide)
theorem q_2_68 : Cond.static arraycopyName ∈ wT := wT_in2 (List.mem_of_getElem? (i := 68) rfl) (by decide)
theorem q_1_13 : Cond.initialized "java/lang/System" ∈ wT := wT_in1 (List.mem_of_getElem? (i := 13) rfl) (by decide)
theorem q_2_15 : Cond.static Lib.Math.max.name ∈ wT := wT_in2 (List.mem_of_getElem? (i := 15) rfl) (by decide)
theorem q_1_11 : Cond.initialized "java/lang/Math" ∈ wT := wT_in1 (List.mem_of_getElem? (i := 11) rfl) (by decide)
theorem q_2_16 : Cond.code Lib.Math.max.name Lib.Math.max.code 2 (some .int) ∈ wT := wT_in2 (List.mem_of_getElem? (i := 16) rfl) (by decide)
theorem q_2_95 : Cond.methodLink RX0 82 Lib.Math.max.name ∈ wT := wT_in2 (List.mem_of_getElem? (i := 95) rfl) (by decide)
theorem q_2_58 : Cond.methodLink RX2 60 Lib.Math.max.name ∈ wT := wT_in2 (List.mem_of_getElem? (i := 58) rfl) (by decide)
theorem q_3_101 : Cond.methodLink RX3 73 Lib.Math.max.name ∈ wT := wT_in3 (List.mem_of_getElem? (i := 101) rfl) (by decide)
theorem q_2_171 : Cond.methodLink RX4 75 Lib.Math.max.name ∈ wT := wT_in2 (List.mem_of_getElem? (i := 171) rfl) (by decide)
theorem q_2_14 : Cond.methodLink RJ1 92 Lib.Math.max.name ∈ wT := wT_in2 (List.mem_of_getElem? (i := 14) rfl) (by decide)
theorem q_2_18 : Cond.static Lib.Math.min.name ∈ wT := wT_in2 (List.mem_of_getElem? (i := 18) rfl) (by decide)
theorem q_2_19 : Cond.code Lib.Math.min.name Lib.Math.min.code 2 (some .int) ∈ wT := wT_in2 (List.mem_of_getElem? (i := 19) rfl) (by decide)
theorem q_2_86 : Cond.methodLink RX0 76 Lib.Math.min.name ∈ wT := wT_in2 (List.mem_of_getElem? (i := 86) rfl) (by decide)
theorem q_2_17 : Cond.methodLink RJ1 38 Lib.Math.min.name ∈ wT := wT_in2 (List.mem_of_getElem? (i := 17) rfl) (by decide)
theorem q_2_117 : Cond.static Lib.Math.abs.name ∈ wT := wT_in2 (List.mem_of_getElem? (i := 117) rfl) (by decide)
theorem q_2_118 : Cond.code Lib.Math.abs.name Lib.Math.abs.code 1 (some .int) ∈ wT := wT_in2 (List.mem_of_getElem? (i := 118) rfl) (by decide)
theorem q_2_116 : Cond.methodLink RX0 92 Lib.Math.abs.name ∈ wT := wT_in2 (List.mem_of_getElem? (i := 116) rfl) (by decide)
theorem q_6_21 : Cond.fieldLink RJ0 9 "java/lang/String" "value" "[B" ∈ wT := wT_in6 (List.mem_of_getElem? (i := 21) rfl) (by decide)
theorem q_6_22 : Cond.fieldLink RJ0 15 "java/lang/String" "coder" "B" ∈ wT := wT_in6 (List.mem_of_getElem? (i := 22) rfl) (by decide)
theorem q_1_195 : Cond.fieldLink RJ0 38 "java/lang/String" "COMPACT_STRINGS" "Z" ∈ wT := wT_in1 (List.mem_of_getElem? (i := 195) rfl) (by decide)
theorem q_1_211 : Cond.fieldLink RJ0 1053 "jdk/internal/util/Preconditions" "SIOOBE_FORMATTER" "Ljava/util/function/BiFunction;" ∈ wT := wT_in1 (List.mem_of_getElem? (i := 211) rfl) (by decide)
set_option maxRecDepth 20000 in
theorem iT_X0 : ∀ w ∈ u_ws RX0 TX0 13, w ∈ wT := fun w h => List.mem_filter.mpr ⟨(by decide +kernel : ∀ w ∈ u_ws RX0 TX0 13, w ∈ lw_tbl) w h, (by decide +kernel : ∀ w ∈ u_ws RX0 TX0 13, goodWord w = true) w h⟩
set_option maxRecDepth 20000 in
theorem iT_X1 : ∀ w ∈ u_ws RX1 TX1 2, w ∈ wT := fun w h => List.mem_filter.mpr ⟨(by decide +kernel : ∀ w ∈ u_ws RX1 TX1 2, w ∈ lw_tbl) w h, (by decide +kernel : ∀ w ∈ u_ws RX1 TX1 2, goodWord w = true) w h⟩
set_option maxRecDepth 20000 in
theorem iT_X2 : ∀ w ∈ u_ws RX2 TX2 2, w ∈ wT := fun w h => List.mem_filter.mpr ⟨(by decide +kernel : ∀ w ∈ u_ws RX2 TX2 2, w ∈ lw_tbl) w h, (by decide +kernel : ∀ w ∈ u_ws RX2 TX2 2, goodWord w = true) w h⟩
set_option maxRecDepth 20000 in
theorem iT_X3 : ∀ w ∈ u_ws RX3 TX3 4, w ∈ wT := fun w h => List.mem_filter.mpr ⟨(by decide +kernel : ∀ w ∈ u_ws RX3 TX3 4, w ∈ lw_tbl) w h, (by decide +kernel : ∀ w ∈ u_ws RX3 TX3 4, goodWord w = true) w h⟩
set_option maxRecDepth 20000 in
theorem iT_X4 : ∀ w ∈ u_ws RX4 TX4 7, w ∈ wT := fun w h => List.mem_filter.mpr ⟨(by decide +kernel : ∀ w ∈ u_ws RX4 TX4 7, w ∈ lw_tbl) w h, (by decide +kernel : ∀ w ∈ u_ws RX4 TX4 7, goodWord w = true) w h⟩
set_option maxRecDepth 20000 in
theorem iT_X5 : ∀ w ∈ u_ws RX5 TX5 28, w ∈ wT := fun w h => List.mem_filter.mpr ⟨(by decide +kernel : ∀ w ∈ u_ws RX5 TX5 28, w ∈ lw_tbl) w h, (by decide +kernel : ∀ w ∈ u_ws RX5 TX5 28, goodWord w = true) w h⟩
theorem o_X4_letter : okMI m_X4_letter := ⟨by decide +kernel, q_1_156, by decide +kernel, rfl⟩
theorem o_X4_refuse : okMI m_X4_refuse := ⟨by decide +kernel, q_1_160, by decide +kernel, rfl⟩
theorem o_X2_add : okMI m_X2_add := ⟨by decide +kernel, q_1_164, by decide +kernel, rfl⟩
theorem o_X4_duchy : okMI m_X4_duchy := ⟨by decide +kernel, q_1_168, by decide +kernel, rfl⟩
theorem o_X2_firstMisfit : okMI m_X2_firstMisfit := ⟨by decide +kernel, q_1_172, by decide +kernel, rfl⟩
theorem o_X2_letterAt : okMI m_X2_letterAt := ⟨by decide +kernel, q_1_176, by decide +kernel, rfl⟩
theorem o_X2_formOf : okMI m_X2_formOf := ⟨by decide +kernel, q_1_179, by decide +kernel, rfl⟩
theorem o_J0_length_8abf5 : okMI m_J0_length_8abf5 := ⟨by decide +kernel, q_1_190, by decide +kernel, rfl⟩
theorem o_J0_coder_7d493 : okMI m_J0_coder_7d493 := ⟨by decide +kernel, q_1_194, by decide +kernel, rfl⟩
theorem o_J0_charAt_5068e : okMI m_J0_charAt_5068e := ⟨by decide +kernel, q_1_200, by decide +kernel, rfl⟩
theorem o_J0_isLatin1_aae02 : okMI m_J0_isLatin1_aae02 := ⟨by decide +kernel, q_1_204, by decide +kernel, rfl⟩
theorem o_J1_charAt_3b067 : okMI m_J1_charAt_3b067 := ⟨by decide +kernel, q_1_207, by decide +kernel, rfl⟩
theorem o_J0_checkIndex_df160 : okMI m_J0_checkIndex_df160 := ⟨by decide +kernel, q_1_210, by decide +kernel, rfl⟩
theorem o_J3_checkIndex_8e157 : okMI m_J3_checkIndex_8e157 := ⟨by decide +kernel, q_1_215, by decide +kernel, rfl⟩
theorem o_X2_fits : okMI m_X2_fits := ⟨by decide +kernel, q_1_237, by decide +kernel, rfl⟩
theorem o_J0_indexOf_0f7a4 : okMI m_J0_indexOf_0f7a4 := ⟨by decide +kernel, q_2_2, by decide +kernel, rfl⟩
theorem o_J0_indexOf_7cf53 : okMI m_J0_indexOf_7cf53 := ⟨by decide +kernel, q_2_6, by decide +kernel, rfl⟩
theorem o_J1_indexOf_4cfef : okMI m_J1_indexOf_4cfef := ⟨by decide +kernel, q_2_10, by decide +kernel, rfl⟩
theorem o_J1_canEncode_9a6ad : okMI m_J1_canEncode_9a6ad := ⟨by decide +kernel, q_2_13, by decide +kernel, rfl⟩
theorem o_J1_indexOfChar_4cfef : okMI m_J1_indexOfChar_4cfef := ⟨by decide +kernel, q_2_22, by decide +kernel, rfl⟩
theorem o_X3_behind : okMI m_X3_behind := ⟨by decide +kernel, q_2_62, by decide +kernel, rfl⟩
theorem o_X0_become : okMI m_X0_become := ⟨by decide +kernel, q_2_66, by decide +kernel, rfl⟩
theorem o_X0_passDays : okMI m_X0_passDays := ⟨by decide +kernel, q_2_73, by decide +kernel, rfl⟩
theorem o_X0_passDay : okMI m_X0_passDay := ⟨by decide +kernel, q_2_77, by decide +kernel, rfl⟩
theorem o_X0_carryOn : okMI m_X0_carryOn := ⟨by decide +kernel, q_2_81, by decide +kernel, rfl⟩
theorem o_X0_hasPerson : okMI m_X0_hasPerson := ⟨by decide +kernel, q_2_85, by decide +kernel, rfl⟩
theorem o_X0_addHate : okMI m_X0_addHate := ⟨by decide +kernel, q_2_90, by decide +kernel, rfl⟩
theorem o_X0_hasPair : okMI m_X0_hasPair := ⟨by decide +kernel, q_2_94, by decide +kernel, rfl⟩
theorem o_X0_giveOut : okMI m_X0_giveOut := ⟨by decide +kernel, q_2_99, by decide +kernel, rfl⟩
theorem o_X0_enemyOf : okMI m_X0_enemyOf := ⟨by decide +kernel, q_2_103, by decide +kernel, rfl⟩
theorem o_X0_maliceOf : okMI m_X0_maliceOf := ⟨by decide +kernel, q_2_107, by decide +kernel, rfl⟩
theorem o_X0_carries : okMI m_X0_carries := ⟨by decide +kernel, q_2_111, by decide +kernel, rfl⟩
theorem o_X0_apart : okMI m_X0_apart := ⟨by decide +kernel, q_2_115, by decide +kernel, rfl⟩
theorem o_X0_milesOf : okMI m_X0_milesOf := ⟨by decide +kernel, q_2_121, by decide +kernel, rfl⟩
theorem o_X0_daysOnRoad : okMI m_X0_daysOnRoad := ⟨by decide +kernel, q_2_124, by decide +kernel, rfl⟩
theorem o_X0_coolDown : okMI m_X0_coolDown := ⟨by decide +kernel, q_2_128, by decide +kernel, rfl⟩
theorem o_X2_tell : okMI m_X2_tell := ⟨by decide +kernel, q_2_132, by decide +kernel, rfl⟩
theorem o_X2_digitAt : okMI m_X2_digitAt := ⟨by decide +kernel, q_2_136, by decide +kernel, rfl⟩
theorem o_X2_numberAt : okMI m_X2_numberAt := ⟨by decide +kernel, q_2_140, by decide +kernel, rfl⟩
theorem o_X0_addPerson : okMI m_X0_addPerson := ⟨by decide +kernel, q_2_144, by decide +kernel, rfl⟩
theorem o_X0_setHate : okMI m_X0_setHate := ⟨by decide +kernel, q_2_148, by decide +kernel, rfl⟩
theorem o_X0_addParcel : okMI m_X0_addParcel := ⟨by decide +kernel, q_2_152, by decide +kernel, rfl⟩
theorem o_X0_makePeace : okMI m_X0_makePeace := ⟨by decide +kernel, q_2_157, by decide +kernel, rfl⟩
theorem o_X0_hateOf : okMI m_X0_hateOf := ⟨by decide +kernel, q_2_161, by decide +kernel, rfl⟩
theorem o_X2_letDaysPass : okMI m_X2_letDaysPass := ⟨by decide +kernel, q_2_165, by decide +kernel, rfl⟩
theorem o_X2_lengthAt : okMI m_X2_lengthAt := ⟨by decide +kernel, q_2_170, by decide +kernel, rfl⟩
theorem o_X4_person : okMI m_X4_person := ⟨by decide +kernel, q_2_177, by decide +kernel, rfl⟩
theorem o_X0_ofPerson : okMI m_X0_ofPerson := ⟨by decide +kernel, q_2_182, by decide +kernel, rfl⟩
theorem o_X4_parcel : okMI m_X4_parcel := ⟨by decide +kernel, q_2_186, by decide +kernel, rfl⟩
theorem o_X0_hasParcel : okMI m_X0_hasParcel := ⟨by decide +kernel, q_2_190, by decide +kernel, rfl⟩
theorem o_X0_ofParcel : okMI m_X0_ofParcel := ⟨by decide +kernel, q_2_194, by decide +kernel, rfl⟩
theorem o_X4_hate : okMI m_X4_hate := ⟨by decide +kernel, q_2_199, by decide +kernel, rfl⟩
theorem o_X4_posts : okMI m_X4_posts := ⟨by decide +kernel, q_2_205, by decide +kernel, rfl⟩
theorem o_X4_hates : okMI m_X4_hates := ⟨by decide +kernel, q_2_210, by decide +kernel, rfl⟩
theorem o_X4_slights : okMI m_X4_slights := ⟨by decide +kernel, q_2_215, by decide +kernel, rfl⟩
theorem o_X4_peace : okMI m_X4_peace := ⟨by decide +kernel, q_2_220, by decide +kernel, rfl⟩
theorem o_X4_moves : okMI m_X4_moves := ⟨by decide +kernel, q_2_225, by decide +kernel, rfl⟩
theorem o_X4_turn : okMI m_X4_turn := ⟨by decide +kernel, q_2_229, by decide +kernel, rfl⟩
theorem o_X4_days : okMI m_X4_days := ⟨by decide +kernel, q_2_233, by decide +kernel, rfl⟩
theorem o_X0_brought : okMI m_X0_brought := ⟨by decide +kernel, q_2_238, by decide +kernel, rfl⟩
theorem o_X4_parcelThen : okMI m_X4_parcelThen := ⟨by decide +kernel, q_3_2, by decide +kernel, rfl⟩
theorem o_X0_stateOf : okMI m_X0_stateOf := ⟨by decide +kernel, q_3_6, by decide +kernel, rfl⟩
theorem o_X0_carrierOf : okMI m_X0_carrierOf := ⟨by decide +kernel, q_3_10, by decide +kernel, rfl⟩
theorem o_X4_hateThen : okMI m_X4_hateThen := ⟨by decide +kernel, q_3_14, by decide +kernel, rfl⟩
theorem o_X4_gotThen : okMI m_X4_gotThen := ⟨by decide +kernel, q_3_18, by decide +kernel, rfl⟩
theorem o_X4_when : okMI m_X4_when := ⟨by decide +kernel, q_3_22, by decide +kernel, rfl⟩
theorem o_X4_daysTillBrought : okMI m_X4_daysTillBrought := ⟨by decide +kernel, q_3_25, by decide +kernel, rfl⟩
theorem o_X4_dayOrNone : okMI m_X4_dayOrNone := ⟨by decide +kernel, q_3_29, by decide +kernel, rfl⟩
theorem o_X4_first : okMI m_X4_first := ⟨by decide +kernel, q_3_33, by decide +kernel, rfl⟩
theorem o_X3_daysTillAll : okMI m_X3_daysTillAll := ⟨by decide +kernel, q_3_37, by decide +kernel, rfl⟩
theorem o_X3_firstBrought : okMI m_X3_firstBrought := ⟨by decide +kernel, q_3_43, by decide +kernel, rfl⟩
theorem o_X4_enemy : okMI m_X4_enemy := ⟨by decide +kernel, q_3_48, by decide +kernel, rfl⟩
theorem o_X4_malice : okMI m_X4_malice := ⟨by decide +kernel, q_3_53, by decide +kernel, rfl⟩
theorem o_X4_loved : okMI m_X4_loved := ⟨by decide +kernel, q_3_58, by decide +kernel, rfl⟩
theorem o_X4_busiest : okMI m_X4_busiest := ⟨by decide +kernel, q_3_62, by decide +kernel, rfl⟩
theorem o_X0_enemyOfHowMany : okMI m_X0_enemyOfHowMany := ⟨by decide +kernel, q_3_66, by decide +kernel, rfl⟩
theorem o_X4_ring : okMI m_X4_ring := ⟨by decide +kernel, q_3_70, by decide +kernel, rfl⟩
theorem o_X4_slight : okMI m_X4_slight := ⟨by decide +kernel, q_3_74, by decide +kernel, rfl⟩
theorem o_X4_notWaiting : okMI m_X4_notWaiting := ⟨by decide +kernel, q_3_78, by decide +kernel, rfl⟩
theorem o_X3_bestSlight : okMI m_X3_bestSlight := ⟨by decide +kernel, q_3_82, by decide +kernel, rfl⟩
theorem o_X0_receiverOf : okMI m_X0_receiverOf := ⟨by decide +kernel, q_3_86, by decide +kernel, rfl⟩
theorem o_X4_cost : okMI m_X4_cost := ⟨by decide +kernel, q_3_92, by decide +kernel, rfl⟩
theorem o_X3_isEnough : okMI m_X3_isEnough := ⟨by decide +kernel, q_3_96, by decide +kernel, rfl⟩
theorem o_X3_slightAll : okMI m_X3_slightAll := ⟨by decide +kernel, q_3_100, by decide +kernel, rfl⟩
theorem o_X4_makeUp : okMI m_X4_makeUp := ⟨by decide +kernel, q_3_105, by decide +kernel, rfl⟩
theorem o_X3_worstPeace : okMI m_X3_worstPeace := ⟨by decide +kernel, q_3_109, by decide +kernel, rfl⟩
theorem o_X4_post : okMI m_X4_post := ⟨by decide +kernel, q_3_114, by decide +kernel, rfl⟩
theorem o_X3_bestPosting : okMI m_X3_bestPosting := ⟨by decide +kernel, q_3_118, by decide +kernel, rfl⟩
theorem o_X4_road : okMI m_X4_road := ⟨by decide +kernel, q_3_124, by decide +kernel, rfl⟩
theorem o_X4_farthest : okMI m_X4_farthest := ⟨by decide +kernel, q_3_129, by decide +kernel, rfl⟩
theorem o_X4_fair : okMI m_X4_fair := ⟨by decide +kernel, q_3_133, by decide +kernel, rfl⟩
theorem o_X0_mutualEnemies : okMI m_X0_mutualEnemies := ⟨by decide +kernel, q_3_137, by decide +kernel, rfl⟩
theorem o_X0_maliceOfAll : okMI m_X0_maliceOfAll := ⟨by decide +kernel, q_3_141, by decide +kernel, rfl⟩
theorem o_X4_two : okMI m_X4_two := ⟨by decide +kernel, q_3_145, by decide +kernel, rfl⟩
theorem o_X3_court : okMI m_X3_court := ⟨by decide +kernel, q_3_149, by decide +kernel, rfl⟩
theorem o_X3_broughtTo : okMI m_X3_broughtTo := ⟨by decide +kernel, q_3_153, by decide +kernel, rfl⟩
theorem o_X4_snow : okMI m_X4_snow := ⟨by decide +kernel, q_3_157, by decide +kernel, rfl⟩
theorem o_X4_refuseLong : okMI m_X4_refuseLong := ⟨by decide +kernel, q_3_161, by decide +kernel, rfl⟩
theorem o_X3_broughtOfAll : okMI m_X3_broughtOfAll := ⟨by decide +kernel, q_3_166, by decide +kernel, rfl⟩
theorem o_X4_partOf : okMI m_X4_partOf := ⟨by decide +kernel, q_3_169, by decide +kernel, rfl⟩
theorem o_X4_greatestDivisor : okMI m_X4_greatestDivisor := ⟨by decide +kernel, q_3_172, by decide +kernel, rfl⟩
theorem o_X4_mean : okMI m_X4_mean := ⟨by decide +kernel, q_3_176, by decide +kernel, rfl⟩
theorem o_X0_hatesTogether : okMI m_X0_hatesTogether := ⟨by decide +kernel, q_3_180, by decide +kernel, rfl⟩
theorem o_X4_who : okMI m_X4_who := ⟨by decide +kernel, q_3_184, by decide +kernel, rfl⟩
theorem o_X3_fitting : okMI m_X3_fitting := ⟨by decide +kernel, q_3_188, by decide +kernel, rfl⟩
theorem o_X3_goesAsTold : okMI m_X3_goesAsTold := ⟨by decide +kernel, q_3_193, by decide +kernel, rfl⟩
theorem o_X1_at : okMI m_X1_at := ⟨by decide +kernel, q_3_197, by decide +kernel, rfl⟩
theorem o_X4_asTold : okMI m_X4_asTold := ⟨by decide +kernel, q_3_201, by decide +kernel, rfl⟩
theorem o_X4_row : okMI m_X4_row := ⟨by decide +kernel, q_3_205, by decide +kernel, rfl⟩
theorem o_X1_add : okMI m_X1_add := ⟨by decide +kernel, q_3_209, by decide +kernel, rfl⟩
theorem o_X4_judge : okMI m_X4_judge := ⟨by decide +kernel, q_3_213, by decide +kernel, rfl⟩
theorem o_X4_clear : okMI m_X4_clear := ⟨by decide +kernel, q_3_219, by decide +kernel, rfl⟩
theorem o_X4_lots : okMI m_X4_lots := ⟨by decide +kernel, q_3_223, by decide +kernel, rfl⟩
theorem o_X3_ofDrawnDuchies : okMI m_X3_ofDrawnDuchies := ⟨by decide +kernel, q_3_227, by decide +kernel, rfl⟩
theorem o_X3_drawHates : okMI m_X3_drawHates := ⟨by decide +kernel, q_3_231, by decide +kernel, rfl⟩
theorem o_X4_image : okMI m_X4_image := ⟨by decide +kernel, q_4_0, by decide +kernel, rfl⟩
theorem o_X4_on : okMI m_X4_on := ⟨by decide +kernel, q_4_4, by decide +kernel, rfl⟩
theorem o_X4_count : okMI m_X4_count := ⟨by decide +kernel, q_4_8, by decide +kernel, rfl⟩
theorem o_X0_parcelsThat : okMI m_X0_parcelsThat := ⟨by decide +kernel, q_4_12, by decide +kernel, rfl⟩
theorem o_X5_letter : okMI m_X5_letter := ⟨by decide +kernel, q_4_107, by decide +kernel, rfl⟩
theorem o_X5_bound : okMI m_X5_bound := ⟨by decide +kernel, q_4_110, by decide +kernel, rfl⟩
theorem o_X5_no : okMI m_X5_no := ⟨by decide +kernel, q_4_114, by decide +kernel, rfl⟩
theorem o_X5_duchy : okMI m_X5_duchy := ⟨by decide +kernel, q_4_118, by decide +kernel, rfl⟩
theorem o_X5_statement : okMI m_X5_statement := ⟨by decide +kernel, q_4_122, by decide +kernel, rfl⟩
theorem o_X5_next : okMI m_X5_next := ⟨by decide +kernel, q_4_126, by decide +kernel, rfl⟩
theorem o_X5_readsAll : okMI m_X5_readsAll := ⟨by decide +kernel, q_4_130, by decide +kernel, rfl⟩
theorem o_X5_readsOne : okMI m_X5_readsOne := ⟨by decide +kernel, q_4_134, by decide +kernel, rfl⟩
theorem o_X5_kindOf : okMI m_X5_kindOf := ⟨by decide +kernel, q_4_137, by decide +kernel, rfl⟩
theorem o_X5_readsDigits : okMI m_X5_readsDigits := ⟨by decide +kernel, q_4_141, by decide +kernel, rfl⟩
theorem o_X5_isIn : okMI m_X5_isIn := ⟨by decide +kernel, q_4_144, by decide +kernel, rfl⟩
theorem o_X5_passesAll : okMI m_X5_passesAll := ⟨by decide +kernel, q_4_148, by decide +kernel, rfl⟩
theorem o_X5_passes : okMI m_X5_passes := ⟨by decide +kernel, q_4_152, by decide +kernel, rfl⟩
theorem o_X5_passOne : okMI m_X5_passOne := ⟨by decide +kernel, q_4_156, by decide +kernel, rfl⟩
theorem o_X5_comes : okMI m_X5_comes := ⟨by decide +kernel, q_4_160, by decide +kernel, rfl⟩
theorem o_X5_comesOne : okMI m_X5_comesOne := ⟨by decide +kernel, q_4_164, by decide +kernel, rfl⟩
theorem o_X5_spot : okMI m_X5_spot := ⟨by decide +kernel, q_4_167, by decide +kernel, rfl⟩
theorem o_X5_comesParcel : okMI m_X5_comesParcel := ⟨by decide +kernel, q_4_171, by decide +kernel, rfl⟩
theorem o_X5_isOne : okMI m_X5_isOne := ⟨by decide +kernel, q_4_175, by decide +kernel, rfl⟩
theorem o_X5_adds : okMI m_X5_adds := ⟨by decide +kernel, q_4_179, by decide +kernel, rfl⟩
theorem o_X5_comesDays : okMI m_X5_comesDays := ⟨by decide +kernel, q_4_183, by decide +kernel, rfl⟩
theorem o_X5_goes : okMI m_X5_goes := ⟨by decide +kernel, q_4_187, by decide +kernel, rfl⟩
theorem o_X5_goesDay : okMI m_X5_goesDay := ⟨by decide +kernel, q_4_191, by decide +kernel, rfl⟩
theorem o_X5_comesNearer : okMI m_X5_comesNearer := ⟨by decide +kernel, q_4_195, by decide +kernel, rfl⟩
theorem o_X5_held : okMI m_X5_held := ⟨by decide +kernel, q_4_198, by decide +kernel, rfl⟩
theorem o_X5_isTaken : okMI m_X5_isTaken := ⟨by decide +kernel, q_4_202, by decide +kernel, rfl⟩
theorem o_X5_enemyOf : okMI m_X5_enemyOf := ⟨by decide +kernel, q_4_206, by decide +kernel, rfl⟩
theorem o_X5_enemyBut : okMI m_X5_enemyBut := ⟨by decide +kernel, q_4_210, by decide +kernel, rfl⟩
theorem o_X5_maliceOf : okMI m_X5_maliceOf := ⟨by decide +kernel, q_4_214, by decide +kernel, rfl⟩
theorem o_X5_apart : okMI m_X5_apart := ⟨by decide +kernel, q_4_217, by decide +kernel, rfl⟩
theorem o_X5_isCarrying : okMI m_X5_isCarrying := ⟨by decide +kernel, q_4_221, by decide +kernel, rfl⟩
theorem o_X5_milesOf : okMI m_X5_milesOf := ⟨by decide +kernel, q_4_225, by decide +kernel, rfl⟩
theorem o_X5_comesTwo : okMI m_X5_comesTwo := ⟨by decide +kernel, q_4_229, by decide +kernel, rfl⟩
theorem o_X5_areTwo : okMI m_X5_areTwo := ⟨by decide +kernel, q_4_233, by decide +kernel, rfl⟩
theorem o_X5_slighted : okMI m_X5_slighted := ⟨by decide +kernel, q_4_237, by decide +kernel, rfl⟩
theorem o_X5_madeUp : okMI m_X5_madeUp := ⟨by decide +kernel, q_5_1, by decide +kernel, rfl⟩
theorem o_X5_image : okMI m_X5_image := ⟨by decide +kernel, q_5_5, by decide +kernel, rfl⟩
theorem o_X5_on : okMI m_X5_on := ⟨by decide +kernel, q_5_9, by decide +kernel, rfl⟩
theorem o_X5_person : okMI m_X5_person := ⟨by decide +kernel, q_5_13, by decide +kernel, rfl⟩
theorem o_X5_parcel : okMI m_X5_parcel := ⟨by decide +kernel, q_5_17, by decide +kernel, rfl⟩
theorem o_X5_isParcel : okMI m_X5_isParcel := ⟨by decide +kernel, q_5_21, by decide +kernel, rfl⟩
theorem o_X5_hate : okMI m_X5_hate := ⟨by decide +kernel, q_5_25, by decide +kernel, rfl⟩
theorem o_X5_posts : okMI m_X5_posts := ⟨by decide +kernel, q_5_29, by decide +kernel, rfl⟩
theorem o_X5_hates : okMI m_X5_hates := ⟨by decide +kernel, q_5_33, by decide +kernel, rfl⟩
theorem o_X5_slights : okMI m_X5_slights := ⟨by decide +kernel, q_5_37, by decide +kernel, rfl⟩
theorem o_X5_peace : okMI m_X5_peace := ⟨by decide +kernel, q_5_41, by decide +kernel, rfl⟩
theorem o_X5_moves : okMI m_X5_moves := ⟨by decide +kernel, q_5_45, by decide +kernel, rfl⟩
theorem o_X5_turn : okMI m_X5_turn := ⟨by decide +kernel, q_5_49, by decide +kernel, rfl⟩
theorem o_X5_days : okMI m_X5_days := ⟨by decide +kernel, q_5_53, by decide +kernel, rfl⟩
theorem o_X5_thoseIn : okMI m_X5_thoseIn := ⟨by decide +kernel, q_5_57, by decide +kernel, rfl⟩
theorem o_X5_bits : okMI m_X5_bits := ⟨by decide +kernel, q_5_60, by decide +kernel, rfl⟩
theorem o_X5_parcelThen : okMI m_X5_parcelThen := ⟨by decide +kernel, q_5_64, by decide +kernel, rfl⟩
theorem o_X5_notDays : okMI m_X5_notDays := ⟨by decide +kernel, q_5_67, by decide +kernel, rfl⟩
theorem o_X5_thinks : okMI m_X5_thinks := ⟨by decide +kernel, q_5_71, by decide +kernel, rfl⟩
theorem o_X5_forgets : okMI m_X5_forgets := ⟨by decide +kernel, q_5_75, by decide +kernel, rfl⟩
theorem o_X5_hateThen : okMI m_X5_hateThen := ⟨by decide +kernel, q_5_79, by decide +kernel, rfl⟩
theorem o_X5_gotThen : okMI m_X5_gotThen := ⟨by decide +kernel, q_5_83, by decide +kernel, rfl⟩
theorem o_X5_when : okMI m_X5_when := ⟨by decide +kernel, q_5_87, by decide +kernel, rfl⟩
theorem o_X5_whenOf : okMI m_X5_whenOf := ⟨by decide +kernel, q_5_91, by decide +kernel, rfl⟩
theorem o_X5_first : okMI m_X5_first := ⟨by decide +kernel, q_5_95, by decide +kernel, rfl⟩
theorem o_X5_lateOf : okMI m_X5_lateOf := ⟨by decide +kernel, q_5_99, by decide +kernel, rfl⟩
theorem o_X5_enemy : okMI m_X5_enemy := ⟨by decide +kernel, q_5_103, by decide +kernel, rfl⟩
theorem o_X5_malice : okMI m_X5_malice := ⟨by decide +kernel, q_5_107, by decide +kernel, rfl⟩
theorem o_X5_loved : okMI m_X5_loved := ⟨by decide +kernel, q_5_111, by decide +kernel, rfl⟩
theorem o_X5_busiest : okMI m_X5_busiest := ⟨by decide +kernel, q_5_115, by decide +kernel, rfl⟩
theorem o_X5_enemyOfMany : okMI m_X5_enemyOfMany := ⟨by decide +kernel, q_5_119, by decide +kernel, rfl⟩
theorem o_X5_ring : okMI m_X5_ring := ⟨by decide +kernel, q_5_123, by decide +kernel, rfl⟩
theorem o_X5_has : okMI m_X5_has := ⟨by decide +kernel, q_5_126, by decide +kernel, rfl⟩
theorem o_X5_slight : okMI m_X5_slight := ⟨by decide +kernel, q_5_130, by decide +kernel, rfl⟩
theorem o_X5_lateSlighting : okMI m_X5_lateSlighting := ⟨by decide +kernel, q_5_134, by decide +kernel, rfl⟩
theorem o_X5_cost : okMI m_X5_cost := ⟨by decide +kernel, q_5_138, by decide +kernel, rfl⟩
theorem o_X5_slightsOf : okMI m_X5_slightsOf := ⟨by decide +kernel, q_5_142, by decide +kernel, rfl⟩
theorem o_X5_bringsIn : okMI m_X5_bringsIn := ⟨by decide +kernel, q_5_146, by decide +kernel, rfl⟩
theorem o_X5_changes : okMI m_X5_changes := ⟨by decide +kernel, q_5_150, by decide +kernel, rfl⟩
theorem o_X5_changesBack : okMI m_X5_changesBack := ⟨by decide +kernel, q_5_154, by decide +kernel, rfl⟩
theorem o_X5_makeUp : okMI m_X5_makeUp := ⟨by decide +kernel, q_5_158, by decide +kernel, rfl⟩
theorem o_X5_latePeace : okMI m_X5_latePeace := ⟨by decide +kernel, q_5_162, by decide +kernel, rfl⟩
theorem o_X5_post : okMI m_X5_post := ⟨by decide +kernel, q_5_166, by decide +kernel, rfl⟩
theorem o_X5_latePosted : okMI m_X5_latePosted := ⟨by decide +kernel, q_5_170, by decide +kernel, rfl⟩
theorem o_X5_road : okMI m_X5_road := ⟨by decide +kernel, q_5_174, by decide +kernel, rfl⟩
theorem o_X5_farthest : okMI m_X5_farthest := ⟨by decide +kernel, q_5_178, by decide +kernel, rfl⟩
theorem o_X5_fair : okMI m_X5_fair := ⟨by decide +kernel, q_5_182, by decide +kernel, rfl⟩
theorem o_X5_pairs : okMI m_X5_pairs := ⟨by decide +kernel, q_5_186, by decide +kernel, rfl⟩
theorem o_X5_maliceFor : okMI m_X5_maliceFor := ⟨by decide +kernel, q_5_190, by decide +kernel, rfl⟩
theorem o_X5_two : okMI m_X5_two := ⟨by decide +kernel, q_5_194, by decide +kernel, rfl⟩
theorem o_X5_findBrought : okMI m_X5_findBrought := ⟨by decide +kernel, q_5_198, by decide +kernel, rfl⟩
theorem o_X5_broughtTo : okMI m_X5_broughtTo := ⟨by decide +kernel, q_5_202, by decide +kernel, rfl⟩
theorem o_X5_snow : okMI m_X5_snow := ⟨by decide +kernel, q_5_206, by decide +kernel, rfl⟩
theorem o_X5_lowestOf : okMI m_X5_lowestOf := ⟨by decide +kernel, q_5_210, by decide +kernel, rfl⟩
theorem o_X5_partOf : okMI m_X5_partOf := ⟨by decide +kernel, q_5_214, by decide +kernel, rfl⟩
theorem o_X5_divisor : okMI m_X5_divisor := ⟨by decide +kernel, q_5_217, by decide +kernel, rfl⟩
theorem o_X5_mean : okMI m_X5_mean := ⟨by decide +kernel, q_5_221, by decide +kernel, rfl⟩
theorem o_X5_allHate : okMI m_X5_allHate := ⟨by decide +kernel, q_5_225, by decide +kernel, rfl⟩
theorem o_X5_who : okMI m_X5_who := ⟨by decide +kernel, q_5_229, by decide +kernel, rfl⟩
theorem o_X5_bitsFor : okMI m_X5_bitsFor := ⟨by decide +kernel, q_5_233, by decide +kernel, rfl⟩
theorem o_X5_isSo : okMI m_X5_isSo := ⟨by decide +kernel, q_5_237, by decide +kernel, rfl⟩
theorem o_X5_row : okMI m_X5_row := ⟨by decide +kernel, q_6_1, by decide +kernel, rfl⟩
theorem o_X5_judge : okMI m_X5_judge := ⟨by decide +kernel, q_6_5, by decide +kernel, rfl⟩
theorem o_X5_clear : okMI m_X5_clear := ⟨by decide +kernel, q_6_9, by decide +kernel, rfl⟩
theorem o_X5_lots : okMI m_X5_lots := ⟨by decide +kernel, q_6_13, by decide +kernel, rfl⟩
theorem o_X5_count : okMI m_X5_count := ⟨by decide +kernel, q_6_20, by decide +kernel, rfl⟩
theorem fL0_ok : ∀ r ∈ fL0, okF 0 r := (List.forall_mem_cons.mpr ⟨⟨_, rfl, by decide, Or.inl q_1_28, iT_X0⟩, (List.forall_mem_cons.mpr ⟨⟨_, rfl, by decide, Or.inl q_1_31, iT_X0⟩, (List.forall_mem_cons.mpr ⟨⟨_, rfl, by decide, Or.inl q_1_34, iT_X0⟩, (List.forall_mem_cons.mpr ⟨⟨_, rfl, by decide, Or.inl q_1_37, iT_X0⟩, (List.forall_mem_cons.mpr ⟨⟨_, rfl, by decide, Or.inl q_1_40, iT_X0⟩, (List.forall_mem_cons.mpr ⟨⟨_, rfl, by decide, Or.inl q_1_43, iT_X0⟩, (List.forall_mem_cons.mpr ⟨⟨_, rfl, by decide, Or.inl q_1_45, iT_X0⟩, (List.forall_mem_cons.mpr ⟨⟨_, rfl, by decide, Or.inl q_1_47, iT_X0⟩, (List.forall_mem_cons.mpr ⟨⟨_, rfl, by decide, Or.inl q_1_48, iT_X0⟩, (List.forall_mem_cons.mpr ⟨⟨_, rfl, by decide, Or.inl q_1_49, iT_X0⟩, (List.forall_mem_cons.mpr ⟨⟨_, rfl, by decide, Or.inl q_1_50, iT_X0⟩, (List.forall_mem_cons.mpr ⟨⟨_, rfl, by decide, Or.inl q_1_51, iT_X0⟩, (List.forall_mem_cons.mpr ⟨⟨_, rfl, by decide, Or.inl q_1_52, iT_X0⟩, (fun _ h => absurd h List.not_mem_nil)⟩)⟩)⟩)⟩)⟩)⟩)⟩)⟩)⟩)⟩)⟩)⟩)⟩)
theorem fL1_ok : ∀ r ∈ fL1, okF 1 r := (List.forall_mem_cons.mpr ⟨⟨_, rfl, by decide, Or.inl q_1_122, iT_X1⟩, (List.forall_mem_cons.mpr ⟨⟨_, rfl, by decide, Or.inl q_1_125, iT_X1⟩, (fun _ h => absurd h List.not_mem_nil)⟩)⟩)
theorem fL2_ok : ∀ r ∈ fL2, okF 2 r := (List.forall_mem_cons.mpr ⟨⟨_, rfl, by decide, Or.inl q_1_108, iT_X2⟩, (List.forall_mem_cons.mpr ⟨⟨_, rfl, by decide, Or.inl q_1_110, iT_X2⟩, (List.forall_mem_cons.mpr ⟨⟨_, rfl, by decide, Or.inr ⟨_, qn_1_35⟩, iT_X0⟩, (fun _ h => absurd h List.not_mem_nil)⟩)⟩)⟩)
theorem fL3_ok : ∀ r ∈ fL3, okF 3 r := (List.forall_mem_cons.mpr ⟨⟨_, rfl, by decide, Or.inl q_1_89, iT_X3⟩, (List.forall_mem_cons.mpr ⟨⟨_, rfl, by decide, Or.inl q_1_90, iT_X3⟩, (List.forall_mem_cons.mpr ⟨⟨_, rfl, by decide, Or.inl q_1_91, iT_X3⟩, (List.forall_mem_cons.mpr ⟨⟨_, rfl, by decide, Or.inl q_1_92, iT_X3⟩, (List.forall_mem_cons.mpr ⟨⟨_, rfl, by decide, Or.inr ⟨_, qn_1_32⟩, iT_X0⟩, (List.forall_mem_cons.mpr ⟨⟨_, rfl, by decide, Or.inr ⟨_, qn_1_29⟩, iT_X0⟩, (List.forall_mem_cons.mpr ⟨⟨_, rfl, by decide, Or.inr ⟨_, qn_1_42⟩, iT_X0⟩, (List.forall_mem_cons.mpr ⟨⟨_, rfl, by decide, Or.inr ⟨_, qn_1_39⟩, iT_X0⟩, (List.forall_mem_cons.mpr ⟨⟨_, rfl, by decide, Or.inr ⟨_, qn_1_123⟩, iT_X1⟩, (fun _ h => absurd h List.not_mem_nil)⟩)⟩)⟩)⟩)⟩)⟩)⟩)⟩)⟩)
theorem fL4_ok : ∀ r ∈ fL4, okF 4 r := (List.forall_mem_cons.mpr ⟨⟨_, rfl, by decide, Or.inl q_1_131, iT_X4⟩, (List.forall_mem_cons.mpr ⟨⟨_, rfl, by decide, Or.inl q_1_132, iT_X4⟩, (List.forall_mem_cons.mpr ⟨⟨_, rfl, by decide, Or.inl q_1_133, iT_X4⟩, (List.forall_mem_cons.mpr ⟨⟨_, rfl, by decide, Or.inl q_1_134, iT_X4⟩, (List.forall_mem_cons.mpr ⟨⟨_, rfl, by decide, Or.inl q_1_135, iT_X4⟩, (List.forall_mem_cons.mpr ⟨⟨_, rfl, by decide, Or.inl q_1_136, iT_X4⟩, (List.forall_mem_cons.mpr ⟨⟨_, rfl, by decide, Or.inl q_1_137, iT_X4⟩, (List.forall_mem_cons.mpr ⟨⟨_, rfl, by decide, Or.inr ⟨_, qn_1_109⟩, iT_X2⟩, (List.forall_mem_cons.mpr ⟨⟨_, rfl, by decide, Or.inr ⟨_, qn_1_33⟩, iT_X0⟩, (List.forall_mem_cons.mpr ⟨⟨_, rfl, by decide, Or.inr ⟨_, qn_1_44⟩, iT_X0⟩, (List.forall_mem_cons.mpr ⟨⟨_, rfl, by decide, Or.inr ⟨_, qn_1_38⟩, iT_X0⟩, (List.forall_mem_cons.mpr ⟨⟨_, rfl, by decide, Or.inr ⟨_, qn_1_41⟩, iT_X0⟩, (List.forall_mem_cons.mpr ⟨⟨_, rfl, by decide, Or.inr ⟨_, qn_1_36⟩, iT_X0⟩, (List.forall_mem_cons.mpr ⟨⟨_, rfl, by decide, Or.inr ⟨_, qn_1_46⟩, iT_X0⟩, (List.forall_mem_cons.mpr ⟨⟨_, rfl, by decide, Or.inr ⟨_, qn_1_30⟩, iT_X0⟩, (List.forall_mem_cons.mpr ⟨⟨_, rfl, by decide, Or.inr ⟨_, qn_1_124⟩, iT_X1⟩, (fun _ h => absurd h List.not_mem_nil)⟩)⟩)⟩)⟩)⟩)⟩)⟩)⟩)⟩)⟩)⟩)⟩)⟩)⟩)⟩)⟩)
theorem fL5_ok : ∀ r ∈ fL5, okF 5 r := (List.forall_mem_cons.mpr ⟨⟨_, rfl, by decide, Or.inl q_4_19, iT_X5⟩, (List.forall_mem_cons.mpr ⟨⟨_, rfl, by decide, Or.inl q_4_20, iT_X5⟩, (List.forall_mem_cons.mpr ⟨⟨_, rfl, by decide, Or.inl q_4_21, iT_X5⟩, (List.forall_mem_cons.mpr ⟨⟨_, rfl, by decide, Or.inl q_4_22, iT_X5⟩, (List.forall_mem_cons.mpr ⟨⟨_, rfl, by decide, Or.inl q_4_23, iT_X5⟩, (List.forall_mem_cons.mpr ⟨⟨_, rfl, by decide, Or.inl q_4_24, iT_X5⟩, (List.forall_mem_cons.mpr ⟨⟨_, rfl, by decide, Or.inl q_4_25, iT_X5⟩, (List.forall_mem_cons.mpr ⟨⟨_, rfl, by decide, Or.inl q_4_26, iT_X5⟩, (List.forall_mem_cons.mpr ⟨⟨_, rfl, by decide, Or.inl q_4_27, iT_X5⟩, (List.forall_mem_cons.mpr ⟨⟨_, rfl, by decide, Or.inl q_4_28, iT_X5⟩, (List.forall_mem_cons.mpr ⟨⟨_, rfl, by decide, Or.inl q_4_29, iT_X5⟩, (List.forall_mem_cons.mpr ⟨⟨_, rfl, by decide, Or.inl q_4_33, iT_X5⟩, (List.forall_mem_cons.mpr ⟨⟨_, rfl, by decide, Or.inl q_4_34, iT_X5⟩, (List.forall_mem_cons.mpr ⟨⟨_, rfl, by decide, Or.inl q_4_35, iT_X5⟩, (List.forall_mem_cons.mpr ⟨⟨_, rfl, by decide, Or.inl q_4_36, iT_X5⟩, (List.forall_mem_cons.mpr ⟨⟨_, rfl, by decide, Or.inl q_4_40, iT_X5⟩, (List.forall_mem_cons.mpr ⟨⟨_, rfl, by decide, Or.inl q_4_44, iT_X5⟩, (List.forall_mem_cons.mpr ⟨⟨_, rfl, by decide, Or.inl q_4_45, iT_X5⟩, (List.forall_mem_cons.mpr ⟨⟨_, rfl, by decide, Or.inl q_4_30, iT_X5⟩, (List.forall_mem_cons.mpr ⟨⟨_, rfl, by decide, Or.inl q_4_31, iT_X5⟩, (List.forall_mem_cons.mpr ⟨⟨_, rfl, by decide, Or.inl q_4_37, iT_X5⟩, (List.forall_mem_cons.mpr ⟨⟨_, rfl, by decide, Or.inl q_4_38, iT_X5⟩, (List.forall_mem_cons.mpr ⟨⟨_, rfl, by decide, Or.inl q_4_39, iT_X5⟩, (List.forall_mem_cons.mpr ⟨⟨_, rfl, by decide, Or.inl q_4_32, iT_X5⟩, (List.forall_mem_cons.mpr ⟨⟨_, rfl, by decide, Or.inl q_4_42, iT_X5⟩, (List.forall_mem_cons.mpr ⟨⟨_, rfl, by decide, Or.inl q_4_43, iT_X5⟩, (List.forall_mem_cons.mpr ⟨⟨_, rfl, by decide, Or.inl q_4_41, iT_X5⟩, (List.forall_mem_cons.mpr ⟨⟨_, rfl, by decide, Or.inl q_4_46, iT_X5⟩, (fun _ h => absurd h List.not_mem_nil)⟩)⟩)⟩)⟩)⟩)⟩)⟩)⟩)⟩)⟩)⟩)⟩)⟩)⟩)⟩)⟩)⟩)⟩)⟩)⟩)⟩)⟩)⟩)⟩)⟩)⟩)⟩)⟩)
theorem mL0_ok0 : ∀ r ∈ ([(58, 0, m_X0_hasPerson), (62, 1, m_X0_milesOf), (66, 0, m_X0_carries), (69, 0, m_X0_hasParcel), (72, 0, m_X0_hasPair), (85, 0, m_X0_hateOf), (88, 0, m_X0_setHate), (95, 0, m_X0_maliceOf), (98, 0, m_X0_enemyOf), (101, 0, m_X0_passDay), (105, 0, m_X0_carryOn), (108, 0, m_X0_giveOut), (111, 0, m_X0_coolDown), (114, 0, m_X0_addHate), (117, 0, m_X0_apart), (120, 1, m_X0_daysOnRoad)] : List (Nat × Nat × MI)), okL 0 r := (List.forall_mem_cons.mpr ⟨⟨o_X0_hasPerson, q_1_2, fun _ => ⟨q_2_82, q_2_83, q_2_84⟩, fun h => absurd h (by decide), fun h => absurd h (by decide)⟩, (List.forall_mem_cons.mpr ⟨⟨o_X0_milesOf, q_1_2, fun h => absurd h (by decide), fun _ => ⟨q_2_119, q_2_120⟩, fun h => absurd h (by decide)⟩, (List.forall_mem_cons.mpr ⟨⟨o_X0_carries, q_1_2, fun _ => ⟨q_2_108, q_2_109, q_2_110⟩, fun h => absurd h (by decide), fun h => absurd h (by decide)⟩, (List.forall_mem_cons.mpr ⟨⟨o_X0_hasParcel, q_1_2, fun _ => ⟨q_2_195, q_2_188, q_2_189⟩, fun h => absurd h (by decide), fun h => absurd h (by decide)⟩, (List.forall_mem_cons.mpr ⟨⟨o_X0_hasPair, q_1_2, fun _ => ⟨q_2_91, q_2_92, q_2_93⟩, fun h => absurd h (by decide), fun h => absurd h (by decide)⟩, (List.forall_mem_cons.mpr ⟨⟨o_X0_hateOf, q_1_2, fun _ => ⟨q_2_158, q_2_159, q_2_160⟩, fun h => absurd h (by decide), fun h => absurd h (by decide)⟩, (List.forall_mem_cons.mpr ⟨⟨o_X0_setHate, q_1_2, fun _ => ⟨q_2_162, q_2_146, q_2_147⟩, fun h => absurd h (by decide), fun h => absurd h (by decide)⟩, (List.forall_mem_cons.mpr ⟨⟨o_X0_maliceOf, q_1_2, fun _ => ⟨q_2_104, q_2_105, q_2_106⟩, fun h => absurd h (by decide), fun h => absurd h (by decide)⟩, (List.forall_mem_cons.mpr ⟨⟨o_X0_enemyOf, q_1_2, fun _ => ⟨q_2_100, q_2_101, q_2_102⟩, fun h => absurd h (by decide), fun h => absurd h (by decide)⟩, (List.forall_mem_cons.mpr ⟨⟨o_X0_passDay, q_1_2, fun _ => ⟨q_2_74, q_2_75, q_2_76⟩, fun h => absurd h (by decide), fun h => absurd h (by decide)⟩, (List.forall_mem_cons.mpr ⟨⟨o_X0_carryOn, q_1_2, fun _ => ⟨q_2_78, q_2_80, q_s_2⟩, fun h => absurd h (by decide), fun h => absurd h (by decide)⟩, (List.forall_mem_cons.mpr ⟨⟨o_X0_giveOut, q_1_2, fun _ => ⟨q_2_96, q_2_98, q_s_3⟩, fun h => absurd h (by decide), fun h => absurd h (by decide)⟩, (List.forall_mem_cons.mpr ⟨⟨o_X0_coolDown, q_1_2, fun _ => ⟨q_2_125, q_2_127, q_s_4⟩, fun h => absurd h (by decide), fun h => absurd h (by decide)⟩, (List.forall_mem_cons.mpr ⟨⟨o_X0_addHate, q_1_2, fun _ => ⟨q_2_87, q_2_88, q_2_89⟩, fun h => absurd h (by decide), fun h => absurd h (by decide)⟩, (List.forall_mem_cons.mpr ⟨⟨o_X0_apart, q_1_2, fun _ => ⟨q_2_112, q_2_113, q_2_114⟩, fun h => absurd h (by decide), fun h => absurd h (by decide)⟩, (List.forall_mem_cons.mpr ⟨⟨o_X0_daysOnRoad, q_1_2, fun h => absurd h (by decide), fun _ => ⟨q_2_122, q_2_123⟩, fun h => absurd h (by decide)⟩, (fun _ h => absurd h List.not_mem_nil)⟩)⟩)⟩)⟩)⟩)⟩)⟩)⟩)⟩)⟩)⟩)⟩)⟩)⟩)⟩)⟩)
theorem mL0_ok : ∀ r ∈ mL0, okL 0 r := mL0_ok0
theorem mL2_ok0 : ∀ r ∈ ([(35, 0, m_J0_indexOf_0f7a4), (41, 0, m_X2_letterAt), (44, 1, m_X2_formOf), (48, 0, m_J0_length_8abf5), (52, 0, m_J0_charAt_5068e), (56, 1, m_X2_fits), (66, 0, m_X2_digitAt), (69, 0, m_X2_numberAt), (72, 0, m_X0_addPerson), (78, 0, m_X0_setHate), (81, 0, m_X0_addParcel), (85, 0, m_X0_addHate), (88, 0, m_X0_makePeace), (91, 1, m_X2_letDaysPass), (98, 0, m_X0_passDays)] : List (Nat × Nat × MI)), okL 2 r := (List.forall_mem_cons.mpr ⟨⟨o_J0_indexOf_0f7a4, q_1_7, fun _ => ⟨q_1_239, q_2_0, q_2_1⟩, fun h => absurd h (by decide), fun h => absurd h (by decide)⟩, (List.forall_mem_cons.mpr ⟨⟨o_X2_letterAt, q_1_4, fun _ => ⟨q_1_173, q_1_175, q_s_1⟩, fun h => absurd h (by decide), fun h => absurd h (by decide)⟩, (List.forall_mem_cons.mpr ⟨⟨o_X2_formOf, q_1_4, fun h => absurd h (by decide), fun _ => ⟨q_1_177, q_1_178⟩, fun h => absurd h (by decide)⟩, (List.forall_mem_cons.mpr ⟨⟨o_J0_length_8abf5, q_1_7, fun _ => ⟨q_1_187, q_1_188, q_1_189⟩, fun h => absurd h (by decide), fun h => absurd h (by decide)⟩, (List.forall_mem_cons.mpr ⟨⟨o_J0_charAt_5068e, q_1_7, fun _ => ⟨q_1_197, q_1_198, q_1_199⟩, fun h => absurd h (by decide), fun h => absurd h (by decide)⟩, (List.forall_mem_cons.mpr ⟨⟨o_X2_fits, q_1_4, fun h => absurd h (by decide), fun _ => ⟨q_1_235, q_1_236⟩, fun h => absurd h (by decide)⟩, (List.forall_mem_cons.mpr ⟨⟨o_X2_digitAt, q_1_4, fun _ => ⟨q_2_133, q_2_135, q_s_5⟩, fun h => absurd h (by decide), fun h => absurd h (by decide)⟩, (List.forall_mem_cons.mpr ⟨⟨o_X2_numberAt, q_1_4, fun _ => ⟨q_2_137, q_2_139, q_s_6⟩, fun h => absurd h (by decide), fun h => absurd h (by decide)⟩, (List.forall_mem_cons.mpr ⟨⟨o_X0_addPerson, q_1_2, fun _ => ⟨q_2_141, q_2_142, q_2_143⟩, fun h => absurd h (by decide), fun h => absurd h (by decide)⟩, (List.forall_mem_cons.mpr ⟨⟨o_X0_setHate, q_1_2, fun _ => ⟨q_2_145, q_2_146, q_2_147⟩, fun h => absurd h (by decide), fun h => absurd h (by decide)⟩, (List.forall_mem_cons.mpr ⟨⟨o_X0_addParcel, q_1_2, fun _ => ⟨q_2_149, q_2_150, q_2_151⟩, fun h => absurd h (by decide), fun h => absurd h (by decide)⟩, (List.forall_mem_cons.mpr ⟨⟨o_X0_addHate, q_1_2, fun _ => ⟨q_2_153, q_2_88, q_2_89⟩, fun h => absurd h (by decide), fun h => absurd h (by decide)⟩, (List.forall_mem_cons.mpr ⟨⟨o_X0_makePeace, q_1_2, fun _ => ⟨q_2_154, q_2_155, q_2_156⟩, fun h => absurd h (by decide), fun h => absurd h (by decide)⟩, (List.forall_mem_cons.mpr ⟨⟨o_X2_letDaysPass, q_1_4, fun h => absurd h (by decide), fun _ => ⟨q_2_163, q_2_164⟩, fun h => absurd h (by decide)⟩, (List.forall_mem_cons.mpr ⟨⟨o_X0_passDays, q_1_2, fun _ => ⟨q_2_166, q_2_71, q_2_72⟩, fun h => absurd h (by decide), fun h => absurd h (by decide)⟩, (fun _ h => absurd h List.not_mem_nil)⟩)⟩)⟩)⟩)⟩)⟩)⟩)⟩)⟩)⟩)⟩)⟩)⟩)⟩)⟩)
theorem mL2_ok : ∀ r ∈ mL2, okL 2 r := mL2_ok0
theorem mL3_ok0 : ∀ r ∈ ([(28, 0, m_X0_become), (32, 0, m_X0_passDays), (36, 0, m_X0_passDay), (44, 0, m_X0_stateOf), (48, 0, m_X0_brought), (52, 0, m_X0_receiverOf), (55, 2, m_X4_daysTillBrought), (62, 0, m_X0_addHate), (66, 0, m_X0_makePeace), (70, 0, m_X3_slightAll), (79, 0, m_X0_addParcel), (82, 2, m_X4_dayOrNone), (85, 0, m_X3_broughtTo), (88, 0, m_X0_hasPerson), (98, 0, m_X3_goesAsTold), (107, 0, m_X1_at), (110, 0, m_X0_carrierOf), (113, 2, m_X4_asTold), (116, 0, m_X3_drawHates), (119, 0, m_X0_hatesTogether), (125, 0, m_X0_setHate)] : List (Nat × Nat × MI)), okL 3 r := (List.forall_mem_cons.mpr ⟨⟨o_X0_become, q_1_2, fun _ => ⟨q_2_63, q_2_64, q_2_65⟩, fun h => absurd h (by decide), fun h => absurd h (by decide)⟩, (List.forall_mem_cons.mpr ⟨⟨o_X0_passDays, q_1_2, fun _ => ⟨q_2_70, q_2_71, q_2_72⟩, fun h => absurd h (by decide), fun h => absurd h (by decide)⟩, (List.forall_mem_cons.mpr ⟨⟨o_X0_passDay, q_1_2, fun _ => ⟨q_3_39, q_2_75, q_2_76⟩, fun h => absurd h (by decide), fun h => absurd h (by decide)⟩, (List.forall_mem_cons.mpr ⟨⟨o_X0_stateOf, q_1_2, fun _ => ⟨q_3_44, q_3_4, q_3_5⟩, fun h => absurd h (by decide), fun h => absurd h (by decide)⟩, (List.forall_mem_cons.mpr ⟨⟨o_X0_brought, q_1_2, fun _ => ⟨q_3_38, q_2_236, q_2_237⟩, fun h => absurd h (by decide), fun h => absurd h (by decide)⟩, (List.forall_mem_cons.mpr ⟨⟨o_X0_receiverOf, q_1_2, fun _ => ⟨q_3_83, q_3_84, q_3_85⟩, fun h => absurd h (by decide), fun h => absurd h (by decide)⟩, (List.forall_mem_cons.mpr ⟨⟨o_X4_daysTillBrought, q_1_1, fun h => absurd h (by decide), fun h => absurd h (by decide), fun _ => ⟨⟨_, qn_3_87⟩, q_3_24⟩⟩, (List.forall_mem_cons.mpr ⟨⟨o_X0_addHate, q_1_2, fun _ => ⟨q_3_88, q_2_88, q_2_89⟩, fun h => absurd h (by decide), fun h => absurd h (by decide)⟩, (List.forall_mem_cons.mpr ⟨⟨o_X0_makePeace, q_1_2, fun _ => ⟨q_3_110, q_2_155, q_2_156⟩, fun h => absurd h (by decide), fun h => absurd h (by decide)⟩, (List.forall_mem_cons.mpr ⟨⟨o_X3_slightAll, q_1_3, fun _ => ⟨q_3_97, q_3_99, q_s_8⟩, fun h => absurd h (by decide), fun h => absurd h (by decide)⟩, (List.forall_mem_cons.mpr ⟨⟨o_X0_addParcel, q_1_2, fun _ => ⟨q_3_119, q_2_150, q_2_151⟩, fun h => absurd h (by decide), fun h => absurd h (by decide)⟩, (List.forall_mem_cons.mpr ⟨⟨o_X4_dayOrNone, q_1_1, fun h => absurd h (by decide), fun h => absurd h (by decide), fun _ => ⟨⟨_, qn_3_120⟩, q_3_28⟩⟩, (List.forall_mem_cons.mpr ⟨⟨o_X3_broughtTo, q_1_3, fun _ => ⟨q_3_150, q_3_152, q_s_9⟩, fun h => absurd h (by decide), fun h => absurd h (by decide)⟩, (List.forall_mem_cons.mpr ⟨⟨o_X0_hasPerson, q_1_2, fun _ => ⟨q_3_189, q_2_83, q_2_84⟩, fun h => absurd h (by decide), fun h => absurd h (by decide)⟩, (List.forall_mem_cons.mpr ⟨⟨o_X3_goesAsTold, q_1_3, fun _ => ⟨q_3_190, q_3_192, q_s_11⟩, fun h => absurd h (by decide), fun h => absurd h (by decide)⟩, (List.forall_mem_cons.mpr ⟨⟨o_X1_at, q_1_5, fun _ => ⟨q_3_194, q_3_195, q_3_196⟩, fun h => absurd h (by decide), fun h => absurd h (by decide)⟩, (List.forall_mem_cons.mpr ⟨⟨o_X0_carrierOf, q_1_2, fun _ => ⟨q_3_198, q_3_8, q_3_9⟩, fun h => absurd h (by decide), fun h => absurd h (by decide)⟩, (List.forall_mem_cons.mpr ⟨⟨o_X4_asTold, q_1_1, fun h => absurd h (by decide), fun h => absurd h (by decide), fun _ => ⟨⟨_, qn_3_199⟩, q_3_200⟩⟩, (List.forall_mem_cons.mpr ⟨⟨o_X3_drawHates, q_1_3, fun _ => ⟨q_3_228, q_3_230, q_s_12⟩, fun h => absurd h (by decide), fun h => absurd h (by decide)⟩, (List.forall_mem_cons.mpr ⟨⟨o_X0_hatesTogether, q_1_2, fun _ => ⟨q_3_236, q_3_178, q_3_179⟩, fun h => absurd h (by decide), fun h => absurd h (by decide)⟩, (List.forall_mem_cons.mpr ⟨⟨o_X0_setHate, q_1_2, fun _ => ⟨q_3_235, q_2_146, q_2_147⟩, fun h => absurd h (by decide), fun h => absurd h (by decide)⟩, (fun _ h => absurd h List.not_mem_nil)⟩)⟩)⟩)⟩)⟩)⟩)⟩)⟩)⟩)⟩)⟩)⟩)⟩)⟩)⟩)⟩)⟩)⟩)⟩)⟩)⟩)
theorem mL3_ok : ∀ r ∈ mL3, okL 3 r := mL3_ok0
theorem mL4_ok0 : ∀ r ∈ ([(48, 0, m_X4_refuse), (56, 0, m_X2_add), (60, 0, m_X2_firstMisfit), (64, 0, m_X3_behind), (68, 0, m_X2_tell), (72, 0, m_X2_lengthAt), (81, 0, m_X0_become), (85, 0, m_X0_hasPerson), (89, 0, m_X0_ofPerson), (92, 0, m_X0_hasParcel), (95, 0, m_X0_ofParcel), (98, 0, m_X0_hasPair), (102, 0, m_X0_hateOf), (108, 0, m_X0_addParcel), (111, 0, m_X0_setHate), (115, 0, m_X0_addHate), (118, 0, m_X0_makePeace), (133, 0, m_X0_passDays), (136, 0, m_X0_brought), (139, 0, m_X0_stateOf), (142, 0, m_X0_carrierOf), (148, 1, m_X4_daysTillBrought), (152, 1, m_X4_dayOrNone), (155, 0, m_X3_daysTillAll), (159, 0, m_X3_firstBrought)] : List (Nat × Nat × MI)), okL 4 r := (List.forall_mem_cons.mpr ⟨⟨o_X4_refuse, q_1_1, fun _ => ⟨q_1_157, q_1_159, q_s_0⟩, fun h => absurd h (by decide), fun h => absurd h (by decide)⟩, (List.forall_mem_cons.mpr ⟨⟨o_X2_add, q_1_4, fun _ => ⟨q_1_161, q_1_162, q_1_163⟩, fun h => absurd h (by decide), fun h => absurd h (by decide)⟩, (List.forall_mem_cons.mpr ⟨⟨o_X2_firstMisfit, q_1_4, fun _ => ⟨q_1_169, q_1_170, q_1_171⟩, fun h => absurd h (by decide), fun h => absurd h (by decide)⟩, (List.forall_mem_cons.mpr ⟨⟨o_X3_behind, q_1_3, fun _ => ⟨q_2_59, q_2_60, q_2_61⟩, fun h => absurd h (by decide), fun h => absurd h (by decide)⟩, (List.forall_mem_cons.mpr ⟨⟨o_X2_tell, q_1_4, fun _ => ⟨q_2_129, q_2_130, q_2_131⟩, fun h => absurd h (by decide), fun h => absurd h (by decide)⟩, (List.forall_mem_cons.mpr ⟨⟨o_X2_lengthAt, q_1_4, fun _ => ⟨q_2_167, q_2_168, q_2_169⟩, fun h => absurd h (by decide), fun h => absurd h (by decide)⟩, (List.forall_mem_cons.mpr ⟨⟨o_X0_become, q_1_2, fun _ => ⟨q_2_172, q_2_64, q_2_65⟩, fun h => absurd h (by decide), fun h => absurd h (by decide)⟩, (List.forall_mem_cons.mpr ⟨⟨o_X0_hasPerson, q_1_2, fun _ => ⟨q_2_178, q_2_83, q_2_84⟩, fun h => absurd h (by decide), fun h => absurd h (by decide)⟩, (List.forall_mem_cons.mpr ⟨⟨o_X0_ofPerson, q_1_2, fun _ => ⟨q_2_179, q_2_180, q_2_181⟩, fun h => absurd h (by decide), fun h => absurd h (by decide)⟩, (List.forall_mem_cons.mpr ⟨⟨o_X0_hasParcel, q_1_2, fun _ => ⟨q_2_187, q_2_188, q_2_189⟩, fun h => absurd h (by decide), fun h => absurd h (by decide)⟩, (List.forall_mem_cons.mpr ⟨⟨o_X0_ofParcel, q_1_2, fun _ => ⟨q_2_191, q_2_192, q_2_193⟩, fun h => absurd h (by decide), fun h => absurd h (by decide)⟩, (List.forall_mem_cons.mpr ⟨⟨o_X0_hasPair, q_1_2, fun _ => ⟨q_2_200, q_2_92, q_2_93⟩, fun h => absurd h (by decide), fun h => absurd h (by decide)⟩, (List.forall_mem_cons.mpr ⟨⟨o_X0_hateOf, q_1_2, fun _ => ⟨q_2_201, q_2_159, q_2_160⟩, fun h => absurd h (by decide), fun h => absurd h (by decide)⟩, (List.forall_mem_cons.mpr ⟨⟨o_X0_addParcel, q_1_2, fun _ => ⟨q_2_206, q_2_150, q_2_151⟩, fun h => absurd h (by decide), fun h => absurd h (by decide)⟩, (List.forall_mem_cons.mpr ⟨⟨o_X0_setHate, q_1_2, fun _ => ⟨q_2_211, q_2_146, q_2_147⟩, fun h => absurd h (by decide), fun h => absurd h (by decide)⟩, (List.forall_mem_cons.mpr ⟨⟨o_X0_addHate, q_1_2, fun _ => ⟨q_2_216, q_2_88, q_2_89⟩, fun h => absurd h (by decide), fun h => absurd h (by decide)⟩, (List.forall_mem_cons.mpr ⟨⟨o_X0_makePeace, q_1_2, fun _ => ⟨q_2_221, q_2_155, q_2_156⟩, fun h => absurd h (by decide), fun h => absurd h (by decide)⟩, (List.forall_mem_cons.mpr ⟨⟨o_X0_passDays, q_1_2, fun _ => ⟨q_2_234, q_2_71, q_2_72⟩, fun h => absurd h (by decide), fun h => absurd h (by decide)⟩, (List.forall_mem_cons.mpr ⟨⟨o_X0_brought, q_1_2, fun _ => ⟨q_2_235, q_2_236, q_2_237⟩, fun h => absurd h (by decide), fun h => absurd h (by decide)⟩, (List.forall_mem_cons.mpr ⟨⟨o_X0_stateOf, q_1_2, fun _ => ⟨q_3_3, q_3_4, q_3_5⟩, fun h => absurd h (by decide), fun h => absurd h (by decide)⟩, (List.forall_mem_cons.mpr ⟨⟨o_X0_carrierOf, q_1_2, fun _ => ⟨q_3_7, q_3_8, q_3_9⟩, fun h => absurd h (by decide), fun h => absurd h (by decide)⟩, (List.forall_mem_cons.mpr ⟨⟨o_X4_daysTillBrought, q_1_1, fun h => absurd h (by decide), fun _ => ⟨q_3_23, q_3_24⟩, fun h => absurd h (by decide)⟩, (List.forall_mem_cons.mpr ⟨⟨o_X4_dayOrNone, q_1_1, fun h => absurd h (by decide), fun _ => ⟨q_3_27, q_3_28⟩, fun h => absurd h (by decide)⟩, (List.forall_mem_cons.mpr ⟨⟨o_X3_daysTillAll, q_1_3, fun _ => ⟨q_3_34, q_3_35, q_3_36⟩, fun h => absurd h (by decide), fun h => absurd h (by decide)⟩, (List.forall_mem_cons.mpr ⟨⟨o_X3_firstBrought, q_1_3, fun _ => ⟨q_3_40, q_3_41, q_3_42⟩, fun h => absurd h (by decide), fun h => absurd h (by decide)⟩, (fun _ h => absurd h List.not_mem_nil)⟩)⟩)⟩)⟩)⟩)⟩)⟩)⟩)⟩)⟩)⟩)⟩)⟩)⟩)⟩)⟩)⟩)⟩)⟩)⟩)⟩)⟩)⟩)⟩)⟩)
theorem mL4_ok1 : ∀ r ∈ ([(162, 0, m_X0_enemyOf), (165, 0, m_X0_maliceOf), (171, 0, m_X0_enemyOfHowMany), (174, 0, m_X4_notWaiting), (177, 0, m_X3_bestSlight), (181, 0, m_X3_isEnough), (185, 0, m_X3_worstPeace), (188, 0, m_X3_bestPosting), (192, 0, m_X0_apart), (195, 0, m_X0_mutualEnemies), (198, 0, m_X0_maliceOfAll), (201, 0, m_X3_court), (205, 0, m_X4_refuseLong), (209, 0, m_X3_broughtOfAll), (213, 1, m_X4_partOf), (217, 0, m_X0_hatesTogether), (220, 0, m_X3_fitting), (225, 0, m_X1_add), (226, 0, m_X1_at), (229, 1, m_X4_asTold), (232, 0, m_X3_ofDrawnDuchies), (236, 0, m_X0_parcelsThat), (241, 0, m_X0_passDay), (245, 1, m_X4_greatestDivisor)] : List (Nat × Nat × MI)), okL 4 r := (List.forall_mem_cons.mpr ⟨⟨o_X0_enemyOf, q_1_2, fun _ => ⟨q_3_49, q_2_101, q_2_102⟩, fun h => absurd h (by decide), fun h => absurd h (by decide)⟩, (List.forall_mem_cons.mpr ⟨⟨o_X0_maliceOf, q_1_2, fun _ => ⟨q_3_54, q_2_105, q_2_106⟩, fun h => absurd h (by decide), fun h => absurd h (by decide)⟩, (List.forall_mem_cons.mpr ⟨⟨o_X0_enemyOfHowMany, q_1_2, fun _ => ⟨q_3_63, q_3_64, q_3_65⟩, fun h => absurd h (by decide), fun h => absurd h (by decide)⟩, (List.forall_mem_cons.mpr ⟨⟨o_X4_notWaiting, q_1_1, fun _ => ⟨q_3_75, q_3_77, q_s_7⟩, fun h => absurd h (by decide), fun h => absurd h (by decide)⟩, (List.forall_mem_cons.mpr ⟨⟨o_X3_bestSlight, q_1_3, fun _ => ⟨q_3_79, q_3_80, q_3_81⟩, fun h => absurd h (by decide), fun h => absurd h (by decide)⟩, (List.forall_mem_cons.mpr ⟨⟨o_X3_isEnough, q_1_3, fun _ => ⟨q_3_93, q_3_94, q_3_95⟩, fun h => absurd h (by decide), fun h => absurd h (by decide)⟩, (List.forall_mem_cons.mpr ⟨⟨o_X3_worstPeace, q_1_3, fun _ => ⟨q_3_106, q_3_107, q_3_108⟩, fun h => absurd h (by decide), fun h => absurd h (by decide)⟩, (List.forall_mem_cons.mpr ⟨⟨o_X3_bestPosting, q_1_3, fun _ => ⟨q_3_115, q_3_116, q_3_117⟩, fun h => absurd h (by decide), fun h => absurd h (by decide)⟩, (List.forall_mem_cons.mpr ⟨⟨o_X0_apart, q_1_2, fun _ => ⟨q_3_125, q_2_113, q_2_114⟩, fun h => absurd h (by decide), fun h => absurd h (by decide)⟩, (List.forall_mem_cons.mpr ⟨⟨o_X0_mutualEnemies, q_1_2, fun _ => ⟨q_3_134, q_3_135, q_3_136⟩, fun h => absurd h (by decide), fun h => absurd h (by decide)⟩, (List.forall_mem_cons.mpr ⟨⟨o_X0_maliceOfAll, q_1_2, fun _ => ⟨q_3_138, q_3_139, q_3_140⟩, fun h => absurd h (by decide), fun h => absurd h (by decide)⟩, (List.forall_mem_cons.mpr ⟨⟨o_X3_court, q_1_3, fun _ => ⟨q_3_146, q_3_147, q_3_148⟩, fun h => absurd h (by decide), fun h => absurd h (by decide)⟩, (List.forall_mem_cons.mpr ⟨⟨o_X4_refuseLong, q_1_1, fun _ => ⟨q_3_158, q_3_160, q_s_10⟩, fun h => absurd h (by decide), fun h => absurd h (by decide)⟩, (List.forall_mem_cons.mpr ⟨⟨o_X3_broughtOfAll, q_1_3, fun _ => ⟨q_3_163, q_3_164, q_3_165⟩, fun h => absurd h (by decide), fun h => absurd h (by decide)⟩, (List.forall_mem_cons.mpr ⟨⟨o_X4_partOf, q_1_1, fun h => absurd h (by decide), fun _ => ⟨q_3_167, q_3_168⟩, fun h => absurd h (by decide)⟩, (List.forall_mem_cons.mpr ⟨⟨o_X0_hatesTogether, q_1_2, fun _ => ⟨q_3_177, q_3_178, q_3_179⟩, fun h => absurd h (by decide), fun h => absurd h (by decide)⟩, (List.forall_mem_cons.mpr ⟨⟨o_X3_fitting, q_1_3, fun _ => ⟨q_3_185, q_3_186, q_3_187⟩, fun h => absurd h (by decide), fun h => absurd h (by decide)⟩, (List.forall_mem_cons.mpr ⟨⟨o_X1_add, q_1_5, fun _ => ⟨q_3_206, q_3_207, q_3_208⟩, fun h => absurd h (by decide), fun h => absurd h (by decide)⟩, (List.forall_mem_cons.mpr ⟨⟨o_X1_at, q_1_5, fun _ => ⟨q_3_214, q_3_195, q_3_196⟩, fun h => absurd h (by decide), fun h => absurd h (by decide)⟩, (List.forall_mem_cons.mpr ⟨⟨o_X4_asTold, q_1_1, fun h => absurd h (by decide), fun _ => ⟨q_3_215, q_3_200⟩, fun h => absurd h (by decide)⟩, (List.forall_mem_cons.mpr ⟨⟨o_X3_ofDrawnDuchies, q_1_3, fun _ => ⟨q_3_224, q_3_225, q_3_226⟩, fun h => absurd h (by decide), fun h => absurd h (by decide)⟩, (List.forall_mem_cons.mpr ⟨⟨o_X0_parcelsThat, q_1_2, fun _ => ⟨q_4_9, q_4_10, q_4_11⟩, fun h => absurd h (by decide), fun h => absurd h (by decide)⟩, (List.forall_mem_cons.mpr ⟨⟨o_X0_passDay, q_1_2, fun _ => ⟨q_3_26, q_2_75, q_2_76⟩, fun h => absurd h (by decide), fun h => absurd h (by decide)⟩, (List.forall_mem_cons.mpr ⟨⟨o_X4_greatestDivisor, q_1_1, fun h => absurd h (by decide), fun _ => ⟨q_3_170, q_3_171⟩, fun h => absurd h (by decide)⟩, (fun _ h => absurd h List.not_mem_nil)⟩)⟩)⟩)⟩)⟩)⟩)⟩)⟩)⟩)⟩)⟩)⟩)⟩)⟩)⟩)⟩)⟩)⟩)⟩)⟩)⟩)⟩)⟩)⟩)
theorem mL4_ok : ∀ r ∈ mL4, okL 4 r := (List.forall_mem_append.mpr ⟨mL4_ok0, mL4_ok1⟩)
theorem mL5_ok0 : ∀ r ∈ ([(70, 0, m_X5_isOne), (77, 1, m_X5_bound), (84, 0, m_X5_no), (91, 0, m_X5_next), (95, 1, m_X5_isIn), (99, 1, m_X5_kindOf), (102, 0, m_X5_readsDigits), (106, 0, m_X5_readsOne), (112, 0, m_X5_readsAll), (115, 1, m_X5_spot), (119, 0, m_X5_adds), (123, 0, m_X5_areTwo), (126, 0, m_X5_slighted), (130, 0, m_X5_madeUp), (136, 0, m_X5_goes), (140, 0, m_X5_comesOne), (143, 0, m_X5_comesParcel), (146, 0, m_X5_comesDays), (149, 0, m_X5_comesTwo), (153, 0, m_X5_statement), (157, 0, m_X5_passesAll), (161, 0, m_X5_comes), (171, 0, m_X5_passes), (175, 0, m_X5_passOne), (181, 1, m_X5_held)] : List (Nat × Nat × MI)), okL 5 r := (List.forall_mem_cons.mpr ⟨⟨o_X5_isOne, q_1_6, fun _ => ⟨q_4_172, q_4_174, q_s_25⟩, fun h => absurd h (by decide), fun h => absurd h (by decide)⟩, (List.forall_mem_cons.mpr ⟨⟨o_X5_bound, q_1_6, fun h => absurd h (by decide), fun _ => ⟨q_4_108, q_4_109⟩, fun h => absurd h (by decide)⟩, (List.forall_mem_cons.mpr ⟨⟨o_X5_no, q_1_6, fun _ => ⟨q_4_111, q_4_113, q_s_13⟩, fun h => absurd h (by decide), fun h => absurd h (by decide)⟩, (List.forall_mem_cons.mpr ⟨⟨o_X5_next, q_1_6, fun _ => ⟨q_4_123, q_4_125, q_s_15⟩, fun h => absurd h (by decide), fun h => absurd h (by decide)⟩, (List.forall_mem_cons.mpr ⟨⟨o_X5_isIn, q_1_6, fun h => absurd h (by decide), fun _ => ⟨q_4_142, q_4_143⟩, fun h => absurd h (by decide)⟩, (List.forall_mem_cons.mpr ⟨⟨o_X5_kindOf, q_1_6, fun h => absurd h (by decide), fun _ => ⟨q_4_135, q_4_136⟩, fun h => absurd h (by decide)⟩, (List.forall_mem_cons.mpr ⟨⟨o_X5_readsDigits, q_1_6, fun _ => ⟨q_4_138, q_4_140, q_s_18⟩, fun h => absurd h (by decide), fun h => absurd h (by decide)⟩, (List.forall_mem_cons.mpr ⟨⟨o_X5_readsOne, q_1_6, fun _ => ⟨q_4_131, q_4_133, q_s_17⟩, fun h => absurd h (by decide), fun h => absurd h (by decide)⟩, (List.forall_mem_cons.mpr ⟨⟨o_X5_readsAll, q_1_6, fun _ => ⟨q_4_127, q_4_129, q_s_16⟩, fun h => absurd h (by decide), fun h => absurd h (by decide)⟩, (List.forall_mem_cons.mpr ⟨⟨o_X5_spot, q_1_6, fun h => absurd h (by decide), fun _ => ⟨q_4_165, q_4_166⟩, fun h => absurd h (by decide)⟩, (List.forall_mem_cons.mpr ⟨⟨o_X5_adds, q_1_6, fun _ => ⟨q_4_176, q_4_178, q_s_26⟩, fun h => absurd h (by decide), fun h => absurd h (by decide)⟩, (List.forall_mem_cons.mpr ⟨⟨o_X5_areTwo, q_1_6, fun _ => ⟨q_4_230, q_4_232, q_s_38⟩, fun h => absurd h (by decide), fun h => absurd h (by decide)⟩, (List.forall_mem_cons.mpr ⟨⟨o_X5_slighted, q_1_6, fun _ => ⟨q_4_234, q_4_236, q_s_39⟩, fun h => absurd h (by decide), fun h => absurd h (by decide)⟩, (List.forall_mem_cons.mpr ⟨⟨o_X5_madeUp, q_1_6, fun _ => ⟨q_4_238, q_5_0, q_s_40⟩, fun h => absurd h (by decide), fun h => absurd h (by decide)⟩, (List.forall_mem_cons.mpr ⟨⟨o_X5_goes, q_1_6, fun _ => ⟨q_4_184, q_4_186, q_s_28⟩, fun h => absurd h (by decide), fun h => absurd h (by decide)⟩, (List.forall_mem_cons.mpr ⟨⟨o_X5_comesOne, q_1_6, fun _ => ⟨q_4_161, q_4_163, q_s_23⟩, fun h => absurd h (by decide), fun h => absurd h (by decide)⟩, (List.forall_mem_cons.mpr ⟨⟨o_X5_comesParcel, q_1_6, fun _ => ⟨q_4_168, q_4_170, q_s_24⟩, fun h => absurd h (by decide), fun h => absurd h (by decide)⟩, (List.forall_mem_cons.mpr ⟨⟨o_X5_comesDays, q_1_6, fun _ => ⟨q_4_180, q_4_182, q_s_27⟩, fun h => absurd h (by decide), fun h => absurd h (by decide)⟩, (List.forall_mem_cons.mpr ⟨⟨o_X5_comesTwo, q_1_6, fun _ => ⟨q_4_226, q_4_228, q_s_37⟩, fun h => absurd h (by decide), fun h => absurd h (by decide)⟩, (List.forall_mem_cons.mpr ⟨⟨o_X5_statement, q_1_6, fun _ => ⟨q_4_119, q_4_121, q_s_14⟩, fun h => absurd h (by decide), fun h => absurd h (by decide)⟩, (List.forall_mem_cons.mpr ⟨⟨o_X5_passesAll, q_1_6, fun _ => ⟨q_4_145, q_4_147, q_s_19⟩, fun h => absurd h (by decide), fun h => absurd h (by decide)⟩, (List.forall_mem_cons.mpr ⟨⟨o_X5_comes, q_1_6, fun _ => ⟨q_4_157, q_4_159, q_s_22⟩, fun h => absurd h (by decide), fun h => absurd h (by decide)⟩, (List.forall_mem_cons.mpr ⟨⟨o_X5_passes, q_1_6, fun _ => ⟨q_4_149, q_4_151, q_s_20⟩, fun h => absurd h (by decide), fun h => absurd h (by decide)⟩, (List.forall_mem_cons.mpr ⟨⟨o_X5_passOne, q_1_6, fun _ => ⟨q_4_153, q_4_155, q_s_21⟩, fun h => absurd h (by decide), fun h => absurd h (by decide)⟩, (List.forall_mem_cons.mpr ⟨⟨o_X5_held, q_1_6, fun h => absurd h (by decide), fun _ => ⟨q_4_196, q_4_197⟩, fun h => absurd h (by decide)⟩, (fun _ h => absurd h List.not_mem_nil)⟩)⟩)⟩)⟩)⟩)⟩)⟩)⟩)⟩)⟩)⟩)⟩)⟩)⟩)⟩)⟩)⟩)⟩)⟩)⟩)⟩)⟩)⟩)⟩)⟩)
theorem mL5_ok1 : ∀ r ∈ ([(184, 1, m_X5_apart), (187, 0, m_X5_maliceOf), (190, 0, m_X5_enemyBut), (193, 0, m_X5_enemyOf), (196, 0, m_X5_isCarrying), (199, 0, m_X5_milesOf), (202, 0, m_X5_comesNearer), (205, 0, m_X5_isTaken), (208, 0, m_X5_goesDay), (212, 0, m_X5_isParcel), (215, 0, m_X5_thoseIn), (218, 1, m_X5_bits), (221, 1, m_X5_notDays), (224, 0, m_X5_thinks), (227, 0, m_X5_forgets), (230, 0, m_X5_whenOf), (233, 0, m_X5_lateOf), (236, 0, m_X5_enemyOfMany), (239, 1, m_X5_has), (242, 0, m_X5_lateSlighting), (245, 0, m_X5_changes), (248, 0, m_X5_changesBack), (251, 0, m_X5_slightsOf), (254, 0, m_X5_bringsIn), (257, 0, m_X5_latePeace)] : List (Nat × Nat × MI)), okL 5 r := (List.forall_mem_cons.mpr ⟨⟨o_X5_apart, q_1_6, fun h => absurd h (by decide), fun _ => ⟨q_4_215, q_4_216⟩, fun h => absurd h (by decide)⟩, (List.forall_mem_cons.mpr ⟨⟨o_X5_maliceOf, q_1_6, fun _ => ⟨q_4_211, q_4_213, q_s_34⟩, fun h => absurd h (by decide), fun h => absurd h (by decide)⟩, (List.forall_mem_cons.mpr ⟨⟨o_X5_enemyBut, q_1_6, fun _ => ⟨q_4_207, q_4_209, q_s_33⟩, fun h => absurd h (by decide), fun h => absurd h (by decide)⟩, (List.forall_mem_cons.mpr ⟨⟨o_X5_enemyOf, q_1_6, fun _ => ⟨q_4_203, q_4_205, q_s_32⟩, fun h => absurd h (by decide), fun h => absurd h (by decide)⟩, (List.forall_mem_cons.mpr ⟨⟨o_X5_isCarrying, q_1_6, fun _ => ⟨q_4_218, q_4_220, q_s_35⟩, fun h => absurd h (by decide), fun h => absurd h (by decide)⟩, (List.forall_mem_cons.mpr ⟨⟨o_X5_milesOf, q_1_6, fun _ => ⟨q_4_222, q_4_224, q_s_36⟩, fun h => absurd h (by decide), fun h => absurd h (by decide)⟩, (List.forall_mem_cons.mpr ⟨⟨o_X5_comesNearer, q_1_6, fun _ => ⟨q_4_192, q_4_194, q_s_30⟩, fun h => absurd h (by decide), fun h => absurd h (by decide)⟩, (List.forall_mem_cons.mpr ⟨⟨o_X5_isTaken, q_1_6, fun _ => ⟨q_4_199, q_4_201, q_s_31⟩, fun h => absurd h (by decide), fun h => absurd h (by decide)⟩, (List.forall_mem_cons.mpr ⟨⟨o_X5_goesDay, q_1_6, fun _ => ⟨q_4_188, q_4_190, q_s_29⟩, fun h => absurd h (by decide), fun h => absurd h (by decide)⟩, (List.forall_mem_cons.mpr ⟨⟨o_X5_isParcel, q_1_6, fun _ => ⟨q_5_18, q_5_20, q_s_41⟩, fun h => absurd h (by decide), fun h => absurd h (by decide)⟩, (List.forall_mem_cons.mpr ⟨⟨o_X5_thoseIn, q_1_6, fun _ => ⟨q_5_54, q_5_56, q_s_42⟩, fun h => absurd h (by decide), fun h => absurd h (by decide)⟩, (List.forall_mem_cons.mpr ⟨⟨o_X5_bits, q_1_6, fun h => absurd h (by decide), fun _ => ⟨q_5_58, q_5_59⟩, fun h => absurd h (by decide)⟩, (List.forall_mem_cons.mpr ⟨⟨o_X5_notDays, q_1_6, fun h => absurd h (by decide), fun _ => ⟨q_5_65, q_5_66⟩, fun h => absurd h (by decide)⟩, (List.forall_mem_cons.mpr ⟨⟨o_X5_thinks, q_1_6, fun _ => ⟨q_5_68, q_5_70, q_s_43⟩, fun h => absurd h (by decide), fun h => absurd h (by decide)⟩, (List.forall_mem_cons.mpr ⟨⟨o_X5_forgets, q_1_6, fun _ => ⟨q_5_72, q_5_74, q_s_44⟩, fun h => absurd h (by decide), fun h => absurd h (by decide)⟩, (List.forall_mem_cons.mpr ⟨⟨o_X5_whenOf, q_1_6, fun _ => ⟨q_5_88, q_5_90, q_s_45⟩, fun h => absurd h (by decide), fun h => absurd h (by decide)⟩, (List.forall_mem_cons.mpr ⟨⟨o_X5_lateOf, q_1_6, fun _ => ⟨q_5_96, q_5_98, q_s_46⟩, fun h => absurd h (by decide), fun h => absurd h (by decide)⟩, (List.forall_mem_cons.mpr ⟨⟨o_X5_enemyOfMany, q_1_6, fun _ => ⟨q_5_116, q_5_118, q_s_47⟩, fun h => absurd h (by decide), fun h => absurd h (by decide)⟩, (List.forall_mem_cons.mpr ⟨⟨o_X5_has, q_1_6, fun h => absurd h (by decide), fun _ => ⟨q_5_124, q_5_125⟩, fun h => absurd h (by decide)⟩, (List.forall_mem_cons.mpr ⟨⟨o_X5_lateSlighting, q_1_6, fun _ => ⟨q_5_131, q_5_133, q_s_48⟩, fun h => absurd h (by decide), fun h => absurd h (by decide)⟩, (List.forall_mem_cons.mpr ⟨⟨o_X5_changes, q_1_6, fun _ => ⟨q_5_147, q_5_149, q_s_51⟩, fun h => absurd h (by decide), fun h => absurd h (by decide)⟩, (List.forall_mem_cons.mpr ⟨⟨o_X5_changesBack, q_1_6, fun _ => ⟨q_5_151, q_5_153, q_s_52⟩, fun h => absurd h (by decide), fun h => absurd h (by decide)⟩, (List.forall_mem_cons.mpr ⟨⟨o_X5_slightsOf, q_1_6, fun _ => ⟨q_5_139, q_5_141, q_s_49⟩, fun h => absurd h (by decide), fun h => absurd h (by decide)⟩, (List.forall_mem_cons.mpr ⟨⟨o_X5_bringsIn, q_1_6, fun _ => ⟨q_5_143, q_5_145, q_s_50⟩, fun h => absurd h (by decide), fun h => absurd h (by decide)⟩, (List.forall_mem_cons.mpr ⟨⟨o_X5_latePeace, q_1_6, fun _ => ⟨q_5_159, q_5_161, q_s_53⟩, fun h => absurd h (by decide), fun h => absurd h (by decide)⟩, (fun _ h => absurd h List.not_mem_nil)⟩)⟩)⟩)⟩)⟩)⟩)⟩)⟩)⟩)⟩)⟩)⟩)⟩)⟩)⟩)⟩)⟩)⟩)⟩)⟩)⟩)⟩)⟩)⟩)⟩)
theorem mL5_ok2 : ∀ r ∈ ([(260, 0, m_X5_latePosted), (263, 0, m_X5_pairs), (266, 0, m_X5_maliceFor), (269, 0, m_X5_broughtTo), (272, 0, m_X5_findBrought), (275, 1, m_X5_divisor), (279, 0, m_X5_lowestOf), (283, 1, m_X5_partOf), (287, 0, m_X5_allHate), (293, 0, m_X5_isSo), (296, 0, m_X5_bitsFor)] : List (Nat × Nat × MI)), okL 5 r := (List.forall_mem_cons.mpr ⟨⟨o_X5_latePosted, q_1_6, fun _ => ⟨q_5_167, q_5_169, q_s_54⟩, fun h => absurd h (by decide), fun h => absurd h (by decide)⟩, (List.forall_mem_cons.mpr ⟨⟨o_X5_pairs, q_1_6, fun _ => ⟨q_5_183, q_5_185, q_s_55⟩, fun h => absurd h (by decide), fun h => absurd h (by decide)⟩, (List.forall_mem_cons.mpr ⟨⟨o_X5_maliceFor, q_1_6, fun _ => ⟨q_5_187, q_5_189, q_s_56⟩, fun h => absurd h (by decide), fun h => absurd h (by decide)⟩, (List.forall_mem_cons.mpr ⟨⟨o_X5_broughtTo, q_1_6, fun _ => ⟨q_5_199, q_5_201, q_s_58⟩, fun h => absurd h (by decide), fun h => absurd h (by decide)⟩, (List.forall_mem_cons.mpr ⟨⟨o_X5_findBrought, q_1_6, fun _ => ⟨q_5_195, q_5_197, q_s_57⟩, fun h => absurd h (by decide), fun h => absurd h (by decide)⟩, (List.forall_mem_cons.mpr ⟨⟨o_X5_divisor, q_1_6, fun h => absurd h (by decide), fun _ => ⟨q_5_215, q_5_216⟩, fun h => absurd h (by decide)⟩, (List.forall_mem_cons.mpr ⟨⟨o_X5_lowestOf, q_1_6, fun _ => ⟨q_5_207, q_5_209, q_s_59⟩, fun h => absurd h (by decide), fun h => absurd h (by decide)⟩, (List.forall_mem_cons.mpr ⟨⟨o_X5_partOf, q_1_6, fun h => absurd h (by decide), fun _ => ⟨q_5_212, q_5_213⟩, fun h => absurd h (by decide)⟩, (List.forall_mem_cons.mpr ⟨⟨o_X5_allHate, q_1_6, fun _ => ⟨q_5_222, q_5_224, q_s_60⟩, fun h => absurd h (by decide), fun h => absurd h (by decide)⟩, (List.forall_mem_cons.mpr ⟨⟨o_X5_isSo, q_1_6, fun _ => ⟨q_5_234, q_5_236, q_s_62⟩, fun h => absurd h (by decide), fun h => absurd h (by decide)⟩, (List.forall_mem_cons.mpr ⟨⟨o_X5_bitsFor, q_1_6, fun _ => ⟨q_5_230, q_5_232, q_s_61⟩, fun h => absurd h (by decide), fun h => absurd h (by decide)⟩, (fun _ h => absurd h List.not_mem_nil)⟩)⟩)⟩)⟩)⟩)⟩)⟩)⟩)⟩)⟩)⟩)
theorem mL5_ok : ∀ r ∈ mL5, okL 5 r := (List.forall_mem_append.mpr ⟨mL5_ok0, (List.forall_mem_append.mpr ⟨mL5_ok1, mL5_ok2⟩)⟩)
theorem mL6_ok0 : ∀ r ∈ ([(13, 0, m_X4_letter), (17, 0, m_X5_letter), (18, 0, m_X4_duchy), (22, 0, m_X5_duchy), (23, 0, m_X4_person), (27, 0, m_X5_person), (28, 0, m_X4_parcel), (31, 0, m_X5_parcel), (32, 0, m_X4_hate), (35, 0, m_X5_hate), (36, 0, m_X4_posts), (39, 0, m_X5_posts), (40, 0, m_X4_hates), (44, 0, m_X5_hates), (45, 0, m_X4_slights), (48, 0, m_X5_slights), (49, 0, m_X4_peace), (52, 0, m_X5_peace), (53, 0, m_X4_moves), (56, 0, m_X5_moves), (57, 0, m_X4_turn), (60, 0, m_X5_turn), (61, 0, m_X4_days), (64, 0, m_X5_days), (65, 0, m_X4_parcelThen)] : List (Nat × Nat × MI)), okL 6 r := (List.forall_mem_cons.mpr ⟨⟨o_X4_letter, q_1_1, fun _ => ⟨q_1_153, q_1_154, q_1_155⟩, fun h => absurd h (by decide), fun h => absurd h (by decide)⟩, (List.forall_mem_cons.mpr ⟨⟨o_X5_letter, q_1_6, fun _ => ⟨q_4_104, q_4_105, q_4_106⟩, fun h => absurd h (by decide), fun h => absurd h (by decide)⟩, (List.forall_mem_cons.mpr ⟨⟨o_X4_duchy, q_1_1, fun _ => ⟨q_1_165, q_1_166, q_1_167⟩, fun h => absurd h (by decide), fun h => absurd h (by decide)⟩, (List.forall_mem_cons.mpr ⟨⟨o_X5_duchy, q_1_6, fun _ => ⟨q_4_115, q_4_116, q_4_117⟩, fun h => absurd h (by decide), fun h => absurd h (by decide)⟩, (List.forall_mem_cons.mpr ⟨⟨o_X4_person, q_1_1, fun _ => ⟨q_2_174, q_2_175, q_2_176⟩, fun h => absurd h (by decide), fun h => absurd h (by decide)⟩, (List.forall_mem_cons.mpr ⟨⟨o_X5_person, q_1_6, fun _ => ⟨q_5_10, q_5_11, q_5_12⟩, fun h => absurd h (by decide), fun h => absurd h (by decide)⟩, (List.forall_mem_cons.mpr ⟨⟨o_X4_parcel, q_1_1, fun _ => ⟨q_2_183, q_2_184, q_2_185⟩, fun h => absurd h (by decide), fun h => absurd h (by decide)⟩, (List.forall_mem_cons.mpr ⟨⟨o_X5_parcel, q_1_6, fun _ => ⟨q_5_14, q_5_15, q_5_16⟩, fun h => absurd h (by decide), fun h => absurd h (by decide)⟩, (List.forall_mem_cons.mpr ⟨⟨o_X4_hate, q_1_1, fun _ => ⟨q_2_196, q_2_197, q_2_198⟩, fun h => absurd h (by decide), fun h => absurd h (by decide)⟩, (List.forall_mem_cons.mpr ⟨⟨o_X5_hate, q_1_6, fun _ => ⟨q_5_22, q_5_23, q_5_24⟩, fun h => absurd h (by decide), fun h => absurd h (by decide)⟩, (List.forall_mem_cons.mpr ⟨⟨o_X4_posts, q_1_1, fun _ => ⟨q_2_202, q_2_203, q_2_204⟩, fun h => absurd h (by decide), fun h => absurd h (by decide)⟩, (List.forall_mem_cons.mpr ⟨⟨o_X5_posts, q_1_6, fun _ => ⟨q_5_26, q_5_27, q_5_28⟩, fun h => absurd h (by decide), fun h => absurd h (by decide)⟩, (List.forall_mem_cons.mpr ⟨⟨o_X4_hates, q_1_1, fun _ => ⟨q_2_207, q_2_208, q_2_209⟩, fun h => absurd h (by decide), fun h => absurd h (by decide)⟩, (List.forall_mem_cons.mpr ⟨⟨o_X5_hates, q_1_6, fun _ => ⟨q_5_30, q_5_31, q_5_32⟩, fun h => absurd h (by decide), fun h => absurd h (by decide)⟩, (List.forall_mem_cons.mpr ⟨⟨o_X4_slights, q_1_1, fun _ => ⟨q_2_212, q_2_213, q_2_214⟩, fun h => absurd h (by decide), fun h => absurd h (by decide)⟩, (List.forall_mem_cons.mpr ⟨⟨o_X5_slights, q_1_6, fun _ => ⟨q_5_34, q_5_35, q_5_36⟩, fun h => absurd h (by decide), fun h => absurd h (by decide)⟩, (List.forall_mem_cons.mpr ⟨⟨o_X4_peace, q_1_1, fun _ => ⟨q_2_217, q_2_218, q_2_219⟩, fun h => absurd h (by decide), fun h => absurd h (by decide)⟩, (List.forall_mem_cons.mpr ⟨⟨o_X5_peace, q_1_6, fun _ => ⟨q_5_38, q_5_39, q_5_40⟩, fun h => absurd h (by decide), fun h => absurd h (by decide)⟩, (List.forall_mem_cons.mpr ⟨⟨o_X4_moves, q_1_1, fun _ => ⟨q_2_222, q_2_223, q_2_224⟩, fun h => absurd h (by decide), fun h => absurd h (by decide)⟩, (List.forall_mem_cons.mpr ⟨⟨o_X5_moves, q_1_6, fun _ => ⟨q_5_42, q_5_43, q_5_44⟩, fun h => absurd h (by decide), fun h => absurd h (by decide)⟩, (List.forall_mem_cons.mpr ⟨⟨o_X4_turn, q_1_1, fun _ => ⟨q_2_226, q_2_227, q_2_228⟩, fun h => absurd h (by decide), fun h => absurd h (by decide)⟩, (List.forall_mem_cons.mpr ⟨⟨o_X5_turn, q_1_6, fun _ => ⟨q_5_46, q_5_47, q_5_48⟩, fun h => absurd h (by decide), fun h => absurd h (by decide)⟩, (List.forall_mem_cons.mpr ⟨⟨o_X4_days, q_1_1, fun _ => ⟨q_2_230, q_2_231, q_2_232⟩, fun h => absurd h (by decide), fun h => absurd h (by decide)⟩, (List.forall_mem_cons.mpr ⟨⟨o_X5_days, q_1_6, fun _ => ⟨q_5_50, q_5_51, q_5_52⟩, fun h => absurd h (by decide), fun h => absurd h (by decide)⟩, (List.forall_mem_cons.mpr ⟨⟨o_X4_parcelThen, q_1_1, fun _ => ⟨q_2_239, q_3_0, q_3_1⟩, fun h => absurd h (by decide), fun h => absurd h (by decide)⟩, (fun _ h => absurd h List.not_mem_nil)⟩)⟩)⟩)⟩)⟩)⟩)⟩)⟩)⟩)⟩)⟩)⟩)⟩)⟩)⟩)⟩)⟩)⟩)⟩)⟩)⟩)⟩)⟩)⟩)⟩)
theorem mL6_ok1 : ∀ r ∈ ([(68, 0, m_X5_parcelThen), (69, 0, m_X4_hateThen), (72, 0, m_X5_hateThen), (73, 0, m_X4_gotThen), (76, 0, m_X5_gotThen), (77, 0, m_X4_when), (80, 0, m_X5_when), (81, 0, m_X4_first), (84, 0, m_X5_first), (85, 0, m_X4_enemy), (88, 0, m_X5_enemy), (89, 0, m_X4_malice), (92, 0, m_X5_malice), (93, 0, m_X4_loved), (96, 0, m_X5_loved), (97, 0, m_X4_busiest), (100, 0, m_X5_busiest), (101, 0, m_X4_ring), (104, 0, m_X5_ring), (105, 0, m_X4_slight), (108, 0, m_X5_slight), (109, 0, m_X4_cost), (112, 0, m_X5_cost), (113, 0, m_X4_makeUp), (116, 0, m_X5_makeUp)] : List (Nat × Nat × MI)), okL 6 r := (List.forall_mem_cons.mpr ⟨⟨o_X5_parcelThen, q_1_6, fun _ => ⟨q_5_61, q_5_62, q_5_63⟩, fun h => absurd h (by decide), fun h => absurd h (by decide)⟩, (List.forall_mem_cons.mpr ⟨⟨o_X4_hateThen, q_1_1, fun _ => ⟨q_3_11, q_3_12, q_3_13⟩, fun h => absurd h (by decide), fun h => absurd h (by decide)⟩, (List.forall_mem_cons.mpr ⟨⟨o_X5_hateThen, q_1_6, fun _ => ⟨q_5_76, q_5_77, q_5_78⟩, fun h => absurd h (by decide), fun h => absurd h (by decide)⟩, (List.forall_mem_cons.mpr ⟨⟨o_X4_gotThen, q_1_1, fun _ => ⟨q_3_15, q_3_16, q_3_17⟩, fun h => absurd h (by decide), fun h => absurd h (by decide)⟩, (List.forall_mem_cons.mpr ⟨⟨o_X5_gotThen, q_1_6, fun _ => ⟨q_5_80, q_5_81, q_5_82⟩, fun h => absurd h (by decide), fun h => absurd h (by decide)⟩, (List.forall_mem_cons.mpr ⟨⟨o_X4_when, q_1_1, fun _ => ⟨q_3_19, q_3_20, q_3_21⟩, fun h => absurd h (by decide), fun h => absurd h (by decide)⟩, (List.forall_mem_cons.mpr ⟨⟨o_X5_when, q_1_6, fun _ => ⟨q_5_84, q_5_85, q_5_86⟩, fun h => absurd h (by decide), fun h => absurd h (by decide)⟩, (List.forall_mem_cons.mpr ⟨⟨o_X4_first, q_1_1, fun _ => ⟨q_3_30, q_3_31, q_3_32⟩, fun h => absurd h (by decide), fun h => absurd h (by decide)⟩, (List.forall_mem_cons.mpr ⟨⟨o_X5_first, q_1_6, fun _ => ⟨q_5_92, q_5_93, q_5_94⟩, fun h => absurd h (by decide), fun h => absurd h (by decide)⟩, (List.forall_mem_cons.mpr ⟨⟨o_X4_enemy, q_1_1, fun _ => ⟨q_3_45, q_3_46, q_3_47⟩, fun h => absurd h (by decide), fun h => absurd h (by decide)⟩, (List.forall_mem_cons.mpr ⟨⟨o_X5_enemy, q_1_6, fun _ => ⟨q_5_100, q_5_101, q_5_102⟩, fun h => absurd h (by decide), fun h => absurd h (by decide)⟩, (List.forall_mem_cons.mpr ⟨⟨o_X4_malice, q_1_1, fun _ => ⟨q_3_50, q_3_51, q_3_52⟩, fun h => absurd h (by decide), fun h => absurd h (by decide)⟩, (List.forall_mem_cons.mpr ⟨⟨o_X5_malice, q_1_6, fun _ => ⟨q_5_104, q_5_105, q_5_106⟩, fun h => absurd h (by decide), fun h => absurd h (by decide)⟩, (List.forall_mem_cons.mpr ⟨⟨o_X4_loved, q_1_1, fun _ => ⟨q_3_55, q_3_56, q_3_57⟩, fun h => absurd h (by decide), fun h => absurd h (by decide)⟩, (List.forall_mem_cons.mpr ⟨⟨o_X5_loved, q_1_6, fun _ => ⟨q_5_108, q_5_109, q_5_110⟩, fun h => absurd h (by decide), fun h => absurd h (by decide)⟩, (List.forall_mem_cons.mpr ⟨⟨o_X4_busiest, q_1_1, fun _ => ⟨q_3_59, q_3_60, q_3_61⟩, fun h => absurd h (by decide), fun h => absurd h (by decide)⟩, (List.forall_mem_cons.mpr ⟨⟨o_X5_busiest, q_1_6, fun _ => ⟨q_5_112, q_5_113, q_5_114⟩, fun h => absurd h (by decide), fun h => absurd h (by decide)⟩, (List.forall_mem_cons.mpr ⟨⟨o_X4_ring, q_1_1, fun _ => ⟨q_3_67, q_3_68, q_3_69⟩, fun h => absurd h (by decide), fun h => absurd h (by decide)⟩, (List.forall_mem_cons.mpr ⟨⟨o_X5_ring, q_1_6, fun _ => ⟨q_5_120, q_5_121, q_5_122⟩, fun h => absurd h (by decide), fun h => absurd h (by decide)⟩, (List.forall_mem_cons.mpr ⟨⟨o_X4_slight, q_1_1, fun _ => ⟨q_3_71, q_3_72, q_3_73⟩, fun h => absurd h (by decide), fun h => absurd h (by decide)⟩, (List.forall_mem_cons.mpr ⟨⟨o_X5_slight, q_1_6, fun _ => ⟨q_5_127, q_5_128, q_5_129⟩, fun h => absurd h (by decide), fun h => absurd h (by decide)⟩, (List.forall_mem_cons.mpr ⟨⟨o_X4_cost, q_1_1, fun _ => ⟨q_3_89, q_3_90, q_3_91⟩, fun h => absurd h (by decide), fun h => absurd h (by decide)⟩, (List.forall_mem_cons.mpr ⟨⟨o_X5_cost, q_1_6, fun _ => ⟨q_5_135, q_5_136, q_5_137⟩, fun h => absurd h (by decide), fun h => absurd h (by decide)⟩, (List.forall_mem_cons.mpr ⟨⟨o_X4_makeUp, q_1_1, fun _ => ⟨q_3_102, q_3_103, q_3_104⟩, fun h => absurd h (by decide), fun h => absurd h (by decide)⟩, (List.forall_mem_cons.mpr ⟨⟨o_X5_makeUp, q_1_6, fun _ => ⟨q_5_155, q_5_156, q_5_157⟩, fun h => absurd h (by decide), fun h => absurd h (by decide)⟩, (fun _ h => absurd h List.not_mem_nil)⟩)⟩)⟩)⟩)⟩)⟩)⟩)⟩)⟩)⟩)⟩)⟩)⟩)⟩)⟩)⟩)⟩)⟩)⟩)⟩)⟩)⟩)⟩)⟩)⟩)
theorem mL6_ok2 : ∀ r ∈ ([(117, 0, m_X4_post), (120, 0, m_X5_post), (121, 0, m_X4_road), (124, 0, m_X5_road), (125, 0, m_X4_farthest), (128, 0, m_X5_farthest), (129, 0, m_X4_fair), (132, 0, m_X5_fair), (133, 0, m_X4_two), (136, 0, m_X5_two), (137, 0, m_X4_snow), (141, 0, m_X5_snow), (142, 0, m_X4_mean), (146, 0, m_X5_mean), (147, 0, m_X4_who), (150, 0, m_X5_who), (151, 0, m_X4_row), (154, 0, m_X5_row), (155, 0, m_X4_judge), (158, 0, m_X5_judge), (159, 0, m_X4_clear), (162, 0, m_X5_clear), (163, 0, m_X4_lots), (166, 0, m_X5_lots), (167, 0, m_X4_image)] : List (Nat × Nat × MI)), okL 6 r := (List.forall_mem_cons.mpr ⟨⟨o_X4_post, q_1_1, fun _ => ⟨q_3_111, q_3_112, q_3_113⟩, fun h => absurd h (by decide), fun h => absurd h (by decide)⟩, (List.forall_mem_cons.mpr ⟨⟨o_X5_post, q_1_6, fun _ => ⟨q_5_163, q_5_164, q_5_165⟩, fun h => absurd h (by decide), fun h => absurd h (by decide)⟩, (List.forall_mem_cons.mpr ⟨⟨o_X4_road, q_1_1, fun _ => ⟨q_3_121, q_3_122, q_3_123⟩, fun h => absurd h (by decide), fun h => absurd h (by decide)⟩, (List.forall_mem_cons.mpr ⟨⟨o_X5_road, q_1_6, fun _ => ⟨q_5_171, q_5_172, q_5_173⟩, fun h => absurd h (by decide), fun h => absurd h (by decide)⟩, (List.forall_mem_cons.mpr ⟨⟨o_X4_farthest, q_1_1, fun _ => ⟨q_3_126, q_3_127, q_3_128⟩, fun h => absurd h (by decide), fun h => absurd h (by decide)⟩, (List.forall_mem_cons.mpr ⟨⟨o_X5_farthest, q_1_6, fun _ => ⟨q_5_175, q_5_176, q_5_177⟩, fun h => absurd h (by decide), fun h => absurd h (by decide)⟩, (List.forall_mem_cons.mpr ⟨⟨o_X4_fair, q_1_1, fun _ => ⟨q_3_130, q_3_131, q_3_132⟩, fun h => absurd h (by decide), fun h => absurd h (by decide)⟩, (List.forall_mem_cons.mpr ⟨⟨o_X5_fair, q_1_6, fun _ => ⟨q_5_179, q_5_180, q_5_181⟩, fun h => absurd h (by decide), fun h => absurd h (by decide)⟩, (List.forall_mem_cons.mpr ⟨⟨o_X4_two, q_1_1, fun _ => ⟨q_3_142, q_3_143, q_3_144⟩, fun h => absurd h (by decide), fun h => absurd h (by decide)⟩, (List.forall_mem_cons.mpr ⟨⟨o_X5_two, q_1_6, fun _ => ⟨q_5_191, q_5_192, q_5_193⟩, fun h => absurd h (by decide), fun h => absurd h (by decide)⟩, (List.forall_mem_cons.mpr ⟨⟨o_X4_snow, q_1_1, fun _ => ⟨q_3_154, q_3_155, q_3_156⟩, fun h => absurd h (by decide), fun h => absurd h (by decide)⟩, (List.forall_mem_cons.mpr ⟨⟨o_X5_snow, q_1_6, fun _ => ⟨q_5_203, q_5_204, q_5_205⟩, fun h => absurd h (by decide), fun h => absurd h (by decide)⟩, (List.forall_mem_cons.mpr ⟨⟨o_X4_mean, q_1_1, fun _ => ⟨q_3_173, q_3_174, q_3_175⟩, fun h => absurd h (by decide), fun h => absurd h (by decide)⟩, (List.forall_mem_cons.mpr ⟨⟨o_X5_mean, q_1_6, fun _ => ⟨q_5_218, q_5_219, q_5_220⟩, fun h => absurd h (by decide), fun h => absurd h (by decide)⟩, (List.forall_mem_cons.mpr ⟨⟨o_X4_who, q_1_1, fun _ => ⟨q_3_181, q_3_182, q_3_183⟩, fun h => absurd h (by decide), fun h => absurd h (by decide)⟩, (List.forall_mem_cons.mpr ⟨⟨o_X5_who, q_1_6, fun _ => ⟨q_5_226, q_5_227, q_5_228⟩, fun h => absurd h (by decide), fun h => absurd h (by decide)⟩, (List.forall_mem_cons.mpr ⟨⟨o_X4_row, q_1_1, fun _ => ⟨q_3_202, q_3_203, q_3_204⟩, fun h => absurd h (by decide), fun h => absurd h (by decide)⟩, (List.forall_mem_cons.mpr ⟨⟨o_X5_row, q_1_6, fun _ => ⟨q_5_238, q_5_239, q_6_0⟩, fun h => absurd h (by decide), fun h => absurd h (by decide)⟩, (List.forall_mem_cons.mpr ⟨⟨o_X4_judge, q_1_1, fun _ => ⟨q_3_210, q_3_211, q_3_212⟩, fun h => absurd h (by decide), fun h => absurd h (by decide)⟩, (List.forall_mem_cons.mpr ⟨⟨o_X5_judge, q_1_6, fun _ => ⟨q_6_2, q_6_3, q_6_4⟩, fun h => absurd h (by decide), fun h => absurd h (by decide)⟩, (List.forall_mem_cons.mpr ⟨⟨o_X4_clear, q_1_1, fun _ => ⟨q_3_216, q_3_217, q_3_218⟩, fun h => absurd h (by decide), fun h => absurd h (by decide)⟩, (List.forall_mem_cons.mpr ⟨⟨o_X5_clear, q_1_6, fun _ => ⟨q_6_6, q_6_7, q_6_8⟩, fun h => absurd h (by decide), fun h => absurd h (by decide)⟩, (List.forall_mem_cons.mpr ⟨⟨o_X4_lots, q_1_1, fun _ => ⟨q_3_220, q_3_221, q_3_222⟩, fun h => absurd h (by decide), fun h => absurd h (by decide)⟩, (List.forall_mem_cons.mpr ⟨⟨o_X5_lots, q_1_6, fun _ => ⟨q_6_10, q_6_11, q_6_12⟩, fun h => absurd h (by decide), fun h => absurd h (by decide)⟩, (List.forall_mem_cons.mpr ⟨⟨o_X4_image, q_1_1, fun _ => ⟨q_3_237, q_3_238, q_3_239⟩, fun h => absurd h (by decide), fun h => absurd h (by decide)⟩, (fun _ h => absurd h List.not_mem_nil)⟩)⟩)⟩)⟩)⟩)⟩)⟩)⟩)⟩)⟩)⟩)⟩)⟩)⟩)⟩)⟩)⟩)⟩)⟩)⟩)⟩)⟩)⟩)⟩)⟩)
theorem mL6_ok3 : ∀ r ∈ ([(170, 0, m_X5_image), (171, 0, m_X4_on), (174, 0, m_X5_on), (175, 0, m_X4_count), (178, 0, m_X5_count)] : List (Nat × Nat × MI)), okL 6 r := (List.forall_mem_cons.mpr ⟨⟨o_X5_image, q_1_6, fun _ => ⟨q_5_2, q_5_3, q_5_4⟩, fun h => absurd h (by decide), fun h => absurd h (by decide)⟩, (List.forall_mem_cons.mpr ⟨⟨o_X4_on, q_1_1, fun _ => ⟨q_4_1, q_4_2, q_4_3⟩, fun h => absurd h (by decide), fun h => absurd h (by decide)⟩, (List.forall_mem_cons.mpr ⟨⟨o_X5_on, q_1_6, fun _ => ⟨q_5_6, q_5_7, q_5_8⟩, fun h => absurd h (by decide), fun h => absurd h (by decide)⟩, (List.forall_mem_cons.mpr ⟨⟨o_X4_count, q_1_1, fun _ => ⟨q_4_5, q_4_6, q_4_7⟩, fun h => absurd h (by decide), fun h => absurd h (by decide)⟩, (List.forall_mem_cons.mpr ⟨⟨o_X5_count, q_1_6, fun _ => ⟨q_6_17, q_6_18, q_6_19⟩, fun h => absurd h (by decide), fun h => absurd h (by decide)⟩, (fun _ h => absurd h List.not_mem_nil)⟩)⟩)⟩)⟩)⟩)
theorem mL6_ok : ∀ r ∈ mL6, okL 6 r := (List.forall_mem_append.mpr ⟨mL6_ok0, (List.forall_mem_append.mpr ⟨mL6_ok1, (List.forall_mem_append.mpr ⟨mL6_ok2, mL6_ok3⟩)⟩)⟩)
theorem mL7_ok0 : ∀ r ∈ ([(335, 0, m_J0_coder_7d493), (492, 0, m_J0_isLatin1_aae02), (495, 1, m_J1_charAt_3b067), (505, 0, m_J0_length_8abf5), (633, 0, m_J0_indexOf_7cf53), (637, 1, m_J1_indexOf_4cfef), (1059, 1, m_J3_checkIndex_8e157)] : List (Nat × Nat × MI)), okL 7 r := (List.forall_mem_cons.mpr ⟨⟨o_J0_coder_7d493, q_1_7, fun _ => ⟨q_1_191, q_1_192, q_1_193⟩, fun h => absurd h (by decide), fun h => absurd h (by decide)⟩, (List.forall_mem_cons.mpr ⟨⟨o_J0_isLatin1_aae02, q_1_7, fun _ => ⟨q_1_201, q_1_202, q_1_203⟩, fun h => absurd h (by decide), fun h => absurd h (by decide)⟩, (List.forall_mem_cons.mpr ⟨⟨o_J1_charAt_3b067, q_1_8, fun h => absurd h (by decide), fun _ => ⟨q_1_205, q_1_206⟩, fun h => absurd h (by decide)⟩, (List.forall_mem_cons.mpr ⟨⟨o_J0_length_8abf5, q_1_7, fun _ => ⟨q_2_7, q_1_188, q_1_189⟩, fun h => absurd h (by decide), fun h => absurd h (by decide)⟩, (List.forall_mem_cons.mpr ⟨⟨o_J0_indexOf_7cf53, q_1_7, fun _ => ⟨q_2_3, q_2_4, q_2_5⟩, fun h => absurd h (by decide), fun h => absurd h (by decide)⟩, (List.forall_mem_cons.mpr ⟨⟨o_J1_indexOf_4cfef, q_1_8, fun h => absurd h (by decide), fun _ => ⟨q_2_8, q_2_9⟩, fun h => absurd h (by decide)⟩, (List.forall_mem_cons.mpr ⟨⟨o_J3_checkIndex_8e157, q_1_9, fun h => absurd h (by decide), fun _ => ⟨q_1_213, q_1_214⟩, fun h => absurd h (by decide)⟩, (fun _ h => absurd h List.not_mem_nil)⟩)⟩)⟩)⟩)⟩)⟩)⟩)
theorem mL7_ok : ∀ r ∈ mL7, okL 7 r := mL7_ok0
theorem mL8_ok0 : ∀ r ∈ ([(9, 1, m_J0_checkIndex_df160), (88, 1, m_J1_canEncode_9a6ad), (95, 1, m_J1_indexOfChar_4cfef)] : List (Nat × Nat × MI)), okL 8 r := (List.forall_mem_cons.mpr ⟨⟨o_J0_checkIndex_df160, q_1_7, fun h => absurd h (by decide), fun _ => ⟨q_1_208, q_1_209⟩, fun h => absurd h (by decide)⟩, (List.forall_mem_cons.mpr ⟨⟨o_J1_canEncode_9a6ad, q_1_8, fun h => absurd h (by decide), fun _ => ⟨q_2_11, q_2_12⟩, fun h => absurd h (by decide)⟩, (List.forall_mem_cons.mpr ⟨⟨o_J1_indexOfChar_4cfef, q_1_8, fun h => absurd h (by decide), fun _ => ⟨q_2_20, q_2_21⟩, fun h => absurd h (by decide)⟩, (fun _ h => absurd h List.not_mem_nil)⟩)⟩)⟩)
theorem mL8_ok : ∀ r ∈ mL8, okL 8 r := mL8_ok0
theorem fLs_ok : ∀ (c : Nat), ∀ r ∈ fLs c, okF c r := by
  intro c
  unfold fLs
  split
  · exact fL0_ok
  · exact fL1_ok
  · exact fL2_ok
  · exact fL3_ok
  · exact fL4_ok
  · exact fL5_ok
  · exact fun _ h => absurd h List.not_mem_nil
theorem mLs_ok : ∀ (c : Nat), ∀ r ∈ mLs c, okL c r := by
  intro c
  unfold mLs
  split
  · exact mL0_ok
  · exact mL2_ok
  · exact mL3_ok
  · exact mL4_ok
  · exact mL5_ok
  · exact mL6_ok
  · exact mL7_ok
  · exact mL8_ok
  · exact fun _ h => absurd h List.not_mem_nil
theorem fld_ok {c i : Nat} {x : Nat × Nat} (h : fld c i = some x) : okF c (i, x.1, x.2) := by
  unfold fld at h
  cases hf : (fLs c).find? (fun r => r.1 == i) with
  | none => rw [hf] at h; cases h
  | some r =>
    rw [hf] at h
    obtain ⟨a, b, d⟩ := r
    have h2 := List.mem_of_find?_eq_some hf
    have h3 := List.find?_some hf
    have h4 : a = i := by simpa using h3
    subst h4
    cases h
    exact fLs_ok c _ h2
theorem mth_ok {c i : Nat} {x : Nat × MI} (h : mth c i = some x) : okL c (i, x.1, x.2) := by
  unfold mth at h
  cases hf : (mLs c).find? (fun r => r.1 == i) with
  | none => rw [hf] at h; cases h
  | some r =>
    rw [hf] at h
    obtain ⟨a, b, d⟩ := r
    have h2 := List.mem_of_find?_eq_some hf
    have h3 := List.find?_some hf
    have h4 : a = i := by simpa using h3
    subst h4
    cases h
    exact mLs_ok c _ h2
theorem conI_ok {c i : Nat} {n : Int} (h : conI c i = some n) : Cond.constant (kN c) i (Int32.ofInt n) ∈ wT := by
  unfold conI at h
  split at h
  · cases h; exact q_3_232
  · cases h; exact q_3_233
  · cases h; exact q_3_234
  · cases h; exact q_6_14
  · cases h; exact q_6_15
  · cases h; exact q_6_16
  · cases h
theorem conL_ok {c i : Nat} {n : Int} (h : conL c i = some n) : Cond.constantLong (kN c) i (Int64.ofInt n) ∈ wT := by
  unfold conL at h
  split at h
  · cases h; exact q_3_162
  · cases h; exact q_5_211
  · cases h
theorem q_ac : Cond.methodLink RX0 52 arraycopyName ∈ wT ∧ Cond.native arraycopyName ∈ wT ∧ Cond.static arraycopyName ∈ wT ∧ Cond.initialized "java/lang/System" ∈ wT := ⟨q_2_67, q_2_69, q_2_68, q_1_13⟩
theorem q_max : Cond.static Lib.Math.max.name ∈ wT ∧ Cond.initialized "java/lang/Math" ∈ wT ∧ Cond.code Lib.Math.max.name Lib.Math.max.code 2 (some .int) ∈ wT := ⟨q_2_15, q_1_11, q_2_16⟩
theorem mthM_max {c i : Nat} (h : mthM c i = some 0) : Cond.methodLink (kN c) i Lib.Math.max.name ∈ wT := by
  unfold mthM at h
  split at h
  · cases h
  · exact q_2_95
  · cases h
  · exact q_2_58
  · exact q_3_101
  · exact q_2_171
  · cases h
  · exact q_2_14
  · cases h
theorem q_min : Cond.static Lib.Math.min.name ∈ wT ∧ Cond.initialized "java/lang/Math" ∈ wT ∧ Cond.code Lib.Math.min.name Lib.Math.min.code 2 (some .int) ∈ wT := ⟨q_2_18, q_1_11, q_2_19⟩
theorem mthM_min {c i : Nat} (h : mthM c i = some 1) : Cond.methodLink (kN c) i Lib.Math.min.name ∈ wT := by
  unfold mthM at h
  split at h
  · exact q_2_86
  · cases h
  · cases h
  · cases h
  · cases h
  · cases h
  · exact q_2_17
  · cases h
  · cases h
theorem q_abs : Cond.static Lib.Math.abs.name ∈ wT ∧ Cond.initialized "java/lang/Math" ∈ wT ∧ Cond.code Lib.Math.abs.name Lib.Math.abs.code 1 (some .int) ∈ wT := ⟨q_2_117, q_1_11, q_2_118⟩
theorem mthM_abs {c i : Nat} (h : mthM c i = some 2) : Cond.methodLink (kN c) i Lib.Math.abs.name ∈ wT := by
  unfold mthM at h
  split at h
  · cases h
  · cases h
  · exact q_2_116
  · cases h
  · cases h
  · cases h
  · cases h
  · cases h
  · cases h
theorem mthM_lt {c i q : Nat} (h : mthM c i = some q) : q = 0 ∨ q = 1 ∨ q = 2 := by
  unfold mthM at h
  split at h <;> cases h <;> simp
theorem q_jf : Cond.fieldLink RJ0 9 "java/lang/String" "value" "[B" ∈ wT ∧ Cond.fieldLink RJ0 15 "java/lang/String" "coder" "B" ∈ wT ∧ Cond.fieldLink RJ0 38 "java/lang/String" "COMPACT_STRINGS" "Z" ∈ wT ∧ Cond.fieldLink RJ0 1053 "jdk/internal/util/Preconditions" "SIOOBE_FORMATTER" "Ljava/util/function/BiFunction;" ∈ wT := ⟨q_6_21, q_6_22, q_1_195, q_1_211⟩
theorem vw_kN {c : Nat} {x : vw_C} (h : vwCl[c]? = some x) : x.1 = kN c := by
  match c, h with
  | 0, h => cases h; rfl
  | 1, h => cases h; rfl
  | 2, h => cases h; rfl
  | 3, h => cases h; rfl
  | 4, h => cases h; rfl
  | 5, h => cases h; rfl
  | c + 6, h => simp [vwCl] at h
