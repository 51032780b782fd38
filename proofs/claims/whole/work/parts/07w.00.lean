theorem lm_0 {w : Cond} (i : Nat) (h : (k2_sels lw_privs)[i]? = some w) : w ∈ lw_tbl := List.mem_append_left _ (List.mem_of_getElem? h)
theorem lm_1 {w : Cond} (i : Nat) (h : tables_1_1[i]? = some w) : w ∈ lw_tbl := List.mem_append_right _ (List.mem_append_left _ (List.mem_of_getElem? h))
theorem lm_2 {w : Cond} (i : Nat) (h : tables_1_2[i]? = some w) : w ∈ lw_tbl := List.mem_append_right _ (List.mem_append_right _ (List.mem_append_left _ (List.mem_of_getElem? h)))
theorem lm_3 {w : Cond} (i : Nat) (h : tables_1_3[i]? = some w) : w ∈ lw_tbl := List.mem_append_right _ (List.mem_append_right _ (List.mem_append_right _ (List.mem_append_left _ (List.mem_of_getElem? h))))
theorem lm_4 {w : Cond} (i : Nat) (h : tables_1_4[i]? = some w) : w ∈ lw_tbl := List.mem_append_right _ (List.mem_append_right _ (List.mem_append_right _ (List.mem_append_right _ (List.mem_of_getElem? h))))
theorem yW_m {w : Cond} (h : w ∈ lw_tbl) (hg : goodWord w = true) : w ∈ yW := List.mem_filter.mpr ⟨h, hg⟩
theorem yNs_m {w : Cond} (h : w ∈ lw_tbl) (hg : yNk w = true) : w ∈ yNs := List.mem_filter.mpr ⟨h, hg⟩
theorem yAll {w : Cond} {ws : List Cond} (h : w ∈ yW) (t : ∀ x ∈ ws, x ∈ yW) : ∀ x ∈ w :: ws, x ∈ yW := fun x hx => (List.mem_cons.mp hx).elim (fun e => by rw [e]; exact h) (t x)
theorem yNil : ∀ x ∈ ([] : List Cond), x ∈ yW := fun _ hx => absurd hx List.not_mem_nil
theorem wc_Yf_init : Cond.code y_Yf_init prog_1_method_1_code 2 none ∈ yW := (yW_m (lm_1 19 rfl) rfl)
theorem wc_Yf_row : Cond.code y_Yf_row prog_1_method_2_code 4 (some .int) ∈ yW := (yW_m (lm_1 125 rfl) rfl)
theorem wc_Yf_weight : Cond.code y_Yf_weight prog_1_method_3_code 6 (some .boolean) ∈ yW := (yW_m (lm_1 231 rfl) rfl)
theorem wc_Yf_add : Cond.code y_Yf_add prog_1_method_4_code 9 (some .int) ∈ yW := (yW_m (lm_2 52 rfl) rfl)
theorem wc_Yf_times : Cond.code y_Yf_times prog_1_method_5_code 12 (some .int) ∈ yW := (yW_m (lm_2 94 rfl) rfl)
theorem wc_Yf_rest : Cond.code y_Yf_rest prog_1_method_6_code 1 (some .long) ∈ yW := (yW_m (lm_1 108 rfl) rfl)
theorem wc_Yf_least : Cond.code y_Yf_least prog_1_method_7_code 5 (some .int) ∈ yW := (yW_m (lm_2 113 rfl) rfl)
theorem wc_Yf_span : Cond.code y_Yf_span prog_1_method_8_code 3 (some .int) ∈ yW := (yW_m (lm_2 155 rfl) rfl)
theorem wc_Yf_digit : Cond.code y_Yf_digit prog_1_method_9_code 5 (some .int) ∈ yW := (yW_m (lm_2 164 rfl) rfl)
theorem wc_Yf_total : Cond.code y_Yf_total prog_1_method_10_code 4 (some .int) ∈ yW := (yW_m (lm_2 180 rfl) rfl)
theorem wc_Yf_compare : Cond.code y_Yf_compare prog_1_method_11_code 5 (some .int) ∈ yW := (yW_m (lm_2 187 rfl) rfl)
theorem wc_Yf_about : Cond.code y_Yf_about prog_1_method_12_code 4 (some .int) ∈ yW := (yW_m (lm_2 194 rfl) rfl)
theorem wc_Yf_over : Cond.code y_Yf_over prog_1_method_13_code 5 (some .long) ∈ yW := (yW_m (lm_2 206 rfl) rfl)
theorem wc_Yf_written : Cond.code y_Yf_written prog_1_method_14_code 2 (some .long) ∈ yW := (yW_m (lm_1 112 rfl) rfl)
theorem wc_Yf_day : Cond.code y_Yf_day prog_1_method_15_code 5 (some .int) ∈ yW := (yW_m (lm_2 214 rfl) rfl)
theorem wc_Yf_date : Cond.code y_Yf_date prog_1_method_16_code 6 (some .int) ∈ yW := (yW_m (lm_3 21 rfl) rfl)
theorem wc_Yf_clear : Cond.code y_Yf_clear prog_1_method_17_code 2 (some .int) ∈ yW := (yW_m (lm_1 116 rfl) rfl)
theorem wc_Yf_knownRow : Cond.code y_Yf_knownRow prog_1_method_18_code 2 (some (.object "YearFractions$Row")) ∈ yW := (yW_m (lm_1 239 rfl) rfl)
theorem wc_Yf_knownRowWith : Cond.code y_Yf_knownRowWith prog_1_method_19_code 4 (some (.object "YearFractions$Row")) ∈ yW := (yW_m (lm_1 235 rfl) rfl)
theorem wc_Yf_freeRow : Cond.code y_Yf_freeRow prog_1_method_20_code 1 (some (.object "YearFractions$Row")) ∈ yW := (yW_m (lm_1 129 rfl) rfl)
theorem wc_Yf_keepFreeRow : Cond.code y_Yf_keepFreeRow prog_1_method_21_code 2 (some .int) ∈ yW := (yW_m (lm_1 223 rfl) rfl)
theorem wc_Yf_requireDigit : Cond.code y_Yf_requireDigit prog_1_method_22_code 2 none ∈ yW := (yW_m (lm_2 167 rfl) rfl)
theorem wc_Yf_requireCalendar : Cond.code y_Yf_requireCalendar prog_1_method_23_code 1 none ∈ yW := (yW_m (lm_2 217 rfl) rfl)
theorem wc_Yf_storeWeight : Cond.code y_Yf_storeWeight prog_1_method_24_code 3 none ∈ yW := (yW_m (lm_2 67 rfl) rfl)
theorem wc_Yf_gather : Cond.code y_Yf_gather prog_1_method_25_code 4 none ∈ yW := (yW_m (lm_2 119 rfl) rfl)
theorem wc_Yf_countWeighted : Cond.code y_Yf_countWeighted prog_1_method_26_code 4 (some .int) ∈ yW := (yW_m (lm_2 198 rfl) rfl)
theorem wc_Yf_takeUntilEnough : Cond.code y_Yf_takeUntilEnough prog_1_method_27_code 4 none ∈ yW := (yW_m (lm_2 132 rfl) rfl)
theorem wc_Mod_init : Cond.code y_Mod_init prog_7_method_1_code 1 none ∈ yW := (yW_m (lm_3 45 rfl) rfl)
theorem wc_Mod_thrown : Cond.code y_Mod_thrown prog_7_method_2_code 1 (some .int) ∈ yW := (yW_m (lm_3 87 rfl) rfl)
theorem wc_Mod_goes : Cond.code y_Mod_goes prog_7_method_3_code 5 (some .boolean) ∈ yW := (yW_m (lm_3 98 rfl) rfl)
theorem wc_Mod_within : Cond.code y_Mod_within prog_7_method_4_code 3 (some .boolean) ∈ yW := (yW_m (lm_3 94 rfl) rfl)
theorem wc_Mod_isRow : Cond.code y_Mod_isRow prog_7_method_5_code 2 (some .boolean) ∈ yW := (yW_m (lm_3 114 rfl) rfl)
theorem wc_Mod_has : Cond.code y_Mod_has prog_7_method_6_code 3 (some .boolean) ∈ yW := (yW_m (lm_3 110 rfl) rfl)
theorem wc_Mod_at : Cond.code y_Mod_at prog_7_method_7_code 3 (some .int) ∈ yW := (yW_m (lm_3 119 rfl) rfl)
theorem wc_Mod_open : Cond.code y_Mod_open prog_7_method_8_code 4 none ∈ yW := (yW_m (lm_3 102 rfl) rfl)
theorem wc_Mod_row : Cond.code y_Mod_row prog_7_method_9_code 4 (some .int) ∈ yW := (yW_m (lm_3 91 rfl) rfl)
theorem wc_Mod_weight : Cond.code y_Mod_weight prog_7_method_10_code 10 (some .boolean) ∈ yW := (yW_m (lm_3 106 rfl) rfl)
theorem wc_Mod_blank : Cond.code y_Mod_blank prog_7_method_11_code 2 none ∈ yW := (yW_m (lm_3 127 rfl) rfl)
theorem wc_Mod_plus : Cond.code y_Mod_plus prog_7_method_12_code 6 none ∈ yW := (yW_m (lm_3 131 rfl) rfl)
theorem wc_Mod_keep : Cond.code y_Mod_keep prog_7_method_13_code 5 (some .boolean) ∈ yW := (yW_m (lm_3 135 rfl) rfl)
theorem wc_Mod_add : Cond.code y_Mod_add prog_7_method_14_code 8 (some .int) ∈ yW := (yW_m (lm_3 123 rfl) rfl)
theorem wc_Mod_multiply : Cond.code y_Mod_multiply prog_7_method_15_code 7 none ∈ yW := (yW_m (lm_3 144 rfl) rfl)
theorem wc_Mod_divide : Cond.code y_Mod_divide prog_7_method_16_code 5 (some .long) ∈ yW := (yW_m (lm_3 148 rfl) rfl)
theorem wc_Mod_times : Cond.code y_Mod_times prog_7_method_17_code 11 (some .int) ∈ yW := (yW_m (lm_3 139 rfl) rfl)
theorem wc_Mod_rest : Cond.code y_Mod_rest prog_7_method_18_code 1 (some .long) ∈ yW := (yW_m (lm_3 152 rfl) rfl)
theorem wc_Mod_compared : Cond.code y_Mod_compared prog_7_method_19_code 4 (some .int) ∈ yW := (yW_m (lm_3 177 rfl) rfl)
theorem wc_Mod_sumUp : Cond.code y_Mod_sumUp prog_7_method_20_code 4 none ∈ yW := (yW_m (lm_3 169 rfl) rfl)
theorem wc_Mod_grow : Cond.code y_Mod_grow prog_7_method_21_code 7 none ∈ yW := (yW_m (lm_3 173 rfl) rfl)
theorem wc_Mod_enough : Cond.code y_Mod_enough prog_7_method_22_code 5 (some .boolean) ∈ yW := (yW_m (lm_3 165 rfl) rfl)
theorem wc_Mod_isNothing : Cond.code y_Mod_isNothing prog_7_method_23_code 4 (some .boolean) ∈ yW := (yW_m (lm_3 161 rfl) rfl)
theorem wc_Mod_least : Cond.code y_Mod_least prog_7_method_24_code 7 (some .int) ∈ yW := (yW_m (lm_3 156 rfl) rfl)
theorem wc_Mod_span : Cond.code y_Mod_span prog_7_method_25_code 3 (some .int) ∈ yW := (yW_m (lm_3 181 rfl) rfl)
theorem wc_Mod_digit : Cond.code y_Mod_digit prog_7_method_26_code 4 (some .int) ∈ yW := (yW_m (lm_3 185 rfl) rfl)
theorem wc_Mod_total : Cond.code y_Mod_total prog_7_method_27_code 3 (some .int) ∈ yW := (yW_m (lm_3 189 rfl) rfl)
theorem wc_Mod_compare : Cond.code y_Mod_compare prog_7_method_28_code 5 (some .int) ∈ yW := (yW_m (lm_3 193 rfl) rfl)
theorem wc_Mod_about : Cond.code y_Mod_about prog_7_method_29_code 7 (some .int) ∈ yW := (yW_m (lm_3 197 rfl) rfl)
theorem wc_Mod_over : Cond.code y_Mod_over prog_7_method_30_code 5 (some .long) ∈ yW := (yW_m (lm_3 201 rfl) rfl)
theorem wc_Mod_written : Cond.code y_Mod_written prog_7_method_31_code 2 (some .long) ∈ yW := (yW_m (lm_3 205 rfl) rfl)
theorem wc_Mod_rest_2 : Cond.code y_Mod_rest_2 prog_7_method_32_code 3 (some .int) ∈ yW := (yW_m (lm_3 221 rfl) rfl)
theorem wc_Mod_isLeap : Cond.code y_Mod_isLeap prog_7_method_33_code 3 (some .boolean) ∈ yW := (yW_m (lm_3 218 rfl) rfl)
theorem wc_Mod_yearDays : Cond.code y_Mod_yearDays prog_7_method_34_code 2 (some .int) ∈ yW := (yW_m (lm_3 239 rfl) rfl)
theorem wc_Mod_months : Cond.code y_Mod_months prog_7_method_35_code 1 (some .int) ∈ yW := (yW_m (lm_3 212 rfl) rfl)
theorem wc_Mod_monthDays : Cond.code y_Mod_monthDays prog_7_method_36_code 3 (some .int) ∈ yW := (yW_m (lm_3 215 rfl) rfl)
theorem wc_Mod_cycle : Cond.code y_Mod_cycle prog_7_method_37_code 1 (some .int) ∈ yW := (yW_m (lm_3 233 rfl) rfl)
theorem wc_Mod_cycleDays : Cond.code y_Mod_cycleDays prog_7_method_38_code 3 (some .int) ∈ yW := (yW_m (lm_3 236 rfl) rfl)
theorem wc_Mod_origin : Cond.code y_Mod_origin prog_7_method_39_code 1 (some .int) ∈ yW := (yW_m (lm_3 224 rfl) rfl)
theorem wc_Mod_behind : Cond.code y_Mod_behind prog_7_method_40_code 6 (some .int) ∈ yW := (yW_m (lm_3 230 rfl) rfl)
theorem wc_Mod_firstOf : Cond.code y_Mod_firstOf prog_7_method_41_code 2 (some .int) ∈ yW := (yW_m (lm_3 227 rfl) rfl)
theorem wc_Mod_day : Cond.code y_Mod_day prog_7_method_42_code 9 (some .int) ∈ yW := (yW_m (lm_3 209 rfl) rfl)
theorem wc_Mod_date : Cond.code y_Mod_date prog_7_method_43_code 8 (some .int) ∈ yW := (yW_m (lm_4 3 rfl) rfl)
theorem wc_Mod_clear : Cond.code y_Mod_clear prog_7_method_44_code 2 (some .int) ∈ yW := (yW_m (lm_4 9 rfl) rfl)
theorem wc_Cal_months : Cond.code y_Cal_months prog_2_method_2_code 1 (some .int) ∈ yW := (yW_m (lm_2 221 rfl) rfl)
theorem wc_Cal_isLeap : Cond.code y_Cal_isLeap prog_2_method_3_code 2 (some .boolean) ∈ yW := (yW_m (lm_2 228 rfl) rfl)
theorem wc_Cal_isLunarLeap : Cond.code y_Cal_isLunarLeap prog_2_method_4_code 5 (some .boolean) ∈ yW := (yW_m (lm_2 234 rfl) rfl)
theorem wc_Cal_lunarLeapsTo : Cond.code y_Cal_lunarLeapsTo prog_2_method_5_code 6 (some .int) ∈ yW := (yW_m (lm_3 10 rfl) rfl)
theorem wc_Cal_monthDays : Cond.code y_Cal_monthDays prog_2_method_6_code 3 (some .int) ∈ yW := (yW_m (lm_2 225 rfl) rfl)
theorem wc_Cal_daysAhead : Cond.code y_Cal_daysAhead prog_2_method_7_code 5 (some .int) ∈ yW := (yW_m (lm_3 13 rfl) rfl)
theorem wc_Cal_newYear : Cond.code y_Cal_newYear prog_2_method_8_code 4 (some .int) ∈ yW := (yW_m (lm_3 2 rfl) rfl)
theorem wc_Cal_yearOf : Cond.code y_Cal_yearOf prog_2_method_9_code 5 (some .int) ∈ yW := (yW_m (lm_3 28 rfl) rfl)
theorem wc_Cal_monthOf : Cond.code y_Cal_monthOf prog_2_method_10_code 5 (some .int) ∈ yW := (yW_m (lm_3 39 rfl) rfl)
theorem wc_Set_init : Cond.code y_Set_init prog_3_method_1_code 1 none ∈ yW := (yW_m (lm_1 49 rfl) rfl)
theorem wc_Set_rank : Cond.code y_Set_rank prog_3_method_2_code 4 none ∈ yW := (yW_m (lm_2 136 rfl) rfl)
theorem wc_Set_take : Cond.code y_Set_take prog_3_method_3_code 4 (some .int) ∈ yW := (yW_m (lm_2 144 rfl) rfl)
theorem wc_Set_findSpans : Cond.code y_Set_findSpans prog_3_method_4_code 4 none ∈ yW := (yW_m (lm_2 148 rfl) rfl)
theorem wc_Row_init : Cond.code y_Row_init prog_4_method_1_code 1 none ∈ yW := (yW_m (lm_1 28 rfl) rfl)
theorem wc_Row_open : Cond.code y_Row_open prog_4_method_2_code 4 none ∈ yW := (yW_m (lm_1 219 rfl) rfl)
theorem wc_Row_last : Cond.code y_Row_last prog_4_method_3_code 1 (some .int) ∈ yW := (yW_m (lm_2 23 rfl) rfl)
theorem wc_Row_has : Cond.code y_Row_has prog_4_method_4_code 2 (some .boolean) ∈ yW := (yW_m (lm_2 19 rfl) rfl)
theorem wc_Row_read : Cond.code y_Row_read prog_4_method_5_code 5 none ∈ yW := (yW_m (lm_2 29 rfl) rfl)
theorem wc_Row_write : Cond.code y_Row_write prog_4_method_6_code 5 none ∈ yW := (yW_m (lm_2 40 rfl) rfl)
theorem wc_Row_isLess : Cond.code y_Row_isLess prog_4_method_7_code 8 (some .boolean) ∈ yW := (yW_m (lm_2 140 rfl) rfl)
theorem wc_Who_init : Cond.code y_Who_init prog_5_method_1_code 1 none ∈ yW := (yW_m (lm_1 76 rfl) rfl)
theorem wc_Who_become : Cond.code y_Who_become prog_5_method_2_code 6 none ∈ yW := (yW_m (lm_2 33 rfl) rfl)
theorem wc_Who_increase : Cond.code y_Who_increase prog_5_method_3_code 7 none ∈ yW := (yW_m (lm_2 64 rfl) rfl)
theorem wc_Who_becomeScaled : Cond.code y_Who_becomeScaled prog_5_method_4_code 9 none ∈ yW := (yW_m (lm_2 128 rfl) rfl)
theorem wc_Who_becomeProduct : Cond.code y_Who_becomeProduct prog_5_method_5_code 9 none ∈ yW := (yW_m (lm_2 101 rfl) rfl)
theorem wc_Who_divide : Cond.code y_Who_divide prog_5_method_6_code 7 (some .long) ∈ yW := (yW_m (lm_2 106 rfl) rfl)
theorem wc_Who_order : Cond.code y_Who_order prog_5_method_7_code 3 (some .int) ∈ yW := (yW_m (lm_2 44 rfl) rfl)
theorem wc_Who_isZero : Cond.code y_Who_isZero prog_5_method_8_code 2 (some .boolean) ∈ yW := (yW_m (lm_2 123 rfl) rfl)
theorem wc_Who_isWeight : Cond.code y_Who_isWeight prog_5_method_9_code 2 (some .boolean) ∈ yW := (yW_m (lm_2 71 rfl) rfl)
theorem wc_Who_digitAt : Cond.code y_Who_digitAt prog_5_method_10_code 5 (some .int) ∈ yW := (yW_m (lm_2 172 rfl) rfl)
theorem wc_Law_row : Cond.codeWith y_Law_row method_3_code 5 (some .int) [(0, 10, 13, 13), (0, 10, 17, 15)] ∈ yW := (yW_m (lm_1 119 rfl) rfl)
theorem wc_Law_weight : Cond.codeWith y_Law_weight method_4_code 7 (some .int) [(0, 19, 22, 21), (0, 19, 26, 15)] ∈ yW := (yW_m (lm_1 226 rfl) rfl)
theorem wc_Law_add : Cond.codeWith y_Law_add method_5_code 5 (some .int) [(0, 10, 13, 21), (0, 10, 17, 13), (0, 10, 21, 15), (0, 10, 25, 26)] ∈ yW := (yW_m (lm_2 47 rfl) rfl)
theorem wc_Law_times : Cond.codeWith y_Law_times method_6_code 6 (some .int) [(0, 12, 15, 21), (0, 12, 19, 13), (0, 12, 23, 15), (0, 12, 27, 26)] ∈ yW := (yW_m (lm_2 90 rfl) rfl)
theorem wc_Law_least : Cond.codeWith y_Law_least method_7_code 6 (some .int) [(0, 12, 15, 21), (0, 12, 19, 15), (0, 12, 23, 26)] ∈ yW := (yW_m (lm_2 109 rfl) rfl)
theorem wc_Law_span : Cond.codeWith y_Law_span method_8_code 5 (some .int) [(0, 10, 13, 21)] ∈ yW := (yW_m (lm_2 151 rfl) rfl)
theorem wc_Law_digit : Cond.codeWith y_Law_digit method_9_code 6 (some .int) [(0, 12, 15, 21)] ∈ yW := (yW_m (lm_2 160 rfl) rfl)
theorem wc_Law_total : Cond.codeWith y_Law_total method_10_code 5 (some .int) [(0, 10, 13, 21)] ∈ yW := (yW_m (lm_2 176 rfl) rfl)
theorem wc_Law_compare : Cond.codeWith y_Law_compare method_11_code 7 (some .int) [(0, 14, 17, 21)] ∈ yW := (yW_m (lm_2 183 rfl) rfl)
theorem wc_Law_about : Cond.codeWith y_Law_about method_12_code 5 (some .int) [(0, 10, 13, 21), (0, 10, 17, 15)] ∈ yW := (yW_m (lm_2 190 rfl) rfl)
theorem wc_Law_over : Cond.codeWith y_Law_over method_13_code 7 (some .int) [(0, 10, 13, 26)] ∈ yW := (yW_m (lm_2 202 rfl) rfl)
theorem wc_Law_day : Cond.codeWith y_Law_day method_14_code 7 (some .int) [(0, 14, 17, 21), (0, 14, 21, 15)] ∈ yW := (yW_m (lm_2 210 rfl) rfl)
theorem wc_Law_date : Cond.codeWith y_Law_date method_15_code 6 (some .int) [(0, 12, 15, 21), (0, 12, 19, 15)] ∈ yW := (yW_m (lm_3 17 rfl) rfl)
abbrev b_Jmin : ByteArray := prog_13_method_69_code
def y_Jmin : MethodName := ⟨"java/lang/Math", "min", "(II)I"⟩
theorem wc_Jmin : Cond.code y_Jmin prog_13_method_69_code 2 (some .int) ∈ yW := (yW_m (lm_2 55 rfl) rfl)
abbrev b_Jmax : ByteArray := prog_13_method_65_code
def y_Jmax : MethodName := ⟨"java/lang/Math", "max", "(II)I"⟩
theorem wc_Jmax : Cond.code y_Jmax prog_13_method_65_code 2 (some .int) ∈ yW := (yW_m (lm_2 59 rfl) rfl)
abbrev b_JfloorMod : ByteArray := prog_13_method_50_code
def y_JfloorMod : MethodName := ⟨"java/lang/Math", "floorMod", "(II)I"⟩
theorem wc_JfloorMod : Cond.code y_JfloorMod prog_13_method_50_code 3 (some .int) ∈ yW := (yW_m (lm_2 231 rfl) rfl)
abbrev b_JfloorDiv : ByteArray := prog_13_method_47_code
def y_JfloorDiv : MethodName := ⟨"java/lang/Math", "floorDiv", "(II)I"⟩
theorem wc_JfloorDiv : Cond.code y_JfloorDiv prog_13_method_47_code 3 (some .int) ∈ yW := (yW_m (lm_3 7 rfl) rfl)
abbrev b_JfloorDivL : ByteArray := prog_13_method_49_code
def y_JfloorDivL : MethodName := ⟨"java/lang/Math", "floorDiv", "(JJ)J"⟩
theorem wc_JfloorDivL : Cond.code y_JfloorDivL prog_13_method_49_code 6 (some .long) ∈ yW := (yW_m (lm_3 35 rfl) rfl)
theorem wc_Obj : Cond.code objectInit ⟨#[0xb1]⟩ 1 none ∈ yW := (yW_m (lm_1 22 rfl) rfl)
theorem np_Yf_init : y_Yf_init.cls ≠ "java/lang/invoke/MethodHandle" ∧ y_Yf_init.cls ≠ "java/lang/invoke/VarHandle" ∧ (parseMethodDescriptor y_Yf_init.desc).map (fun d => d.parameters.length) = some 0 := by decide +kernel
theorem np_Yf_row : y_Yf_row.cls ≠ "java/lang/invoke/MethodHandle" ∧ y_Yf_row.cls ≠ "java/lang/invoke/VarHandle" ∧ (parseMethodDescriptor y_Yf_row.desc).map (fun d => d.parameters.length) = some 2 := by decide +kernel
theorem np_Yf_weight : y_Yf_weight.cls ≠ "java/lang/invoke/MethodHandle" ∧ y_Yf_weight.cls ≠ "java/lang/invoke/VarHandle" ∧ (parseMethodDescriptor y_Yf_weight.desc).map (fun d => d.parameters.length) = some 3 := by decide +kernel
theorem np_Yf_add : y_Yf_add.cls ≠ "java/lang/invoke/MethodHandle" ∧ y_Yf_add.cls ≠ "java/lang/invoke/VarHandle" ∧ (parseMethodDescriptor y_Yf_add.desc).map (fun d => d.parameters.length) = some 2 := by decide +kernel
theorem np_Yf_times : y_Yf_times.cls ≠ "java/lang/invoke/MethodHandle" ∧ y_Yf_times.cls ≠ "java/lang/invoke/VarHandle" ∧ (parseMethodDescriptor y_Yf_times.desc).map (fun d => d.parameters.length) = some 3 := by decide +kernel
theorem np_Yf_rest : y_Yf_rest.cls ≠ "java/lang/invoke/MethodHandle" ∧ y_Yf_rest.cls ≠ "java/lang/invoke/VarHandle" ∧ (parseMethodDescriptor y_Yf_rest.desc).map (fun d => d.parameters.length) = some 0 := by decide +kernel
theorem np_Yf_least : y_Yf_least.cls ≠ "java/lang/invoke/MethodHandle" ∧ y_Yf_least.cls ≠ "java/lang/invoke/VarHandle" ∧ (parseMethodDescriptor y_Yf_least.desc).map (fun d => d.parameters.length) = some 3 := by decide +kernel
theorem np_Yf_span : y_Yf_span.cls ≠ "java/lang/invoke/MethodHandle" ∧ y_Yf_span.cls ≠ "java/lang/invoke/VarHandle" ∧ (parseMethodDescriptor y_Yf_span.desc).map (fun d => d.parameters.length) = some 2 := by decide +kernel
theorem np_Yf_digit : y_Yf_digit.cls ≠ "java/lang/invoke/MethodHandle" ∧ y_Yf_digit.cls ≠ "java/lang/invoke/VarHandle" ∧ (parseMethodDescriptor y_Yf_digit.desc).map (fun d => d.parameters.length) = some 3 := by decide +kernel
theorem np_Yf_total : y_Yf_total.cls ≠ "java/lang/invoke/MethodHandle" ∧ y_Yf_total.cls ≠ "java/lang/invoke/VarHandle" ∧ (parseMethodDescriptor y_Yf_total.desc).map (fun d => d.parameters.length) = some 2 := by decide +kernel
theorem np_Yf_compare : y_Yf_compare.cls ≠ "java/lang/invoke/MethodHandle" ∧ y_Yf_compare.cls ≠ "java/lang/invoke/VarHandle" ∧ (parseMethodDescriptor y_Yf_compare.desc).map (fun d => d.parameters.length) = some 4 := by decide +kernel
theorem np_Yf_about : y_Yf_about.cls ≠ "java/lang/invoke/MethodHandle" ∧ y_Yf_about.cls ≠ "java/lang/invoke/VarHandle" ∧ (parseMethodDescriptor y_Yf_about.desc).map (fun d => d.parameters.length) = some 2 := by decide +kernel
theorem np_Yf_over : y_Yf_over.cls ≠ "java/lang/invoke/MethodHandle" ∧ y_Yf_over.cls ≠ "java/lang/invoke/VarHandle" ∧ (parseMethodDescriptor y_Yf_over.desc).map (fun d => d.parameters.length) = some 2 := by decide +kernel
theorem np_Yf_written : y_Yf_written.cls ≠ "java/lang/invoke/MethodHandle" ∧ y_Yf_written.cls ≠ "java/lang/invoke/VarHandle" ∧ (parseMethodDescriptor y_Yf_written.desc).map (fun d => d.parameters.length) = some 1 := by decide +kernel
theorem np_Yf_day : y_Yf_day.cls ≠ "java/lang/invoke/MethodHandle" ∧ y_Yf_day.cls ≠ "java/lang/invoke/VarHandle" ∧ (parseMethodDescriptor y_Yf_day.desc).map (fun d => d.parameters.length) = some 4 := by decide +kernel
theorem np_Yf_date : y_Yf_date.cls ≠ "java/lang/invoke/MethodHandle" ∧ y_Yf_date.cls ≠ "java/lang/invoke/VarHandle" ∧ (parseMethodDescriptor y_Yf_date.desc).map (fun d => d.parameters.length) = some 3 := by decide +kernel
theorem np_Yf_clear : y_Yf_clear.cls ≠ "java/lang/invoke/MethodHandle" ∧ y_Yf_clear.cls ≠ "java/lang/invoke/VarHandle" ∧ (parseMethodDescriptor y_Yf_clear.desc).map (fun d => d.parameters.length) = some 0 := by decide +kernel
theorem np_Yf_knownRow : y_Yf_knownRow.cls ≠ "java/lang/invoke/MethodHandle" ∧ y_Yf_knownRow.cls ≠ "java/lang/invoke/VarHandle" ∧ (parseMethodDescriptor y_Yf_knownRow.desc).map (fun d => d.parameters.length) = some 1 := by decide +kernel
theorem np_Yf_knownRowWith : y_Yf_knownRowWith.cls ≠ "java/lang/invoke/MethodHandle" ∧ y_Yf_knownRowWith.cls ≠ "java/lang/invoke/VarHandle" ∧ (parseMethodDescriptor y_Yf_knownRowWith.desc).map (fun d => d.parameters.length) = some 2 := by decide +kernel
theorem np_Yf_freeRow : y_Yf_freeRow.cls ≠ "java/lang/invoke/MethodHandle" ∧ y_Yf_freeRow.cls ≠ "java/lang/invoke/VarHandle" ∧ (parseMethodDescriptor y_Yf_freeRow.desc).map (fun d => d.parameters.length) = some 0 := by decide +kernel
theorem np_Yf_keepFreeRow : y_Yf_keepFreeRow.cls ≠ "java/lang/invoke/MethodHandle" ∧ y_Yf_keepFreeRow.cls ≠ "java/lang/invoke/VarHandle" ∧ (parseMethodDescriptor y_Yf_keepFreeRow.desc).map (fun d => d.parameters.length) = some 0 := by decide +kernel
theorem np_Yf_requireDigit : y_Yf_requireDigit.cls ≠ "java/lang/invoke/MethodHandle" ∧ y_Yf_requireDigit.cls ≠ "java/lang/invoke/VarHandle" ∧ (parseMethodDescriptor y_Yf_requireDigit.desc).map (fun d => d.parameters.length) = some 2 := by decide +kernel
theorem np_Yf_requireCalendar : y_Yf_requireCalendar.cls ≠ "java/lang/invoke/MethodHandle" ∧ y_Yf_requireCalendar.cls ≠ "java/lang/invoke/VarHandle" ∧ (parseMethodDescriptor y_Yf_requireCalendar.desc).map (fun d => d.parameters.length) = some 1 := by decide +kernel
theorem np_Yf_storeWeight : y_Yf_storeWeight.cls ≠ "java/lang/invoke/MethodHandle" ∧ y_Yf_storeWeight.cls ≠ "java/lang/invoke/VarHandle" ∧ (parseMethodDescriptor y_Yf_storeWeight.desc).map (fun d => d.parameters.length) = some 3 := by decide +kernel
theorem np_Yf_gather : y_Yf_gather.cls ≠ "java/lang/invoke/MethodHandle" ∧ y_Yf_gather.cls ≠ "java/lang/invoke/VarHandle" ∧ (parseMethodDescriptor y_Yf_gather.desc).map (fun d => d.parameters.length) = some 3 := by decide +kernel
theorem np_Yf_countWeighted : y_Yf_countWeighted.cls ≠ "java/lang/invoke/MethodHandle" ∧ y_Yf_countWeighted.cls ≠ "java/lang/invoke/VarHandle" ∧ (parseMethodDescriptor y_Yf_countWeighted.desc).map (fun d => d.parameters.length) = some 1 := by decide +kernel
theorem np_Yf_takeUntilEnough : y_Yf_takeUntilEnough.cls ≠ "java/lang/invoke/MethodHandle" ∧ y_Yf_takeUntilEnough.cls ≠ "java/lang/invoke/VarHandle" ∧ (parseMethodDescriptor y_Yf_takeUntilEnough.desc).map (fun d => d.parameters.length) = some 2 := by decide +kernel
theorem np_Mod_init : y_Mod_init.cls ≠ "java/lang/invoke/MethodHandle" ∧ y_Mod_init.cls ≠ "java/lang/invoke/VarHandle" ∧ (parseMethodDescriptor y_Mod_init.desc).map (fun d => d.parameters.length) = some 0 := by decide +kernel
theorem np_Mod_thrown : y_Mod_thrown.cls ≠ "java/lang/invoke/MethodHandle" ∧ y_Mod_thrown.cls ≠ "java/lang/invoke/VarHandle" ∧ (parseMethodDescriptor y_Mod_thrown.desc).map (fun d => d.parameters.length) = some 0 := by decide +kernel
theorem np_Mod_goes : y_Mod_goes.cls ≠ "java/lang/invoke/MethodHandle" ∧ y_Mod_goes.cls ≠ "java/lang/invoke/VarHandle" ∧ (parseMethodDescriptor y_Mod_goes.desc).map (fun d => d.parameters.length) = some 4 := by decide +kernel
theorem np_Mod_within : y_Mod_within.cls ≠ "java/lang/invoke/MethodHandle" ∧ y_Mod_within.cls ≠ "java/lang/invoke/VarHandle" ∧ (parseMethodDescriptor y_Mod_within.desc).map (fun d => d.parameters.length) = some 3 := by decide +kernel
theorem np_Mod_isRow : y_Mod_isRow.cls ≠ "java/lang/invoke/MethodHandle" ∧ y_Mod_isRow.cls ≠ "java/lang/invoke/VarHandle" ∧ (parseMethodDescriptor y_Mod_isRow.desc).map (fun d => d.parameters.length) = some 1 := by decide +kernel
theorem np_Mod_has : y_Mod_has.cls ≠ "java/lang/invoke/MethodHandle" ∧ y_Mod_has.cls ≠ "java/lang/invoke/VarHandle" ∧ (parseMethodDescriptor y_Mod_has.desc).map (fun d => d.parameters.length) = some 2 := by decide +kernel
theorem np_Mod_at : y_Mod_at.cls ≠ "java/lang/invoke/MethodHandle" ∧ y_Mod_at.cls ≠ "java/lang/invoke/VarHandle" ∧ (parseMethodDescriptor y_Mod_at.desc).map (fun d => d.parameters.length) = some 2 := by decide +kernel
theorem np_Mod_open : y_Mod_open.cls ≠ "java/lang/invoke/MethodHandle" ∧ y_Mod_open.cls ≠ "java/lang/invoke/VarHandle" ∧ (parseMethodDescriptor y_Mod_open.desc).map (fun d => d.parameters.length) = some 2 := by decide +kernel
theorem np_Mod_row : y_Mod_row.cls ≠ "java/lang/invoke/MethodHandle" ∧ y_Mod_row.cls ≠ "java/lang/invoke/VarHandle" ∧ (parseMethodDescriptor y_Mod_row.desc).map (fun d => d.parameters.length) = some 2 := by decide +kernel
theorem np_Mod_weight : y_Mod_weight.cls ≠ "java/lang/invoke/MethodHandle" ∧ y_Mod_weight.cls ≠ "java/lang/invoke/VarHandle" ∧ (parseMethodDescriptor y_Mod_weight.desc).map (fun d => d.parameters.length) = some 3 := by decide +kernel
theorem np_Mod_blank : y_Mod_blank.cls ≠ "java/lang/invoke/MethodHandle" ∧ y_Mod_blank.cls ≠ "java/lang/invoke/VarHandle" ∧ (parseMethodDescriptor y_Mod_blank.desc).map (fun d => d.parameters.length) = some 0 := by decide +kernel
theorem np_Mod_plus : y_Mod_plus.cls ≠ "java/lang/invoke/MethodHandle" ∧ y_Mod_plus.cls ≠ "java/lang/invoke/VarHandle" ∧ (parseMethodDescriptor y_Mod_plus.desc).map (fun d => d.parameters.length) = some 2 := by decide +kernel
theorem np_Mod_keep : y_Mod_keep.cls ≠ "java/lang/invoke/MethodHandle" ∧ y_Mod_keep.cls ≠ "java/lang/invoke/VarHandle" ∧ (parseMethodDescriptor y_Mod_keep.desc).map (fun d => d.parameters.length) = some 2 := by decide +kernel
theorem np_Mod_add : y_Mod_add.cls ≠ "java/lang/invoke/MethodHandle" ∧ y_Mod_add.cls ≠ "java/lang/invoke/VarHandle" ∧ (parseMethodDescriptor y_Mod_add.desc).map (fun d => d.parameters.length) = some 2 := by decide +kernel
theorem np_Mod_multiply : y_Mod_multiply.cls ≠ "java/lang/invoke/MethodHandle" ∧ y_Mod_multiply.cls ≠ "java/lang/invoke/VarHandle" ∧ (parseMethodDescriptor y_Mod_multiply.desc).map (fun d => d.parameters.length) = some 2 := by decide +kernel
theorem np_Mod_divide : y_Mod_divide.cls ≠ "java/lang/invoke/MethodHandle" ∧ y_Mod_divide.cls ≠ "java/lang/invoke/VarHandle" ∧ (parseMethodDescriptor y_Mod_divide.desc).map (fun d => d.parameters.length) = some 1 := by decide +kernel
theorem np_Mod_times : y_Mod_times.cls ≠ "java/lang/invoke/MethodHandle" ∧ y_Mod_times.cls ≠ "java/lang/invoke/VarHandle" ∧ (parseMethodDescriptor y_Mod_times.desc).map (fun d => d.parameters.length) = some 3 := by decide +kernel
theorem np_Mod_rest : y_Mod_rest.cls ≠ "java/lang/invoke/MethodHandle" ∧ y_Mod_rest.cls ≠ "java/lang/invoke/VarHandle" ∧ (parseMethodDescriptor y_Mod_rest.desc).map (fun d => d.parameters.length) = some 0 := by decide +kernel
theorem np_Mod_compared : y_Mod_compared.cls ≠ "java/lang/invoke/MethodHandle" ∧ y_Mod_compared.cls ≠ "java/lang/invoke/VarHandle" ∧ (parseMethodDescriptor y_Mod_compared.desc).map (fun d => d.parameters.length) = some 2 := by decide +kernel
theorem np_Mod_sumUp : y_Mod_sumUp.cls ≠ "java/lang/invoke/MethodHandle" ∧ y_Mod_sumUp.cls ≠ "java/lang/invoke/VarHandle" ∧ (parseMethodDescriptor y_Mod_sumUp.desc).map (fun d => d.parameters.length) = some 2 := by decide +kernel
theorem np_Mod_grow : y_Mod_grow.cls ≠ "java/lang/invoke/MethodHandle" ∧ y_Mod_grow.cls ≠ "java/lang/invoke/VarHandle" ∧ (parseMethodDescriptor y_Mod_grow.desc).map (fun d => d.parameters.length) = some 1 := by decide +kernel
theorem np_Mod_enough : y_Mod_enough.cls ≠ "java/lang/invoke/MethodHandle" ∧ y_Mod_enough.cls ≠ "java/lang/invoke/VarHandle" ∧ (parseMethodDescriptor y_Mod_enough.desc).map (fun d => d.parameters.length) = some 3 := by decide +kernel
theorem np_Mod_isNothing : y_Mod_isNothing.cls ≠ "java/lang/invoke/MethodHandle" ∧ y_Mod_isNothing.cls ≠ "java/lang/invoke/VarHandle" ∧ (parseMethodDescriptor y_Mod_isNothing.desc).map (fun d => d.parameters.length) = some 1 := by decide +kernel
theorem np_Mod_least : y_Mod_least.cls ≠ "java/lang/invoke/MethodHandle" ∧ y_Mod_least.cls ≠ "java/lang/invoke/VarHandle" ∧ (parseMethodDescriptor y_Mod_least.desc).map (fun d => d.parameters.length) = some 3 := by decide +kernel
theorem np_Mod_span : y_Mod_span.cls ≠ "java/lang/invoke/MethodHandle" ∧ y_Mod_span.cls ≠ "java/lang/invoke/VarHandle" ∧ (parseMethodDescriptor y_Mod_span.desc).map (fun d => d.parameters.length) = some 2 := by decide +kernel
theorem np_Mod_digit : y_Mod_digit.cls ≠ "java/lang/invoke/MethodHandle" ∧ y_Mod_digit.cls ≠ "java/lang/invoke/VarHandle" ∧ (parseMethodDescriptor y_Mod_digit.desc).map (fun d => d.parameters.length) = some 3 := by decide +kernel
theorem np_Mod_total : y_Mod_total.cls ≠ "java/lang/invoke/MethodHandle" ∧ y_Mod_total.cls ≠ "java/lang/invoke/VarHandle" ∧ (parseMethodDescriptor y_Mod_total.desc).map (fun d => d.parameters.length) = some 2 := by decide +kernel
theorem np_Mod_compare : y_Mod_compare.cls ≠ "java/lang/invoke/MethodHandle" ∧ y_Mod_compare.cls ≠ "java/lang/invoke/VarHandle" ∧ (parseMethodDescriptor y_Mod_compare.desc).map (fun d => d.parameters.length) = some 4 := by decide +kernel
theorem np_Mod_about : y_Mod_about.cls ≠ "java/lang/invoke/MethodHandle" ∧ y_Mod_about.cls ≠ "java/lang/invoke/VarHandle" ∧ (parseMethodDescriptor y_Mod_about.desc).map (fun d => d.parameters.length) = some 2 := by decide +kernel
theorem np_Mod_over : y_Mod_over.cls ≠ "java/lang/invoke/MethodHandle" ∧ y_Mod_over.cls ≠ "java/lang/invoke/VarHandle" ∧ (parseMethodDescriptor y_Mod_over.desc).map (fun d => d.parameters.length) = some 2 := by decide +kernel
theorem np_Mod_written : y_Mod_written.cls ≠ "java/lang/invoke/MethodHandle" ∧ y_Mod_written.cls ≠ "java/lang/invoke/VarHandle" ∧ (parseMethodDescriptor y_Mod_written.desc).map (fun d => d.parameters.length) = some 1 := by decide +kernel
theorem np_Mod_rest_2 : y_Mod_rest_2.cls ≠ "java/lang/invoke/MethodHandle" ∧ y_Mod_rest_2.cls ≠ "java/lang/invoke/VarHandle" ∧ (parseMethodDescriptor y_Mod_rest_2.desc).map (fun d => d.parameters.length) = some 2 := by decide +kernel
theorem np_Mod_isLeap : y_Mod_isLeap.cls ≠ "java/lang/invoke/MethodHandle" ∧ y_Mod_isLeap.cls ≠ "java/lang/invoke/VarHandle" ∧ (parseMethodDescriptor y_Mod_isLeap.desc).map (fun d => d.parameters.length) = some 2 := by decide +kernel
theorem np_Mod_yearDays : y_Mod_yearDays.cls ≠ "java/lang/invoke/MethodHandle" ∧ y_Mod_yearDays.cls ≠ "java/lang/invoke/VarHandle" ∧ (parseMethodDescriptor y_Mod_yearDays.desc).map (fun d => d.parameters.length) = some 2 := by decide +kernel
theorem np_Mod_months : y_Mod_months.cls ≠ "java/lang/invoke/MethodHandle" ∧ y_Mod_months.cls ≠ "java/lang/invoke/VarHandle" ∧ (parseMethodDescriptor y_Mod_months.desc).map (fun d => d.parameters.length) = some 1 := by decide +kernel
theorem np_Mod_monthDays : y_Mod_monthDays.cls ≠ "java/lang/invoke/MethodHandle" ∧ y_Mod_monthDays.cls ≠ "java/lang/invoke/VarHandle" ∧ (parseMethodDescriptor y_Mod_monthDays.desc).map (fun d => d.parameters.length) = some 3 := by decide +kernel
theorem np_Mod_cycle : y_Mod_cycle.cls ≠ "java/lang/invoke/MethodHandle" ∧ y_Mod_cycle.cls ≠ "java/lang/invoke/VarHandle" ∧ (parseMethodDescriptor y_Mod_cycle.desc).map (fun d => d.parameters.length) = some 1 := by decide +kernel
theorem np_Mod_cycleDays : y_Mod_cycleDays.cls ≠ "java/lang/invoke/MethodHandle" ∧ y_Mod_cycleDays.cls ≠ "java/lang/invoke/VarHandle" ∧ (parseMethodDescriptor y_Mod_cycleDays.desc).map (fun d => d.parameters.length) = some 1 := by decide +kernel
theorem np_Mod_origin : y_Mod_origin.cls ≠ "java/lang/invoke/MethodHandle" ∧ y_Mod_origin.cls ≠ "java/lang/invoke/VarHandle" ∧ (parseMethodDescriptor y_Mod_origin.desc).map (fun d => d.parameters.length) = some 1 := by decide +kernel
theorem np_Mod_behind : y_Mod_behind.cls ≠ "java/lang/invoke/MethodHandle" ∧ y_Mod_behind.cls ≠ "java/lang/invoke/VarHandle" ∧ (parseMethodDescriptor y_Mod_behind.desc).map (fun d => d.parameters.length) = some 2 := by decide +kernel
theorem np_Mod_firstOf : y_Mod_firstOf.cls ≠ "java/lang/invoke/MethodHandle" ∧ y_Mod_firstOf.cls ≠ "java/lang/invoke/VarHandle" ∧ (parseMethodDescriptor y_Mod_firstOf.desc).map (fun d => d.parameters.length) = some 2 := by decide +kernel
theorem np_Mod_day : y_Mod_day.cls ≠ "java/lang/invoke/MethodHandle" ∧ y_Mod_day.cls ≠ "java/lang/invoke/VarHandle" ∧ (parseMethodDescriptor y_Mod_day.desc).map (fun d => d.parameters.length) = some 4 := by decide +kernel
theorem np_Mod_date : y_Mod_date.cls ≠ "java/lang/invoke/MethodHandle" ∧ y_Mod_date.cls ≠ "java/lang/invoke/VarHandle" ∧ (parseMethodDescriptor y_Mod_date.desc).map (fun d => d.parameters.length) = some 3 := by decide +kernel
theorem np_Mod_clear : y_Mod_clear.cls ≠ "java/lang/invoke/MethodHandle" ∧ y_Mod_clear.cls ≠ "java/lang/invoke/VarHandle" ∧ (parseMethodDescriptor y_Mod_clear.desc).map (fun d => d.parameters.length) = some 0 := by decide +kernel
theorem np_Cal_months : y_Cal_months.cls ≠ "java/lang/invoke/MethodHandle" ∧ y_Cal_months.cls ≠ "java/lang/invoke/VarHandle" ∧ (parseMethodDescriptor y_Cal_months.desc).map (fun d => d.parameters.length) = some 1 := by decide +kernel
theorem np_Cal_isLeap : y_Cal_isLeap.cls ≠ "java/lang/invoke/MethodHandle" ∧ y_Cal_isLeap.cls ≠ "java/lang/invoke/VarHandle" ∧ (parseMethodDescriptor y_Cal_isLeap.desc).map (fun d => d.parameters.length) = some 2 := by decide +kernel
theorem np_Cal_isLunarLeap : y_Cal_isLunarLeap.cls ≠ "java/lang/invoke/MethodHandle" ∧ y_Cal_isLunarLeap.cls ≠ "java/lang/invoke/VarHandle" ∧ (parseMethodDescriptor y_Cal_isLunarLeap.desc).map (fun d => d.parameters.length) = some 1 := by decide +kernel
theorem np_Cal_lunarLeapsTo : y_Cal_lunarLeapsTo.cls ≠ "java/lang/invoke/MethodHandle" ∧ y_Cal_lunarLeapsTo.cls ≠ "java/lang/invoke/VarHandle" ∧ (parseMethodDescriptor y_Cal_lunarLeapsTo.desc).map (fun d => d.parameters.length) = some 1 := by decide +kernel
theorem np_Cal_monthDays : y_Cal_monthDays.cls ≠ "java/lang/invoke/MethodHandle" ∧ y_Cal_monthDays.cls ≠ "java/lang/invoke/VarHandle" ∧ (parseMethodDescriptor y_Cal_monthDays.desc).map (fun d => d.parameters.length) = some 3 := by decide +kernel
theorem np_Cal_daysAhead : y_Cal_daysAhead.cls ≠ "java/lang/invoke/MethodHandle" ∧ y_Cal_daysAhead.cls ≠ "java/lang/invoke/VarHandle" ∧ (parseMethodDescriptor y_Cal_daysAhead.desc).map (fun d => d.parameters.length) = some 3 := by decide +kernel
theorem np_Cal_newYear : y_Cal_newYear.cls ≠ "java/lang/invoke/MethodHandle" ∧ y_Cal_newYear.cls ≠ "java/lang/invoke/VarHandle" ∧ (parseMethodDescriptor y_Cal_newYear.desc).map (fun d => d.parameters.length) = some 2 := by decide +kernel
theorem np_Cal_yearOf : y_Cal_yearOf.cls ≠ "java/lang/invoke/MethodHandle" ∧ y_Cal_yearOf.cls ≠ "java/lang/invoke/VarHandle" ∧ (parseMethodDescriptor y_Cal_yearOf.desc).map (fun d => d.parameters.length) = some 2 := by decide +kernel
theorem np_Cal_monthOf : y_Cal_monthOf.cls ≠ "java/lang/invoke/MethodHandle" ∧ y_Cal_monthOf.cls ≠ "java/lang/invoke/VarHandle" ∧ (parseMethodDescriptor y_Cal_monthOf.desc).map (fun d => d.parameters.length) = some 3 := by decide +kernel
theorem np_Set_init : y_Set_init.cls ≠ "java/lang/invoke/MethodHandle" ∧ y_Set_init.cls ≠ "java/lang/invoke/VarHandle" ∧ (parseMethodDescriptor y_Set_init.desc).map (fun d => d.parameters.length) = some 0 := by decide +kernel
theorem np_Set_rank : y_Set_rank.cls ≠ "java/lang/invoke/MethodHandle" ∧ y_Set_rank.cls ≠ "java/lang/invoke/VarHandle" ∧ (parseMethodDescriptor y_Set_rank.desc).map (fun d => d.parameters.length) = some 1 := by decide +kernel
theorem np_Set_take : y_Set_take.cls ≠ "java/lang/invoke/MethodHandle" ∧ y_Set_take.cls ≠ "java/lang/invoke/VarHandle" ∧ (parseMethodDescriptor y_Set_take.desc).map (fun d => d.parameters.length) = some 2 := by decide +kernel
theorem np_Set_findSpans : y_Set_findSpans.cls ≠ "java/lang/invoke/MethodHandle" ∧ y_Set_findSpans.cls ≠ "java/lang/invoke/VarHandle" ∧ (parseMethodDescriptor y_Set_findSpans.desc).map (fun d => d.parameters.length) = some 1 := by decide +kernel
theorem np_Row_init : y_Row_init.cls ≠ "java/lang/invoke/MethodHandle" ∧ y_Row_init.cls ≠ "java/lang/invoke/VarHandle" ∧ (parseMethodDescriptor y_Row_init.desc).map (fun d => d.parameters.length) = some 0 := by decide +kernel
theorem np_Row_open : y_Row_open.cls ≠ "java/lang/invoke/MethodHandle" ∧ y_Row_open.cls ≠ "java/lang/invoke/VarHandle" ∧ (parseMethodDescriptor y_Row_open.desc).map (fun d => d.parameters.length) = some 2 := by decide +kernel
theorem np_Row_last : y_Row_last.cls ≠ "java/lang/invoke/MethodHandle" ∧ y_Row_last.cls ≠ "java/lang/invoke/VarHandle" ∧ (parseMethodDescriptor y_Row_last.desc).map (fun d => d.parameters.length) = some 0 := by decide +kernel
theorem np_Row_has : y_Row_has.cls ≠ "java/lang/invoke/MethodHandle" ∧ y_Row_has.cls ≠ "java/lang/invoke/VarHandle" ∧ (parseMethodDescriptor y_Row_has.desc).map (fun d => d.parameters.length) = some 1 := by decide +kernel
theorem np_Row_read : y_Row_read.cls ≠ "java/lang/invoke/MethodHandle" ∧ y_Row_read.cls ≠ "java/lang/invoke/VarHandle" ∧ (parseMethodDescriptor y_Row_read.desc).map (fun d => d.parameters.length) = some 2 := by decide +kernel
theorem np_Row_write : y_Row_write.cls ≠ "java/lang/invoke/MethodHandle" ∧ y_Row_write.cls ≠ "java/lang/invoke/VarHandle" ∧ (parseMethodDescriptor y_Row_write.desc).map (fun d => d.parameters.length) = some 2 := by decide +kernel
theorem np_Row_isLess : y_Row_isLess.cls ≠ "java/lang/invoke/MethodHandle" ∧ y_Row_isLess.cls ≠ "java/lang/invoke/VarHandle" ∧ (parseMethodDescriptor y_Row_isLess.desc).map (fun d => d.parameters.length) = some 2 := by decide +kernel
theorem np_Who_init : y_Who_init.cls ≠ "java/lang/invoke/MethodHandle" ∧ y_Who_init.cls ≠ "java/lang/invoke/VarHandle" ∧ (parseMethodDescriptor y_Who_init.desc).map (fun d => d.parameters.length) = some 0 := by decide +kernel
theorem np_Who_become : y_Who_become.cls ≠ "java/lang/invoke/MethodHandle" ∧ y_Who_become.cls ≠ "java/lang/invoke/VarHandle" ∧ (parseMethodDescriptor y_Who_become.desc).map (fun d => d.parameters.length) = some 1 := by decide +kernel
theorem np_Who_increase : y_Who_increase.cls ≠ "java/lang/invoke/MethodHandle" ∧ y_Who_increase.cls ≠ "java/lang/invoke/VarHandle" ∧ (parseMethodDescriptor y_Who_increase.desc).map (fun d => d.parameters.length) = some 1 := by decide +kernel
theorem np_Who_becomeScaled : y_Who_becomeScaled.cls ≠ "java/lang/invoke/MethodHandle" ∧ y_Who_becomeScaled.cls ≠ "java/lang/invoke/VarHandle" ∧ (parseMethodDescriptor y_Who_becomeScaled.desc).map (fun d => d.parameters.length) = some 2 := by decide +kernel
theorem np_Who_becomeProduct : y_Who_becomeProduct.cls ≠ "java/lang/invoke/MethodHandle" ∧ y_Who_becomeProduct.cls ≠ "java/lang/invoke/VarHandle" ∧ (parseMethodDescriptor y_Who_becomeProduct.desc).map (fun d => d.parameters.length) = some 2 := by decide +kernel
theorem np_Who_divide : y_Who_divide.cls ≠ "java/lang/invoke/MethodHandle" ∧ y_Who_divide.cls ≠ "java/lang/invoke/VarHandle" ∧ (parseMethodDescriptor y_Who_divide.desc).map (fun d => d.parameters.length) = some 1 := by decide +kernel
theorem np_Who_order : y_Who_order.cls ≠ "java/lang/invoke/MethodHandle" ∧ y_Who_order.cls ≠ "java/lang/invoke/VarHandle" ∧ (parseMethodDescriptor y_Who_order.desc).map (fun d => d.parameters.length) = some 1 := by decide +kernel
theorem np_Who_isZero : y_Who_isZero.cls ≠ "java/lang/invoke/MethodHandle" ∧ y_Who_isZero.cls ≠ "java/lang/invoke/VarHandle" ∧ (parseMethodDescriptor y_Who_isZero.desc).map (fun d => d.parameters.length) = some 0 := by decide +kernel
theorem np_Who_isWeight : y_Who_isWeight.cls ≠ "java/lang/invoke/MethodHandle" ∧ y_Who_isWeight.cls ≠ "java/lang/invoke/VarHandle" ∧ (parseMethodDescriptor y_Who_isWeight.desc).map (fun d => d.parameters.length) = some 0 := by decide +kernel
theorem np_Who_digitAt : y_Who_digitAt.cls ≠ "java/lang/invoke/MethodHandle" ∧ y_Who_digitAt.cls ≠ "java/lang/invoke/VarHandle" ∧ (parseMethodDescriptor y_Who_digitAt.desc).map (fun d => d.parameters.length) = some 1 := by decide +kernel
theorem np_Law_row : y_Law_row.cls ≠ "java/lang/invoke/MethodHandle" ∧ y_Law_row.cls ≠ "java/lang/invoke/VarHandle" ∧ (parseMethodDescriptor y_Law_row.desc).map (fun d => d.parameters.length) = some 4 := by decide +kernel
theorem np_Law_weight : y_Law_weight.cls ≠ "java/lang/invoke/MethodHandle" ∧ y_Law_weight.cls ≠ "java/lang/invoke/VarHandle" ∧ (parseMethodDescriptor y_Law_weight.desc).map (fun d => d.parameters.length) = some 5 := by decide +kernel
theorem np_Law_add : y_Law_add.cls ≠ "java/lang/invoke/MethodHandle" ∧ y_Law_add.cls ≠ "java/lang/invoke/VarHandle" ∧ (parseMethodDescriptor y_Law_add.desc).map (fun d => d.parameters.length) = some 4 := by decide +kernel
theorem np_Law_times : y_Law_times.cls ≠ "java/lang/invoke/MethodHandle" ∧ y_Law_times.cls ≠ "java/lang/invoke/VarHandle" ∧ (parseMethodDescriptor y_Law_times.desc).map (fun d => d.parameters.length) = some 5 := by decide +kernel
theorem np_Law_least : y_Law_least.cls ≠ "java/lang/invoke/MethodHandle" ∧ y_Law_least.cls ≠ "java/lang/invoke/VarHandle" ∧ (parseMethodDescriptor y_Law_least.desc).map (fun d => d.parameters.length) = some 5 := by decide +kernel
theorem np_Law_span : y_Law_span.cls ≠ "java/lang/invoke/MethodHandle" ∧ y_Law_span.cls ≠ "java/lang/invoke/VarHandle" ∧ (parseMethodDescriptor y_Law_span.desc).map (fun d => d.parameters.length) = some 4 := by decide +kernel
theorem np_Law_digit : y_Law_digit.cls ≠ "java/lang/invoke/MethodHandle" ∧ y_Law_digit.cls ≠ "java/lang/invoke/VarHandle" ∧ (parseMethodDescriptor y_Law_digit.desc).map (fun d => d.parameters.length) = some 5 := by decide +kernel
theorem np_Law_total : y_Law_total.cls ≠ "java/lang/invoke/MethodHandle" ∧ y_Law_total.cls ≠ "java/lang/invoke/VarHandle" ∧ (parseMethodDescriptor y_Law_total.desc).map (fun d => d.parameters.length) = some 4 := by decide +kernel
theorem np_Law_compare : y_Law_compare.cls ≠ "java/lang/invoke/MethodHandle" ∧ y_Law_compare.cls ≠ "java/lang/invoke/VarHandle" ∧ (parseMethodDescriptor y_Law_compare.desc).map (fun d => d.parameters.length) = some 6 := by decide +kernel
theorem np_Law_about : y_Law_about.cls ≠ "java/lang/invoke/MethodHandle" ∧ y_Law_about.cls ≠ "java/lang/invoke/VarHandle" ∧ (parseMethodDescriptor y_Law_about.desc).map (fun d => d.parameters.length) = some 4 := by decide +kernel
theorem np_Law_over : y_Law_over.cls ≠ "java/lang/invoke/MethodHandle" ∧ y_Law_over.cls ≠ "java/lang/invoke/VarHandle" ∧ (parseMethodDescriptor y_Law_over.desc).map (fun d => d.parameters.length) = some 4 := by decide +kernel
theorem np_Law_day : y_Law_day.cls ≠ "java/lang/invoke/MethodHandle" ∧ y_Law_day.cls ≠ "java/lang/invoke/VarHandle" ∧ (parseMethodDescriptor y_Law_day.desc).map (fun d => d.parameters.length) = some 6 := by decide +kernel
theorem np_Law_date : y_Law_date.cls ≠ "java/lang/invoke/MethodHandle" ∧ y_Law_date.cls ≠ "java/lang/invoke/VarHandle" ∧ (parseMethodDescriptor y_Law_date.desc).map (fun d => d.parameters.length) = some 5 := by decide +kernel
theorem np_Jmin : y_Jmin.cls ≠ "java/lang/invoke/MethodHandle" ∧ y_Jmin.cls ≠ "java/lang/invoke/VarHandle" ∧ (parseMethodDescriptor y_Jmin.desc).map (fun d => d.parameters.length) = some 2 := by decide +kernel
theorem np_Jmax : y_Jmax.cls ≠ "java/lang/invoke/MethodHandle" ∧ y_Jmax.cls ≠ "java/lang/invoke/VarHandle" ∧ (parseMethodDescriptor y_Jmax.desc).map (fun d => d.parameters.length) = some 2 := by decide +kernel
theorem np_JfloorMod : y_JfloorMod.cls ≠ "java/lang/invoke/MethodHandle" ∧ y_JfloorMod.cls ≠ "java/lang/invoke/VarHandle" ∧ (parseMethodDescriptor y_JfloorMod.desc).map (fun d => d.parameters.length) = some 2 := by decide +kernel
theorem np_JfloorDiv : y_JfloorDiv.cls ≠ "java/lang/invoke/MethodHandle" ∧ y_JfloorDiv.cls ≠ "java/lang/invoke/VarHandle" ∧ (parseMethodDescriptor y_JfloorDiv.desc).map (fun d => d.parameters.length) = some 2 := by decide +kernel
theorem np_JfloorDivL : y_JfloorDivL.cls ≠ "java/lang/invoke/MethodHandle" ∧ y_JfloorDivL.cls ≠ "java/lang/invoke/VarHandle" ∧ (parseMethodDescriptor y_JfloorDivL.desc).map (fun d => d.parameters.length) = some 2 := by decide +kernel
theorem wa_I : Cond.arrayClass .int ∈ yW := (yW_m (lm_1 70 rfl) rfl)
theorem wa_J : Cond.arrayClass .long ∈ yW := (yW_m (lm_1 44 rfl) rfl)
theorem wa_Z : Cond.arrayClass .boolean ∈ yW := (yW_m (lm_1 71 rfl) rfl)
