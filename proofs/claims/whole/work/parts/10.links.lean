theorem tm {i : Nat} {w : Cond} (h : lw_tbl[i]? = some w) (g : goodWord w = true) : w ∈ gT := gm (List.mem_of_getElem? h) g
theorem tm1 {i : Nat} {w : Cond} (h0 : tables_1_1[i]? = some w) (g : goodWord w = true) : w ∈ gT := gm (List.mem_append_right _ (by have h := List.mem_of_getElem? h0; unfold tables_1; exact List.mem_append_left _ h)) g
theorem tm2 {i : Nat} {w : Cond} (h0 : tables_1_2[i]? = some w) (g : goodWord w = true) : w ∈ gT := gm (List.mem_append_right _ (by have h := List.mem_of_getElem? h0; unfold tables_1; exact List.mem_append_right _ (List.mem_append_left _ h))) g
theorem tm3 {i : Nat} {w : Cond} (h0 : tables_1_3[i]? = some w) (g : goodWord w = true) : w ∈ gT := gm (List.mem_append_right _ (by have h := List.mem_of_getElem? h0; unfold tables_1; exact List.mem_append_right _ (List.mem_append_right _ (List.mem_append_left _ h)))) g
theorem tm4 {i : Nat} {w : Cond} (h0 : tables_1_4[i]? = some w) (g : goodWord w = true) : w ∈ gT := gm (List.mem_append_right _ (by have h := List.mem_of_getElem? h0; unfold tables_1; exact List.mem_append_right _ (List.mem_append_right _ (List.mem_append_right _ (List.mem_append_left _ h))))) g
theorem tm5 {i : Nat} {w : Cond} (h0 : tables_1_5[i]? = some w) (g : goodWord w = true) : w ∈ gT := gm (List.mem_append_right _ (by have h := List.mem_of_getElem? h0; unfold tables_1; exact List.mem_append_right _ (List.mem_append_right _ (List.mem_append_right _ (List.mem_append_right _ (List.mem_append_left _ h)))))) g
theorem tm6 {i : Nat} {w : Cond} (h0 : tables_1_6[i]? = some w) (g : goodWord w = true) : w ∈ gT := gm (List.mem_append_right _ (by have h := List.mem_of_getElem? h0; unfold tables_1; exact List.mem_append_right _ (List.mem_append_right _ (List.mem_append_right _ (List.mem_append_right _ (List.mem_append_right _ (List.mem_append_left _ h))))))) g
theorem tm7 {i : Nat} {w : Cond} (h0 : tables_1_7[i]? = some w) (g : goodWord w = true) : w ∈ gT := gm (List.mem_append_right _ (by have h := List.mem_of_getElem? h0; unfold tables_1; exact List.mem_append_right _ (List.mem_append_right _ (List.mem_append_right _ (List.mem_append_right _ (List.mem_append_right _ (List.mem_append_right _ (h)))))))) g
theorem tm0 {i : Nat} {w : Cond} (h0 : (k2_sels lw_privs)[i]? = some w) (g : goodWord w = true) : w ∈ gT := gm (List.mem_append_left _ (List.mem_of_getElem? h0)) g
theorem in_p (ws : List Cond) (ps : List Nat) (hp : ws = ps.filterMap (fun i => lw_tbl[i]?)) (h : ws.all goodWord = true) : ∀ w ∈ ws, w ∈ gT := by
  intro w hw
  have h1 := List.all_eq_true.mp h w hw
  rw [hp] at hw
  obtain ⟨i, -, hi⟩ := List.mem_filterMap.mp hw
  exact tm hi h1
def mJ7_fill_53178 : MI := (yJ7_fill_53178, cJ7_fill_53178, 4, none)
theorem kM_J7_fill_53178 : MiK mJ7_fill_53178 2 := ⟨tm2 (i := 207) (by decide +kernel) rfl, tm1 (i := 15) (by decide +kernel) rfl, by decide +kernel, by decide +kernel, by decide +kernel⟩
def mJ7_fill_d0a16 : MI := (yJ7_fill_d0a16, cJ7_fill_d0a16, 5, none)
theorem kM_J7_fill_d0a16 : MiK mJ7_fill_d0a16 2 := ⟨tm4 (i := 37) (by decide +kernel) rfl, tm1 (i := 15) (by decide +kernel) rfl, by decide +kernel, by decide +kernel, by decide +kernel⟩
def mJ9_abs_067f4 : MI := (yJ9_abs_067f4, cJ9_abs_067f4, 2, (some .long))
def mJ9_max_7cf53 : MI := (yJ9_max_7cf53, cJ9_max_7cf53, 2, (some .int))
def mJ9_min_7cf53 : MI := (yJ9_min_7cf53, cJ9_min_7cf53, 2, (some .int))
def mL_law : MI := (yL_law, cL_law, 4, (some .boolean))
def mX0_add : MI := (yX0_add, cX0_add, 2, (some .boolean))
theorem kM_X0_add : MiK mX0_add 1 := ⟨tm4 (i := 164) (by decide +kernel) rfl, tm1 (i := 11) (by decide +kernel) rfl, by decide +kernel, by decide +kernel, by decide +kernel⟩
def mX0_from : MI := (yX0_from, cX0_from, 8, (some .int))
theorem kM_X0_from : MiK mX0_from 4 := ⟨tm4 (i := 180) (by decide +kernel) rfl, tm1 (i := 11) (by decide +kernel) rfl, by decide +kernel, by decide +kernel, by decide +kernel⟩
def mX0_init : MI := (yX0_init, cX0_init, 1, none)
theorem kM_X0_init : MiK mX0_init 0 := ⟨tm2 (i := 47) (by decide +kernel) rfl, tm1 (i := 11) (by decide +kernel) rfl, by decide +kernel, by decide +kernel, by decide +kernel⟩
def mX0_isUnder : MI := (yX0_isUnder, cX0_isUnder, 4, (some .boolean))
theorem kM_X0_isUnder : MiK mX0_isUnder 2 := ⟨tm5 (i := 9) (by decide +kernel) rfl, tm1 (i := 11) (by decide +kernel) rfl, by decide +kernel, by decide +kernel, by decide +kernel⟩
def mX0_kept : MI := (yX0_kept, cX0_kept, 1, (some .int))
theorem kM_X0_kept : MiK mX0_kept 0 := ⟨tm4 (i := 196) (by decide +kernel) rfl, tm1 (i := 11) (by decide +kernel) rfl, by decide +kernel, by decide +kernel, by decide +kernel⟩
def mX0_kindOf : MI := (yX0_kindOf, cX0_kindOf, 2, (some .int))
theorem kM_X0_kindOf : MiK mX0_kindOf 1 := ⟨tm5 (i := 6) (by decide +kernel) rfl, tm1 (i := 11) (by decide +kernel) rfl, by decide +kernel, by decide +kernel, by decide +kernel⟩
def mX0_own : MI := (yX0_own, cX0_own, 4, (some .int))
theorem kM_X0_own : MiK mX0_own 3 := ⟨tm4 (i := 176) (by decide +kernel) rfl, tm1 (i := 11) (by decide +kernel) rfl, by decide +kernel, by decide +kernel, by decide +kernel⟩
def mX0_perform : MI := (yX0_perform, cX0_perform, 4, (some .int))
theorem kM_X0_perform : MiK mX0_perform 3 := ⟨tm4 (i := 172) (by decide +kernel) rfl, tm1 (i := 11) (by decide +kernel) rfl, by decide +kernel, by decide +kernel, by decide +kernel⟩
def mX0_run : MI := (yX0_run, cX0_run, 5, (some .int))
theorem kM_X0_run : MiK mX0_run 4 := ⟨tm4 (i := 188) (by decide +kernel) rfl, tm1 (i := 11) (by decide +kernel) rfl, by decide +kernel, by decide +kernel, by decide +kernel⟩
def mX10_init : MI := (yX10_init, cX10_init, 1, none)
theorem kM_X10_init : MiK mX10_init 0 := ⟨tm1 (i := 173) (by decide +kernel) rfl, tm1 (i := 8) (by decide +kernel) rfl, by decide +kernel, by decide +kernel, by decide +kernel⟩
def mX10_start : MI := (yX10_start, cX10_start, 3, (some .boolean))
theorem kM_X10_start : MiK mX10_start 2 := ⟨tm3 (i := 234) (by decide +kernel) rfl, tm1 (i := 8) (by decide +kernel) rfl, by decide +kernel, by decide +kernel, by decide +kernel⟩
def mX10_step : MI := (yX10_step, cX10_step, 3, (some .boolean))
theorem kM_X10_step : MiK mX10_step 0 := ⟨tm4 (i := 0) (by decide +kernel) rfl, tm1 (i := 8) (by decide +kernel) rfl, by decide +kernel, by decide +kernel, by decide +kernel⟩
def mX11_act : MI := (yX11_act, cX11_act, 4, (some .int))
theorem kM_X11_act : MiK mX11_act 3 := ⟨tm4 (i := 168) (by decide +kernel) rfl, tm1 (i := 1) (by decide +kernel) rfl, by decide +kernel, by decide +kernel, by decide +kernel⟩
def mX11_addFromRow : MI := (yX11_addFromRow, cX11_addFromRow, 8, (some .boolean))
theorem kM_X11_addFromRow : MiK mX11_addFromRow 4 := ⟨tm2 (i := 223) (by decide +kernel) rfl, tm1 (i := 1) (by decide +kernel) rfl, by decide +kernel, by decide +kernel, by decide +kernel⟩
def mX11_back : MI := (yX11_back, cX11_back, 1, (some .int))
theorem kM_X11_back : MiK mX11_back 0 := ⟨tm4 (i := 136) (by decide +kernel) rfl, tm1 (i := 1) (by decide +kernel) rfl, by decide +kernel, by decide +kernel, by decide +kernel⟩
def mX11_beaten : MI := (yX11_beaten, cX11_beaten, 3, (some .int))
theorem kM_X11_beaten : MiK mX11_beaten 2 := ⟨tm3 (i := 216) (by decide +kernel) rfl, tm1 (i := 1) (by decide +kernel) rfl, by decide +kernel, by decide +kernel, by decide +kernel⟩
def mX11_best : MI := (yX11_best, cX11_best, 2, (some .int))
theorem kM_X11_best : MiK mX11_best 1 := ⟨tm3 (i := 163) (by decide +kernel) rfl, tm1 (i := 1) (by decide +kernel) rfl, by decide +kernel, by decide +kernel, by decide +kernel⟩
def mX11_body : MI := (yX11_body, cX11_body, 2, (some .int))
theorem kM_X11_body : MiK mX11_body 1 := ⟨tm4 (i := 157) (by decide +kernel) rfl, tm1 (i := 1) (by decide +kernel) rfl, by decide +kernel, by decide +kernel, by decide +kernel⟩
def mX11_broke : MI := (yX11_broke, cX11_broke, 3, (some .long))
theorem kM_X11_broke : MiK mX11_broke 2 := ⟨tm3 (i := 122) (by decide +kernel) rfl, tm1 (i := 1) (by decide +kernel) rfl, by decide +kernel, by decide +kernel, by decide +kernel⟩
def mX11_count : MI := (yX11_count, cX11_count, 2, (some .int))
theorem kM_X11_count : MiK mX11_count 1 := ⟨tm5 (i := 13) (by decide +kernel) rfl, tm1 (i := 1) (by decide +kernel) rfl, by decide +kernel, by decide +kernel, by decide +kernel⟩
def mX11_element : MI := (yX11_element, cX11_element, 4, (some .long))
theorem kM_X11_element : MiK mX11_element 2 := ⟨tm4 (i := 229) (by decide +kernel) rfl, tm1 (i := 1) (by decide +kernel) rfl, by decide +kernel, by decide +kernel, by decide +kernel⟩
def mX11_feed : MI := (yX11_feed, cX11_feed, 2, (some .int))
theorem kM_X11_feed : MiK mX11_feed 1 := ⟨tm2 (i := 228) (by decide +kernel) rfl, tm1 (i := 1) (by decide +kernel) rfl, by decide +kernel, by decide +kernel, by decide +kernel⟩
def mX11_fewest : MI := (yX11_fewest, cX11_fewest, 3, (some .int))
theorem kM_X11_fewest : MiK mX11_fewest 1 := ⟨tm4 (i := 97) (by decide +kernel) rfl, tm1 (i := 1) (by decide +kernel) rfl, by decide +kernel, by decide +kernel, by decide +kernel⟩
def mX11_image : MI := (yX11_image, cX11_image, 1, (some .int))
theorem kM_X11_image : MiK mX11_image 0 := ⟨tm4 (i := 128) (by decide +kernel) rfl, tm1 (i := 1) (by decide +kernel) rfl, by decide +kernel, by decide +kernel, by decide +kernel⟩
def mX11_inLowest : MI := (yX11_inLowest, cX11_inLowest, 12, (some .long))
theorem kM_X11_inLowest : MiK mX11_inLowest 3 := ⟨tm3 (i := 156) (by decide +kernel) rfl, tm1 (i := 1) (by decide +kernel) rfl, by decide +kernel, by decide +kernel, by decide +kernel⟩
def mX11_init : MI := (yX11_init, cX11_init, 2, none)
theorem kM_X11_init : MiK mX11_init 0 := ⟨tm1 (i := 21) (by decide +kernel) rfl, tm1 (i := 1) (by decide +kernel) rfl, by decide +kernel, by decide +kernel, by decide +kernel⟩
def mX11_isBaker : MI := (yX11_isBaker, cX11_isBaker, 1, (some .boolean))
theorem kM_X11_isBaker : MiK mX11_isBaker 1 := ⟨tm2 (i := 154) (by decide +kernel) rfl, tm1 (i := 1) (by decide +kernel) rfl, by decide +kernel, by decide +kernel, by decide +kernel⟩
def mX11_isKind : MI := (yX11_isKind, cX11_isKind, 1, (some .boolean))
theorem kM_X11_isKind : MiK mX11_isKind 1 := ⟨tm4 (i := 160) (by decide +kernel) rfl, tm1 (i := 1) (by decide +kernel) rfl, by decide +kernel, by decide +kernel, by decide +kernel⟩
def mX11_isPart : MI := (yX11_isPart, cX11_isPart, 1, (some .boolean))
theorem kM_X11_isPart : MiK mX11_isPart 1 := ⟨tm3 (i := 125) (by decide +kernel) rfl, tm1 (i := 1) (by decide +kernel) rfl, by decide +kernel, by decide +kernel, by decide +kernel⟩
def mX11_isShelf : MI := (yX11_isShelf, cX11_isShelf, 1, (some .boolean))
theorem kM_X11_isShelf : MiK mX11_isShelf 1 := ⟨tm2 (i := 219) (by decide +kernel) rfl, tm1 (i := 1) (by decide +kernel) rfl, by decide +kernel, by decide +kernel, by decide +kernel⟩
def mX11_keep : MI := (yX11_keep, cX11_keep, 3, (some .int))
theorem kM_X11_keep : MiK mX11_keep 2 := ⟨tm4 (i := 201) (by decide +kernel) rfl, tm1 (i := 1) (by decide +kernel) rfl, by decide +kernel, by decide +kernel, by decide +kernel⟩
def mX11_law : MI := (yX11_law, cX11_law, 2, (some .int))
theorem kM_X11_law : MiK mX11_law 0 := ⟨tm2 (i := 236) (by decide +kernel) rfl, tm1 (i := 1) (by decide +kernel) rfl, by decide +kernel, by decide +kernel, by decide +kernel⟩
def mX11_line : MI := (yX11_line, cX11_line, 5, (some .long))
theorem kM_X11_line : MiK mX11_line 3 := ⟨tm3 (i := 202) (by decide +kernel) rfl, tm1 (i := 1) (by decide +kernel) rfl, by decide +kernel, by decide +kernel, by decide +kernel⟩
def mX11_mean : MI := (yX11_mean, cX11_mean, 2, (some .long))
theorem kM_X11_mean : MiK mX11_mean 1 := ⟨tm3 (i := 118) (by decide +kernel) rfl, tm1 (i := 1) (by decide +kernel) rfl, by decide +kernel, by decide +kernel, by decide +kernel⟩
def mX11_mend : MI := (yX11_mend, cX11_mend, 5, (some .int))
theorem kM_X11_mend : MiK mX11_mend 3 := ⟨tm2 (i := 147) (by decide +kernel) rfl, tm1 (i := 1) (by decide +kernel) rfl, by decide +kernel, by decide +kernel, by decide +kernel⟩
def mX11_mix : MI := (yX11_mix, cX11_mix, 5, (some .int))
theorem kM_X11_mix : MiK mX11_mix 3 := ⟨tm2 (i := 200) (by decide +kernel) rfl, tm1 (i := 1) (by decide +kernel) rfl, by decide +kernel, by decide +kernel, by decide +kernel⟩
def mX11_mixes : MI := (yX11_mixes, cX11_mixes, 8, (some .int))
theorem kM_X11_mixes : MiK mX11_mixes 3 := ⟨tm2 (i := 216) (by decide +kernel) rfl, tm1 (i := 1) (by decide +kernel) rfl, by decide +kernel, by decide +kernel, by decide +kernel⟩
def mX11_most : MI := (yX11_most, cX11_most, 2, (some .int))
theorem kM_X11_most : MiK mX11_most 1 := ⟨tm4 (i := 87) (by decide +kernel) rfl, tm1 (i := 1) (by decide +kernel) rfl, by decide +kernel, by decide +kernel, by decide +kernel⟩
def mX11_of : MI := (yX11_of, cX11_of, 3, (some .int))
theorem kM_X11_of : MiK mX11_of 2 := ⟨tm2 (i := 182) (by decide +kernel) rfl, tm1 (i := 1) (by decide +kernel) rfl, by decide +kernel, by decide +kernel, by decide +kernel⟩
def mX11_ofBaker : MI := (yX11_ofBaker, cX11_ofBaker, 3, (some .int))
theorem kM_X11_ofBaker : MiK mX11_ofBaker 2 := ⟨tm2 (i := 187) (by decide +kernel) rfl, tm1 (i := 1) (by decide +kernel) rfl, by decide +kernel, by decide +kernel, by decide +kernel⟩
def mX11_put : MI := (yX11_put, cX11_put, 7, (some .int))
theorem kM_X11_put : MiK mX11_put 3 := ⟨tm4 (i := 218) (by decide +kernel) rfl, tm1 (i := 1) (by decide +kernel) rfl, by decide +kernel, by decide +kernel, by decide +kernel⟩
def mX11_redo : MI := (yX11_redo, cX11_redo, 1, (some .int))
theorem kM_X11_redo : MiK mX11_redo 0 := ⟨tm4 (i := 149) (by decide +kernel) rfl, tm1 (i := 1) (by decide +kernel) rfl, by decide +kernel, by decide +kernel, by decide +kernel⟩
def mX11_rest : MI := (yX11_rest, cX11_rest, 2, (some .int))
theorem kM_X11_rest : MiK mX11_rest 1 := ⟨tm4 (i := 56) (by decide +kernel) rfl, tm1 (i := 1) (by decide +kernel) rfl, by decide +kernel, by decide +kernel, by decide +kernel⟩
def mX11_ring : MI := (yX11_ring, cX11_ring, 2, (some .int))
theorem kM_X11_ring : MiK mX11_ring 1 := ⟨tm4 (i := 26) (by decide +kernel) rfl, tm1 (i := 1) (by decide +kernel) rfl, by decide +kernel, by decide +kernel, by decide +kernel⟩
def mX11_row : MI := (yX11_row, cX11_row, 4, (some .int))
theorem kM_X11_row : MiK mX11_row 3 := ⟨tm4 (i := 209) (by decide +kernel) rfl, tm1 (i := 1) (by decide +kernel) rfl, by decide +kernel, by decide +kernel, by decide +kernel⟩
def mX11_safest : MI := (yX11_safest, cX11_safest, 3, (some .int))
theorem kM_X11_safest : MiK mX11_safest 2 := ⟨tm4 (i := 12) (by decide +kernel) rfl, tm1 (i := 1) (by decide +kernel) rfl, by decide +kernel, by decide +kernel, by decide +kernel⟩
def mX11_score : MI := (yX11_score, cX11_score, 3, (some .int))
theorem kM_X11_score : MiK mX11_score 2 := ⟨tm3 (i := 104) (by decide +kernel) rfl, tm1 (i := 1) (by decide +kernel) rfl, by decide +kernel, by decide +kernel, by decide +kernel⟩
def mX11_shift : MI := (yX11_shift, cX11_shift, 8, (some .int))
theorem kM_X11_shift : MiK mX11_shift 5 := ⟨tm4 (i := 233) (by decide +kernel) rfl, tm1 (i := 1) (by decide +kernel) rfl, by decide +kernel, by decide +kernel, by decide +kernel⟩
def mX11_spy : MI := (yX11_spy, cX11_spy, 3, (some .long))
theorem kM_X11_spy : MiK mX11_spy 2 := ⟨tm3 (i := 207) (by decide +kernel) rfl, tm1 (i := 1) (by decide +kernel) rfl, by decide +kernel, by decide +kernel, by decide +kernel⟩
def mX11_sure : MI := (yX11_sure, cX11_sure, 2, (some .int))
theorem kM_X11_sure : MiK mX11_sure 1 := ⟨tm4 (i := 75) (by decide +kernel) rfl, tm1 (i := 1) (by decide +kernel) rfl, by decide +kernel, by decide +kernel, by decide +kernel⟩
def mX11_taken : MI := (yX11_taken, cX11_taken, 5, (some .int))
theorem kM_X11_taken : MiK mX11_taken 2 := ⟨tm5 (i := 2) (by decide +kernel) rfl, tm1 (i := 1) (by decide +kernel) rfl, by decide +kernel, by decide +kernel, by decide +kernel⟩
def mX11_trace : MI := (yX11_trace, cX11_trace, 2, (some .int))
theorem kM_X11_trace : MiK mX11_trace 1 := ⟨tm4 (i := 192) (by decide +kernel) rfl, tm1 (i := 1) (by decide +kernel) rfl, by decide +kernel, by decide +kernel, by decide +kernel⟩
def mX11_undo : MI := (yX11_undo, cX11_undo, 1, (some .int))
theorem kM_X11_undo : MiK mX11_undo 0 := ⟨tm4 (i := 140) (by decide +kernel) rfl, tm1 (i := 1) (by decide +kernel) rfl, by decide +kernel, by decide +kernel, by decide +kernel⟩
def mX11_village : MI := (yX11_village, cX11_village, 3, (some .int))
theorem kM_X11_village : MiK mX11_village 2 := ⟨tm2 (i := 139) (by decide +kernel) rfl, tm1 (i := 1) (by decide +kernel) rfl, by decide +kernel, by decide +kernel, by decide +kernel⟩
def mX11_won : MI := (yX11_won, cX11_won, 4, (some .int))
theorem kM_X11_won : MiK mX11_won 2 := ⟨tm3 (i := 67) (by decide +kernel) rfl, tm1 (i := 1) (by decide +kernel) rfl, by decide +kernel, by decide +kernel, by decide +kernel⟩
def mX11_year : MI := (yX11_year, cX11_year, 3, (some .int))
theorem kM_X11_year : MiK mX11_year 2 := ⟨tm4 (i := 101) (by decide +kernel) rfl, tm1 (i := 1) (by decide +kernel) rfl, by decide +kernel, by decide +kernel, by decide +kernel⟩
def mX11_years : MI := (yX11_years, cX11_years, 2, (some .int))
theorem kM_X11_years : MiK mX11_years 1 := ⟨tm4 (i := 124) (by decide +kernel) rfl, tm1 (i := 1) (by decide +kernel) rfl, by decide +kernel, by decide +kernel, by decide +kernel⟩
def mX12_act : MI := (yX12_act, cX12_act, 4, (some .int))
theorem kM_X12_act : MiK mX12_act 3 := ⟨tm7 (i := 48) (by decide +kernel) rfl, tm1 (i := 13) (by decide +kernel) rfl, by decide +kernel, by decide +kernel, by decide +kernel⟩
def mX12_addGains : MI := (yX12_addGains, cX12_addGains, 6, none)
theorem kM_X12_addGains : MiK mX12_addGains 4 := ⟨tm6 (i := 177) (by decide +kernel) rfl, tm1 (i := 13) (by decide +kernel) rfl, by decide +kernel, by decide +kernel, by decide +kernel⟩
def mX12_addMix : MI := (yX12_addMix, cX12_addMix, 5, (some .int))
theorem kM_X12_addMix : MiK mX12_addMix 2 := ⟨tm6 (i := 8) (by decide +kernel) rfl, tm1 (i := 13) (by decide +kernel) rfl, by decide +kernel, by decide +kernel, by decide +kernel⟩
def mX12_addStep : MI := (yX12_addStep, cX12_addStep, 3, none)
theorem kM_X12_addStep : MiK mX12_addStep 2 := ⟨tm6 (i := 66) (by decide +kernel) rfl, tm1 (i := 13) (by decide +kernel) rfl, by decide +kernel, by decide +kernel, by decide +kernel⟩
def mX12_back : MI := (yX12_back, cX12_back, 2, (some .int))
theorem kM_X12_back : MiK mX12_back 0 := ⟨tm7 (i := 36) (by decide +kernel) rfl, tm1 (i := 13) (by decide +kernel) rfl, by decide +kernel, by decide +kernel, by decide +kernel⟩
def mX12_beaten : MI := (yX12_beaten, cX12_beaten, 4, (some .int))
theorem kM_X12_beaten : MiK mX12_beaten 2 := ⟨tm6 (i := 197) (by decide +kernel) rfl, tm1 (i := 13) (by decide +kernel) rfl, by decide +kernel, by decide +kernel, by decide +kernel⟩
def mX12_beatenBy : MI := (yX12_beatenBy, cX12_beatenBy, 9, (some .int))
theorem kM_X12_beatenBy : MiK mX12_beatenBy 3 := ⟨tm6 (i := 205) (by decide +kernel) rfl, tm1 (i := 13) (by decide +kernel) rfl, by decide +kernel, by decide +kernel, by decide +kernel⟩
def mX12_beats : MI := (yX12_beats, cX12_beats, 5, (some .boolean))
theorem kM_X12_beats : MiK mX12_beats 2 := ⟨tm6 (i := 220) (by decide +kernel) rfl, tm1 (i := 13) (by decide +kernel) rfl, by decide +kernel, by decide +kernel, by decide +kernel⟩
def mX12_best : MI := (yX12_best, cX12_best, 2, (some .int))
theorem kM_X12_best : MiK mX12_best 1 := ⟨tm6 (i := 165) (by decide +kernel) rfl, tm1 (i := 13) (by decide +kernel) rfl, by decide +kernel, by decide +kernel, by decide +kernel⟩
def mX12_bestLearns : MI := (yX12_bestLearns, cX12_bestLearns, 3, (some .int))
theorem kM_X12_bestLearns : MiK mX12_bestLearns 2 := ⟨tm7 (i := 99) (by decide +kernel) rfl, tm1 (i := 13) (by decide +kernel) rfl, by decide +kernel, by decide +kernel, by decide +kernel⟩
def mX12_body : MI := (yX12_body, cX12_body, 2, (some .int))
theorem kM_X12_body : MiK mX12_body 1 := ⟨tm7 (i := 44) (by decide +kernel) rfl, tm1 (i := 13) (by decide +kernel) rfl, by decide +kernel, by decide +kernel, by decide +kernel⟩
def mX12_both : MI := (yX12_both, cX12_both, 1, none)
theorem kM_X12_both : MiK mX12_both 0 := ⟨tm6 (i := 39) (by decide +kernel) rfl, tm1 (i := 13) (by decide +kernel) rfl, by decide +kernel, by decide +kernel, by decide +kernel⟩
def mX12_broke : MI := (yX12_broke, cX12_broke, 3, (some .long))
theorem kM_X12_broke : MiK mX12_broke 2 := ⟨tm6 (i := 161) (by decide +kernel) rfl, tm1 (i := 13) (by decide +kernel) rfl, by decide +kernel, by decide +kernel, by decide +kernel⟩
def mX12_changes : MI := (yX12_changes, cX12_changes, 6, (some .int))
theorem kM_X12_changes : MiK mX12_changes 3 := ⟨tm5 (i := 228) (by decide +kernel) rfl, tm1 (i := 13) (by decide +kernel) rfl, by decide +kernel, by decide +kernel, by decide +kernel⟩
def mX12_common : MI := (yX12_common, cX12_common, 10, (some .long))
theorem kM_X12_common : MiK mX12_common 2 := ⟨tm6 (i := 156) (by decide +kernel) rfl, tm1 (i := 13) (by decide +kernel) rfl, by decide +kernel, by decide +kernel, by decide +kernel⟩
def mX12_compared : MI := (yX12_compared, cX12_compared, 2, none)
theorem kM_X12_compared : MiK mX12_compared 0 := ⟨tm6 (i := 43) (by decide +kernel) rfl, tm1 (i := 13) (by decide +kernel) rfl, by decide +kernel, by decide +kernel, by decide +kernel⟩
def mX12_count : MI := (yX12_count, cX12_count, 2, (some .int))
theorem kM_X12_count : MiK mX12_count 1 := ⟨tm7 (i := 107) (by decide +kernel) rfl, tm1 (i := 13) (by decide +kernel) rfl, by decide +kernel, by decide +kernel, by decide +kernel⟩
def mX12_either : MI := (yX12_either, cX12_either, 1, none)
theorem kM_X12_either : MiK mX12_either 0 := ⟨tm6 (i := 35) (by decide +kernel) rfl, tm1 (i := 13) (by decide +kernel) rfl, by decide +kernel, by decide +kernel, by decide +kernel⟩
def mX12_element : MI := (yX12_element, cX12_element, 3, (some .long))
theorem kM_X12_element : MiK mX12_element 2 := ⟨tm7 (i := 127) (by decide +kernel) rfl, tm1 (i := 13) (by decide +kernel) rfl, by decide +kernel, by decide +kernel, by decide +kernel⟩
def mX12_faulty : MI := (yX12_faulty, cX12_faulty, 1, none)
theorem kM_X12_faulty : MiK mX12_faulty 0 := ⟨tm6 (i := 74) (by decide +kernel) rfl, tm1 (i := 13) (by decide +kernel) rfl, by decide +kernel, by decide +kernel, by decide +kernel⟩
def mX12_feed : MI := (yX12_feed, cX12_feed, 2, (some .int))
theorem kM_X12_feed : MiK mX12_feed 1 := ⟨tm6 (i := 19) (by decide +kernel) rfl, tm1 (i := 13) (by decide +kernel) rfl, by decide +kernel, by decide +kernel, by decide +kernel⟩
def mX12_fewSends : MI := (yX12_fewSends, cX12_fewSends, 3, (some .int))
theorem kM_X12_fewSends : MiK mX12_fewSends 2 := ⟨tm7 (i := 79) (by decide +kernel) rfl, tm1 (i := 13) (by decide +kernel) rfl, by decide +kernel, by decide +kernel, by decide +kernel⟩
def mX12_fewest : MI := (yX12_fewest, cX12_fewest, 3, (some .int))
theorem kM_X12_fewest : MiK mX12_fewest 1 := ⟨tm7 (i := 8) (by decide +kernel) rfl, tm1 (i := 13) (by decide +kernel) rfl, by decide +kernel, by decide +kernel, by decide +kernel⟩
def mX12_figure : MI := (yX12_figure, cX12_figure, 3, none)
theorem kM_X12_figure : MiK mX12_figure 0 := ⟨tm6 (i := 78) (by decide +kernel) rfl, tm1 (i := 13) (by decide +kernel) rfl, by decide +kernel, by decide +kernel, by decide +kernel⟩
def mX12_findBest : MI := (yX12_findBest, cX12_findBest, 4, none)
theorem kM_X12_findBest : MiK mX12_findBest 0 := ⟨tm6 (i := 181) (by decide +kernel) rfl, tm1 (i := 13) (by decide +kernel) rfl, by decide +kernel, by decide +kernel, by decide +kernel⟩
def mX12_findBoth : MI := (yX12_findBoth, cX12_findBoth, 2, (some .boolean))
theorem kM_X12_findBoth : MiK mX12_findBoth 0 := ⟨tm6 (i := 201) (by decide +kernel) rfl, tm1 (i := 13) (by decide +kernel) rfl, by decide +kernel, by decide +kernel, by decide +kernel⟩
def mX12_findGains : MI := (yX12_findGains, cX12_findGains, 4, none)
theorem kM_X12_findGains : MiK mX12_findGains 1 := ⟨tm6 (i := 169) (by decide +kernel) rfl, tm1 (i := 13) (by decide +kernel) rfl, by decide +kernel, by decide +kernel, by decide +kernel⟩
def mX12_findHas : MI := (yX12_findHas, cX12_findHas, 4, none)
theorem kM_X12_findHas : MiK mX12_findHas 0 := ⟨tm6 (i := 106) (by decide +kernel) rfl, tm1 (i := 13) (by decide +kernel) rfl, by decide +kernel, by decide +kernel, by decide +kernel⟩
def mX12_findMost : MI := (yX12_findMost, cX12_findMost, 4, (some .int))
theorem kM_X12_findMost : MiK mX12_findMost 0 := ⟨tm7 (i := 4) (by decide +kernel) rfl, tm1 (i := 13) (by decide +kernel) rfl, by decide +kernel, by decide +kernel, by decide +kernel⟩
def mX12_findRows : MI := (yX12_findRows, cX12_findRows, 3, none)
theorem kM_X12_findRows : MiK mX12_findRows 2 := ⟨tm6 (i := 126) (by decide +kernel) rfl, tm1 (i := 13) (by decide +kernel) rfl, by decide +kernel, by decide +kernel, by decide +kernel⟩
def mX12_gives : MI := (yX12_gives, cX12_gives, 4, (some .int))
theorem kM_X12_gives : MiK mX12_gives 1 := ⟨tm6 (i := 90) (by decide +kernel) rfl, tm1 (i := 13) (by decide +kernel) rfl, by decide +kernel, by decide +kernel, by decide +kernel⟩
def mX12_goYears : MI := (yX12_goYears, cX12_goYears, 6, none)
theorem kM_X12_goYears : MiK mX12_goYears 1 := ⟨tm7 (i := 16) (by decide +kernel) rfl, tm1 (i := 13) (by decide +kernel) rfl, by decide +kernel, by decide +kernel, by decide +kernel⟩
def mX12_hasBy : MI := (yX12_hasBy, cX12_hasBy, 5, (some .int))
theorem kM_X12_hasBy : MiK mX12_hasBy 3 := ⟨tm6 (i := 86) (by decide +kernel) rfl, tm1 (i := 13) (by decide +kernel) rfl, by decide +kernel, by decide +kernel, by decide +kernel⟩
def mX12_image : MI := (yX12_image, cX12_image, 2, (some .int))
theorem kM_X12_image : MiK mX12_image 0 := ⟨tm7 (i := 32) (by decide +kernel) rfl, tm1 (i := 13) (by decide +kernel) rfl, by decide +kernel, by decide +kernel, by decide +kernel⟩
def mX12_in : MI := (yX12_in, cX12_in, 3, (some .boolean))
theorem kM_X12_in : MiK mX12_in 3 := ⟨tm5 (i := 205) (by decide +kernel) rfl, tm1 (i := 13) (by decide +kernel) rfl, by decide +kernel, by decide +kernel, by decide +kernel⟩
def mX12_init : MI := (yX12_init, cX12_init, 1, none)
theorem kM_X12_init : MiK mX12_init 0 := ⟨tm5 (i := 18) (by decide +kernel) rfl, tm1 (i := 13) (by decide +kernel) rfl, by decide +kernel, by decide +kernel, by decide +kernel⟩
def mX12_isBaker : MI := (yX12_isBaker, cX12_isBaker, 1, (some .boolean))
theorem kM_X12_isBaker : MiK mX12_isBaker 1 := ⟨tm5 (i := 224) (by decide +kernel) rfl, tm1 (i := 13) (by decide +kernel) rfl, by decide +kernel, by decide +kernel, by decide +kernel⟩
def mX12_isBody : MI := (yX12_isBody, cX12_isBody, 2, (some .boolean))
theorem kM_X12_isBody : MiK mX12_isBody 1 := ⟨tm7 (i := 52) (by decide +kernel) rfl, tm1 (i := 13) (by decide +kernel) rfl, by decide +kernel, by decide +kernel, by decide +kernel⟩
def mX12_isShelf : MI := (yX12_isShelf, cX12_isShelf, 1, (some .boolean))
theorem kM_X12_isShelf : MiK mX12_isShelf 1 := ⟨tm6 (i := 15) (by decide +kernel) rfl, tm1 (i := 13) (by decide +kernel) rfl, by decide +kernel, by decide +kernel, by decide +kernel⟩
def mX12_isUnder : MI := (yX12_isUnder, cX12_isUnder, 2, (some .boolean))
theorem kM_X12_isUnder : MiK mX12_isUnder 2 := ⟨tm7 (i := 59) (by decide +kernel) rfl, tm1 (i := 13) (by decide +kernel) rfl, by decide +kernel, by decide +kernel, by decide +kernel⟩
def mX12_isVillage : MI := (yX12_isVillage, cX12_isVillage, 2, (some .boolean))
theorem kM_X12_isVillage : MiK mX12_isVillage 1 := ⟨tm5 (i := 236) (by decide +kernel) rfl, tm1 (i := 13) (by decide +kernel) rfl, by decide +kernel, by decide +kernel, by decide +kernel⟩
def mX12_keep : MI := (yX12_keep, cX12_keep, 3, (some .int))
theorem kM_X12_keep : MiK mX12_keep 2 := ⟨tm7 (i := 111) (by decide +kernel) rfl, tm1 (i := 13) (by decide +kernel) rfl, by decide +kernel, by decide +kernel, by decide +kernel⟩
def mX12_law : MI := (yX12_law, cX12_law, 2, (some .int))
theorem kM_X12_law : MiK mX12_law 0 := ⟨tm6 (i := 23) (by decide +kernel) rfl, tm1 (i := 13) (by decide +kernel) rfl, by decide +kernel, by decide +kernel, by decide +kernel⟩
def mX12_layRows : MI := (yX12_layRows, cX12_layRows, 5, none)
theorem kM_X12_layRows : MiK mX12_layRows 3 := ⟨tm6 (i := 130) (by decide +kernel) rfl, tm1 (i := 13) (by decide +kernel) rfl, by decide +kernel, by decide +kernel, by decide +kernel⟩
def mX12_lays : MI := (yX12_lays, cX12_lays, 4, none)
theorem kM_X12_lays : MiK mX12_lays 3 := ⟨tm5 (i := 213) (by decide +kernel) rfl, tm1 (i := 13) (by decide +kernel) rfl, by decide +kernel, by decide +kernel, by decide +kernel⟩
def mX12_learning : MI := (yX12_learning, cX12_learning, 3, (some .int))
theorem kM_X12_learning : MiK mX12_learning 2 := ⟨tm7 (i := 95) (by decide +kernel) rfl, tm1 (i := 13) (by decide +kernel) rfl, by decide +kernel, by decide +kernel, by decide +kernel⟩
def mX12_line : MI := (yX12_line, cX12_line, 4, (some .long))
theorem kM_X12_line : MiK mX12_line 3 := ⟨tm6 (i := 189) (by decide +kernel) rfl, tm1 (i := 13) (by decide +kernel) rfl, by decide +kernel, by decide +kernel, by decide +kernel⟩
def mX12_look : MI := (yX12_look, cX12_look, 1, (some .int))
theorem kM_X12_look : MiK mX12_look 0 := ⟨tm6 (i := 59) (by decide +kernel) rfl, tm1 (i := 13) (by decide +kernel) rfl, by decide +kernel, by decide +kernel, by decide +kernel⟩
def mX12_mean : MI := (yX12_mean, cX12_mean, 2, (some .long))
theorem kM_X12_mean : MiK mX12_mean 1 := ⟨tm6 (i := 134) (by decide +kernel) rfl, tm1 (i := 13) (by decide +kernel) rfl, by decide +kernel, by decide +kernel, by decide +kernel⟩
def mX12_meanBroken : MI := (yX12_meanBroken, cX12_meanBroken, 9, (some .long))
theorem kM_X12_meanBroken : MiK mX12_meanBroken 2 := ⟨tm6 (i := 138) (by decide +kernel) rfl, tm1 (i := 13) (by decide +kernel) rfl, by decide +kernel, by decide +kernel, by decide +kernel⟩
def mX12_mend : MI := (yX12_mend, cX12_mend, 4, (some .int))
theorem kM_X12_mend : MiK mX12_mend 3 := ⟨tm5 (i := 221) (by decide +kernel) rfl, tm1 (i := 13) (by decide +kernel) rfl, by decide +kernel, by decide +kernel, by decide +kernel⟩
def mX12_mix : MI := (yX12_mix, cX12_mix, 4, (some .int))
theorem kM_X12_mix : MiK mX12_mix 3 := ⟨tm6 (i := 0) (by decide +kernel) rfl, tm1 (i := 13) (by decide +kernel) rfl, by decide +kernel, by decide +kernel, by decide +kernel⟩
def mX12_mixAt : MI := (yX12_mixAt, cX12_mixAt, 4, (some .int))
theorem kM_X12_mixAt : MiK mX12_mixAt 3 := ⟨tm6 (i := 150) (by decide +kernel) rfl, tm1 (i := 13) (by decide +kernel) rfl, by decide +kernel, by decide +kernel, by decide +kernel⟩
def mX12_mixMany : MI := (yX12_mixMany, cX12_mixMany, 2, (some .int))
theorem kM_X12_mixMany : MiK mX12_mixMany 1 := ⟨tm6 (i := 142) (by decide +kernel) rfl, tm1 (i := 13) (by decide +kernel) rfl, by decide +kernel, by decide +kernel, by decide +kernel⟩
def mX12_mixes : MI := (yX12_mixes, cX12_mixes, 10, (some .int))
theorem kM_X12_mixes : MiK mX12_mixes 3 := ⟨tm6 (i := 12) (by decide +kernel) rfl, tm1 (i := 13) (by decide +kernel) rfl, by decide +kernel, by decide +kernel, by decide +kernel⟩
def mX12_most : MI := (yX12_most, cX12_most, 3, (some .int))
theorem kM_X12_most : MiK mX12_most 1 := ⟨tm7 (i := 0) (by decide +kernel) rfl, tm1 (i := 13) (by decide +kernel) rfl, by decide +kernel, by decide +kernel, by decide +kernel⟩
def mX12_nameOf : MI := (yX12_nameOf, cX12_nameOf, 1, (some .int))
theorem kM_X12_nameOf : MiK mX12_nameOf 1 := ⟨tm6 (i := 62) (by decide +kernel) rfl, tm1 (i := 13) (by decide +kernel) rfl, by decide +kernel, by decide +kernel, by decide +kernel⟩
def mX12_noGains : MI := (yX12_noGains, cX12_noGains, 2, none)
theorem kM_X12_noGains : MiK mX12_noGains 0 := ⟨tm6 (i := 173) (by decide +kernel) rfl, tm1 (i := 13) (by decide +kernel) rfl, by decide +kernel, by decide +kernel, by decide +kernel⟩
def mX12_numberIn : MI := (yX12_numberIn, cX12_numberIn, 5, (some .int))
theorem kM_X12_numberIn : MiK mX12_numberIn 3 := ⟨tm6 (i := 212) (by decide +kernel) rfl, tm1 (i := 13) (by decide +kernel) rfl, by decide +kernel, by decide +kernel, by decide +kernel⟩
def mX12_numberOf : MI := (yX12_numberOf, cX12_numberOf, 4, (some .int))
theorem kM_X12_numberOf : MiK mX12_numberOf 1 := ⟨tm6 (i := 185) (by decide +kernel) rfl, tm1 (i := 13) (by decide +kernel) rfl, by decide +kernel, by decide +kernel, by decide +kernel⟩
def mX12_of : MI := (yX12_of, cX12_of, 3, (some .int))
theorem kM_X12_of : MiK mX12_of 2 := ⟨tm6 (i := 114) (by decide +kernel) rfl, tm1 (i := 13) (by decide +kernel) rfl, by decide +kernel, by decide +kernel, by decide +kernel⟩
def mX12_oneLine : MI := (yX12_oneLine, cX12_oneLine, 2, none)
theorem kM_X12_oneLine : MiK mX12_oneLine 0 := ⟨tm6 (i := 31) (by decide +kernel) rfl, tm1 (i := 13) (by decide +kernel) rfl, by decide +kernel, by decide +kernel, by decide +kernel⟩
def mX12_opens : MI := (yX12_opens, cX12_opens, 1, (some .boolean))
theorem kM_X12_opens : MiK mX12_opens 0 := ⟨tm6 (i := 70) (by decide +kernel) rfl, tm1 (i := 13) (by decide +kernel) rfl, by decide +kernel, by decide +kernel, by decide +kernel⟩
def mX12_operand : MI := (yX12_operand, cX12_operand, 2, none)
theorem kM_X12_operand : MiK mX12_operand 0 := ⟨tm6 (i := 55) (by decide +kernel) rfl, tm1 (i := 13) (by decide +kernel) rfl, by decide +kernel, by decide +kernel, by decide +kernel⟩
def mX12_part : MI := (yX12_part, cX12_part, 7, (some .long))
theorem kM_X12_part : MiK mX12_part 3 := ⟨tm6 (i := 153) (by decide +kernel) rfl, tm1 (i := 13) (by decide +kernel) rfl, by decide +kernel, by decide +kernel, by decide +kernel⟩
def mX12_parting : MI := (yX12_parting, cX12_parting, 3, (some .int))
theorem kM_X12_parting : MiK mX12_parting 2 := ⟨tm7 (i := 56) (by decide +kernel) rfl, tm1 (i := 13) (by decide +kernel) rfl, by decide +kernel, by decide +kernel, by decide +kernel⟩
def mX12_plainLearns : MI := (yX12_plainLearns, cX12_plainLearns, 4, (some .int))
theorem kM_X12_plainLearns : MiK mX12_plainLearns 2 := ⟨tm7 (i := 103) (by decide +kernel) rfl, tm1 (i := 13) (by decide +kernel) rfl, by decide +kernel, by decide +kernel, by decide +kernel⟩
def mX12_plainParts : MI := (yX12_plainParts, cX12_plainParts, 3, (some .int))
theorem kM_X12_plainParts : MiK mX12_plainParts 2 := ⟨tm7 (i := 67) (by decide +kernel) rfl, tm1 (i := 13) (by decide +kernel) rfl, by decide +kernel, by decide +kernel, by decide +kernel⟩
def mX12_plainSends : MI := (yX12_plainSends, cX12_plainSends, 3, (some .int))
theorem kM_X12_plainSends : MiK mX12_plainSends 2 := ⟨tm7 (i := 83) (by decide +kernel) rfl, tm1 (i := 13) (by decide +kernel) rfl, by decide +kernel, by decide +kernel, by decide +kernel⟩
def mX12_plainWins : MI := (yX12_plainWins, cX12_plainWins, 3, (some .int))
theorem kM_X12_plainWins : MiK mX12_plainWins 2 := ⟨tm7 (i := 91) (by decide +kernel) rfl, tm1 (i := 13) (by decide +kernel) rfl, by decide +kernel, by decide +kernel, by decide +kernel⟩
def mX12_product : MI := (yX12_product, cX12_product, 2, none)
theorem kM_X12_product : MiK mX12_product 0 := ⟨tm6 (i := 51) (by decide +kernel) rfl, tm1 (i := 13) (by decide +kernel) rfl, by decide +kernel, by decide +kernel, by decide +kernel⟩
def mX12_put : MI := (yX12_put, cX12_put, 7, (some .int))
theorem kM_X12_put : MiK mX12_put 3 := ⟨tm7 (i := 119) (by decide +kernel) rfl, tm1 (i := 13) (by decide +kernel) rfl, by decide +kernel, by decide +kernel, by decide +kernel⟩
def mX12_ran : MI := (yX12_ran, cX12_ran, 2, none)
theorem kM_X12_ran : MiK mX12_ran 1 := ⟨tm7 (i := 63) (by decide +kernel) rfl, tm1 (i := 13) (by decide +kernel) rfl, by decide +kernel, by decide +kernel, by decide +kernel⟩
def mX12_readText : MI := (yX12_readText, cX12_readText, 3, (some .int))
theorem kM_X12_readText : MiK mX12_readText 1 := ⟨tm6 (i := 27) (by decide +kernel) rfl, tm1 (i := 13) (by decide +kernel) rfl, by decide +kernel, by decide +kernel, by decide +kernel⟩
def mX12_reads : MI := (yX12_reads, cX12_reads, 6, (some .boolean))
theorem kM_X12_reads : MiK mX12_reads 2 := ⟨tm6 (i := 4) (by decide +kernel) rfl, tm1 (i := 13) (by decide +kernel) rfl, by decide +kernel, by decide +kernel, by decide +kernel⟩
def mX12_redo : MI := (yX12_redo, cX12_redo, 1, (some .int))
theorem kM_X12_redo : MiK mX12_redo 0 := ⟨tm5 (i := 217) (by decide +kernel) rfl, tm1 (i := 13) (by decide +kernel) rfl, by decide +kernel, by decide +kernel, by decide +kernel⟩
def mX12_rest : MI := (yX12_rest, cX12_rest, 6, (some .int))
theorem kM_X12_rest : MiK mX12_rest 1 := ⟨tm6 (i := 224) (by decide +kernel) rfl, tm1 (i := 13) (by decide +kernel) rfl, by decide +kernel, by decide +kernel, by decide +kernel⟩
def mX12_ring : MI := (yX12_ring, cX12_ring, 5, (some .int))
theorem kM_X12_ring : MiK mX12_ring 1 := ⟨tm6 (i := 216) (by decide +kernel) rfl, tm1 (i := 13) (by decide +kernel) rfl, by decide +kernel, by decide +kernel, by decide +kernel⟩
def mX12_row : MI := (yX12_row, cX12_row, 5, (some .int))
theorem kM_X12_row : MiK mX12_row 3 := ⟨tm7 (i := 115) (by decide +kernel) rfl, tm1 (i := 13) (by decide +kernel) rfl, by decide +kernel, by decide +kernel, by decide +kernel⟩
def mX12_safest : MI := (yX12_safest, cX12_safest, 8, (some .int))
theorem kM_X12_safest : MiK mX12_safest 2 := ⟨tm6 (i := 209) (by decide +kernel) rfl, tm1 (i := 13) (by decide +kernel) rfl, by decide +kernel, by decide +kernel, by decide +kernel⟩
def mX12_score : MI := (yX12_score, cX12_score, 5, (some .int))
theorem kM_X12_score : MiK mX12_score 2 := ⟨tm6 (i := 101) (by decide +kernel) rfl, tm1 (i := 13) (by decide +kernel) rfl, by decide +kernel, by decide +kernel, by decide +kernel⟩
def mX12_scoreAt : MI := (yX12_scoreAt, cX12_scoreAt, 5, (some .int))
theorem kM_X12_scoreAt : MiK mX12_scoreAt 2 := ⟨tm6 (i := 228) (by decide +kernel) rfl, tm1 (i := 13) (by decide +kernel) rfl, by decide +kernel, by decide +kernel, by decide +kernel⟩
def mX12_send : MI := (yX12_send, cX12_send, 4, none)
theorem kM_X12_send : MiK mX12_send 2 := ⟨tm7 (i := 20) (by decide +kernel) rfl, tm1 (i := 13) (by decide +kernel) rfl, by decide +kernel, by decide +kernel, by decide +kernel⟩
def mX12_sending : MI := (yX12_sending, cX12_sending, 4, (some .int))
theorem kM_X12_sending : MiK mX12_sending 2 := ⟨tm7 (i := 75) (by decide +kernel) rfl, tm1 (i := 13) (by decide +kernel) rfl, by decide +kernel, by decide +kernel, by decide +kernel⟩
def mX12_sentAt : MI := (yX12_sentAt, cX12_sentAt, 4, (some .int))
theorem kM_X12_sentAt : MiK mX12_sentAt 3 := ⟨tm7 (i := 24) (by decide +kernel) rfl, tm1 (i := 13) (by decide +kernel) rfl, by decide +kernel, by decide +kernel, by decide +kernel⟩
def mX12_shift : MI := (yX12_shift, cX12_shift, 7, (some .int))
theorem kM_X12_shift : MiK mX12_shift 5 := ⟨tm7 (i := 131) (by decide +kernel) rfl, tm1 (i := 13) (by decide +kernel) rfl, by decide +kernel, by decide +kernel, by decide +kernel⟩
def mX12_spy : MI := (yX12_spy, cX12_spy, 9, (some .long))
theorem kM_X12_spy : MiK mX12_spy 2 := ⟨tm6 (i := 193) (by decide +kernel) rfl, tm1 (i := 13) (by decide +kernel) rfl, by decide +kernel, by decide +kernel, by decide +kernel⟩
def mX12_sum : MI := (yX12_sum, cX12_sum, 2, none)
theorem kM_X12_sum : MiK mX12_sum 0 := ⟨tm6 (i := 47) (by decide +kernel) rfl, tm1 (i := 13) (by decide +kernel) rfl, by decide +kernel, by decide +kernel, by decide +kernel⟩
def mX12_sure : MI := (yX12_sure, cX12_sure, 3, (some .int))
theorem kM_X12_sure : MiK mX12_sure 1 := ⟨tm6 (i := 232) (by decide +kernel) rfl, tm1 (i := 13) (by decide +kernel) rfl, by decide +kernel, by decide +kernel, by decide +kernel⟩
def mX12_sureOf : MI := (yX12_sureOf, cX12_sureOf, 9, (some .int))
theorem kM_X12_sureOf : MiK mX12_sureOf 2 := ⟨tm6 (i := 236) (by decide +kernel) rfl, tm1 (i := 13) (by decide +kernel) rfl, by decide +kernel, by decide +kernel, by decide +kernel⟩
def mX12_taken : MI := (yX12_taken, cX12_taken, 3, (some .int))
theorem kM_X12_taken : MiK mX12_taken 2 := ⟨tm7 (i := 135) (by decide +kernel) rfl, tm1 (i := 13) (by decide +kernel) rfl, by decide +kernel, by decide +kernel, by decide +kernel⟩
def mX12_toldParts : MI := (yX12_toldParts, cX12_toldParts, 3, (some .int))
theorem kM_X12_toldParts : MiK mX12_toldParts 2 := ⟨tm7 (i := 71) (by decide +kernel) rfl, tm1 (i := 13) (by decide +kernel) rfl, by decide +kernel, by decide +kernel, by decide +kernel⟩
def mX12_trace : MI := (yX12_trace, cX12_trace, 2, (some .int))
theorem kM_X12_trace : MiK mX12_trace 1 := ⟨tm7 (i := 40) (by decide +kernel) rfl, tm1 (i := 13) (by decide +kernel) rfl, by decide +kernel, by decide +kernel, by decide +kernel⟩
def mX12_twoOf : MI := (yX12_twoOf, cX12_twoOf, 3, (some .int))
theorem kM_X12_twoOf : MiK mX12_twoOf 3 := ⟨tm6 (i := 97) (by decide +kernel) rfl, tm1 (i := 13) (by decide +kernel) rfl, by decide +kernel, by decide +kernel, by decide +kernel⟩
def mX12_undo : MI := (yX12_undo, cX12_undo, 1, (some .int))
theorem kM_X12_undo : MiK mX12_undo 0 := ⟨tm5 (i := 209) (by decide +kernel) rfl, tm1 (i := 13) (by decide +kernel) rfl, by decide +kernel, by decide +kernel, by decide +kernel⟩
def mX12_usesUp : MI := (yX12_usesUp, cX12_usesUp, 2, (some .int))
theorem kM_X12_usesUp : MiK mX12_usesUp 1 := ⟨tm6 (i := 122) (by decide +kernel) rfl, tm1 (i := 13) (by decide +kernel) rfl, by decide +kernel, by decide +kernel, by decide +kernel⟩
def mX12_valueAt : MI := (yX12_valueAt, cX12_valueAt, 3, (some .int))
theorem kM_X12_valueAt : MiK mX12_valueAt 2 := ⟨tm5 (i := 232) (by decide +kernel) rfl, tm1 (i := 13) (by decide +kernel) rfl, by decide +kernel, by decide +kernel, by decide +kernel⟩
def mX12_valueOf : MI := (yX12_valueOf, cX12_valueOf, 4, (some .int))
theorem kM_X12_valueOf : MiK mX12_valueOf 3 := ⟨tm6 (i := 110) (by decide +kernel) rfl, tm1 (i := 13) (by decide +kernel) rfl, by decide +kernel, by decide +kernel, by decide +kernel⟩
def mX12_village : MI := (yX12_village, cX12_village, 3, (some .int))
theorem kM_X12_village : MiK mX12_village 2 := ⟨tm5 (i := 202) (by decide +kernel) rfl, tm1 (i := 13) (by decide +kernel) rfl, by decide +kernel, by decide +kernel, by decide +kernel⟩
def mX12_weightAt : MI := (yX12_weightAt, cX12_weightAt, 3, (some .int))
theorem kM_X12_weightAt : MiK mX12_weightAt 2 := ⟨tm6 (i := 146) (by decide +kernel) rfl, tm1 (i := 13) (by decide +kernel) rfl, by decide +kernel, by decide +kernel, by decide +kernel⟩
def mX12_weights : MI := (yX12_weights, cX12_weights, 5, (some .int))
theorem kM_X12_weights : MiK mX12_weights 2 := ⟨tm6 (i := 118) (by decide +kernel) rfl, tm1 (i := 13) (by decide +kernel) rfl, by decide +kernel, by decide +kernel, by decide +kernel⟩
def mX12_whyNoPlace : MI := (yX12_whyNoPlace, cX12_whyNoPlace, 3, (some .int))
theorem kM_X12_whyNoPlace : MiK mX12_whyNoPlace 2 := ⟨tm7 (i := 123) (by decide +kernel) rfl, tm1 (i := 13) (by decide +kernel) rfl, by decide +kernel, by decide +kernel, by decide +kernel⟩
def mX12_winning : MI := (yX12_winning, cX12_winning, 4, (some .int))
theorem kM_X12_winning : MiK mX12_winning 2 := ⟨tm7 (i := 87) (by decide +kernel) rfl, tm1 (i := 13) (by decide +kernel) rfl, by decide +kernel, by decide +kernel, by decide +kernel⟩
def mX12_won : MI := (yX12_won, cX12_won, 4, (some .int))
theorem kM_X12_won : MiK mX12_won 2 := ⟨tm6 (i := 82) (by decide +kernel) rfl, tm1 (i := 13) (by decide +kernel) rfl, by decide +kernel, by decide +kernel, by decide +kernel⟩
def mX12_worked : MI := (yX12_worked, cX12_worked, 7, (some .int))
theorem kM_X12_worked : MiK mX12_worked 3 := ⟨tm6 (i := 94) (by decide +kernel) rfl, tm1 (i := 13) (by decide +kernel) rfl, by decide +kernel, by decide +kernel, by decide +kernel⟩
def mX12_year : MI := (yX12_year, cX12_year, 3, (some .int))
theorem kM_X12_year : MiK mX12_year 2 := ⟨tm7 (i := 12) (by decide +kernel) rfl, tm1 (i := 13) (by decide +kernel) rfl, by decide +kernel, by decide +kernel, by decide +kernel⟩
def mX12_years : MI := (yX12_years, cX12_years, 5, (some .int))
theorem kM_X12_years : MiK mX12_years 1 := ⟨tm7 (i := 28) (by decide +kernel) rfl, tm1 (i := 13) (by decide +kernel) rfl, by decide +kernel, by decide +kernel, by decide +kernel⟩
def mX1_doAgain : MI := (yX1_doAgain, cX1_doAgain, 2, none)
theorem kM_X1_doAgain : MiK mX1_doAgain 1 := ⟨tm4 (i := 153) (by decide +kernel) rfl, tm1 (i := 10) (by decide +kernel) rfl, by decide +kernel, by decide +kernel, by decide +kernel⟩
def mX1_dropFirst : MI := (yX1_dropFirst, cX1_dropFirst, 1, none)
theorem kM_X1_dropFirst : MiK mX1_dropFirst 0 := ⟨tm2 (i := 170) (by decide +kernel) rfl, tm1 (i := 10) (by decide +kernel) rfl, by decide +kernel, by decide +kernel, by decide +kernel⟩
def mX1_init : MI := (yX1_init, cX1_init, 1, none)
theorem kM_X1_init : MiK mX1_init 0 := ⟨tm2 (i := 20) (by decide +kernel) rfl, tm1 (i := 10) (by decide +kernel) rfl, by decide +kernel, by decide +kernel, by decide +kernel⟩
def mX1_note : MI := (yX1_note, cX1_note, 5, none)
theorem kM_X1_note : MiK mX1_note 4 := ⟨tm2 (i := 166) (by decide +kernel) rfl, tm1 (i := 10) (by decide +kernel) rfl, by decide +kernel, by decide +kernel, by decide +kernel⟩
def mX1_takeBack : MI := (yX1_takeBack, cX1_takeBack, 2, none)
theorem kM_X1_takeBack : MiK mX1_takeBack 1 := ⟨tm4 (i := 144) (by decide +kernel) rfl, tm1 (i := 10) (by decide +kernel) rfl, by decide +kernel, by decide +kernel, by decide +kernel⟩
def mX2_go : MI := (yX2_go, cX2_go, 4, (some .int))
theorem kM_X2_go : MiK mX2_go 1 := ⟨tm4 (i := 105) (by decide +kernel) rfl, tm1 (i := 9) (by decide +kernel) rfl, by decide +kernel, by decide +kernel, by decide +kernel⟩
def mX2_init : MI := (yX2_init, cX2_init, 3, none)
theorem kM_X2_init : MiK mX2_init 2 := ⟨tm1 (i := 236) (by decide +kernel) rfl, tm1 (i := 9) (by decide +kernel) rfl, by decide +kernel, by decide +kernel, by decide +kernel⟩
def mX2_learnSent : MI := (yX2_learnSent, cX2_learnSent, 3, none)
theorem kM_X2_learnSent : MiK mX2_learnSent 0 := ⟨tm4 (i := 113) (by decide +kernel) rfl, tm1 (i := 9) (by decide +kernel) rfl, by decide +kernel, by decide +kernel, by decide +kernel⟩
def mX2_sendBest : MI := (yX2_sendBest, cX2_sendBest, 2, none)
theorem kM_X2_sendBest : MiK mX2_sendBest 1 := ⟨tm4 (i := 117) (by decide +kernel) rfl, tm1 (i := 9) (by decide +kernel) rfl, by decide +kernel, by decide +kernel, by decide +kernel⟩
def mX3_costs : MI := (yX3_costs, cX3_costs, 4, none)
theorem kM_X3_costs : MiK mX3_costs 0 := ⟨tm4 (i := 79) (by decide +kernel) rfl, tm1 (i := 7) (by decide +kernel) rfl, by decide +kernel, by decide +kernel, by decide +kernel⟩
def mX3_duel : MI := (yX3_duel, cX3_duel, 7, (some .int))
theorem kM_X3_duel : MiK mX3_duel 4 := ⟨tm4 (i := 8) (by decide +kernel) rfl, tm1 (i := 7) (by decide +kernel) rfl, by decide +kernel, by decide +kernel, by decide +kernel⟩
def mX3_findMost : MI := (yX3_findMost, cX3_findMost, 5, (some .boolean))
theorem kM_X3_findMost : MiK mX3_findMost 1 := ⟨tm4 (i := 92) (by decide +kernel) rfl, tm1 (i := 7) (by decide +kernel) rfl, by decide +kernel, by decide +kernel, by decide +kernel⟩
def mX3_findRest : MI := (yX3_findRest, cX3_findRest, 3, (some .boolean))
theorem kM_X3_findRest : MiK mX3_findRest 0 := ⟨tm4 (i := 60) (by decide +kernel) rfl, tm1 (i := 7) (by decide +kernel) rfl, by decide +kernel, by decide +kernel, by decide +kernel⟩
def mX3_findRing : MI := (yX3_findRing, cX3_findRing, 4, (some .boolean))
theorem kM_X3_findRing : MiK mX3_findRing 0 := ⟨tm4 (i := 30) (by decide +kernel) rfl, tm1 (i := 7) (by decide +kernel) rfl, by decide +kernel, by decide +kernel, by decide +kernel⟩
def mX3_firstGuard : MI := (yX3_firstGuard, cX3_firstGuard, 5, (some .int))
theorem kM_X3_firstGuard : MiK mX3_firstGuard 1 := ⟨tm4 (i := 64) (by decide +kernel) rfl, tm1 (i := 7) (by decide +kernel) rfl, by decide +kernel, by decide +kernel, by decide +kernel⟩
def mX3_hasBit : MI := (yX3_hasBit, cX3_hasBit, 3, (some .boolean))
theorem kM_X3_hasBit : MiK mX3_hasBit 3 := ⟨tm4 (i := 40) (by decide +kernel) rfl, tm1 (i := 7) (by decide +kernel) rfl, by decide +kernel, by decide +kernel, by decide +kernel⟩
def mX3_init : MI := (yX3_init, cX3_init, 2, none)
theorem kM_X3_init : MiK mX3_init 1 := ⟨tm1 (i := 167) (by decide +kernel) rfl, tm1 (i := 7) (by decide +kernel) rfl, by decide +kernel, by decide +kernel, by decide +kernel⟩
def mX3_losses : MI := (yX3_losses, cX3_losses, 9, (some .int))
theorem kM_X3_losses : MiK mX3_losses 4 := ⟨tm4 (i := 4) (by decide +kernel) rfl, tm1 (i := 7) (by decide +kernel) rfl, by decide +kernel, by decide +kernel, by decide +kernel⟩
def mX3_matchOwn : MI := (yX3_matchOwn, cX3_matchOwn, 3, none)
theorem kM_X3_matchOwn : MiK mX3_matchOwn 0 := ⟨tm4 (i := 34) (by decide +kernel) rfl, tm1 (i := 7) (by decide +kernel) rfl, by decide +kernel, by decide +kernel, by decide +kernel⟩
def mX3_mayList : MI := (yX3_mayList, cX3_mayList, 3, (some .boolean))
theorem kM_X3_mayList : MiK mX3_mayList 0 := ⟨tm3 (i := 224) (by decide +kernel) rfl, tm1 (i := 7) (by decide +kernel) rfl, by decide +kernel, by decide +kernel, by decide +kernel⟩
def mX3_numberAt : MI := (yX3_numberAt, cX3_numberAt, 3, (some .int))
theorem kM_X3_numberAt : MiK mX3_numberAt 2 := ⟨tm4 (i := 21) (by decide +kernel) rfl, tm1 (i := 7) (by decide +kernel) rfl, by decide +kernel, by decide +kernel, by decide +kernel⟩
def mX3_open : MI := (yX3_open, cX3_open, 1, (some .boolean))
theorem kM_X3_open : MiK mX3_open 0 := ⟨tm3 (i := 220) (by decide +kernel) rfl, tm1 (i := 7) (by decide +kernel) rfl, by decide +kernel, by decide +kernel, by decide +kernel⟩
def mX3_ringPart : MI := (yX3_ringPart, cX3_ringPart, 2, (some .int))
theorem kM_X3_ringPart : MiK mX3_ringPart 1 := ⟨tm4 (i := 52) (by decide +kernel) rfl, tm1 (i := 7) (by decide +kernel) rfl, by decide +kernel, by decide +kernel, by decide +kernel⟩
def mX3_safe : MI := (yX3_safe, cX3_safe, 7, (some .int))
theorem kM_X3_safe : MiK mX3_safe 2 := ⟨tm4 (i := 16) (by decide +kernel) rfl, tm1 (i := 7) (by decide +kernel) rfl, by decide +kernel, by decide +kernel, by decide +kernel⟩
def mX3_surely : MI := (yX3_surely, cX3_surely, 6, (some .int))
theorem kM_X3_surely : MiK mX3_surely 1 := ⟨tm4 (i := 83) (by decide +kernel) rfl, tm1 (i := 7) (by decide +kernel) rfl, by decide +kernel, by decide +kernel, by decide +kernel⟩
def mX3_third : MI := (yX3_third, cX3_third, 6, (some .int))
theorem kM_X3_third : MiK mX3_third 2 := ⟨tm4 (i := 44) (by decide +kernel) rfl, tm1 (i := 7) (by decide +kernel) rfl, by decide +kernel, by decide +kernel, by decide +kernel⟩
def mX3_worst : MI := (yX3_worst, cX3_worst, 6, (some .int))
theorem kM_X3_worst : MiK mX3_worst 2 := ⟨tm4 (i := 69) (by decide +kernel) rfl, tm1 (i := 7) (by decide +kernel) rfl, by decide +kernel, by decide +kernel, by decide +kernel⟩
def mX3_writeList : MI := (yX3_writeList, cX3_writeList, 4, none)
theorem kM_X3_writeList : MiK mX3_writeList 1 := ⟨tm3 (i := 230) (by decide +kernel) rfl, tm1 (i := 7) (by decide +kernel) rfl, by decide +kernel, by decide +kernel, by decide +kernel⟩
def mX4_emit : MI := (yX4_emit, cX4_emit, 2, none)
theorem kM_X4_emit : MiK mX4_emit 1 := ⟨tm3 (i := 43) (by decide +kernel) rfl, tm1 (i := 2) (by decide +kernel) rfl, by decide +kernel, by decide +kernel, by decide +kernel⟩
def mX4_fail : MI := (yX4_fail, cX4_fail, 1, none)
theorem kM_X4_fail : MiK mX4_fail 0 := ⟨tm3 (i := 58) (by decide +kernel) rfl, tm1 (i := 2) (by decide +kernel) rfl, by decide +kernel, by decide +kernel, by decide +kernel⟩
def mX4_init : MI := (yX4_init, cX4_init, 1, none)
theorem kM_X4_init : MiK mX4_init 0 := ⟨tm1 (i := 29) (by decide +kernel) rfl, tm1 (i := 2) (by decide +kernel) rfl, by decide +kernel, by decide +kernel, by decide +kernel⟩
def mX4_isDigit : MI := (yX4_isDigit, cX4_isDigit, 1, (some .boolean))
theorem kM_X4_isDigit : MiK mX4_isDigit 1 := ⟨tm3 (i := 35) (by decide +kernel) rfl, tm1 (i := 2) (by decide +kernel) rfl, by decide +kernel, by decide +kernel, by decide +kernel⟩
def mX4_isName : MI := (yX4_isName, cX4_isName, 1, (some .boolean))
theorem kM_X4_isName : MiK mX4_isName 1 := ⟨tm3 (i := 46) (by decide +kernel) rfl, tm1 (i := 2) (by decide +kernel) rfl, by decide +kernel, by decide +kernel, by decide +kernel⟩
def mX4_isTold : MI := (yX4_isTold, cX4_isTold, 1, (some .boolean))
theorem kM_X4_isTold : MiK mX4_isTold 0 := ⟨tm3 (i := 75) (by decide +kernel) rfl, tm1 (i := 2) (by decide +kernel) rfl, by decide +kernel, by decide +kernel, by decide +kernel⟩
def mX4_joined : MI := (yX4_joined, cX4_joined, 3, (some .int))
theorem kM_X4_joined : MiK mX4_joined 3 := ⟨tm3 (i := 93) (by decide +kernel) rfl, tm1 (i := 2) (by decide +kernel) rfl, by decide +kernel, by decide +kernel, by decide +kernel⟩
def mX4_named : MI := (yX4_named, cX4_named, 6, (some .int))
theorem kM_X4_named : MiK mX4_named 6 := ⟨tm3 (i := 90) (by decide +kernel) rfl, tm1 (i := 2) (by decide +kernel) rfl, by decide +kernel, by decide +kernel, by decide +kernel⟩
def mX4_next : MI := (yX4_next, cX4_next, 1, (some .int))
theorem kM_X4_next : MiK mX4_next 0 := ⟨tm3 (i := 32) (by decide +kernel) rfl, tm1 (i := 2) (by decide +kernel) rfl, by decide +kernel, by decide +kernel, by decide +kernel⟩
def mX4_pop : MI := (yX4_pop, cX4_pop, 1, (some .int))
theorem kM_X4_pop : MiK mX4_pop 0 := ⟨tm3 (i := 83) (by decide +kernel) rfl, tm1 (i := 2) (by decide +kernel) rfl, by decide +kernel, by decide +kernel, by decide +kernel⟩
def mX4_push : MI := (yX4_push, cX4_push, 2, none)
theorem kM_X4_push : MiK mX4_push 1 := ⟨tm3 (i := 87) (by decide +kernel) rfl, tm1 (i := 2) (by decide +kernel) rfl, by decide +kernel, by decide +kernel, by decide +kernel⟩
def mX4_read : MI := (yX4_read, cX4_read, 2, (some .int))
theorem kM_X4_read : MiK mX4_read 0 := ⟨tm3 (i := 0) (by decide +kernel) rfl, tm1 (i := 2) (by decide +kernel) rfl, by decide +kernel, by decide +kernel, by decide +kernel⟩
def mX4_readBoth : MI := (yX4_readBoth, cX4_readBoth, 3, none)
theorem kM_X4_readBoth : MiK mX4_readBoth 1 := ⟨tm3 (i := 12) (by decide +kernel) rfl, tm1 (i := 2) (by decide +kernel) rfl, by decide +kernel, by decide +kernel, by decide +kernel⟩
def mX4_readCompared : MI := (yX4_readCompared, cX4_readCompared, 3, none)
theorem kM_X4_readCompared : MiK mX4_readCompared 1 := ⟨tm3 (i := 16) (by decide +kernel) rfl, tm1 (i := 2) (by decide +kernel) rfl, by decide +kernel, by decide +kernel, by decide +kernel⟩
def mX4_readEither : MI := (yX4_readEither, cX4_readEither, 3, none)
theorem kM_X4_readEither : MiK mX4_readEither 1 := ⟨tm3 (i := 8) (by decide +kernel) rfl, tm1 (i := 2) (by decide +kernel) rfl, by decide +kernel, by decide +kernel, by decide +kernel⟩
def mX4_readLine : MI := (yX4_readLine, cX4_readLine, 1, none)
theorem kM_X4_readLine : MiK mX4_readLine 0 := ⟨tm3 (i := 4) (by decide +kernel) rfl, tm1 (i := 2) (by decide +kernel) rfl, by decide +kernel, by decide +kernel, by decide +kernel⟩
def mX4_readNumber : MI := (yX4_readNumber, cX4_readNumber, 3, none)
theorem kM_X4_readNumber : MiK mX4_readNumber 0 := ⟨tm3 (i := 39) (by decide +kernel) rfl, tm1 (i := 2) (by decide +kernel) rfl, by decide +kernel, by decide +kernel, by decide +kernel⟩
def mX4_readOpened : MI := (yX4_readOpened, cX4_readOpened, 3, none)
theorem kM_X4_readOpened : MiK mX4_readOpened 2 := ⟨tm3 (i := 50) (by decide +kernel) rfl, tm1 (i := 2) (by decide +kernel) rfl, by decide +kernel, by decide +kernel, by decide +kernel⟩
def mX4_readOperand : MI := (yX4_readOperand, cX4_readOperand, 3, none)
theorem kM_X4_readOperand : MiK mX4_readOperand 1 := ⟨tm3 (i := 28) (by decide +kernel) rfl, tm1 (i := 2) (by decide +kernel) rfl, by decide +kernel, by decide +kernel, by decide +kernel⟩
def mX4_readProduct : MI := (yX4_readProduct, cX4_readProduct, 4, none)
theorem kM_X4_readProduct : MiK mX4_readProduct 1 := ⟨tm3 (i := 24) (by decide +kernel) rfl, tm1 (i := 2) (by decide +kernel) rfl, by decide +kernel, by decide +kernel, by decide +kernel⟩
def mX4_readSum : MI := (yX4_readSum, cX4_readSum, 4, none)
theorem kM_X4_readSum : MiK mX4_readSum 1 := ⟨tm3 (i := 20) (by decide +kernel) rfl, tm1 (i := 2) (by decide +kernel) rfl, by decide +kernel, by decide +kernel, by decide +kernel⟩
def mX4_take : MI := (yX4_take, cX4_take, 2, (some .boolean))
theorem kM_X4_take : MiK mX4_take 1 := ⟨tm2 (i := 232) (by decide +kernel) rfl, tm1 (i := 2) (by decide +kernel) rfl, by decide +kernel, by decide +kernel, by decide +kernel⟩
def mX4_takes : MI := (yX4_takes, cX4_takes, 2, (some .boolean))
theorem kM_X4_takes : MiK mX4_takes 1 := ⟨tm3 (i := 54) (by decide +kernel) rfl, tm1 (i := 2) (by decide +kernel) rfl, by decide +kernel, by decide +kernel, by decide +kernel⟩
def mX4_worked : MI := (yX4_worked, cX4_worked, 10, (some .int))
theorem kM_X4_worked : MiK mX4_worked 5 := ⟨tm3 (i := 79) (by decide +kernel) rfl, tm1 (i := 2) (by decide +kernel) rfl, by decide +kernel, by decide +kernel, by decide +kernel⟩
def mX5_add : MI := (yX5_add, cX5_add, 3, (some .boolean))
theorem kM_X5_add : MiK mX5_add 2 := ⟨tm2 (i := 211) (by decide +kernel) rfl, tm1 (i := 4) (by decide +kernel) rfl, by decide +kernel, by decide +kernel, by decide +kernel⟩
def mX5_copy : MI := (yX5_copy, cX5_copy, 2, none)
theorem kM_X5_copy : MiK mX5_copy 1 := ⟨tm4 (i := 132) (by decide +kernel) rfl, tm1 (i := 4) (by decide +kernel) rfl, by decide +kernel, by decide +kernel, by decide +kernel⟩
def mX5_init : MI := (yX5_init, cX5_init, 1, none)
theorem kM_X5_init : MiK mX5_init 0 := ⟨tm1 (i := 115) (by decide +kernel) rfl, tm1 (i := 4) (by decide +kernel) rfl, by decide +kernel, by decide +kernel, by decide +kernel⟩
def mX5_lines : MI := (yX5_lines, cX5_lines, 1, (some .int))
theorem kM_X5_lines : MiK mX5_lines 0 := ⟨tm3 (i := 135) (by decide +kernel) rfl, tm1 (i := 4) (by decide +kernel) rfl, by decide +kernel, by decide +kernel, by decide +kernel⟩
def mX5_loavesAt : MI := (yX5_loavesAt, cX5_loavesAt, 3, (some .int))
theorem kM_X5_loavesAt : MiK mX5_loavesAt 2 := ⟨tm3 (i := 147) (by decide +kernel) rfl, tm1 (i := 4) (by decide +kernel) rfl, by decide +kernel, by decide +kernel, by decide +kernel⟩
def mX5_weight : MI := (yX5_weight, cX5_weight, 3, (some .int))
theorem kM_X5_weight : MiK mX5_weight 0 := ⟨tm2 (i := 191) (by decide +kernel) rfl, tm1 (i := 4) (by decide +kernel) rfl, by decide +kernel, by decide +kernel, by decide +kernel⟩
def mX5_weightAt : MI := (yX5_weightAt, cX5_weightAt, 2, (some .int))
theorem kM_X5_weightAt : MiK mX5_weightAt 1 := ⟨tm3 (i := 139) (by decide +kernel) rfl, tm1 (i := 4) (by decide +kernel) rfl, by decide +kernel, by decide +kernel, by decide +kernel⟩
def mX5_whole : MI := (yX5_whole, cX5_whole, 1, (some .int))
theorem kM_X5_whole : MiK mX5_whole 0 := ⟨tm3 (i := 152) (by decide +kernel) rfl, tm1 (i := 4) (by decide +kernel) rfl, by decide +kernel, by decide +kernel, by decide +kernel⟩
def mX6_choose : MI := (yX6_choose, cX6_choose, 7, none)
theorem kM_X6_choose : MiK mX6_choose 3 := ⟨tm3 (i := 194) (by decide +kernel) rfl, tm1 (i := 6) (by decide +kernel) rfl, by decide +kernel, by decide +kernel, by decide +kernel⟩
def mX6_init : MI := (yX6_init, cX6_init, 1, none)
theorem kM_X6_init : MiK mX6_init 0 := ⟨tm1 (i := 138) (by decide +kernel) rfl, tm1 (i := 6) (by decide +kernel) rfl, by decide +kernel, by decide +kernel, by decide +kernel⟩
def mX6_mostFrom : MI := (yX6_mostFrom, cX6_mostFrom, 5, (some .int))
theorem kM_X6_mostFrom : MiK mX6_mostFrom 2 := ⟨tm3 (i := 185) (by decide +kernel) rfl, tm1 (i := 6) (by decide +kernel) rfl, by decide +kernel, by decide +kernel, by decide +kernel⟩
def mX6_solve : MI := (yX6_solve, cX6_solve, 6, (some .int))
theorem kM_X6_solve : MiK mX6_solve 3 := ⟨tm3 (i := 180) (by decide +kernel) rfl, tm1 (i := 6) (by decide +kernel) rfl, by decide +kernel, by decide +kernel, by decide +kernel⟩
def mX6_with : MI := (yX6_with, cX6_with, 4, (some .int))
theorem kM_X6_with : MiK mX6_with 3 := ⟨tm3 (i := 189) (by decide +kernel) rfl, tm1 (i := 6) (by decide +kernel) rfl, by decide +kernel, by decide +kernel, by decide +kernel⟩
def mX7_hasRun : MI := (yX7_hasRun, cX7_hasRun, 3, (some .boolean))
theorem kM_X7_hasRun : MiK mX7_hasRun 2 := ⟨tm4 (i := 237) (by decide +kernel) rfl, tm1 (i := 12) (by decide +kernel) rfl, by decide +kernel, by decide +kernel, by decide +kernel⟩
def mX7_holdBody : MI := (yX7_holdBody, cX7_holdBody, 2, none)
theorem kM_X7_holdBody : MiK mX7_holdBody 1 := ⟨tm4 (i := 205) (by decide +kernel) rfl, tm1 (i := 12) (by decide +kernel) rfl, by decide +kernel, by decide +kernel, by decide +kernel⟩
def mX7_holdRow : MI := (yX7_holdRow, cX7_holdRow, 3, none)
theorem kM_X7_holdRow : MiK mX7_holdRow 2 := ⟨tm4 (i := 213) (by decide +kernel) rfl, tm1 (i := 12) (by decide +kernel) rfl, by decide +kernel, by decide +kernel, by decide +kernel⟩
def mX7_init : MI := (yX7_init, cX7_init, 1, none)
theorem kM_X7_init : MiK mX7_init 0 := ⟨tm2 (i := 73) (by decide +kernel) rfl, tm1 (i := 12) (by decide +kernel) rfl, by decide +kernel, by decide +kernel, by decide +kernel⟩
def mX7_lowest : MI := (yX7_lowest, cX7_lowest, 3, (some .long))
theorem kM_X7_lowest : MiK mX7_lowest 2 := ⟨tm4 (i := 225) (by decide +kernel) rfl, tm1 (i := 12) (by decide +kernel) rfl, by decide +kernel, by decide +kernel, by decide +kernel⟩
def mX7_refusal : MI := (yX7_refusal, cX7_refusal, 2, (some .int))
theorem kM_X7_refusal : MiK mX7_refusal 1 := ⟨tm4 (i := 222) (by decide +kernel) rfl, tm1 (i := 12) (by decide +kernel) rfl, by decide +kernel, by decide +kernel, by decide +kernel⟩
def mX8_become : MI := (yX8_become, cX8_become, 4, none)
theorem kM_X8_become : MiK mX8_become 3 := ⟨tm2 (i := 177) (by decide +kernel) rfl, tm1 (i := 3) (by decide +kernel) rfl, by decide +kernel, by decide +kernel, by decide +kernel⟩
def mX8_custom : MI := (yX8_custom, cX8_custom, 4, (some .int))
theorem kM_X8_custom : MiK mX8_custom 3 := ⟨tm3 (i := 97) (by decide +kernel) rfl, tm1 (i := 3) (by decide +kernel) rfl, by decide +kernel, by decide +kernel, by decide +kernel⟩
def mX8_forget : MI := (yX8_forget, cX8_forget, 2, none)
theorem kM_X8_forget : MiK mX8_forget 0 := ⟨tm3 (i := 63) (by decide +kernel) rfl, tm1 (i := 3) (by decide +kernel) rfl, by decide +kernel, by decide +kernel, by decide +kernel⟩
def mX8_found : MI := (yX8_found, cX8_found, 4, (some .int))
theorem kM_X8_found : MiK mX8_found 3 := ⟨tm2 (i := 143) (by decide +kernel) rfl, tm1 (i := 3) (by decide +kernel) rfl, by decide +kernel, by decide +kernel, by decide +kernel⟩
def mX8_fullPartings : MI := (yX8_fullPartings, cX8_fullPartings, 4, (some .int))
theorem kM_X8_fullPartings : MiK mX8_fullPartings 1 := ⟨tm2 (i := 195) (by decide +kernel) rfl, tm1 (i := 3) (by decide +kernel) rfl, by decide +kernel, by decide +kernel, by decide +kernel⟩
def mX8_init : MI := (yX8_init, cX8_init, 2, none)
theorem kM_X8_init : MiK mX8_init 1 := ⟨tm1 (i := 68) (by decide +kernel) rfl, tm1 (i := 3) (by decide +kernel) rfl, by decide +kernel, by decide +kernel, by decide +kernel⟩
def mX8_isVillage : MI := (yX8_isVillage, cX8_isVillage, 2, (some .boolean))
theorem kM_X8_isVillage : MiK mX8_isVillage 1 := ⟨tm2 (i := 158) (by decide +kernel) rfl, tm1 (i := 3) (by decide +kernel) rfl, by decide +kernel, by decide +kernel, by decide +kernel⟩
def mX8_judged : MI := (yX8_judged, cX8_judged, 5, (some .int))
theorem kM_X8_judged : MiK mX8_judged 3 := ⟨tm3 (i := 71) (by decide +kernel) rfl, tm1 (i := 3) (by decide +kernel) rfl, by decide +kernel, by decide +kernel, by decide +kernel⟩
def mX8_mayBecome : MI := (yX8_mayBecome, cX8_mayBecome, 4, (some .boolean))
theorem kM_X8_mayBecome : MiK mX8_mayBecome 3 := ⟨tm2 (i := 151) (by decide +kernel) rfl, tm1 (i := 3) (by decide +kernel) rfl, by decide +kernel, by decide +kernel, by decide +kernel⟩
def mX8_numberOf : MI := (yX8_numberOf, cX8_numberOf, 5, (some .int))
theorem kM_X8_numberOf : MiK mX8_numberOf 2 := ⟨tm3 (i := 198) (by decide +kernel) rfl, tm1 (i := 3) (by decide +kernel) rfl, by decide +kernel, by decide +kernel, by decide +kernel⟩
def mX8_read : MI := (yX8_read, cX8_read, 7, (some .boolean))
theorem kM_X8_read : MiK mX8_read 3 := ⟨tm2 (i := 204) (by decide +kernel) rfl, tm1 (i := 3) (by decide +kernel) rfl, by decide +kernel, by decide +kernel, by decide +kernel⟩
def mX8_scoreOf : MI := (yX8_scoreOf, cX8_scoreOf, 5, (some .int))
theorem kM_X8_scoreOf : MiK mX8_scoreOf 2 := ⟨tm3 (i := 114) (by decide +kernel) rfl, tm1 (i := 3) (by decide +kernel) rfl, by decide +kernel, by decide +kernel, by decide +kernel⟩
def mX8_settle : MI := (yX8_settle, cX8_settle, 3, none)
theorem kM_X8_settle : MiK mX8_settle 0 := ⟨tm3 (i := 109) (by decide +kernel) rfl, tm1 (i := 3) (by decide +kernel) rfl, by decide +kernel, by decide +kernel, by decide +kernel⟩
def mX8_valueOf : MI := (yX8_valueOf, cX8_valueOf, 3, (some .int))
theorem kM_X8_valueOf : MiK mX8_valueOf 2 := ⟨tm2 (i := 162) (by decide +kernel) rfl, tm1 (i := 3) (by decide +kernel) rfl, by decide +kernel, by decide +kernel, by decide +kernel⟩
def mX9_addGains : MI := (yX9_addGains, cX9_addGains, 8, none)
theorem kM_X9_addGains : MiK mX9_addGains 3 := ⟨tm3 (i := 176) (by decide +kernel) rfl, tm1 (i := 5) (by decide +kernel) rfl, by decide +kernel, by decide +kernel, by decide +kernel⟩
def mX9_bestOf : MI := (yX9_bestOf, cX9_bestOf, 3, (some .int))
theorem kM_X9_bestOf : MiK mX9_bestOf 1 := ⟨tm3 (i := 167) (by decide +kernel) rfl, tm1 (i := 5) (by decide +kernel) rfl, by decide +kernel, by decide +kernel, by decide +kernel⟩
def mX9_earned : MI := (yX9_earned, cX9_earned, 5, (some .int))
theorem kM_X9_earned : MiK mX9_earned 2 := ⟨tm3 (i := 171) (by decide +kernel) rfl, tm1 (i := 5) (by decide +kernel) rfl, by decide +kernel, by decide +kernel, by decide +kernel⟩
def mX9_heard : MI := (yX9_heard, cX9_heard, 7, (some .int))
theorem kM_X9_heard : MiK mX9_heard 1 := ⟨tm3 (i := 211) (by decide +kernel) rfl, tm1 (i := 5) (by decide +kernel) rfl, by decide +kernel, by decide +kernel, by decide +kernel⟩
def mX9_init : MI := (yX9_init, cX9_init, 3, none)
theorem kM_X9_init : MiK mX9_init 2 := ⟨tm1 (i := 132) (by decide +kernel) rfl, tm1 (i := 5) (by decide +kernel) rfl, by decide +kernel, by decide +kernel, by decide +kernel⟩
def mX9_twelveDays : MI := (yX9_twelveDays, cX9_twelveDays, 7, (some .int))
theorem kM_X9_twelveDays : MiK mX9_twelveDays 3 := ⟨tm3 (i := 143) (by decide +kernel) rfl, tm1 (i := 5) (by decide +kernel) rfl, by decide +kernel, by decide +kernel, by decide +kernel⟩
def mX9_weighted : MI := (yX9_weighted, cX9_weighted, 6, (some .long))
theorem kM_X9_weighted : MiK mX9_weighted 1 := ⟨tm3 (i := 130) (by decide +kernel) rfl, tm1 (i := 5) (by decide +kernel) rfl, by decide +kernel, by decide +kernel, by decide +kernel⟩
theorem kl_RL_9 : LkI RL 9 mX11_init 0 := ⟨kM_X11_init, tm1 (i := 19) (by decide +kernel) rfl, tm1 (i := 20) (by decide +kernel) rfl, rfl, rfl⟩
theorem kl_RX11_1 : Cond.methodLink RX11 1 objectInit ∈ gT ∧ Cond.instanceMethod objectInit ∈ gT ∧ Cond.code objectInit ⟨#[0xb1]⟩ 1 none ∈ gT := ⟨tm1 (i := 22) (by decide +kernel) rfl, tm1 (i := 23) (by decide +kernel) rfl, tm1 (i := 24) (by decide +kernel) rfl⟩
theorem kl_RX11_9 : LkI RX11 9 mX4_init 0 := ⟨kM_X4_init, tm1 (i := 27) (by decide +kernel) rfl, tm1 (i := 28) (by decide +kernel) rfl, rfl, rfl⟩
theorem kl_RX4_1 : Cond.methodLink RX4 1 objectInit ∈ gT ∧ Cond.instanceMethod objectInit ∈ gT ∧ Cond.code objectInit ⟨#[0xb1]⟩ 1 none ∈ gT := ⟨tm1 (i := 30) (by decide +kernel) rfl, tm1 (i := 23) (by decide +kernel) rfl, tm1 (i := 24) (by decide +kernel) rfl⟩
theorem kl_RX11_18 : LkI RX11 18 mX8_init 1 := ⟨kM_X8_init, tm1 (i := 66) (by decide +kernel) rfl, tm1 (i := 67) (by decide +kernel) rfl, rfl, rfl⟩
theorem kl_RX8_3 : Cond.methodLink RX8 3 objectInit ∈ gT ∧ Cond.instanceMethod objectInit ∈ gT ∧ Cond.code objectInit ⟨#[0xb1]⟩ 1 none ∈ gT := ⟨tm1 (i := 69) (by decide +kernel) rfl, tm1 (i := 23) (by decide +kernel) rfl, tm1 (i := 24) (by decide +kernel) rfl⟩
theorem kl_RX11_27 : LkI RX11 27 mX5_init 0 := ⟨kM_X5_init, tm1 (i := 113) (by decide +kernel) rfl, tm1 (i := 114) (by decide +kernel) rfl, rfl, rfl⟩
theorem kl_RX5_1 : Cond.methodLink RX5 1 objectInit ∈ gT ∧ Cond.instanceMethod objectInit ∈ gT ∧ Cond.code objectInit ⟨#[0xb1]⟩ 1 none ∈ gT := ⟨tm1 (i := 116) (by decide +kernel) rfl, tm1 (i := 23) (by decide +kernel) rfl, tm1 (i := 24) (by decide +kernel) rfl⟩
theorem kl_RX11_37 : LkI RX11 37 mX9_init 2 := ⟨kM_X9_init, tm1 (i := 130) (by decide +kernel) rfl, tm1 (i := 131) (by decide +kernel) rfl, rfl, rfl⟩
theorem kl_RX9_3 : Cond.methodLink RX9 3 objectInit ∈ gT ∧ Cond.instanceMethod objectInit ∈ gT ∧ Cond.code objectInit ⟨#[0xb1]⟩ 1 none ∈ gT := ⟨tm1 (i := 133) (by decide +kernel) rfl, tm1 (i := 23) (by decide +kernel) rfl, tm1 (i := 24) (by decide +kernel) rfl⟩
theorem kl_RX9_21 : LkI RX9 21 mX6_init 0 := ⟨kM_X6_init, tm1 (i := 136) (by decide +kernel) rfl, tm1 (i := 137) (by decide +kernel) rfl, rfl, rfl⟩
theorem kl_RX6_1 : Cond.methodLink RX6 1 objectInit ∈ gT ∧ Cond.instanceMethod objectInit ∈ gT ∧ Cond.code objectInit ⟨#[0xb1]⟩ 1 none ∈ gT := ⟨tm1 (i := 139) (by decide +kernel) rfl, tm1 (i := 23) (by decide +kernel) rfl, tm1 (i := 24) (by decide +kernel) rfl⟩
theorem kl_RX11_46 : LkI RX11 46 mX3_init 1 := ⟨kM_X3_init, tm1 (i := 165) (by decide +kernel) rfl, tm1 (i := 166) (by decide +kernel) rfl, rfl, rfl⟩
theorem kl_RX3_1 : Cond.methodLink RX3 1 objectInit ∈ gT ∧ Cond.instanceMethod objectInit ∈ gT ∧ Cond.code objectInit ⟨#[0xb1]⟩ 1 none ∈ gT := ⟨tm1 (i := 168) (by decide +kernel) rfl, tm1 (i := 23) (by decide +kernel) rfl, tm1 (i := 24) (by decide +kernel) rfl⟩
theorem kl_RX3_15 : LkI RX3 15 mX10_init 0 := ⟨kM_X10_init, tm1 (i := 171) (by decide +kernel) rfl, tm1 (i := 172) (by decide +kernel) rfl, rfl, rfl⟩
theorem kl_RX10_1 : Cond.methodLink RX10 1 objectInit ∈ gT ∧ Cond.instanceMethod objectInit ∈ gT ∧ Cond.code objectInit ⟨#[0xb1]⟩ 1 none ∈ gT := ⟨tm1 (i := 174) (by decide +kernel) rfl, tm1 (i := 23) (by decide +kernel) rfl, tm1 (i := 24) (by decide +kernel) rfl⟩
theorem kl_RX3_22 : LkI RX3 22 mX6_init 0 := ⟨kM_X6_init, tm1 (i := 184) (by decide +kernel) rfl, tm1 (i := 137) (by decide +kernel) rfl, rfl, rfl⟩
theorem kl_RX11_55 : LkI RX11 55 mX2_init 2 := ⟨kM_X2_init, tm1 (i := 234) (by decide +kernel) rfl, tm1 (i := 235) (by decide +kernel) rfl, rfl, rfl⟩
theorem kl_RX2_1 : Cond.methodLink RX2 1 objectInit ∈ gT ∧ Cond.instanceMethod objectInit ∈ gT ∧ Cond.code objectInit ⟨#[0xb1]⟩ 1 none ∈ gT := ⟨tm1 (i := 237) (by decide +kernel) rfl, tm1 (i := 23) (by decide +kernel) rfl, tm1 (i := 24) (by decide +kernel) rfl⟩
theorem kl_RX2_19 : LkI RX2 19 mX6_init 0 := ⟨kM_X6_init, tm2 (i := 0) (by decide +kernel) rfl, tm1 (i := 137) (by decide +kernel) rfl, rfl, rfl⟩
theorem kl_RX11_62 : LkI RX11 62 mX1_init 0 := ⟨kM_X1_init, tm2 (i := 18) (by decide +kernel) rfl, tm2 (i := 19) (by decide +kernel) rfl, rfl, rfl⟩
theorem kl_RX1_1 : Cond.methodLink RX1 1 objectInit ∈ gT ∧ Cond.instanceMethod objectInit ∈ gT ∧ Cond.code objectInit ⟨#[0xb1]⟩ 1 none ∈ gT := ⟨tm2 (i := 21) (by decide +kernel) rfl, tm1 (i := 23) (by decide +kernel) rfl, tm1 (i := 24) (by decide +kernel) rfl⟩
theorem kl_RX11_69 : LkI RX11 69 mX0_init 0 := ⟨kM_X0_init, tm2 (i := 45) (by decide +kernel) rfl, tm2 (i := 46) (by decide +kernel) rfl, rfl, rfl⟩
theorem kl_RX0_1 : Cond.methodLink RX0 1 objectInit ∈ gT ∧ Cond.instanceMethod objectInit ∈ gT ∧ Cond.code objectInit ⟨#[0xb1]⟩ 1 none ∈ gT := ⟨tm2 (i := 48) (by decide +kernel) rfl, tm1 (i := 23) (by decide +kernel) rfl, tm1 (i := 24) (by decide +kernel) rfl⟩
theorem kl_RX11_80 : LkI RX11 80 mX7_init 0 := ⟨kM_X7_init, tm2 (i := 71) (by decide +kernel) rfl, tm2 (i := 72) (by decide +kernel) rfl, rfl, rfl⟩
theorem kl_RX7_3 : Cond.methodLink RX7 3 objectInit ∈ gT ∧ Cond.instanceMethod objectInit ∈ gT ∧ Cond.code objectInit ⟨#[0xb1]⟩ 1 none ∈ gT := ⟨tm2 (i := 74) (by decide +kernel) rfl, tm1 (i := 23) (by decide +kernel) rfl, tm1 (i := 24) (by decide +kernel) rfl⟩
theorem kl_RL_13 : LkV RL 13 mX11_village 2 := ⟨kM_X11_village, tm2 (i := 136) (by decide +kernel) rfl, tm2 (i := 137) (by decide +kernel) rfl, tm2 (i := 138) (by decide +kernel) rfl⟩
theorem kl_RX11_92 : LkV RX11 92 mX8_found 3 := ⟨kM_X8_found, tm2 (i := 140) (by decide +kernel) rfl, tm2 (i := 141) (by decide +kernel) rfl, tm2 (i := 142) (by decide +kernel) rfl⟩
theorem kl_RL_18 : LkV RL 18 mX11_mend 3 := ⟨kM_X11_mend, tm2 (i := 144) (by decide +kernel) rfl, tm2 (i := 145) (by decide +kernel) rfl, tm2 (i := 146) (by decide +kernel) rfl⟩
theorem kl_RX11_96 : LkV RX11 96 mX8_mayBecome 3 := ⟨kM_X8_mayBecome, tm2 (i := 148) (by decide +kernel) rfl, tm2 (i := 149) (by decide +kernel) rfl, tm2 (i := 150) (by decide +kernel) rfl⟩
theorem kl_RX8_39 : LkN RX8 39 mX11_isBaker 1 RX11 := ⟨kM_X11_isBaker, rfl, tm2 (i := 153) (by decide +kernel) rfl⟩
theorem kl_RX8_43 : LkV RX8 43 mX8_isVillage 1 := ⟨kM_X8_isVillage, tm2 (i := 155) (by decide +kernel) rfl, tm2 (i := 156) (by decide +kernel) rfl, tm2 (i := 157) (by decide +kernel) rfl⟩
theorem kl_RX11_100 : LkV RX11 100 mX8_valueOf 2 := ⟨kM_X8_valueOf, tm2 (i := 159) (by decide +kernel) rfl, tm2 (i := 160) (by decide +kernel) rfl, tm2 (i := 161) (by decide +kernel) rfl⟩
theorem kl_RX11_104 : LkV RX11 104 mX1_note 4 := ⟨kM_X1_note, tm2 (i := 163) (by decide +kernel) rfl, tm2 (i := 164) (by decide +kernel) rfl, tm2 (i := 165) (by decide +kernel) rfl⟩
theorem kl_RX1_26 : LkV RX1 26 mX1_dropFirst 0 := ⟨kM_X1_dropFirst, tm2 (i := 167) (by decide +kernel) rfl, tm2 (i := 169) (by decide +kernel) rfl, tm0 (i := 0) (by decide +kernel) rfl⟩
theorem kl_RX1_32 : AcK RX1 32 := ⟨tm2 (i := 171) (by decide +kernel) rfl, tm2 (i := 173) (by decide +kernel) rfl, tm2 (i := 172) (by decide +kernel) rfl, tm1 (i := 14) (by decide +kernel) rfl⟩
theorem kl_RX11_108 : LkV RX11 108 mX8_become 3 := ⟨kM_X8_become, tm2 (i := 174) (by decide +kernel) rfl, tm2 (i := 175) (by decide +kernel) rfl, tm2 (i := 176) (by decide +kernel) rfl⟩
theorem kl_RX8_46 : LkV RX8 46 mX8_mayBecome 3 := ⟨kM_X8_mayBecome, tm2 (i := 178) (by decide +kernel) rfl, tm2 (i := 149) (by decide +kernel) rfl, tm2 (i := 150) (by decide +kernel) rfl⟩
theorem kl_RL_23 : LkV RL 23 mX11_of 2 := ⟨kM_X11_of, tm2 (i := 179) (by decide +kernel) rfl, tm2 (i := 180) (by decide +kernel) rfl, tm2 (i := 181) (by decide +kernel) rfl⟩
theorem kl_RX11_112 : LkS RX11 112 mX11_isBaker 1 := ⟨kM_X11_isBaker, tm2 (i := 183) (by decide +kernel) rfl, tm2 (i := 153) (by decide +kernel) rfl⟩
theorem kl_RX11_116 : LkV RX11 116 mX11_ofBaker 2 := ⟨kM_X11_ofBaker, tm2 (i := 184) (by decide +kernel) rfl, tm2 (i := 186) (by decide +kernel) rfl, tm0 (i := 1) (by decide +kernel) rfl⟩
theorem kl_RX11_137 : LkV RX11 137 mX5_weight 0 := ⟨kM_X5_weight, tm2 (i := 188) (by decide +kernel) rfl, tm2 (i := 189) (by decide +kernel) rfl, tm2 (i := 190) (by decide +kernel) rfl⟩
theorem kl_RX11_141 : LkV RX11 141 mX8_fullPartings 1 := ⟨kM_X8_fullPartings, tm2 (i := 192) (by decide +kernel) rfl, tm2 (i := 193) (by decide +kernel) rfl, tm2 (i := 194) (by decide +kernel) rfl⟩
theorem kl_RX11_119 : LkV RX11 119 mX8_isVillage 1 := ⟨kM_X8_isVillage, tm2 (i := 196) (by decide +kernel) rfl, tm2 (i := 156) (by decide +kernel) rfl, tm2 (i := 157) (by decide +kernel) rfl⟩
theorem kl_RL_27 : LkV RL 27 mX11_mix 3 := ⟨kM_X11_mix, tm2 (i := 197) (by decide +kernel) rfl, tm2 (i := 198) (by decide +kernel) rfl, tm2 (i := 199) (by decide +kernel) rfl⟩
theorem kl_RX11_145 : LkV RX11 145 mX8_read 3 := ⟨kM_X8_read, tm2 (i := 201) (by decide +kernel) rfl, tm2 (i := 202) (by decide +kernel) rfl, tm2 (i := 203) (by decide +kernel) rfl⟩
theorem kl_RX8_73 : LkS RX8 73 mJ7_fill_53178 2 := ⟨kM_J7_fill_53178, tm2 (i := 205) (by decide +kernel) rfl, tm2 (i := 206) (by decide +kernel) rfl⟩
theorem kl_RX11_149 : LkV RX11 149 mX5_add 2 := ⟨kM_X5_add, tm2 (i := 208) (by decide +kernel) rfl, tm2 (i := 209) (by decide +kernel) rfl, tm2 (i := 210) (by decide +kernel) rfl⟩
theorem kl_RX5_22 : AcK RX5 22 := ⟨tm2 (i := 212) (by decide +kernel) rfl, tm2 (i := 173) (by decide +kernel) rfl, tm2 (i := 172) (by decide +kernel) rfl, tm1 (i := 14) (by decide +kernel) rfl⟩
theorem kl_RL_31 : LkV RL 31 mX11_mixes 3 := ⟨kM_X11_mixes, tm2 (i := 213) (by decide +kernel) rfl, tm2 (i := 214) (by decide +kernel) rfl, tm2 (i := 215) (by decide +kernel) rfl⟩
theorem kl_RX11_153 : LkS RX11 153 mX11_isShelf 1 := ⟨kM_X11_isShelf, tm2 (i := 217) (by decide +kernel) rfl, tm2 (i := 218) (by decide +kernel) rfl⟩
theorem kl_RX11_162 : LkV RX11 162 mX11_addFromRow 4 := ⟨kM_X11_addFromRow, tm2 (i := 220) (by decide +kernel) rfl, tm2 (i := 222) (by decide +kernel) rfl, tm0 (i := 2) (by decide +kernel) rfl⟩
theorem kl_RL_35 : LkV RL 35 mX11_feed 1 := ⟨kM_X11_feed, tm2 (i := 225) (by decide +kernel) rfl, tm2 (i := 226) (by decide +kernel) rfl, tm2 (i := 227) (by decide +kernel) rfl⟩
theorem kl_RX11_175 : LkV RX11 175 mX4_take 1 := ⟨kM_X4_take, tm2 (i := 229) (by decide +kernel) rfl, tm2 (i := 230) (by decide +kernel) rfl, tm2 (i := 231) (by decide +kernel) rfl⟩
theorem kl_RL_40 : LkV RL 40 mX11_law 0 := ⟨kM_X11_law, tm2 (i := 233) (by decide +kernel) rfl, tm2 (i := 234) (by decide +kernel) rfl, tm2 (i := 235) (by decide +kernel) rfl⟩
theorem kl_RX11_179 : LkV RX11 179 mX4_read 0 := ⟨kM_X4_read, tm2 (i := 237) (by decide +kernel) rfl, tm2 (i := 238) (by decide +kernel) rfl, tm2 (i := 239) (by decide +kernel) rfl⟩
theorem kl_RX4_38 : LkV RX4 38 mX4_readLine 0 := ⟨kM_X4_readLine, tm3 (i := 1) (by decide +kernel) rfl, tm3 (i := 3) (by decide +kernel) rfl, tm0 (i := 3) (by decide +kernel) rfl⟩
theorem kl_RX4_54 : LkV RX4 54 mX4_readEither 1 := ⟨kM_X4_readEither, tm3 (i := 5) (by decide +kernel) rfl, tm3 (i := 7) (by decide +kernel) rfl, tm0 (i := 4) (by decide +kernel) rfl⟩
theorem kl_RX4_61 : LkV RX4 61 mX4_readBoth 1 := ⟨kM_X4_readBoth, tm3 (i := 9) (by decide +kernel) rfl, tm3 (i := 11) (by decide +kernel) rfl, tm0 (i := 5) (by decide +kernel) rfl⟩
theorem kl_RX4_64 : LkV RX4 64 mX4_readCompared 1 := ⟨kM_X4_readCompared, tm3 (i := 13) (by decide +kernel) rfl, tm3 (i := 15) (by decide +kernel) rfl, tm0 (i := 6) (by decide +kernel) rfl⟩
theorem kl_RX4_67 : LkV RX4 67 mX4_readSum 1 := ⟨kM_X4_readSum, tm3 (i := 17) (by decide +kernel) rfl, tm3 (i := 19) (by decide +kernel) rfl, tm0 (i := 7) (by decide +kernel) rfl⟩
theorem kl_RX4_74 : LkV RX4 74 mX4_readProduct 1 := ⟨kM_X4_readProduct, tm3 (i := 21) (by decide +kernel) rfl, tm3 (i := 23) (by decide +kernel) rfl, tm0 (i := 8) (by decide +kernel) rfl⟩
theorem kl_RX4_77 : LkV RX4 77 mX4_readOperand 1 := ⟨kM_X4_readOperand, tm3 (i := 25) (by decide +kernel) rfl, tm3 (i := 27) (by decide +kernel) rfl, tm0 (i := 9) (by decide +kernel) rfl⟩
theorem kl_RX4_70 : LkV RX4 70 mX4_next 0 := ⟨kM_X4_next, tm3 (i := 29) (by decide +kernel) rfl, tm3 (i := 31) (by decide +kernel) rfl, tm0 (i := 10) (by decide +kernel) rfl⟩
theorem kl_RX4_80 : LkS RX4 80 mX4_isDigit 1 := ⟨kM_X4_isDigit, tm3 (i := 33) (by decide +kernel) rfl, tm3 (i := 34) (by decide +kernel) rfl⟩
theorem kl_RX4_83 : LkV RX4 83 mX4_readNumber 0 := ⟨kM_X4_readNumber, tm3 (i := 36) (by decide +kernel) rfl, tm3 (i := 38) (by decide +kernel) rfl, tm0 (i := 11) (by decide +kernel) rfl⟩
theorem kl_RX4_58 : LkV RX4 58 mX4_emit 1 := ⟨kM_X4_emit, tm3 (i := 40) (by decide +kernel) rfl, tm3 (i := 42) (by decide +kernel) rfl, tm0 (i := 12) (by decide +kernel) rfl⟩
theorem kl_RX4_86 : LkS RX4 86 mX4_isName 1 := ⟨kM_X4_isName, tm3 (i := 44) (by decide +kernel) rfl, tm3 (i := 45) (by decide +kernel) rfl⟩
theorem kl_RX4_89 : LkV RX4 89 mX4_readOpened 2 := ⟨kM_X4_readOpened, tm3 (i := 47) (by decide +kernel) rfl, tm3 (i := 49) (by decide +kernel) rfl, tm0 (i := 13) (by decide +kernel) rfl⟩
theorem kl_RX4_41 : LkV RX4 41 mX4_takes 1 := ⟨kM_X4_takes, tm3 (i := 51) (by decide +kernel) rfl, tm3 (i := 53) (by decide +kernel) rfl, tm0 (i := 14) (by decide +kernel) rfl⟩
theorem kl_RX4_45 : LkV RX4 45 mX4_fail 0 := ⟨kM_X4_fail, tm3 (i := 55) (by decide +kernel) rfl, tm3 (i := 57) (by decide +kernel) rfl, tm0 (i := 15) (by decide +kernel) rfl⟩
theorem kl_RX4_48 : AcK RX4 48 := ⟨tm3 (i := 59) (by decide +kernel) rfl, tm2 (i := 173) (by decide +kernel) rfl, tm2 (i := 172) (by decide +kernel) rfl, tm1 (i := 14) (by decide +kernel) rfl⟩
theorem kl_RX11_181 : LkV RX11 181 mX8_forget 0 := ⟨kM_X8_forget, tm3 (i := 60) (by decide +kernel) rfl, tm3 (i := 61) (by decide +kernel) rfl, tm3 (i := 62) (by decide +kernel) rfl⟩
theorem kl_RL_45 : LkV RL 45 mX11_won 2 := ⟨kM_X11_won, tm3 (i := 64) (by decide +kernel) rfl, tm3 (i := 65) (by decide +kernel) rfl, tm3 (i := 66) (by decide +kernel) rfl⟩
theorem kl_RX11_184 : LkV RX11 184 mX8_judged 3 := ⟨kM_X8_judged, tm3 (i := 68) (by decide +kernel) rfl, tm3 (i := 69) (by decide +kernel) rfl, tm3 (i := 70) (by decide +kernel) rfl⟩
theorem kl_RX8_54 : LkV RX8 54 mX4_isTold 0 := ⟨kM_X4_isTold, tm3 (i := 72) (by decide +kernel) rfl, tm3 (i := 73) (by decide +kernel) rfl, tm3 (i := 74) (by decide +kernel) rfl⟩
theorem kl_RX8_60 : LkV RX8 60 mX4_worked 5 := ⟨kM_X4_worked, tm3 (i := 76) (by decide +kernel) rfl, tm3 (i := 77) (by decide +kernel) rfl, tm3 (i := 78) (by decide +kernel) rfl⟩
theorem kl_RX4_96 : LkV RX4 96 mX4_pop 0 := ⟨kM_X4_pop, tm3 (i := 80) (by decide +kernel) rfl, tm3 (i := 82) (by decide +kernel) rfl, tm0 (i := 16) (by decide +kernel) rfl⟩
theorem kl_RX4_99 : LkV RX4 99 mX4_push 1 := ⟨kM_X4_push, tm3 (i := 84) (by decide +kernel) rfl, tm3 (i := 86) (by decide +kernel) rfl, tm0 (i := 17) (by decide +kernel) rfl⟩
theorem kl_RX4_102 : LkS RX4 102 mX4_named 6 := ⟨kM_X4_named, tm3 (i := 88) (by decide +kernel) rfl, tm3 (i := 89) (by decide +kernel) rfl⟩
theorem kl_RX4_106 : LkS RX4 106 mX4_joined 3 := ⟨kM_X4_joined, tm3 (i := 91) (by decide +kernel) rfl, tm3 (i := 92) (by decide +kernel) rfl⟩
theorem kl_RX8_64 : LkV RX8 64 mX8_custom 3 := ⟨kM_X8_custom, tm3 (i := 94) (by decide +kernel) rfl, tm3 (i := 96) (by decide +kernel) rfl, tm0 (i := 18) (by decide +kernel) rfl⟩
theorem kl_RX8_67 : MxK RX8 67 := ⟨tm3 (i := 98) (by decide +kernel) rfl, tm3 (i := 99) (by decide +kernel) rfl, tm1 (i := 16) (by decide +kernel) rfl, tm3 (i := 100) (by decide +kernel) rfl⟩
theorem kl_RL_49 : LkV RL 49 mX11_score 2 := ⟨kM_X11_score, tm3 (i := 101) (by decide +kernel) rfl, tm3 (i := 102) (by decide +kernel) rfl, tm3 (i := 103) (by decide +kernel) rfl⟩
theorem kl_RX11_188 : LkV RX11 188 mX8_settle 0 := ⟨kM_X8_settle, tm3 (i := 106) (by decide +kernel) rfl, tm3 (i := 107) (by decide +kernel) rfl, tm3 (i := 108) (by decide +kernel) rfl⟩
theorem kl_RX8_50 : LkV RX8 50 mX8_judged 3 := ⟨kM_X8_judged, tm3 (i := 110) (by decide +kernel) rfl, tm3 (i := 69) (by decide +kernel) rfl, tm3 (i := 70) (by decide +kernel) rfl⟩
theorem kl_RX11_191 : LkV RX11 191 mX8_scoreOf 2 := ⟨kM_X8_scoreOf, tm3 (i := 111) (by decide +kernel) rfl, tm3 (i := 112) (by decide +kernel) rfl, tm3 (i := 113) (by decide +kernel) rfl⟩
theorem kl_RL_53 : LkV RL 53 mX11_mean 1 := ⟨kM_X11_mean, tm3 (i := 115) (by decide +kernel) rfl, tm3 (i := 116) (by decide +kernel) rfl, tm3 (i := 117) (by decide +kernel) rfl⟩
theorem kl_RX11_195 : LkV RX11 195 mX11_broke 2 := ⟨kM_X11_broke, tm3 (i := 119) (by decide +kernel) rfl, tm3 (i := 120) (by decide +kernel) rfl, tm3 (i := 121) (by decide +kernel) rfl⟩
theorem kl_RX11_202 : LkS RX11 202 mX11_isPart 1 := ⟨kM_X11_isPart, tm3 (i := 123) (by decide +kernel) rfl, tm3 (i := 124) (by decide +kernel) rfl⟩
theorem kl_RX11_222 : LkV RX11 222 mX9_weighted 1 := ⟨kM_X9_weighted, tm3 (i := 127) (by decide +kernel) rfl, tm3 (i := 128) (by decide +kernel) rfl, tm3 (i := 129) (by decide +kernel) rfl⟩
theorem kl_RX9_51 : LkV RX9 51 mX8_settle 0 := ⟨kM_X8_settle, tm3 (i := 131) (by decide +kernel) rfl, tm3 (i := 107) (by decide +kernel) rfl, tm3 (i := 108) (by decide +kernel) rfl⟩
theorem kl_RX9_63 : LkV RX9 63 mX5_lines 0 := ⟨kM_X5_lines, tm3 (i := 132) (by decide +kernel) rfl, tm3 (i := 133) (by decide +kernel) rfl, tm3 (i := 134) (by decide +kernel) rfl⟩
theorem kl_RX9_83 : LkV RX9 83 mX5_weightAt 1 := ⟨kM_X5_weightAt, tm3 (i := 136) (by decide +kernel) rfl, tm3 (i := 137) (by decide +kernel) rfl, tm3 (i := 138) (by decide +kernel) rfl⟩
theorem kl_RX9_87 : LkV RX9 87 mX9_twelveDays 3 := ⟨kM_X9_twelveDays, tm3 (i := 140) (by decide +kernel) rfl, tm3 (i := 142) (by decide +kernel) rfl, tm0 (i := 19) (by decide +kernel) rfl⟩
theorem kl_RX9_77 : LkV RX9 77 mX5_loavesAt 2 := ⟨kM_X5_loavesAt, tm3 (i := 144) (by decide +kernel) rfl, tm3 (i := 145) (by decide +kernel) rfl, tm3 (i := 146) (by decide +kernel) rfl⟩
theorem kl_RX11_212 : LkV RX11 212 mX5_whole 0 := ⟨kM_X5_whole, tm3 (i := 149) (by decide +kernel) rfl, tm3 (i := 150) (by decide +kernel) rfl, tm3 (i := 151) (by decide +kernel) rfl⟩
theorem kl_RX5_28 : LkV RX5 28 mX5_weight 0 := ⟨kM_X5_weight, tm3 (i := 153) (by decide +kernel) rfl, tm2 (i := 189) (by decide +kernel) rfl, tm2 (i := 190) (by decide +kernel) rfl⟩
theorem kl_RX11_215 : LkS RX11 215 mX11_inLowest 3 := ⟨kM_X11_inLowest, tm3 (i := 154) (by decide +kernel) rfl, tm3 (i := 155) (by decide +kernel) rfl⟩
theorem kl_RX11_228 : MaK RX11 228 := ⟨tm3 (i := 157) (by decide +kernel) rfl, tm3 (i := 158) (by decide +kernel) rfl, tm1 (i := 16) (by decide +kernel) rfl, tm3 (i := 159) (by decide +kernel) rfl⟩
theorem kl_RL_58 : LkV RL 58 mX11_best 1 := ⟨kM_X11_best, tm3 (i := 160) (by decide +kernel) rfl, tm3 (i := 161) (by decide +kernel) rfl, tm3 (i := 162) (by decide +kernel) rfl⟩
theorem kl_RX11_199 : LkV RX11 199 mX9_bestOf 1 := ⟨kM_X9_bestOf, tm3 (i := 164) (by decide +kernel) rfl, tm3 (i := 165) (by decide +kernel) rfl, tm3 (i := 166) (by decide +kernel) rfl⟩
theorem kl_RX9_35 : LkV RX9 35 mX9_earned 2 := ⟨kM_X9_earned, tm3 (i := 168) (by decide +kernel) rfl, tm3 (i := 169) (by decide +kernel) rfl, tm3 (i := 170) (by decide +kernel) rfl⟩
theorem kl_RX9_57 : LkS RX9 57 mJ7_fill_53178 2 := ⟨kM_J7_fill_53178, tm3 (i := 172) (by decide +kernel) rfl, tm2 (i := 206) (by decide +kernel) rfl⟩
theorem kl_RX9_69 : LkV RX9 69 mX9_addGains 3 := ⟨kM_X9_addGains, tm3 (i := 173) (by decide +kernel) rfl, tm3 (i := 175) (by decide +kernel) rfl, tm0 (i := 20) (by decide +kernel) rfl⟩
theorem kl_RX9_73 : LkV RX9 73 mX6_solve 3 := ⟨kM_X6_solve, tm3 (i := 177) (by decide +kernel) rfl, tm3 (i := 178) (by decide +kernel) rfl, tm3 (i := 179) (by decide +kernel) rfl⟩
theorem kl_RX6_19 : LkV RX6 19 mX6_mostFrom 2 := ⟨kM_X6_mostFrom, tm3 (i := 182) (by decide +kernel) rfl, tm3 (i := 184) (by decide +kernel) rfl, tm0 (i := 21) (by decide +kernel) rfl⟩
theorem kl_RX6_23 : LkV RX6 23 mX6_with 3 := ⟨kM_X6_with, tm3 (i := 186) (by decide +kernel) rfl, tm3 (i := 188) (by decide +kernel) rfl, tm0 (i := 22) (by decide +kernel) rfl⟩
theorem kl_RX6_27 : MxK RX6 27 := ⟨tm3 (i := 190) (by decide +kernel) rfl, tm3 (i := 99) (by decide +kernel) rfl, tm1 (i := 16) (by decide +kernel) rfl, tm3 (i := 100) (by decide +kernel) rfl⟩
theorem kl_RX9_43 : LkV RX9 43 mX6_choose 3 := ⟨kM_X6_choose, tm3 (i := 191) (by decide +kernel) rfl, tm3 (i := 192) (by decide +kernel) rfl, tm3 (i := 193) (by decide +kernel) rfl⟩
theorem kl_RX9_47 : LkV RX9 47 mX8_numberOf 2 := ⟨kM_X8_numberOf, tm3 (i := 195) (by decide +kernel) rfl, tm3 (i := 196) (by decide +kernel) rfl, tm3 (i := 197) (by decide +kernel) rfl⟩
theorem kl_RL_62 : LkV RL 62 mX11_line 3 := ⟨kM_X11_line, tm3 (i := 199) (by decide +kernel) rfl, tm3 (i := 200) (by decide +kernel) rfl, tm3 (i := 201) (by decide +kernel) rfl⟩
theorem kl_RX11_209 : LkV RX11 209 mX9_earned 2 := ⟨kM_X9_earned, tm3 (i := 203) (by decide +kernel) rfl, tm3 (i := 169) (by decide +kernel) rfl, tm3 (i := 170) (by decide +kernel) rfl⟩
theorem kl_RL_67 : LkV RL 67 mX11_spy 2 := ⟨kM_X11_spy, tm3 (i := 204) (by decide +kernel) rfl, tm3 (i := 205) (by decide +kernel) rfl, tm3 (i := 206) (by decide +kernel) rfl⟩
theorem kl_RX11_219 : LkV RX11 219 mX9_heard 1 := ⟨kM_X9_heard, tm3 (i := 208) (by decide +kernel) rfl, tm3 (i := 209) (by decide +kernel) rfl, tm3 (i := 210) (by decide +kernel) rfl⟩
theorem kl_RL_72 : LkV RL 72 mX11_broke 2 := ⟨kM_X11_broke, tm3 (i := 212) (by decide +kernel) rfl, tm3 (i := 120) (by decide +kernel) rfl, tm3 (i := 121) (by decide +kernel) rfl⟩
theorem kl_RL_76 : LkV RL 76 mX11_beaten 2 := ⟨kM_X11_beaten, tm3 (i := 213) (by decide +kernel) rfl, tm3 (i := 214) (by decide +kernel) rfl, tm3 (i := 215) (by decide +kernel) rfl⟩
theorem kl_RX11_234 : LkV RX11 234 mX3_open 0 := ⟨kM_X3_open, tm3 (i := 217) (by decide +kernel) rfl, tm3 (i := 218) (by decide +kernel) rfl, tm3 (i := 219) (by decide +kernel) rfl⟩
theorem kl_RX3_58 : LkV RX3 58 mX3_mayList 0 := ⟨kM_X3_mayList, tm3 (i := 221) (by decide +kernel) rfl, tm3 (i := 222) (by decide +kernel) rfl, tm3 (i := 223) (by decide +kernel) rfl⟩
theorem kl_RX3_54 : LkV RX3 54 mX8_fullPartings 1 := ⟨kM_X8_fullPartings, tm3 (i := 225) (by decide +kernel) rfl, tm2 (i := 193) (by decide +kernel) rfl, tm2 (i := 194) (by decide +kernel) rfl⟩
theorem kl_RX3_62 : LkV RX3 62 mX8_settle 0 := ⟨kM_X8_settle, tm3 (i := 226) (by decide +kernel) rfl, tm3 (i := 107) (by decide +kernel) rfl, tm3 (i := 108) (by decide +kernel) rfl⟩
theorem kl_RX3_65 : LkV RX3 65 mX3_writeList 1 := ⟨kM_X3_writeList, tm3 (i := 227) (by decide +kernel) rfl, tm3 (i := 229) (by decide +kernel) rfl, tm0 (i := 23) (by decide +kernel) rfl⟩
theorem kl_RX3_76 : LkV RX3 76 mX10_start 2 := ⟨kM_X10_start, tm3 (i := 231) (by decide +kernel) rfl, tm3 (i := 232) (by decide +kernel) rfl, tm3 (i := 233) (by decide +kernel) rfl⟩
theorem kl_RX10_19 : LkS RX10 19 mJ7_fill_53178 2 := ⟨kM_J7_fill_53178, tm3 (i := 235) (by decide +kernel) rfl, tm2 (i := 206) (by decide +kernel) rfl⟩
theorem kl_RX3_81 : AcK RX3 81 := ⟨tm3 (i := 236) (by decide +kernel) rfl, tm2 (i := 173) (by decide +kernel) rfl, tm2 (i := 172) (by decide +kernel) rfl, tm1 (i := 14) (by decide +kernel) rfl⟩
theorem kl_RX3_87 : LkV RX3 87 mX10_step 0 := ⟨kM_X10_step, tm3 (i := 237) (by decide +kernel) rfl, tm3 (i := 238) (by decide +kernel) rfl, tm3 (i := 239) (by decide +kernel) rfl⟩
theorem kl_RX11_238 : LkV RX11 238 mX3_losses 4 := ⟨kM_X3_losses, tm4 (i := 1) (by decide +kernel) rfl, tm4 (i := 2) (by decide +kernel) rfl, tm4 (i := 3) (by decide +kernel) rfl⟩
theorem kl_RX3_94 : LkV RX3 94 mX3_duel 4 := ⟨kM_X3_duel, tm4 (i := 5) (by decide +kernel) rfl, tm4 (i := 7) (by decide +kernel) rfl, tm0 (i := 24) (by decide +kernel) rfl⟩
theorem kl_RL_80 : LkV RL 80 mX11_safest 2 := ⟨kM_X11_safest, tm4 (i := 9) (by decide +kernel) rfl, tm4 (i := 10) (by decide +kernel) rfl, tm4 (i := 11) (by decide +kernel) rfl⟩
theorem kl_RX11_242 : LkV RX11 242 mX3_safe 2 := ⟨kM_X3_safe, tm4 (i := 13) (by decide +kernel) rfl, tm4 (i := 14) (by decide +kernel) rfl, tm4 (i := 15) (by decide +kernel) rfl⟩
theorem kl_RX3_101 : LkV RX3 101 mX3_losses 4 := ⟨kM_X3_losses, tm4 (i := 17) (by decide +kernel) rfl, tm4 (i := 2) (by decide +kernel) rfl, tm4 (i := 3) (by decide +kernel) rfl⟩
theorem kl_RX3_105 : LkV RX3 105 mX3_numberAt 2 := ⟨kM_X3_numberAt, tm4 (i := 18) (by decide +kernel) rfl, tm4 (i := 19) (by decide +kernel) rfl, tm4 (i := 20) (by decide +kernel) rfl⟩
theorem kl_RX3_90 : LkV RX3 90 mX8_numberOf 2 := ⟨kM_X8_numberOf, tm4 (i := 22) (by decide +kernel) rfl, tm3 (i := 196) (by decide +kernel) rfl, tm3 (i := 197) (by decide +kernel) rfl⟩
theorem kl_RL_84 : LkV RL 84 mX11_ring 1 := ⟨kM_X11_ring, tm4 (i := 23) (by decide +kernel) rfl, tm4 (i := 24) (by decide +kernel) rfl, tm4 (i := 25) (by decide +kernel) rfl⟩
theorem kl_RX11_245 : LkV RX11 245 mX3_findRing 0 := ⟨kM_X3_findRing, tm4 (i := 27) (by decide +kernel) rfl, tm4 (i := 28) (by decide +kernel) rfl, tm4 (i := 29) (by decide +kernel) rfl⟩
theorem kl_RX3_109 : LkV RX3 109 mX3_matchOwn 0 := ⟨kM_X3_matchOwn, tm4 (i := 31) (by decide +kernel) rfl, tm4 (i := 33) (by decide +kernel) rfl, tm0 (i := 25) (by decide +kernel) rfl⟩
theorem kl_RX3_119 : LkS RX3 119 mJ7_fill_d0a16 2 := ⟨kM_J7_fill_d0a16, tm4 (i := 35) (by decide +kernel) rfl, tm4 (i := 36) (by decide +kernel) rfl⟩
theorem kl_RX3_112 : LkS RX3 112 mX3_hasBit 3 := ⟨kM_X3_hasBit, tm4 (i := 38) (by decide +kernel) rfl, tm4 (i := 39) (by decide +kernel) rfl⟩
theorem kl_RX3_116 : LkV RX3 116 mX3_third 2 := ⟨kM_X3_third, tm4 (i := 41) (by decide +kernel) rfl, tm4 (i := 43) (by decide +kernel) rfl, tm0 (i := 26) (by decide +kernel) rfl⟩
theorem kl_RX3_125 : MnK RX3 125 := ⟨tm4 (i := 45) (by decide +kernel) rfl, tm4 (i := 46) (by decide +kernel) rfl, tm1 (i := 16) (by decide +kernel) rfl, tm4 (i := 47) (by decide +kernel) rfl⟩
theorem kl_RX3_130 : MxK RX3 130 := ⟨tm4 (i := 48) (by decide +kernel) rfl, tm3 (i := 99) (by decide +kernel) rfl, tm1 (i := 16) (by decide +kernel) rfl, tm3 (i := 100) (by decide +kernel) rfl⟩
theorem kl_RX11_248 : LkV RX11 248 mX3_ringPart 1 := ⟨kM_X3_ringPart, tm4 (i := 49) (by decide +kernel) rfl, tm4 (i := 50) (by decide +kernel) rfl, tm4 (i := 51) (by decide +kernel) rfl⟩
theorem kl_RL_88 : LkV RL 88 mX11_rest 1 := ⟨kM_X11_rest, tm4 (i := 53) (by decide +kernel) rfl, tm4 (i := 54) (by decide +kernel) rfl, tm4 (i := 55) (by decide +kernel) rfl⟩
theorem kl_RX11_251 : LkV RX11 251 mX3_findRest 0 := ⟨kM_X3_findRest, tm4 (i := 57) (by decide +kernel) rfl, tm4 (i := 58) (by decide +kernel) rfl, tm4 (i := 59) (by decide +kernel) rfl⟩
theorem kl_RX3_133 : LkV RX3 133 mX3_firstGuard 1 := ⟨kM_X3_firstGuard, tm4 (i := 61) (by decide +kernel) rfl, tm4 (i := 63) (by decide +kernel) rfl, tm0 (i := 27) (by decide +kernel) rfl⟩
theorem kl_RX3_140 : LkV RX3 140 mX3_worst 2 := ⟨kM_X3_worst, tm4 (i := 66) (by decide +kernel) rfl, tm4 (i := 68) (by decide +kernel) rfl, tm0 (i := 28) (by decide +kernel) rfl⟩
theorem kl_RX3_146 : LkV RX3 146 mX6_solve 3 := ⟨kM_X6_solve, tm4 (i := 70) (by decide +kernel) rfl, tm3 (i := 178) (by decide +kernel) rfl, tm3 (i := 179) (by decide +kernel) rfl⟩
theorem kl_RX11_260 : LkV RX11 260 mX3_numberAt 2 := ⟨kM_X3_numberAt, tm4 (i := 71) (by decide +kernel) rfl, tm4 (i := 19) (by decide +kernel) rfl, tm4 (i := 20) (by decide +kernel) rfl⟩
theorem kl_RL_92 : LkV RL 92 mX11_sure 1 := ⟨kM_X11_sure, tm4 (i := 72) (by decide +kernel) rfl, tm4 (i := 73) (by decide +kernel) rfl, tm4 (i := 74) (by decide +kernel) rfl⟩
theorem kl_RX11_263 : LkV RX11 263 mX3_costs 0 := ⟨kM_X3_costs, tm4 (i := 76) (by decide +kernel) rfl, tm4 (i := 77) (by decide +kernel) rfl, tm4 (i := 78) (by decide +kernel) rfl⟩
theorem kl_RX11_266 : LkV RX11 266 mX3_surely 1 := ⟨kM_X3_surely, tm4 (i := 80) (by decide +kernel) rfl, tm4 (i := 81) (by decide +kernel) rfl, tm4 (i := 82) (by decide +kernel) rfl⟩
theorem kl_RL_96 : LkV RL 96 mX11_most 1 := ⟨kM_X11_most, tm4 (i := 84) (by decide +kernel) rfl, tm4 (i := 85) (by decide +kernel) rfl, tm4 (i := 86) (by decide +kernel) rfl⟩
theorem kl_RX11_270 : LkV RX11 270 mX3_mayList 0 := ⟨kM_X3_mayList, tm4 (i := 88) (by decide +kernel) rfl, tm3 (i := 222) (by decide +kernel) rfl, tm3 (i := 223) (by decide +kernel) rfl⟩
theorem kl_RX11_273 : LkV RX11 273 mX3_findMost 1 := ⟨kM_X3_findMost, tm4 (i := 89) (by decide +kernel) rfl, tm4 (i := 90) (by decide +kernel) rfl, tm4 (i := 91) (by decide +kernel) rfl⟩
theorem kl_RX3_153 : LkV RX3 153 mX3_surely 1 := ⟨kM_X3_surely, tm4 (i := 93) (by decide +kernel) rfl, tm4 (i := 81) (by decide +kernel) rfl, tm4 (i := 82) (by decide +kernel) rfl⟩
theorem kl_RL_100 : LkV RL 100 mX11_fewest 1 := ⟨kM_X11_fewest, tm4 (i := 94) (by decide +kernel) rfl, tm4 (i := 95) (by decide +kernel) rfl, tm4 (i := 96) (by decide +kernel) rfl⟩
theorem kl_RL_104 : LkV RL 104 mX11_year 2 := ⟨kM_X11_year, tm4 (i := 98) (by decide +kernel) rfl, tm4 (i := 99) (by decide +kernel) rfl, tm4 (i := 100) (by decide +kernel) rfl⟩
theorem kl_RX11_282 : LkV RX11 282 mX2_go 1 := ⟨kM_X2_go, tm4 (i := 102) (by decide +kernel) rfl, tm4 (i := 103) (by decide +kernel) rfl, tm4 (i := 104) (by decide +kernel) rfl⟩
theorem kl_RX2_31 : LkV RX2 31 mX8_settle 0 := ⟨kM_X8_settle, tm4 (i := 106) (by decide +kernel) rfl, tm3 (i := 107) (by decide +kernel) rfl, tm3 (i := 108) (by decide +kernel) rfl⟩
theorem kl_RX2_38 : LkS RX2 38 mJ7_fill_53178 2 := ⟨kM_J7_fill_53178, tm4 (i := 107) (by decide +kernel) rfl, tm2 (i := 206) (by decide +kernel) rfl⟩
theorem kl_RX2_44 : LkV RX2 44 mX5_loavesAt 2 := ⟨kM_X5_loavesAt, tm4 (i := 108) (by decide +kernel) rfl, tm3 (i := 145) (by decide +kernel) rfl, tm3 (i := 146) (by decide +kernel) rfl⟩
theorem kl_RX2_50 : LkV RX2 50 mX8_scoreOf 2 := ⟨kM_X8_scoreOf, tm4 (i := 109) (by decide +kernel) rfl, tm3 (i := 112) (by decide +kernel) rfl, tm3 (i := 113) (by decide +kernel) rfl⟩
theorem kl_RX2_54 : LkV RX2 54 mX2_learnSent 0 := ⟨kM_X2_learnSent, tm4 (i := 110) (by decide +kernel) rfl, tm4 (i := 112) (by decide +kernel) rfl, tm0 (i := 29) (by decide +kernel) rfl⟩
theorem kl_RX2_57 : LkV RX2 57 mX2_sendBest 1 := ⟨kM_X2_sendBest, tm4 (i := 114) (by decide +kernel) rfl, tm4 (i := 116) (by decide +kernel) rfl, tm0 (i := 30) (by decide +kernel) rfl⟩
theorem kl_RX2_71 : LkV RX2 71 mX6_solve 3 := ⟨kM_X6_solve, tm4 (i := 118) (by decide +kernel) rfl, tm3 (i := 178) (by decide +kernel) rfl, tm3 (i := 179) (by decide +kernel) rfl⟩
theorem kl_RX2_75 : LkV RX2 75 mX6_choose 3 := ⟨kM_X6_choose, tm4 (i := 119) (by decide +kernel) rfl, tm3 (i := 192) (by decide +kernel) rfl, tm3 (i := 193) (by decide +kernel) rfl⟩
theorem kl_RX11_289 : LkV RX11 289 mX8_numberOf 2 := ⟨kM_X8_numberOf, tm4 (i := 120) (by decide +kernel) rfl, tm3 (i := 196) (by decide +kernel) rfl, tm3 (i := 197) (by decide +kernel) rfl⟩
theorem kl_RL_108 : LkV RL 108 mX11_years 1 := ⟨kM_X11_years, tm4 (i := 121) (by decide +kernel) rfl, tm4 (i := 122) (by decide +kernel) rfl, tm4 (i := 123) (by decide +kernel) rfl⟩
theorem kl_RL_112 : LkV RL 112 mX11_image 0 := ⟨kM_X11_image, tm4 (i := 125) (by decide +kernel) rfl, tm4 (i := 126) (by decide +kernel) rfl, tm4 (i := 127) (by decide +kernel) rfl⟩
theorem kl_RX11_293 : LkV RX11 293 mX5_copy 1 := ⟨kM_X5_copy, tm4 (i := 129) (by decide +kernel) rfl, tm4 (i := 130) (by decide +kernel) rfl, tm4 (i := 131) (by decide +kernel) rfl⟩
theorem kl_RL_116 : LkV RL 116 mX11_back 0 := ⟨kM_X11_back, tm4 (i := 133) (by decide +kernel) rfl, tm4 (i := 134) (by decide +kernel) rfl, tm4 (i := 135) (by decide +kernel) rfl⟩
theorem kl_RL_120 : LkV RL 120 mX11_undo 0 := ⟨kM_X11_undo, tm4 (i := 137) (by decide +kernel) rfl, tm4 (i := 138) (by decide +kernel) rfl, tm4 (i := 139) (by decide +kernel) rfl⟩
theorem kl_RX11_304 : LkV RX11 304 mX1_takeBack 1 := ⟨kM_X1_takeBack, tm4 (i := 141) (by decide +kernel) rfl, tm4 (i := 142) (by decide +kernel) rfl, tm4 (i := 143) (by decide +kernel) rfl⟩
theorem kl_RX1_38 : LkV RX1 38 mX8_become 3 := ⟨kM_X8_become, tm4 (i := 145) (by decide +kernel) rfl, tm2 (i := 175) (by decide +kernel) rfl, tm2 (i := 176) (by decide +kernel) rfl⟩
theorem kl_RL_124 : LkV RL 124 mX11_redo 0 := ⟨kM_X11_redo, tm4 (i := 146) (by decide +kernel) rfl, tm4 (i := 147) (by decide +kernel) rfl, tm4 (i := 148) (by decide +kernel) rfl⟩
theorem kl_RX11_308 : LkV RX11 308 mX1_doAgain 1 := ⟨kM_X1_doAgain, tm4 (i := 150) (by decide +kernel) rfl, tm4 (i := 151) (by decide +kernel) rfl, tm4 (i := 152) (by decide +kernel) rfl⟩
theorem kl_RL_128 : LkV RL 128 mX11_body 1 := ⟨kM_X11_body, tm4 (i := 154) (by decide +kernel) rfl, tm4 (i := 155) (by decide +kernel) rfl, tm4 (i := 156) (by decide +kernel) rfl⟩
theorem kl_RX11_311 : LkS RX11 311 mX11_isKind 1 := ⟨kM_X11_isKind, tm4 (i := 158) (by decide +kernel) rfl, tm4 (i := 159) (by decide +kernel) rfl⟩
theorem kl_RX11_314 : LkV RX11 314 mX0_add 1 := ⟨kM_X0_add, tm4 (i := 161) (by decide +kernel) rfl, tm4 (i := 162) (by decide +kernel) rfl, tm4 (i := 163) (by decide +kernel) rfl⟩
theorem kl_RL_132 : LkV RL 132 mX11_act 3 := ⟨kM_X11_act, tm4 (i := 165) (by decide +kernel) rfl, tm4 (i := 166) (by decide +kernel) rfl, tm4 (i := 167) (by decide +kernel) rfl⟩
theorem kl_RX11_317 : LkV RX11 317 mX0_perform 3 := ⟨kM_X0_perform, tm4 (i := 169) (by decide +kernel) rfl, tm4 (i := 170) (by decide +kernel) rfl, tm4 (i := 171) (by decide +kernel) rfl⟩
theorem kl_RX0_35 : LkV RX0 35 mX0_own 3 := ⟨kM_X0_own, tm4 (i := 173) (by decide +kernel) rfl, tm4 (i := 175) (by decide +kernel) rfl, tm0 (i := 31) (by decide +kernel) rfl⟩
theorem kl_RX0_39 : LkV RX0 39 mX0_from 4 := ⟨kM_X0_from, tm4 (i := 177) (by decide +kernel) rfl, tm4 (i := 179) (by decide +kernel) rfl, tm0 (i := 32) (by decide +kernel) rfl⟩
theorem kl_RX0_46 : LkV RX0 46 mX0_run 4 := ⟨kM_X0_run, tm4 (i := 185) (by decide +kernel) rfl, tm4 (i := 187) (by decide +kernel) rfl, tm0 (i := 33) (by decide +kernel) rfl⟩
theorem kl_RL_136 : LkV RL 136 mX11_trace 1 := ⟨kM_X11_trace, tm4 (i := 189) (by decide +kernel) rfl, tm4 (i := 190) (by decide +kernel) rfl, tm4 (i := 191) (by decide +kernel) rfl⟩
theorem kl_RX11_320 : LkV RX11 320 mX0_kept 0 := ⟨kM_X0_kept, tm4 (i := 193) (by decide +kernel) rfl, tm4 (i := 194) (by decide +kernel) rfl, tm4 (i := 195) (by decide +kernel) rfl⟩
theorem kl_RX0_23 : MnK RX0 23 := ⟨tm4 (i := 197) (by decide +kernel) rfl, tm4 (i := 46) (by decide +kernel) rfl, tm1 (i := 16) (by decide +kernel) rfl, tm4 (i := 47) (by decide +kernel) rfl⟩
theorem kl_RL_140 : LkV RL 140 mX11_keep 2 := ⟨kM_X11_keep, tm4 (i := 198) (by decide +kernel) rfl, tm4 (i := 199) (by decide +kernel) rfl, tm4 (i := 200) (by decide +kernel) rfl⟩
theorem kl_RX11_326 : LkV RX11 326 mX7_holdBody 1 := ⟨kM_X7_holdBody, tm4 (i := 202) (by decide +kernel) rfl, tm4 (i := 203) (by decide +kernel) rfl, tm4 (i := 204) (by decide +kernel) rfl⟩
theorem kl_RL_144 : LkV RL 144 mX11_row 3 := ⟨kM_X11_row, tm4 (i := 206) (by decide +kernel) rfl, tm4 (i := 207) (by decide +kernel) rfl, tm4 (i := 208) (by decide +kernel) rfl⟩
theorem kl_RX11_330 : LkV RX11 330 mX7_holdRow 2 := ⟨kM_X7_holdRow, tm4 (i := 210) (by decide +kernel) rfl, tm4 (i := 211) (by decide +kernel) rfl, tm4 (i := 212) (by decide +kernel) rfl⟩
theorem kl_RX7_28 : LkS RX7 28 mJ7_fill_d0a16 2 := ⟨kM_J7_fill_d0a16, tm4 (i := 214) (by decide +kernel) rfl, tm4 (i := 36) (by decide +kernel) rfl⟩
theorem kl_RL_150 : LkV RL 150 mX11_put 3 := ⟨kM_X11_put, tm4 (i := 215) (by decide +kernel) rfl, tm4 (i := 216) (by decide +kernel) rfl, tm4 (i := 217) (by decide +kernel) rfl⟩
theorem kl_RX11_334 : LkV RX11 334 mX7_refusal 1 := ⟨kM_X7_refusal, tm4 (i := 219) (by decide +kernel) rfl, tm4 (i := 220) (by decide +kernel) rfl, tm4 (i := 221) (by decide +kernel) rfl⟩
theorem kl_RX11_337 : LkS RX11 337 mX7_lowest 2 := ⟨kM_X7_lowest, tm4 (i := 223) (by decide +kernel) rfl, tm4 (i := 224) (by decide +kernel) rfl⟩
theorem kl_RL_155 : LkV RL 155 mX11_element 2 := ⟨kM_X11_element, tm4 (i := 226) (by decide +kernel) rfl, tm4 (i := 227) (by decide +kernel) rfl, tm4 (i := 228) (by decide +kernel) rfl⟩
theorem kl_RL_159 : LkV RL 159 mX11_shift 5 := ⟨kM_X11_shift, tm4 (i := 230) (by decide +kernel) rfl, tm4 (i := 231) (by decide +kernel) rfl, tm4 (i := 232) (by decide +kernel) rfl⟩
theorem kl_RX11_341 : LkV RX11 341 mX7_hasRun 2 := ⟨kM_X7_hasRun, tm4 (i := 234) (by decide +kernel) rfl, tm4 (i := 235) (by decide +kernel) rfl, tm4 (i := 236) (by decide +kernel) rfl⟩
theorem kl_RX11_345 : AcK RX11 345 := ⟨tm4 (i := 238) (by decide +kernel) rfl, tm2 (i := 173) (by decide +kernel) rfl, tm2 (i := 172) (by decide +kernel) rfl, tm1 (i := 14) (by decide +kernel) rfl⟩
theorem kl_RL_164 : LkV RL 164 mX11_taken 2 := ⟨kM_X11_taken, tm4 (i := 239) (by decide +kernel) rfl, tm5 (i := 0) (by decide +kernel) rfl, tm5 (i := 1) (by decide +kernel) rfl⟩
theorem kl_RX11_354 : LkV RX11 354 mX0_kindOf 1 := ⟨kM_X0_kindOf, tm5 (i := 3) (by decide +kernel) rfl, tm5 (i := 4) (by decide +kernel) rfl, tm5 (i := 5) (by decide +kernel) rfl⟩
theorem kl_RX11_357 : LkS RX11 357 mX0_isUnder 2 := ⟨kM_X0_isUnder, tm5 (i := 7) (by decide +kernel) rfl, tm5 (i := 8) (by decide +kernel) rfl⟩
theorem kl_RL_168 : LkV RL 168 mX11_count 1 := ⟨kM_X11_count, tm5 (i := 10) (by decide +kernel) rfl, tm5 (i := 11) (by decide +kernel) rfl, tm5 (i := 12) (by decide +kernel) rfl⟩
theorem kl_RL_12 : LkI RL 12 mX12_init 0 := ⟨kM_X12_init, tm5 (i := 16) (by decide +kernel) rfl, tm5 (i := 17) (by decide +kernel) rfl, rfl, rfl⟩
theorem kl_RX12_1 : Cond.methodLink RX12 1 objectInit ∈ gT ∧ Cond.instanceMethod objectInit ∈ gT ∧ Cond.code objectInit ⟨#[0xb1]⟩ 1 none ∈ gT := ⟨tm5 (i := 19) (by decide +kernel) rfl, tm1 (i := 23) (by decide +kernel) rfl, tm1 (i := 24) (by decide +kernel) rfl⟩
theorem kl_RL_17 : LkV RL 17 mX12_village 2 := ⟨kM_X12_village, tm5 (i := 199) (by decide +kernel) rfl, tm5 (i := 200) (by decide +kernel) rfl, tm5 (i := 201) (by decide +kernel) rfl⟩
theorem kl_RX12_140 : LkS RX12 140 mX12_in 3 := ⟨kM_X12_in, tm5 (i := 203) (by decide +kernel) rfl, tm5 (i := 204) (by decide +kernel) rfl⟩
theorem kl_RL_123 : LkV RL 123 mX12_undo 0 := ⟨kM_X12_undo, tm5 (i := 206) (by decide +kernel) rfl, tm5 (i := 207) (by decide +kernel) rfl, tm5 (i := 208) (by decide +kernel) rfl⟩
theorem kl_RX12_154 : LkV RX12 154 mX12_lays 3 := ⟨kM_X12_lays, tm5 (i := 210) (by decide +kernel) rfl, tm5 (i := 212) (by decide +kernel) rfl, tm0 (i := 34) (by decide +kernel) rfl⟩
theorem kl_RL_127 : LkV RL 127 mX12_redo 0 := ⟨kM_X12_redo, tm5 (i := 214) (by decide +kernel) rfl, tm5 (i := 215) (by decide +kernel) rfl, tm5 (i := 216) (by decide +kernel) rfl⟩
theorem kl_RL_22 : LkV RL 22 mX12_mend 3 := ⟨kM_X12_mend, tm5 (i := 218) (by decide +kernel) rfl, tm5 (i := 219) (by decide +kernel) rfl, tm5 (i := 220) (by decide +kernel) rfl⟩
theorem kl_RX12_158 : LkS RX12 158 mX12_isBaker 1 := ⟨kM_X12_isBaker, tm5 (i := 222) (by decide +kernel) rfl, tm5 (i := 223) (by decide +kernel) rfl⟩
theorem kl_RX12_162 : LkV RX12 162 mX12_changes 3 := ⟨kM_X12_changes, tm5 (i := 225) (by decide +kernel) rfl, tm5 (i := 227) (by decide +kernel) rfl, tm0 (i := 35) (by decide +kernel) rfl⟩
theorem kl_RX12_144 : LkV RX12 144 mX12_valueAt 2 := ⟨kM_X12_valueAt, tm5 (i := 229) (by decide +kernel) rfl, tm5 (i := 231) (by decide +kernel) rfl, tm0 (i := 36) (by decide +kernel) rfl⟩
theorem kl_RX12_166 : LkV RX12 166 mX12_isVillage 1 := ⟨kM_X12_isVillage, tm5 (i := 233) (by decide +kernel) rfl, tm5 (i := 235) (by decide +kernel) rfl, tm0 (i := 37) (by decide +kernel) rfl⟩
theorem kl_RL_30 : LkV RL 30 mX12_mix 3 := ⟨kM_X12_mix, tm5 (i := 237) (by decide +kernel) rfl, tm5 (i := 238) (by decide +kernel) rfl, tm5 (i := 239) (by decide +kernel) rfl⟩
theorem kl_RX12_169 : LkV RX12 169 mX12_reads 2 := ⟨kM_X12_reads, tm6 (i := 1) (by decide +kernel) rfl, tm6 (i := 3) (by decide +kernel) rfl, tm0 (i := 38) (by decide +kernel) rfl⟩
theorem kl_RX12_173 : LkV RX12 173 mX12_addMix 2 := ⟨kM_X12_addMix, tm6 (i := 5) (by decide +kernel) rfl, tm6 (i := 7) (by decide +kernel) rfl, tm0 (i := 39) (by decide +kernel) rfl⟩
theorem kl_RL_34 : LkV RL 34 mX12_mixes 3 := ⟨kM_X12_mixes, tm6 (i := 9) (by decide +kernel) rfl, tm6 (i := 10) (by decide +kernel) rfl, tm6 (i := 11) (by decide +kernel) rfl⟩
theorem kl_RX12_176 : LkS RX12 176 mX12_isShelf 1 := ⟨kM_X12_isShelf, tm6 (i := 13) (by decide +kernel) rfl, tm6 (i := 14) (by decide +kernel) rfl⟩
theorem kl_RL_39 : LkV RL 39 mX12_feed 1 := ⟨kM_X12_feed, tm6 (i := 16) (by decide +kernel) rfl, tm6 (i := 17) (by decide +kernel) rfl, tm6 (i := 18) (by decide +kernel) rfl⟩
theorem kl_RL_44 : LkV RL 44 mX12_law 0 := ⟨kM_X12_law, tm6 (i := 20) (by decide +kernel) rfl, tm6 (i := 21) (by decide +kernel) rfl, tm6 (i := 22) (by decide +kernel) rfl⟩
theorem kl_RX12_243 : LkV RX12 243 mX12_readText 1 := ⟨kM_X12_readText, tm6 (i := 24) (by decide +kernel) rfl, tm6 (i := 26) (by decide +kernel) rfl, tm0 (i := 40) (by decide +kernel) rfl⟩
theorem kl_RX12_234 : LkV RX12 234 mX12_oneLine 0 := ⟨kM_X12_oneLine, tm6 (i := 28) (by decide +kernel) rfl, tm6 (i := 30) (by decide +kernel) rfl, tm0 (i := 41) (by decide +kernel) rfl⟩
theorem kl_RX12_216 : LkV RX12 216 mX12_either 0 := ⟨kM_X12_either, tm6 (i := 32) (by decide +kernel) rfl, tm6 (i := 34) (by decide +kernel) rfl, tm0 (i := 42) (by decide +kernel) rfl⟩
theorem kl_RX12_231 : LkV RX12 231 mX12_both 0 := ⟨kM_X12_both, tm6 (i := 36) (by decide +kernel) rfl, tm6 (i := 38) (by decide +kernel) rfl, tm0 (i := 43) (by decide +kernel) rfl⟩
theorem kl_RX12_228 : LkV RX12 228 mX12_compared 0 := ⟨kM_X12_compared, tm6 (i := 40) (by decide +kernel) rfl, tm6 (i := 42) (by decide +kernel) rfl, tm0 (i := 44) (by decide +kernel) rfl⟩
theorem kl_RX12_225 : LkV RX12 225 mX12_sum 0 := ⟨kM_X12_sum, tm6 (i := 44) (by decide +kernel) rfl, tm6 (i := 46) (by decide +kernel) rfl, tm0 (i := 45) (by decide +kernel) rfl⟩
theorem kl_RX12_222 : LkV RX12 222 mX12_product 0 := ⟨kM_X12_product, tm6 (i := 48) (by decide +kernel) rfl, tm6 (i := 50) (by decide +kernel) rfl, tm0 (i := 46) (by decide +kernel) rfl⟩
theorem kl_RX12_213 : LkV RX12 213 mX12_operand 0 := ⟨kM_X12_operand, tm6 (i := 52) (by decide +kernel) rfl, tm6 (i := 54) (by decide +kernel) rfl, tm0 (i := 47) (by decide +kernel) rfl⟩
theorem kl_RX12_197 : LkV RX12 197 mX12_look 0 := ⟨kM_X12_look, tm6 (i := 56) (by decide +kernel) rfl, tm6 (i := 58) (by decide +kernel) rfl, tm0 (i := 48) (by decide +kernel) rfl⟩
theorem kl_RX12_205 : LkS RX12 205 mX12_nameOf 1 := ⟨kM_X12_nameOf, tm6 (i := 60) (by decide +kernel) rfl, tm6 (i := 61) (by decide +kernel) rfl⟩
theorem kl_RX12_201 : LkV RX12 201 mX12_addStep 2 := ⟨kM_X12_addStep, tm6 (i := 63) (by decide +kernel) rfl, tm6 (i := 65) (by decide +kernel) rfl, tm0 (i := 49) (by decide +kernel) rfl⟩
theorem kl_RX12_209 : LkV RX12 209 mX12_opens 0 := ⟨kM_X12_opens, tm6 (i := 67) (by decide +kernel) rfl, tm6 (i := 69) (by decide +kernel) rfl, tm0 (i := 50) (by decide +kernel) rfl⟩
theorem kl_RX12_194 : LkV RX12 194 mX12_faulty 0 := ⟨kM_X12_faulty, tm6 (i := 71) (by decide +kernel) rfl, tm6 (i := 73) (by decide +kernel) rfl, tm0 (i := 51) (by decide +kernel) rfl⟩
theorem kl_RX12_219 : LkV RX12 219 mX12_figure 0 := ⟨kM_X12_figure, tm6 (i := 75) (by decide +kernel) rfl, tm6 (i := 77) (by decide +kernel) rfl, tm0 (i := 52) (by decide +kernel) rfl⟩
theorem kl_RL_48 : LkV RL 48 mX12_won 2 := ⟨kM_X12_won, tm6 (i := 79) (by decide +kernel) rfl, tm6 (i := 80) (by decide +kernel) rfl, tm6 (i := 81) (by decide +kernel) rfl⟩
theorem kl_RX12_253 : LkV RX12 253 mX12_hasBy 3 := ⟨kM_X12_hasBy, tm6 (i := 83) (by decide +kernel) rfl, tm6 (i := 85) (by decide +kernel) rfl, tm0 (i := 53) (by decide +kernel) rfl⟩
theorem kl_RX12_250 : LkV RX12 250 mX12_gives 1 := ⟨kM_X12_gives, tm6 (i := 87) (by decide +kernel) rfl, tm6 (i := 89) (by decide +kernel) rfl, tm0 (i := 54) (by decide +kernel) rfl⟩
theorem kl_RX12_240 : LkV RX12 240 mX12_worked 3 := ⟨kM_X12_worked, tm6 (i := 91) (by decide +kernel) rfl, tm6 (i := 93) (by decide +kernel) rfl, tm0 (i := 55) (by decide +kernel) rfl⟩
theorem kl_RX12_237 : LkS RX12 237 mX12_twoOf 3 := ⟨kM_X12_twoOf, tm6 (i := 95) (by decide +kernel) rfl, tm6 (i := 96) (by decide +kernel) rfl⟩
theorem kl_RL_52 : LkV RL 52 mX12_score 2 := ⟨kM_X12_score, tm6 (i := 98) (by decide +kernel) rfl, tm6 (i := 99) (by decide +kernel) rfl, tm6 (i := 100) (by decide +kernel) rfl⟩
theorem kl_RX12_257 : LkV RX12 257 mX12_findHas 0 := ⟨kM_X12_findHas, tm6 (i := 103) (by decide +kernel) rfl, tm6 (i := 105) (by decide +kernel) rfl, tm0 (i := 56) (by decide +kernel) rfl⟩
theorem kl_RX12_260 : LkV RX12 260 mX12_valueOf 3 := ⟨kM_X12_valueOf, tm6 (i := 107) (by decide +kernel) rfl, tm6 (i := 109) (by decide +kernel) rfl, tm0 (i := 57) (by decide +kernel) rfl⟩
theorem kl_RL_26 : LkV RL 26 mX12_of 2 := ⟨kM_X12_of, tm6 (i := 111) (by decide +kernel) rfl, tm6 (i := 112) (by decide +kernel) rfl, tm6 (i := 113) (by decide +kernel) rfl⟩
theorem kl_RX12_274 : LkV RX12 274 mX12_weights 2 := ⟨kM_X12_weights, tm6 (i := 115) (by decide +kernel) rfl, tm6 (i := 117) (by decide +kernel) rfl, tm0 (i := 58) (by decide +kernel) rfl⟩
theorem kl_RX12_278 : LkV RX12 278 mX12_usesUp 1 := ⟨kM_X12_usesUp, tm6 (i := 119) (by decide +kernel) rfl, tm6 (i := 121) (by decide +kernel) rfl, tm0 (i := 59) (by decide +kernel) rfl⟩
theorem kl_RX12_270 : LkV RX12 270 mX12_findRows 2 := ⟨kM_X12_findRows, tm6 (i := 123) (by decide +kernel) rfl, tm6 (i := 125) (by decide +kernel) rfl, tm0 (i := 60) (by decide +kernel) rfl⟩
theorem kl_RX12_266 : LkV RX12 266 mX12_layRows 3 := ⟨kM_X12_layRows, tm6 (i := 127) (by decide +kernel) rfl, tm6 (i := 129) (by decide +kernel) rfl, tm0 (i := 61) (by decide +kernel) rfl⟩
theorem kl_RL_57 : LkV RL 57 mX12_mean 1 := ⟨kM_X12_mean, tm6 (i := 131) (by decide +kernel) rfl, tm6 (i := 132) (by decide +kernel) rfl, tm6 (i := 133) (by decide +kernel) rfl⟩
theorem kl_RX12_307 : LkV RX12 307 mX12_meanBroken 2 := ⟨kM_X12_meanBroken, tm6 (i := 135) (by decide +kernel) rfl, tm6 (i := 137) (by decide +kernel) rfl, tm0 (i := 62) (by decide +kernel) rfl⟩
theorem kl_RX12_284 : LkV RX12 284 mX12_mixMany 1 := ⟨kM_X12_mixMany, tm6 (i := 139) (by decide +kernel) rfl, tm6 (i := 141) (by decide +kernel) rfl, tm0 (i := 63) (by decide +kernel) rfl⟩
theorem kl_RX12_290 : LkV RX12 290 mX12_weightAt 2 := ⟨kM_X12_weightAt, tm6 (i := 143) (by decide +kernel) rfl, tm6 (i := 145) (by decide +kernel) rfl, tm0 (i := 64) (by decide +kernel) rfl⟩
theorem kl_RX12_287 : LkV RX12 287 mX12_mixAt 3 := ⟨kM_X12_mixAt, tm6 (i := 147) (by decide +kernel) rfl, tm6 (i := 149) (by decide +kernel) rfl, tm0 (i := 65) (by decide +kernel) rfl⟩
theorem kl_RX12_315 : LkS RX12 315 mX12_part 3 := ⟨kM_X12_part, tm6 (i := 151) (by decide +kernel) rfl, tm6 (i := 152) (by decide +kernel) rfl⟩
theorem kl_RX12_303 : LkS RX12 303 mX12_common 2 := ⟨kM_X12_common, tm6 (i := 154) (by decide +kernel) rfl, tm6 (i := 155) (by decide +kernel) rfl⟩
theorem kl_RL_75 : LkV RL 75 mX12_broke 2 := ⟨kM_X12_broke, tm6 (i := 158) (by decide +kernel) rfl, tm6 (i := 159) (by decide +kernel) rfl, tm6 (i := 160) (by decide +kernel) rfl⟩
theorem kl_RL_61 : LkV RL 61 mX12_best 1 := ⟨kM_X12_best, tm6 (i := 162) (by decide +kernel) rfl, tm6 (i := 163) (by decide +kernel) rfl, tm6 (i := 164) (by decide +kernel) rfl⟩
theorem kl_RX12_319 : LkV RX12 319 mX12_findGains 1 := ⟨kM_X12_findGains, tm6 (i := 166) (by decide +kernel) rfl, tm6 (i := 168) (by decide +kernel) rfl, tm0 (i := 66) (by decide +kernel) rfl⟩
theorem kl_RX12_281 : LkV RX12 281 mX12_noGains 0 := ⟨kM_X12_noGains, tm6 (i := 170) (by decide +kernel) rfl, tm6 (i := 172) (by decide +kernel) rfl, tm0 (i := 67) (by decide +kernel) rfl⟩
theorem kl_RX12_293 : LkV RX12 293 mX12_addGains 4 := ⟨kM_X12_addGains, tm6 (i := 174) (by decide +kernel) rfl, tm6 (i := 176) (by decide +kernel) rfl, tm0 (i := 68) (by decide +kernel) rfl⟩
theorem kl_RX12_323 : LkV RX12 323 mX12_findBest 0 := ⟨kM_X12_findBest, tm6 (i := 178) (by decide +kernel) rfl, tm6 (i := 180) (by decide +kernel) rfl, tm0 (i := 69) (by decide +kernel) rfl⟩
theorem kl_RX12_326 : LkV RX12 326 mX12_numberOf 1 := ⟨kM_X12_numberOf, tm6 (i := 182) (by decide +kernel) rfl, tm6 (i := 184) (by decide +kernel) rfl, tm0 (i := 70) (by decide +kernel) rfl⟩
theorem kl_RL_66 : LkV RL 66 mX12_line 3 := ⟨kM_X12_line, tm6 (i := 186) (by decide +kernel) rfl, tm6 (i := 187) (by decide +kernel) rfl, tm6 (i := 188) (by decide +kernel) rfl⟩
theorem kl_RL_71 : LkV RL 71 mX12_spy 2 := ⟨kM_X12_spy, tm6 (i := 190) (by decide +kernel) rfl, tm6 (i := 191) (by decide +kernel) rfl, tm6 (i := 192) (by decide +kernel) rfl⟩
theorem kl_RL_79 : LkV RL 79 mX12_beaten 2 := ⟨kM_X12_beaten, tm6 (i := 194) (by decide +kernel) rfl, tm6 (i := 195) (by decide +kernel) rfl, tm6 (i := 196) (by decide +kernel) rfl⟩
theorem kl_RX12_335 : LkV RX12 335 mX12_findBoth 0 := ⟨kM_X12_findBoth, tm6 (i := 198) (by decide +kernel) rfl, tm6 (i := 200) (by decide +kernel) rfl, tm0 (i := 71) (by decide +kernel) rfl⟩
theorem kl_RX12_338 : LkV RX12 338 mX12_beatenBy 3 := ⟨kM_X12_beatenBy, tm6 (i := 202) (by decide +kernel) rfl, tm6 (i := 204) (by decide +kernel) rfl, tm0 (i := 72) (by decide +kernel) rfl⟩
theorem kl_RL_83 : LkV RL 83 mX12_safest 2 := ⟨kM_X12_safest, tm6 (i := 206) (by decide +kernel) rfl, tm6 (i := 207) (by decide +kernel) rfl, tm6 (i := 208) (by decide +kernel) rfl⟩
theorem kl_RX12_342 : LkS RX12 342 mX12_numberIn 3 := ⟨kM_X12_numberIn, tm6 (i := 210) (by decide +kernel) rfl, tm6 (i := 211) (by decide +kernel) rfl⟩
theorem kl_RL_87 : LkV RL 87 mX12_ring 1 := ⟨kM_X12_ring, tm6 (i := 213) (by decide +kernel) rfl, tm6 (i := 214) (by decide +kernel) rfl, tm6 (i := 215) (by decide +kernel) rfl⟩
theorem kl_RX12_346 : LkV RX12 346 mX12_beats 2 := ⟨kM_X12_beats, tm6 (i := 217) (by decide +kernel) rfl, tm6 (i := 219) (by decide +kernel) rfl, tm0 (i := 73) (by decide +kernel) rfl⟩
theorem kl_RL_91 : LkV RL 91 mX12_rest 1 := ⟨kM_X12_rest, tm6 (i := 221) (by decide +kernel) rfl, tm6 (i := 222) (by decide +kernel) rfl, tm6 (i := 223) (by decide +kernel) rfl⟩
theorem kl_RX12_349 : LkV RX12 349 mX12_scoreAt 2 := ⟨kM_X12_scoreAt, tm6 (i := 225) (by decide +kernel) rfl, tm6 (i := 227) (by decide +kernel) rfl, tm0 (i := 74) (by decide +kernel) rfl⟩
theorem kl_RL_95 : LkV RL 95 mX12_sure 1 := ⟨kM_X12_sure, tm6 (i := 229) (by decide +kernel) rfl, tm6 (i := 230) (by decide +kernel) rfl, tm6 (i := 231) (by decide +kernel) rfl⟩
theorem kl_RX12_352 : LkV RX12 352 mX12_sureOf 2 := ⟨kM_X12_sureOf, tm6 (i := 233) (by decide +kernel) rfl, tm6 (i := 235) (by decide +kernel) rfl, tm0 (i := 75) (by decide +kernel) rfl⟩
theorem kl_RL_99 : LkV RL 99 mX12_most 1 := ⟨kM_X12_most, tm6 (i := 237) (by decide +kernel) rfl, tm6 (i := 238) (by decide +kernel) rfl, tm6 (i := 239) (by decide +kernel) rfl⟩
theorem kl_RX12_359 : LkV RX12 359 mX12_findMost 0 := ⟨kM_X12_findMost, tm7 (i := 1) (by decide +kernel) rfl, tm7 (i := 3) (by decide +kernel) rfl, tm0 (i := 76) (by decide +kernel) rfl⟩
theorem kl_RL_103 : LkV RL 103 mX12_fewest 1 := ⟨kM_X12_fewest, tm7 (i := 5) (by decide +kernel) rfl, tm7 (i := 6) (by decide +kernel) rfl, tm7 (i := 7) (by decide +kernel) rfl⟩
theorem kl_RL_107 : LkV RL 107 mX12_year 2 := ⟨kM_X12_year, tm7 (i := 9) (by decide +kernel) rfl, tm7 (i := 10) (by decide +kernel) rfl, tm7 (i := 11) (by decide +kernel) rfl⟩
theorem kl_RX12_368 : LkV RX12 368 mX12_goYears 1 := ⟨kM_X12_goYears, tm7 (i := 13) (by decide +kernel) rfl, tm7 (i := 15) (by decide +kernel) rfl, tm0 (i := 77) (by decide +kernel) rfl⟩
theorem kl_RX12_362 : LkV RX12 362 mX12_send 2 := ⟨kM_X12_send, tm7 (i := 17) (by decide +kernel) rfl, tm7 (i := 19) (by decide +kernel) rfl, tm0 (i := 78) (by decide +kernel) rfl⟩
theorem kl_RX12_365 : LkV RX12 365 mX12_sentAt 3 := ⟨kM_X12_sentAt, tm7 (i := 21) (by decide +kernel) rfl, tm7 (i := 23) (by decide +kernel) rfl, tm0 (i := 79) (by decide +kernel) rfl⟩
theorem kl_RL_111 : LkV RL 111 mX12_years 1 := ⟨kM_X12_years, tm7 (i := 25) (by decide +kernel) rfl, tm7 (i := 26) (by decide +kernel) rfl, tm7 (i := 27) (by decide +kernel) rfl⟩
theorem kl_RL_115 : LkV RL 115 mX12_image 0 := ⟨kM_X12_image, tm7 (i := 29) (by decide +kernel) rfl, tm7 (i := 30) (by decide +kernel) rfl, tm7 (i := 31) (by decide +kernel) rfl⟩
theorem kl_RL_119 : LkV RL 119 mX12_back 0 := ⟨kM_X12_back, tm7 (i := 33) (by decide +kernel) rfl, tm7 (i := 34) (by decide +kernel) rfl, tm7 (i := 35) (by decide +kernel) rfl⟩
theorem kl_RL_139 : LkV RL 139 mX12_trace 1 := ⟨kM_X12_trace, tm7 (i := 37) (by decide +kernel) rfl, tm7 (i := 38) (by decide +kernel) rfl, tm7 (i := 39) (by decide +kernel) rfl⟩
theorem kl_RL_131 : LkV RL 131 mX12_body 1 := ⟨kM_X12_body, tm7 (i := 41) (by decide +kernel) rfl, tm7 (i := 42) (by decide +kernel) rfl, tm7 (i := 43) (by decide +kernel) rfl⟩
theorem kl_RL_135 : LkV RL 135 mX12_act 3 := ⟨kM_X12_act, tm7 (i := 45) (by decide +kernel) rfl, tm7 (i := 46) (by decide +kernel) rfl, tm7 (i := 47) (by decide +kernel) rfl⟩
theorem kl_RX12_416 : LkV RX12 416 mX12_isBody 1 := ⟨kM_X12_isBody, tm7 (i := 49) (by decide +kernel) rfl, tm7 (i := 51) (by decide +kernel) rfl, tm0 (i := 80) (by decide +kernel) rfl⟩
theorem kl_RX12_392 : LkV RX12 392 mX12_parting 2 := ⟨kM_X12_parting, tm7 (i := 53) (by decide +kernel) rfl, tm7 (i := 55) (by decide +kernel) rfl, tm0 (i := 81) (by decide +kernel) rfl⟩
theorem kl_RX12_386 : LkS RX12 386 mX12_isUnder 2 := ⟨kM_X12_isUnder, tm7 (i := 57) (by decide +kernel) rfl, tm7 (i := 58) (by decide +kernel) rfl⟩
theorem kl_RX12_380 : LkV RX12 380 mX12_ran 1 := ⟨kM_X12_ran, tm7 (i := 60) (by decide +kernel) rfl, tm7 (i := 62) (by decide +kernel) rfl, tm0 (i := 82) (by decide +kernel) rfl⟩
theorem kl_RX12_383 : LkV RX12 383 mX12_plainParts 2 := ⟨kM_X12_plainParts, tm7 (i := 64) (by decide +kernel) rfl, tm7 (i := 66) (by decide +kernel) rfl, tm0 (i := 83) (by decide +kernel) rfl⟩
theorem kl_RX12_389 : LkV RX12 389 mX12_toldParts 2 := ⟨kM_X12_toldParts, tm7 (i := 68) (by decide +kernel) rfl, tm7 (i := 70) (by decide +kernel) rfl, tm0 (i := 84) (by decide +kernel) rfl⟩
theorem kl_RX12_407 : LkV RX12 407 mX12_sending 2 := ⟨kM_X12_sending, tm7 (i := 72) (by decide +kernel) rfl, tm7 (i := 74) (by decide +kernel) rfl, tm0 (i := 85) (by decide +kernel) rfl⟩
theorem kl_RX12_398 : LkV RX12 398 mX12_fewSends 2 := ⟨kM_X12_fewSends, tm7 (i := 76) (by decide +kernel) rfl, tm7 (i := 78) (by decide +kernel) rfl, tm0 (i := 86) (by decide +kernel) rfl⟩
theorem kl_RX12_395 : LkV RX12 395 mX12_plainSends 2 := ⟨kM_X12_plainSends, tm7 (i := 80) (by decide +kernel) rfl, tm7 (i := 82) (by decide +kernel) rfl, tm0 (i := 87) (by decide +kernel) rfl⟩
theorem kl_RX12_401 : LkV RX12 401 mX12_winning 2 := ⟨kM_X12_winning, tm7 (i := 84) (by decide +kernel) rfl, tm7 (i := 86) (by decide +kernel) rfl, tm0 (i := 88) (by decide +kernel) rfl⟩
theorem kl_RX12_404 : LkV RX12 404 mX12_plainWins 2 := ⟨kM_X12_plainWins, tm7 (i := 88) (by decide +kernel) rfl, tm7 (i := 90) (by decide +kernel) rfl, tm0 (i := 89) (by decide +kernel) rfl⟩
theorem kl_RX12_419 : LkV RX12 419 mX12_learning 2 := ⟨kM_X12_learning, tm7 (i := 92) (by decide +kernel) rfl, tm7 (i := 94) (by decide +kernel) rfl, tm0 (i := 90) (by decide +kernel) rfl⟩
theorem kl_RX12_413 : LkV RX12 413 mX12_bestLearns 2 := ⟨kM_X12_bestLearns, tm7 (i := 96) (by decide +kernel) rfl, tm7 (i := 98) (by decide +kernel) rfl, tm0 (i := 91) (by decide +kernel) rfl⟩
theorem kl_RX12_410 : LkV RX12 410 mX12_plainLearns 2 := ⟨kM_X12_plainLearns, tm7 (i := 100) (by decide +kernel) rfl, tm7 (i := 102) (by decide +kernel) rfl, tm0 (i := 92) (by decide +kernel) rfl⟩
theorem kl_RL_171 : LkV RL 171 mX12_count 1 := ⟨kM_X12_count, tm7 (i := 104) (by decide +kernel) rfl, tm7 (i := 105) (by decide +kernel) rfl, tm7 (i := 106) (by decide +kernel) rfl⟩
theorem kl_RL_143 : LkV RL 143 mX12_keep 2 := ⟨kM_X12_keep, tm7 (i := 108) (by decide +kernel) rfl, tm7 (i := 109) (by decide +kernel) rfl, tm7 (i := 110) (by decide +kernel) rfl⟩
theorem kl_RL_147 : LkV RL 147 mX12_row 3 := ⟨kM_X12_row, tm7 (i := 112) (by decide +kernel) rfl, tm7 (i := 113) (by decide +kernel) rfl, tm7 (i := 114) (by decide +kernel) rfl⟩
theorem kl_RL_154 : LkV RL 154 mX12_put 3 := ⟨kM_X12_put, tm7 (i := 116) (by decide +kernel) rfl, tm7 (i := 117) (by decide +kernel) rfl, tm7 (i := 118) (by decide +kernel) rfl⟩
theorem kl_RX12_422 : LkV RX12 422 mX12_whyNoPlace 2 := ⟨kM_X12_whyNoPlace, tm7 (i := 120) (by decide +kernel) rfl, tm7 (i := 122) (by decide +kernel) rfl, tm0 (i := 93) (by decide +kernel) rfl⟩
theorem kl_RL_158 : LkV RL 158 mX12_element 2 := ⟨kM_X12_element, tm7 (i := 124) (by decide +kernel) rfl, tm7 (i := 125) (by decide +kernel) rfl, tm7 (i := 126) (by decide +kernel) rfl⟩
theorem kl_RL_163 : LkV RL 163 mX12_shift 5 := ⟨kM_X12_shift, tm7 (i := 128) (by decide +kernel) rfl, tm7 (i := 129) (by decide +kernel) rfl, tm7 (i := 130) (by decide +kernel) rfl⟩
theorem kl_RL_167 : LkV RL 167 mX12_taken 2 := ⟨kM_X12_taken, tm7 (i := 132) (by decide +kernel) rfl, tm7 (i := 133) (by decide +kernel) rfl, tm7 (i := 134) (by decide +kernel) rfl⟩
theorem kC_0 : ClK 0 := ⟨RX0, TX0, rfl, in_p _ [391, 393, 395, 397, 399] (by decide +kernel) (by decide +kernel), tyX0_ok, nmX0⟩
theorem kC_1 : ClK 1 := ⟨RX1, TX1, rfl, in_p _ [364, 366, 368, 370, 372, 374] (by decide +kernel) (by decide +kernel), tyX1_ok, nmX1⟩
theorem kC_2 : ClK 2 := ⟨RX2, TX2, rfl, in_p _ [341, 343, 345, 347] (by decide +kernel) (by decide +kernel), tyX2_ok, nmX2⟩
theorem kC_3 : ClK 3 := ⟨RX3, TX3, rfl, in_p _ [298, 300, 302, 304, 306, 308, 310, 312, 314, 316, 318, 320, 322] (by decide +kernel) (by decide +kernel), tyX3_ok, nmX3⟩
theorem kC_4 : ClK 4 := ⟨RX4, TX4, rfl, in_p _ [136, 138, 140, 142, 144, 146, 148, 150, 152, 154] (by decide +kernel) (by decide +kernel), tyX4_ok, nmX4⟩
theorem kC_5 : ClK 5 := ⟨RX5, TX5, rfl, in_p _ [215, 217, 219] (by decide +kernel) (by decide +kernel), tyX5_ok, nmX5⟩
theorem kC_6 : ClK 6 := ⟨RX6, TX6, rfl, in_p _ [239, 241] (by decide +kernel) (by decide +kernel), tyX6_ok, nmX6⟩
theorem kC_7 : ClK 7 := ⟨RX7, TX7, rfl, in_p _ [419, 421, 423, 425, 427] (by decide +kernel) (by decide +kernel), tyX7_ok, nmX7⟩
theorem kC_8 : ClK 8 := ⟨RX8, TX8, rfl, in_p _ [186, 188, 190, 192, 194, 196, 198, 200] (by decide +kernel) (by decide +kernel), tyX8_ok, nmX8⟩
theorem kC_9 : ClK 9 := ⟨RX9, TX9, rfl, in_p _ [248, 250, 252, 254] (by decide +kernel) (by decide +kernel), tyX9_ok, nmX9⟩
theorem kC_10 : ClK 10 := ⟨RX10, TX10, rfl, in_p _ [272, 274] (by decide +kernel) (by decide +kernel), tyX10_ok, nmX10⟩
theorem kC_11 : ClK 11 := ⟨RX11, TX11, rfl, in_p _ [443, 445, 447, 449, 451, 453, 455, 457, 459, 461, 463, 465, 467] (by decide +kernel) (by decide +kernel), tyX11_ok, nmX11⟩
theorem kC_12 : ClK 12 := ⟨RX12, TX12, rfl, in_p _ [1132, 1134, 1136, 1138, 1140, 1142, 1144, 1146, 1148, 1150, 1152, 1154, 1156, 1158, 1160, 1162, 1164, 1166, 1168, 1170, 1172, 1174, 1176, 1178, 1180, 1182, 1184, 1186, 1188, 1190, 1192, 1194, 1196, 1198, 1200, 1202, 1204, 1206, 1208, 1210, 1212, 1214, 1216, 1218, 1220, 1222, 1224, 1226, 1228, 1230, 1232, 1234, 1236, 1238, 1240, 1242, 1244, 1246, 1248] (by decide +kernel) (by decide +kernel), tyX12_ok, nmX12⟩
theorem kI_0 : Cond.instantiable RX0 (nF 0) ∈ gT := tm2 (i := 44) (by decide +kernel) rfl
theorem kI_1 : Cond.instantiable RX1 (nF 1) ∈ gT := tm2 (i := 17) (by decide +kernel) rfl
theorem kI_2 : Cond.instantiable RX2 (nF 2) ∈ gT := tm1 (i := 233) (by decide +kernel) rfl
theorem kI_3 : Cond.instantiable RX3 (nF 3) ∈ gT := tm1 (i := 164) (by decide +kernel) rfl
theorem kI_4 : Cond.instantiable RX4 (nF 4) ∈ gT := tm1 (i := 26) (by decide +kernel) rfl
theorem kI_5 : Cond.instantiable RX5 (nF 5) ∈ gT := tm1 (i := 112) (by decide +kernel) rfl
theorem kI_6 : Cond.instantiable RX6 (nF 6) ∈ gT := tm1 (i := 135) (by decide +kernel) rfl
theorem kI_7 : Cond.instantiable RX7 (nF 7) ∈ gT := tm2 (i := 70) (by decide +kernel) rfl
theorem kI_8 : Cond.instantiable RX8 (nF 8) ∈ gT := tm1 (i := 65) (by decide +kernel) rfl
theorem kI_9 : Cond.instantiable RX9 (nF 9) ∈ gT := tm1 (i := 129) (by decide +kernel) rfl
theorem kI_10 : Cond.instantiable RX10 (nF 10) ∈ gT := tm1 (i := 170) (by decide +kernel) rfl
theorem kI_11 : Cond.instantiable RX11 (nF 11) ∈ gT := tm1 (i := 18) (by decide +kernel) rfl
theorem kI_12 : Cond.instantiable RX12 (nF 12) ∈ gT := tm5 (i := 15) (by decide +kernel) rfl
theorem kf_RX4_22 : FlR RX4 22 4 0 := ⟨kC_4, by decide, fun C T N h => by cases h; exact tm1 (i := 31) (by decide +kernel) rfl⟩
theorem kp_RX4_22 : FlK RX4 22 4 0 false := ⟨kC_4, by decide, fun C T N h => by cases h; exact ⟨tm1 (i := 31) (by decide +kernel) rfl, rfl, fun q => by cases q⟩⟩
theorem kf_RX11_178 : FlR RX11 178 4 0 := ⟨kC_4, by decide, fun C T N h => by cases h; exact tm1 (i := 32) (by decide +kernel) rfl⟩
theorem kp_RX11_178 : FlK RX11 178 4 0 false := ⟨kC_4, by decide, fun C T N h => by cases h; exact ⟨tm1 (i := 32) (by decide +kernel) rfl, rfl, fun q => by cases q⟩⟩
theorem kf_RX4_9 : FlR RX4 9 4 1 := ⟨kC_4, by decide, fun C T N h => by cases h; exact tm1 (i := 33) (by decide +kernel) rfl⟩
theorem kp_RX4_9 : FlK RX4 9 4 1 true := ⟨kC_4, by decide, fun C T N h => by cases h; exact ⟨tm1 (i := 33) (by decide +kernel) rfl, rfl, fun _ => rfl⟩⟩
theorem kf_RX4_29 : FlR RX4 29 4 2 := ⟨kC_4, by decide, fun C T N h => by cases h; exact tm1 (i := 34) (by decide +kernel) rfl⟩
theorem kp_RX4_29 : FlK RX4 29 4 2 false := ⟨kC_4, by decide, fun C T N h => by cases h; exact ⟨tm1 (i := 34) (by decide +kernel) rfl, rfl, fun q => by cases q⟩⟩
theorem kf_RX4_32 : FlR RX4 32 4 3 := ⟨kC_4, by decide, fun C T N h => by cases h; exact tm1 (i := 35) (by decide +kernel) rfl⟩
theorem kp_RX4_32 : FlK RX4 32 4 3 false := ⟨kC_4, by decide, fun C T N h => by cases h; exact ⟨tm1 (i := 35) (by decide +kernel) rfl, rfl, fun q => by cases q⟩⟩
theorem kf_RX4_13 : FlR RX4 13 4 4 := ⟨kC_4, by decide, fun C T N h => by cases h; exact tm1 (i := 36) (by decide +kernel) rfl⟩
theorem kp_RX4_13 : FlK RX4 13 4 4 true := ⟨kC_4, by decide, fun C T N h => by cases h; exact ⟨tm1 (i := 36) (by decide +kernel) rfl, rfl, fun _ => rfl⟩⟩
theorem kf_RX4_35 : FlR RX4 35 4 5 := ⟨kC_4, by decide, fun C T N h => by cases h; exact tm1 (i := 37) (by decide +kernel) rfl⟩
theorem kp_RX4_35 : FlK RX4 35 4 5 false := ⟨kC_4, by decide, fun C T N h => by cases h; exact ⟨tm1 (i := 37) (by decide +kernel) rfl, rfl, fun q => by cases q⟩⟩
theorem kf_RX4_16 : FlR RX4 16 4 6 := ⟨kC_4, by decide, fun C T N h => by cases h; exact tm1 (i := 38) (by decide +kernel) rfl⟩
theorem kp_RX4_16 : FlK RX4 16 4 6 true := ⟨kC_4, by decide, fun C T N h => by cases h; exact ⟨tm1 (i := 38) (by decide +kernel) rfl, rfl, fun _ => rfl⟩⟩
theorem kf_RX4_26 : FlR RX4 26 4 7 := ⟨kC_4, by decide, fun C T N h => by cases h; exact tm1 (i := 39) (by decide +kernel) rfl⟩
theorem kp_RX4_26 : FlK RX4 26 4 7 false := ⟨kC_4, by decide, fun C T N h => by cases h; exact ⟨tm1 (i := 39) (by decide +kernel) rfl, rfl, fun q => by cases q⟩⟩
theorem kf_RX4_19 : FlR RX4 19 4 8 := ⟨kC_4, by decide, fun C T N h => by cases h; exact tm1 (i := 40) (by decide +kernel) rfl⟩
theorem kp_RX4_19 : FlK RX4 19 4 8 true := ⟨kC_4, by decide, fun C T N h => by cases h; exact ⟨tm1 (i := 40) (by decide +kernel) rfl, rfl, fun _ => rfl⟩⟩
theorem kf_RX4_93 : FlR RX4 93 4 9 := ⟨kC_4, by decide, fun C T N h => by cases h; exact tm1 (i := 41) (by decide +kernel) rfl⟩
theorem kp_RX4_93 : FlK RX4 93 4 9 false := ⟨kC_4, by decide, fun C T N h => by cases h; exact ⟨tm1 (i := 41) (by decide +kernel) rfl, rfl, fun q => by cases q⟩⟩
theorem kf_RX8_35 : FlR RX8 35 8 0 := ⟨kC_8, by decide, fun C T N h => by cases h; exact tm1 (i := 70) (by decide +kernel) rfl⟩
theorem kp_RX8_35 : FlK RX8 35 8 0 false := ⟨kC_8, by decide, fun C T N h => by cases h; exact ⟨tm1 (i := 70) (by decide +kernel) rfl, rfl, fun q => by cases q⟩⟩
theorem kf_RX9_39 : FlR RX9 39 8 0 := ⟨kC_8, by decide, fun C T N h => by cases h; exact tm1 (i := 71) (by decide +kernel) rfl⟩
theorem kp_RX9_39 : FlK RX9 39 8 0 false := ⟨kC_8, by decide, fun C T N h => by cases h; exact ⟨tm1 (i := 71) (by decide +kernel) rfl, rfl, fun q => by cases q⟩⟩
theorem kf_RX11_88 : FlR RX11 88 8 0 := ⟨kC_8, by decide, fun C T N h => by cases h; exact tm1 (i := 72) (by decide +kernel) rfl⟩
theorem kp_RX11_88 : FlK RX11 88 8 0 false := ⟨kC_8, by decide, fun C T N h => by cases h; exact ⟨tm1 (i := 72) (by decide +kernel) rfl, rfl, fun q => by cases q⟩⟩
theorem kf_RX2_61 : FlR RX2 61 8 0 := ⟨kC_8, by decide, fun C T N h => by cases h; exact tm1 (i := 73) (by decide +kernel) rfl⟩
theorem kp_RX2_61 : FlK RX2 61 8 0 false := ⟨kC_8, by decide, fun C T N h => by cases h; exact ⟨tm1 (i := 73) (by decide +kernel) rfl, rfl, fun q => by cases q⟩⟩
theorem kf_RX3_69 : FlR RX3 69 8 0 := ⟨kC_8, by decide, fun C T N h => by cases h; exact tm1 (i := 74) (by decide +kernel) rfl⟩
theorem kp_RX3_69 : FlK RX3 69 8 0 false := ⟨kC_8, by decide, fun C T N h => by cases h; exact ⟨tm1 (i := 74) (by decide +kernel) rfl, rfl, fun q => by cases q⟩⟩
theorem kf_RX8_11 : FlR RX8 11 8 1 := ⟨kC_8, by decide, fun C T N h => by cases h; exact tm1 (i := 75) (by decide +kernel) rfl⟩
theorem kp_RX8_11 : FlK RX8 11 8 1 true := ⟨kC_8, by decide, fun C T N h => by cases h; exact ⟨tm1 (i := 75) (by decide +kernel) rfl, rfl, fun _ => rfl⟩⟩
theorem kf_RX11_122 : FlR RX11 122 8 1 := ⟨kC_8, by decide, fun C T N h => by cases h; exact tm1 (i := 76) (by decide +kernel) rfl⟩
theorem kf_RX8_15 : FlR RX8 15 8 2 := ⟨kC_8, by decide, fun C T N h => by cases h; exact tm1 (i := 77) (by decide +kernel) rfl⟩
theorem kp_RX8_15 : FlK RX8 15 8 2 true := ⟨kC_8, by decide, fun C T N h => by cases h; exact ⟨tm1 (i := 77) (by decide +kernel) rfl, rfl, fun _ => rfl⟩⟩
theorem kf_RX11_125 : FlR RX11 125 8 2 := ⟨kC_8, by decide, fun C T N h => by cases h; exact tm1 (i := 78) (by decide +kernel) rfl⟩
theorem kf_RX8_18 : FlR RX8 18 8 3 := ⟨kC_8, by decide, fun C T N h => by cases h; exact tm1 (i := 79) (by decide +kernel) rfl⟩
theorem kp_RX8_18 : FlK RX8 18 8 3 true := ⟨kC_8, by decide, fun C T N h => by cases h; exact ⟨tm1 (i := 79) (by decide +kernel) rfl, rfl, fun _ => rfl⟩⟩
theorem kf_RX11_128 : FlR RX11 128 8 3 := ⟨kC_8, by decide, fun C T N h => by cases h; exact tm1 (i := 80) (by decide +kernel) rfl⟩
theorem kf_RX8_21 : FlR RX8 21 8 4 := ⟨kC_8, by decide, fun C T N h => by cases h; exact tm1 (i := 81) (by decide +kernel) rfl⟩
theorem kp_RX8_21 : FlK RX8 21 8 4 true := ⟨kC_8, by decide, fun C T N h => by cases h; exact ⟨tm1 (i := 81) (by decide +kernel) rfl, rfl, fun _ => rfl⟩⟩
theorem kf_RX9_32 : FlR RX9 32 8 4 := ⟨kC_8, by decide, fun C T N h => by cases h; exact tm1 (i := 82) (by decide +kernel) rfl⟩
theorem kf_RX2_68 : FlR RX2 68 8 4 := ⟨kC_8, by decide, fun C T N h => by cases h; exact tm1 (i := 83) (by decide +kernel) rfl⟩
theorem kf_RX3_73 : FlR RX3 73 8 4 := ⟨kC_8, by decide, fun C T N h => by cases h; exact tm1 (i := 84) (by decide +kernel) rfl⟩
theorem kf_RX11_131 : FlR RX11 131 8 4 := ⟨kC_8, by decide, fun C T N h => by cases h; exact tm1 (i := 85) (by decide +kernel) rfl⟩
theorem kf_RX8_24 : FlR RX8 24 8 5 := ⟨kC_8, by decide, fun C T N h => by cases h; exact tm1 (i := 86) (by decide +kernel) rfl⟩
theorem kp_RX8_24 : FlK RX8 24 8 5 true := ⟨kC_8, by decide, fun C T N h => by cases h; exact ⟨tm1 (i := 86) (by decide +kernel) rfl, rfl, fun _ => rfl⟩⟩
theorem kf_RX2_65 : FlR RX2 65 8 5 := ⟨kC_8, by decide, fun C T N h => by cases h; exact tm1 (i := 87) (by decide +kernel) rfl⟩
theorem kf_RX9_80 : FlR RX9 80 8 5 := ⟨kC_8, by decide, fun C T N h => by cases h; exact tm1 (i := 88) (by decide +kernel) rfl⟩
theorem kf_RX3_98 : FlR RX3 98 8 5 := ⟨kC_8, by decide, fun C T N h => by cases h; exact tm1 (i := 89) (by decide +kernel) rfl⟩
theorem kf_RX8_27 : FlR RX8 27 8 6 := ⟨kC_8, by decide, fun C T N h => by cases h; exact tm1 (i := 90) (by decide +kernel) rfl⟩
theorem kp_RX8_27 : FlK RX8 27 8 6 true := ⟨kC_8, by decide, fun C T N h => by cases h; exact ⟨tm1 (i := 90) (by decide +kernel) rfl, rfl, fun _ => rfl⟩⟩
theorem kf_RX8_31 : FlR RX8 31 8 7 := ⟨kC_8, by decide, fun C T N h => by cases h; exact tm1 (i := 91) (by decide +kernel) rfl⟩
theorem kp_RX8_31 : FlK RX8 31 8 7 true := ⟨kC_8, by decide, fun C T N h => by cases h; exact ⟨tm1 (i := 91) (by decide +kernel) rfl, rfl, fun _ => rfl⟩⟩
theorem kf_RX5_18 : FlR RX5 18 5 0 := ⟨kC_5, by decide, fun C T N h => by cases h; exact tm1 (i := 117) (by decide +kernel) rfl⟩
theorem kp_RX5_18 : FlK RX5 18 5 0 false := ⟨kC_5, by decide, fun C T N h => by cases h; exact ⟨tm1 (i := 117) (by decide +kernel) rfl, rfl, fun q => by cases q⟩⟩
theorem kf_RX11_134 : FlR RX11 134 5 0 := ⟨kC_5, by decide, fun C T N h => by cases h; exact tm1 (i := 118) (by decide +kernel) rfl⟩
theorem kp_RX11_134 : FlK RX11 134 5 0 false := ⟨kC_5, by decide, fun C T N h => by cases h; exact ⟨tm1 (i := 118) (by decide +kernel) rfl, rfl, fun q => by cases q⟩⟩
theorem kf_RX5_9 : FlR RX5 9 5 1 := ⟨kC_5, by decide, fun C T N h => by cases h; exact tm1 (i := 119) (by decide +kernel) rfl⟩
theorem kp_RX5_9 : FlK RX5 9 5 1 true := ⟨kC_5, by decide, fun C T N h => by cases h; exact ⟨tm1 (i := 119) (by decide +kernel) rfl, rfl, fun _ => rfl⟩⟩
theorem kf_RX5_15 : FlR RX5 15 5 2 := ⟨kC_5, by decide, fun C T N h => by cases h; exact tm1 (i := 120) (by decide +kernel) rfl⟩
theorem kp_RX5_15 : FlK RX5 15 5 2 true := ⟨kC_5, by decide, fun C T N h => by cases h; exact ⟨tm1 (i := 120) (by decide +kernel) rfl, rfl, fun _ => rfl⟩⟩
theorem kf_RX6_9 : FlR RX6 9 6 0 := ⟨kC_6, by decide, fun C T N h => by cases h; exact tm1 (i := 140) (by decide +kernel) rfl⟩
theorem kp_RX6_9 : FlK RX6 9 6 0 true := ⟨kC_6, by decide, fun C T N h => by cases h; exact ⟨tm1 (i := 140) (by decide +kernel) rfl, rfl, fun _ => rfl⟩⟩
theorem kf_RX2_34 : FlR RX2 34 6 0 := ⟨kC_6, by decide, fun C T N h => by cases h; exact tm1 (i := 141) (by decide +kernel) rfl⟩
theorem kf_RX9_54 : FlR RX9 54 6 0 := ⟨kC_6, by decide, fun C T N h => by cases h; exact tm1 (i := 142) (by decide +kernel) rfl⟩
theorem kf_RX3_143 : FlR RX3 143 6 0 := ⟨kC_6, by decide, fun C T N h => by cases h; exact tm1 (i := 143) (by decide +kernel) rfl⟩
theorem kf_RX6_15 : FlR RX6 15 6 1 := ⟨kC_6, by decide, fun C T N h => by cases h; exact tm1 (i := 144) (by decide +kernel) rfl⟩
theorem kp_RX6_15 : FlK RX6 15 6 1 true := ⟨kC_6, by decide, fun C T N h => by cases h; exact ⟨tm1 (i := 144) (by decide +kernel) rfl, rfl, fun _ => rfl⟩⟩
theorem kf_RX9_9 : FlR RX9 9 9 0 := ⟨kC_9, by decide, fun C T N h => by cases h; exact tm1 (i := 150) (by decide +kernel) rfl⟩
theorem kp_RX9_9 : FlK RX9 9 9 0 true := ⟨kC_9, by decide, fun C T N h => by cases h; exact ⟨tm1 (i := 150) (by decide +kernel) rfl, rfl, fun _ => rfl⟩⟩
theorem kf_RX9_15 : FlR RX9 15 9 1 := ⟨kC_9, by decide, fun C T N h => by cases h; exact tm1 (i := 151) (by decide +kernel) rfl⟩
theorem kp_RX9_15 : FlK RX9 15 9 1 true := ⟨kC_9, by decide, fun C T N h => by cases h; exact ⟨tm1 (i := 151) (by decide +kernel) rfl, rfl, fun _ => rfl⟩⟩
theorem kf_RX9_22 : FlR RX9 22 9 2 := ⟨kC_9, by decide, fun C T N h => by cases h; exact tm1 (i := 152) (by decide +kernel) rfl⟩
theorem kp_RX9_22 : FlK RX9 22 9 2 true := ⟨kC_9, by decide, fun C T N h => by cases h; exact ⟨tm1 (i := 152) (by decide +kernel) rfl, rfl, fun _ => rfl⟩⟩
theorem kf_RX9_28 : FlR RX9 28 9 3 := ⟨kC_9, by decide, fun C T N h => by cases h; exact tm1 (i := 153) (by decide +kernel) rfl⟩
theorem kp_RX9_28 : FlK RX9 28 9 3 true := ⟨kC_9, by decide, fun C T N h => by cases h; exact ⟨tm1 (i := 153) (by decide +kernel) rfl, rfl, fun _ => rfl⟩⟩
theorem kf_RX10_9 : FlR RX10 9 10 0 := ⟨kC_10, by decide, fun C T N h => by cases h; exact tm1 (i := 175) (by decide +kernel) rfl⟩
theorem kp_RX10_9 : FlK RX10 9 10 0 true := ⟨kC_10, by decide, fun C T N h => by cases h; exact ⟨tm1 (i := 175) (by decide +kernel) rfl, rfl, fun _ => rfl⟩⟩
theorem kf_RX3_80 : FlR RX3 80 10 0 := ⟨kC_10, by decide, fun C T N h => by cases h; exact tm1 (i := 176) (by decide +kernel) rfl⟩
theorem kf_RX10_15 : FlR RX10 15 10 1 := ⟨kC_10, by decide, fun C T N h => by cases h; exact tm1 (i := 177) (by decide +kernel) rfl⟩
theorem kp_RX10_15 : FlK RX10 15 10 1 false := ⟨kC_10, by decide, fun C T N h => by cases h; exact ⟨tm1 (i := 177) (by decide +kernel) rfl, rfl, fun q => by cases q⟩⟩
theorem kf_RX3_157 : FlR RX3 157 3 0 := ⟨kC_3, by decide, fun C T N h => by cases h; exact tm1 (i := 187) (by decide +kernel) rfl⟩
theorem kp_RX3_157 : FlK RX3 157 3 0 false := ⟨kC_3, by decide, fun C T N h => by cases h; exact ⟨tm1 (i := 187) (by decide +kernel) rfl, rfl, fun q => by cases q⟩⟩
theorem kf_RX11_276 : FlR RX11 276 3 0 := ⟨kC_3, by decide, fun C T N h => by cases h; exact tm1 (i := 188) (by decide +kernel) rfl⟩
theorem kp_RX11_276 : FlK RX11 276 3 0 false := ⟨kC_3, by decide, fun C T N h => by cases h; exact ⟨tm1 (i := 188) (by decide +kernel) rfl, rfl, fun q => by cases q⟩⟩
theorem kf_RX3_150 : FlR RX3 150 3 1 := ⟨kC_3, by decide, fun C T N h => by cases h; exact tm1 (i := 189) (by decide +kernel) rfl⟩
theorem kp_RX3_150 : FlK RX3 150 3 1 false := ⟨kC_3, by decide, fun C T N h => by cases h; exact ⟨tm1 (i := 189) (by decide +kernel) rfl, rfl, fun q => by cases q⟩⟩
theorem kf_RX11_279 : FlR RX11 279 3 1 := ⟨kC_3, by decide, fun C T N h => by cases h; exact tm1 (i := 190) (by decide +kernel) rfl⟩
theorem kp_RX11_279 : FlK RX11 279 3 1 false := ⟨kC_3, by decide, fun C T N h => by cases h; exact ⟨tm1 (i := 190) (by decide +kernel) rfl, rfl, fun q => by cases q⟩⟩
theorem kf_RX3_136 : FlR RX3 136 3 2 := ⟨kC_3, by decide, fun C T N h => by cases h; exact tm1 (i := 191) (by decide +kernel) rfl⟩
theorem kp_RX3_136 : FlK RX3 136 3 2 false := ⟨kC_3, by decide, fun C T N h => by cases h; exact ⟨tm1 (i := 191) (by decide +kernel) rfl, rfl, fun q => by cases q⟩⟩
theorem kf_RX11_254 : FlR RX11 254 3 2 := ⟨kC_3, by decide, fun C T N h => by cases h; exact tm1 (i := 192) (by decide +kernel) rfl⟩
theorem kp_RX11_254 : FlK RX11 254 3 2 false := ⟨kC_3, by decide, fun C T N h => by cases h; exact ⟨tm1 (i := 192) (by decide +kernel) rfl, rfl, fun q => by cases q⟩⟩
theorem kf_RX3_41 : FlR RX3 41 3 3 := ⟨kC_3, by decide, fun C T N h => by cases h; exact tm1 (i := 193) (by decide +kernel) rfl⟩
theorem kp_RX3_41 : FlK RX3 41 3 3 true := ⟨kC_3, by decide, fun C T N h => by cases h; exact ⟨tm1 (i := 193) (by decide +kernel) rfl, rfl, fun _ => rfl⟩⟩
theorem kf_RX11_257 : FlR RX11 257 3 3 := ⟨kC_3, by decide, fun C T N h => by cases h; exact tm1 (i := 194) (by decide +kernel) rfl⟩
theorem kf_RX3_7 : FlR RX3 7 3 4 := ⟨kC_3, by decide, fun C T N h => by cases h; exact tm1 (i := 195) (by decide +kernel) rfl⟩
theorem kp_RX3_7 : FlK RX3 7 3 4 true := ⟨kC_3, by decide, fun C T N h => by cases h; exact ⟨tm1 (i := 195) (by decide +kernel) rfl, rfl, fun _ => rfl⟩⟩
theorem kf_RX3_16 : FlR RX3 16 3 5 := ⟨kC_3, by decide, fun C T N h => by cases h; exact tm1 (i := 196) (by decide +kernel) rfl⟩
theorem kp_RX3_16 : FlK RX3 16 3 5 true := ⟨kC_3, by decide, fun C T N h => by cases h; exact ⟨tm1 (i := 196) (by decide +kernel) rfl, rfl, fun _ => rfl⟩⟩
theorem kf_RX3_23 : FlR RX3 23 3 6 := ⟨kC_3, by decide, fun C T N h => by cases h; exact tm1 (i := 197) (by decide +kernel) rfl⟩
theorem kp_RX3_23 : FlK RX3 23 3 6 true := ⟨kC_3, by decide, fun C T N h => by cases h; exact ⟨tm1 (i := 197) (by decide +kernel) rfl, rfl, fun _ => rfl⟩⟩
theorem kf_RX3_27 : FlR RX3 27 3 7 := ⟨kC_3, by decide, fun C T N h => by cases h; exact tm1 (i := 198) (by decide +kernel) rfl⟩
theorem kp_RX3_27 : FlK RX3 27 3 7 true := ⟨kC_3, by decide, fun C T N h => by cases h; exact ⟨tm1 (i := 198) (by decide +kernel) rfl, rfl, fun _ => rfl⟩⟩
theorem kf_RX3_35 : FlR RX3 35 3 8 := ⟨kC_3, by decide, fun C T N h => by cases h; exact tm1 (i := 199) (by decide +kernel) rfl⟩
theorem kp_RX3_35 : FlK RX3 35 3 8 true := ⟨kC_3, by decide, fun C T N h => by cases h; exact ⟨tm1 (i := 199) (by decide +kernel) rfl, rfl, fun _ => rfl⟩⟩
theorem kf_RX3_38 : FlR RX3 38 3 9 := ⟨kC_3, by decide, fun C T N h => by cases h; exact tm1 (i := 200) (by decide +kernel) rfl⟩
theorem kp_RX3_38 : FlK RX3 38 3 9 true := ⟨kC_3, by decide, fun C T N h => by cases h; exact ⟨tm1 (i := 200) (by decide +kernel) rfl, rfl, fun _ => rfl⟩⟩
theorem kf_RX3_44 : FlR RX3 44 3 10 := ⟨kC_3, by decide, fun C T N h => by cases h; exact tm1 (i := 201) (by decide +kernel) rfl⟩
theorem kp_RX3_44 : FlK RX3 44 3 10 true := ⟨kC_3, by decide, fun C T N h => by cases h; exact ⟨tm1 (i := 201) (by decide +kernel) rfl, rfl, fun _ => rfl⟩⟩
theorem kf_RX3_48 : FlR RX3 48 3 11 := ⟨kC_3, by decide, fun C T N h => by cases h; exact tm1 (i := 202) (by decide +kernel) rfl⟩
theorem kp_RX3_48 : FlK RX3 48 3 11 true := ⟨kC_3, by decide, fun C T N h => by cases h; exact ⟨tm1 (i := 202) (by decide +kernel) rfl, rfl, fun _ => rfl⟩⟩
theorem kf_RX3_51 : FlR RX3 51 3 12 := ⟨kC_3, by decide, fun C T N h => by cases h; exact tm1 (i := 203) (by decide +kernel) rfl⟩
theorem kp_RX3_51 : FlK RX3 51 3 12 true := ⟨kC_3, by decide, fun C T N h => by cases h; exact ⟨tm1 (i := 203) (by decide +kernel) rfl, rfl, fun _ => rfl⟩⟩
theorem kf_RX2_28 : FlR RX2 28 2 0 := ⟨kC_2, by decide, fun C T N h => by cases h; exact tm2 (i := 2) (by decide +kernel) rfl⟩
theorem kp_RX2_28 : FlK RX2 28 2 0 true := ⟨kC_2, by decide, fun C T N h => by cases h; exact ⟨tm2 (i := 2) (by decide +kernel) rfl, rfl, fun _ => rfl⟩⟩
theorem kf_RX11_285 : FlR RX11 285 2 0 := ⟨kC_2, by decide, fun C T N h => by cases h; exact tm2 (i := 3) (by decide +kernel) rfl⟩
theorem kf_RX2_7 : FlR RX2 7 2 1 := ⟨kC_2, by decide, fun C T N h => by cases h; exact tm2 (i := 4) (by decide +kernel) rfl⟩
theorem kp_RX2_7 : FlK RX2 7 2 1 true := ⟨kC_2, by decide, fun C T N h => by cases h; exact ⟨tm2 (i := 4) (by decide +kernel) rfl, rfl, fun _ => rfl⟩⟩
theorem kf_RX2_13 : FlR RX2 13 2 2 := ⟨kC_2, by decide, fun C T N h => by cases h; exact tm2 (i := 5) (by decide +kernel) rfl⟩
theorem kp_RX2_13 : FlK RX2 13 2 2 true := ⟨kC_2, by decide, fun C T N h => by cases h; exact ⟨tm2 (i := 5) (by decide +kernel) rfl, rfl, fun _ => rfl⟩⟩
theorem kf_RX2_20 : FlR RX2 20 2 3 := ⟨kC_2, by decide, fun C T N h => by cases h; exact tm2 (i := 6) (by decide +kernel) rfl⟩
theorem kp_RX2_20 : FlK RX2 20 2 3 true := ⟨kC_2, by decide, fun C T N h => by cases h; exact ⟨tm2 (i := 6) (by decide +kernel) rfl, rfl, fun _ => rfl⟩⟩
theorem kf_RX1_29 : FlR RX1 29 1 0 := ⟨kC_1, by decide, fun C T N h => by cases h; exact tm2 (i := 22) (by decide +kernel) rfl⟩
theorem kp_RX1_29 : FlK RX1 29 1 0 false := ⟨kC_1, by decide, fun C T N h => by cases h; exact ⟨tm2 (i := 22) (by decide +kernel) rfl, rfl, fun q => by cases q⟩⟩
theorem kf_RX11_307 : FlR RX11 307 1 0 := ⟨kC_1, by decide, fun C T N h => by cases h; exact tm2 (i := 23) (by decide +kernel) rfl⟩
theorem kp_RX11_307 : FlK RX11 307 1 0 false := ⟨kC_1, by decide, fun C T N h => by cases h; exact ⟨tm2 (i := 23) (by decide +kernel) rfl, rfl, fun q => by cases q⟩⟩
theorem kf_RX1_22 : FlR RX1 22 1 1 := ⟨kC_1, by decide, fun C T N h => by cases h; exact tm2 (i := 24) (by decide +kernel) rfl⟩
theorem kp_RX1_22 : FlK RX1 22 1 1 false := ⟨kC_1, by decide, fun C T N h => by cases h; exact ⟨tm2 (i := 24) (by decide +kernel) rfl, rfl, fun q => by cases q⟩⟩
theorem kf_RX11_301 : FlR RX11 301 1 1 := ⟨kC_1, by decide, fun C T N h => by cases h; exact tm2 (i := 25) (by decide +kernel) rfl⟩
theorem kp_RX11_301 : FlK RX11 301 1 1 false := ⟨kC_1, by decide, fun C T N h => by cases h; exact ⟨tm2 (i := 25) (by decide +kernel) rfl, rfl, fun q => by cases q⟩⟩
theorem kf_RX1_9 : FlR RX1 9 1 2 := ⟨kC_1, by decide, fun C T N h => by cases h; exact tm2 (i := 26) (by decide +kernel) rfl⟩
theorem kp_RX1_9 : FlK RX1 9 1 2 true := ⟨kC_1, by decide, fun C T N h => by cases h; exact ⟨tm2 (i := 26) (by decide +kernel) rfl, rfl, fun _ => rfl⟩⟩
theorem kf_RX1_13 : FlR RX1 13 1 3 := ⟨kC_1, by decide, fun C T N h => by cases h; exact tm2 (i := 27) (by decide +kernel) rfl⟩
theorem kp_RX1_13 : FlK RX1 13 1 3 true := ⟨kC_1, by decide, fun C T N h => by cases h; exact ⟨tm2 (i := 27) (by decide +kernel) rfl, rfl, fun _ => rfl⟩⟩
theorem kf_RX1_16 : FlR RX1 16 1 4 := ⟨kC_1, by decide, fun C T N h => by cases h; exact tm2 (i := 28) (by decide +kernel) rfl⟩
theorem kp_RX1_16 : FlK RX1 16 1 4 true := ⟨kC_1, by decide, fun C T N h => by cases h; exact ⟨tm2 (i := 28) (by decide +kernel) rfl, rfl, fun _ => rfl⟩⟩
theorem kf_RX1_19 : FlR RX1 19 1 5 := ⟨kC_1, by decide, fun C T N h => by cases h; exact tm2 (i := 29) (by decide +kernel) rfl⟩
theorem kp_RX1_19 : FlK RX1 19 1 5 true := ⟨kC_1, by decide, fun C T N h => by cases h; exact ⟨tm2 (i := 29) (by decide +kernel) rfl, rfl, fun _ => rfl⟩⟩
theorem kf_RX0_16 : FlR RX0 16 0 0 := ⟨kC_0, by decide, fun C T N h => by cases h; exact tm2 (i := 49) (by decide +kernel) rfl⟩
theorem kp_RX0_16 : FlK RX0 16 0 0 false := ⟨kC_0, by decide, fun C T N h => by cases h; exact ⟨tm2 (i := 49) (by decide +kernel) rfl, rfl, fun q => by cases q⟩⟩
theorem kf_RX11_316 : FlR RX11 316 0 0 := ⟨kC_0, by decide, fun C T N h => by cases h; exact tm2 (i := 50) (by decide +kernel) rfl⟩
theorem kp_RX11_316 : FlK RX11 316 0 0 false := ⟨kC_0, by decide, fun C T N h => by cases h; exact ⟨tm2 (i := 50) (by decide +kernel) rfl, rfl, fun q => by cases q⟩⟩
theorem kf_RX0_20 : FlR RX0 20 0 1 := ⟨kC_0, by decide, fun C T N h => by cases h; exact tm2 (i := 51) (by decide +kernel) rfl⟩
theorem kp_RX0_20 : FlK RX0 20 0 1 false := ⟨kC_0, by decide, fun C T N h => by cases h; exact ⟨tm2 (i := 51) (by decide +kernel) rfl, rfl, fun q => by cases q⟩⟩
theorem kf_RX11_360 : FlR RX11 360 0 1 := ⟨kC_0, by decide, fun C T N h => by cases h; exact tm2 (i := 52) (by decide +kernel) rfl⟩
theorem kp_RX11_360 : FlK RX11 360 0 1 false := ⟨kC_0, by decide, fun C T N h => by cases h; exact ⟨tm2 (i := 52) (by decide +kernel) rfl, rfl, fun q => by cases q⟩⟩
theorem kf_RX0_9 : FlR RX0 9 0 2 := ⟨kC_0, by decide, fun C T N h => by cases h; exact tm2 (i := 53) (by decide +kernel) rfl⟩
theorem kp_RX0_9 : FlK RX0 9 0 2 true := ⟨kC_0, by decide, fun C T N h => by cases h; exact ⟨tm2 (i := 53) (by decide +kernel) rfl, rfl, fun _ => rfl⟩⟩
theorem kf_RX11_323 : FlR RX11 323 0 2 := ⟨kC_0, by decide, fun C T N h => by cases h; exact tm2 (i := 54) (by decide +kernel) rfl⟩
theorem kf_RX0_13 : FlR RX0 13 0 3 := ⟨kC_0, by decide, fun C T N h => by cases h; exact tm2 (i := 55) (by decide +kernel) rfl⟩
theorem kp_RX0_13 : FlK RX0 13 0 3 true := ⟨kC_0, by decide, fun C T N h => by cases h; exact ⟨tm2 (i := 55) (by decide +kernel) rfl, rfl, fun _ => rfl⟩⟩
theorem kf_RX0_32 : FlR RX0 32 0 4 := ⟨kC_0, by decide, fun C T N h => by cases h; exact tm2 (i := 56) (by decide +kernel) rfl⟩
theorem kp_RX0_32 : FlK RX0 32 0 4 false := ⟨kC_0, by decide, fun C T N h => by cases h; exact ⟨tm2 (i := 56) (by decide +kernel) rfl, rfl, fun q => by cases q⟩⟩
theorem kf_RX7_15 : FlR RX7 15 7 0 := ⟨kC_7, by decide, fun C T N h => by cases h; exact tm2 (i := 75) (by decide +kernel) rfl⟩
theorem kp_RX7_15 : FlK RX7 15 7 0 false := ⟨kC_7, by decide, fun C T N h => by cases h; exact ⟨tm2 (i := 75) (by decide +kernel) rfl, rfl, fun q => by cases q⟩⟩
theorem kf_RX11_156 : FlR RX11 156 7 0 := ⟨kC_7, by decide, fun C T N h => by cases h; exact tm2 (i := 76) (by decide +kernel) rfl⟩
theorem kp_RX11_156 : FlK RX11 156 7 0 false := ⟨kC_7, by decide, fun C T N h => by cases h; exact ⟨tm2 (i := 76) (by decide +kernel) rfl, rfl, fun q => by cases q⟩⟩
theorem kf_RX7_19 : FlR RX7 19 7 1 := ⟨kC_7, by decide, fun C T N h => by cases h; exact tm2 (i := 77) (by decide +kernel) rfl⟩
theorem kp_RX7_19 : FlK RX7 19 7 1 false := ⟨kC_7, by decide, fun C T N h => by cases h; exact ⟨tm2 (i := 77) (by decide +kernel) rfl, rfl, fun q => by cases q⟩⟩
theorem kf_RX11_351 : FlR RX11 351 7 1 := ⟨kC_7, by decide, fun C T N h => by cases h; exact tm2 (i := 78) (by decide +kernel) rfl⟩
theorem kp_RX11_351 : FlK RX11 351 7 1 false := ⟨kC_7, by decide, fun C T N h => by cases h; exact ⟨tm2 (i := 78) (by decide +kernel) rfl, rfl, fun q => by cases q⟩⟩
theorem kf_RX7_22 : FlR RX7 22 7 2 := ⟨kC_7, by decide, fun C T N h => by cases h; exact tm2 (i := 79) (by decide +kernel) rfl⟩
theorem kp_RX7_22 : FlK RX7 22 7 2 false := ⟨kC_7, by decide, fun C T N h => by cases h; exact ⟨tm2 (i := 79) (by decide +kernel) rfl, rfl, fun q => by cases q⟩⟩
theorem kf_RX11_159 : FlR RX11 159 7 2 := ⟨kC_7, by decide, fun C T N h => by cases h; exact tm2 (i := 80) (by decide +kernel) rfl⟩
theorem kp_RX11_159 : FlK RX11 159 7 2 false := ⟨kC_7, by decide, fun C T N h => by cases h; exact ⟨tm2 (i := 80) (by decide +kernel) rfl, rfl, fun q => by cases q⟩⟩
theorem kf_RX7_25 : FlR RX7 25 7 3 := ⟨kC_7, by decide, fun C T N h => by cases h; exact tm2 (i := 81) (by decide +kernel) rfl⟩
theorem kp_RX7_25 : FlK RX7 25 7 3 false := ⟨kC_7, by decide, fun C T N h => by cases h; exact ⟨tm2 (i := 81) (by decide +kernel) rfl, rfl, fun q => by cases q⟩⟩
theorem kf_RX11_166 : FlR RX11 166 7 3 := ⟨kC_7, by decide, fun C T N h => by cases h; exact tm2 (i := 82) (by decide +kernel) rfl⟩
theorem kp_RX11_166 : FlK RX11 166 7 3 false := ⟨kC_7, by decide, fun C T N h => by cases h; exact ⟨tm2 (i := 82) (by decide +kernel) rfl, rfl, fun q => by cases q⟩⟩
theorem kf_RX7_11 : FlR RX7 11 7 4 := ⟨kC_7, by decide, fun C T N h => by cases h; exact tm2 (i := 83) (by decide +kernel) rfl⟩
theorem kp_RX7_11 : FlK RX7 11 7 4 true := ⟨kC_7, by decide, fun C T N h => by cases h; exact ⟨tm2 (i := 83) (by decide +kernel) rfl, rfl, fun _ => rfl⟩⟩
theorem kf_RX11_169 : FlR RX11 169 7 4 := ⟨kC_7, by decide, fun C T N h => by cases h; exact tm2 (i := 84) (by decide +kernel) rfl⟩
theorem kf_RX11_10 : FlR RX11 10 11 0 := ⟨kC_11, by decide, fun C T N h => by cases h; exact tm2 (i := 96) (by decide +kernel) rfl⟩
theorem kp_RX11_10 : FlK RX11 10 11 0 true := ⟨kC_11, by decide, fun C T N h => by cases h; exact ⟨tm2 (i := 96) (by decide +kernel) rfl, rfl, fun _ => rfl⟩⟩
theorem kf_RX11_21 : FlR RX11 21 11 1 := ⟨kC_11, by decide, fun C T N h => by cases h; exact tm2 (i := 97) (by decide +kernel) rfl⟩
theorem kp_RX11_21 : FlK RX11 21 11 1 true := ⟨kC_11, by decide, fun C T N h => by cases h; exact ⟨tm2 (i := 97) (by decide +kernel) rfl, rfl, fun _ => rfl⟩⟩
theorem kf_RX11_28 : FlR RX11 28 11 2 := ⟨kC_11, by decide, fun C T N h => by cases h; exact tm2 (i := 98) (by decide +kernel) rfl⟩
theorem kp_RX11_28 : FlK RX11 28 11 2 true := ⟨kC_11, by decide, fun C T N h => by cases h; exact ⟨tm2 (i := 98) (by decide +kernel) rfl, rfl, fun _ => rfl⟩⟩
theorem kf_RX11_32 : FlR RX11 32 11 3 := ⟨kC_11, by decide, fun C T N h => by cases h; exact tm2 (i := 99) (by decide +kernel) rfl⟩
theorem kp_RX11_32 : FlK RX11 32 11 3 true := ⟨kC_11, by decide, fun C T N h => by cases h; exact ⟨tm2 (i := 99) (by decide +kernel) rfl, rfl, fun _ => rfl⟩⟩
theorem kf_RX11_297 : FlR RX11 297 11 4 := ⟨kC_11, by decide, fun C T N h => by cases h; exact tm2 (i := 100) (by decide +kernel) rfl⟩
theorem kp_RX11_297 : FlK RX11 297 11 4 false := ⟨kC_11, by decide, fun C T N h => by cases h; exact ⟨tm2 (i := 100) (by decide +kernel) rfl, rfl, fun q => by cases q⟩⟩
theorem kf_RX11_40 : FlR RX11 40 11 5 := ⟨kC_11, by decide, fun C T N h => by cases h; exact tm2 (i := 101) (by decide +kernel) rfl⟩
theorem kp_RX11_40 : FlK RX11 40 11 5 true := ⟨kC_11, by decide, fun C T N h => by cases h; exact ⟨tm2 (i := 101) (by decide +kernel) rfl, rfl, fun _ => rfl⟩⟩
theorem kf_RX11_49 : FlR RX11 49 11 6 := ⟨kC_11, by decide, fun C T N h => by cases h; exact tm2 (i := 102) (by decide +kernel) rfl⟩
theorem kp_RX11_49 : FlK RX11 49 11 6 true := ⟨kC_11, by decide, fun C T N h => by cases h; exact ⟨tm2 (i := 102) (by decide +kernel) rfl, rfl, fun _ => rfl⟩⟩
theorem kf_RX11_56 : FlR RX11 56 11 7 := ⟨kC_11, by decide, fun C T N h => by cases h; exact tm2 (i := 103) (by decide +kernel) rfl⟩
theorem kp_RX11_56 : FlK RX11 56 11 7 true := ⟨kC_11, by decide, fun C T N h => by cases h; exact ⟨tm2 (i := 103) (by decide +kernel) rfl, rfl, fun _ => rfl⟩⟩
theorem kf_RX11_63 : FlR RX11 63 11 8 := ⟨kC_11, by decide, fun C T N h => by cases h; exact tm2 (i := 104) (by decide +kernel) rfl⟩
theorem kp_RX11_63 : FlK RX11 63 11 8 true := ⟨kC_11, by decide, fun C T N h => by cases h; exact ⟨tm2 (i := 104) (by decide +kernel) rfl, rfl, fun _ => rfl⟩⟩
theorem kf_RX11_70 : FlR RX11 70 11 9 := ⟨kC_11, by decide, fun C T N h => by cases h; exact tm2 (i := 105) (by decide +kernel) rfl⟩
theorem kp_RX11_70 : FlK RX11 70 11 9 true := ⟨kC_11, by decide, fun C T N h => by cases h; exact ⟨tm2 (i := 105) (by decide +kernel) rfl, rfl, fun _ => rfl⟩⟩
theorem kf_RX11_76 : FlR RX11 76 11 10 := ⟨kC_11, by decide, fun C T N h => by cases h; exact tm2 (i := 106) (by decide +kernel) rfl⟩
theorem kp_RX11_76 : FlK RX11 76 11 10 true := ⟨kC_11, by decide, fun C T N h => by cases h; exact ⟨tm2 (i := 106) (by decide +kernel) rfl, rfl, fun _ => rfl⟩⟩
theorem kf_RX11_81 : FlR RX11 81 11 11 := ⟨kC_11, by decide, fun C T N h => by cases h; exact tm2 (i := 107) (by decide +kernel) rfl⟩
theorem kp_RX11_81 : FlK RX11 81 11 11 true := ⟨kC_11, by decide, fun C T N h => by cases h; exact ⟨tm2 (i := 107) (by decide +kernel) rfl, rfl, fun _ => rfl⟩⟩
theorem kf_RX11_85 : FlR RX11 85 11 12 := ⟨kC_11, by decide, fun C T N h => by cases h; exact tm2 (i := 108) (by decide +kernel) rfl⟩
theorem kp_RX11_85 : FlK RX11 85 11 12 true := ⟨kC_11, by decide, fun C T N h => by cases h; exact ⟨tm2 (i := 108) (by decide +kernel) rfl, rfl, fun _ => rfl⟩⟩
theorem kf_RX0_43 : Cond.fieldLink RX0 43 "NineCarts$Acts" "BODIES" "[I" ∈ gT := tm4 (i := 181) (by decide +kernel) rfl
theorem kf_RX0_29 : Cond.fieldLink RX0 29 "NineCarts$Acts" "ABOVE" "[I" ∈ gT := tm4 (i := 183) (by decide +kernel) rfl
theorem kf_RX12_137 : FlR RX12 137 12 1 := ⟨kC_12, by decide, fun C T N h => by cases h; exact tm5 (i := 20) (by decide +kernel) rfl⟩
theorem kp_RX12_137 : FlK RX12 137 12 1 false := ⟨kC_12, by decide, fun C T N h => by cases h; exact ⟨tm5 (i := 20) (by decide +kernel) rfl, rfl, fun q => by cases q⟩⟩
theorem kf_RX12_7 : FlR RX12 7 12 2 := ⟨kC_12, by decide, fun C T N h => by cases h; exact tm5 (i := 21) (by decide +kernel) rfl⟩
theorem kp_RX12_7 : FlK RX12 7 12 2 true := ⟨kC_12, by decide, fun C T N h => by cases h; exact ⟨tm5 (i := 21) (by decide +kernel) rfl, rfl, fun _ => rfl⟩⟩
theorem kf_RX12_13 : FlR RX12 13 12 3 := ⟨kC_12, by decide, fun C T N h => by cases h; exact tm5 (i := 22) (by decide +kernel) rfl⟩
theorem kp_RX12_13 : FlK RX12 13 12 3 true := ⟨kC_12, by decide, fun C T N h => by cases h; exact ⟨tm5 (i := 22) (by decide +kernel) rfl, rfl, fun _ => rfl⟩⟩
theorem kf_RX12_16 : FlR RX12 16 12 4 := ⟨kC_12, by decide, fun C T N h => by cases h; exact tm5 (i := 23) (by decide +kernel) rfl⟩
theorem kp_RX12_16 : FlK RX12 16 12 4 true := ⟨kC_12, by decide, fun C T N h => by cases h; exact ⟨tm5 (i := 23) (by decide +kernel) rfl, rfl, fun _ => rfl⟩⟩
theorem kf_RX12_19 : FlR RX12 19 12 5 := ⟨kC_12, by decide, fun C T N h => by cases h; exact tm5 (i := 24) (by decide +kernel) rfl⟩
theorem kp_RX12_19 : FlK RX12 19 12 5 true := ⟨kC_12, by decide, fun C T N h => by cases h; exact ⟨tm5 (i := 24) (by decide +kernel) rfl, rfl, fun _ => rfl⟩⟩
theorem kf_RX12_22 : FlR RX12 22 12 6 := ⟨kC_12, by decide, fun C T N h => by cases h; exact tm5 (i := 25) (by decide +kernel) rfl⟩
theorem kp_RX12_22 : FlK RX12 22 12 6 true := ⟨kC_12, by decide, fun C T N h => by cases h; exact ⟨tm5 (i := 25) (by decide +kernel) rfl, rfl, fun _ => rfl⟩⟩
theorem kf_RX12_25 : FlR RX12 25 12 7 := ⟨kC_12, by decide, fun C T N h => by cases h; exact tm5 (i := 26) (by decide +kernel) rfl⟩
theorem kp_RX12_25 : FlK RX12 25 12 7 true := ⟨kC_12, by decide, fun C T N h => by cases h; exact ⟨tm5 (i := 26) (by decide +kernel) rfl, rfl, fun _ => rfl⟩⟩
theorem kf_RX12_28 : FlR RX12 28 12 8 := ⟨kC_12, by decide, fun C T N h => by cases h; exact tm5 (i := 27) (by decide +kernel) rfl⟩
theorem kp_RX12_28 : FlK RX12 28 12 8 true := ⟨kC_12, by decide, fun C T N h => by cases h; exact ⟨tm5 (i := 27) (by decide +kernel) rfl, rfl, fun _ => rfl⟩⟩
theorem kf_RX12_151 : FlR RX12 151 12 9 := ⟨kC_12, by decide, fun C T N h => by cases h; exact tm5 (i := 28) (by decide +kernel) rfl⟩
theorem kp_RX12_151 : FlK RX12 151 12 9 false := ⟨kC_12, by decide, fun C T N h => by cases h; exact ⟨tm5 (i := 28) (by decide +kernel) rfl, rfl, fun q => by cases q⟩⟩
theorem kf_RX12_148 : FlR RX12 148 12 10 := ⟨kC_12, by decide, fun C T N h => by cases h; exact tm5 (i := 29) (by decide +kernel) rfl⟩
theorem kp_RX12_148 : FlK RX12 148 12 10 false := ⟨kC_12, by decide, fun C T N h => by cases h; exact ⟨tm5 (i := 29) (by decide +kernel) rfl, rfl, fun q => by cases q⟩⟩
theorem kf_RX12_32 : FlR RX12 32 12 11 := ⟨kC_12, by decide, fun C T N h => by cases h; exact tm5 (i := 30) (by decide +kernel) rfl⟩
theorem kp_RX12_32 : FlK RX12 32 12 11 true := ⟨kC_12, by decide, fun C T N h => by cases h; exact ⟨tm5 (i := 30) (by decide +kernel) rfl, rfl, fun _ => rfl⟩⟩
theorem kf_RX12_35 : FlR RX12 35 12 12 := ⟨kC_12, by decide, fun C T N h => by cases h; exact tm5 (i := 31) (by decide +kernel) rfl⟩
theorem kp_RX12_35 : FlK RX12 35 12 12 true := ⟨kC_12, by decide, fun C T N h => by cases h; exact ⟨tm5 (i := 31) (by decide +kernel) rfl, rfl, fun _ => rfl⟩⟩
theorem kf_RX12_38 : FlR RX12 38 12 13 := ⟨kC_12, by decide, fun C T N h => by cases h; exact tm5 (i := 32) (by decide +kernel) rfl⟩
theorem kp_RX12_38 : FlK RX12 38 12 13 true := ⟨kC_12, by decide, fun C T N h => by cases h; exact ⟨tm5 (i := 32) (by decide +kernel) rfl, rfl, fun _ => rfl⟩⟩
theorem kf_RX12_41 : FlR RX12 41 12 14 := ⟨kC_12, by decide, fun C T N h => by cases h; exact tm5 (i := 33) (by decide +kernel) rfl⟩
theorem kp_RX12_41 : FlK RX12 41 12 14 true := ⟨kC_12, by decide, fun C T N h => by cases h; exact ⟨tm5 (i := 33) (by decide +kernel) rfl, rfl, fun _ => rfl⟩⟩
theorem kf_RX12_44 : FlR RX12 44 12 15 := ⟨kC_12, by decide, fun C T N h => by cases h; exact tm5 (i := 34) (by decide +kernel) rfl⟩
theorem kp_RX12_44 : FlK RX12 44 12 15 true := ⟨kC_12, by decide, fun C T N h => by cases h; exact ⟨tm5 (i := 34) (by decide +kernel) rfl, rfl, fun _ => rfl⟩⟩
theorem kf_RX12_47 : FlR RX12 47 12 16 := ⟨kC_12, by decide, fun C T N h => by cases h; exact tm5 (i := 35) (by decide +kernel) rfl⟩
theorem kp_RX12_47 : FlK RX12 47 12 16 true := ⟨kC_12, by decide, fun C T N h => by cases h; exact ⟨tm5 (i := 35) (by decide +kernel) rfl, rfl, fun _ => rfl⟩⟩
theorem kf_RX12_179 : FlR RX12 179 12 17 := ⟨kC_12, by decide, fun C T N h => by cases h; exact tm5 (i := 36) (by decide +kernel) rfl⟩
theorem kp_RX12_179 : FlK RX12 179 12 17 false := ⟨kC_12, by decide, fun C T N h => by cases h; exact ⟨tm5 (i := 36) (by decide +kernel) rfl, rfl, fun q => by cases q⟩⟩
theorem kf_RX12_182 : FlR RX12 182 12 18 := ⟨kC_12, by decide, fun C T N h => by cases h; exact tm5 (i := 37) (by decide +kernel) rfl⟩
theorem kp_RX12_182 : FlK RX12 182 12 18 false := ⟨kC_12, by decide, fun C T N h => by cases h; exact ⟨tm5 (i := 37) (by decide +kernel) rfl, rfl, fun q => by cases q⟩⟩
theorem kf_RX12_185 : FlR RX12 185 12 19 := ⟨kC_12, by decide, fun C T N h => by cases h; exact tm5 (i := 38) (by decide +kernel) rfl⟩
theorem kp_RX12_185 : FlK RX12 185 12 19 false := ⟨kC_12, by decide, fun C T N h => by cases h; exact ⟨tm5 (i := 38) (by decide +kernel) rfl, rfl, fun q => by cases q⟩⟩
theorem kf_RX12_191 : FlR RX12 191 12 20 := ⟨kC_12, by decide, fun C T N h => by cases h; exact tm5 (i := 39) (by decide +kernel) rfl⟩
theorem kp_RX12_191 : FlK RX12 191 12 20 false := ⟨kC_12, by decide, fun C T N h => by cases h; exact ⟨tm5 (i := 39) (by decide +kernel) rfl, rfl, fun q => by cases q⟩⟩
theorem kf_RX12_188 : FlR RX12 188 12 21 := ⟨kC_12, by decide, fun C T N h => by cases h; exact tm5 (i := 40) (by decide +kernel) rfl⟩
theorem kp_RX12_188 : FlK RX12 188 12 21 false := ⟨kC_12, by decide, fun C T N h => by cases h; exact ⟨tm5 (i := 40) (by decide +kernel) rfl, rfl, fun q => by cases q⟩⟩
theorem kf_RX12_50 : FlR RX12 50 12 22 := ⟨kC_12, by decide, fun C T N h => by cases h; exact tm5 (i := 41) (by decide +kernel) rfl⟩
theorem kp_RX12_50 : FlK RX12 50 12 22 true := ⟨kC_12, by decide, fun C T N h => by cases h; exact ⟨tm5 (i := 41) (by decide +kernel) rfl, rfl, fun _ => rfl⟩⟩
theorem kf_RX12_53 : FlR RX12 53 12 23 := ⟨kC_12, by decide, fun C T N h => by cases h; exact tm5 (i := 42) (by decide +kernel) rfl⟩
theorem kp_RX12_53 : FlK RX12 53 12 23 true := ⟨kC_12, by decide, fun C T N h => by cases h; exact ⟨tm5 (i := 42) (by decide +kernel) rfl, rfl, fun _ => rfl⟩⟩
theorem kf_RX12_56 : FlR RX12 56 12 24 := ⟨kC_12, by decide, fun C T N h => by cases h; exact tm5 (i := 43) (by decide +kernel) rfl⟩
theorem kp_RX12_56 : FlK RX12 56 12 24 true := ⟨kC_12, by decide, fun C T N h => by cases h; exact ⟨tm5 (i := 43) (by decide +kernel) rfl, rfl, fun _ => rfl⟩⟩
theorem kf_RX12_59 : FlR RX12 59 12 25 := ⟨kC_12, by decide, fun C T N h => by cases h; exact tm5 (i := 44) (by decide +kernel) rfl⟩
theorem kp_RX12_59 : FlK RX12 59 12 25 true := ⟨kC_12, by decide, fun C T N h => by cases h; exact ⟨tm5 (i := 44) (by decide +kernel) rfl, rfl, fun _ => rfl⟩⟩
theorem kf_RX12_63 : FlR RX12 63 12 26 := ⟨kC_12, by decide, fun C T N h => by cases h; exact tm5 (i := 45) (by decide +kernel) rfl⟩
theorem kp_RX12_63 : FlK RX12 63 12 26 true := ⟨kC_12, by decide, fun C T N h => by cases h; exact ⟨tm5 (i := 45) (by decide +kernel) rfl, rfl, fun _ => rfl⟩⟩
theorem kf_RX12_66 : FlR RX12 66 12 27 := ⟨kC_12, by decide, fun C T N h => by cases h; exact tm5 (i := 46) (by decide +kernel) rfl⟩
theorem kp_RX12_66 : FlK RX12 66 12 27 true := ⟨kC_12, by decide, fun C T N h => by cases h; exact ⟨tm5 (i := 46) (by decide +kernel) rfl, rfl, fun _ => rfl⟩⟩
theorem kf_RX12_69 : FlR RX12 69 12 28 := ⟨kC_12, by decide, fun C T N h => by cases h; exact tm5 (i := 47) (by decide +kernel) rfl⟩
theorem kp_RX12_69 : FlK RX12 69 12 28 true := ⟨kC_12, by decide, fun C T N h => by cases h; exact ⟨tm5 (i := 47) (by decide +kernel) rfl, rfl, fun _ => rfl⟩⟩
theorem kf_RX12_246 : FlR RX12 246 12 29 := ⟨kC_12, by decide, fun C T N h => by cases h; exact tm5 (i := 48) (by decide +kernel) rfl⟩
theorem kp_RX12_246 : FlK RX12 246 12 29 false := ⟨kC_12, by decide, fun C T N h => by cases h; exact ⟨tm5 (i := 48) (by decide +kernel) rfl, rfl, fun q => by cases q⟩⟩
theorem kf_RX12_72 : FlR RX12 72 12 30 := ⟨kC_12, by decide, fun C T N h => by cases h; exact tm5 (i := 49) (by decide +kernel) rfl⟩
theorem kp_RX12_72 : FlK RX12 72 12 30 true := ⟨kC_12, by decide, fun C T N h => by cases h; exact ⟨tm5 (i := 49) (by decide +kernel) rfl, rfl, fun _ => rfl⟩⟩
theorem kf_RX12_75 : FlR RX12 75 12 31 := ⟨kC_12, by decide, fun C T N h => by cases h; exact tm5 (i := 50) (by decide +kernel) rfl⟩
theorem kp_RX12_75 : FlK RX12 75 12 31 true := ⟨kC_12, by decide, fun C T N h => by cases h; exact ⟨tm5 (i := 50) (by decide +kernel) rfl, rfl, fun _ => rfl⟩⟩
theorem kf_RX12_78 : FlR RX12 78 12 32 := ⟨kC_12, by decide, fun C T N h => by cases h; exact tm5 (i := 51) (by decide +kernel) rfl⟩
theorem kp_RX12_78 : FlK RX12 78 12 32 true := ⟨kC_12, by decide, fun C T N h => by cases h; exact ⟨tm5 (i := 51) (by decide +kernel) rfl, rfl, fun _ => rfl⟩⟩
theorem kf_RX12_263 : FlR RX12 263 12 33 := ⟨kC_12, by decide, fun C T N h => by cases h; exact tm5 (i := 52) (by decide +kernel) rfl⟩
theorem kp_RX12_263 : FlK RX12 263 12 33 false := ⟨kC_12, by decide, fun C T N h => by cases h; exact ⟨tm5 (i := 52) (by decide +kernel) rfl, rfl, fun q => by cases q⟩⟩
theorem kf_RX12_81 : FlR RX12 81 12 34 := ⟨kC_12, by decide, fun C T N h => by cases h; exact tm5 (i := 53) (by decide +kernel) rfl⟩
theorem kp_RX12_81 : FlK RX12 81 12 34 true := ⟨kC_12, by decide, fun C T N h => by cases h; exact ⟨tm5 (i := 53) (by decide +kernel) rfl, rfl, fun _ => rfl⟩⟩
theorem kf_RX12_84 : FlR RX12 84 12 35 := ⟨kC_12, by decide, fun C T N h => by cases h; exact tm5 (i := 54) (by decide +kernel) rfl⟩
theorem kp_RX12_84 : FlK RX12 84 12 35 true := ⟨kC_12, by decide, fun C T N h => by cases h; exact ⟨tm5 (i := 54) (by decide +kernel) rfl, rfl, fun _ => rfl⟩⟩
theorem kf_RX12_297 : FlR RX12 297 12 36 := ⟨kC_12, by decide, fun C T N h => by cases h; exact tm5 (i := 55) (by decide +kernel) rfl⟩
theorem kp_RX12_297 : FlK RX12 297 12 36 false := ⟨kC_12, by decide, fun C T N h => by cases h; exact ⟨tm5 (i := 55) (by decide +kernel) rfl, rfl, fun q => by cases q⟩⟩
theorem kf_RX12_300 : FlR RX12 300 12 37 := ⟨kC_12, by decide, fun C T N h => by cases h; exact tm5 (i := 56) (by decide +kernel) rfl⟩
theorem kp_RX12_300 : FlK RX12 300 12 37 false := ⟨kC_12, by decide, fun C T N h => by cases h; exact ⟨tm5 (i := 56) (by decide +kernel) rfl, rfl, fun q => by cases q⟩⟩
theorem kf_RX12_87 : FlR RX12 87 12 38 := ⟨kC_12, by decide, fun C T N h => by cases h; exact tm5 (i := 57) (by decide +kernel) rfl⟩
theorem kp_RX12_87 : FlK RX12 87 12 38 true := ⟨kC_12, by decide, fun C T N h => by cases h; exact ⟨tm5 (i := 57) (by decide +kernel) rfl, rfl, fun _ => rfl⟩⟩
theorem kf_RX12_90 : FlR RX12 90 12 39 := ⟨kC_12, by decide, fun C T N h => by cases h; exact tm5 (i := 58) (by decide +kernel) rfl⟩
theorem kp_RX12_90 : FlK RX12 90 12 39 true := ⟨kC_12, by decide, fun C T N h => by cases h; exact ⟨tm5 (i := 58) (by decide +kernel) rfl, rfl, fun _ => rfl⟩⟩
theorem kf_RX12_329 : FlR RX12 329 12 40 := ⟨kC_12, by decide, fun C T N h => by cases h; exact tm5 (i := 59) (by decide +kernel) rfl⟩
theorem kp_RX12_329 : FlK RX12 329 12 40 false := ⟨kC_12, by decide, fun C T N h => by cases h; exact ⟨tm5 (i := 59) (by decide +kernel) rfl, rfl, fun q => by cases q⟩⟩
theorem kf_RX12_332 : FlR RX12 332 12 41 := ⟨kC_12, by decide, fun C T N h => by cases h; exact tm5 (i := 60) (by decide +kernel) rfl⟩
theorem kp_RX12_332 : FlK RX12 332 12 41 false := ⟨kC_12, by decide, fun C T N h => by cases h; exact ⟨tm5 (i := 60) (by decide +kernel) rfl, rfl, fun q => by cases q⟩⟩
theorem kf_RX12_93 : FlR RX12 93 12 42 := ⟨kC_12, by decide, fun C T N h => by cases h; exact tm5 (i := 61) (by decide +kernel) rfl⟩
theorem kp_RX12_93 : FlK RX12 93 12 42 true := ⟨kC_12, by decide, fun C T N h => by cases h; exact ⟨tm5 (i := 61) (by decide +kernel) rfl, rfl, fun _ => rfl⟩⟩
theorem kf_RX12_96 : FlR RX12 96 12 43 := ⟨kC_12, by decide, fun C T N h => by cases h; exact tm5 (i := 62) (by decide +kernel) rfl⟩
theorem kp_RX12_96 : FlK RX12 96 12 43 true := ⟨kC_12, by decide, fun C T N h => by cases h; exact ⟨tm5 (i := 62) (by decide +kernel) rfl, rfl, fun _ => rfl⟩⟩
theorem kf_RX12_99 : FlR RX12 99 12 44 := ⟨kC_12, by decide, fun C T N h => by cases h; exact tm5 (i := 63) (by decide +kernel) rfl⟩
theorem kp_RX12_99 : FlK RX12 99 12 44 true := ⟨kC_12, by decide, fun C T N h => by cases h; exact ⟨tm5 (i := 63) (by decide +kernel) rfl, rfl, fun _ => rfl⟩⟩
theorem kf_RX12_356 : FlR RX12 356 12 45 := ⟨kC_12, by decide, fun C T N h => by cases h; exact tm5 (i := 64) (by decide +kernel) rfl⟩
theorem kp_RX12_356 : FlK RX12 356 12 45 false := ⟨kC_12, by decide, fun C T N h => by cases h; exact ⟨tm5 (i := 64) (by decide +kernel) rfl, rfl, fun q => by cases q⟩⟩
theorem kf_RX12_102 : FlR RX12 102 12 46 := ⟨kC_12, by decide, fun C T N h => by cases h; exact tm5 (i := 65) (by decide +kernel) rfl⟩
theorem kp_RX12_102 : FlK RX12 102 12 46 true := ⟨kC_12, by decide, fun C T N h => by cases h; exact ⟨tm5 (i := 65) (by decide +kernel) rfl, rfl, fun _ => rfl⟩⟩
theorem kf_RX12_371 : FlR RX12 371 12 47 := ⟨kC_12, by decide, fun C T N h => by cases h; exact tm5 (i := 66) (by decide +kernel) rfl⟩
theorem kp_RX12_371 : FlK RX12 371 12 47 false := ⟨kC_12, by decide, fun C T N h => by cases h; exact ⟨tm5 (i := 66) (by decide +kernel) rfl, rfl, fun q => by cases q⟩⟩
theorem kf_RX12_105 : FlR RX12 105 12 48 := ⟨kC_12, by decide, fun C T N h => by cases h; exact tm5 (i := 67) (by decide +kernel) rfl⟩
theorem kp_RX12_105 : FlK RX12 105 12 48 true := ⟨kC_12, by decide, fun C T N h => by cases h; exact ⟨tm5 (i := 67) (by decide +kernel) rfl, rfl, fun _ => rfl⟩⟩
theorem kf_RX12_108 : FlR RX12 108 12 49 := ⟨kC_12, by decide, fun C T N h => by cases h; exact tm5 (i := 68) (by decide +kernel) rfl⟩
theorem kp_RX12_108 : FlK RX12 108 12 49 true := ⟨kC_12, by decide, fun C T N h => by cases h; exact ⟨tm5 (i := 68) (by decide +kernel) rfl, rfl, fun _ => rfl⟩⟩
theorem kf_RX12_111 : FlR RX12 111 12 50 := ⟨kC_12, by decide, fun C T N h => by cases h; exact tm5 (i := 69) (by decide +kernel) rfl⟩
theorem kp_RX12_111 : FlK RX12 111 12 50 true := ⟨kC_12, by decide, fun C T N h => by cases h; exact ⟨tm5 (i := 69) (by decide +kernel) rfl, rfl, fun _ => rfl⟩⟩
theorem kf_RX12_374 : FlR RX12 374 12 51 := ⟨kC_12, by decide, fun C T N h => by cases h; exact tm5 (i := 70) (by decide +kernel) rfl⟩
theorem kp_RX12_374 : FlK RX12 374 12 51 false := ⟨kC_12, by decide, fun C T N h => by cases h; exact ⟨tm5 (i := 70) (by decide +kernel) rfl, rfl, fun q => by cases q⟩⟩
theorem kf_RX12_114 : FlR RX12 114 12 52 := ⟨kC_12, by decide, fun C T N h => by cases h; exact tm5 (i := 71) (by decide +kernel) rfl⟩
theorem kp_RX12_114 : FlK RX12 114 12 52 true := ⟨kC_12, by decide, fun C T N h => by cases h; exact ⟨tm5 (i := 71) (by decide +kernel) rfl, rfl, fun _ => rfl⟩⟩
theorem kf_RX12_377 : FlR RX12 377 12 53 := ⟨kC_12, by decide, fun C T N h => by cases h; exact tm5 (i := 72) (by decide +kernel) rfl⟩
theorem kp_RX12_377 : FlK RX12 377 12 53 false := ⟨kC_12, by decide, fun C T N h => by cases h; exact ⟨tm5 (i := 72) (by decide +kernel) rfl, rfl, fun q => by cases q⟩⟩
theorem kf_RX12_117 : FlR RX12 117 12 54 := ⟨kC_12, by decide, fun C T N h => by cases h; exact tm5 (i := 73) (by decide +kernel) rfl⟩
theorem kp_RX12_117 : FlK RX12 117 12 54 true := ⟨kC_12, by decide, fun C T N h => by cases h; exact ⟨tm5 (i := 73) (by decide +kernel) rfl, rfl, fun _ => rfl⟩⟩
theorem kf_RX12_120 : FlR RX12 120 12 55 := ⟨kC_12, by decide, fun C T N h => by cases h; exact tm5 (i := 74) (by decide +kernel) rfl⟩
theorem kp_RX12_120 : FlK RX12 120 12 55 true := ⟨kC_12, by decide, fun C T N h => by cases h; exact ⟨tm5 (i := 74) (by decide +kernel) rfl, rfl, fun _ => rfl⟩⟩
theorem kf_RX12_123 : FlR RX12 123 12 56 := ⟨kC_12, by decide, fun C T N h => by cases h; exact tm5 (i := 75) (by decide +kernel) rfl⟩
theorem kp_RX12_123 : FlK RX12 123 12 56 true := ⟨kC_12, by decide, fun C T N h => by cases h; exact ⟨tm5 (i := 75) (by decide +kernel) rfl, rfl, fun _ => rfl⟩⟩
theorem kf_RX12_126 : FlR RX12 126 12 57 := ⟨kC_12, by decide, fun C T N h => by cases h; exact tm5 (i := 76) (by decide +kernel) rfl⟩
theorem kp_RX12_126 : FlK RX12 126 12 57 true := ⟨kC_12, by decide, fun C T N h => by cases h; exact ⟨tm5 (i := 76) (by decide +kernel) rfl, rfl, fun _ => rfl⟩⟩
theorem kf_RX12_130 : FlR RX12 130 12 58 := ⟨kC_12, by decide, fun C T N h => by cases h; exact tm5 (i := 77) (by decide +kernel) rfl⟩
theorem kp_RX12_130 : FlK RX12 130 12 58 true := ⟨kC_12, by decide, fun C T N h => by cases h; exact ⟨tm5 (i := 77) (by decide +kernel) rfl, rfl, fun _ => rfl⟩⟩
theorem kk_RX11_173 : Cond.constantLong RX11 173 (9) ∈ gT := tm2 (i := 224) (by decide +kernel) rfl
theorem kk_RX11_187 : Cond.constant RX11 187 (-2000000000) ∈ gT := tm3 (i := 105) (by decide +kernel) rfl
theorem kk_RX11_207 : Cond.constantLong RX11 207 (-9223372036854775808) ∈ gT := tm3 (i := 126) (by decide +kernel) rfl
theorem kk_RX11_226 : Cond.constantLong RX11 226 (12) ∈ gT := tm3 (i := 148) (by decide +kernel) rfl
theorem kk_RX6_18 : Cond.constant RX6 18 (-1000000) ∈ gT := tm3 (i := 181) (by decide +kernel) rfl
theorem kk_RX3_139 : Cond.constant RX3 139 (-1000000) ∈ gT := tm4 (i := 65) (by decide +kernel) rfl
theorem kk_RX12_256 : Cond.constant RX12 256 (-2000000000) ∈ gT := tm6 (i := 102) (by decide +kernel) rfl
theorem kk_RX12_313 : Cond.constantLong RX12 313 (-9223372036854775808) ∈ gT := tm6 (i := 157) (by decide +kernel) rfl
theorem kk_RL_148 : Cond.constantLong RL 148 (4294967295) ∈ gT := tm7 (i := 136) (by decide +kernel) rfl
theorem kn_RL_7 : Cond.classLink RL 7 RX11 ∈ gT ∧ Cond.instantiable RX11 (nF 11) ∈ gT ∧ Cond.initialized RX11 ∈ gT := ⟨tm1 (i := 17) (by decide +kernel) rfl, tm1 (i := 18) (by decide +kernel) rfl, tm1 (i := 1) (by decide +kernel) rfl⟩
theorem kn_RX11_7 : Cond.classLink RX11 7 RX4 ∈ gT ∧ Cond.instantiable RX4 (nF 4) ∈ gT ∧ Cond.initialized RX4 ∈ gT := ⟨tm1 (i := 25) (by decide +kernel) rfl, tm1 (i := 26) (by decide +kernel) rfl, tm1 (i := 2) (by decide +kernel) rfl⟩
theorem kn_RX11_16 : Cond.classLink RX11 16 RX8 ∈ gT ∧ Cond.instantiable RX8 (nF 8) ∈ gT ∧ Cond.initialized RX8 ∈ gT := ⟨tm1 (i := 64) (by decide +kernel) rfl, tm1 (i := 65) (by decide +kernel) rfl, tm1 (i := 3) (by decide +kernel) rfl⟩
theorem kn_RX11_25 : Cond.classLink RX11 25 RX5 ∈ gT ∧ Cond.instantiable RX5 (nF 5) ∈ gT ∧ Cond.initialized RX5 ∈ gT := ⟨tm1 (i := 110) (by decide +kernel) rfl, tm1 (i := 112) (by decide +kernel) rfl, tm1 (i := 4) (by decide +kernel) rfl⟩
theorem kn_RX11_35 : Cond.classLink RX11 35 RX9 ∈ gT ∧ Cond.instantiable RX9 (nF 9) ∈ gT ∧ Cond.initialized RX9 ∈ gT := ⟨tm1 (i := 128) (by decide +kernel) rfl, tm1 (i := 129) (by decide +kernel) rfl, tm1 (i := 5) (by decide +kernel) rfl⟩
theorem kn_RX9_19 : Cond.classLink RX9 19 RX6 ∈ gT ∧ Cond.instantiable RX6 (nF 6) ∈ gT ∧ Cond.initialized RX6 ∈ gT := ⟨tm1 (i := 134) (by decide +kernel) rfl, tm1 (i := 135) (by decide +kernel) rfl, tm1 (i := 6) (by decide +kernel) rfl⟩
theorem kn_RX11_44 : Cond.classLink RX11 44 RX3 ∈ gT ∧ Cond.instantiable RX3 (nF 3) ∈ gT ∧ Cond.initialized RX3 ∈ gT := ⟨tm1 (i := 163) (by decide +kernel) rfl, tm1 (i := 164) (by decide +kernel) rfl, tm1 (i := 7) (by decide +kernel) rfl⟩
theorem kn_RX3_13 : Cond.classLink RX3 13 RX10 ∈ gT ∧ Cond.instantiable RX10 (nF 10) ∈ gT ∧ Cond.initialized RX10 ∈ gT := ⟨tm1 (i := 169) (by decide +kernel) rfl, tm1 (i := 170) (by decide +kernel) rfl, tm1 (i := 8) (by decide +kernel) rfl⟩
theorem kn_RX3_20 : Cond.classLink RX3 20 RX6 ∈ gT ∧ Cond.instantiable RX6 (nF 6) ∈ gT ∧ Cond.initialized RX6 ∈ gT := ⟨tm1 (i := 183) (by decide +kernel) rfl, tm1 (i := 135) (by decide +kernel) rfl, tm1 (i := 6) (by decide +kernel) rfl⟩
theorem kn_RX3_33 : Cond.classLink RX3 33 "[[I" ∈ gT := tm1 (i := 185) (by decide +kernel) rfl
theorem kn_RX11_53 : Cond.classLink RX11 53 RX2 ∈ gT ∧ Cond.instantiable RX2 (nF 2) ∈ gT ∧ Cond.initialized RX2 ∈ gT := ⟨tm1 (i := 232) (by decide +kernel) rfl, tm1 (i := 233) (by decide +kernel) rfl, tm1 (i := 9) (by decide +kernel) rfl⟩
theorem kn_RX2_17 : Cond.classLink RX2 17 RX6 ∈ gT ∧ Cond.instantiable RX6 (nF 6) ∈ gT ∧ Cond.initialized RX6 ∈ gT := ⟨tm1 (i := 238) (by decide +kernel) rfl, tm1 (i := 135) (by decide +kernel) rfl, tm1 (i := 6) (by decide +kernel) rfl⟩
theorem kn_RX2_26 : Cond.classLink RX2 26 "[[I" ∈ gT := tm2 (i := 1) (by decide +kernel) rfl
theorem kn_RX11_60 : Cond.classLink RX11 60 RX1 ∈ gT ∧ Cond.instantiable RX1 (nF 1) ∈ gT ∧ Cond.initialized RX1 ∈ gT := ⟨tm2 (i := 16) (by decide +kernel) rfl, tm2 (i := 17) (by decide +kernel) rfl, tm1 (i := 10) (by decide +kernel) rfl⟩
theorem kn_RX11_67 : Cond.classLink RX11 67 RX0 ∈ gT ∧ Cond.instantiable RX0 (nF 0) ∈ gT ∧ Cond.initialized RX0 ∈ gT := ⟨tm2 (i := 43) (by decide +kernel) rfl, tm2 (i := 44) (by decide +kernel) rfl, tm1 (i := 11) (by decide +kernel) rfl⟩
theorem kn_RX11_74 : Cond.classLink RX11 74 RX7 ∈ gT ∧ Cond.instantiable RX7 (nF 7) ∈ gT ∧ Cond.initialized RX7 ∈ gT := ⟨tm2 (i := 68) (by decide +kernel) rfl, tm2 (i := 70) (by decide +kernel) rfl, tm1 (i := 12) (by decide +kernel) rfl⟩
theorem kn_RL_10 : Cond.classLink RL 10 RX12 ∈ gT ∧ Cond.instantiable RX12 (nF 12) ∈ gT ∧ Cond.initialized RX12 ∈ gT := ⟨tm5 (i := 14) (by decide +kernel) rfl, tm5 (i := 15) (by decide +kernel) rfl, tm1 (i := 13) (by decide +kernel) rfl⟩
theorem ka_int : Cond.arrayClass .int ∈ gT := tm1 (i := 63) (by decide +kernel) rfl
theorem ka_boolean : Cond.arrayClass .boolean ∈ gT := tm1 (i := 109) (by decide +kernel) rfl
theorem ka_long : Cond.arrayClass .long ∈ gT := tm1 (i := 231) (by decide +kernel) rfl
theorem ka_byte : Cond.arrayClass .byte ∈ gT := tm5 (i := 197) (by decide +kernel) rfl
theorem ka_short : Cond.arrayClass .short ∈ gT := tm5 (i := 198) (by decide +kernel) rfl
