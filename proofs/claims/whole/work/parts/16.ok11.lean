set_option maxRecDepth 100000 in
theorem ok_X11_telling : tb_X11_telling.all (mc_okE PM (yX11_telling, cX11_telling, 3, some .int, tb_X11_telling)) = true := by decide +kernel
set_option maxRecDepth 100000 in
theorem ok_X11_act : tb_X11_act.all (mc_okE PM (yX11_act, cX11_act, 4, some .int, tb_X11_act)) = true := by decide +kernel
set_option maxRecDepth 100000 in
theorem ok_X11_count : tb_X11_count.all (mc_okE PM (yX11_count, cX11_count, 2, some .int, tb_X11_count)) = true := by decide +kernel
set_option maxRecDepth 100000 in
theorem ok_X11_isShelf : tb_X11_isShelf.all (mc_okE PM (yX11_isShelf, cX11_isShelf, 1, some .boolean, tb_X11_isShelf)) = true := by decide +kernel
set_option maxRecDepth 100000 in
theorem ok_X11_keep : tb_X11_keep.all (mc_okE PM (yX11_keep, cX11_keep, 3, some .int, tb_X11_keep)) = true := by decide +kernel
set_option maxRecDepth 100000 in
theorem ok_X11_row : tb_X11_row.all (mc_okE PM (yX11_row, cX11_row, 5, some .int, tb_X11_row)) = true := by decide +kernel
set_option maxRecDepth 100000 in
theorem ok_X11_whyNoPlace : tb_X11_whyNoPlace.all (mc_okE PM (yX11_whyNoPlace, cX11_whyNoPlace, 3, some .int, tb_X11_whyNoPlace)) = true := by decide +kernel
set_option maxRecDepth 100000 in
theorem ok_X11_put : tb_X11_put.all (mc_okE PM (yX11_put, cX11_put, 7, some .int, tb_X11_put)) = true := by decide +kernel
set_option maxRecDepth 100000 in
theorem ok_X11_element : tb_X11_element.all (mc_okE PM (yX11_element, cX11_element, 3, some .long, tb_X11_element)) = true := by decide +kernel
set_option maxRecDepth 100000 in
theorem ok_X11_shift : tb_X11_shift.all (mc_okE PM (yX11_shift, cX11_shift, 7, some .int, tb_X11_shift)) = true := by decide +kernel
set_option maxRecDepth 100000 in
theorem ok_X11_taken : tb_X11_taken.all (mc_okE PM (yX11_taken, cX11_taken, 3, some .int, tb_X11_taken)) = true := by decide +kernel
set_option maxRecDepth 100000 in
theorem ok_J9_min_7cf53 : tb_J9_min_7cf53.all (mc_okE PM (yJ9_min_7cf53, cJ9_min_7cf53, 2, some .int, tb_J9_min_7cf53)) = true := by decide +kernel
set_option maxRecDepth 100000 in
theorem ok_J7_fill_d0a16 : tb_J7_fill_d0a16.all (mc_okE PM (yJ7_fill_d0a16, cJ7_fill_d0a16, 5, none, tb_J7_fill_d0a16)) = true := by decide +kernel
set_option maxRecDepth 100000 in
theorem ok_J7_fill_53178 : tb_J7_fill_53178.all (mc_okE PM (yJ7_fill_53178, cJ7_fill_53178, 4, none, tb_J7_fill_53178)) = true := by decide +kernel
set_option maxRecDepth 100000 in
theorem ok_J7_copyOf_c38d5 : tb_J7_copyOf_c38d5.all (mc_okE PM (yJ7_copyOf_c38d5, cJ7_copyOf_c38d5, 3, some (.array .long), tb_J7_copyOf_c38d5)) = true := by decide +kernel
theorem pm_ok_11 : ∀ q ∈ pm_11, q.2.2.2.2.all (mc_okE PM q) = true := List.forall_mem_cons.mpr ⟨ok_X11_telling, List.forall_mem_cons.mpr ⟨ok_X11_act, List.forall_mem_cons.mpr ⟨ok_X11_count, List.forall_mem_cons.mpr ⟨ok_X11_isShelf, List.forall_mem_cons.mpr ⟨ok_X11_keep, List.forall_mem_cons.mpr ⟨ok_X11_row, List.forall_mem_cons.mpr ⟨ok_X11_whyNoPlace, List.forall_mem_cons.mpr ⟨ok_X11_put, List.forall_mem_cons.mpr ⟨ok_X11_element, List.forall_mem_cons.mpr ⟨ok_X11_shift, List.forall_mem_cons.mpr ⟨ok_X11_taken, List.forall_mem_cons.mpr ⟨ok_J9_min_7cf53, List.forall_mem_cons.mpr ⟨ok_J7_fill_d0a16, List.forall_mem_cons.mpr ⟨ok_J7_fill_53178, List.forall_mem_cons.mpr ⟨ok_J7_copyOf_c38d5, fun _ h => absurd h List.not_mem_nil⟩⟩⟩⟩⟩⟩⟩⟩⟩⟩⟩⟩⟩⟩⟩
