def z_tb : List Cond := lw_tbl.filter goodWord
theorem z_in {w : Cond} (i : Nat) (h : tables_1[i]? = some w) (g : goodWord w = true := by rfl) : w ∈ z_tb := List.mem_filter.mpr ⟨List.mem_append_right _ (List.mem_of_getElem? h), g⟩
theorem z_inp {q : MethodName × Nat} (i : Nat) (h : lw_privs[i]? = some q) : Cond.selects q.1.cls q.1 q.1 ∈ z_tb := List.mem_filter.mpr ⟨List.mem_append_left _ (List.mem_map.mpr ⟨q, List.mem_of_getElem? h, rfl⟩), rfl⟩
theorem z_ui {ws : List Cond} (ps : List Nat) (h : ws = ps.filterMap (fun i => tables_1[i]?)) (g : ws.all goodWord = true) : ∀ w ∈ ws, w ∈ z_tb := by
  intro w hw
  have hg := List.all_eq_true.mp g w hw
  rw [h] at hw
  obtain ⟨i, -, hi⟩ := List.mem_filterMap.mp hw
  exact z_in i hi hg
theorem z_u0 : ∀ w ∈ u_ws RX0 TX0 3, w ∈ z_tb := z_ui [138, 140, 142] (by decide +kernel) (by decide +kernel)
theorem z_u1 : ∀ w ∈ u_ws RX1 TX1 2, w ∈ z_tb := z_ui [98, 100] (by decide +kernel) (by decide +kernel)
theorem z_u2 : ∀ w ∈ u_ws RX2 TX2 3, w ∈ z_tb := z_ui [118, 120, 122] (by decide +kernel) (by decide +kernel)
theorem z_u3 : ∀ w ∈ u_ws RX3 TX3 2, w ∈ z_tb := z_ui [30, 32] (by decide +kernel) (by decide +kernel)
theorem z_u4 : ∀ w ∈ u_ws RX4 TX4 11, w ∈ z_tb := z_ui [67, 69, 71, 73, 75, 77, 79, 81, 83, 85, 87] (by decide +kernel) (by decide +kernel)
theorem z_u5 : ∀ w ∈ u_ws RX5 TX5 3, w ∈ z_tb := z_ui [155, 157, 159] (by decide +kernel) (by decide +kernel)
theorem z_u6 : ∀ w ∈ u_ws RX6 TX6 12, w ∈ z_tb := z_ui [175, 177, 179, 181, 183, 185, 187, 189, 191, 193, 195, 197] (by decide +kernel) (by decide +kernel)
theorem z_u7 : ∀ w ∈ u_ws RX7 TX7 32, w ∈ z_tb := z_ui [596, 598, 600, 602, 604, 606, 608, 610, 612, 614, 616, 618, 620, 622, 624, 626, 628, 630, 632, 634, 636, 638, 640, 642, 644, 646, 648, 650, 652, 654, 656, 658] (by decide +kernel) (by decide +kernel)
