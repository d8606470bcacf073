set_option maxRecDepth 100000
theorem tt_1 {w : Cond} (h : w ∈ tables_1_1) : w ∈ lw_tbl := List.mem_append_right _ (List.mem_append_left _ h)
theorem tt_2 {w : Cond} (h : w ∈ tables_1_2) : w ∈ lw_tbl := List.mem_append_right _ (List.mem_append_right _ (List.mem_append_left _ h))
theorem tt_3 {w : Cond} (h : w ∈ tables_1_3) : w ∈ lw_tbl := List.mem_append_right _ (List.mem_append_right _ (List.mem_append_right _ (List.mem_append_left _ h)))
theorem tt_4 {w : Cond} (h : w ∈ tables_1_4) : w ∈ lw_tbl := List.mem_append_right _ (List.mem_append_right _ (List.mem_append_right _ (List.mem_append_right _ (List.mem_append_left _ h))))
theorem tt_5 {w : Cond} (h : w ∈ tables_1_5) : w ∈ lw_tbl := List.mem_append_right _ (List.mem_append_right _ (List.mem_append_right _ (List.mem_append_right _ (List.mem_append_right _ (List.mem_append_left _ h)))))
theorem tt_6 {w : Cond} (h : w ∈ tables_1_6) : w ∈ lw_tbl := List.mem_append_right _ (List.mem_append_right _ (List.mem_append_right _ (List.mem_append_right _ (List.mem_append_right _ (List.mem_append_right _ (List.mem_append_left _ h))))))
theorem tt_7 {w : Cond} (h : w ∈ tables_1_7) : w ∈ lw_tbl := List.mem_append_right _ (List.mem_append_right _ (List.mem_append_right _ (List.mem_append_right _ (List.mem_append_right _ (List.mem_append_right _ (List.mem_append_right _ h))))))
theorem inX0 : ∀ w ∈ u_ws RX0 TX0 3, w ∈ x_tb := fun w hw => by
  obtain ⟨k, hk, rfl⟩ := List.mem_map.mp hw
  have h : (List.range 3).all (fun k => decide (lw_tbl[([176, 178, 180] : List Nat).getD k 0]? = some (u_lay RX0 TX0 k)) && goodWord (u_lay RX0 TX0 k)) = true := by decide +kernel
  have h1 := List.all_eq_true.mp h k hk
  simp only [Bool.and_eq_true, decide_eq_true_eq] at h1
  exact x_tbm (List.mem_of_getElem? h1.1) h1.2
theorem inX1 : ∀ w ∈ u_ws RX1 TX1 14, w ∈ x_tb := fun w hw => by
  obtain ⟨k, hk, rfl⟩ := List.mem_map.mp hw
  have h : (List.range 14).all (fun k => decide (lw_tbl[([222, 224, 226, 228, 230, 232, 234, 236, 238, 240, 242, 244, 246, 248] : List Nat).getD k 0]? = some (u_lay RX1 TX1 k)) && goodWord (u_lay RX1 TX1 k)) = true := by decide +kernel
  have h1 := List.all_eq_true.mp h k hk
  simp only [Bool.and_eq_true, decide_eq_true_eq] at h1
  exact x_tbm (List.mem_of_getElem? h1.1) h1.2
theorem inX2 : ∀ w ∈ u_ws RX2 TX2 9, w ∈ x_tb := fun w hw => by
  obtain ⟨k, hk, rfl⟩ := List.mem_map.mp hw
  have h : (List.range 9).all (fun k => decide (lw_tbl[([269, 271, 273, 275, 277, 279, 281, 283, 285] : List Nat).getD k 0]? = some (u_lay RX2 TX2 k)) && goodWord (u_lay RX2 TX2 k)) = true := by decide +kernel
  have h1 := List.all_eq_true.mp h k hk
  simp only [Bool.and_eq_true, decide_eq_true_eq] at h1
  exact x_tbm (List.mem_of_getElem? h1.1) h1.2
theorem inX3 : ∀ w ∈ u_ws RX3 TX3 2, w ∈ x_tb := fun w hw => by
  obtain ⟨k, hk, rfl⟩ := List.mem_map.mp hw
  have h : (List.range 2).all (fun k => decide (lw_tbl[([150, 152] : List Nat).getD k 0]? = some (u_lay RX3 TX3 k)) && goodWord (u_lay RX3 TX3 k)) = true := by decide +kernel
  have h1 := List.all_eq_true.mp h k hk
  simp only [Bool.and_eq_true, decide_eq_true_eq] at h1
  exact x_tbm (List.mem_of_getElem? h1.1) h1.2
theorem inX4 : ∀ w ∈ u_ws RX4 TX4 7, w ∈ x_tb := fun w hw => by
  obtain ⟨k, hk, rfl⟩ := List.mem_map.mp hw
  have h : (List.range 7).all (fun k => decide (lw_tbl[([190, 192, 194, 196, 198, 200, 202] : List Nat).getD k 0]? = some (u_lay RX4 TX4 k)) && goodWord (u_lay RX4 TX4 k)) = true := by decide +kernel
  have h1 := List.all_eq_true.mp h k hk
  simp only [Bool.and_eq_true, decide_eq_true_eq] at h1
  exact x_tbm (List.mem_of_getElem? h1.1) h1.2
theorem inX5 : ∀ w ∈ u_ws RX5 TX5 17, w ∈ x_tb := fun w hw => by
  obtain ⟨k, hk, rfl⟩ := List.mem_map.mp hw
  have h : (List.range 17).all (fun k => decide (lw_tbl[([720, 722, 724, 726, 728, 730, 732, 734, 736, 738, 740, 742, 744, 746, 748, 750, 752] : List Nat).getD k 0]? = some (u_lay RX5 TX5 k)) && goodWord (u_lay RX5 TX5 k)) = true := by decide +kernel
  have h1 := List.all_eq_true.mp h k hk
  simp only [Bool.and_eq_true, decide_eq_true_eq] at h1
  exact x_tbm (List.mem_of_getElem? h1.1) h1.2
theorem inX6 : ∀ w ∈ u_ws RX6 TX6 5, w ∈ x_tb := fun w hw => by
  obtain ⟨k, hk, rfl⟩ := List.mem_map.mp hw
  have h : (List.range 5).all (fun k => decide (lw_tbl[([692, 694, 696, 698, 700] : List Nat).getD k 0]? = some (u_lay RX6 TX6 k)) && goodWord (u_lay RX6 TX6 k)) = true := by decide +kernel
  have h1 := List.all_eq_true.mp h k hk
  simp only [Bool.and_eq_true, decide_eq_true_eq] at h1
  exact x_tbm (List.mem_of_getElem? h1.1) h1.2
theorem inX7 : ∀ w ∈ u_ws RX7 TX7 7, w ∈ x_tb := fun w hw => by
  obtain ⟨k, hk, rfl⟩ := List.mem_map.mp hw
  have h : (List.range 7).all (fun k => decide (lw_tbl[([308, 310, 312, 314, 316, 318, 320] : List Nat).getD k 0]? = some (u_lay RX7 TX7 k)) && goodWord (u_lay RX7 TX7 k)) = true := by decide +kernel
  have h1 := List.all_eq_true.mp h k hk
  simp only [Bool.and_eq_true, decide_eq_true_eq] at h1
  exact x_tbm (List.mem_of_getElem? h1.1) h1.2
theorem inX8 : ∀ w ∈ u_ws RX8 TX8 6, w ∈ x_tb := fun w hw => by
  obtain ⟨k, hk, rfl⟩ := List.mem_map.mp hw
  have h : (List.range 6).all (fun k => decide (lw_tbl[([135, 137, 139, 141, 143, 145] : List Nat).getD k 0]? = some (u_lay RX8 TX8 k)) && goodWord (u_lay RX8 TX8 k)) = true := by decide +kernel
  have h1 := List.all_eq_true.mp h k hk
  simp only [Bool.and_eq_true, decide_eq_true_eq] at h1
  exact x_tbm (List.mem_of_getElem? h1.1) h1.2
theorem inX9 : ∀ w ∈ u_ws RX9 TX9 2, w ∈ x_tb := fun w hw => by
  obtain ⟨k, hk, rfl⟩ := List.mem_map.mp hw
  have h : (List.range 2).all (fun k => decide (lw_tbl[([110, 112] : List Nat).getD k 0]? = some (u_lay RX9 TX9 k)) && goodWord (u_lay RX9 TX9 k)) = true := by decide +kernel
  have h1 := List.all_eq_true.mp h k hk
  simp only [Bool.and_eq_true, decide_eq_true_eq] at h1
  exact x_tbm (List.mem_of_getElem? h1.1) h1.2
theorem inX10 : ∀ w ∈ u_ws RX10 TX10 2, w ∈ x_tb := fun w hw => by
  obtain ⟨k, hk, rfl⟩ := List.mem_map.mp hw
  have h : (List.range 2).all (fun k => decide (lw_tbl[([330, 332] : List Nat).getD k 0]? = some (u_lay RX10 TX10 k)) && goodWord (u_lay RX10 TX10 k)) = true := by decide +kernel
  have h1 := List.all_eq_true.mp h k hk
  simp only [Bool.and_eq_true, decide_eq_true_eq] at h1
  exact x_tbm (List.mem_of_getElem? h1.1) h1.2
theorem inX11 : ∀ w ∈ u_ws RX11 TX11 8, w ∈ x_tb := fun w hw => by
  obtain ⟨k, hk, rfl⟩ := List.mem_map.mp hw
  have h : (List.range 8).all (fun k => decide (lw_tbl[([344, 346, 348, 350, 352, 354, 356, 358] : List Nat).getD k 0]? = some (u_lay RX11 TX11 k)) && goodWord (u_lay RX11 TX11 k)) = true := by decide +kernel
  have h1 := List.all_eq_true.mp h k hk
  simp only [Bool.and_eq_true, decide_eq_true_eq] at h1
  exact x_tbm (List.mem_of_getElem? h1.1) h1.2
theorem inX12 : ∀ w ∈ u_ws RX12 TX12 53, w ∈ x_tb := fun w hw => by
  obtain ⟨k, hk, rfl⟩ := List.mem_map.mp hw
  have h : (List.range 53).all (fun k => decide (lw_tbl[([1204, 1206, 1208, 1210, 1212, 1214, 1216, 1218, 1220, 1222, 1224, 1226, 1228, 1230, 1232, 1234, 1236, 1238, 1240, 1242, 1244, 1246, 1248, 1250, 1252, 1254, 1256, 1258, 1260, 1262, 1264, 1266, 1268, 1270, 1272, 1274, 1276, 1278, 1280, 1282, 1284, 1286, 1288, 1290, 1292, 1294, 1296, 1298, 1300, 1302, 1304, 1306, 1308] : List Nat).getD k 0]? = some (u_lay RX12 TX12 k)) && goodWord (u_lay RX12 TX12 k)) = true := by decide +kernel
  have h1 := List.all_eq_true.mp h k hk
  simp only [Bool.and_eq_true, decide_eq_true_eq] at h1
  exact x_tbm (List.mem_of_getElem? h1.1) h1.2
abbrev mX11_init : x_M := (RX11, cX11_init, 2, none, true, 0, fun _ => 0)
theorem lb_X11_init : x_lkB yX11_init cX11_init 2 none 0 := ⟨(x_tbm (tt_1 (List.mem_of_getElem? (i := 22) rfl)) rfl), (x_tbm (tt_1 (List.mem_of_getElem? (i := 1) rfl)) rfl), by decide +kernel, by decide +kernel, by decide +kernel⟩
theorem li_X11_init : Cond.instanceMethod yX11_init ∈ x_tb := (x_tbm (tt_1 (List.mem_of_getElem? (i := 21) rfl)) rfl)
abbrev mX9_init : x_M := (RX9, cX9_init, 1, none, true, 0, fun _ => 0)
theorem lb_X9_init : x_lkB yX9_init cX9_init 1 none 0 := ⟨(x_tbm (tt_1 (List.mem_of_getElem? (i := 30) rfl)) rfl), (x_tbm (tt_1 (List.mem_of_getElem? (i := 2) rfl)) rfl), by decide +kernel, by decide +kernel, by decide +kernel⟩
theorem li_X9_init : Cond.instanceMethod yX9_init ∈ x_tb := (x_tbm (tt_1 (List.mem_of_getElem? (i := 29) rfl)) rfl)
abbrev mX3_init : x_M := (RX3, cX3_init, 2, none, true, 0, fun _ => 0)
theorem lb_X3_init : x_lkB yX3_init cX3_init 2 none 0 := ⟨(x_tbm (tt_1 (List.mem_of_getElem? (i := 44) rfl)) rfl), (x_tbm (tt_1 (List.mem_of_getElem? (i := 3) rfl)) rfl), by decide +kernel, by decide +kernel, by decide +kernel⟩
theorem li_X3_init : Cond.instanceMethod yX3_init ∈ x_tb := (x_tbm (tt_1 (List.mem_of_getElem? (i := 43) rfl)) rfl)
abbrev mX8_init : x_M := (RX8, cX8_init, 1, none, true, 0, fun _ => 0)
theorem lb_X8_init : x_lkB yX8_init cX8_init 1 none 0 := ⟨(x_tbm (tt_1 (List.mem_of_getElem? (i := 51) rfl)) rfl), (x_tbm (tt_1 (List.mem_of_getElem? (i := 4) rfl)) rfl), by decide +kernel, by decide +kernel, by decide +kernel⟩
theorem li_X8_init : Cond.instanceMethod yX8_init ∈ x_tb := (x_tbm (tt_1 (List.mem_of_getElem? (i := 50) rfl)) rfl)
abbrev mX1_init : x_M := (RX1, cX1_init, 1, none, true, 0, fun _ => 0)
theorem lb_X1_init : x_lkB yX1_init cX1_init 1 none 0 := ⟨(x_tbm (tt_1 (List.mem_of_getElem? (i := 83) rfl)) rfl), (x_tbm (tt_1 (List.mem_of_getElem? (i := 5) rfl)) rfl), by decide +kernel, by decide +kernel, by decide +kernel⟩
theorem li_X1_init : Cond.instanceMethod yX1_init ∈ x_tb := (x_tbm (tt_1 (List.mem_of_getElem? (i := 82) rfl)) rfl)
abbrev mX4_init : x_M := (RX4, cX4_init, 1, none, true, 0, fun _ => 0)
theorem lb_X4_init : x_lkB yX4_init cX4_init 1 none 0 := ⟨(x_tbm (tt_1 (List.mem_of_getElem? (i := 89) rfl)) rfl), (x_tbm (tt_1 (List.mem_of_getElem? (i := 6) rfl)) rfl), by decide +kernel, by decide +kernel, by decide +kernel⟩
theorem li_X4_init : Cond.instanceMethod yX4_init ∈ x_tb := (x_tbm (tt_1 (List.mem_of_getElem? (i := 88) rfl)) rfl)
abbrev mX0_init : x_M := (RX0, cX0_init, 1, none, true, 0, fun _ => 0)
theorem lb_X0_init : x_lkB yX0_init cX0_init 1 none 0 := ⟨(x_tbm (tt_1 (List.mem_of_getElem? (i := 95) rfl)) rfl), (x_tbm (tt_1 (List.mem_of_getElem? (i := 7) rfl)) rfl), by decide +kernel, by decide +kernel, by decide +kernel⟩
theorem li_X0_init : Cond.instanceMethod yX0_init ∈ x_tb := (x_tbm (tt_1 (List.mem_of_getElem? (i := 94) rfl)) rfl)
abbrev mJ7_fill_53178 : x_M := (RJ7, cJ7_fill_53178, 4, none, false, 0, fun _ => 0)
theorem lb_J7_fill_53178 : x_lkB yJ7_fill_53178 cJ7_fill_53178 4 none 2 := ⟨(x_tbm (tt_1 (List.mem_of_getElem? (i := 131) rfl)) rfl), (x_tbm (tt_1 (List.mem_of_getElem? (i := 8) rfl)) rfl), by decide +kernel, by decide +kernel, by decide +kernel⟩
theorem ls_J7_fill_53178 : Cond.static yJ7_fill_53178 ∈ x_tb := (x_tbm (tt_1 (List.mem_of_getElem? (i := 130) rfl)) rfl)
abbrev mX2_init : x_M := (RX2, cX2_init, 1, none, true, 0, fun _ => 0)
theorem lb_X2_init : x_lkB yX2_init cX2_init 1 none 0 := ⟨(x_tbm (tt_1 (List.mem_of_getElem? (i := 180) rfl)) rfl), (x_tbm (tt_1 (List.mem_of_getElem? (i := 9) rfl)) rfl), by decide +kernel, by decide +kernel, by decide +kernel⟩
theorem li_X2_init : Cond.instanceMethod yX2_init ∈ x_tb := (x_tbm (tt_1 (List.mem_of_getElem? (i := 179) rfl)) rfl)
abbrev mX7_init : x_M := (RX7, cX7_init, 1, none, true, 0, fun _ => 0)
theorem lb_X7_init : x_lkB yX7_init cX7_init 1 none 0 := ⟨(x_tbm (tt_1 (List.mem_of_getElem? (i := 222) rfl)) rfl), (x_tbm (tt_1 (List.mem_of_getElem? (i := 10) rfl)) rfl), by decide +kernel, by decide +kernel, by decide +kernel⟩
theorem li_X7_init : Cond.instanceMethod yX7_init ∈ x_tb := (x_tbm (tt_1 (List.mem_of_getElem? (i := 221) rfl)) rfl)
abbrev mX10_init : x_M := (RX10, cX10_init, 1, none, true, 0, fun _ => 0)
theorem lb_X10_init : x_lkB yX10_init cX10_init 1 none 0 := ⟨(x_tbm (tt_2 (List.mem_of_getElem? (i := 10) rfl)) rfl), (x_tbm (tt_1 (List.mem_of_getElem? (i := 11) rfl)) rfl), by decide +kernel, by decide +kernel, by decide +kernel⟩
theorem li_X10_init : Cond.instanceMethod yX10_init ∈ x_tb := (x_tbm (tt_2 (List.mem_of_getElem? (i := 9) rfl)) rfl)
abbrev mX11_write : x_M := (RX11, cX11_write, 5, (some .int), false, 0, fun _ => 0)
theorem lb_X11_write : x_lkB yX11_write cX11_write 5 (some .int) 2 := ⟨(x_tbm (tt_2 (List.mem_of_getElem? (i := 48) rfl)) rfl), (x_tbm (tt_1 (List.mem_of_getElem? (i := 1) rfl)) rfl), by decide +kernel, by decide +kernel, by decide +kernel⟩
theorem li_X11_write : Cond.instanceMethod yX11_write ∈ x_tb := (x_tbm (tt_2 (List.mem_of_getElem? (i := 46) rfl)) rfl)
theorem lv_X11_write : Cond.selects yX11_write.cls yX11_write yX11_write ∈ x_tb := (x_tbm (tt_2 (List.mem_of_getElem? (i := 47) rfl)) rfl)
abbrev mX9_hasRoomFor : x_M := (RX9, cX9_hasRoomFor, 2, (some .boolean), false, 0, fun _ => 0)
theorem lb_X9_hasRoomFor : x_lkB yX9_hasRoomFor cX9_hasRoomFor 2 (some .boolean) 1 := ⟨(x_tbm (tt_2 (List.mem_of_getElem? (i := 52) rfl)) rfl), (x_tbm (tt_1 (List.mem_of_getElem? (i := 2) rfl)) rfl), by decide +kernel, by decide +kernel, by decide +kernel⟩
theorem li_X9_hasRoomFor : Cond.instanceMethod yX9_hasRoomFor ∈ x_tb := (x_tbm (tt_2 (List.mem_of_getElem? (i := 50) rfl)) rfl)
theorem lv_X9_hasRoomFor : Cond.selects yX9_hasRoomFor.cls yX9_hasRoomFor yX9_hasRoomFor ∈ x_tb := (x_tbm (tt_2 (List.mem_of_getElem? (i := 51) rfl)) rfl)
abbrev mX9_add : x_M := (RX9, cX9_add, 2, none, false, 0, fun _ => 0)
theorem lb_X9_add : x_lkB yX9_add cX9_add 2 none 1 := ⟨(x_tbm (tt_2 (List.mem_of_getElem? (i := 57) rfl)) rfl), (x_tbm (tt_1 (List.mem_of_getElem? (i := 2) rfl)) rfl), by decide +kernel, by decide +kernel, by decide +kernel⟩
theorem li_X9_add : Cond.instanceMethod yX9_add ∈ x_tb := (x_tbm (tt_2 (List.mem_of_getElem? (i := 55) rfl)) rfl)
theorem lv_X9_add : Cond.selects yX9_add.cls yX9_add yX9_add ∈ x_tb := (x_tbm (tt_2 (List.mem_of_getElem? (i := 56) rfl)) rfl)
abbrev mX9_length : x_M := (RX9, cX9_length, 1, (some .int), false, 0, fun _ => 0)
theorem lb_X9_length : x_lkB yX9_length cX9_length 1 (some .int) 0 := ⟨(x_tbm (tt_2 (List.mem_of_getElem? (i := 61) rfl)) rfl), (x_tbm (tt_1 (List.mem_of_getElem? (i := 2) rfl)) rfl), by decide +kernel, by decide +kernel, by decide +kernel⟩
theorem li_X9_length : Cond.instanceMethod yX9_length ∈ x_tb := (x_tbm (tt_2 (List.mem_of_getElem? (i := 59) rfl)) rfl)
theorem lv_X9_length : Cond.selects yX9_length.cls yX9_length yX9_length ∈ x_tb := (x_tbm (tt_2 (List.mem_of_getElem? (i := 60) rfl)) rfl)
abbrev mX11_erase : x_M := (RX11, cX11_erase, 2, (some .int), false, 0, fun _ => 0)
theorem lb_X11_erase : x_lkB yX11_erase cX11_erase 2 (some .int) 0 := ⟨(x_tbm (tt_2 (List.mem_of_getElem? (i := 65) rfl)) rfl), (x_tbm (tt_1 (List.mem_of_getElem? (i := 1) rfl)) rfl), by decide +kernel, by decide +kernel, by decide +kernel⟩
theorem li_X11_erase : Cond.instanceMethod yX11_erase ∈ x_tb := (x_tbm (tt_2 (List.mem_of_getElem? (i := 63) rfl)) rfl)
theorem lv_X11_erase : Cond.selects yX11_erase.cls yX11_erase yX11_erase ∈ x_tb := (x_tbm (tt_2 (List.mem_of_getElem? (i := 64) rfl)) rfl)
abbrev mX9_empty : x_M := (RX9, cX9_empty, 1, none, false, 0, fun _ => 0)
theorem lb_X9_empty : x_lkB yX9_empty cX9_empty 1 none 0 := ⟨(x_tbm (tt_2 (List.mem_of_getElem? (i := 69) rfl)) rfl), (x_tbm (tt_1 (List.mem_of_getElem? (i := 2) rfl)) rfl), by decide +kernel, by decide +kernel, by decide +kernel⟩
theorem li_X9_empty : Cond.instanceMethod yX9_empty ∈ x_tb := (x_tbm (tt_2 (List.mem_of_getElem? (i := 67) rfl)) rfl)
theorem lv_X9_empty : Cond.selects yX9_empty.cls yX9_empty yX9_empty ∈ x_tb := (x_tbm (tt_2 (List.mem_of_getElem? (i := 68) rfl)) rfl)
abbrev mX11_fault : x_M := (RX11, cX11_fault, 1, (some .int), false, 0, fun _ => 0)
theorem lb_X11_fault : x_lkB yX11_fault cX11_fault 1 (some .int) 0 := ⟨(x_tbm (tt_2 (List.mem_of_getElem? (i := 73) rfl)) rfl), (x_tbm (tt_1 (List.mem_of_getElem? (i := 1) rfl)) rfl), by decide +kernel, by decide +kernel, by decide +kernel⟩
theorem li_X11_fault : Cond.instanceMethod yX11_fault ∈ x_tb := (x_tbm (tt_2 (List.mem_of_getElem? (i := 71) rfl)) rfl)
theorem lv_X11_fault : Cond.selects yX11_fault.cls yX11_fault yX11_fault ∈ x_tb := (x_tbm (tt_2 (List.mem_of_getElem? (i := 72) rfl)) rfl)
abbrev mX9_firstFault : x_M := (RX9, cX9_firstFault, 6, (some .int), false, 0, fun _ => 0)
theorem lb_X9_firstFault : x_lkB yX9_firstFault cX9_firstFault 6 (some .int) 0 := ⟨(x_tbm (tt_2 (List.mem_of_getElem? (i := 77) rfl)) rfl), (x_tbm (tt_1 (List.mem_of_getElem? (i := 2) rfl)) rfl), by decide +kernel, by decide +kernel, by decide +kernel⟩
theorem li_X9_firstFault : Cond.instanceMethod yX9_firstFault ∈ x_tb := (x_tbm (tt_2 (List.mem_of_getElem? (i := 75) rfl)) rfl)
theorem lv_X9_firstFault : Cond.selects yX9_firstFault.cls yX9_firstFault yX9_firstFault ∈ x_tb := (x_tbm (tt_2 (List.mem_of_getElem? (i := 76) rfl)) rfl)
abbrev mX9_itemOf : x_M := (RX9, cX9_itemOf, 1, (some .int), false, 0, fun _ => 0)
theorem lb_X9_itemOf : x_lkB yX9_itemOf cX9_itemOf 1 (some .int) 1 := ⟨(x_tbm (tt_2 (List.mem_of_getElem? (i := 80) rfl)) rfl), (x_tbm (tt_1 (List.mem_of_getElem? (i := 2) rfl)) rfl), by decide +kernel, by decide +kernel, by decide +kernel⟩
theorem ls_X9_itemOf : Cond.static yX9_itemOf ∈ x_tb := (x_tbm (tt_2 (List.mem_of_getElem? (i := 79) rfl)) rfl)
abbrev mX11_take : x_M := (RX11, cX11_take, 1, (some .int), false, 0, fun _ => 0)
theorem lb_X11_take : x_lkB yX11_take cX11_take 1 (some .int) 0 := ⟨(x_tbm (tt_2 (List.mem_of_getElem? (i := 84) rfl)) rfl), (x_tbm (tt_1 (List.mem_of_getElem? (i := 1) rfl)) rfl), by decide +kernel, by decide +kernel, by decide +kernel⟩
theorem li_X11_take : Cond.instanceMethod yX11_take ∈ x_tb := (x_tbm (tt_2 (List.mem_of_getElem? (i := 82) rfl)) rfl)
theorem lv_X11_take : Cond.selects yX11_take.cls yX11_take yX11_take ∈ x_tb := (x_tbm (tt_2 (List.mem_of_getElem? (i := 83) rfl)) rfl)
abbrev mX9_tellEquations : x_M := (RX9, cX9_tellEquations, 5, none, false, 0, fun _ => 0)
theorem lb_X9_tellEquations : x_lkB yX9_tellEquations cX9_tellEquations 5 none 1 := ⟨(x_tbm (tt_2 (List.mem_of_getElem? (i := 88) rfl)) rfl), (x_tbm (tt_1 (List.mem_of_getElem? (i := 2) rfl)) rfl), by decide +kernel, by decide +kernel, by decide +kernel⟩
theorem li_X9_tellEquations : Cond.instanceMethod yX9_tellEquations ∈ x_tb := (x_tbm (tt_2 (List.mem_of_getElem? (i := 86) rfl)) rfl)
theorem lv_X9_tellEquations : Cond.selects yX9_tellEquations.cls yX9_tellEquations yX9_tellEquations ∈ x_tb := (x_tbm (tt_2 (List.mem_of_getElem? (i := 87) rfl)) rfl)
abbrev mX3_begin : x_M := (RX3, cX3_begin, 1, none, false, 0, fun _ => 0)
theorem lb_X3_begin : x_lkB yX3_begin cX3_begin 1 none 0 := ⟨(x_tbm (tt_2 (List.mem_of_getElem? (i := 92) rfl)) rfl), (x_tbm (tt_1 (List.mem_of_getElem? (i := 3) rfl)) rfl), by decide +kernel, by decide +kernel, by decide +kernel⟩
theorem li_X3_begin : Cond.instanceMethod yX3_begin ∈ x_tb := (x_tbm (tt_2 (List.mem_of_getElem? (i := 90) rfl)) rfl)
theorem lv_X3_begin : Cond.selects yX3_begin.cls yX3_begin yX3_begin ∈ x_tb := (x_tbm (tt_2 (List.mem_of_getElem? (i := 91) rfl)) rfl)
abbrev mX3_beginNext : x_M := (RX3, cX3_beginNext, 1, none, false, 0, fun _ => 0)
theorem lb_X3_beginNext : x_lkB yX3_beginNext cX3_beginNext 1 none 0 := ⟨(x_tbm (tt_2 (List.mem_of_getElem? (i := 96) rfl)) rfl), (x_tbm (tt_1 (List.mem_of_getElem? (i := 3) rfl)) rfl), by decide +kernel, by decide +kernel, by decide +kernel⟩
theorem li_X3_beginNext : Cond.instanceMethod yX3_beginNext ∈ x_tb := (x_tbm (tt_2 (List.mem_of_getElem? (i := 94) rfl)) rfl)
theorem lv_X3_beginNext : Cond.selects yX3_beginNext.cls yX3_beginNext yX3_beginNext ∈ x_tb := (x_tbm (tt_2 (List.mem_of_getElem? (i := 95) rfl)) rfl)
abbrev mX3_last : x_M := (RX3, cX3_last, 2, (some (.object "TwoSides$Side")), false, 0, fun _ => 0)
theorem lb_X3_last : x_lkB yX3_last cX3_last 2 (some (.object "TwoSides$Side")) 1 := ⟨(x_tbm (tt_2 (List.mem_of_getElem? (i := 100) rfl)) rfl), (x_tbm (tt_1 (List.mem_of_getElem? (i := 3) rfl)) rfl), by decide +kernel, by decide +kernel, by decide +kernel⟩
theorem li_X3_last : Cond.instanceMethod yX3_last ∈ x_tb := (x_tbm (tt_2 (List.mem_of_getElem? (i := 98) rfl)) rfl)
theorem lv_X3_last : Cond.selects yX3_last.cls yX3_last yX3_last ∈ x_tb := (x_tbm (tt_2 (List.mem_of_getElem? (i := 99) rfl)) rfl)
abbrev mX3_side : x_M := (RX3, cX3_side, 4, (some (.object "TwoSides$Side")), false, 0, fun _ => 0)
theorem lb_X3_side : x_lkB yX3_side cX3_side 4 (some (.object "TwoSides$Side")) 2 := ⟨(x_tbm (tt_2 (List.mem_of_getElem? (i := 104) rfl)) rfl), (x_tbm (tt_1 (List.mem_of_getElem? (i := 3) rfl)) rfl), by decide +kernel, by decide +kernel, by decide +kernel⟩
theorem li_X3_side : Cond.instanceMethod yX3_side ∈ x_tb := (x_tbm (tt_2 (List.mem_of_getElem? (i := 102) rfl)) rfl)
theorem lv_X3_side : Cond.selects yX3_side.cls yX3_side yX3_side ∈ x_tb := (x_tbm (tt_2 (List.mem_of_getElem? (i := 103) rfl)) rfl)
abbrev mX8_empty : x_M := (RX8, cX8_empty, 1, none, false, 0, fun _ => 0)
theorem lb_X8_empty : x_lkB yX8_empty cX8_empty 1 none 0 := ⟨(x_tbm (tt_2 (List.mem_of_getElem? (i := 108) rfl)) rfl), (x_tbm (tt_1 (List.mem_of_getElem? (i := 4) rfl)) rfl), by decide +kernel, by decide +kernel, by decide +kernel⟩
theorem li_X8_empty : Cond.instanceMethod yX8_empty ∈ x_tb := (x_tbm (tt_2 (List.mem_of_getElem? (i := 106) rfl)) rfl)
theorem lv_X8_empty : Cond.selects yX8_empty.cls yX8_empty yX8_empty ∈ x_tb := (x_tbm (tt_2 (List.mem_of_getElem? (i := 107) rfl)) rfl)
abbrev mX8_add : x_M := (RX8, cX8_add, 2, none, false, 0, fun _ => 0)
theorem lb_X8_add : x_lkB yX8_add cX8_add 2 none 1 := ⟨(x_tbm (tt_2 (List.mem_of_getElem? (i := 115) rfl)) rfl), (x_tbm (tt_1 (List.mem_of_getElem? (i := 4) rfl)) rfl), by decide +kernel, by decide +kernel, by decide +kernel⟩
theorem li_X8_add : Cond.instanceMethod yX8_add ∈ x_tb := (x_tbm (tt_2 (List.mem_of_getElem? (i := 113) rfl)) rfl)
theorem lv_X8_add : Cond.selects yX8_add.cls yX8_add yX8_add ∈ x_tb := (x_tbm (tt_2 (List.mem_of_getElem? (i := 114) rfl)) rfl)
abbrev mX11_isUnknown : x_M := (RX11, cX11_isUnknown, 1, (some .boolean), false, 0, fun _ => 0)
theorem lb_X11_isUnknown : x_lkB yX11_isUnknown cX11_isUnknown 1 (some .boolean) 1 := ⟨(x_tbm (tt_2 (List.mem_of_getElem? (i := 118) rfl)) rfl), (x_tbm (tt_1 (List.mem_of_getElem? (i := 1) rfl)) rfl), by decide +kernel, by decide +kernel, by decide +kernel⟩
theorem ls_X11_isUnknown : Cond.static yX11_isUnknown ∈ x_tb := (x_tbm (tt_2 (List.mem_of_getElem? (i := 117) rfl)) rfl)
abbrev mX11_unknownOf : x_M := (RX11, cX11_unknownOf, 1, (some .int), false, 0, fun _ => 0)
theorem lb_X11_unknownOf : x_lkB yX11_unknownOf cX11_unknownOf 1 (some .int) 1 := ⟨(x_tbm (tt_2 (List.mem_of_getElem? (i := 121) rfl)) rfl), (x_tbm (tt_1 (List.mem_of_getElem? (i := 1) rfl)) rfl), by decide +kernel, by decide +kernel, by decide +kernel⟩
theorem ls_X11_unknownOf : Cond.static yX11_unknownOf ∈ x_tb := (x_tbm (tt_2 (List.mem_of_getElem? (i := 120) rfl)) rfl)
abbrev mX1_forget : x_M := (RX1, cX1_forget, 1, none, false, 0, fun _ => 0)
theorem lb_X1_forget : x_lkB yX1_forget cX1_forget 1 none 0 := ⟨(x_tbm (tt_2 (List.mem_of_getElem? (i := 125) rfl)) rfl), (x_tbm (tt_1 (List.mem_of_getElem? (i := 5) rfl)) rfl), by decide +kernel, by decide +kernel, by decide +kernel⟩
theorem li_X1_forget : Cond.instanceMethod yX1_forget ∈ x_tb := (x_tbm (tt_2 (List.mem_of_getElem? (i := 123) rfl)) rfl)
theorem lv_X1_forget : Cond.selects yX1_forget.cls yX1_forget yX1_forget ∈ x_tb := (x_tbm (tt_2 (List.mem_of_getElem? (i := 124) rfl)) rfl)
abbrev mX2_forget : x_M := (RX2, cX2_forget, 2, none, false, 0, fun _ => 0)
theorem lb_X2_forget : x_lkB yX2_forget cX2_forget 2 none 0 := ⟨(x_tbm (tt_2 (List.mem_of_getElem? (i := 129) rfl)) rfl), (x_tbm (tt_1 (List.mem_of_getElem? (i := 9) rfl)) rfl), by decide +kernel, by decide +kernel, by decide +kernel⟩
theorem li_X2_forget : Cond.instanceMethod yX2_forget ∈ x_tb := (x_tbm (tt_2 (List.mem_of_getElem? (i := 127) rfl)) rfl)
theorem lv_X2_forget : Cond.selects yX2_forget.cls yX2_forget yX2_forget ∈ x_tb := (x_tbm (tt_2 (List.mem_of_getElem? (i := 128) rfl)) rfl)
abbrev mX3_length : x_M := (RX3, cX3_length, 1, (some .int), false, 0, fun _ => 0)
theorem lb_X3_length : x_lkB yX3_length cX3_length 1 (some .int) 0 := ⟨(x_tbm (tt_2 (List.mem_of_getElem? (i := 133) rfl)) rfl), (x_tbm (tt_1 (List.mem_of_getElem? (i := 3) rfl)) rfl), by decide +kernel, by decide +kernel, by decide +kernel⟩
theorem li_X3_length : Cond.instanceMethod yX3_length ∈ x_tb := (x_tbm (tt_2 (List.mem_of_getElem? (i := 131) rfl)) rfl)
theorem lv_X3_length : Cond.selects yX3_length.cls yX3_length yX3_length ∈ x_tb := (x_tbm (tt_2 (List.mem_of_getElem? (i := 132) rfl)) rfl)
abbrev mX11_item : x_M := (RX11, cX11_item, 4, (some .int), false, 0, fun _ => 0)
theorem lb_X11_item : x_lkB yX11_item cX11_item 4 (some .int) 3 := ⟨(x_tbm (tt_2 (List.mem_of_getElem? (i := 137) rfl)) rfl), (x_tbm (tt_1 (List.mem_of_getElem? (i := 1) rfl)) rfl), by decide +kernel, by decide +kernel, by decide +kernel⟩
theorem li_X11_item : Cond.instanceMethod yX11_item ∈ x_tb := (x_tbm (tt_2 (List.mem_of_getElem? (i := 135) rfl)) rfl)
theorem lv_X11_item : Cond.selects yX11_item.cls yX11_item yX11_item ∈ x_tb := (x_tbm (tt_2 (List.mem_of_getElem? (i := 136) rfl)) rfl)
abbrev mX3_has : x_M := (RX3, cX3_has, 2, (some .boolean), false, 0, fun _ => 0)
theorem lb_X3_has : x_lkB yX3_has cX3_has 2 (some .boolean) 1 := ⟨(x_tbm (tt_2 (List.mem_of_getElem? (i := 141) rfl)) rfl), (x_tbm (tt_1 (List.mem_of_getElem? (i := 3) rfl)) rfl), by decide +kernel, by decide +kernel, by decide +kernel⟩
theorem li_X3_has : Cond.instanceMethod yX3_has ∈ x_tb := (x_tbm (tt_2 (List.mem_of_getElem? (i := 139) rfl)) rfl)
theorem lv_X3_has : Cond.selects yX3_has.cls yX3_has yX3_has ∈ x_tb := (x_tbm (tt_2 (List.mem_of_getElem? (i := 140) rfl)) rfl)
abbrev mX8_at : x_M := (RX8, cX8_at, 2, (some .int), false, 0, fun _ => 0)
theorem lb_X8_at : x_lkB yX8_at cX8_at 2 (some .int) 1 := ⟨(x_tbm (tt_2 (List.mem_of_getElem? (i := 146) rfl)) rfl), (x_tbm (tt_1 (List.mem_of_getElem? (i := 4) rfl)) rfl), by decide +kernel, by decide +kernel, by decide +kernel⟩
theorem li_X8_at : Cond.instanceMethod yX8_at ∈ x_tb := (x_tbm (tt_2 (List.mem_of_getElem? (i := 144) rfl)) rfl)
theorem lv_X8_at : Cond.selects yX8_at.cls yX8_at yX8_at ∈ x_tb := (x_tbm (tt_2 (List.mem_of_getElem? (i := 145) rfl)) rfl)
abbrev mX11_bounds : x_M := (RX11, cX11_bounds, 5, (some .int), false, 0, fun _ => 0)
theorem lb_X11_bounds : x_lkB yX11_bounds cX11_bounds 5 (some .int) 4 := ⟨(x_tbm (tt_2 (List.mem_of_getElem? (i := 150) rfl)) rfl), (x_tbm (tt_1 (List.mem_of_getElem? (i := 1) rfl)) rfl), by decide +kernel, by decide +kernel, by decide +kernel⟩
theorem li_X11_bounds : Cond.instanceMethod yX11_bounds ∈ x_tb := (x_tbm (tt_2 (List.mem_of_getElem? (i := 148) rfl)) rfl)
theorem lv_X11_bounds : Cond.selects yX11_bounds.cls yX11_bounds yX11_bounds ∈ x_tb := (x_tbm (tt_2 (List.mem_of_getElem? (i := 149) rfl)) rfl)
abbrev mX11_isNoneOfFour : x_M := (RX11, cX11_isNoneOfFour, 1, (some .boolean), false, 0, fun _ => 0)
theorem lb_X11_isNoneOfFour : x_lkB yX11_isNoneOfFour cX11_isNoneOfFour 1 (some .boolean) 1 := ⟨(x_tbm (tt_2 (List.mem_of_getElem? (i := 153) rfl)) rfl), (x_tbm (tt_1 (List.mem_of_getElem? (i := 1) rfl)) rfl), by decide +kernel, by decide +kernel, by decide +kernel⟩
theorem ls_X11_isNoneOfFour : Cond.static yX11_isNoneOfFour ∈ x_tb := (x_tbm (tt_2 (List.mem_of_getElem? (i := 152) rfl)) rfl)
abbrev mX1_limit : x_M := (RX1, cX1_limit, 5, none, false, 0, fun _ => 0)
theorem lb_X1_limit : x_lkB yX1_limit cX1_limit 5 none 4 := ⟨(x_tbm (tt_2 (List.mem_of_getElem? (i := 157) rfl)) rfl), (x_tbm (tt_1 (List.mem_of_getElem? (i := 5) rfl)) rfl), by decide +kernel, by decide +kernel, by decide +kernel⟩
theorem li_X1_limit : Cond.instanceMethod yX1_limit ∈ x_tb := (x_tbm (tt_2 (List.mem_of_getElem? (i := 155) rfl)) rfl)
theorem lv_X1_limit : Cond.selects yX1_limit.cls yX1_limit yX1_limit ∈ x_tb := (x_tbm (tt_2 (List.mem_of_getElem? (i := 156) rfl)) rfl)
abbrev mX11_answers : x_M := (RX11, cX11_answers, 1, (some .int), false, 0, fun _ => 0)
theorem lb_X11_answers : x_lkB yX11_answers cX11_answers 1 (some .int) 0 := ⟨(x_tbm (tt_2 (List.mem_of_getElem? (i := 162) rfl)) rfl), (x_tbm (tt_1 (List.mem_of_getElem? (i := 1) rfl)) rfl), by decide +kernel, by decide +kernel, by decide +kernel⟩
theorem li_X11_answers : Cond.instanceMethod yX11_answers ∈ x_tb := (x_tbm (tt_2 (List.mem_of_getElem? (i := 160) rfl)) rfl)
theorem lv_X11_answers : Cond.selects yX11_answers.cls yX11_answers yX11_answers ∈ x_tb := (x_tbm (tt_2 (List.mem_of_getElem? (i := 161) rfl)) rfl)
abbrev mX1_survey : x_M := (RX1, cX1_survey, 5, none, false, 0, fun _ => 0)
theorem lb_X1_survey : x_lkB yX1_survey cX1_survey 5 none 1 := ⟨(x_tbm (tt_2 (List.mem_of_getElem? (i := 166) rfl)) rfl), (x_tbm (tt_1 (List.mem_of_getElem? (i := 5) rfl)) rfl), by decide +kernel, by decide +kernel, by decide +kernel⟩
theorem li_X1_survey : Cond.instanceMethod yX1_survey ∈ x_tb := (x_tbm (tt_2 (List.mem_of_getElem? (i := 164) rfl)) rfl)
theorem lv_X1_survey : Cond.selects yX1_survey.cls yX1_survey yX1_survey ∈ x_tb := (x_tbm (tt_2 (List.mem_of_getElem? (i := 165) rfl)) rfl)
abbrev mX3_hasUnknown : x_M := (RX3, cX3_hasUnknown, 3, (some .boolean), false, 0, fun _ => 0)
theorem lb_X3_hasUnknown : x_lkB yX3_hasUnknown cX3_hasUnknown 3 (some .boolean) 1 := ⟨(x_tbm (tt_2 (List.mem_of_getElem? (i := 170) rfl)) rfl), (x_tbm (tt_1 (List.mem_of_getElem? (i := 3) rfl)) rfl), by decide +kernel, by decide +kernel, by decide +kernel⟩
theorem li_X3_hasUnknown : Cond.instanceMethod yX3_hasUnknown ∈ x_tb := (x_tbm (tt_2 (List.mem_of_getElem? (i := 168) rfl)) rfl)
theorem lv_X3_hasUnknown : Cond.selects yX3_hasUnknown.cls yX3_hasUnknown yX3_hasUnknown ∈ x_tb := (x_tbm (tt_2 (List.mem_of_getElem? (i := 169) rfl)) rfl)
abbrev mX3_times : x_M := (RX3, cX3_times, 3, (some .int), false, 0, fun _ => 0)
theorem lb_X3_times : x_lkB yX3_times cX3_times 3 (some .int) 2 := ⟨(x_tbm (tt_2 (List.mem_of_getElem? (i := 174) rfl)) rfl), (x_tbm (tt_1 (List.mem_of_getElem? (i := 3) rfl)) rfl), by decide +kernel, by decide +kernel, by decide +kernel⟩
theorem li_X3_times : Cond.instanceMethod yX3_times ∈ x_tb := (x_tbm (tt_2 (List.mem_of_getElem? (i := 172) rfl)) rfl)
theorem lv_X3_times : Cond.selects yX3_times.cls yX3_times yX3_times ∈ x_tb := (x_tbm (tt_2 (List.mem_of_getElem? (i := 173) rfl)) rfl)
abbrev mX8_timesOf : x_M := (RX8, cX8_timesOf, 2, (some .int), false, 0, fun _ => 0)
theorem lb_X8_timesOf : x_lkB yX8_timesOf cX8_timesOf 2 (some .int) 1 := ⟨(x_tbm (tt_2 (List.mem_of_getElem? (i := 178) rfl)) rfl), (x_tbm (tt_1 (List.mem_of_getElem? (i := 4) rfl)) rfl), by decide +kernel, by decide +kernel, by decide +kernel⟩
theorem li_X8_timesOf : Cond.instanceMethod yX8_timesOf ∈ x_tb := (x_tbm (tt_2 (List.mem_of_getElem? (i := 176) rfl)) rfl)
theorem lv_X8_timesOf : Cond.selects yX8_timesOf.cls yX8_timesOf yX8_timesOf ∈ x_tb := (x_tbm (tt_2 (List.mem_of_getElem? (i := 177) rfl)) rfl)
abbrev mX1_surveyOfLength : x_M := (RX1, cX1_surveyOfLength, 7, none, false, 0, fun _ => 0)
theorem lb_X1_surveyOfLength : x_lkB yX1_surveyOfLength cX1_surveyOfLength 7 none 2 := ⟨(x_tbm (tt_2 (List.mem_of_getElem? (i := 183) rfl)) rfl), (x_tbm (tt_1 (List.mem_of_getElem? (i := 5) rfl)) rfl), by decide +kernel, by decide +kernel, by decide +kernel⟩
theorem li_X1_surveyOfLength : Cond.instanceMethod yX1_surveyOfLength ∈ x_tb := (x_tbm (tt_2 (List.mem_of_getElem? (i := 182) rfl)) rfl)
theorem lv_X1_surveyOfLength : Cond.selects yX1_surveyOfLength.cls yX1_surveyOfLength yX1_surveyOfLength ∈ x_tb := (x_tbm (List.mem_append_left _ (List.mem_of_getElem? (i := 0) rfl)) rfl)
abbrev mJ9_max_7cf53 : x_M := (RJ9, cJ9_max_7cf53, 2, (some .int), false, 0, fun _ => 0)
theorem lb_J9_max_7cf53 : x_lkB yJ9_max_7cf53 cJ9_max_7cf53 2 (some .int) 2 := ⟨(x_tbm (tt_2 (List.mem_of_getElem? (i := 186) rfl)) rfl), (x_tbm (tt_1 (List.mem_of_getElem? (i := 13) rfl)) rfl), by decide +kernel, by decide +kernel, by decide +kernel⟩
theorem ls_J9_max_7cf53 : Cond.static yJ9_max_7cf53 ∈ x_tb := (x_tbm (tt_2 (List.mem_of_getElem? (i := 185) rfl)) rfl)
abbrev mX1_codeOf : x_M := (RX1, cX1_codeOf, 4, (some .int), false, 0, fun _ => 0)
theorem lb_X1_codeOf : x_lkB yX1_codeOf cX1_codeOf 4 (some .int) 4 := ⟨(x_tbm (tt_2 (List.mem_of_getElem? (i := 189) rfl)) rfl), (x_tbm (tt_1 (List.mem_of_getElem? (i := 5) rfl)) rfl), by decide +kernel, by decide +kernel, by decide +kernel⟩
theorem ls_X1_codeOf : Cond.static yX1_codeOf ∈ x_tb := (x_tbm (tt_2 (List.mem_of_getElem? (i := 188) rfl)) rfl)
abbrev mX1_addRow : x_M := (RX1, cX1_addRow, 5, none, false, 0, fun _ => 0)
theorem lb_X1_addRow : x_lkB yX1_addRow cX1_addRow 5 none 2 := ⟨(x_tbm (tt_2 (List.mem_of_getElem? (i := 193) rfl)) rfl), (x_tbm (tt_1 (List.mem_of_getElem? (i := 5) rfl)) rfl), by decide +kernel, by decide +kernel, by decide +kernel⟩
theorem li_X1_addRow : Cond.instanceMethod yX1_addRow ∈ x_tb := (x_tbm (tt_2 (List.mem_of_getElem? (i := 192) rfl)) rfl)
theorem lv_X1_addRow : Cond.selects yX1_addRow.cls yX1_addRow yX1_addRow ∈ x_tb := (x_tbm (List.mem_append_left _ (List.mem_of_getElem? (i := 1) rfl)) rfl)
abbrev mX4_lay : x_M := (RX4, cX4_lay, 3, none, false, 0, fun _ => 0)
theorem lb_X4_lay : x_lkB yX4_lay cX4_lay 3 none 1 := ⟨(x_tbm (tt_2 (List.mem_of_getElem? (i := 197) rfl)) rfl), (x_tbm (tt_1 (List.mem_of_getElem? (i := 6) rfl)) rfl), by decide +kernel, by decide +kernel, by decide +kernel⟩
theorem li_X4_lay : Cond.instanceMethod yX4_lay ∈ x_tb := (x_tbm (tt_2 (List.mem_of_getElem? (i := 195) rfl)) rfl)
theorem lv_X4_lay : Cond.selects yX4_lay.cls yX4_lay yX4_lay ∈ x_tb := (x_tbm (tt_2 (List.mem_of_getElem? (i := 196) rfl)) rfl)
abbrev mJ9_min_7cf53 : x_M := (RJ9, cJ9_min_7cf53, 2, (some .int), false, 0, fun _ => 0)
theorem lb_J9_min_7cf53 : x_lkB yJ9_min_7cf53 cJ9_min_7cf53 2 (some .int) 2 := ⟨(x_tbm (tt_2 (List.mem_of_getElem? (i := 200) rfl)) rfl), (x_tbm (tt_1 (List.mem_of_getElem? (i := 13) rfl)) rfl), by decide +kernel, by decide +kernel, by decide +kernel⟩
theorem ls_J9_min_7cf53 : Cond.static yJ9_min_7cf53 ∈ x_tb := (x_tbm (tt_2 (List.mem_of_getElem? (i := 199) rfl)) rfl)
abbrev mX4_solves : x_M := (RX4, cX4_solves, 6, (some .boolean), false, 0, fun _ => 0)
theorem lb_X4_solves : x_lkB yX4_solves cX4_solves 6 (some .boolean) 2 := ⟨(x_tbm (tt_2 (List.mem_of_getElem? (i := 204) rfl)) rfl), (x_tbm (tt_1 (List.mem_of_getElem? (i := 6) rfl)) rfl), by decide +kernel, by decide +kernel, by decide +kernel⟩
theorem li_X4_solves : Cond.instanceMethod yX4_solves ∈ x_tb := (x_tbm (tt_2 (List.mem_of_getElem? (i := 202) rfl)) rfl)
theorem lv_X4_solves : Cond.selects yX4_solves.cls yX4_solves yX4_solves ∈ x_tb := (x_tbm (tt_2 (List.mem_of_getElem? (i := 203) rfl)) rfl)
abbrev mX4_lengthOf : x_M := (RX4, cX4_lengthOf, 2, (some .int), false, 0, fun _ => 0)
theorem lb_X4_lengthOf : x_lkB yX4_lengthOf cX4_lengthOf 2 (some .int) 1 := ⟨(x_tbm (tt_2 (List.mem_of_getElem? (i := 210) rfl)) rfl), (x_tbm (tt_1 (List.mem_of_getElem? (i := 6) rfl)) rfl), by decide +kernel, by decide +kernel, by decide +kernel⟩
theorem li_X4_lengthOf : Cond.instanceMethod yX4_lengthOf ∈ x_tb := (x_tbm (tt_2 (List.mem_of_getElem? (i := 209) rfl)) rfl)
theorem lv_X4_lengthOf : Cond.selects yX4_lengthOf.cls yX4_lengthOf yX4_lengthOf ∈ x_tb := (x_tbm (List.mem_append_left _ (List.mem_of_getElem? (i := 2) rfl)) rfl)
abbrev mX8_lengthBy : x_M := (RX8, cX8_lengthBy, 5, (some .int), false, 0, fun _ => 0)
theorem lb_X8_lengthBy : x_lkB yX8_lengthBy cX8_lengthBy 5 (some .int) 4 := ⟨(x_tbm (tt_2 (List.mem_of_getElem? (i := 214) rfl)) rfl), (x_tbm (tt_1 (List.mem_of_getElem? (i := 4) rfl)) rfl), by decide +kernel, by decide +kernel, by decide +kernel⟩
theorem li_X8_lengthBy : Cond.instanceMethod yX8_lengthBy ∈ x_tb := (x_tbm (tt_2 (List.mem_of_getElem? (i := 212) rfl)) rfl)
theorem lv_X8_lengthBy : Cond.selects yX8_lengthBy.cls yX8_lengthBy yX8_lengthBy ∈ x_tb := (x_tbm (tt_2 (List.mem_of_getElem? (i := 213) rfl)) rfl)
abbrev mX4_beginClasses : x_M := (RX4, cX4_beginClasses, 4, none, false, 0, fun _ => 0)
theorem lb_X4_beginClasses : x_lkB yX4_beginClasses cX4_beginClasses 4 none 1 := ⟨(x_tbm (tt_2 (List.mem_of_getElem? (i := 218) rfl)) rfl), (x_tbm (tt_1 (List.mem_of_getElem? (i := 6) rfl)) rfl), by decide +kernel, by decide +kernel, by decide +kernel⟩
theorem li_X4_beginClasses : Cond.instanceMethod yX4_beginClasses ∈ x_tb := (x_tbm (tt_2 (List.mem_of_getElem? (i := 217) rfl)) rfl)
theorem lv_X4_beginClasses : Cond.selects yX4_beginClasses.cls yX4_beginClasses yX4_beginClasses ∈ x_tb := (x_tbm (List.mem_append_left _ (List.mem_of_getElem? (i := 3) rfl)) rfl)
abbrev mX0_begin : x_M := (RX0, cX0_begin, 3, none, false, 0, fun _ => 0)
theorem lb_X0_begin : x_lkB yX0_begin cX0_begin 3 none 1 := ⟨(x_tbm (tt_2 (List.mem_of_getElem? (i := 222) rfl)) rfl), (x_tbm (tt_1 (List.mem_of_getElem? (i := 7) rfl)) rfl), by decide +kernel, by decide +kernel, by decide +kernel⟩
theorem li_X0_begin : Cond.instanceMethod yX0_begin ∈ x_tb := (x_tbm (tt_2 (List.mem_of_getElem? (i := 220) rfl)) rfl)
theorem lv_X0_begin : Cond.selects yX0_begin.cls yX0_begin yX0_begin ∈ x_tb := (x_tbm (tt_2 (List.mem_of_getElem? (i := 221) rfl)) rfl)
abbrev mX0_allow : x_M := (RX0, cX0_allow, 3, none, false, 0, fun _ => 0)
theorem lb_X0_allow : x_lkB yX0_allow cX0_allow 3 none 2 := ⟨(x_tbm (tt_2 (List.mem_of_getElem? (i := 228) rfl)) rfl), (x_tbm (tt_1 (List.mem_of_getElem? (i := 7) rfl)) rfl), by decide +kernel, by decide +kernel, by decide +kernel⟩
theorem li_X0_allow : Cond.instanceMethod yX0_allow ∈ x_tb := (x_tbm (tt_2 (List.mem_of_getElem? (i := 226) rfl)) rfl)
theorem lv_X0_allow : Cond.selects yX0_allow.cls yX0_allow yX0_allow ∈ x_tb := (x_tbm (tt_2 (List.mem_of_getElem? (i := 227) rfl)) rfl)
abbrev mX4_spread : x_M := (RX4, cX4_spread, 9, (some .int), false, 0, fun _ => 0)
theorem lb_X4_spread : x_lkB yX4_spread cX4_spread 9 (some .int) 2 := ⟨(x_tbm (tt_2 (List.mem_of_getElem? (i := 232) rfl)) rfl), (x_tbm (tt_1 (List.mem_of_getElem? (i := 6) rfl)) rfl), by decide +kernel, by decide +kernel, by decide +kernel⟩
theorem li_X4_spread : Cond.instanceMethod yX4_spread ∈ x_tb := (x_tbm (tt_2 (List.mem_of_getElem? (i := 231) rfl)) rfl)
theorem lv_X4_spread : Cond.selects yX4_spread.cls yX4_spread yX4_spread ∈ x_tb := (x_tbm (List.mem_append_left _ (List.mem_of_getElem? (i := 4) rfl)) rfl)
abbrev mX8_length : x_M := (RX8, cX8_length, 1, (some .int), false, 0, fun _ => 0)
theorem lb_X8_length : x_lkB yX8_length cX8_length 1 (some .int) 0 := ⟨(x_tbm (tt_2 (List.mem_of_getElem? (i := 236) rfl)) rfl), (x_tbm (tt_1 (List.mem_of_getElem? (i := 4) rfl)) rfl), by decide +kernel, by decide +kernel, by decide +kernel⟩
theorem li_X8_length : Cond.instanceMethod yX8_length ∈ x_tb := (x_tbm (tt_2 (List.mem_of_getElem? (i := 234) rfl)) rfl)
theorem lv_X8_length : Cond.selects yX8_length.cls yX8_length yX8_length ∈ x_tb := (x_tbm (tt_2 (List.mem_of_getElem? (i := 235) rfl)) rfl)
abbrev mX0_join : x_M := (RX0, cX0_join, 6, (some .boolean), false, 0, fun _ => 0)
theorem lb_X0_join : x_lkB yX0_join cX0_join 6 (some .boolean) 2 := ⟨(x_tbm (tt_3 (List.mem_of_getElem? (i := 3) rfl)) rfl), (x_tbm (tt_1 (List.mem_of_getElem? (i := 7) rfl)) rfl), by decide +kernel, by decide +kernel, by decide +kernel⟩
theorem li_X0_join : Cond.instanceMethod yX0_join ∈ x_tb := (x_tbm (tt_3 (List.mem_of_getElem? (i := 1) rfl)) rfl)
theorem lv_X0_join : Cond.selects yX0_join.cls yX0_join yX0_join ∈ x_tb := (x_tbm (tt_3 (List.mem_of_getElem? (i := 2) rfl)) rfl)
abbrev mX4_ways : x_M := (RX4, cX4_ways, 4, (some .long), false, 0, fun _ => 0)
theorem lb_X4_ways : x_lkB yX4_ways cX4_ways 4 (some .long) 0 := ⟨(x_tbm (tt_3 (List.mem_of_getElem? (i := 7) rfl)) rfl), (x_tbm (tt_1 (List.mem_of_getElem? (i := 6) rfl)) rfl), by decide +kernel, by decide +kernel, by decide +kernel⟩
theorem li_X4_ways : Cond.instanceMethod yX4_ways ∈ x_tb := (x_tbm (tt_3 (List.mem_of_getElem? (i := 5) rfl)) rfl)
theorem lv_X4_ways : Cond.selects yX4_ways.cls yX4_ways yX4_ways ∈ x_tb := (x_tbm (tt_3 (List.mem_of_getElem? (i := 6) rfl)) rfl)
abbrev mX0_first : x_M := (RX0, cX0_first, 2, (some .int), false, 0, fun _ => 0)
theorem lb_X0_first : x_lkB yX0_first cX0_first 2 (some .int) 1 := ⟨(x_tbm (tt_3 (List.mem_of_getElem? (i := 11) rfl)) rfl), (x_tbm (tt_1 (List.mem_of_getElem? (i := 7) rfl)) rfl), by decide +kernel, by decide +kernel, by decide +kernel⟩
theorem li_X0_first : Cond.instanceMethod yX0_first ∈ x_tb := (x_tbm (tt_3 (List.mem_of_getElem? (i := 9) rfl)) rfl)
theorem lv_X0_first : Cond.selects yX0_first.cls yX0_first yX0_first ∈ x_tb := (x_tbm (tt_3 (List.mem_of_getElem? (i := 10) rfl)) rfl)
abbrev mX0_letters : x_M := (RX0, cX0_letters, 2, (some .int), false, 0, fun _ => 0)
theorem lb_X0_letters : x_lkB yX0_letters cX0_letters 2 (some .int) 1 := ⟨(x_tbm (tt_3 (List.mem_of_getElem? (i := 15) rfl)) rfl), (x_tbm (tt_1 (List.mem_of_getElem? (i := 7) rfl)) rfl), by decide +kernel, by decide +kernel, by decide +kernel⟩
theorem li_X0_letters : Cond.instanceMethod yX0_letters ∈ x_tb := (x_tbm (tt_3 (List.mem_of_getElem? (i := 13) rfl)) rfl)
theorem lv_X0_letters : Cond.selects yX0_letters.cls yX0_letters yX0_letters ∈ x_tb := (x_tbm (tt_3 (List.mem_of_getElem? (i := 14) rfl)) rfl)
abbrev mJ6_bitCount_0f7a4 : x_M := (RJ6, cJ6_bitCount_0f7a4, 1, (some .int), false, 0, fun _ => 0)
theorem lb_J6_bitCount_0f7a4 : x_lkB yJ6_bitCount_0f7a4 cJ6_bitCount_0f7a4 1 (some .int) 1 := ⟨(x_tbm (tt_3 (List.mem_of_getElem? (i := 18) rfl)) rfl), (x_tbm (tt_1 (List.mem_of_getElem? (i := 14) rfl)) rfl), by decide +kernel, by decide +kernel, by decide +kernel⟩
theorem ls_J6_bitCount_0f7a4 : Cond.static yJ6_bitCount_0f7a4 ∈ x_tb := (x_tbm (tt_3 (List.mem_of_getElem? (i := 17) rfl)) rfl)
abbrev mX1_noteSure : x_M := (RX1, cX1_noteSure, 5, none, false, 0, fun _ => 0)
theorem lb_X1_noteSure : x_lkB yX1_noteSure cX1_noteSure 5 none 0 := ⟨(x_tbm (tt_3 (List.mem_of_getElem? (i := 25) rfl)) rfl), (x_tbm (tt_1 (List.mem_of_getElem? (i := 5) rfl)) rfl), by decide +kernel, by decide +kernel, by decide +kernel⟩
theorem li_X1_noteSure : Cond.instanceMethod yX1_noteSure ∈ x_tb := (x_tbm (tt_3 (List.mem_of_getElem? (i := 24) rfl)) rfl)
theorem lv_X1_noteSure : Cond.selects yX1_noteSure.cls yX1_noteSure yX1_noteSure ∈ x_tb := (x_tbm (List.mem_append_left _ (List.mem_of_getElem? (i := 5) rfl)) rfl)
abbrev mX4_onlyLetter : x_M := (RX4, cX4_onlyLetter, 4, (some .int), false, 0, fun _ => 0)
theorem lb_X4_onlyLetter : x_lkB yX4_onlyLetter cX4_onlyLetter 4 (some .int) 2 := ⟨(x_tbm (tt_3 (List.mem_of_getElem? (i := 29) rfl)) rfl), (x_tbm (tt_1 (List.mem_of_getElem? (i := 6) rfl)) rfl), by decide +kernel, by decide +kernel, by decide +kernel⟩
theorem li_X4_onlyLetter : Cond.instanceMethod yX4_onlyLetter ∈ x_tb := (x_tbm (tt_3 (List.mem_of_getElem? (i := 27) rfl)) rfl)
theorem lv_X4_onlyLetter : Cond.selects yX4_onlyLetter.cls yX4_onlyLetter yX4_onlyLetter ∈ x_tb := (x_tbm (tt_3 (List.mem_of_getElem? (i := 28) rfl)) rfl)
abbrev mX4_letterAfter : x_M := (RX4, cX4_letterAfter, 3, (some .int), false, 0, fun _ => 0)
theorem lb_X4_letterAfter : x_lkB yX4_letterAfter cX4_letterAfter 3 (some .int) 2 := ⟨(x_tbm (tt_3 (List.mem_of_getElem? (i := 33) rfl)) rfl), (x_tbm (tt_1 (List.mem_of_getElem? (i := 6) rfl)) rfl), by decide +kernel, by decide +kernel, by decide +kernel⟩
theorem ls_X4_letterAfter : Cond.static yX4_letterAfter ∈ x_tb := (x_tbm (tt_3 (List.mem_of_getElem? (i := 32) rfl)) rfl)
abbrev mX1_howMany : x_M := (RX1, cX1_howMany, 1, (some .long), false, 0, fun _ => 0)
theorem lb_X1_howMany : x_lkB yX1_howMany cX1_howMany 1 (some .long) 0 := ⟨(x_tbm (tt_3 (List.mem_of_getElem? (i := 37) rfl)) rfl), (x_tbm (tt_1 (List.mem_of_getElem? (i := 5) rfl)) rfl), by decide +kernel, by decide +kernel, by decide +kernel⟩
theorem li_X1_howMany : Cond.instanceMethod yX1_howMany ∈ x_tb := (x_tbm (tt_3 (List.mem_of_getElem? (i := 35) rfl)) rfl)
theorem lv_X1_howMany : Cond.selects yX1_howMany.cls yX1_howMany yX1_howMany ∈ x_tb := (x_tbm (tt_3 (List.mem_of_getElem? (i := 36) rfl)) rfl)
abbrev mX11_capped : x_M := (RX11, cX11_capped, 2, (some .int), false, 0, fun _ => 0)
theorem lb_X11_capped : x_lkB yX11_capped cX11_capped 2 (some .int) 1 := ⟨(x_tbm (tt_3 (List.mem_of_getElem? (i := 40) rfl)) rfl), (x_tbm (tt_1 (List.mem_of_getElem? (i := 1) rfl)) rfl), by decide +kernel, by decide +kernel, by decide +kernel⟩
theorem ls_X11_capped : Cond.static yX11_capped ∈ x_tb := (x_tbm (tt_3 (List.mem_of_getElem? (i := 39) rfl)) rfl)
abbrev mX11_answer : x_M := (RX11, cX11_answer, 4, (some .int), false, 0, fun _ => 0)
theorem lb_X11_answer : x_lkB yX11_answer cX11_answer 4 (some .int) 3 := ⟨(x_tbm (tt_3 (List.mem_of_getElem? (i := 46) rfl)) rfl), (x_tbm (tt_1 (List.mem_of_getElem? (i := 1) rfl)) rfl), by decide +kernel, by decide +kernel, by decide +kernel⟩
theorem li_X11_answer : Cond.instanceMethod yX11_answer ∈ x_tb := (x_tbm (tt_3 (List.mem_of_getElem? (i := 44) rfl)) rfl)
theorem lv_X11_answer : Cond.selects yX11_answer.cls yX11_answer yX11_answer ∈ x_tb := (x_tbm (tt_3 (List.mem_of_getElem? (i := 45) rfl)) rfl)
abbrev mX1_told : x_M := (RX1, cX1_told, 6, (some .int), false, 0, fun _ => 0)
theorem lb_X1_told : x_lkB yX1_told cX1_told 6 (some .int) 4 := ⟨(x_tbm (tt_3 (List.mem_of_getElem? (i := 51) rfl)) rfl), (x_tbm (tt_1 (List.mem_of_getElem? (i := 5) rfl)) rfl), by decide +kernel, by decide +kernel, by decide +kernel⟩
theorem li_X1_told : Cond.instanceMethod yX1_told ∈ x_tb := (x_tbm (tt_3 (List.mem_of_getElem? (i := 49) rfl)) rfl)
theorem lv_X1_told : Cond.selects yX1_told.cls yX1_told yX1_told ∈ x_tb := (x_tbm (tt_3 (List.mem_of_getElem? (i := 50) rfl)) rfl)
abbrev mX1_rowOf : x_M := (RX1, cX1_rowOf, 7, (some .int), false, 0, fun _ => 0)
theorem lb_X1_rowOf : x_lkB yX1_rowOf cX1_rowOf 7 (some .int) 1 := ⟨(x_tbm (tt_3 (List.mem_of_getElem? (i := 55) rfl)) rfl), (x_tbm (tt_1 (List.mem_of_getElem? (i := 5) rfl)) rfl), by decide +kernel, by decide +kernel, by decide +kernel⟩
theorem li_X1_rowOf : Cond.instanceMethod yX1_rowOf ∈ x_tb := (x_tbm (tt_3 (List.mem_of_getElem? (i := 54) rfl)) rfl)
theorem lv_X1_rowOf : Cond.selects yX1_rowOf.cls yX1_rowOf yX1_rowOf ∈ x_tb := (x_tbm (List.mem_append_left _ (List.mem_of_getElem? (i := 6) rfl)) rfl)
abbrev mX4_length : x_M := (RX4, cX4_length, 2, (some .int), false, 0, fun _ => 0)
theorem lb_X4_length : x_lkB yX4_length cX4_length 2 (some .int) 1 := ⟨(x_tbm (tt_3 (List.mem_of_getElem? (i := 59) rfl)) rfl), (x_tbm (tt_1 (List.mem_of_getElem? (i := 6) rfl)) rfl), by decide +kernel, by decide +kernel, by decide +kernel⟩
theorem li_X4_length : Cond.instanceMethod yX4_length ∈ x_tb := (x_tbm (tt_3 (List.mem_of_getElem? (i := 57) rfl)) rfl)
theorem lv_X4_length : Cond.selects yX4_length.cls yX4_length yX4_length ∈ x_tb := (x_tbm (tt_3 (List.mem_of_getElem? (i := 58) rfl)) rfl)
abbrev mX4_choose : x_M := (RX4, cX4_choose, 7, none, false, 0, fun _ => 0)
theorem lb_X4_choose : x_lkB yX4_choose cX4_choose 7 none 1 := ⟨(x_tbm (tt_3 (List.mem_of_getElem? (i := 63) rfl)) rfl), (x_tbm (tt_1 (List.mem_of_getElem? (i := 6) rfl)) rfl), by decide +kernel, by decide +kernel, by decide +kernel⟩
theorem li_X4_choose : Cond.instanceMethod yX4_choose ∈ x_tb := (x_tbm (tt_3 (List.mem_of_getElem? (i := 61) rfl)) rfl)
theorem lv_X4_choose : Cond.selects yX4_choose.cls yX4_choose yX4_choose ∈ x_tb := (x_tbm (tt_3 (List.mem_of_getElem? (i := 62) rfl)) rfl)
abbrev mX4_chosenLetter : x_M := (RX4, cX4_chosenLetter, 4, (some .int), false, 0, fun _ => 0)
theorem lb_X4_chosenLetter : x_lkB yX4_chosenLetter cX4_chosenLetter 4 (some .int) 2 := ⟨(x_tbm (tt_3 (List.mem_of_getElem? (i := 67) rfl)) rfl), (x_tbm (tt_1 (List.mem_of_getElem? (i := 6) rfl)) rfl), by decide +kernel, by decide +kernel, by decide +kernel⟩
theorem li_X4_chosenLetter : Cond.instanceMethod yX4_chosenLetter ∈ x_tb := (x_tbm (tt_3 (List.mem_of_getElem? (i := 65) rfl)) rfl)
theorem lv_X4_chosenLetter : Cond.selects yX4_chosenLetter.cls yX4_chosenLetter yX4_chosenLetter ∈ x_tb := (x_tbm (tt_3 (List.mem_of_getElem? (i := 66) rfl)) rfl)
abbrev mX11_tell : x_M := (RX11, cX11_tell, 4, (some .int), false, 0, fun _ => 0)
theorem lb_X11_tell : x_lkB yX11_tell cX11_tell 4 (some .int) 3 := ⟨(x_tbm (tt_3 (List.mem_of_getElem? (i := 71) rfl)) rfl), (x_tbm (tt_1 (List.mem_of_getElem? (i := 1) rfl)) rfl), by decide +kernel, by decide +kernel, by decide +kernel⟩
theorem li_X11_tell : Cond.instanceMethod yX11_tell ∈ x_tb := (x_tbm (tt_3 (List.mem_of_getElem? (i := 69) rfl)) rfl)
theorem lv_X11_tell : Cond.selects yX11_tell.cls yX11_tell yX11_tell ∈ x_tb := (x_tbm (tt_3 (List.mem_of_getElem? (i := 70) rfl)) rfl)
abbrev mX11_hasNoLetter : x_M := (RX11, cX11_hasNoLetter, 4, (some .boolean), false, 0, fun _ => 0)
theorem lb_X11_hasNoLetter : x_lkB yX11_hasNoLetter cX11_hasNoLetter 4 (some .boolean) 2 := ⟨(x_tbm (tt_3 (List.mem_of_getElem? (i := 74) rfl)) rfl), (x_tbm (tt_1 (List.mem_of_getElem? (i := 1) rfl)) rfl), by decide +kernel, by decide +kernel, by decide +kernel⟩
theorem ls_X11_hasNoLetter : Cond.static yX11_hasNoLetter ∈ x_tb := (x_tbm (tt_3 (List.mem_of_getElem? (i := 73) rfl)) rfl)
abbrev mX11_letterOf : x_M := (RX11, cX11_letterOf, 3, (some .int), false, 0, fun _ => 0)
theorem lb_X11_letterOf : x_lkB yX11_letterOf cX11_letterOf 3 (some .int) 2 := ⟨(x_tbm (tt_3 (List.mem_of_getElem? (i := 77) rfl)) rfl), (x_tbm (tt_1 (List.mem_of_getElem? (i := 1) rfl)) rfl), by decide +kernel, by decide +kernel, by decide +kernel⟩
theorem ls_X11_letterOf : Cond.static yX11_letterOf ∈ x_tb := (x_tbm (tt_3 (List.mem_of_getElem? (i := 76) rfl)) rfl)
abbrev mX1_hear : x_M := (RX1, cX1_hear, 4, none, false, 0, fun _ => 0)
theorem lb_X1_hear : x_lkB yX1_hear cX1_hear 4 none 3 := ⟨(x_tbm (tt_3 (List.mem_of_getElem? (i := 82) rfl)) rfl), (x_tbm (tt_1 (List.mem_of_getElem? (i := 5) rfl)) rfl), by decide +kernel, by decide +kernel, by decide +kernel⟩
theorem li_X1_hear : Cond.instanceMethod yX1_hear ∈ x_tb := (x_tbm (tt_3 (List.mem_of_getElem? (i := 80) rfl)) rfl)
theorem lv_X1_hear : Cond.selects yX1_hear.cls yX1_hear yX1_hear ∈ x_tb := (x_tbm (tt_3 (List.mem_of_getElem? (i := 81) rfl)) rfl)
abbrev mX11_rank : x_M := (RX11, cX11_rank, 1, (some .int), false, 0, fun _ => 0)
theorem lb_X11_rank : x_lkB yX11_rank cX11_rank 1 (some .int) 0 := ⟨(x_tbm (tt_3 (List.mem_of_getElem? (i := 86) rfl)) rfl), (x_tbm (tt_1 (List.mem_of_getElem? (i := 1) rfl)) rfl), by decide +kernel, by decide +kernel, by decide +kernel⟩
theorem li_X11_rank : Cond.instanceMethod yX11_rank ∈ x_tb := (x_tbm (tt_3 (List.mem_of_getElem? (i := 84) rfl)) rfl)
theorem lv_X11_rank : Cond.selects yX11_rank.cls yX11_rank yX11_rank ∈ x_tb := (x_tbm (tt_3 (List.mem_of_getElem? (i := 85) rfl)) rfl)
abbrev mX1_rankOfHeard : x_M := (RX1, cX1_rankOfHeard, 6, (some .long), false, 0, fun _ => 0)
theorem lb_X1_rankOfHeard : x_lkB yX1_rankOfHeard cX1_rankOfHeard 6 (some .long) 1 := ⟨(x_tbm (tt_3 (List.mem_of_getElem? (i := 90) rfl)) rfl), (x_tbm (tt_1 (List.mem_of_getElem? (i := 5) rfl)) rfl), by decide +kernel, by decide +kernel, by decide +kernel⟩
theorem li_X1_rankOfHeard : Cond.instanceMethod yX1_rankOfHeard ∈ x_tb := (x_tbm (tt_3 (List.mem_of_getElem? (i := 88) rfl)) rfl)
theorem lv_X1_rankOfHeard : Cond.selects yX1_rankOfHeard.cls yX1_rankOfHeard yX1_rankOfHeard ∈ x_tb := (x_tbm (tt_3 (List.mem_of_getElem? (i := 89) rfl)) rfl)
abbrev mX4_rankOf : x_M := (RX4, cX4_rankOf, 10, (some .long), false, 0, fun _ => 0)
theorem lb_X4_rankOf : x_lkB yX4_rankOf cX4_rankOf 10 (some .long) 1 := ⟨(x_tbm (tt_3 (List.mem_of_getElem? (i := 95) rfl)) rfl), (x_tbm (tt_1 (List.mem_of_getElem? (i := 6) rfl)) rfl), by decide +kernel, by decide +kernel, by decide +kernel⟩
theorem li_X4_rankOf : Cond.instanceMethod yX4_rankOf ∈ x_tb := (x_tbm (tt_3 (List.mem_of_getElem? (i := 93) rfl)) rfl)
theorem lv_X4_rankOf : Cond.selects yX4_rankOf.cls yX4_rankOf yX4_rankOf ∈ x_tb := (x_tbm (tt_3 (List.mem_of_getElem? (i := 94) rfl)) rfl)
abbrev mX11_sure : x_M := (RX11, cX11_sure, 3, (some .int), false, 0, fun _ => 0)
theorem lb_X11_sure : x_lkB yX11_sure cX11_sure 3 (some .int) 2 := ⟨(x_tbm (tt_3 (List.mem_of_getElem? (i := 101) rfl)) rfl), (x_tbm (tt_1 (List.mem_of_getElem? (i := 1) rfl)) rfl), by decide +kernel, by decide +kernel, by decide +kernel⟩
theorem li_X11_sure : Cond.instanceMethod yX11_sure ∈ x_tb := (x_tbm (tt_3 (List.mem_of_getElem? (i := 99) rfl)) rfl)
theorem lv_X11_sure : Cond.selects yX11_sure.cls yX11_sure yX11_sure ∈ x_tb := (x_tbm (tt_3 (List.mem_of_getElem? (i := 100) rfl)) rfl)
abbrev mX1_sureLetter : x_M := (RX1, cX1_sureLetter, 4, (some .int), false, 0, fun _ => 0)
theorem lb_X1_sureLetter : x_lkB yX1_sureLetter cX1_sureLetter 4 (some .int) 2 := ⟨(x_tbm (tt_3 (List.mem_of_getElem? (i := 105) rfl)) rfl), (x_tbm (tt_1 (List.mem_of_getElem? (i := 5) rfl)) rfl), by decide +kernel, by decide +kernel, by decide +kernel⟩
theorem li_X1_sureLetter : Cond.instanceMethod yX1_sureLetter ∈ x_tb := (x_tbm (tt_3 (List.mem_of_getElem? (i := 103) rfl)) rfl)
theorem lv_X1_sureLetter : Cond.selects yX1_sureLetter.cls yX1_sureLetter yX1_sureLetter ∈ x_tb := (x_tbm (tt_3 (List.mem_of_getElem? (i := 104) rfl)) rfl)
abbrev mX11_met : x_M := (RX11, cX11_met, 3, (some .int), false, 0, fun _ => 0)
theorem lb_X11_met : x_lkB yX11_met cX11_met 3 (some .int) 1 := ⟨(x_tbm (tt_3 (List.mem_of_getElem? (i := 109) rfl)) rfl), (x_tbm (tt_1 (List.mem_of_getElem? (i := 1) rfl)) rfl), by decide +kernel, by decide +kernel, by decide +kernel⟩
theorem li_X11_met : Cond.instanceMethod yX11_met ∈ x_tb := (x_tbm (tt_3 (List.mem_of_getElem? (i := 107) rfl)) rfl)
theorem lv_X11_met : Cond.selects yX11_met.cls yX11_met yX11_met ∈ x_tb := (x_tbm (tt_3 (List.mem_of_getElem? (i := 108) rfl)) rfl)
abbrev mX2_follow : x_M := (RX2, cX2_follow, 4, (some .int), false, 0, fun _ => 0)
theorem lb_X2_follow : x_lkB yX2_follow cX2_follow 4 (some .int) 2 := ⟨(x_tbm (tt_3 (List.mem_of_getElem? (i := 113) rfl)) rfl), (x_tbm (tt_1 (List.mem_of_getElem? (i := 9) rfl)) rfl), by decide +kernel, by decide +kernel, by decide +kernel⟩
theorem li_X2_follow : Cond.instanceMethod yX2_follow ∈ x_tb := (x_tbm (tt_3 (List.mem_of_getElem? (i := 111) rfl)) rfl)
theorem lv_X2_follow : Cond.selects yX2_follow.cls yX2_follow yX2_follow ∈ x_tb := (x_tbm (tt_3 (List.mem_of_getElem? (i := 112) rfl)) rfl)
abbrev mX5_init : x_M := (RX5, cX5_init, 1, none, true, 0, fun _ => 0)
theorem lb_X5_init : x_lkB yX5_init cX5_init 1 none 0 := ⟨(x_tbm (tt_3 (List.mem_of_getElem? (i := 120) rfl)) rfl), (x_tbm (tt_1 (List.mem_of_getElem? (i := 15) rfl)) rfl), by decide +kernel, by decide +kernel, by decide +kernel⟩
theorem li_X5_init : Cond.instanceMethod yX5_init ∈ x_tb := (x_tbm (tt_3 (List.mem_of_getElem? (i := 119) rfl)) rfl)
abbrev mX6_init : x_M := (RX6, cX6_init, 1, none, true, 0, fun _ => 0)
theorem lb_X6_init : x_lkB yX6_init cX6_init 1 none 0 := ⟨(x_tbm (tt_3 (List.mem_of_getElem? (i := 126) rfl)) rfl), (x_tbm (tt_1 (List.mem_of_getElem? (i := 16) rfl)) rfl), by decide +kernel, by decide +kernel, by decide +kernel⟩
theorem li_X6_init : Cond.instanceMethod yX6_init ∈ x_tb := (x_tbm (tt_3 (List.mem_of_getElem? (i := 125) rfl)) rfl)
abbrev mX5_grow : x_M := (RX5, cX5_grow, 5, none, false, 0, fun _ => 0)
theorem lb_X5_grow : x_lkB yX5_grow cX5_grow 5 none 2 := ⟨(x_tbm (tt_3 (List.mem_of_getElem? (i := 203) rfl)) rfl), (x_tbm (tt_1 (List.mem_of_getElem? (i := 15) rfl)) rfl), by decide +kernel, by decide +kernel, by decide +kernel⟩
theorem li_X5_grow : Cond.instanceMethod yX5_grow ∈ x_tb := (x_tbm (tt_3 (List.mem_of_getElem? (i := 201) rfl)) rfl)
theorem lv_X5_grow : Cond.selects yX5_grow.cls yX5_grow yX5_grow ∈ x_tb := (x_tbm (tt_3 (List.mem_of_getElem? (i := 202) rfl)) rfl)
abbrev mX6_read : x_M := (RX6, cX6_read, 4, none, false, 0, fun _ => 0)
theorem lb_X6_read : x_lkB yX6_read cX6_read 4 none 2 := ⟨(x_tbm (tt_3 (List.mem_of_getElem? (i := 208) rfl)) rfl), (x_tbm (tt_1 (List.mem_of_getElem? (i := 16) rfl)) rfl), by decide +kernel, by decide +kernel, by decide +kernel⟩
theorem li_X6_read : Cond.instanceMethod yX6_read ∈ x_tb := (x_tbm (tt_3 (List.mem_of_getElem? (i := 206) rfl)) rfl)
theorem lv_X6_read : Cond.selects yX6_read.cls yX6_read yX6_read ∈ x_tb := (x_tbm (tt_3 (List.mem_of_getElem? (i := 207) rfl)) rfl)
abbrev mX6_begin : x_M := (RX6, cX6_begin, 1, none, false, 0, fun _ => 0)
theorem lb_X6_begin : x_lkB yX6_begin cX6_begin 1 none 0 := ⟨(x_tbm (tt_3 (List.mem_of_getElem? (i := 212) rfl)) rfl), (x_tbm (tt_1 (List.mem_of_getElem? (i := 16) rfl)) rfl), by decide +kernel, by decide +kernel, by decide +kernel⟩
theorem li_X6_begin : Cond.instanceMethod yX6_begin ∈ x_tb := (x_tbm (tt_3 (List.mem_of_getElem? (i := 211) rfl)) rfl)
theorem lv_X6_begin : Cond.selects yX6_begin.cls yX6_begin yX6_begin ∈ x_tb := (x_tbm (List.mem_append_left _ (List.mem_of_getElem? (i := 7) rfl)) rfl)
abbrev mX6_add : x_M := (RX6, cX6_add, 3, none, false, 0, fun _ => 0)
theorem lb_X6_add : x_lkB yX6_add cX6_add 3 none 2 := ⟨(x_tbm (tt_3 (List.mem_of_getElem? (i := 218) rfl)) rfl), (x_tbm (tt_1 (List.mem_of_getElem? (i := 16) rfl)) rfl), by decide +kernel, by decide +kernel, by decide +kernel⟩
theorem li_X6_add : Cond.instanceMethod yX6_add ∈ x_tb := (x_tbm (tt_3 (List.mem_of_getElem? (i := 217) rfl)) rfl)
theorem lv_X6_add : Cond.selects yX6_add.cls yX6_add yX6_add ∈ x_tb := (x_tbm (List.mem_append_left _ (List.mem_of_getElem? (i := 8) rfl)) rfl)
abbrev mX6_unknowns : x_M := (RX6, cX6_unknowns, 4, (some .int), false, 0, fun _ => 0)
theorem lb_X6_unknowns : x_lkB yX6_unknowns cX6_unknowns 4 (some .int) 0 := ⟨(x_tbm (tt_3 (List.mem_of_getElem? (i := 222) rfl)) rfl), (x_tbm (tt_1 (List.mem_of_getElem? (i := 16) rfl)) rfl), by decide +kernel, by decide +kernel, by decide +kernel⟩
theorem li_X6_unknowns : Cond.instanceMethod yX6_unknowns ∈ x_tb := (x_tbm (tt_3 (List.mem_of_getElem? (i := 220) rfl)) rfl)
theorem lv_X6_unknowns : Cond.selects yX6_unknowns.cls yX6_unknowns yX6_unknowns ∈ x_tb := (x_tbm (tt_3 (List.mem_of_getElem? (i := 221) rfl)) rfl)
abbrev mX6_strike : x_M := (RX6, cX6_strike, 2, none, false, 0, fun _ => 0)
theorem lb_X6_strike : x_lkB yX6_strike cX6_strike 2 none 0 := ⟨(x_tbm (tt_3 (List.mem_of_getElem? (i := 228) rfl)) rfl), (x_tbm (tt_1 (List.mem_of_getElem? (i := 16) rfl)) rfl), by decide +kernel, by decide +kernel, by decide +kernel⟩
theorem li_X6_strike : Cond.instanceMethod yX6_strike ∈ x_tb := (x_tbm (tt_3 (List.mem_of_getElem? (i := 226) rfl)) rfl)
theorem lv_X6_strike : Cond.selects yX6_strike.cls yX6_strike yX6_strike ∈ x_tb := (x_tbm (tt_3 (List.mem_of_getElem? (i := 227) rfl)) rfl)
abbrev mX5_meet : x_M := (RX5, cX5_meet, 7, (some .int), false, 0, fun _ => 0)
theorem lb_X5_meet : x_lkB yX5_meet cX5_meet 7 (some .int) 1 := ⟨(x_tbm (tt_3 (List.mem_of_getElem? (i := 233) rfl)) rfl), (x_tbm (tt_1 (List.mem_of_getElem? (i := 15) rfl)) rfl), by decide +kernel, by decide +kernel, by decide +kernel⟩
theorem li_X5_meet : Cond.instanceMethod yX5_meet ∈ x_tb := (x_tbm (tt_3 (List.mem_of_getElem? (i := 232) rfl)) rfl)
theorem lv_X5_meet : Cond.selects yX5_meet.cls yX5_meet yX5_meet ∈ x_tb := (x_tbm (List.mem_append_left _ (List.mem_of_getElem? (i := 9) rfl)) rfl)
abbrev mX6_pack : x_M := (RX6, cX6_pack, 4, none, false, 0, fun _ => 0)
theorem lb_X6_pack : x_lkB yX6_pack cX6_pack 4 none 0 := ⟨(x_tbm (tt_3 (List.mem_of_getElem? (i := 237) rfl)) rfl), (x_tbm (tt_1 (List.mem_of_getElem? (i := 16) rfl)) rfl), by decide +kernel, by decide +kernel, by decide +kernel⟩
theorem li_X6_pack : Cond.instanceMethod yX6_pack ∈ x_tb := (x_tbm (tt_3 (List.mem_of_getElem? (i := 235) rfl)) rfl)
theorem lv_X6_pack : Cond.selects yX6_pack.cls yX6_pack yX6_pack ∈ x_tb := (x_tbm (tt_3 (List.mem_of_getElem? (i := 236) rfl)) rfl)
abbrev mX5_expand : x_M := (RX5, cX5_expand, 9, none, false, 0, fun _ => 0)
theorem lb_X5_expand : x_lkB yX5_expand cX5_expand 9 none 1 := ⟨(x_tbm (tt_4 (List.mem_of_getElem? (i := 3) rfl)) rfl), (x_tbm (tt_1 (List.mem_of_getElem? (i := 15) rfl)) rfl), by decide +kernel, by decide +kernel, by decide +kernel⟩
theorem li_X5_expand : Cond.instanceMethod yX5_expand ∈ x_tb := (x_tbm (tt_4 (List.mem_of_getElem? (i := 2) rfl)) rfl)
theorem lv_X5_expand : Cond.selects yX5_expand.cls yX5_expand yX5_expand ∈ x_tb := (x_tbm (List.mem_append_left _ (List.mem_of_getElem? (i := 10) rfl)) rfl)
abbrev mX6_unpack : x_M := (RX6, cX6_unpack, 8, none, false, 0, fun _ => 0)
theorem lb_X6_unpack : x_lkB yX6_unpack cX6_unpack 8 none 2 := ⟨(x_tbm (tt_4 (List.mem_of_getElem? (i := 7) rfl)) rfl), (x_tbm (tt_1 (List.mem_of_getElem? (i := 16) rfl)) rfl), by decide +kernel, by decide +kernel, by decide +kernel⟩
theorem li_X6_unpack : Cond.instanceMethod yX6_unpack ∈ x_tb := (x_tbm (tt_4 (List.mem_of_getElem? (i := 5) rfl)) rfl)
theorem lv_X6_unpack : Cond.selects yX6_unpack.cls yX6_unpack yX6_unpack ∈ x_tb := (x_tbm (tt_4 (List.mem_of_getElem? (i := 6) rfl)) rfl)
abbrev mX6_puttings : x_M := (RX6, cX6_puttings, 3, (some .int), false, 0, fun _ => 0)
theorem lb_X6_puttings : x_lkB yX6_puttings cX6_puttings 3 (some .int) 0 := ⟨(x_tbm (tt_4 (List.mem_of_getElem? (i := 12) rfl)) rfl), (x_tbm (tt_1 (List.mem_of_getElem? (i := 16) rfl)) rfl), by decide +kernel, by decide +kernel, by decide +kernel⟩
theorem li_X6_puttings : Cond.instanceMethod yX6_puttings ∈ x_tb := (x_tbm (tt_4 (List.mem_of_getElem? (i := 10) rfl)) rfl)
theorem lv_X6_puttings : Cond.selects yX6_puttings.cls yX6_puttings yX6_puttings ∈ x_tb := (x_tbm (tt_4 (List.mem_of_getElem? (i := 11) rfl)) rfl)
abbrev mX6_head : x_M := (RX6, cX6_head, 2, (some .int), false, 0, fun _ => 0)
theorem lb_X6_head : x_lkB yX6_head cX6_head 2 (some .int) 1 := ⟨(x_tbm (tt_4 (List.mem_of_getElem? (i := 16) rfl)) rfl), (x_tbm (tt_1 (List.mem_of_getElem? (i := 16) rfl)) rfl), by decide +kernel, by decide +kernel, by decide +kernel⟩
theorem li_X6_head : Cond.instanceMethod yX6_head ∈ x_tb := (x_tbm (tt_4 (List.mem_of_getElem? (i := 15) rfl)) rfl)
theorem lv_X6_head : Cond.selects yX6_head.cls yX6_head yX6_head ∈ x_tb := (x_tbm (List.mem_append_left _ (List.mem_of_getElem? (i := 11) rfl)) rfl)
abbrev mX6_unknownPut : x_M := (RX6, cX6_unknownPut, 4, (some .int), false, 0, fun _ => 0)
theorem lb_X6_unknownPut : x_lkB yX6_unknownPut cX6_unknownPut 4 (some .int) 1 := ⟨(x_tbm (tt_4 (List.mem_of_getElem? (i := 20) rfl)) rfl), (x_tbm (tt_1 (List.mem_of_getElem? (i := 16) rfl)) rfl), by decide +kernel, by decide +kernel, by decide +kernel⟩
theorem li_X6_unknownPut : Cond.instanceMethod yX6_unknownPut ∈ x_tb := (x_tbm (tt_4 (List.mem_of_getElem? (i := 18) rfl)) rfl)
theorem lv_X6_unknownPut : Cond.selects yX6_unknownPut.cls yX6_unknownPut yX6_unknownPut ∈ x_tb := (x_tbm (tt_4 (List.mem_of_getElem? (i := 19) rfl)) rfl)
abbrev mX6_itemPut : x_M := (RX6, cX6_itemPut, 2, (some .int), false, 0, fun _ => 0)
theorem lb_X6_itemPut : x_lkB yX6_itemPut cX6_itemPut 2 (some .int) 1 := ⟨(x_tbm (tt_4 (List.mem_of_getElem? (i := 24) rfl)) rfl), (x_tbm (tt_1 (List.mem_of_getElem? (i := 16) rfl)) rfl), by decide +kernel, by decide +kernel, by decide +kernel⟩
theorem li_X6_itemPut : Cond.instanceMethod yX6_itemPut ∈ x_tb := (x_tbm (tt_4 (List.mem_of_getElem? (i := 22) rfl)) rfl)
theorem lv_X6_itemPut : Cond.selects yX6_itemPut.cls yX6_itemPut yX6_itemPut ∈ x_tb := (x_tbm (tt_4 (List.mem_of_getElem? (i := 23) rfl)) rfl)
abbrev mX6_become : x_M := (RX6, cX6_become, 7, none, false, 0, fun _ => 0)
theorem lb_X6_become : x_lkB yX6_become cX6_become 7 none 3 := ⟨(x_tbm (tt_4 (List.mem_of_getElem? (i := 29) rfl)) rfl), (x_tbm (tt_1 (List.mem_of_getElem? (i := 16) rfl)) rfl), by decide +kernel, by decide +kernel, by decide +kernel⟩
theorem li_X6_become : Cond.instanceMethod yX6_become ∈ x_tb := (x_tbm (tt_4 (List.mem_of_getElem? (i := 27) rfl)) rfl)
theorem lv_X6_become : Cond.selects yX6_become.cls yX6_become yX6_become ∈ x_tb := (x_tbm (tt_4 (List.mem_of_getElem? (i := 28) rfl)) rfl)
abbrev mX5_isSpent : x_M := (RX5, cX5_isSpent, 1, (some .boolean), false, 0, fun _ => 0)
theorem lb_X5_isSpent : x_lkB yX5_isSpent cX5_isSpent 1 (some .boolean) 0 := ⟨(x_tbm (tt_4 (List.mem_of_getElem? (i := 34) rfl)) rfl), (x_tbm (tt_1 (List.mem_of_getElem? (i := 15) rfl)) rfl), by decide +kernel, by decide +kernel, by decide +kernel⟩
theorem li_X5_isSpent : Cond.instanceMethod yX5_isSpent ∈ x_tb := (x_tbm (tt_4 (List.mem_of_getElem? (i := 32) rfl)) rfl)
theorem lv_X5_isSpent : Cond.selects yX5_isSpent.cls yX5_isSpent yX5_isSpent ∈ x_tb := (x_tbm (tt_4 (List.mem_of_getElem? (i := 33) rfl)) rfl)
abbrev mX5_length : x_M := (RX5, cX5_length, 1, (some .int), false, 0, fun _ => 0)
theorem lb_X5_length : x_lkB yX5_length cX5_length 1 (some .int) 0 := ⟨(x_tbm (tt_4 (List.mem_of_getElem? (i := 38) rfl)) rfl), (x_tbm (tt_1 (List.mem_of_getElem? (i := 15) rfl)) rfl), by decide +kernel, by decide +kernel, by decide +kernel⟩
theorem li_X5_length : Cond.instanceMethod yX5_length ∈ x_tb := (x_tbm (tt_4 (List.mem_of_getElem? (i := 36) rfl)) rfl)
theorem lv_X5_length : Cond.selects yX5_length.cls yX5_length yX5_length ∈ x_tb := (x_tbm (tt_4 (List.mem_of_getElem? (i := 37) rfl)) rfl)
abbrev mX5_hasAnswer : x_M := (RX5, cX5_hasAnswer, 1, (some .boolean), false, 0, fun _ => 0)
theorem lb_X5_hasAnswer : x_lkB yX5_hasAnswer cX5_hasAnswer 1 (some .boolean) 0 := ⟨(x_tbm (tt_4 (List.mem_of_getElem? (i := 42) rfl)) rfl), (x_tbm (tt_1 (List.mem_of_getElem? (i := 15) rfl)) rfl), by decide +kernel, by decide +kernel, by decide +kernel⟩
theorem li_X5_hasAnswer : Cond.instanceMethod yX5_hasAnswer ∈ x_tb := (x_tbm (tt_4 (List.mem_of_getElem? (i := 40) rfl)) rfl)
theorem lv_X5_hasAnswer : Cond.selects yX5_hasAnswer.cls yX5_hasAnswer yX5_hasAnswer ∈ x_tb := (x_tbm (tt_4 (List.mem_of_getElem? (i := 41) rfl)) rfl)
abbrev mX5_chainBack : x_M := (RX5, cX5_chainBack, 7, (some .int), false, 0, fun _ => 0)
theorem lb_X5_chainBack : x_lkB yX5_chainBack cX5_chainBack 7 (some .int) 1 := ⟨(x_tbm (tt_4 (List.mem_of_getElem? (i := 46) rfl)) rfl), (x_tbm (tt_1 (List.mem_of_getElem? (i := 15) rfl)) rfl), by decide +kernel, by decide +kernel, by decide +kernel⟩
theorem li_X5_chainBack : Cond.instanceMethod yX5_chainBack ∈ x_tb := (x_tbm (tt_4 (List.mem_of_getElem? (i := 44) rfl)) rfl)
theorem lv_X5_chainBack : Cond.selects yX5_chainBack.cls yX5_chainBack yX5_chainBack ∈ x_tb := (x_tbm (tt_4 (List.mem_of_getElem? (i := 45) rfl)) rfl)
abbrev mX5_ringOrFree : x_M := (RX5, cX5_ringOrFree, 2, (some .int), false, 0, fun _ => 0)
theorem lb_X5_ringOrFree : x_lkB yX5_ringOrFree cX5_ringOrFree 2 (some .int) 0 := ⟨(x_tbm (tt_4 (List.mem_of_getElem? (i := 50) rfl)) rfl), (x_tbm (tt_1 (List.mem_of_getElem? (i := 15) rfl)) rfl), by decide +kernel, by decide +kernel, by decide +kernel⟩
theorem li_X5_ringOrFree : Cond.instanceMethod yX5_ringOrFree ∈ x_tb := (x_tbm (tt_4 (List.mem_of_getElem? (i := 48) rfl)) rfl)
theorem lv_X5_ringOrFree : Cond.selects yX5_ringOrFree.cls yX5_ringOrFree yX5_ringOrFree ∈ x_tb := (x_tbm (tt_4 (List.mem_of_getElem? (i := 49) rfl)) rfl)
abbrev mX5_markLeading : x_M := (RX5, cX5_markLeading, 6, none, false, 0, fun _ => 0)
theorem lb_X5_markLeading : x_lkB yX5_markLeading cX5_markLeading 6 none 0 := ⟨(x_tbm (tt_4 (List.mem_of_getElem? (i := 54) rfl)) rfl), (x_tbm (tt_1 (List.mem_of_getElem? (i := 15) rfl)) rfl), by decide +kernel, by decide +kernel, by decide +kernel⟩
theorem li_X5_markLeading : Cond.instanceMethod yX5_markLeading ∈ x_tb := (x_tbm (tt_4 (List.mem_of_getElem? (i := 53) rfl)) rfl)
theorem lv_X5_markLeading : Cond.selects yX5_markLeading.cls yX5_markLeading yX5_markLeading ∈ x_tb := (x_tbm (List.mem_append_left _ (List.mem_of_getElem? (i := 12) rfl)) rfl)
abbrev mX5_isLeading : x_M := (RX5, cX5_isLeading, 2, (some .boolean), false, 0, fun _ => 0)
theorem lb_X5_isLeading : x_lkB yX5_isLeading cX5_isLeading 2 (some .boolean) 1 := ⟨(x_tbm (tt_4 (List.mem_of_getElem? (i := 58) rfl)) rfl), (x_tbm (tt_1 (List.mem_of_getElem? (i := 15) rfl)) rfl), by decide +kernel, by decide +kernel, by decide +kernel⟩
theorem li_X5_isLeading : Cond.instanceMethod yX5_isLeading ∈ x_tb := (x_tbm (tt_4 (List.mem_of_getElem? (i := 57) rfl)) rfl)
theorem lv_X5_isLeading : Cond.selects yX5_isLeading.cls yX5_isLeading yX5_isLeading ∈ x_tb := (x_tbm (List.mem_append_left _ (List.mem_of_getElem? (i := 13) rfl)) rfl)
abbrev mX5_hasRing : x_M := (RX5, cX5_hasRing, 6, (some .boolean), false, 0, fun _ => 0)
theorem lb_X5_hasRing : x_lkB yX5_hasRing cX5_hasRing 6 (some .boolean) 0 := ⟨(x_tbm (tt_4 (List.mem_of_getElem? (i := 62) rfl)) rfl), (x_tbm (tt_1 (List.mem_of_getElem? (i := 15) rfl)) rfl), by decide +kernel, by decide +kernel, by decide +kernel⟩
theorem li_X5_hasRing : Cond.instanceMethod yX5_hasRing ∈ x_tb := (x_tbm (tt_4 (List.mem_of_getElem? (i := 61) rfl)) rfl)
theorem lv_X5_hasRing : Cond.selects yX5_hasRing.cls yX5_hasRing yX5_hasRing ∈ x_tb := (x_tbm (List.mem_append_left _ (List.mem_of_getElem? (i := 14) rfl)) rfl)
abbrev mX2_howManyMet : x_M := (RX2, cX2_howManyMet, 2, (some .int), false, 0, fun _ => 0)
theorem lb_X2_howManyMet : x_lkB yX2_howManyMet cX2_howManyMet 2 (some .int) 1 := ⟨(x_tbm (tt_4 (List.mem_of_getElem? (i := 66) rfl)) rfl), (x_tbm (tt_1 (List.mem_of_getElem? (i := 9) rfl)) rfl), by decide +kernel, by decide +kernel, by decide +kernel⟩
theorem li_X2_howManyMet : Cond.instanceMethod yX2_howManyMet ∈ x_tb := (x_tbm (tt_4 (List.mem_of_getElem? (i := 64) rfl)) rfl)
theorem lv_X2_howManyMet : Cond.selects yX2_howManyMet.cls yX2_howManyMet yX2_howManyMet ∈ x_tb := (x_tbm (tt_4 (List.mem_of_getElem? (i := 65) rfl)) rfl)
abbrev mX11_fewest : x_M := (RX11, cX11_fewest, 3, (some .int), false, 0, fun _ => 0)
theorem lb_X11_fewest : x_lkB yX11_fewest cX11_fewest 3 (some .int) 1 := ⟨(x_tbm (tt_4 (List.mem_of_getElem? (i := 70) rfl)) rfl), (x_tbm (tt_1 (List.mem_of_getElem? (i := 1) rfl)) rfl), by decide +kernel, by decide +kernel, by decide +kernel⟩
theorem li_X11_fewest : Cond.instanceMethod yX11_fewest ∈ x_tb := (x_tbm (tt_4 (List.mem_of_getElem? (i := 68) rfl)) rfl)
theorem lv_X11_fewest : Cond.selects yX11_fewest.cls yX11_fewest yX11_fewest ∈ x_tb := (x_tbm (tt_4 (List.mem_of_getElem? (i := 69) rfl)) rfl)
abbrev mX2_fewestPuttings : x_M := (RX2, cX2_fewestPuttings, 2, (some .int), false, 0, fun _ => 0)
theorem lb_X2_fewestPuttings : x_lkB yX2_fewestPuttings cX2_fewestPuttings 2 (some .int) 1 := ⟨(x_tbm (tt_4 (List.mem_of_getElem? (i := 74) rfl)) rfl), (x_tbm (tt_1 (List.mem_of_getElem? (i := 9) rfl)) rfl), by decide +kernel, by decide +kernel, by decide +kernel⟩
theorem li_X2_fewestPuttings : Cond.instanceMethod yX2_fewestPuttings ∈ x_tb := (x_tbm (tt_4 (List.mem_of_getElem? (i := 72) rfl)) rfl)
theorem lv_X2_fewestPuttings : Cond.selects yX2_fewestPuttings.cls yX2_fewestPuttings yX2_fewestPuttings ∈ x_tb := (x_tbm (tt_4 (List.mem_of_getElem? (i := 73) rfl)) rfl)
abbrev mX11_ring : x_M := (RX11, cX11_ring, 3, (some .int), false, 0, fun _ => 0)
theorem lb_X11_ring : x_lkB yX11_ring cX11_ring 3 (some .int) 1 := ⟨(x_tbm (tt_4 (List.mem_of_getElem? (i := 78) rfl)) rfl), (x_tbm (tt_1 (List.mem_of_getElem? (i := 1) rfl)) rfl), by decide +kernel, by decide +kernel, by decide +kernel⟩
theorem li_X11_ring : Cond.instanceMethod yX11_ring ∈ x_tb := (x_tbm (tt_4 (List.mem_of_getElem? (i := 76) rfl)) rfl)
theorem lv_X11_ring : Cond.selects yX11_ring.cls yX11_ring yX11_ring ∈ x_tb := (x_tbm (tt_4 (List.mem_of_getElem? (i := 77) rfl)) rfl)
abbrev mX2_ringOrFree : x_M := (RX2, cX2_ringOrFree, 2, (some .int), false, 0, fun _ => 0)
theorem lb_X2_ringOrFree : x_lkB yX2_ringOrFree cX2_ringOrFree 2 (some .int) 1 := ⟨(x_tbm (tt_4 (List.mem_of_getElem? (i := 82) rfl)) rfl), (x_tbm (tt_1 (List.mem_of_getElem? (i := 9) rfl)) rfl), by decide +kernel, by decide +kernel, by decide +kernel⟩
theorem li_X2_ringOrFree : Cond.instanceMethod yX2_ringOrFree ∈ x_tb := (x_tbm (tt_4 (List.mem_of_getElem? (i := 80) rfl)) rfl)
theorem lv_X2_ringOrFree : Cond.selects yX2_ringOrFree.cls yX2_ringOrFree yX2_ringOrFree ∈ x_tb := (x_tbm (tt_4 (List.mem_of_getElem? (i := 81) rfl)) rfl)
abbrev mX11_putting : x_M := (RX11, cX11_putting, 4, (some .int), false, 0, fun _ => 0)
theorem lb_X11_putting : x_lkB yX11_putting cX11_putting 4 (some .int) 2 := ⟨(x_tbm (tt_4 (List.mem_of_getElem? (i := 86) rfl)) rfl), (x_tbm (tt_1 (List.mem_of_getElem? (i := 1) rfl)) rfl), by decide +kernel, by decide +kernel, by decide +kernel⟩
theorem li_X11_putting : Cond.instanceMethod yX11_putting ∈ x_tb := (x_tbm (tt_4 (List.mem_of_getElem? (i := 84) rfl)) rfl)
theorem lv_X11_putting : Cond.selects yX11_putting.cls yX11_putting yX11_putting ∈ x_tb := (x_tbm (tt_4 (List.mem_of_getElem? (i := 85) rfl)) rfl)
abbrev mX2_chosen : x_M := (RX2, cX2_chosen, 3, (some .int), false, 0, fun _ => 0)
theorem lb_X2_chosen : x_lkB yX2_chosen cX2_chosen 3 (some .int) 2 := ⟨(x_tbm (tt_4 (List.mem_of_getElem? (i := 90) rfl)) rfl), (x_tbm (tt_1 (List.mem_of_getElem? (i := 9) rfl)) rfl), by decide +kernel, by decide +kernel, by decide +kernel⟩
theorem li_X2_chosen : Cond.instanceMethod yX2_chosen ∈ x_tb := (x_tbm (tt_4 (List.mem_of_getElem? (i := 88) rfl)) rfl)
theorem lv_X2_chosen : Cond.selects yX2_chosen.cls yX2_chosen yX2_chosen ∈ x_tb := (x_tbm (tt_4 (List.mem_of_getElem? (i := 89) rfl)) rfl)
abbrev mX11_found : x_M := (RX11, cX11_found, 5, (some .int), false, 0, fun _ => 0)
theorem lb_X11_found : x_lkB yX11_found cX11_found 5 (some .int) 3 := ⟨(x_tbm (tt_4 (List.mem_of_getElem? (i := 94) rfl)) rfl), (x_tbm (tt_1 (List.mem_of_getElem? (i := 1) rfl)) rfl), by decide +kernel, by decide +kernel, by decide +kernel⟩
theorem li_X11_found : Cond.instanceMethod yX11_found ∈ x_tb := (x_tbm (tt_4 (List.mem_of_getElem? (i := 92) rfl)) rfl)
theorem lv_X11_found : Cond.selects yX11_found.cls yX11_found yX11_found ∈ x_tb := (x_tbm (tt_4 (List.mem_of_getElem? (i := 93) rfl)) rfl)
abbrev mX2_foundByIt : x_M := (RX2, cX2_foundByIt, 4, (some .int), false, 0, fun _ => 0)
theorem lb_X2_foundByIt : x_lkB yX2_foundByIt cX2_foundByIt 4 (some .int) 3 := ⟨(x_tbm (tt_4 (List.mem_of_getElem? (i := 98) rfl)) rfl), (x_tbm (tt_1 (List.mem_of_getElem? (i := 9) rfl)) rfl), by decide +kernel, by decide +kernel, by decide +kernel⟩
theorem li_X2_foundByIt : Cond.instanceMethod yX2_foundByIt ∈ x_tb := (x_tbm (tt_4 (List.mem_of_getElem? (i := 96) rfl)) rfl)
theorem lv_X2_foundByIt : Cond.selects yX2_foundByIt.cls yX2_foundByIt yX2_foundByIt ∈ x_tb := (x_tbm (tt_4 (List.mem_of_getElem? (i := 97) rfl)) rfl)
abbrev mX2_buildWords : x_M := (RX2, cX2_buildWords, 5, (some .boolean), false, 0, fun _ => 0)
theorem lb_X2_buildWords : x_lkB yX2_buildWords cX2_buildWords 5 (some .boolean) 1 := ⟨(x_tbm (tt_4 (List.mem_of_getElem? (i := 102) rfl)) rfl), (x_tbm (tt_1 (List.mem_of_getElem? (i := 9) rfl)) rfl), by decide +kernel, by decide +kernel, by decide +kernel⟩
theorem li_X2_buildWords : Cond.instanceMethod yX2_buildWords ∈ x_tb := (x_tbm (tt_4 (List.mem_of_getElem? (i := 101) rfl)) rfl)
theorem lv_X2_buildWords : Cond.selects yX2_buildWords.cls yX2_buildWords yX2_buildWords ∈ x_tb := (x_tbm (List.mem_append_left _ (List.mem_of_getElem? (i := 15) rfl)) rfl)
abbrev mX2_prependWord : x_M := (RX2, cX2_prependWord, 4, none, false, 0, fun _ => 0)
theorem lb_X2_prependWord : x_lkB yX2_prependWord cX2_prependWord 4 none 2 := ⟨(x_tbm (tt_4 (List.mem_of_getElem? (i := 109) rfl)) rfl), (x_tbm (tt_1 (List.mem_of_getElem? (i := 9) rfl)) rfl), by decide +kernel, by decide +kernel, by decide +kernel⟩
theorem li_X2_prependWord : Cond.instanceMethod yX2_prependWord ∈ x_tb := (x_tbm (tt_4 (List.mem_of_getElem? (i := 108) rfl)) rfl)
theorem lv_X2_prependWord : Cond.selects yX2_prependWord.cls yX2_prependWord yX2_prependWord ∈ x_tb := (x_tbm (List.mem_append_left _ (List.mem_of_getElem? (i := 16) rfl)) rfl)
abbrev mX2_prependLetter : x_M := (RX2, cX2_prependLetter, 3, none, false, 0, fun _ => 0)
theorem lb_X2_prependLetter : x_lkB yX2_prependLetter cX2_prependLetter 3 none 2 := ⟨(x_tbm (tt_4 (List.mem_of_getElem? (i := 116) rfl)) rfl), (x_tbm (tt_1 (List.mem_of_getElem? (i := 9) rfl)) rfl), by decide +kernel, by decide +kernel, by decide +kernel⟩
theorem li_X2_prependLetter : Cond.instanceMethod yX2_prependLetter ∈ x_tb := (x_tbm (tt_4 (List.mem_of_getElem? (i := 115) rfl)) rfl)
theorem lv_X2_prependLetter : Cond.selects yX2_prependLetter.cls yX2_prependLetter yX2_prependLetter ∈ x_tb := (x_tbm (List.mem_append_left _ (List.mem_of_getElem? (i := 17) rfl)) rfl)
abbrev mX11_word : x_M := (RX11, cX11_word, 5, (some .int), false, 0, fun _ => 0)
theorem lb_X11_word : x_lkB yX11_word cX11_word 5 (some .int) 3 := ⟨(x_tbm (tt_4 (List.mem_of_getElem? (i := 120) rfl)) rfl), (x_tbm (tt_1 (List.mem_of_getElem? (i := 1) rfl)) rfl), by decide +kernel, by decide +kernel, by decide +kernel⟩
theorem li_X11_word : Cond.instanceMethod yX11_word ∈ x_tb := (x_tbm (tt_4 (List.mem_of_getElem? (i := 118) rfl)) rfl)
theorem lv_X11_word : Cond.selects yX11_word.cls yX11_word yX11_word ∈ x_tb := (x_tbm (tt_4 (List.mem_of_getElem? (i := 119) rfl)) rfl)
abbrev mX10_become : x_M := (RX10, cX10_become, 5, none, false, 0, fun _ => 0)
theorem lb_X10_become : x_lkB yX10_become cX10_become 5 none 2 := ⟨(x_tbm (tt_4 (List.mem_of_getElem? (i := 124) rfl)) rfl), (x_tbm (tt_1 (List.mem_of_getElem? (i := 11) rfl)) rfl), by decide +kernel, by decide +kernel, by decide +kernel⟩
theorem li_X10_become : Cond.instanceMethod yX10_become ∈ x_tb := (x_tbm (tt_4 (List.mem_of_getElem? (i := 122) rfl)) rfl)
theorem lv_X10_become : Cond.selects yX10_become.cls yX10_become yX10_become ∈ x_tb := (x_tbm (tt_4 (List.mem_of_getElem? (i := 123) rfl)) rfl)
abbrev mX11_of : x_M := (RX11, cX11_of, 4, (some .int), false, 0, fun _ => 0)
theorem lb_X11_of : x_lkB yX11_of cX11_of 4 (some .int) 2 := ⟨(x_tbm (tt_4 (List.mem_of_getElem? (i := 131) rfl)) rfl), (x_tbm (tt_1 (List.mem_of_getElem? (i := 1) rfl)) rfl), by decide +kernel, by decide +kernel, by decide +kernel⟩
theorem li_X11_of : Cond.instanceMethod yX11_of ∈ x_tb := (x_tbm (tt_4 (List.mem_of_getElem? (i := 129) rfl)) rfl)
theorem lv_X11_of : Cond.selects yX11_of.cls yX11_of yX11_of ∈ x_tb := (x_tbm (tt_4 (List.mem_of_getElem? (i := 130) rfl)) rfl)
abbrev mX10_length : x_M := (RX10, cX10_length, 1, (some .int), false, 0, fun _ => 0)
theorem lb_X10_length : x_lkB yX10_length cX10_length 1 (some .int) 0 := ⟨(x_tbm (tt_4 (List.mem_of_getElem? (i := 135) rfl)) rfl), (x_tbm (tt_1 (List.mem_of_getElem? (i := 11) rfl)) rfl), by decide +kernel, by decide +kernel, by decide +kernel⟩
theorem li_X10_length : Cond.instanceMethod yX10_length ∈ x_tb := (x_tbm (tt_4 (List.mem_of_getElem? (i := 133) rfl)) rfl)
theorem lv_X10_length : Cond.selects yX10_length.cls yX10_length yX10_length ∈ x_tb := (x_tbm (tt_4 (List.mem_of_getElem? (i := 134) rfl)) rfl)
abbrev mX10_rootLength : x_M := (RX10, cX10_rootLength, 2, (some .int), false, 0, fun _ => 0)
theorem lb_X10_rootLength : x_lkB yX10_rootLength cX10_rootLength 2 (some .int) 0 := ⟨(x_tbm (tt_4 (List.mem_of_getElem? (i := 139) rfl)) rfl), (x_tbm (tt_1 (List.mem_of_getElem? (i := 11) rfl)) rfl), by decide +kernel, by decide +kernel, by decide +kernel⟩
theorem li_X10_rootLength : Cond.instanceMethod yX10_rootLength ∈ x_tb := (x_tbm (tt_4 (List.mem_of_getElem? (i := 137) rfl)) rfl)
theorem lv_X10_rootLength : Cond.selects yX10_rootLength.cls yX10_rootLength yX10_rootLength ∈ x_tb := (x_tbm (tt_4 (List.mem_of_getElem? (i := 138) rfl)) rfl)
abbrev mX10_hasPeriod : x_M := (RX10, cX10_hasPeriod, 3, (some .boolean), false, 0, fun _ => 0)
theorem lb_X10_hasPeriod : x_lkB yX10_hasPeriod cX10_hasPeriod 3 (some .boolean) 1 := ⟨(x_tbm (tt_4 (List.mem_of_getElem? (i := 143) rfl)) rfl), (x_tbm (tt_1 (List.mem_of_getElem? (i := 11) rfl)) rfl), by decide +kernel, by decide +kernel, by decide +kernel⟩
theorem li_X10_hasPeriod : Cond.instanceMethod yX10_hasPeriod ∈ x_tb := (x_tbm (tt_4 (List.mem_of_getElem? (i := 142) rfl)) rfl)
theorem lv_X10_hasPeriod : Cond.selects yX10_hasPeriod.cls yX10_hasPeriod yX10_hasPeriod ∈ x_tb := (x_tbm (List.mem_append_left _ (List.mem_of_getElem? (i := 18) rfl)) rfl)
abbrev mX10_leastPeriod : x_M := (RX10, cX10_leastPeriod, 2, (some .int), false, 0, fun _ => 0)
theorem lb_X10_leastPeriod : x_lkB yX10_leastPeriod cX10_leastPeriod 2 (some .int) 0 := ⟨(x_tbm (tt_4 (List.mem_of_getElem? (i := 147) rfl)) rfl), (x_tbm (tt_1 (List.mem_of_getElem? (i := 11) rfl)) rfl), by decide +kernel, by decide +kernel, by decide +kernel⟩
theorem li_X10_leastPeriod : Cond.instanceMethod yX10_leastPeriod ∈ x_tb := (x_tbm (tt_4 (List.mem_of_getElem? (i := 145) rfl)) rfl)
theorem lv_X10_leastPeriod : Cond.selects yX10_leastPeriod.cls yX10_leastPeriod yX10_leastPeriod ∈ x_tb := (x_tbm (tt_4 (List.mem_of_getElem? (i := 146) rfl)) rfl)
abbrev mX10_leastTurn : x_M := (RX10, cX10_leastTurn, 3, (some .int), false, 0, fun _ => 0)
theorem lb_X10_leastTurn : x_lkB yX10_leastTurn cX10_leastTurn 3 (some .int) 0 := ⟨(x_tbm (tt_4 (List.mem_of_getElem? (i := 151) rfl)) rfl), (x_tbm (tt_1 (List.mem_of_getElem? (i := 11) rfl)) rfl), by decide +kernel, by decide +kernel, by decide +kernel⟩
theorem li_X10_leastTurn : Cond.instanceMethod yX10_leastTurn ∈ x_tb := (x_tbm (tt_4 (List.mem_of_getElem? (i := 149) rfl)) rfl)
theorem lv_X10_leastTurn : Cond.selects yX10_leastTurn.cls yX10_leastTurn yX10_leastTurn ∈ x_tb := (x_tbm (tt_4 (List.mem_of_getElem? (i := 150) rfl)) rfl)
abbrev mX10_isTurnAhead : x_M := (RX10, cX10_isTurnAhead, 5, (some .boolean), false, 0, fun _ => 0)
theorem lb_X10_isTurnAhead : x_lkB yX10_isTurnAhead cX10_isTurnAhead 5 (some .boolean) 2 := ⟨(x_tbm (tt_4 (List.mem_of_getElem? (i := 155) rfl)) rfl), (x_tbm (tt_1 (List.mem_of_getElem? (i := 11) rfl)) rfl), by decide +kernel, by decide +kernel, by decide +kernel⟩
theorem li_X10_isTurnAhead : Cond.instanceMethod yX10_isTurnAhead ∈ x_tb := (x_tbm (tt_4 (List.mem_of_getElem? (i := 154) rfl)) rfl)
theorem lv_X10_isTurnAhead : Cond.selects yX10_isTurnAhead.cls yX10_isTurnAhead yX10_isTurnAhead ∈ x_tb := (x_tbm (List.mem_append_left _ (List.mem_of_getElem? (i := 19) rfl)) rfl)
abbrev mX10_turnedLetter : x_M := (RX10, cX10_turnedLetter, 4, (some .int), false, 0, fun _ => 0)
theorem lb_X10_turnedLetter : x_lkB yX10_turnedLetter cX10_turnedLetter 4 (some .int) 2 := ⟨(x_tbm (tt_4 (List.mem_of_getElem? (i := 159) rfl)) rfl), (x_tbm (tt_1 (List.mem_of_getElem? (i := 11) rfl)) rfl), by decide +kernel, by decide +kernel, by decide +kernel⟩
theorem li_X10_turnedLetter : Cond.instanceMethod yX10_turnedLetter ∈ x_tb := (x_tbm (tt_4 (List.mem_of_getElem? (i := 158) rfl)) rfl)
theorem lv_X10_turnedLetter : Cond.selects yX10_turnedLetter.cls yX10_turnedLetter yX10_turnedLetter ∈ x_tb := (x_tbm (List.mem_append_left _ (List.mem_of_getElem? (i := 20) rfl)) rfl)
abbrev mX10_fallingParts : x_M := (RX10, cX10_fallingParts, 3, (some .int), false, 0, fun _ => 0)
theorem lb_X10_fallingParts : x_lkB yX10_fallingParts cX10_fallingParts 3 (some .int) 0 := ⟨(x_tbm (tt_4 (List.mem_of_getElem? (i := 163) rfl)) rfl), (x_tbm (tt_1 (List.mem_of_getElem? (i := 11) rfl)) rfl), by decide +kernel, by decide +kernel, by decide +kernel⟩
theorem li_X10_fallingParts : Cond.instanceMethod yX10_fallingParts ∈ x_tb := (x_tbm (tt_4 (List.mem_of_getElem? (i := 161) rfl)) rfl)
theorem lv_X10_fallingParts : Cond.selects yX10_fallingParts.cls yX10_fallingParts yX10_fallingParts ∈ x_tb := (x_tbm (tt_4 (List.mem_of_getElem? (i := 162) rfl)) rfl)
abbrev mX10_fallingLength : x_M := (RX10, cX10_fallingLength, 4, (some .int), false, 0, fun _ => 0)
theorem lb_X10_fallingLength : x_lkB yX10_fallingLength cX10_fallingLength 4 (some .int) 1 := ⟨(x_tbm (tt_4 (List.mem_of_getElem? (i := 167) rfl)) rfl), (x_tbm (tt_1 (List.mem_of_getElem? (i := 11) rfl)) rfl), by decide +kernel, by decide +kernel, by decide +kernel⟩
theorem li_X10_fallingLength : Cond.instanceMethod yX10_fallingLength ∈ x_tb := (x_tbm (tt_4 (List.mem_of_getElem? (i := 166) rfl)) rfl)
theorem lv_X10_fallingLength : Cond.selects yX10_fallingLength.cls yX10_fallingLength yX10_fallingLength ∈ x_tb := (x_tbm (List.mem_append_left _ (List.mem_of_getElem? (i := 21) rfl)) rfl)
abbrev mX10_periods : x_M := (RX10, cX10_periods, 3, (some .int), false, 0, fun _ => 0)
theorem lb_X10_periods : x_lkB yX10_periods cX10_periods 3 (some .int) 0 := ⟨(x_tbm (tt_4 (List.mem_of_getElem? (i := 171) rfl)) rfl), (x_tbm (tt_1 (List.mem_of_getElem? (i := 11) rfl)) rfl), by decide +kernel, by decide +kernel, by decide +kernel⟩
theorem li_X10_periods : Cond.instanceMethod yX10_periods ∈ x_tb := (x_tbm (tt_4 (List.mem_of_getElem? (i := 169) rfl)) rfl)
theorem lv_X10_periods : Cond.selects yX10_periods.cls yX10_periods yX10_periods ∈ x_tb := (x_tbm (tt_4 (List.mem_of_getElem? (i := 170) rfl)) rfl)
abbrev mX11_part : x_M := (RX11, cX11_part, 3, (some .int), false, 0, fun _ => 0)
theorem lb_X11_part : x_lkB yX11_part cX11_part 3 (some .int) 2 := ⟨(x_tbm (tt_4 (List.mem_of_getElem? (i := 175) rfl)) rfl), (x_tbm (tt_1 (List.mem_of_getElem? (i := 1) rfl)) rfl), by decide +kernel, by decide +kernel, by decide +kernel⟩
theorem li_X11_part : Cond.instanceMethod yX11_part ∈ x_tb := (x_tbm (tt_4 (List.mem_of_getElem? (i := 173) rfl)) rfl)
theorem lv_X11_part : Cond.selects yX11_part.cls yX11_part yX11_part ∈ x_tb := (x_tbm (tt_4 (List.mem_of_getElem? (i := 174) rfl)) rfl)
abbrev mX10_fallingPart : x_M := (RX10, cX10_fallingPart, 4, (some .int), false, 0, fun _ => 0)
theorem lb_X10_fallingPart : x_lkB yX10_fallingPart cX10_fallingPart 4 (some .int) 1 := ⟨(x_tbm (tt_4 (List.mem_of_getElem? (i := 179) rfl)) rfl), (x_tbm (tt_1 (List.mem_of_getElem? (i := 11) rfl)) rfl), by decide +kernel, by decide +kernel, by decide +kernel⟩
theorem li_X10_fallingPart : Cond.instanceMethod yX10_fallingPart ∈ x_tb := (x_tbm (tt_4 (List.mem_of_getElem? (i := 177) rfl)) rfl)
theorem lv_X10_fallingPart : Cond.selects yX10_fallingPart.cls yX10_fallingPart yX10_fallingPart ∈ x_tb := (x_tbm (tt_4 (List.mem_of_getElem? (i := 178) rfl)) rfl)
abbrev mX11_agree : x_M := (RX11, cX11_agree, 3, (some .int), false, 0, fun _ => 0)
theorem lb_X11_agree : x_lkB yX11_agree cX11_agree 3 (some .int) 2 := ⟨(x_tbm (tt_4 (List.mem_of_getElem? (i := 183) rfl)) rfl), (x_tbm (tt_1 (List.mem_of_getElem? (i := 1) rfl)) rfl), by decide +kernel, by decide +kernel, by decide +kernel⟩
theorem li_X11_agree : Cond.instanceMethod yX11_agree ∈ x_tb := (x_tbm (tt_4 (List.mem_of_getElem? (i := 181) rfl)) rfl)
theorem lv_X11_agree : Cond.selects yX11_agree.cls yX11_agree yX11_agree ∈ x_tb := (x_tbm (tt_4 (List.mem_of_getElem? (i := 182) rfl)) rfl)
abbrev mX10_agreesWith : x_M := (RX10, cX10_agreesWith, 6, (some .boolean), false, 0, fun _ => 0)
theorem lb_X10_agreesWith : x_lkB yX10_agreesWith cX10_agreesWith 6 (some .boolean) 1 := ⟨(x_tbm (tt_4 (List.mem_of_getElem? (i := 187) rfl)) rfl), (x_tbm (tt_1 (List.mem_of_getElem? (i := 11) rfl)) rfl), by decide +kernel, by decide +kernel, by decide +kernel⟩
theorem li_X10_agreesWith : Cond.instanceMethod yX10_agreesWith ∈ x_tb := (x_tbm (tt_4 (List.mem_of_getElem? (i := 185) rfl)) rfl)
theorem lv_X10_agreesWith : Cond.selects yX10_agreesWith.cls yX10_agreesWith yX10_agreesWith ∈ x_tb := (x_tbm (tt_4 (List.mem_of_getElem? (i := 186) rfl)) rfl)
abbrev mX11_turned : x_M := (RX11, cX11_turned, 3, (some .int), false, 0, fun _ => 0)
theorem lb_X11_turned : x_lkB yX11_turned cX11_turned 3 (some .int) 2 := ⟨(x_tbm (tt_4 (List.mem_of_getElem? (i := 191) rfl)) rfl), (x_tbm (tt_1 (List.mem_of_getElem? (i := 1) rfl)) rfl), by decide +kernel, by decide +kernel, by decide +kernel⟩
theorem li_X11_turned : Cond.instanceMethod yX11_turned ∈ x_tb := (x_tbm (tt_4 (List.mem_of_getElem? (i := 189) rfl)) rfl)
theorem lv_X11_turned : Cond.selects yX11_turned.cls yX11_turned yX11_turned ∈ x_tb := (x_tbm (tt_4 (List.mem_of_getElem? (i := 190) rfl)) rfl)
abbrev mX10_turnInto : x_M := (RX10, cX10_turnInto, 3, (some .int), false, 0, fun _ => 0)
theorem lb_X10_turnInto : x_lkB yX10_turnInto cX10_turnInto 3 (some .int) 1 := ⟨(x_tbm (tt_4 (List.mem_of_getElem? (i := 195) rfl)) rfl), (x_tbm (tt_1 (List.mem_of_getElem? (i := 11) rfl)) rfl), by decide +kernel, by decide +kernel, by decide +kernel⟩
theorem li_X10_turnInto : Cond.instanceMethod yX10_turnInto ∈ x_tb := (x_tbm (tt_4 (List.mem_of_getElem? (i := 193) rfl)) rfl)
theorem lv_X10_turnInto : Cond.selects yX10_turnInto.cls yX10_turnInto yX10_turnInto ∈ x_tb := (x_tbm (tt_4 (List.mem_of_getElem? (i := 194) rfl)) rfl)
abbrev mX10_isTurn : x_M := (RX10, cX10_isTurn, 4, (some .boolean), false, 0, fun _ => 0)
theorem lb_X10_isTurn : x_lkB yX10_isTurn cX10_isTurn 4 (some .boolean) 2 := ⟨(x_tbm (tt_4 (List.mem_of_getElem? (i := 199) rfl)) rfl), (x_tbm (tt_1 (List.mem_of_getElem? (i := 11) rfl)) rfl), by decide +kernel, by decide +kernel, by decide +kernel⟩
theorem li_X10_isTurn : Cond.instanceMethod yX10_isTurn ∈ x_tb := (x_tbm (tt_4 (List.mem_of_getElem? (i := 198) rfl)) rfl)
theorem lv_X10_isTurn : Cond.selects yX10_isTurn.cls yX10_isTurn yX10_isTurn ∈ x_tb := (x_tbm (List.mem_append_left _ (List.mem_of_getElem? (i := 22) rfl)) rfl)
abbrev mX11_classes : x_M := (RX11, cX11_classes, 5, (some .int), false, 0, fun _ => 0)
theorem lb_X11_classes : x_lkB yX11_classes cX11_classes 5 (some .int) 4 := ⟨(x_tbm (tt_4 (List.mem_of_getElem? (i := 203) rfl)) rfl), (x_tbm (tt_1 (List.mem_of_getElem? (i := 1) rfl)) rfl), by decide +kernel, by decide +kernel, by decide +kernel⟩
theorem li_X11_classes : Cond.instanceMethod yX11_classes ∈ x_tb := (x_tbm (tt_4 (List.mem_of_getElem? (i := 201) rfl)) rfl)
theorem lv_X11_classes : Cond.selects yX11_classes.cls yX11_classes yX11_classes ∈ x_tb := (x_tbm (tt_4 (List.mem_of_getElem? (i := 202) rfl)) rfl)
abbrev mX0_joinApart : x_M := (RX0, cX0_joinApart, 3, none, false, 0, fun _ => 0)
theorem lb_X0_joinApart : x_lkB yX0_joinApart cX0_joinApart 3 none 1 := ⟨(x_tbm (tt_4 (List.mem_of_getElem? (i := 208) rfl)) rfl), (x_tbm (tt_1 (List.mem_of_getElem? (i := 7) rfl)) rfl), by decide +kernel, by decide +kernel, by decide +kernel⟩
theorem li_X0_joinApart : Cond.instanceMethod yX0_joinApart ∈ x_tb := (x_tbm (tt_4 (List.mem_of_getElem? (i := 206) rfl)) rfl)
theorem lv_X0_joinApart : Cond.selects yX0_joinApart.cls yX0_joinApart yX0_joinApart ∈ x_tb := (x_tbm (tt_4 (List.mem_of_getElem? (i := 207) rfl)) rfl)
abbrev mX0_classesAheadOf : x_M := (RX0, cX0_classesAheadOf, 4, (some .int), false, 0, fun _ => 0)
theorem lb_X0_classesAheadOf : x_lkB yX0_classesAheadOf cX0_classesAheadOf 4 (some .int) 1 := ⟨(x_tbm (tt_4 (List.mem_of_getElem? (i := 214) rfl)) rfl), (x_tbm (tt_1 (List.mem_of_getElem? (i := 7) rfl)) rfl), by decide +kernel, by decide +kernel, by decide +kernel⟩
theorem li_X0_classesAheadOf : Cond.instanceMethod yX0_classesAheadOf ∈ x_tb := (x_tbm (tt_4 (List.mem_of_getElem? (i := 212) rfl)) rfl)
theorem lv_X0_classesAheadOf : Cond.selects yX0_classesAheadOf.cls yX0_classesAheadOf yX0_classesAheadOf ∈ x_tb := (x_tbm (tt_4 (List.mem_of_getElem? (i := 213) rfl)) rfl)
abbrev mX11_pattern : x_M := (RX11, cX11_pattern, 2, (some .int), false, 0, fun _ => 0)
theorem lb_X11_pattern : x_lkB yX11_pattern cX11_pattern 2 (some .int) 1 := ⟨(x_tbm (tt_4 (List.mem_of_getElem? (i := 218) rfl)) rfl), (x_tbm (tt_1 (List.mem_of_getElem? (i := 1) rfl)) rfl), by decide +kernel, by decide +kernel, by decide +kernel⟩
theorem li_X11_pattern : Cond.instanceMethod yX11_pattern ∈ x_tb := (x_tbm (tt_4 (List.mem_of_getElem? (i := 216) rfl)) rfl)
theorem lv_X11_pattern : Cond.selects yX11_pattern.cls yX11_pattern yX11_pattern ∈ x_tb := (x_tbm (tt_4 (List.mem_of_getElem? (i := 217) rfl)) rfl)
abbrev mX9_isOneSide : x_M := (RX9, cX9_isOneSide, 3, (some .boolean), false, 0, fun _ => 0)
theorem lb_X9_isOneSide : x_lkB yX9_isOneSide cX9_isOneSide 3 (some .boolean) 0 := ⟨(x_tbm (tt_4 (List.mem_of_getElem? (i := 222) rfl)) rfl), (x_tbm (tt_1 (List.mem_of_getElem? (i := 2) rfl)) rfl), by decide +kernel, by decide +kernel, by decide +kernel⟩
theorem li_X9_isOneSide : Cond.instanceMethod yX9_isOneSide ∈ x_tb := (x_tbm (tt_4 (List.mem_of_getElem? (i := 220) rfl)) rfl)
theorem lv_X9_isOneSide : Cond.selects yX9_isOneSide.cls yX9_isOneSide yX9_isOneSide ∈ x_tb := (x_tbm (tt_4 (List.mem_of_getElem? (i := 221) rfl)) rfl)
abbrev mX9_tellSide : x_M := (RX9, cX9_tellSide, 3, none, false, 0, fun _ => 0)
theorem lb_X9_tellSide : x_lkB yX9_tellSide cX9_tellSide 3 none 1 := ⟨(x_tbm (tt_4 (List.mem_of_getElem? (i := 226) rfl)) rfl), (x_tbm (tt_1 (List.mem_of_getElem? (i := 2) rfl)) rfl), by decide +kernel, by decide +kernel, by decide +kernel⟩
theorem li_X9_tellSide : Cond.instanceMethod yX9_tellSide ∈ x_tb := (x_tbm (tt_4 (List.mem_of_getElem? (i := 224) rfl)) rfl)
theorem lv_X9_tellSide : Cond.selects yX9_tellSide.cls yX9_tellSide yX9_tellSide ∈ x_tb := (x_tbm (tt_4 (List.mem_of_getElem? (i := 225) rfl)) rfl)
abbrev mX11_makes : x_M := (RX11, cX11_makes, 3, (some .int), false, 0, fun _ => 0)
theorem lb_X11_makes : x_lkB yX11_makes cX11_makes 3 (some .int) 2 := ⟨(x_tbm (tt_4 (List.mem_of_getElem? (i := 232) rfl)) rfl), (x_tbm (tt_1 (List.mem_of_getElem? (i := 1) rfl)) rfl), by decide +kernel, by decide +kernel, by decide +kernel⟩
theorem li_X11_makes : Cond.instanceMethod yX11_makes ∈ x_tb := (x_tbm (tt_4 (List.mem_of_getElem? (i := 230) rfl)) rfl)
theorem lv_X11_makes : Cond.selects yX11_makes.cls yX11_makes yX11_makes ∈ x_tb := (x_tbm (tt_4 (List.mem_of_getElem? (i := 231) rfl)) rfl)
abbrev mX10_waysBy : x_M := (RX10, cX10_waysBy, 2, (some .int), false, 0, fun _ => 0)
theorem lb_X10_waysBy : x_lkB yX10_waysBy cX10_waysBy 2 (some .int) 1 := ⟨(x_tbm (tt_4 (List.mem_of_getElem? (i := 236) rfl)) rfl), (x_tbm (tt_1 (List.mem_of_getElem? (i := 11) rfl)) rfl), by decide +kernel, by decide +kernel, by decide +kernel⟩
theorem li_X10_waysBy : Cond.instanceMethod yX10_waysBy ∈ x_tb := (x_tbm (tt_4 (List.mem_of_getElem? (i := 234) rfl)) rfl)
theorem lv_X10_waysBy : Cond.selects yX10_waysBy.cls yX10_waysBy yX10_waysBy ∈ x_tb := (x_tbm (tt_4 (List.mem_of_getElem? (i := 235) rfl)) rfl)
abbrev mX8_waysToMake : x_M := (RX8, cX8_waysToMake, 12, (some .int), false, 0, fun _ => 0)
theorem lb_X8_waysToMake : x_lkB yX8_waysToMake cX8_waysToMake 12 (some .int) 2 := ⟨(x_tbm (tt_5 (List.mem_of_getElem? (i := 0) rfl)) rfl), (x_tbm (tt_1 (List.mem_of_getElem? (i := 4) rfl)) rfl), by decide +kernel, by decide +kernel, by decide +kernel⟩
theorem li_X8_waysToMake : Cond.instanceMethod yX8_waysToMake ∈ x_tb := (x_tbm (tt_4 (List.mem_of_getElem? (i := 238) rfl)) rfl)
theorem lv_X8_waysToMake : Cond.selects yX8_waysToMake.cls yX8_waysToMake yX8_waysToMake ∈ x_tb := (x_tbm (tt_4 (List.mem_of_getElem? (i := 239) rfl)) rfl)
abbrev mX8_least : x_M := (RX8, cX8_least, 2, (some .int), false, 0, fun _ => 0)
theorem lb_X8_least : x_lkB yX8_least cX8_least 2 (some .int) 1 := ⟨(x_tbm (tt_5 (List.mem_of_getElem? (i := 4) rfl)) rfl), (x_tbm (tt_1 (List.mem_of_getElem? (i := 4) rfl)) rfl), by decide +kernel, by decide +kernel, by decide +kernel⟩
theorem li_X8_least : Cond.instanceMethod yX8_least ∈ x_tb := (x_tbm (tt_5 (List.mem_of_getElem? (i := 3) rfl)) rfl)
theorem lv_X8_least : Cond.selects yX8_least.cls yX8_least yX8_least ∈ x_tb := (x_tbm (List.mem_append_left _ (List.mem_of_getElem? (i := 23) rfl)) rfl)
abbrev mX8_most : x_M := (RX8, cX8_most, 3, (some .int), false, 0, fun _ => 0)
theorem lb_X8_most : x_lkB yX8_most cX8_most 3 (some .int) 2 := ⟨(x_tbm (tt_5 (List.mem_of_getElem? (i := 8) rfl)) rfl), (x_tbm (tt_1 (List.mem_of_getElem? (i := 4) rfl)) rfl), by decide +kernel, by decide +kernel, by decide +kernel⟩
theorem li_X8_most : Cond.instanceMethod yX8_most ∈ x_tb := (x_tbm (tt_5 (List.mem_of_getElem? (i := 7) rfl)) rfl)
theorem lv_X8_most : Cond.selects yX8_most.cls yX8_most yX8_most ∈ x_tb := (x_tbm (List.mem_append_left _ (List.mem_of_getElem? (i := 24) rfl)) rfl)
abbrev mX8_setLengths : x_M := (RX8, cX8_setLengths, 5, none, false, 0, fun _ => 0)
theorem lb_X8_setLengths : x_lkB yX8_setLengths cX8_setLengths 5 none 4 := ⟨(x_tbm (tt_5 (List.mem_of_getElem? (i := 12) rfl)) rfl), (x_tbm (tt_1 (List.mem_of_getElem? (i := 4) rfl)) rfl), by decide +kernel, by decide +kernel, by decide +kernel⟩
theorem li_X8_setLengths : Cond.instanceMethod yX8_setLengths ∈ x_tb := (x_tbm (tt_5 (List.mem_of_getElem? (i := 11) rfl)) rfl)
theorem lv_X8_setLengths : Cond.selects yX8_setLengths.cls yX8_setLengths yX8_setLengths ∈ x_tb := (x_tbm (List.mem_append_left _ (List.mem_of_getElem? (i := 25) rfl)) rfl)
abbrev mX8_reads : x_M := (RX8, cX8_reads, 6, (some .boolean), false, 0, fun _ => 0)
theorem lb_X8_reads : x_lkB yX8_reads cX8_reads 6 (some .boolean) 2 := ⟨(x_tbm (tt_5 (List.mem_of_getElem? (i := 16) rfl)) rfl), (x_tbm (tt_1 (List.mem_of_getElem? (i := 4) rfl)) rfl), by decide +kernel, by decide +kernel, by decide +kernel⟩
theorem li_X8_reads : Cond.instanceMethod yX8_reads ∈ x_tb := (x_tbm (tt_5 (List.mem_of_getElem? (i := 15) rfl)) rfl)
theorem lv_X8_reads : Cond.selects yX8_reads.cls yX8_reads yX8_reads ∈ x_tb := (x_tbm (List.mem_append_left _ (List.mem_of_getElem? (i := 26) rfl)) rfl)
abbrev mX11_sameStretch : x_M := (RX11, cX11_sameStretch, 5, (some .boolean), false, 0, fun _ => 0)
theorem lb_X11_sameStretch : x_lkB yX11_sameStretch cX11_sameStretch 5 (some .boolean) 4 := ⟨(x_tbm (tt_5 (List.mem_of_getElem? (i := 19) rfl)) rfl), (x_tbm (tt_1 (List.mem_of_getElem? (i := 1) rfl)) rfl), by decide +kernel, by decide +kernel, by decide +kernel⟩
theorem ls_X11_sameStretch : Cond.static yX11_sameStretch ∈ x_tb := (x_tbm (tt_5 (List.mem_of_getElem? (i := 18) rfl)) rfl)
abbrev mX11_carries : x_M := (RX11, cX11_carries, 3, (some .int), false, 0, fun _ => 0)
theorem lb_X11_carries : x_lkB yX11_carries cX11_carries 3 (some .int) 2 := ⟨(x_tbm (tt_5 (List.mem_of_getElem? (i := 23) rfl)) rfl), (x_tbm (tt_1 (List.mem_of_getElem? (i := 1) rfl)) rfl), by decide +kernel, by decide +kernel, by decide +kernel⟩
theorem li_X11_carries : Cond.instanceMethod yX11_carries ∈ x_tb := (x_tbm (tt_5 (List.mem_of_getElem? (i := 21) rfl)) rfl)
theorem lv_X11_carries : Cond.selects yX11_carries.cls yX11_carries yX11_carries ∈ x_tb := (x_tbm (tt_5 (List.mem_of_getElem? (i := 22) rfl)) rfl)
abbrev mX8_canBecome : x_M := (RX8, cX8_canBecome, 2, (some .boolean), false, 0, fun _ => 0)
theorem lb_X8_canBecome : x_lkB yX8_canBecome cX8_canBecome 2 (some .boolean) 1 := ⟨(x_tbm (tt_5 (List.mem_of_getElem? (i := 27) rfl)) rfl), (x_tbm (tt_1 (List.mem_of_getElem? (i := 4) rfl)) rfl), by decide +kernel, by decide +kernel, by decide +kernel⟩
theorem li_X8_canBecome : Cond.instanceMethod yX8_canBecome ∈ x_tb := (x_tbm (tt_5 (List.mem_of_getElem? (i := 25) rfl)) rfl)
theorem lv_X8_canBecome : Cond.selects yX8_canBecome.cls yX8_canBecome yX8_canBecome ∈ x_tb := (x_tbm (tt_5 (List.mem_of_getElem? (i := 26) rfl)) rfl)
abbrev mX11_sample : x_M := (RX11, cX11_sample, 3, (some .int), false, 0, fun _ => 0)
theorem lb_X11_sample : x_lkB yX11_sample cX11_sample 3 (some .int) 2 := ⟨(x_tbm (tt_5 (List.mem_of_getElem? (i := 32) rfl)) rfl), (x_tbm (tt_1 (List.mem_of_getElem? (i := 1) rfl)) rfl), by decide +kernel, by decide +kernel, by decide +kernel⟩
theorem li_X11_sample : Cond.instanceMethod yX11_sample ∈ x_tb := (x_tbm (tt_5 (List.mem_of_getElem? (i := 30) rfl)) rfl)
theorem lv_X11_sample : Cond.selects yX11_sample.cls yX11_sample yX11_sample ∈ x_tb := (x_tbm (tt_5 (List.mem_of_getElem? (i := 31) rfl)) rfl)
abbrev mX7_isFull : x_M := (RX7, cX7_isFull, 1, (some .boolean), false, 0, fun _ => 0)
theorem lb_X7_isFull : x_lkB yX7_isFull cX7_isFull 1 (some .boolean) 0 := ⟨(x_tbm (tt_5 (List.mem_of_getElem? (i := 36) rfl)) rfl), (x_tbm (tt_1 (List.mem_of_getElem? (i := 10) rfl)) rfl), by decide +kernel, by decide +kernel, by decide +kernel⟩
theorem li_X7_isFull : Cond.instanceMethod yX7_isFull ∈ x_tb := (x_tbm (tt_5 (List.mem_of_getElem? (i := 34) rfl)) rfl)
theorem lv_X7_isFull : Cond.selects yX7_isFull.cls yX7_isFull yX7_isFull ∈ x_tb := (x_tbm (tt_5 (List.mem_of_getElem? (i := 35) rfl)) rfl)
abbrev mX7_add : x_M := (RX7, cX7_add, 4, none, false, 0, fun _ => 0)
theorem lb_X7_add : x_lkB yX7_add cX7_add 4 none 2 := ⟨(x_tbm (tt_5 (List.mem_of_getElem? (i := 40) rfl)) rfl), (x_tbm (tt_1 (List.mem_of_getElem? (i := 10) rfl)) rfl), by decide +kernel, by decide +kernel, by decide +kernel⟩
theorem li_X7_add : Cond.instanceMethod yX7_add ∈ x_tb := (x_tbm (tt_5 (List.mem_of_getElem? (i := 38) rfl)) rfl)
theorem lv_X7_add : Cond.selects yX7_add.cls yX7_add yX7_add ∈ x_tb := (x_tbm (tt_5 (List.mem_of_getElem? (i := 39) rfl)) rfl)
abbrev mX7_length : x_M := (RX7, cX7_length, 1, (some .int), false, 0, fun _ => 0)
theorem lb_X7_length : x_lkB yX7_length cX7_length 1 (some .int) 0 := ⟨(x_tbm (tt_5 (List.mem_of_getElem? (i := 47) rfl)) rfl), (x_tbm (tt_1 (List.mem_of_getElem? (i := 10) rfl)) rfl), by decide +kernel, by decide +kernel, by decide +kernel⟩
theorem li_X7_length : Cond.instanceMethod yX7_length ∈ x_tb := (x_tbm (tt_5 (List.mem_of_getElem? (i := 45) rfl)) rfl)
theorem lv_X7_length : Cond.selects yX7_length.cls yX7_length yX7_length ∈ x_tb := (x_tbm (tt_5 (List.mem_of_getElem? (i := 46) rfl)) rfl)
abbrev mX11_clear : x_M := (RX11, cX11_clear, 2, (some .int), false, 0, fun _ => 0)
theorem lb_X11_clear : x_lkB yX11_clear cX11_clear 2 (some .int) 0 := ⟨(x_tbm (tt_5 (List.mem_of_getElem? (i := 51) rfl)) rfl), (x_tbm (tt_1 (List.mem_of_getElem? (i := 1) rfl)) rfl), by decide +kernel, by decide +kernel, by decide +kernel⟩
theorem li_X11_clear : Cond.instanceMethod yX11_clear ∈ x_tb := (x_tbm (tt_5 (List.mem_of_getElem? (i := 49) rfl)) rfl)
theorem lv_X11_clear : Cond.selects yX11_clear.cls yX11_clear yX11_clear ∈ x_tb := (x_tbm (tt_5 (List.mem_of_getElem? (i := 50) rfl)) rfl)
abbrev mX7_empty : x_M := (RX7, cX7_empty, 1, none, false, 0, fun _ => 0)
theorem lb_X7_empty : x_lkB yX7_empty cX7_empty 1 none 0 := ⟨(x_tbm (tt_5 (List.mem_of_getElem? (i := 55) rfl)) rfl), (x_tbm (tt_1 (List.mem_of_getElem? (i := 10) rfl)) rfl), by decide +kernel, by decide +kernel, by decide +kernel⟩
theorem li_X7_empty : Cond.instanceMethod yX7_empty ∈ x_tb := (x_tbm (tt_5 (List.mem_of_getElem? (i := 53) rfl)) rfl)
theorem lv_X7_empty : Cond.selects yX7_empty.cls yX7_empty yX7_empty ∈ x_tb := (x_tbm (tt_5 (List.mem_of_getElem? (i := 54) rfl)) rfl)
abbrev mX11_common : x_M := (RX11, cX11_common, 2, (some .int), false, 0, fun _ => 0)
theorem lb_X11_common : x_lkB yX11_common cX11_common 2 (some .int) 1 := ⟨(x_tbm (tt_5 (List.mem_of_getElem? (i := 59) rfl)) rfl), (x_tbm (tt_1 (List.mem_of_getElem? (i := 1) rfl)) rfl), by decide +kernel, by decide +kernel, by decide +kernel⟩
theorem li_X11_common : Cond.instanceMethod yX11_common ∈ x_tb := (x_tbm (tt_5 (List.mem_of_getElem? (i := 57) rfl)) rfl)
theorem lv_X11_common : Cond.selects yX11_common.cls yX11_common yX11_common ∈ x_tb := (x_tbm (tt_5 (List.mem_of_getElem? (i := 58) rfl)) rfl)
abbrev mX7_longestShared : x_M := (RX7, cX7_longestShared, 2, (some .int), false, 0, fun _ => 0)
theorem lb_X7_longestShared : x_lkB yX7_longestShared cX7_longestShared 2 (some .int) 1 := ⟨(x_tbm (tt_5 (List.mem_of_getElem? (i := 63) rfl)) rfl), (x_tbm (tt_1 (List.mem_of_getElem? (i := 10) rfl)) rfl), by decide +kernel, by decide +kernel, by decide +kernel⟩
theorem li_X7_longestShared : Cond.instanceMethod yX7_longestShared ∈ x_tb := (x_tbm (tt_5 (List.mem_of_getElem? (i := 61) rfl)) rfl)
theorem lv_X7_longestShared : Cond.selects yX7_longestShared.cls yX7_longestShared yX7_longestShared ∈ x_tb := (x_tbm (tt_5 (List.mem_of_getElem? (i := 62) rfl)) rfl)
abbrev mX7_seek : x_M := (RX7, cX7_seek, 4, none, false, 0, fun _ => 0)
theorem lb_X7_seek : x_lkB yX7_seek cX7_seek 4 none 0 := ⟨(x_tbm (tt_5 (List.mem_of_getElem? (i := 67) rfl)) rfl), (x_tbm (tt_1 (List.mem_of_getElem? (i := 10) rfl)) rfl), by decide +kernel, by decide +kernel, by decide +kernel⟩
theorem li_X7_seek : Cond.instanceMethod yX7_seek ∈ x_tb := (x_tbm (tt_5 (List.mem_of_getElem? (i := 66) rfl)) rfl)
theorem lv_X7_seek : Cond.selects yX7_seek.cls yX7_seek yX7_seek ∈ x_tb := (x_tbm (List.mem_append_left _ (List.mem_of_getElem? (i := 27) rfl)) rfl)
abbrev mX7_makesAll : x_M := (RX7, cX7_makesAll, 5, (some .boolean), false, 0, fun _ => 0)
theorem lb_X7_makesAll : x_lkB yX7_makesAll cX7_makesAll 5 (some .boolean) 2 := ⟨(x_tbm (tt_5 (List.mem_of_getElem? (i := 71) rfl)) rfl), (x_tbm (tt_1 (List.mem_of_getElem? (i := 10) rfl)) rfl), by decide +kernel, by decide +kernel, by decide +kernel⟩
theorem li_X7_makesAll : Cond.instanceMethod yX7_makesAll ∈ x_tb := (x_tbm (tt_5 (List.mem_of_getElem? (i := 70) rfl)) rfl)
theorem lv_X7_makesAll : Cond.selects yX7_makesAll.cls yX7_makesAll yX7_makesAll ∈ x_tb := (x_tbm (List.mem_append_left _ (List.mem_of_getElem? (i := 28) rfl)) rfl)
abbrev mX7_lengthOfX : x_M := (RX7, cX7_lengthOfX, 5, (some .int), false, 0, fun _ => 0)
theorem lb_X7_lengthOfX : x_lkB yX7_lengthOfX cX7_lengthOfX 5 (some .int) 3 := ⟨(x_tbm (tt_5 (List.mem_of_getElem? (i := 76) rfl)) rfl), (x_tbm (tt_1 (List.mem_of_getElem? (i := 10) rfl)) rfl), by decide +kernel, by decide +kernel, by decide +kernel⟩
theorem li_X7_lengthOfX : Cond.instanceMethod yX7_lengthOfX ∈ x_tb := (x_tbm (tt_5 (List.mem_of_getElem? (i := 75) rfl)) rfl)
theorem lv_X7_lengthOfX : Cond.selects yX7_lengthOfX.cls yX7_lengthOfX yX7_lengthOfX ∈ x_tb := (x_tbm (List.mem_append_left _ (List.mem_of_getElem? (i := 29) rfl)) rfl)
abbrev mX7_layTrial : x_M := (RX7, cX7_layTrial, 7, none, false, 0, fun _ => 0)
theorem lb_X7_layTrial : x_lkB yX7_layTrial cX7_layTrial 7 none 3 := ⟨(x_tbm (tt_5 (List.mem_of_getElem? (i := 80) rfl)) rfl), (x_tbm (tt_1 (List.mem_of_getElem? (i := 10) rfl)) rfl), by decide +kernel, by decide +kernel, by decide +kernel⟩
theorem li_X7_layTrial : Cond.instanceMethod yX7_layTrial ∈ x_tb := (x_tbm (tt_5 (List.mem_of_getElem? (i := 79) rfl)) rfl)
theorem lv_X7_layTrial : Cond.selects yX7_layTrial.cls yX7_layTrial yX7_layTrial ∈ x_tb := (x_tbm (List.mem_append_left _ (List.mem_of_getElem? (i := 30) rfl)) rfl)
abbrev mX7_makesOne : x_M := (RX7, cX7_makesOne, 7, (some .boolean), false, 0, fun _ => 0)
theorem lb_X7_makesOne : x_lkB yX7_makesOne cX7_makesOne 7 (some .boolean) 3 := ⟨(x_tbm (tt_5 (List.mem_of_getElem? (i := 84) rfl)) rfl), (x_tbm (tt_1 (List.mem_of_getElem? (i := 10) rfl)) rfl), by decide +kernel, by decide +kernel, by decide +kernel⟩
theorem li_X7_makesOne : Cond.instanceMethod yX7_makesOne ∈ x_tb := (x_tbm (tt_5 (List.mem_of_getElem? (i := 83) rfl)) rfl)
theorem lv_X7_makesOne : Cond.selects yX7_makesOne.cls yX7_makesOne yX7_makesOne ∈ x_tb := (x_tbm (List.mem_append_left _ (List.mem_of_getElem? (i := 31) rfl)) rfl)
abbrev mX7_isTrialAhead : x_M := (RX7, cX7_isTrialAhead, 2, (some .boolean), false, 0, fun _ => 0)
theorem lb_X7_isTrialAhead : x_lkB yX7_isTrialAhead cX7_isTrialAhead 2 (some .boolean) 0 := ⟨(x_tbm (tt_5 (List.mem_of_getElem? (i := 89) rfl)) rfl), (x_tbm (tt_1 (List.mem_of_getElem? (i := 10) rfl)) rfl), by decide +kernel, by decide +kernel, by decide +kernel⟩
theorem li_X7_isTrialAhead : Cond.instanceMethod yX7_isTrialAhead ∈ x_tb := (x_tbm (tt_5 (List.mem_of_getElem? (i := 88) rfl)) rfl)
theorem lv_X7_isTrialAhead : Cond.selects yX7_isTrialAhead.cls yX7_isTrialAhead yX7_isTrialAhead ∈ x_tb := (x_tbm (List.mem_append_left _ (List.mem_of_getElem? (i := 32) rfl)) rfl)
abbrev mX7_keepTrial : x_M := (RX7, cX7_keepTrial, 2, none, false, 0, fun _ => 0)
theorem lb_X7_keepTrial : x_lkB yX7_keepTrial cX7_keepTrial 2 none 1 := ⟨(x_tbm (tt_5 (List.mem_of_getElem? (i := 93) rfl)) rfl), (x_tbm (tt_1 (List.mem_of_getElem? (i := 10) rfl)) rfl), by decide +kernel, by decide +kernel, by decide +kernel⟩
theorem li_X7_keepTrial : Cond.instanceMethod yX7_keepTrial ∈ x_tb := (x_tbm (tt_5 (List.mem_of_getElem? (i := 92) rfl)) rfl)
theorem lv_X7_keepTrial : Cond.selects yX7_keepTrial.cls yX7_keepTrial yX7_keepTrial ∈ x_tb := (x_tbm (List.mem_append_left _ (List.mem_of_getElem? (i := 33) rfl)) rfl)
abbrev mX11_count : x_M := (RX11, cX11_count, 2, (some .int), false, 0, fun _ => 0)
theorem lb_X11_count : x_lkB yX11_count cX11_count 2 (some .int) 1 := ⟨(x_tbm (tt_5 (List.mem_of_getElem? (i := 98) rfl)) rfl), (x_tbm (tt_1 (List.mem_of_getElem? (i := 1) rfl)) rfl), by decide +kernel, by decide +kernel, by decide +kernel⟩
theorem li_X11_count : Cond.instanceMethod yX11_count ∈ x_tb := (x_tbm (tt_5 (List.mem_of_getElem? (i := 96) rfl)) rfl)
theorem lv_X11_count : Cond.selects yX11_count.cls yX11_count yX11_count ∈ x_tb := (x_tbm (tt_5 (List.mem_of_getElem? (i := 97) rfl)) rfl)
abbrev mX3_unknowns : x_M := (RX3, cX3_unknowns, 3, (some .int), false, 0, fun _ => 0)
theorem lb_X3_unknowns : x_lkB yX3_unknowns cX3_unknowns 3 (some .int) 0 := ⟨(x_tbm (tt_5 (List.mem_of_getElem? (i := 102) rfl)) rfl), (x_tbm (tt_1 (List.mem_of_getElem? (i := 3) rfl)) rfl), by decide +kernel, by decide +kernel, by decide +kernel⟩
theorem li_X3_unknowns : Cond.instanceMethod yX3_unknowns ∈ x_tb := (x_tbm (tt_5 (List.mem_of_getElem? (i := 100) rfl)) rfl)
theorem lv_X3_unknowns : Cond.selects yX3_unknowns.cls yX3_unknowns yX3_unknowns ∈ x_tb := (x_tbm (tt_5 (List.mem_of_getElem? (i := 101) rfl)) rfl)
abbrev mX11_patternsWithItems : x_M := (RX11, cX11_patternsWithItems, 3, (some .int), false, 0, fun _ => 0)
theorem lb_X11_patternsWithItems : x_lkB yX11_patternsWithItems cX11_patternsWithItems 3 (some .int) 0 := ⟨(x_tbm (tt_5 (List.mem_of_getElem? (i := 107) rfl)) rfl), (x_tbm (tt_1 (List.mem_of_getElem? (i := 1) rfl)) rfl), by decide +kernel, by decide +kernel, by decide +kernel⟩
theorem li_X11_patternsWithItems : Cond.instanceMethod yX11_patternsWithItems ∈ x_tb := (x_tbm (tt_5 (List.mem_of_getElem? (i := 106) rfl)) rfl)
theorem lv_X11_patternsWithItems : Cond.selects yX11_patternsWithItems.cls yX11_patternsWithItems yX11_patternsWithItems ∈ x_tb := (x_tbm (List.mem_append_left _ (List.mem_of_getElem? (i := 34) rfl)) rfl)
abbrev mX12_init : x_M := (RX12, cX12_init, 1, none, true, 0, fun _ => 0)
theorem lb_X12_init : x_lkB yX12_init cX12_init 1 none 0 := ⟨(x_tbm (tt_5 (List.mem_of_getElem? (i := 112) rfl)) rfl), (x_tbm (tt_1 (List.mem_of_getElem? (i := 12) rfl)) rfl), by decide +kernel, by decide +kernel, by decide +kernel⟩
theorem li_X12_init : Cond.instanceMethod yX12_init ∈ x_tb := (x_tbm (tt_5 (List.mem_of_getElem? (i := 111) rfl)) rfl)
abbrev mX12_write : x_M := (RX12, cX12_write, 5, (some .int), false, 0, fun _ => 0)
theorem lb_X12_write : x_lkB yX12_write cX12_write 5 (some .int) 2 := ⟨(x_tbm (tt_6 (List.mem_of_getElem? (i := 38) rfl)) rfl), (x_tbm (tt_1 (List.mem_of_getElem? (i := 12) rfl)) rfl), by decide +kernel, by decide +kernel, by decide +kernel⟩
theorem li_X12_write : Cond.instanceMethod yX12_write ∈ x_tb := (x_tbm (tt_6 (List.mem_of_getElem? (i := 36) rfl)) rfl)
theorem lv_X12_write : Cond.selects yX12_write.cls yX12_write yX12_write ∈ x_tb := (x_tbm (tt_6 (List.mem_of_getElem? (i := 37) rfl)) rfl)
abbrev mX12_in : x_M := (RX12, cX12_in, 6, (some .boolean), false, 0, fun _ => 0)
theorem lb_X12_in : x_lkB yX12_in cX12_in 6 (some .boolean) 3 := ⟨(x_tbm (tt_6 (List.mem_of_getElem? (i := 42) rfl)) rfl), (x_tbm (tt_1 (List.mem_of_getElem? (i := 12) rfl)) rfl), by decide +kernel, by decide +kernel, by decide +kernel⟩
theorem ls_X12_in : Cond.static yX12_in ∈ x_tb := (x_tbm (tt_6 (List.mem_of_getElem? (i := 41) rfl)) rfl)
abbrev mX12_erase : x_M := (RX12, cX12_erase, 2, (some .int), false, 0, fun _ => 0)
theorem lb_X12_erase : x_lkB yX12_erase cX12_erase 2 (some .int) 0 := ⟨(x_tbm (tt_6 (List.mem_of_getElem? (i := 47) rfl)) rfl), (x_tbm (tt_1 (List.mem_of_getElem? (i := 12) rfl)) rfl), by decide +kernel, by decide +kernel, by decide +kernel⟩
theorem li_X12_erase : Cond.instanceMethod yX12_erase ∈ x_tb := (x_tbm (tt_6 (List.mem_of_getElem? (i := 45) rfl)) rfl)
theorem lv_X12_erase : Cond.selects yX12_erase.cls yX12_erase yX12_erase ∈ x_tb := (x_tbm (tt_6 (List.mem_of_getElem? (i := 46) rfl)) rfl)
abbrev mX12_fault : x_M := (RX12, cX12_fault, 7, (some .int), false, 0, fun _ => 0)
theorem lb_X12_fault : x_lkB yX12_fault cX12_fault 7 (some .int) 0 := ⟨(x_tbm (tt_6 (List.mem_of_getElem? (i := 51) rfl)) rfl), (x_tbm (tt_1 (List.mem_of_getElem? (i := 12) rfl)) rfl), by decide +kernel, by decide +kernel, by decide +kernel⟩
theorem li_X12_fault : Cond.instanceMethod yX12_fault ∈ x_tb := (x_tbm (tt_6 (List.mem_of_getElem? (i := 49) rfl)) rfl)
theorem lv_X12_fault : Cond.selects yX12_fault.cls yX12_fault yX12_fault ∈ x_tb := (x_tbm (tt_6 (List.mem_of_getElem? (i := 50) rfl)) rfl)
abbrev mX12_itemOf : x_M := (RX12, cX12_itemOf, 1, (some .int), false, 0, fun _ => 0)
theorem lb_X12_itemOf : x_lkB yX12_itemOf cX12_itemOf 1 (some .int) 1 := ⟨(x_tbm (tt_6 (List.mem_of_getElem? (i := 54) rfl)) rfl), (x_tbm (tt_1 (List.mem_of_getElem? (i := 12) rfl)) rfl), by decide +kernel, by decide +kernel, by decide +kernel⟩
theorem ls_X12_itemOf : Cond.static yX12_itemOf ∈ x_tb := (x_tbm (tt_6 (List.mem_of_getElem? (i := 53) rfl)) rfl)
abbrev mX12_take : x_M := (RX12, cX12_take, 3, (some .int), false, 0, fun _ => 0)
theorem lb_X12_take : x_lkB yX12_take cX12_take 3 (some .int) 0 := ⟨(x_tbm (tt_6 (List.mem_of_getElem? (i := 58) rfl)) rfl), (x_tbm (tt_1 (List.mem_of_getElem? (i := 12) rfl)) rfl), by decide +kernel, by decide +kernel, by decide +kernel⟩
theorem li_X12_take : Cond.instanceMethod yX12_take ∈ x_tb := (x_tbm (tt_6 (List.mem_of_getElem? (i := 56) rfl)) rfl)
theorem lv_X12_take : Cond.selects yX12_take.cls yX12_take yX12_take ∈ x_tb := (x_tbm (tt_6 (List.mem_of_getElem? (i := 57) rfl)) rfl)
abbrev mX12_item : x_M := (RX12, cX12_item, 4, (some .int), false, 0, fun _ => 0)
theorem lb_X12_item : x_lkB yX12_item cX12_item 4 (some .int) 3 := ⟨(x_tbm (tt_6 (List.mem_of_getElem? (i := 63) rfl)) rfl), (x_tbm (tt_1 (List.mem_of_getElem? (i := 12) rfl)) rfl), by decide +kernel, by decide +kernel, by decide +kernel⟩
theorem li_X12_item : Cond.instanceMethod yX12_item ∈ x_tb := (x_tbm (tt_6 (List.mem_of_getElem? (i := 61) rfl)) rfl)
theorem lv_X12_item : Cond.selects yX12_item.cls yX12_item yX12_item ∈ x_tb := (x_tbm (tt_6 (List.mem_of_getElem? (i := 62) rfl)) rfl)
abbrev mX12_isEquation : x_M := (RX12, cX12_isEquation, 2, (some .boolean), false, 0, fun _ => 0)
theorem lb_X12_isEquation : x_lkB yX12_isEquation cX12_isEquation 2 (some .boolean) 1 := ⟨(x_tbm (tt_6 (List.mem_of_getElem? (i := 67) rfl)) rfl), (x_tbm (tt_1 (List.mem_of_getElem? (i := 12) rfl)) rfl), by decide +kernel, by decide +kernel, by decide +kernel⟩
theorem li_X12_isEquation : Cond.instanceMethod yX12_isEquation ∈ x_tb := (x_tbm (tt_6 (List.mem_of_getElem? (i := 66) rfl)) rfl)
theorem lv_X12_isEquation : Cond.selects yX12_isEquation.cls yX12_isEquation yX12_isEquation ∈ x_tb := (x_tbm (List.mem_append_left _ (List.mem_of_getElem? (i := 35) rfl)) rfl)
abbrev mX12_bounds : x_M := (RX12, cX12_bounds, 5, (some .int), false, 0, fun _ => 0)
theorem lb_X12_bounds : x_lkB yX12_bounds cX12_bounds 5 (some .int) 4 := ⟨(x_tbm (tt_6 (List.mem_of_getElem? (i := 71) rfl)) rfl), (x_tbm (tt_1 (List.mem_of_getElem? (i := 12) rfl)) rfl), by decide +kernel, by decide +kernel, by decide +kernel⟩
theorem li_X12_bounds : Cond.instanceMethod yX12_bounds ∈ x_tb := (x_tbm (tt_6 (List.mem_of_getElem? (i := 69) rfl)) rfl)
theorem lv_X12_bounds : Cond.selects yX12_bounds.cls yX12_bounds yX12_bounds ∈ x_tb := (x_tbm (tt_6 (List.mem_of_getElem? (i := 70) rfl)) rfl)
abbrev mX12_isName : x_M := (RX12, cX12_isName, 1, (some .boolean), false, 0, fun _ => 0)
theorem lb_X12_isName : x_lkB yX12_isName cX12_isName 1 (some .boolean) 1 := ⟨(x_tbm (tt_6 (List.mem_of_getElem? (i := 74) rfl)) rfl), (x_tbm (tt_1 (List.mem_of_getElem? (i := 12) rfl)) rfl), by decide +kernel, by decide +kernel, by decide +kernel⟩
theorem ls_X12_isName : Cond.static yX12_isName ∈ x_tb := (x_tbm (tt_6 (List.mem_of_getElem? (i := 73) rfl)) rfl)
abbrev mX12_answers : x_M := (RX12, cX12_answers, 4, (some .int), false, 0, fun _ => 0)
theorem lb_X12_answers : x_lkB yX12_answers cX12_answers 4 (some .int) 0 := ⟨(x_tbm (tt_6 (List.mem_of_getElem? (i := 80) rfl)) rfl), (x_tbm (tt_1 (List.mem_of_getElem? (i := 12) rfl)) rfl), by decide +kernel, by decide +kernel, by decide +kernel⟩
theorem li_X12_answers : Cond.instanceMethod yX12_answers ∈ x_tb := (x_tbm (tt_6 (List.mem_of_getElem? (i := 78) rfl)) rfl)
theorem lv_X12_answers : Cond.selects yX12_answers.cls yX12_answers yX12_answers ∈ x_tb := (x_tbm (tt_6 (List.mem_of_getElem? (i := 79) rfl)) rfl)
abbrev mX12_firstLengths : x_M := (RX12, cX12_firstLengths, 1, none, false, 0, fun _ => 0)
theorem lb_X12_firstLengths : x_lkB yX12_firstLengths cX12_firstLengths 1 none 0 := ⟨(x_tbm (tt_6 (List.mem_of_getElem? (i := 84) rfl)) rfl), (x_tbm (tt_1 (List.mem_of_getElem? (i := 12) rfl)) rfl), by decide +kernel, by decide +kernel, by decide +kernel⟩
theorem li_X12_firstLengths : Cond.instanceMethod yX12_firstLengths ∈ x_tb := (x_tbm (tt_6 (List.mem_of_getElem? (i := 83) rfl)) rfl)
theorem lv_X12_firstLengths : Cond.selects yX12_firstLengths.cls yX12_firstLengths yX12_firstLengths ∈ x_tb := (x_tbm (List.mem_append_left _ (List.mem_of_getElem? (i := 36) rfl)) rfl)
abbrev mX12_waysNow : x_M := (RX12, cX12_waysNow, 6, (some .long), false, 0, fun _ => 0)
theorem lb_X12_waysNow : x_lkB yX12_waysNow cX12_waysNow 6 (some .long) 0 := ⟨(x_tbm (tt_6 (List.mem_of_getElem? (i := 88) rfl)) rfl), (x_tbm (tt_1 (List.mem_of_getElem? (i := 12) rfl)) rfl), by decide +kernel, by decide +kernel, by decide +kernel⟩
theorem li_X12_waysNow : Cond.instanceMethod yX12_waysNow ∈ x_tb := (x_tbm (tt_6 (List.mem_of_getElem? (i := 87) rfl)) rfl)
theorem lv_X12_waysNow : Cond.selects yX12_waysNow.cls yX12_waysNow yX12_waysNow ∈ x_tb := (x_tbm (List.mem_append_left _ (List.mem_of_getElem? (i := 37) rfl)) rfl)
abbrev mX12_usedNames : x_M := (RX12, cX12_usedNames, 5, (some .int), false, 0, fun _ => 0)
theorem lb_X12_usedNames : x_lkB yX12_usedNames cX12_usedNames 5 (some .int) 0 := ⟨(x_tbm (tt_6 (List.mem_of_getElem? (i := 92) rfl)) rfl), (x_tbm (tt_1 (List.mem_of_getElem? (i := 12) rfl)) rfl), by decide +kernel, by decide +kernel, by decide +kernel⟩
theorem li_X12_usedNames : Cond.instanceMethod yX12_usedNames ∈ x_tb := (x_tbm (tt_6 (List.mem_of_getElem? (i := 91) rfl)) rfl)
theorem lv_X12_usedNames : Cond.selects yX12_usedNames.cls yX12_usedNames yX12_usedNames ∈ x_tb := (x_tbm (List.mem_append_left _ (List.mem_of_getElem? (i := 38) rfl)) rfl)
abbrev mX12_lengthOf : x_M := (RX12, cX12_lengthOf, 5, (some .int), false, 0, fun _ => 0)
theorem lb_X12_lengthOf : x_lkB yX12_lengthOf cX12_lengthOf 5 (some .int) 1 := ⟨(x_tbm (tt_6 (List.mem_of_getElem? (i := 96) rfl)) rfl), (x_tbm (tt_1 (List.mem_of_getElem? (i := 12) rfl)) rfl), by decide +kernel, by decide +kernel, by decide +kernel⟩
theorem li_X12_lengthOf : Cond.instanceMethod yX12_lengthOf ∈ x_tb := (x_tbm (tt_6 (List.mem_of_getElem? (i := 95) rfl)) rfl)
theorem lv_X12_lengthOf : Cond.selects yX12_lengthOf.cls yX12_lengthOf yX12_lengthOf ∈ x_tb := (x_tbm (List.mem_append_left _ (List.mem_of_getElem? (i := 39) rfl)) rfl)
abbrev mX12_placeAt : x_M := (RX12, cX12_placeAt, 8, (some .int), false, 0, fun _ => 0)
theorem lb_X12_placeAt : x_lkB yX12_placeAt cX12_placeAt 8 (some .int) 2 := ⟨(x_tbm (tt_6 (List.mem_of_getElem? (i := 100) rfl)) rfl), (x_tbm (tt_1 (List.mem_of_getElem? (i := 12) rfl)) rfl), by decide +kernel, by decide +kernel, by decide +kernel⟩
theorem li_X12_placeAt : Cond.instanceMethod yX12_placeAt ∈ x_tb := (x_tbm (tt_6 (List.mem_of_getElem? (i := 99) rfl)) rfl)
theorem lv_X12_placeAt : Cond.selects yX12_placeAt.cls yX12_placeAt yX12_placeAt ∈ x_tb := (x_tbm (List.mem_append_left _ (List.mem_of_getElem? (i := 40) rfl)) rfl)
abbrev mX12_makeOne : x_M := (RX12, cX12_makeOne, 5, none, false, 0, fun _ => 0)
theorem lb_X12_makeOne : x_lkB yX12_makeOne cX12_makeOne 5 none 2 := ⟨(x_tbm (tt_6 (List.mem_of_getElem? (i := 104) rfl)) rfl), (x_tbm (tt_1 (List.mem_of_getElem? (i := 12) rfl)) rfl), by decide +kernel, by decide +kernel, by decide +kernel⟩
theorem li_X12_makeOne : Cond.instanceMethod yX12_makeOne ∈ x_tb := (x_tbm (tt_6 (List.mem_of_getElem? (i := 103) rfl)) rfl)
theorem lv_X12_makeOne : Cond.selects yX12_makeOne.cls yX12_makeOne yX12_makeOne ∈ x_tb := (x_tbm (List.mem_append_left _ (List.mem_of_getElem? (i := 41) rfl)) rfl)
abbrev mX12_leadOf : x_M := (RX12, cX12_leadOf, 3, (some .int), false, 0, fun _ => 0)
theorem lb_X12_leadOf : x_lkB yX12_leadOf cX12_leadOf 3 (some .int) 1 := ⟨(x_tbm (tt_6 (List.mem_of_getElem? (i := 108) rfl)) rfl), (x_tbm (tt_1 (List.mem_of_getElem? (i := 12) rfl)) rfl), by decide +kernel, by decide +kernel, by decide +kernel⟩
theorem li_X12_leadOf : Cond.instanceMethod yX12_leadOf ∈ x_tb := (x_tbm (tt_6 (List.mem_of_getElem? (i := 107) rfl)) rfl)
theorem lv_X12_leadOf : Cond.selects yX12_leadOf.cls yX12_leadOf yX12_leadOf ∈ x_tb := (x_tbm (List.mem_append_left _ (List.mem_of_getElem? (i := 42) rfl)) rfl)
abbrev mX12_nextLengths : x_M := (RX12, cX12_nextLengths, 2, (some .boolean), false, 0, fun _ => 0)
theorem lb_X12_nextLengths : x_lkB yX12_nextLengths cX12_nextLengths 2 (some .boolean) 0 := ⟨(x_tbm (tt_6 (List.mem_of_getElem? (i := 113) rfl)) rfl), (x_tbm (tt_1 (List.mem_of_getElem? (i := 12) rfl)) rfl), by decide +kernel, by decide +kernel, by decide +kernel⟩
theorem li_X12_nextLengths : Cond.instanceMethod yX12_nextLengths ∈ x_tb := (x_tbm (tt_6 (List.mem_of_getElem? (i := 112) rfl)) rfl)
theorem lv_X12_nextLengths : Cond.selects yX12_nextLengths.cls yX12_nextLengths yX12_nextLengths ∈ x_tb := (x_tbm (List.mem_append_left _ (List.mem_of_getElem? (i := 43) rfl)) rfl)
abbrev mX12_answer : x_M := (RX12, cX12_answer, 9, (some .int), false, 0, fun _ => 0)
theorem lb_X12_answer : x_lkB yX12_answer cX12_answer 9 (some .int) 3 := ⟨(x_tbm (tt_6 (List.mem_of_getElem? (i := 117) rfl)) rfl), (x_tbm (tt_1 (List.mem_of_getElem? (i := 12) rfl)) rfl), by decide +kernel, by decide +kernel, by decide +kernel⟩
theorem li_X12_answer : Cond.instanceMethod yX12_answer ∈ x_tb := (x_tbm (tt_6 (List.mem_of_getElem? (i := 115) rfl)) rfl)
theorem lv_X12_answer : Cond.selects yX12_answer.cls yX12_answer yX12_answer ∈ x_tb := (x_tbm (tt_6 (List.mem_of_getElem? (i := 116) rfl)) rfl)
abbrev mX12_letterOf : x_M := (RX12, cX12_letterOf, 11, (some .int), false, 0, fun _ => 0)
theorem lb_X12_letterOf : x_lkB yX12_letterOf cX12_letterOf 11 (some .int) 2 := ⟨(x_tbm (tt_6 (List.mem_of_getElem? (i := 122) rfl)) rfl), (x_tbm (tt_1 (List.mem_of_getElem? (i := 12) rfl)) rfl), by decide +kernel, by decide +kernel, by decide +kernel⟩
theorem li_X12_letterOf : Cond.instanceMethod yX12_letterOf ∈ x_tb := (x_tbm (tt_6 (List.mem_of_getElem? (i := 121) rfl)) rfl)
theorem lv_X12_letterOf : Cond.selects yX12_letterOf.cls yX12_letterOf yX12_letterOf ∈ x_tb := (x_tbm (List.mem_append_left _ (List.mem_of_getElem? (i := 44) rfl)) rfl)
abbrev mX12_pick : x_M := (RX12, cX12_pick, 5, (some .int), false, 0, fun _ => 0)
theorem lb_X12_pick : x_lkB yX12_pick cX12_pick 5 (some .int) 2 := ⟨(x_tbm (tt_6 (List.mem_of_getElem? (i := 125) rfl)) rfl), (x_tbm (tt_1 (List.mem_of_getElem? (i := 12) rfl)) rfl), by decide +kernel, by decide +kernel, by decide +kernel⟩
theorem ls_X12_pick : Cond.static yX12_pick ∈ x_tb := (x_tbm (tt_6 (List.mem_of_getElem? (i := 124) rfl)) rfl)
abbrev mX12_tell : x_M := (RX12, cX12_tell, 6, (some .int), false, 0, fun _ => 0)
theorem lb_X12_tell : x_lkB yX12_tell cX12_tell 6 (some .int) 3 := ⟨(x_tbm (tt_6 (List.mem_of_getElem? (i := 129) rfl)) rfl), (x_tbm (tt_1 (List.mem_of_getElem? (i := 12) rfl)) rfl), by decide +kernel, by decide +kernel, by decide +kernel⟩
theorem li_X12_tell : Cond.instanceMethod yX12_tell ∈ x_tb := (x_tbm (tt_6 (List.mem_of_getElem? (i := 127) rfl)) rfl)
theorem lv_X12_tell : Cond.selects yX12_tell.cls yX12_tell yX12_tell ∈ x_tb := (x_tbm (tt_6 (List.mem_of_getElem? (i := 128) rfl)) rfl)
abbrev mX12_rank : x_M := (RX12, cX12_rank, 6, (some .int), false, 0, fun _ => 0)
theorem lb_X12_rank : x_lkB yX12_rank cX12_rank 6 (some .int) 0 := ⟨(x_tbm (tt_6 (List.mem_of_getElem? (i := 133) rfl)) rfl), (x_tbm (tt_1 (List.mem_of_getElem? (i := 12) rfl)) rfl), by decide +kernel, by decide +kernel, by decide +kernel⟩
theorem li_X12_rank : Cond.instanceMethod yX12_rank ∈ x_tb := (x_tbm (tt_6 (List.mem_of_getElem? (i := 131) rfl)) rfl)
theorem lv_X12_rank : Cond.selects yX12_rank.cls yX12_rank yX12_rank ∈ x_tb := (x_tbm (tt_6 (List.mem_of_getElem? (i := 132) rfl)) rfl)
abbrev mX12_areTold : x_M := (RX12, cX12_areTold, 3, (some .boolean), false, 0, fun _ => 0)
theorem lb_X12_areTold : x_lkB yX12_areTold cX12_areTold 3 (some .boolean) 0 := ⟨(x_tbm (tt_6 (List.mem_of_getElem? (i := 137) rfl)) rfl), (x_tbm (tt_1 (List.mem_of_getElem? (i := 12) rfl)) rfl), by decide +kernel, by decide +kernel, by decide +kernel⟩
theorem li_X12_areTold : Cond.instanceMethod yX12_areTold ∈ x_tb := (x_tbm (tt_6 (List.mem_of_getElem? (i := 136) rfl)) rfl)
theorem lv_X12_areTold : Cond.selects yX12_areTold.cls yX12_areTold yX12_areTold ∈ x_tb := (x_tbm (List.mem_append_left _ (List.mem_of_getElem? (i := 45) rfl)) rfl)
abbrev mX12_rankNow : x_M := (RX12, cX12_rankNow, 11, (some .int), false, 0, fun _ => 0)
theorem lb_X12_rankNow : x_lkB yX12_rankNow cX12_rankNow 11 (some .int) 1 := ⟨(x_tbm (tt_6 (List.mem_of_getElem? (i := 141) rfl)) rfl), (x_tbm (tt_1 (List.mem_of_getElem? (i := 12) rfl)) rfl), by decide +kernel, by decide +kernel, by decide +kernel⟩
theorem li_X12_rankNow : Cond.instanceMethod yX12_rankNow ∈ x_tb := (x_tbm (tt_6 (List.mem_of_getElem? (i := 140) rfl)) rfl)
theorem lv_X12_rankNow : Cond.selects yX12_rankNow.cls yX12_rankNow yX12_rankNow ∈ x_tb := (x_tbm (List.mem_append_left _ (List.mem_of_getElem? (i := 46) rfl)) rfl)
abbrev mX12_toldAt : x_M := (RX12, cX12_toldAt, 3, (some .int), false, 0, fun _ => 0)
theorem lb_X12_toldAt : x_lkB yX12_toldAt cX12_toldAt 3 (some .int) 1 := ⟨(x_tbm (tt_6 (List.mem_of_getElem? (i := 145) rfl)) rfl), (x_tbm (tt_1 (List.mem_of_getElem? (i := 12) rfl)) rfl), by decide +kernel, by decide +kernel, by decide +kernel⟩
theorem li_X12_toldAt : Cond.instanceMethod yX12_toldAt ∈ x_tb := (x_tbm (tt_6 (List.mem_of_getElem? (i := 144) rfl)) rfl)
theorem lv_X12_toldAt : Cond.selects yX12_toldAt.cls yX12_toldAt yX12_toldAt ∈ x_tb := (x_tbm (List.mem_append_left _ (List.mem_of_getElem? (i := 47) rfl)) rfl)
abbrev mX12_sure : x_M := (RX12, cX12_sure, 6, (some .int), false, 0, fun _ => 0)
theorem lb_X12_sure : x_lkB yX12_sure cX12_sure 6 (some .int) 2 := ⟨(x_tbm (tt_6 (List.mem_of_getElem? (i := 151) rfl)) rfl), (x_tbm (tt_1 (List.mem_of_getElem? (i := 12) rfl)) rfl), by decide +kernel, by decide +kernel, by decide +kernel⟩
theorem li_X12_sure : Cond.instanceMethod yX12_sure ∈ x_tb := (x_tbm (tt_6 (List.mem_of_getElem? (i := 149) rfl)) rfl)
theorem lv_X12_sure : Cond.selects yX12_sure.cls yX12_sure yX12_sure ∈ x_tb := (x_tbm (tt_6 (List.mem_of_getElem? (i := 150) rfl)) rfl)
abbrev mX12_met : x_M := (RX12, cX12_met, 3, (some .int), false, 0, fun _ => 0)
theorem lb_X12_met : x_lkB yX12_met cX12_met 3 (some .int) 1 := ⟨(x_tbm (tt_6 (List.mem_of_getElem? (i := 155) rfl)) rfl), (x_tbm (tt_1 (List.mem_of_getElem? (i := 12) rfl)) rfl), by decide +kernel, by decide +kernel, by decide +kernel⟩
theorem li_X12_met : Cond.instanceMethod yX12_met ∈ x_tb := (x_tbm (tt_6 (List.mem_of_getElem? (i := 153) rfl)) rfl)
theorem lv_X12_met : Cond.selects yX12_met.cls yX12_met yX12_met ∈ x_tb := (x_tbm (tt_6 (List.mem_of_getElem? (i := 154) rfl)) rfl)
abbrev mX12_chase : x_M := (RX12, cX12_chase, 6, (some .int), false, 0, fun _ => 0)
theorem lb_X12_chase : x_lkB yX12_chase cX12_chase 6 (some .int) 1 := ⟨(x_tbm (tt_6 (List.mem_of_getElem? (i := 159) rfl)) rfl), (x_tbm (tt_1 (List.mem_of_getElem? (i := 12) rfl)) rfl), by decide +kernel, by decide +kernel, by decide +kernel⟩
theorem li_X12_chase : Cond.instanceMethod yX12_chase ∈ x_tb := (x_tbm (tt_6 (List.mem_of_getElem? (i := 158) rfl)) rfl)
theorem lv_X12_chase : Cond.selects yX12_chase.cls yX12_chase yX12_chase ∈ x_tb := (x_tbm (List.mem_append_left _ (List.mem_of_getElem? (i := 48) rfl)) rfl)
abbrev mX12_namesNow : x_M := (RX12, cX12_namesNow, 3, (some .int), false, 0, fun _ => 0)
theorem lb_X12_namesNow : x_lkB yX12_namesNow cX12_namesNow 3 (some .int) 0 := ⟨(x_tbm (tt_6 (List.mem_of_getElem? (i := 163) rfl)) rfl), (x_tbm (tt_1 (List.mem_of_getElem? (i := 12) rfl)) rfl), by decide +kernel, by decide +kernel, by decide +kernel⟩
theorem li_X12_namesNow : Cond.instanceMethod yX12_namesNow ∈ x_tb := (x_tbm (tt_6 (List.mem_of_getElem? (i := 162) rfl)) rfl)
theorem lv_X12_namesNow : Cond.selects yX12_namesNow.cls yX12_namesNow yX12_namesNow ∈ x_tb := (x_tbm (List.mem_append_left _ (List.mem_of_getElem? (i := 49) rfl)) rfl)
abbrev mX12_strike : x_M := (RX12, cX12_strike, 3, none, false, 0, fun _ => 0)
theorem lb_X12_strike : x_lkB yX12_strike cX12_strike 3 none 0 := ⟨(x_tbm (tt_6 (List.mem_of_getElem? (i := 167) rfl)) rfl), (x_tbm (tt_1 (List.mem_of_getElem? (i := 12) rfl)) rfl), by decide +kernel, by decide +kernel, by decide +kernel⟩
theorem li_X12_strike : Cond.instanceMethod yX12_strike ∈ x_tb := (x_tbm (tt_6 (List.mem_of_getElem? (i := 166) rfl)) rfl)
theorem lv_X12_strike : Cond.selects yX12_strike.cls yX12_strike yX12_strike ∈ x_tb := (x_tbm (List.mem_append_left _ (List.mem_of_getElem? (i := 50) rfl)) rfl)
abbrev mX12_numberOf : x_M := (RX12, cX12_numberOf, 3, (some .int), false, 0, fun _ => 0)
theorem lb_X12_numberOf : x_lkB yX12_numberOf cX12_numberOf 3 (some .int) 0 := ⟨(x_tbm (tt_6 (List.mem_of_getElem? (i := 171) rfl)) rfl), (x_tbm (tt_1 (List.mem_of_getElem? (i := 12) rfl)) rfl), by decide +kernel, by decide +kernel, by decide +kernel⟩
theorem li_X12_numberOf : Cond.instanceMethod yX12_numberOf ∈ x_tb := (x_tbm (tt_6 (List.mem_of_getElem? (i := 170) rfl)) rfl)
theorem lv_X12_numberOf : Cond.selects yX12_numberOf.cls yX12_numberOf yX12_numberOf ∈ x_tb := (x_tbm (List.mem_append_left _ (List.mem_of_getElem? (i := 51) rfl)) rfl)
abbrev mX12_isMet : x_M := (RX12, cX12_isMet, 4, (some .boolean), false, 0, fun _ => 0)
theorem lb_X12_isMet : x_lkB yX12_isMet cX12_isMet 4 (some .boolean) 1 := ⟨(x_tbm (tt_6 (List.mem_of_getElem? (i := 176) rfl)) rfl), (x_tbm (tt_1 (List.mem_of_getElem? (i := 12) rfl)) rfl), by decide +kernel, by decide +kernel, by decide +kernel⟩
theorem li_X12_isMet : Cond.instanceMethod yX12_isMet ∈ x_tb := (x_tbm (tt_6 (List.mem_of_getElem? (i := 175) rfl)) rfl)
theorem lv_X12_isMet : Cond.selects yX12_isMet.cls yX12_isMet yX12_isMet ∈ x_tb := (x_tbm (List.mem_append_left _ (List.mem_of_getElem? (i := 52) rfl)) rfl)
abbrev mX12_hasPutting : x_M := (RX12, cX12_hasPutting, 5, (some .boolean), false, 0, fun _ => 0)
theorem lb_X12_hasPutting : x_lkB yX12_hasPutting cX12_hasPutting 5 (some .boolean) 2 := ⟨(x_tbm (tt_6 (List.mem_of_getElem? (i := 180) rfl)) rfl), (x_tbm (tt_1 (List.mem_of_getElem? (i := 12) rfl)) rfl), by decide +kernel, by decide +kernel, by decide +kernel⟩
theorem li_X12_hasPutting : Cond.instanceMethod yX12_hasPutting ∈ x_tb := (x_tbm (tt_6 (List.mem_of_getElem? (i := 179) rfl)) rfl)
theorem lv_X12_hasPutting : Cond.selects yX12_hasPutting.cls yX12_hasPutting yX12_hasPutting ∈ x_tb := (x_tbm (List.mem_append_left _ (List.mem_of_getElem? (i := 53) rfl)) rfl)
abbrev mX12_layPut : x_M := (RX12, cX12_layPut, 5, none, false, 0, fun _ => 0)
theorem lb_X12_layPut : x_lkB yX12_layPut cX12_layPut 5 none 1 := ⟨(x_tbm (tt_6 (List.mem_of_getElem? (i := 184) rfl)) rfl), (x_tbm (tt_1 (List.mem_of_getElem? (i := 12) rfl)) rfl), by decide +kernel, by decide +kernel, by decide +kernel⟩
theorem li_X12_layPut : Cond.instanceMethod yX12_layPut ∈ x_tb := (x_tbm (tt_6 (List.mem_of_getElem? (i := 183) rfl)) rfl)
theorem lv_X12_layPut : Cond.selects yX12_layPut.cls yX12_layPut yX12_layPut ∈ x_tb := (x_tbm (List.mem_append_left _ (List.mem_of_getElem? (i := 54) rfl)) rfl)
abbrev mX12_add : x_M := (RX12, cX12_add, 3, none, false, 0, fun _ => 0)
theorem lb_X12_add : x_lkB yX12_add cX12_add 3 none 2 := ⟨(x_tbm (tt_6 (List.mem_of_getElem? (i := 188) rfl)) rfl), (x_tbm (tt_1 (List.mem_of_getElem? (i := 12) rfl)) rfl), by decide +kernel, by decide +kernel, by decide +kernel⟩
theorem li_X12_add : Cond.instanceMethod yX12_add ∈ x_tb := (x_tbm (tt_6 (List.mem_of_getElem? (i := 187) rfl)) rfl)
theorem lv_X12_add : Cond.selects yX12_add.cls yX12_add yX12_add ∈ x_tb := (x_tbm (List.mem_append_left _ (List.mem_of_getElem? (i := 55) rfl)) rfl)
abbrev mX12_namesMet : x_M := (RX12, cX12_namesMet, 5, (some .int), false, 0, fun _ => 0)
theorem lb_X12_namesMet : x_lkB yX12_namesMet cX12_namesMet 5 (some .int) 1 := ⟨(x_tbm (tt_6 (List.mem_of_getElem? (i := 192) rfl)) rfl), (x_tbm (tt_1 (List.mem_of_getElem? (i := 12) rfl)) rfl), by decide +kernel, by decide +kernel, by decide +kernel⟩
theorem li_X12_namesMet : Cond.instanceMethod yX12_namesMet ∈ x_tb := (x_tbm (tt_6 (List.mem_of_getElem? (i := 191) rfl)) rfl)
theorem lv_X12_namesMet : Cond.selects yX12_namesMet.cls yX12_namesMet yX12_namesMet ∈ x_tb := (x_tbm (List.mem_append_left _ (List.mem_of_getElem? (i := 56) rfl)) rfl)
abbrev mX12_layDist : x_M := (RX12, cX12_layDist, 6, none, false, 0, fun _ => 0)
theorem lb_X12_layDist : x_lkB yX12_layDist cX12_layDist 6 none 0 := ⟨(x_tbm (tt_6 (List.mem_of_getElem? (i := 196) rfl)) rfl), (x_tbm (tt_1 (List.mem_of_getElem? (i := 12) rfl)) rfl), by decide +kernel, by decide +kernel, by decide +kernel⟩
theorem li_X12_layDist : Cond.instanceMethod yX12_layDist ∈ x_tb := (x_tbm (tt_6 (List.mem_of_getElem? (i := 195) rfl)) rfl)
theorem lv_X12_layDist : Cond.selects yX12_layDist.cls yX12_layDist yX12_layDist ∈ x_tb := (x_tbm (List.mem_append_left _ (List.mem_of_getElem? (i := 57) rfl)) rfl)
abbrev mX12_fewest : x_M := (RX12, cX12_fewest, 3, (some .int), false, 0, fun _ => 0)
theorem lb_X12_fewest : x_lkB yX12_fewest cX12_fewest 3 (some .int) 1 := ⟨(x_tbm (tt_6 (List.mem_of_getElem? (i := 200) rfl)) rfl), (x_tbm (tt_1 (List.mem_of_getElem? (i := 12) rfl)) rfl), by decide +kernel, by decide +kernel, by decide +kernel⟩
theorem li_X12_fewest : Cond.instanceMethod yX12_fewest ∈ x_tb := (x_tbm (tt_6 (List.mem_of_getElem? (i := 198) rfl)) rfl)
theorem lv_X12_fewest : Cond.selects yX12_fewest.cls yX12_fewest yX12_fewest ∈ x_tb := (x_tbm (tt_6 (List.mem_of_getElem? (i := 199) rfl)) rfl)
abbrev mX12_ring : x_M := (RX12, cX12_ring, 7, (some .int), false, 0, fun _ => 0)
theorem lb_X12_ring : x_lkB yX12_ring cX12_ring 7 (some .int) 1 := ⟨(x_tbm (tt_6 (List.mem_of_getElem? (i := 204) rfl)) rfl), (x_tbm (tt_1 (List.mem_of_getElem? (i := 12) rfl)) rfl), by decide +kernel, by decide +kernel, by decide +kernel⟩
theorem li_X12_ring : Cond.instanceMethod yX12_ring ∈ x_tb := (x_tbm (tt_6 (List.mem_of_getElem? (i := 202) rfl)) rfl)
theorem lv_X12_ring : Cond.selects yX12_ring.cls yX12_ring yX12_ring ∈ x_tb := (x_tbm (tt_6 (List.mem_of_getElem? (i := 203) rfl)) rfl)
abbrev mX12_takeOff : x_M := (RX12, cX12_takeOff, 4, none, false, 0, fun _ => 0)
theorem lb_X12_takeOff : x_lkB yX12_takeOff cX12_takeOff 4 none 1 := ⟨(x_tbm (tt_6 (List.mem_of_getElem? (i := 208) rfl)) rfl), (x_tbm (tt_1 (List.mem_of_getElem? (i := 12) rfl)) rfl), by decide +kernel, by decide +kernel, by decide +kernel⟩
theorem li_X12_takeOff : Cond.instanceMethod yX12_takeOff ∈ x_tb := (x_tbm (tt_6 (List.mem_of_getElem? (i := 207) rfl)) rfl)
theorem lv_X12_takeOff : Cond.selects yX12_takeOff.cls yX12_takeOff yX12_takeOff ∈ x_tb := (x_tbm (List.mem_append_left _ (List.mem_of_getElem? (i := 58) rfl)) rfl)
abbrev mX12_putting : x_M := (RX12, cX12_putting, 4, (some .int), false, 0, fun _ => 0)
theorem lb_X12_putting : x_lkB yX12_putting cX12_putting 4 (some .int) 2 := ⟨(x_tbm (tt_6 (List.mem_of_getElem? (i := 212) rfl)) rfl), (x_tbm (tt_1 (List.mem_of_getElem? (i := 12) rfl)) rfl), by decide +kernel, by decide +kernel, by decide +kernel⟩
theorem li_X12_putting : Cond.instanceMethod yX12_putting ∈ x_tb := (x_tbm (tt_6 (List.mem_of_getElem? (i := 210) rfl)) rfl)
theorem lv_X12_putting : Cond.selects yX12_putting.cls yX12_putting yX12_putting ∈ x_tb := (x_tbm (tt_6 (List.mem_of_getElem? (i := 211) rfl)) rfl)
abbrev mX12_layChain : x_M := (RX12, cX12_layChain, 4, (some .int), false, 0, fun _ => 0)
theorem lb_X12_layChain : x_lkB yX12_layChain cX12_layChain 4 (some .int) 0 := ⟨(x_tbm (tt_6 (List.mem_of_getElem? (i := 216) rfl)) rfl), (x_tbm (tt_1 (List.mem_of_getElem? (i := 12) rfl)) rfl), by decide +kernel, by decide +kernel, by decide +kernel⟩
theorem li_X12_layChain : Cond.instanceMethod yX12_layChain ∈ x_tb := (x_tbm (tt_6 (List.mem_of_getElem? (i := 215) rfl)) rfl)
theorem lv_X12_layChain : Cond.selects yX12_layChain.cls yX12_layChain yX12_layChain ∈ x_tb := (x_tbm (List.mem_append_left _ (List.mem_of_getElem? (i := 59) rfl)) rfl)
abbrev mX12_found : x_M := (RX12, cX12_found, 7, (some .int), false, 0, fun _ => 0)
theorem lb_X12_found : x_lkB yX12_found cX12_found 7 (some .int) 3 := ⟨(x_tbm (tt_6 (List.mem_of_getElem? (i := 220) rfl)) rfl), (x_tbm (tt_1 (List.mem_of_getElem? (i := 12) rfl)) rfl), by decide +kernel, by decide +kernel, by decide +kernel⟩
theorem li_X12_found : Cond.instanceMethod yX12_found ∈ x_tb := (x_tbm (tt_6 (List.mem_of_getElem? (i := 218) rfl)) rfl)
theorem lv_X12_found : Cond.selects yX12_found.cls yX12_found yX12_found ∈ x_tb := (x_tbm (tt_6 (List.mem_of_getElem? (i := 219) rfl)) rfl)
abbrev mX12_putAheadOf : x_M := (RX12, cX12_putAheadOf, 4, (some .boolean), false, 0, fun _ => 0)
theorem lb_X12_putAheadOf : x_lkB yX12_putAheadOf cX12_putAheadOf 4 (some .boolean) 1 := ⟨(x_tbm (tt_6 (List.mem_of_getElem? (i := 224) rfl)) rfl), (x_tbm (tt_1 (List.mem_of_getElem? (i := 12) rfl)) rfl), by decide +kernel, by decide +kernel, by decide +kernel⟩
theorem li_X12_putAheadOf : Cond.instanceMethod yX12_putAheadOf ∈ x_tb := (x_tbm (tt_6 (List.mem_of_getElem? (i := 223) rfl)) rfl)
theorem lv_X12_putAheadOf : Cond.selects yX12_putAheadOf.cls yX12_putAheadOf yX12_putAheadOf ∈ x_tb := (x_tbm (List.mem_append_left _ (List.mem_of_getElem? (i := 60) rfl)) rfl)
abbrev mX12_word : x_M := (RX12, cX12_word, 7, (some .int), false, 0, fun _ => 0)
theorem lb_X12_word : x_lkB yX12_word cX12_word 7 (some .int) 3 := ⟨(x_tbm (tt_6 (List.mem_of_getElem? (i := 228) rfl)) rfl), (x_tbm (tt_1 (List.mem_of_getElem? (i := 12) rfl)) rfl), by decide +kernel, by decide +kernel, by decide +kernel⟩
theorem li_X12_word : Cond.instanceMethod yX12_word ∈ x_tb := (x_tbm (tt_6 (List.mem_of_getElem? (i := 226) rfl)) rfl)
theorem lv_X12_word : Cond.selects yX12_word.cls yX12_word yX12_word ∈ x_tb := (x_tbm (tt_6 (List.mem_of_getElem? (i := 227) rfl)) rfl)
abbrev mX12_isWord : x_M := (RX12, cX12_isWord, 1, (some .boolean), false, 0, fun _ => 0)
theorem lb_X12_isWord : x_lkB yX12_isWord cX12_isWord 1 (some .boolean) 1 := ⟨(x_tbm (tt_6 (List.mem_of_getElem? (i := 231) rfl)) rfl), (x_tbm (tt_1 (List.mem_of_getElem? (i := 12) rfl)) rfl), by decide +kernel, by decide +kernel, by decide +kernel⟩
theorem ls_X12_isWord : Cond.static yX12_isWord ∈ x_tb := (x_tbm (tt_6 (List.mem_of_getElem? (i := 230) rfl)) rfl)
abbrev mX12_of : x_M := (RX12, cX12_of, 5, (some .int), false, 0, fun _ => 0)
theorem lb_X12_of : x_lkB yX12_of cX12_of 5 (some .int) 2 := ⟨(x_tbm (tt_6 (List.mem_of_getElem? (i := 236) rfl)) rfl), (x_tbm (tt_1 (List.mem_of_getElem? (i := 12) rfl)) rfl), by decide +kernel, by decide +kernel, by decide +kernel⟩
theorem li_X12_of : Cond.instanceMethod yX12_of ∈ x_tb := (x_tbm (tt_6 (List.mem_of_getElem? (i := 234) rfl)) rfl)
theorem lv_X12_of : Cond.selects yX12_of.cls yX12_of yX12_of ∈ x_tb := (x_tbm (tt_6 (List.mem_of_getElem? (i := 235) rfl)) rfl)
abbrev mX12_leastPeriod : x_M := (RX12, cX12_leastPeriod, 4, (some .int), false, 0, fun _ => 0)
theorem lb_X12_leastPeriod : x_lkB yX12_leastPeriod cX12_leastPeriod 4 (some .int) 2 := ⟨(x_tbm (tt_7 (List.mem_of_getElem? (i := 0) rfl)) rfl), (x_tbm (tt_1 (List.mem_of_getElem? (i := 12) rfl)) rfl), by decide +kernel, by decide +kernel, by decide +kernel⟩
theorem li_X12_leastPeriod : Cond.instanceMethod yX12_leastPeriod ∈ x_tb := (x_tbm (tt_6 (List.mem_of_getElem? (i := 239) rfl)) rfl)
theorem lv_X12_leastPeriod : Cond.selects yX12_leastPeriod.cls yX12_leastPeriod yX12_leastPeriod ∈ x_tb := (x_tbm (List.mem_append_left _ (List.mem_of_getElem? (i := 61) rfl)) rfl)
abbrev mX12_isPeriod : x_M := (RX12, cX12_isPeriod, 5, (some .boolean), false, 0, fun _ => 0)
theorem lb_X12_isPeriod : x_lkB yX12_isPeriod cX12_isPeriod 5 (some .boolean) 2 := ⟨(x_tbm (tt_7 (List.mem_of_getElem? (i := 4) rfl)) rfl), (x_tbm (tt_1 (List.mem_of_getElem? (i := 12) rfl)) rfl), by decide +kernel, by decide +kernel, by decide +kernel⟩
theorem li_X12_isPeriod : Cond.instanceMethod yX12_isPeriod ∈ x_tb := (x_tbm (tt_7 (List.mem_of_getElem? (i := 3) rfl)) rfl)
theorem lv_X12_isPeriod : Cond.selects yX12_isPeriod.cls yX12_isPeriod yX12_isPeriod ∈ x_tb := (x_tbm (List.mem_append_left _ (List.mem_of_getElem? (i := 62) rfl)) rfl)
abbrev mX12_leastTurn : x_M := (RX12, cX12_leastTurn, 5, (some .int), false, 0, fun _ => 0)
theorem lb_X12_leastTurn : x_lkB yX12_leastTurn cX12_leastTurn 5 (some .int) 1 := ⟨(x_tbm (tt_7 (List.mem_of_getElem? (i := 8) rfl)) rfl), (x_tbm (tt_1 (List.mem_of_getElem? (i := 12) rfl)) rfl), by decide +kernel, by decide +kernel, by decide +kernel⟩
theorem li_X12_leastTurn : Cond.instanceMethod yX12_leastTurn ∈ x_tb := (x_tbm (tt_7 (List.mem_of_getElem? (i := 7) rfl)) rfl)
theorem lv_X12_leastTurn : Cond.selects yX12_leastTurn.cls yX12_leastTurn yX12_leastTurn ∈ x_tb := (x_tbm (List.mem_append_left _ (List.mem_of_getElem? (i := 63) rfl)) rfl)
abbrev mX12_turnAt : x_M := (RX12, cX12_turnAt, 4, (some .int), false, 0, fun _ => 0)
theorem lb_X12_turnAt : x_lkB yX12_turnAt cX12_turnAt 4 (some .int) 3 := ⟨(x_tbm (tt_7 (List.mem_of_getElem? (i := 12) rfl)) rfl), (x_tbm (tt_1 (List.mem_of_getElem? (i := 12) rfl)) rfl), by decide +kernel, by decide +kernel, by decide +kernel⟩
theorem li_X12_turnAt : Cond.instanceMethod yX12_turnAt ∈ x_tb := (x_tbm (tt_7 (List.mem_of_getElem? (i := 11) rfl)) rfl)
theorem lv_X12_turnAt : Cond.selects yX12_turnAt.cls yX12_turnAt yX12_turnAt ∈ x_tb := (x_tbm (List.mem_append_left _ (List.mem_of_getElem? (i := 64) rfl)) rfl)
abbrev mX12_parts : x_M := (RX12, cX12_parts, 4, (some .int), false, 0, fun _ => 0)
theorem lb_X12_parts : x_lkB yX12_parts cX12_parts 4 (some .int) 1 := ⟨(x_tbm (tt_7 (List.mem_of_getElem? (i := 16) rfl)) rfl), (x_tbm (tt_1 (List.mem_of_getElem? (i := 12) rfl)) rfl), by decide +kernel, by decide +kernel, by decide +kernel⟩
theorem li_X12_parts : Cond.instanceMethod yX12_parts ∈ x_tb := (x_tbm (tt_7 (List.mem_of_getElem? (i := 15) rfl)) rfl)
theorem lv_X12_parts : Cond.selects yX12_parts.cls yX12_parts yX12_parts ∈ x_tb := (x_tbm (List.mem_append_left _ (List.mem_of_getElem? (i := 65) rfl)) rfl)
abbrev mX12_partFrom : x_M := (RX12, cX12_partFrom, 7, (some .int), false, 0, fun _ => 0)
theorem lb_X12_partFrom : x_lkB yX12_partFrom cX12_partFrom 7 (some .int) 2 := ⟨(x_tbm (tt_7 (List.mem_of_getElem? (i := 20) rfl)) rfl), (x_tbm (tt_1 (List.mem_of_getElem? (i := 12) rfl)) rfl), by decide +kernel, by decide +kernel, by decide +kernel⟩
theorem li_X12_partFrom : Cond.instanceMethod yX12_partFrom ∈ x_tb := (x_tbm (tt_7 (List.mem_of_getElem? (i := 19) rfl)) rfl)
theorem lv_X12_partFrom : Cond.selects yX12_partFrom.cls yX12_partFrom yX12_partFrom ∈ x_tb := (x_tbm (List.mem_append_left _ (List.mem_of_getElem? (i := 66) rfl)) rfl)
abbrev mX12_isAheadOf : x_M := (RX12, cX12_isAheadOf, 6, (some .boolean), false, 0, fun _ => 0)
theorem lb_X12_isAheadOf : x_lkB yX12_isAheadOf cX12_isAheadOf 6 (some .boolean) 4 := ⟨(x_tbm (tt_7 (List.mem_of_getElem? (i := 24) rfl)) rfl), (x_tbm (tt_1 (List.mem_of_getElem? (i := 12) rfl)) rfl), by decide +kernel, by decide +kernel, by decide +kernel⟩
theorem li_X12_isAheadOf : Cond.instanceMethod yX12_isAheadOf ∈ x_tb := (x_tbm (tt_7 (List.mem_of_getElem? (i := 23) rfl)) rfl)
theorem lv_X12_isAheadOf : Cond.selects yX12_isAheadOf.cls yX12_isAheadOf yX12_isAheadOf ∈ x_tb := (x_tbm (List.mem_append_left _ (List.mem_of_getElem? (i := 67) rfl)) rfl)
abbrev mX12_part : x_M := (RX12, cX12_part, 5, (some .int), false, 0, fun _ => 0)
theorem lb_X12_part : x_lkB yX12_part cX12_part 5 (some .int) 2 := ⟨(x_tbm (tt_7 (List.mem_of_getElem? (i := 28) rfl)) rfl), (x_tbm (tt_1 (List.mem_of_getElem? (i := 12) rfl)) rfl), by decide +kernel, by decide +kernel, by decide +kernel⟩
theorem li_X12_part : Cond.instanceMethod yX12_part ∈ x_tb := (x_tbm (tt_7 (List.mem_of_getElem? (i := 26) rfl)) rfl)
theorem lv_X12_part : Cond.selects yX12_part.cls yX12_part yX12_part ∈ x_tb := (x_tbm (tt_7 (List.mem_of_getElem? (i := 27) rfl)) rfl)
abbrev mX12_agree : x_M := (RX12, cX12_agree, 5, (some .int), false, 0, fun _ => 0)
theorem lb_X12_agree : x_lkB yX12_agree cX12_agree 5 (some .int) 2 := ⟨(x_tbm (tt_7 (List.mem_of_getElem? (i := 32) rfl)) rfl), (x_tbm (tt_1 (List.mem_of_getElem? (i := 12) rfl)) rfl), by decide +kernel, by decide +kernel, by decide +kernel⟩
theorem li_X12_agree : Cond.instanceMethod yX12_agree ∈ x_tb := (x_tbm (tt_7 (List.mem_of_getElem? (i := 30) rfl)) rfl)
theorem lv_X12_agree : Cond.selects yX12_agree.cls yX12_agree yX12_agree ∈ x_tb := (x_tbm (tt_7 (List.mem_of_getElem? (i := 31) rfl)) rfl)
abbrev mX12_behind : x_M := (RX12, cX12_behind, 4, (some .int), false, 0, fun _ => 0)
theorem lb_X12_behind : x_lkB yX12_behind cX12_behind 4 (some .int) 3 := ⟨(x_tbm (tt_7 (List.mem_of_getElem? (i := 36) rfl)) rfl), (x_tbm (tt_1 (List.mem_of_getElem? (i := 12) rfl)) rfl), by decide +kernel, by decide +kernel, by decide +kernel⟩
theorem li_X12_behind : Cond.instanceMethod yX12_behind ∈ x_tb := (x_tbm (tt_7 (List.mem_of_getElem? (i := 35) rfl)) rfl)
theorem lv_X12_behind : Cond.selects yX12_behind.cls yX12_behind yX12_behind ∈ x_tb := (x_tbm (List.mem_append_left _ (List.mem_of_getElem? (i := 68) rfl)) rfl)
abbrev mX12_turned : x_M := (RX12, cX12_turned, 6, (some .int), false, 0, fun _ => 0)
theorem lb_X12_turned : x_lkB yX12_turned cX12_turned 6 (some .int) 2 := ⟨(x_tbm (tt_7 (List.mem_of_getElem? (i := 40) rfl)) rfl), (x_tbm (tt_1 (List.mem_of_getElem? (i := 12) rfl)) rfl), by decide +kernel, by decide +kernel, by decide +kernel⟩
theorem li_X12_turned : Cond.instanceMethod yX12_turned ∈ x_tb := (x_tbm (tt_7 (List.mem_of_getElem? (i := 38) rfl)) rfl)
theorem lv_X12_turned : Cond.selects yX12_turned.cls yX12_turned yX12_turned ∈ x_tb := (x_tbm (tt_7 (List.mem_of_getElem? (i := 39) rfl)) rfl)
abbrev mX12_classes : x_M := (RX12, cX12_classes, 9, (some .int), false, 0, fun _ => 0)
theorem lb_X12_classes : x_lkB yX12_classes cX12_classes 9 (some .int) 4 := ⟨(x_tbm (tt_7 (List.mem_of_getElem? (i := 44) rfl)) rfl), (x_tbm (tt_1 (List.mem_of_getElem? (i := 12) rfl)) rfl), by decide +kernel, by decide +kernel, by decide +kernel⟩
theorem li_X12_classes : Cond.instanceMethod yX12_classes ∈ x_tb := (x_tbm (tt_7 (List.mem_of_getElem? (i := 42) rfl)) rfl)
theorem lv_X12_classes : Cond.selects yX12_classes.cls yX12_classes yX12_classes ∈ x_tb := (x_tbm (tt_7 (List.mem_of_getElem? (i := 43) rfl)) rfl)
abbrev mX12_lower : x_M := (RX12, cX12_lower, 3, (some .boolean), false, 0, fun _ => 0)
theorem lb_X12_lower : x_lkB yX12_lower cX12_lower 3 (some .boolean) 2 := ⟨(x_tbm (tt_7 (List.mem_of_getElem? (i := 50) rfl)) rfl), (x_tbm (tt_1 (List.mem_of_getElem? (i := 12) rfl)) rfl), by decide +kernel, by decide +kernel, by decide +kernel⟩
theorem li_X12_lower : Cond.instanceMethod yX12_lower ∈ x_tb := (x_tbm (tt_7 (List.mem_of_getElem? (i := 49) rfl)) rfl)
theorem lv_X12_lower : Cond.selects yX12_lower.cls yX12_lower yX12_lower ∈ x_tb := (x_tbm (List.mem_append_left _ (List.mem_of_getElem? (i := 69) rfl)) rfl)
abbrev mX12_pattern : x_M := (RX12, cX12_pattern, 5, (some .int), false, 0, fun _ => 0)
theorem lb_X12_pattern : x_lkB yX12_pattern cX12_pattern 5 (some .int) 1 := ⟨(x_tbm (tt_7 (List.mem_of_getElem? (i := 54) rfl)) rfl), (x_tbm (tt_1 (List.mem_of_getElem? (i := 12) rfl)) rfl), by decide +kernel, by decide +kernel, by decide +kernel⟩
theorem li_X12_pattern : Cond.instanceMethod yX12_pattern ∈ x_tb := (x_tbm (tt_7 (List.mem_of_getElem? (i := 52) rfl)) rfl)
theorem lv_X12_pattern : Cond.selects yX12_pattern.cls yX12_pattern yX12_pattern ∈ x_tb := (x_tbm (tt_7 (List.mem_of_getElem? (i := 53) rfl)) rfl)
abbrev mX12_isPattern : x_M := (RX12, cX12_isPattern, 1, (some .boolean), false, 0, fun _ => 0)
theorem lb_X12_isPattern : x_lkB yX12_isPattern cX12_isPattern 1 (some .boolean) 1 := ⟨(x_tbm (tt_7 (List.mem_of_getElem? (i := 57) rfl)) rfl), (x_tbm (tt_1 (List.mem_of_getElem? (i := 12) rfl)) rfl), by decide +kernel, by decide +kernel, by decide +kernel⟩
theorem ls_X12_isPattern : Cond.static yX12_isPattern ∈ x_tb := (x_tbm (tt_7 (List.mem_of_getElem? (i := 56) rfl)) rfl)
abbrev mX12_makes : x_M := (RX12, cX12_makes, 4, (some .int), false, 0, fun _ => 0)
theorem lb_X12_makes : x_lkB yX12_makes cX12_makes 4 (some .int) 2 := ⟨(x_tbm (tt_7 (List.mem_of_getElem? (i := 61) rfl)) rfl), (x_tbm (tt_1 (List.mem_of_getElem? (i := 12) rfl)) rfl), by decide +kernel, by decide +kernel, by decide +kernel⟩
theorem li_X12_makes : Cond.instanceMethod yX12_makes ∈ x_tb := (x_tbm (tt_7 (List.mem_of_getElem? (i := 59) rfl)) rfl)
theorem lv_X12_makes : Cond.selects yX12_makes.cls yX12_makes yX12_makes ∈ x_tb := (x_tbm (tt_7 (List.mem_of_getElem? (i := 60) rfl)) rfl)
abbrev mX12_layForm : x_M := (RX12, cX12_layForm, 3, none, false, 0, fun _ => 0)
theorem lb_X12_layForm : x_lkB yX12_layForm cX12_layForm 3 none 1 := ⟨(x_tbm (tt_7 (List.mem_of_getElem? (i := 65) rfl)) rfl), (x_tbm (tt_1 (List.mem_of_getElem? (i := 12) rfl)) rfl), by decide +kernel, by decide +kernel, by decide +kernel⟩
theorem li_X12_layForm : Cond.instanceMethod yX12_layForm ∈ x_tb := (x_tbm (tt_7 (List.mem_of_getElem? (i := 64) rfl)) rfl)
theorem lv_X12_layForm : Cond.selects yX12_layForm.cls yX12_layForm yX12_layForm ∈ x_tb := (x_tbm (List.mem_append_left _ (List.mem_of_getElem? (i := 70) rfl)) rfl)
abbrev mX12_waysOf : x_M := (RX12, cX12_waysOf, 8, (some .int), false, 0, fun _ => 0)
theorem lb_X12_waysOf : x_lkB yX12_waysOf cX12_waysOf 8 (some .int) 0 := ⟨(x_tbm (tt_7 (List.mem_of_getElem? (i := 69) rfl)) rfl), (x_tbm (tt_1 (List.mem_of_getElem? (i := 12) rfl)) rfl), by decide +kernel, by decide +kernel, by decide +kernel⟩
theorem li_X12_waysOf : Cond.instanceMethod yX12_waysOf ∈ x_tb := (x_tbm (tt_7 (List.mem_of_getElem? (i := 68) rfl)) rfl)
theorem lv_X12_waysOf : Cond.selects yX12_waysOf.cls yX12_waysOf yX12_waysOf ∈ x_tb := (x_tbm (List.mem_append_left _ (List.mem_of_getElem? (i := 71) rfl)) rfl)
abbrev mX12_countOf : x_M := (RX12, cX12_countOf, 4, (some .int), false, 0, fun _ => 0)
theorem lb_X12_countOf : x_lkB yX12_countOf cX12_countOf 4 (some .int) 1 := ⟨(x_tbm (tt_7 (List.mem_of_getElem? (i := 73) rfl)) rfl), (x_tbm (tt_1 (List.mem_of_getElem? (i := 12) rfl)) rfl), by decide +kernel, by decide +kernel, by decide +kernel⟩
theorem li_X12_countOf : Cond.instanceMethod yX12_countOf ∈ x_tb := (x_tbm (tt_7 (List.mem_of_getElem? (i := 72) rfl)) rfl)
theorem lv_X12_countOf : Cond.selects yX12_countOf.cls yX12_countOf yX12_countOf ∈ x_tb := (x_tbm (List.mem_append_left _ (List.mem_of_getElem? (i := 72) rfl)) rfl)
abbrev mX12_isGoal : x_M := (RX12, cX12_isGoal, 6, (some .boolean), false, 0, fun _ => 0)
theorem lb_X12_isGoal : x_lkB yX12_isGoal cX12_isGoal 6 (some .boolean) 0 := ⟨(x_tbm (tt_7 (List.mem_of_getElem? (i := 77) rfl)) rfl), (x_tbm (tt_1 (List.mem_of_getElem? (i := 12) rfl)) rfl), by decide +kernel, by decide +kernel, by decide +kernel⟩
theorem li_X12_isGoal : Cond.instanceMethod yX12_isGoal ∈ x_tb := (x_tbm (tt_7 (List.mem_of_getElem? (i := 76) rfl)) rfl)
theorem lv_X12_isGoal : Cond.selects yX12_isGoal.cls yX12_isGoal yX12_isGoal ∈ x_tb := (x_tbm (List.mem_append_left _ (List.mem_of_getElem? (i := 73) rfl)) rfl)
abbrev mX12_nextPut : x_M := (RX12, cX12_nextPut, 5, (some .boolean), false, 0, fun _ => 0)
theorem lb_X12_nextPut : x_lkB yX12_nextPut cX12_nextPut 5 (some .boolean) 2 := ⟨(x_tbm (tt_7 (List.mem_of_getElem? (i := 81) rfl)) rfl), (x_tbm (tt_1 (List.mem_of_getElem? (i := 12) rfl)) rfl), by decide +kernel, by decide +kernel, by decide +kernel⟩
theorem li_X12_nextPut : Cond.instanceMethod yX12_nextPut ∈ x_tb := (x_tbm (tt_7 (List.mem_of_getElem? (i := 80) rfl)) rfl)
theorem lv_X12_nextPut : Cond.selects yX12_nextPut.cls yX12_nextPut yX12_nextPut ∈ x_tb := (x_tbm (List.mem_append_left _ (List.mem_of_getElem? (i := 74) rfl)) rfl)
abbrev mX12_carries : x_M := (RX12, cX12_carries, 4, (some .int), false, 0, fun _ => 0)
theorem lb_X12_carries : x_lkB yX12_carries cX12_carries 4 (some .int) 2 := ⟨(x_tbm (tt_7 (List.mem_of_getElem? (i := 85) rfl)) rfl), (x_tbm (tt_1 (List.mem_of_getElem? (i := 12) rfl)) rfl), by decide +kernel, by decide +kernel, by decide +kernel⟩
theorem li_X12_carries : Cond.instanceMethod yX12_carries ∈ x_tb := (x_tbm (tt_7 (List.mem_of_getElem? (i := 83) rfl)) rfl)
theorem lv_X12_carries : Cond.selects yX12_carries.cls yX12_carries yX12_carries ∈ x_tb := (x_tbm (tt_7 (List.mem_of_getElem? (i := 84) rfl)) rfl)
abbrev mX12_sample : x_M := (RX12, cX12_sample, 5, (some .int), false, 0, fun _ => 0)
theorem lb_X12_sample : x_lkB yX12_sample cX12_sample 5 (some .int) 2 := ⟨(x_tbm (tt_7 (List.mem_of_getElem? (i := 89) rfl)) rfl), (x_tbm (tt_1 (List.mem_of_getElem? (i := 12) rfl)) rfl), by decide +kernel, by decide +kernel, by decide +kernel⟩
theorem li_X12_sample : Cond.instanceMethod yX12_sample ∈ x_tb := (x_tbm (tt_7 (List.mem_of_getElem? (i := 87) rfl)) rfl)
theorem lv_X12_sample : Cond.selects yX12_sample.cls yX12_sample yX12_sample ∈ x_tb := (x_tbm (tt_7 (List.mem_of_getElem? (i := 88) rfl)) rfl)
abbrev mX12_clear : x_M := (RX12, cX12_clear, 2, (some .int), false, 0, fun _ => 0)
theorem lb_X12_clear : x_lkB yX12_clear cX12_clear 2 (some .int) 0 := ⟨(x_tbm (tt_7 (List.mem_of_getElem? (i := 93) rfl)) rfl), (x_tbm (tt_1 (List.mem_of_getElem? (i := 12) rfl)) rfl), by decide +kernel, by decide +kernel, by decide +kernel⟩
theorem li_X12_clear : Cond.instanceMethod yX12_clear ∈ x_tb := (x_tbm (tt_7 (List.mem_of_getElem? (i := 91) rfl)) rfl)
theorem lv_X12_clear : Cond.selects yX12_clear.cls yX12_clear yX12_clear ∈ x_tb := (x_tbm (tt_7 (List.mem_of_getElem? (i := 92) rfl)) rfl)
abbrev mX12_common : x_M := (RX12, cX12_common, 7, (some .int), false, 0, fun _ => 0)
theorem lb_X12_common : x_lkB yX12_common cX12_common 7 (some .int) 1 := ⟨(x_tbm (tt_7 (List.mem_of_getElem? (i := 97) rfl)) rfl), (x_tbm (tt_1 (List.mem_of_getElem? (i := 12) rfl)) rfl), by decide +kernel, by decide +kernel, by decide +kernel⟩
theorem li_X12_common : Cond.instanceMethod yX12_common ∈ x_tb := (x_tbm (tt_7 (List.mem_of_getElem? (i := 95) rfl)) rfl)
theorem lv_X12_common : Cond.selects yX12_common.cls yX12_common yX12_common ∈ x_tb := (x_tbm (tt_7 (List.mem_of_getElem? (i := 96) rfl)) rfl)
abbrev mX12_makesAll : x_M := (RX12, cX12_makesAll, 4, (some .boolean), false, 0, fun _ => 0)
theorem lb_X12_makesAll : x_lkB yX12_makesAll cX12_makesAll 4 (some .boolean) 0 := ⟨(x_tbm (tt_7 (List.mem_of_getElem? (i := 101) rfl)) rfl), (x_tbm (tt_1 (List.mem_of_getElem? (i := 12) rfl)) rfl), by decide +kernel, by decide +kernel, by decide +kernel⟩
theorem li_X12_makesAll : Cond.instanceMethod yX12_makesAll ∈ x_tb := (x_tbm (tt_7 (List.mem_of_getElem? (i := 100) rfl)) rfl)
theorem lv_X12_makesAll : Cond.selects yX12_makesAll.cls yX12_makesAll yX12_makesAll ∈ x_tb := (x_tbm (List.mem_append_left _ (List.mem_of_getElem? (i := 75) rfl)) rfl)
abbrev mX12_count : x_M := (RX12, cX12_count, 4, (some .int), false, 0, fun _ => 0)
theorem lb_X12_count : x_lkB yX12_count cX12_count 4 (some .int) 1 := ⟨(x_tbm (tt_7 (List.mem_of_getElem? (i := 105) rfl)) rfl), (x_tbm (tt_1 (List.mem_of_getElem? (i := 12) rfl)) rfl), by decide +kernel, by decide +kernel, by decide +kernel⟩
theorem li_X12_count : Cond.instanceMethod yX12_count ∈ x_tb := (x_tbm (tt_7 (List.mem_of_getElem? (i := 103) rfl)) rfl)
theorem lv_X12_count : Cond.selects yX12_count.cls yX12_count yX12_count ∈ x_tb := (x_tbm (tt_7 (List.mem_of_getElem? (i := 104) rfl)) rfl)
theorem lm_X0_3 : Cond.methodLink RX0 3 ⟨"java/lang/Object", "<init>", "()V"⟩ ∈ x_tb := (x_tbm (tt_1 (List.mem_of_getElem? (i := 96) rfl)) rfl)
theorem fp_X0_9 : x_fp RX0 9 0 0 2 true := ⟨RX0, TX0, 3, tyX0, rfl, by decide, inX0, (x_tbm (tt_1 (List.mem_of_getElem? (i := 97) rfl)) rfl), rfl, by decide, tyX0_ok, nmX0, rfl, Or.inr (Or.inr (Or.inr ⟨rfl, Or.inr ⟨_, rfl⟩⟩)), fun _ => by decide +kernel⟩
theorem fp_X0_15 : x_fp RX0 15 0 1 2 true := ⟨RX0, TX0, 3, tyX0, rfl, by decide, inX0, (x_tbm (tt_1 (List.mem_of_getElem? (i := 98) rfl)) rfl), rfl, by decide, tyX0_ok, nmX0, rfl, Or.inr (Or.inr (Or.inr ⟨rfl, Or.inr ⟨_, rfl⟩⟩)), fun _ => by decide +kernel⟩
theorem fp_X0_18 : x_fp RX0 18 0 2 0 false := ⟨RX0, TX0, 3, tyX0, rfl, by decide, inX0, (x_tbm (tt_1 (List.mem_of_getElem? (i := 99) rfl)) rfl), rfl, by decide, tyX0_ok, nmX0, rfl, Or.inl ⟨rfl, rfl⟩, fun _ => by decide +kernel⟩
theorem fl_X0_9 : x_fl RX0 9 0 0 2 := ⟨RX0, TX0, 3, rfl, by decide, inX0, (x_tbm (tt_1 (List.mem_of_getElem? (i := 97) rfl)) rfl), rfl, by decide⟩
theorem lk_X0_22 : x_lkS RX0 22 yJ9_min_7cf53 cJ9_min_7cf53 2 (some .int) 2 := ⟨lb_J9_min_7cf53, (x_tbm (tt_2 (List.mem_of_getElem? (i := 223) rfl)) rfl), ls_J9_min_7cf53⟩
theorem lk_X0_28 : x_lkS RX0 28 yJ9_max_7cf53 cJ9_max_7cf53 2 (some .int) 2 := ⟨lb_J9_max_7cf53, (x_tbm (tt_2 (List.mem_of_getElem? (i := 224) rfl)) rfl), ls_J9_max_7cf53⟩
theorem fl_X0_18 : x_fl RX0 18 0 2 0 := ⟨RX0, TX0, 3, rfl, by decide, inX0, (x_tbm (tt_1 (List.mem_of_getElem? (i := 99) rfl)) rfl), rfl, by decide⟩
theorem fl_X0_15 : x_fl RX0 15 0 1 2 := ⟨RX0, TX0, 3, rfl, by decide, inX0, (x_tbm (tt_1 (List.mem_of_getElem? (i := 98) rfl)) rfl), rfl, by decide⟩
theorem lk_X0_31 : x_lkV RX0 31 yX0_join cX0_join 6 (some .boolean) 2 := ⟨lb_X0_join, (x_tbm (tt_4 (List.mem_of_getElem? (i := 209) rfl)) rfl), li_X0_join, lv_X0_join⟩
theorem lm_X1_3 : Cond.methodLink RX1 3 ⟨"java/lang/Object", "<init>", "()V"⟩ ∈ x_tb := (x_tbm (tt_1 (List.mem_of_getElem? (i := 84) rfl)) rfl)
theorem fp_X1_9 : x_fp RX1 9 1 0 2 true := ⟨RX1, TX1, 14, tyX1, rfl, by decide, inX1, (x_tbm (tt_1 (List.mem_of_getElem? (i := 132) rfl)) rfl), rfl, by decide, tyX1_ok, nmX1, rfl, Or.inr (Or.inr (Or.inr ⟨rfl, Or.inr ⟨_, rfl⟩⟩)), fun _ => by decide +kernel⟩
theorem fp_X1_15 : x_fp RX1 15 1 1 2 true := ⟨RX1, TX1, 14, tyX1, rfl, by decide, inX1, (x_tbm (tt_1 (List.mem_of_getElem? (i := 133) rfl)) rfl), rfl, by decide, tyX1_ok, nmX1, rfl, Or.inr (Or.inr (Or.inr ⟨rfl, Or.inr ⟨_, rfl⟩⟩)), fun _ => by decide +kernel⟩
theorem fp_X1_18 : x_fp RX1 18 1 2 2 true := ⟨RX1, TX1, 14, tyX1, rfl, by decide, inX1, (x_tbm (tt_1 (List.mem_of_getElem? (i := 134) rfl)) rfl), rfl, by decide, tyX1_ok, nmX1, rfl, Or.inr (Or.inr (Or.inr ⟨rfl, Or.inr ⟨_, rfl⟩⟩)), fun _ => by decide +kernel⟩
theorem fp_X1_21 : x_fp RX1 21 1 3 2 true := ⟨RX1, TX1, 14, tyX1, rfl, by decide, inX1, (x_tbm (tt_1 (List.mem_of_getElem? (i := 135) rfl)) rfl), rfl, by decide, tyX1_ok, nmX1, rfl, Or.inr (Or.inr (Or.inr ⟨rfl, Or.inr ⟨_, rfl⟩⟩)), fun _ => by decide +kernel⟩
theorem fp_X1_24 : x_fp RX1 24 1 4 2 true := ⟨RX1, TX1, 14, tyX1, rfl, by decide, inX1, (x_tbm (tt_1 (List.mem_of_getElem? (i := 136) rfl)) rfl), rfl, by decide, tyX1_ok, nmX1, rfl, Or.inr (Or.inr (Or.inr ⟨rfl, Or.inr ⟨_, rfl⟩⟩)), fun _ => by decide +kernel⟩
theorem fp_X1_27 : x_fp RX1 27 1 5 2 true := ⟨RX1, TX1, 14, tyX1, rfl, by decide, inX1, (x_tbm (tt_1 (List.mem_of_getElem? (i := 137) rfl)) rfl), rfl, by decide, tyX1_ok, nmX1, rfl, Or.inr (Or.inr (Or.inr ⟨rfl, Or.inr ⟨_, rfl⟩⟩)), fun _ => by decide +kernel⟩
theorem fp_X1_30 : x_fp RX1 30 1 6 2 true := ⟨RX1, TX1, 14, tyX1, rfl, by decide, inX1, (x_tbm (tt_1 (List.mem_of_getElem? (i := 138) rfl)) rfl), rfl, by decide, tyX1_ok, nmX1, rfl, Or.inr (Or.inr (Or.inr ⟨rfl, Or.inr ⟨_, rfl⟩⟩)), fun _ => by decide +kernel⟩
theorem fp_X1_33 : x_fp RX1 33 1 7 2 true := ⟨RX1, TX1, 14, tyX1, rfl, by decide, inX1, (x_tbm (tt_1 (List.mem_of_getElem? (i := 139) rfl)) rfl), rfl, by decide, tyX1_ok, nmX1, rfl, Or.inr (Or.inr (Or.inr ⟨rfl, Or.inr ⟨_, rfl⟩⟩)), fun _ => by decide +kernel⟩
theorem lc_new_X1_36 : Cond.classLink RX1 36 "TwoSides$Filling" ∈ x_tb := (x_tbm (tt_1 (List.mem_of_getElem? (i := 85) rfl)) rfl)
theorem lk_X1_38 : x_lkIN RX1 "TwoSides" 38 yX4_init cX4_init 1 0 := ⟨lb_X4_init, (tt_1 (List.mem_of_getElem? (i := 87) rfl)), rfl, li_X4_init⟩
theorem fp_X1_39 : x_fp RX1 39 1 8 2 true := ⟨RX1, TX1, 14, tyX1, rfl, by decide, inX1, (x_tbm (tt_1 (List.mem_of_getElem? (i := 140) rfl)) rfl), rfl, by decide, tyX1_ok, nmX1, rfl, Or.inr (Or.inr (Or.inr ⟨rfl, Or.inl ⟨_, rfl⟩⟩)), fun _ => by decide +kernel⟩
theorem fp_X1_43 : x_fp RX1 43 1 9 2 false := ⟨RX1, TX1, 14, tyX1, rfl, by decide, inX1, (x_tbm (tt_1 (List.mem_of_getElem? (i := 141) rfl)) rfl), rfl, by decide, tyX1_ok, nmX1, rfl, Or.inr (Or.inr (Or.inr ⟨rfl, Or.inr ⟨_, rfl⟩⟩)), fun _ => by decide +kernel⟩
theorem fp_X1_46 : x_fp RX1 46 1 10 2 false := ⟨RX1, TX1, 14, tyX1, rfl, by decide, inX1, (x_tbm (tt_1 (List.mem_of_getElem? (i := 142) rfl)) rfl), rfl, by decide, tyX1_ok, nmX1, rfl, Or.inr (Or.inr (Or.inr ⟨rfl, Or.inr ⟨_, rfl⟩⟩)), fun _ => by decide +kernel⟩
theorem fp_X1_50 : x_fp RX1 50 1 11 0 false := ⟨RX1, TX1, 14, tyX1, rfl, by decide, inX1, (x_tbm (tt_1 (List.mem_of_getElem? (i := 143) rfl)) rfl), rfl, by decide, tyX1_ok, nmX1, rfl, Or.inl ⟨rfl, rfl⟩, fun _ => by decide +kernel⟩
theorem fp_X1_54 : x_fp RX1 54 1 12 1 false := ⟨RX1, TX1, 14, tyX1, rfl, by decide, inX1, (x_tbm (tt_1 (List.mem_of_getElem? (i := 144) rfl)) rfl), rfl, by decide, tyX1_ok, nmX1, rfl, Or.inr (Or.inl ⟨rfl, rfl⟩), fun _ => by decide +kernel⟩
theorem fp_X1_58 : x_fp RX1 58 1 13 3 false := ⟨RX1, TX1, 14, tyX1, rfl, by decide, inX1, (x_tbm (tt_1 (List.mem_of_getElem? (i := 145) rfl)) rfl), rfl, by decide, tyX1_ok, nmX1, rfl, Or.inr (Or.inr (Or.inl ⟨rfl, rfl⟩)), fun _ => by decide +kernel⟩
theorem fl_X1_15 : x_fl RX1 15 1 1 2 := ⟨RX1, TX1, 14, rfl, by decide, inX1, (x_tbm (tt_1 (List.mem_of_getElem? (i := 133) rfl)) rfl), rfl, by decide⟩
theorem lk_X1_62 : x_lkS RX1 62 yJ7_fill_53178 cJ7_fill_53178 4 none 2 := ⟨lb_J7_fill_53178, (x_tbm (tt_1 (List.mem_of_getElem? (i := 129) rfl)) rfl), ls_J7_fill_53178⟩
theorem fl_X1_18 : x_fl RX1 18 1 2 2 := ⟨RX1, TX1, 14, rfl, by decide, inX1, (x_tbm (tt_1 (List.mem_of_getElem? (i := 134) rfl)) rfl), rfl, by decide⟩
theorem lk_X1_68 : x_lkSN RX1 "TwoSides" 68 yX11_isNoneOfFour cX11_isNoneOfFour 1 (some .boolean) 1 := ⟨lb_X11_isNoneOfFour, (tt_2 (List.mem_of_getElem? (i := 158) rfl)), ls_X11_isNoneOfFour⟩
theorem fl_X1_9 : x_fl RX1 9 1 0 2 := ⟨RX1, TX1, 14, rfl, by decide, inX1, (x_tbm (tt_1 (List.mem_of_getElem? (i := 132) rfl)) rfl), rfl, by decide⟩
theorem fl_X1_21 : x_fl RX1 21 1 3 2 := ⟨RX1, TX1, 14, rfl, by decide, inX1, (x_tbm (tt_1 (List.mem_of_getElem? (i := 135) rfl)) rfl), rfl, by decide⟩
theorem fl_X1_24 : x_fl RX1 24 1 4 2 := ⟨RX1, TX1, 14, rfl, by decide, inX1, (x_tbm (tt_1 (List.mem_of_getElem? (i := 136) rfl)) rfl), rfl, by decide⟩
theorem fl_X1_58 : x_fl RX1 58 1 13 3 := ⟨RX1, TX1, 14, rfl, by decide, inX1, (x_tbm (tt_1 (List.mem_of_getElem? (i := 145) rfl)) rfl), rfl, by decide⟩
theorem fl_X1_43 : x_fl RX1 43 1 9 2 := ⟨RX1, TX1, 14, rfl, by decide, inX1, (x_tbm (tt_1 (List.mem_of_getElem? (i := 141) rfl)) rfl), rfl, by decide⟩
theorem fl_X1_46 : x_fl RX1 46 1 10 2 := ⟨RX1, TX1, 14, rfl, by decide, inX1, (x_tbm (tt_1 (List.mem_of_getElem? (i := 142) rfl)) rfl), rfl, by decide⟩
theorem fl_X1_33 : x_fl RX1 33 1 7 2 := ⟨RX1, TX1, 14, rfl, by decide, inX1, (x_tbm (tt_1 (List.mem_of_getElem? (i := 139) rfl)) rfl), rfl, by decide⟩
theorem lk_X1_72 : x_lkV RX1 72 yX3_hasUnknown cX3_hasUnknown 3 (some .boolean) 1 := ⟨lb_X3_hasUnknown, (x_tbm (tt_2 (List.mem_of_getElem? (i := 167) rfl)) rfl), li_X3_hasUnknown, lv_X3_hasUnknown⟩
theorem fl_X1_27 : x_fl RX1 27 1 5 2 := ⟨RX1, TX1, 14, rfl, by decide, inX1, (x_tbm (tt_1 (List.mem_of_getElem? (i := 137) rfl)) rfl), rfl, by decide⟩
theorem fl_X1_30 : x_fl RX1 30 1 6 2 := ⟨RX1, TX1, 14, rfl, by decide, inX1, (x_tbm (tt_1 (List.mem_of_getElem? (i := 138) rfl)) rfl), rfl, by decide⟩
theorem lk_X1_77 : x_lkV RX1 77 yX1_surveyOfLength cX1_surveyOfLength 7 none 2 := ⟨lb_X1_surveyOfLength, (x_tbm (tt_2 (List.mem_of_getElem? (i := 180) rfl)) rfl), li_X1_surveyOfLength, lv_X1_surveyOfLength⟩
theorem fl_X1_54 : x_fl RX1 54 1 12 1 := ⟨RX1, TX1, 14, rfl, by decide, inX1, (x_tbm (tt_1 (List.mem_of_getElem? (i := 144) rfl)) rfl), rfl, by decide⟩
theorem lk_X1_81 : x_lkV RX1 81 yX1_rowOf cX1_rowOf 7 (some .int) 1 := ⟨lb_X1_rowOf, (x_tbm (tt_3 (List.mem_of_getElem? (i := 52) rfl)) rfl), li_X1_rowOf, lv_X1_rowOf⟩
theorem fl_X1_50 : x_fl RX1 50 1 11 0 := ⟨RX1, TX1, 14, rfl, by decide, inX1, (x_tbm (tt_1 (List.mem_of_getElem? (i := 143) rfl)) rfl), rfl, by decide⟩
theorem fl_X1_39 : x_fl RX1 39 1 8 2 := ⟨RX1, TX1, 14, rfl, by decide, inX1, (x_tbm (tt_1 (List.mem_of_getElem? (i := 140) rfl)) rfl), rfl, by decide⟩
theorem lk_X1_85 : x_lkV RX1 85 yX4_lay cX4_lay 3 none 1 := ⟨lb_X4_lay, (x_tbm (tt_2 (List.mem_of_getElem? (i := 194) rfl)) rfl), li_X4_lay, lv_X4_lay⟩
theorem lk_X1_89 : x_lkV RX1 89 yX4_length cX4_length 2 (some .int) 1 := ⟨lb_X4_length, (x_tbm (tt_3 (List.mem_of_getElem? (i := 56) rfl)) rfl), li_X4_length, lv_X4_length⟩
theorem lk_X1_93 : x_lkV RX1 93 yX4_solves cX4_solves 6 (some .boolean) 2 := ⟨lb_X4_solves, (x_tbm (tt_2 (List.mem_of_getElem? (i := 201) rfl)) rfl), li_X4_solves, lv_X4_solves⟩
theorem lk_X1_97 : x_lkV RX1 97 yX4_choose cX4_choose 7 none 1 := ⟨lb_X4_choose, (x_tbm (tt_3 (List.mem_of_getElem? (i := 60) rfl)) rfl), li_X4_choose, lv_X4_choose⟩
theorem lk_X1_101 : x_lkV RX1 101 yX4_chosenLetter cX4_chosenLetter 4 (some .int) 2 := ⟨lb_X4_chosenLetter, (x_tbm (tt_3 (List.mem_of_getElem? (i := 64) rfl)) rfl), li_X4_chosenLetter, lv_X4_chosenLetter⟩
theorem lk_X1_105 : x_lkS RX1 105 yX1_codeOf cX1_codeOf 4 (some .int) 4 := ⟨lb_X1_codeOf, (x_tbm (tt_2 (List.mem_of_getElem? (i := 187) rfl)) rfl), ls_X1_codeOf⟩
theorem co_X1_109 : Cond.constantLong RX1 109 (Int64.ofInt (-1)) ∈ x_tb := (x_tbm (tt_3 (List.mem_of_getElem? (i := 91) (by decide +kernel))) rfl)
theorem lk_X1_111 : x_lkV RX1 111 yX4_rankOf cX4_rankOf 10 (some .long) 1 := ⟨lb_X4_rankOf, (x_tbm (tt_3 (List.mem_of_getElem? (i := 92) rfl)) rfl), li_X4_rankOf, lv_X4_rankOf⟩
theorem lk_X1_115 : x_lkS RX1 115 yJ9_max_7cf53 cJ9_max_7cf53 2 (some .int) 2 := ⟨lb_J9_max_7cf53, (x_tbm (tt_2 (List.mem_of_getElem? (i := 184) rfl)) rfl), ls_J9_max_7cf53⟩
theorem lk_X1_120 : x_lkV RX1 120 yX1_addRow cX1_addRow 5 none 2 := ⟨lb_X1_addRow, (x_tbm (tt_2 (List.mem_of_getElem? (i := 190) rfl)) rfl), li_X1_addRow, lv_X1_addRow⟩
theorem lk_X1_123 : x_lkV RX1 123 yX4_ways cX4_ways 4 (some .long) 0 := ⟨lb_X4_ways, (x_tbm (tt_3 (List.mem_of_getElem? (i := 4) rfl)) rfl), li_X4_ways, lv_X4_ways⟩
theorem lk_X1_127 : x_lkV RX1 127 yX1_noteSure cX1_noteSure 5 none 0 := ⟨lb_X1_noteSure, (x_tbm (tt_3 (List.mem_of_getElem? (i := 22) rfl)) rfl), li_X1_noteSure, lv_X1_noteSure⟩
theorem lk_X1_130 : x_lkV RX1 130 yX4_onlyLetter cX4_onlyLetter 4 (some .int) 2 := ⟨lb_X4_onlyLetter, (x_tbm (tt_3 (List.mem_of_getElem? (i := 26) rfl)) rfl), li_X4_onlyLetter, lv_X4_onlyLetter⟩
theorem lm_X2_3 : Cond.methodLink RX2 3 ⟨"java/lang/Object", "<init>", "()V"⟩ ∈ x_tb := (x_tbm (tt_1 (List.mem_of_getElem? (i := 181) rfl)) rfl)
theorem fp_X2_9 : x_fp RX2 9 2 0 2 true := ⟨RX2, TX2, 9, tyX2, rfl, by decide, inX2, (x_tbm (tt_1 (List.mem_of_getElem? (i := 184) rfl)) rfl), rfl, by decide, tyX2_ok, nmX2, rfl, Or.inr (Or.inr (Or.inr ⟨rfl, Or.inr ⟨_, rfl⟩⟩)), fun _ => by decide +kernel⟩
theorem fp_X2_15 : x_fp RX2 15 2 1 2 true := ⟨RX2, TX2, 9, tyX2, rfl, by decide, inX2, (x_tbm (tt_1 (List.mem_of_getElem? (i := 185) rfl)) rfl), rfl, by decide, tyX2_ok, nmX2, rfl, Or.inr (Or.inr (Or.inr ⟨rfl, Or.inr ⟨_, rfl⟩⟩)), fun _ => by decide +kernel⟩
theorem fp_X2_19 : x_fp RX2 19 2 2 2 true := ⟨RX2, TX2, 9, tyX2, rfl, by decide, inX2, (x_tbm (tt_1 (List.mem_of_getElem? (i := 186) rfl)) rfl), rfl, by decide, tyX2_ok, nmX2, rfl, Or.inr (Or.inr (Or.inr ⟨rfl, Or.inr ⟨_, rfl⟩⟩)), fun _ => by decide +kernel⟩
theorem fp_X2_22 : x_fp RX2 22 2 3 2 true := ⟨RX2, TX2, 9, tyX2, rfl, by decide, inX2, (x_tbm (tt_1 (List.mem_of_getElem? (i := 187) rfl)) rfl), rfl, by decide, tyX2_ok, nmX2, rfl, Or.inr (Or.inr (Or.inr ⟨rfl, Or.inr ⟨_, rfl⟩⟩)), fun _ => by decide +kernel⟩
theorem fp_X2_25 : x_fp RX2 25 2 4 2 true := ⟨RX2, TX2, 9, tyX2, rfl, by decide, inX2, (x_tbm (tt_1 (List.mem_of_getElem? (i := 188) rfl)) rfl), rfl, by decide, tyX2_ok, nmX2, rfl, Or.inr (Or.inr (Or.inr ⟨rfl, Or.inr ⟨_, rfl⟩⟩)), fun _ => by decide +kernel⟩
theorem lc_multianewarray_X2_28 : Cond.classLink RX2 28 "[[I" ∈ x_tb := (x_tbm (tt_1 (List.mem_of_getElem? (i := 182) rfl)) rfl)
theorem fp_X2_30 : x_fp RX2 30 2 5 2 true := ⟨RX2, TX2, 9, tyX2, rfl, by decide, inX2, (x_tbm (tt_1 (List.mem_of_getElem? (i := 189) rfl)) rfl), rfl, by decide, tyX2_ok, nmX2, rfl, Or.inr (Or.inr (Or.inr ⟨rfl, Or.inr ⟨_, rfl⟩⟩)), fun _ => by decide +kernel⟩
theorem fp_X2_33 : x_fp RX2 33 2 6 2 true := ⟨RX2, TX2, 9, tyX2, rfl, by decide, inX2, (x_tbm (tt_1 (List.mem_of_getElem? (i := 190) rfl)) rfl), rfl, by decide, tyX2_ok, nmX2, rfl, Or.inr (Or.inr (Or.inr ⟨rfl, Or.inr ⟨_, rfl⟩⟩)), fun _ => by decide +kernel⟩
theorem fp_X2_36 : x_fp RX2 36 2 7 2 true := ⟨RX2, TX2, 9, tyX2, rfl, by decide, inX2, (x_tbm (tt_1 (List.mem_of_getElem? (i := 191) rfl)) rfl), rfl, by decide, tyX2_ok, nmX2, rfl, Or.inr (Or.inr (Or.inr ⟨rfl, Or.inr ⟨_, rfl⟩⟩)), fun _ => by decide +kernel⟩
theorem fp_X2_39 : x_fp RX2 39 2 8 2 false := ⟨RX2, TX2, 9, tyX2, rfl, by decide, inX2, (x_tbm (tt_1 (List.mem_of_getElem? (i := 192) rfl)) rfl), rfl, by decide, tyX2_ok, nmX2, rfl, Or.inr (Or.inr (Or.inr ⟨rfl, Or.inl ⟨_, rfl⟩⟩)), fun _ => by decide +kernel⟩
theorem fl_X2_9 : x_fl RX2 9 2 0 2 := ⟨RX2, TX2, 9, rfl, by decide, inX2, (x_tbm (tt_1 (List.mem_of_getElem? (i := 184) rfl)) rfl), rfl, by decide⟩
theorem lk_X2_43 : x_lkSN RX2 "TwoSides" 43 yX11_isNoneOfFour cX11_isNoneOfFour 1 (some .boolean) 1 := ⟨lb_X11_isNoneOfFour, (tt_3 (List.mem_of_getElem? (i := 114) rfl)), ls_X11_isNoneOfFour⟩
theorem fl_X2_15 : x_fl RX2 15 2 1 2 := ⟨RX2, TX2, 9, rfl, by decide, inX2, (x_tbm (tt_1 (List.mem_of_getElem? (i := 185) rfl)) rfl), rfl, by decide⟩
theorem lk_X2_47 : x_lkV RX2 47 yX3_times cX3_times 3 (some .int) 2 := ⟨lb_X3_times, (x_tbm (tt_3 (List.mem_of_getElem? (i := 115) rfl)) rfl), li_X3_times, lv_X3_times⟩
theorem fl_X2_39 : x_fl RX2 39 2 8 2 := ⟨RX2, TX2, 9, rfl, by decide, inX2, (x_tbm (tt_1 (List.mem_of_getElem? (i := 192) rfl)) rfl), rfl, by decide⟩
theorem lc_new_X2_53 : Cond.classLink RX2 53 "TwoSides$Graph" ∈ x_tb := (x_tbm (tt_3 (List.mem_of_getElem? (i := 116) rfl)) rfl)
theorem lk_X2_55 : x_lkIN RX2 "TwoSides" 55 yX5_init cX5_init 1 0 := ⟨lb_X5_init, (tt_3 (List.mem_of_getElem? (i := 118) rfl)), rfl, li_X5_init⟩
theorem fl_X2_36 : x_fl RX2 36 2 7 2 := ⟨RX2, TX2, 9, rfl, by decide, inX2, (x_tbm (tt_1 (List.mem_of_getElem? (i := 191) rfl)) rfl), rfl, by decide⟩
theorem lk_X2_56 : x_lkV RX2 56 yX3_side cX3_side 4 (some (.object "TwoSides$Side")) 2 := ⟨lb_X3_side, (x_tbm (tt_3 (List.mem_of_getElem? (i := 199) rfl)) rfl), li_X3_side, lv_X3_side⟩
theorem lk_X2_60 : x_lkV RX2 60 yX5_grow cX5_grow 5 none 2 := ⟨lb_X5_grow, (x_tbm (tt_3 (List.mem_of_getElem? (i := 200) rfl)) rfl), li_X5_grow, lv_X5_grow⟩
theorem lk_X2_64 : x_lkV RX2 64 yX5_isSpent cX5_isSpent 1 (some .boolean) 0 := ⟨lb_X5_isSpent, (x_tbm (tt_4 (List.mem_of_getElem? (i := 31) rfl)) rfl), li_X5_isSpent, lv_X5_isSpent⟩
theorem fl_X2_19 : x_fl RX2 19 2 2 2 := ⟨RX2, TX2, 9, rfl, by decide, inX2, (x_tbm (tt_1 (List.mem_of_getElem? (i := 186) rfl)) rfl), rfl, by decide⟩
theorem lk_X2_68 : x_lkV RX2 68 yX5_length cX5_length 1 (some .int) 0 := ⟨lb_X5_length, (x_tbm (tt_4 (List.mem_of_getElem? (i := 35) rfl)) rfl), li_X5_length, lv_X5_length⟩
theorem fl_X2_22 : x_fl RX2 22 2 3 2 := ⟨RX2, TX2, 9, rfl, by decide, inX2, (x_tbm (tt_1 (List.mem_of_getElem? (i := 187) rfl)) rfl), rfl, by decide⟩
theorem lk_X2_72 : x_lkV RX2 72 yX5_hasAnswer cX5_hasAnswer 1 (some .boolean) 0 := ⟨lb_X5_hasAnswer, (x_tbm (tt_4 (List.mem_of_getElem? (i := 39) rfl)) rfl), li_X5_hasAnswer, lv_X5_hasAnswer⟩
theorem lk_X2_75 : x_lkV RX2 75 yX5_chainBack cX5_chainBack 7 (some .int) 1 := ⟨lb_X5_chainBack, (x_tbm (tt_4 (List.mem_of_getElem? (i := 43) rfl)) rfl), li_X5_chainBack, lv_X5_chainBack⟩
theorem fl_X2_25 : x_fl RX2 25 2 4 2 := ⟨RX2, TX2, 9, rfl, by decide, inX2, (x_tbm (tt_1 (List.mem_of_getElem? (i := 188) rfl)) rfl), rfl, by decide⟩
theorem lk_X2_79 : x_lkV RX2 79 yX5_ringOrFree cX5_ringOrFree 2 (some .int) 0 := ⟨lb_X5_ringOrFree, (x_tbm (tt_4 (List.mem_of_getElem? (i := 47) rfl)) rfl), li_X5_ringOrFree, lv_X5_ringOrFree⟩
theorem lk_X2_82 : x_lkV RX2 82 yX2_buildWords cX2_buildWords 5 (some .boolean) 1 := ⟨lb_X2_buildWords, (x_tbm (tt_4 (List.mem_of_getElem? (i := 99) rfl)) rfl), li_X2_buildWords, lv_X2_buildWords⟩
theorem fl_X2_33 : x_fl RX2 33 2 6 2 := ⟨RX2, TX2, 9, rfl, by decide, inX2, (x_tbm (tt_1 (List.mem_of_getElem? (i := 190) rfl)) rfl), rfl, by decide⟩
theorem fl_X2_30 : x_fl RX2 30 2 5 2 := ⟨RX2, TX2, 9, rfl, by decide, inX2, (x_tbm (tt_1 (List.mem_of_getElem? (i := 189) rfl)) rfl), rfl, by decide⟩
theorem lk_X2_85 : x_lkS RX2 85 yJ7_fill_53178 cJ7_fill_53178 4 none 2 := ⟨lb_J7_fill_53178, (x_tbm (tt_4 (List.mem_of_getElem? (i := 103) rfl)) rfl), ls_J7_fill_53178⟩
theorem lk_X2_91 : x_lkSN RX2 "TwoSides" 91 yX11_unknownOf cX11_unknownOf 1 (some .int) 1 := ⟨lb_X11_unknownOf, (tt_4 (List.mem_of_getElem? (i := 104) rfl)), ls_X11_unknownOf⟩
theorem lk_X2_95 : x_lkSN RX2 "TwoSides" 95 yX11_isUnknown cX11_isUnknown 1 (some .boolean) 1 := ⟨lb_X11_isUnknown, (tt_4 (List.mem_of_getElem? (i := 105) rfl)), ls_X11_isUnknown⟩
theorem lk_X2_98 : x_lkV RX2 98 yX2_prependWord cX2_prependWord 4 none 2 := ⟨lb_X2_prependWord, (x_tbm (tt_4 (List.mem_of_getElem? (i := 106) rfl)) rfl), li_X2_prependWord, lv_X2_prependWord⟩
theorem lk_X2_102 : x_lkV RX2 102 yX2_prependLetter cX2_prependLetter 3 none 2 := ⟨lb_X2_prependLetter, (x_tbm (tt_4 (List.mem_of_getElem? (i := 113) rfl)) rfl), li_X2_prependLetter, lv_X2_prependLetter⟩
theorem lm_X2_105 : Cond.methodLink RX2 105 ⟨"java/lang/System", "arraycopy", "(Ljava/lang/Object;ILjava/lang/Object;II)V"⟩ ∈ x_tb := (x_tbm (tt_4 (List.mem_of_getElem? (i := 110) rfl)) rfl)
theorem lm_X3_3 : Cond.methodLink RX3 3 ⟨"java/lang/Object", "<init>", "()V"⟩ ∈ x_tb := (x_tbm (tt_1 (List.mem_of_getElem? (i := 45) rfl)) rfl)
theorem lc_anewarray_X3_9 : Cond.classLink RX3 9 "TwoSides$Side" ∈ x_tb := (x_tbm (tt_1 (List.mem_of_getElem? (i := 46) rfl)) rfl)
theorem fp_X3_11 : x_fp RX3 11 3 0 2 true := ⟨RX3, TX3, 2, tyX3, rfl, by decide, inX3, (x_tbm (tt_1 (List.mem_of_getElem? (i := 72) rfl)) rfl), rfl, by decide, tyX3_ok, nmX3, rfl, Or.inr (Or.inr (Or.inr ⟨rfl, Or.inr ⟨_, rfl⟩⟩)), fun _ => by decide +kernel⟩
theorem fp_X3_17 : x_fp RX3 17 3 1 0 false := ⟨RX3, TX3, 2, tyX3, rfl, by decide, inX3, (x_tbm (tt_1 (List.mem_of_getElem? (i := 73) rfl)) rfl), rfl, by decide, tyX3_ok, nmX3, rfl, Or.inl ⟨rfl, rfl⟩, fun _ => by decide +kernel⟩
theorem fl_X3_11 : x_fl RX3 11 3 0 2 := ⟨RX3, TX3, 2, rfl, by decide, inX3, (x_tbm (tt_1 (List.mem_of_getElem? (i := 72) rfl)) rfl), rfl, by decide⟩
theorem lc_new_X3_9 : Cond.classLink RX3 9 "TwoSides$Side" ∈ x_tb := (x_tbm (tt_1 (List.mem_of_getElem? (i := 46) rfl)) rfl)
theorem lk_X3_21 : x_lkIN RX3 "TwoSides" 21 yX8_init cX8_init 1 0 := ⟨lb_X8_init, (tt_1 (List.mem_of_getElem? (i := 49) rfl)), rfl, li_X8_init⟩
theorem lk_X3_22 : x_lkV RX3 22 yX3_beginNext cX3_beginNext 1 none 0 := ⟨lb_X3_beginNext, (x_tbm (tt_2 (List.mem_of_getElem? (i := 93) rfl)) rfl), li_X3_beginNext, lv_X3_beginNext⟩
theorem fl_X3_17 : x_fl RX3 17 3 1 0 := ⟨RX3, TX3, 2, rfl, by decide, inX3, (x_tbm (tt_1 (List.mem_of_getElem? (i := 73) rfl)) rfl), rfl, by decide⟩
theorem lk_X3_25 : x_lkV RX3 25 yX3_last cX3_last 2 (some (.object "TwoSides$Side")) 1 := ⟨lb_X3_last, (x_tbm (tt_2 (List.mem_of_getElem? (i := 97) rfl)) rfl), li_X3_last, lv_X3_last⟩
theorem lk_X3_29 : x_lkV RX3 29 yX8_empty cX8_empty 1 none 0 := ⟨lb_X8_empty, (x_tbm (tt_2 (List.mem_of_getElem? (i := 105) rfl)) rfl), li_X8_empty, lv_X8_empty⟩
theorem lk_X3_32 : x_lkV RX3 32 yX3_side cX3_side 4 (some (.object "TwoSides$Side")) 2 := ⟨lb_X3_side, (x_tbm (tt_2 (List.mem_of_getElem? (i := 101) rfl)) rfl), li_X3_side, lv_X3_side⟩
theorem lk_X3_36 : x_lkV RX3 36 yX8_timesOf cX8_timesOf 2 (some .int) 1 := ⟨lb_X8_timesOf, (x_tbm (tt_2 (List.mem_of_getElem? (i := 175) rfl)) rfl), li_X8_timesOf, lv_X8_timesOf⟩
theorem lk_X3_40 : x_lkV RX3 40 yX3_times cX3_times 3 (some .int) 2 := ⟨lb_X3_times, (x_tbm (tt_2 (List.mem_of_getElem? (i := 171) rfl)) rfl), li_X3_times, lv_X3_times⟩
theorem lk_X3_44 : x_lkV RX3 44 yX3_hasUnknown cX3_hasUnknown 3 (some .boolean) 1 := ⟨lb_X3_hasUnknown, (x_tbm (tt_5 (List.mem_of_getElem? (i := 103) rfl)) rfl), li_X3_hasUnknown, lv_X3_hasUnknown⟩
theorem lm_X4_3 : Cond.methodLink RX4 3 ⟨"java/lang/Object", "<init>", "()V"⟩ ∈ x_tb := (x_tbm (tt_1 (List.mem_of_getElem? (i := 90) rfl)) rfl)
theorem lc_new_X4_9 : Cond.classLink RX4 9 "TwoSides$Alike" ∈ x_tb := (x_tbm (tt_1 (List.mem_of_getElem? (i := 91) rfl)) rfl)
theorem lk_X4_11 : x_lkIN RX4 "TwoSides" 11 yX0_init cX0_init 1 0 := ⟨lb_X0_init, (tt_1 (List.mem_of_getElem? (i := 93) rfl)), rfl, li_X0_init⟩
theorem fp_X4_12 : x_fp RX4 12 4 0 2 true := ⟨RX4, TX4, 7, tyX4, rfl, by decide, inX4, (x_tbm (tt_1 (List.mem_of_getElem? (i := 107) rfl)) rfl), rfl, by decide, tyX4_ok, nmX4, rfl, Or.inr (Or.inr (Or.inr ⟨rfl, Or.inl ⟨_, rfl⟩⟩)), fun _ => by decide +kernel⟩
theorem fp_X4_18 : x_fp RX4 18 4 1 2 true := ⟨RX4, TX4, 7, tyX4, rfl, by decide, inX4, (x_tbm (tt_1 (List.mem_of_getElem? (i := 108) rfl)) rfl), rfl, by decide, tyX4_ok, nmX4, rfl, Or.inr (Or.inr (Or.inr ⟨rfl, Or.inr ⟨_, rfl⟩⟩)), fun _ => by decide +kernel⟩
theorem fp_X4_22 : x_fp RX4 22 4 2 2 true := ⟨RX4, TX4, 7, tyX4, rfl, by decide, inX4, (x_tbm (tt_1 (List.mem_of_getElem? (i := 109) rfl)) rfl), rfl, by decide, tyX4_ok, nmX4, rfl, Or.inr (Or.inr (Or.inr ⟨rfl, Or.inr ⟨_, rfl⟩⟩)), fun _ => by decide +kernel⟩
theorem fp_X4_25 : x_fp RX4 25 4 3 2 true := ⟨RX4, TX4, 7, tyX4, rfl, by decide, inX4, (x_tbm (tt_1 (List.mem_of_getElem? (i := 110) rfl)) rfl), rfl, by decide, tyX4_ok, nmX4, rfl, Or.inr (Or.inr (Or.inr ⟨rfl, Or.inr ⟨_, rfl⟩⟩)), fun _ => by decide +kernel⟩
theorem fp_X4_28 : x_fp RX4 28 4 4 2 true := ⟨RX4, TX4, 7, tyX4, rfl, by decide, inX4, (x_tbm (tt_1 (List.mem_of_getElem? (i := 111) rfl)) rfl), rfl, by decide, tyX4_ok, nmX4, rfl, Or.inr (Or.inr (Or.inr ⟨rfl, Or.inr ⟨_, rfl⟩⟩)), fun _ => by decide +kernel⟩
theorem fp_X4_31 : x_fp RX4 31 4 5 2 true := ⟨RX4, TX4, 7, tyX4, rfl, by decide, inX4, (x_tbm (tt_1 (List.mem_of_getElem? (i := 112) rfl)) rfl), rfl, by decide, tyX4_ok, nmX4, rfl, Or.inr (Or.inr (Or.inr ⟨rfl, Or.inr ⟨_, rfl⟩⟩)), fun _ => by decide +kernel⟩
theorem fp_X4_34 : x_fp RX4 34 4 6 0 false := ⟨RX4, TX4, 7, tyX4, rfl, by decide, inX4, (x_tbm (tt_1 (List.mem_of_getElem? (i := 113) rfl)) rfl), rfl, by decide, tyX4_ok, nmX4, rfl, Or.inl ⟨rfl, rfl⟩, fun _ => by decide +kernel⟩
theorem fl_X4_18 : x_fl RX4 18 4 1 2 := ⟨RX4, TX4, 7, rfl, by decide, inX4, (x_tbm (tt_1 (List.mem_of_getElem? (i := 108) rfl)) rfl), rfl, by decide⟩
theorem lk_X4_38 : x_lkS RX4 38 yJ9_min_7cf53 cJ9_min_7cf53 2 (some .int) 2 := ⟨lb_J9_min_7cf53, (x_tbm (tt_2 (List.mem_of_getElem? (i := 198) rfl)) rfl), ls_J9_min_7cf53⟩
theorem fl_X4_22 : x_fl RX4 22 4 2 2 := ⟨RX4, TX4, 7, rfl, by decide, inX4, (x_tbm (tt_1 (List.mem_of_getElem? (i := 109) rfl)) rfl), rfl, by decide⟩
theorem fl_X4_34 : x_fl RX4 34 4 6 0 := ⟨RX4, TX4, 7, rfl, by decide, inX4, (x_tbm (tt_1 (List.mem_of_getElem? (i := 113) rfl)) rfl), rfl, by decide⟩
theorem lk_X4_44 : x_lkV RX4 44 yX3_length cX3_length 1 (some .int) 0 := ⟨lb_X3_length, (x_tbm (tt_2 (List.mem_of_getElem? (i := 205) rfl)) rfl), li_X3_length, lv_X3_length⟩
theorem lk_X4_50 : x_lkV RX4 50 yX3_side cX3_side 4 (some (.object "TwoSides$Side")) 2 := ⟨lb_X3_side, (x_tbm (tt_2 (List.mem_of_getElem? (i := 206) rfl)) rfl), li_X3_side, lv_X3_side⟩
theorem lk_X4_54 : x_lkV RX4 54 yX4_lengthOf cX4_lengthOf 2 (some .int) 1 := ⟨lb_X4_lengthOf, (x_tbm (tt_2 (List.mem_of_getElem? (i := 207) rfl)) rfl), li_X4_lengthOf, lv_X4_lengthOf⟩
theorem lk_X4_58 : x_lkV RX4 58 yX4_beginClasses cX4_beginClasses 4 none 1 := ⟨lb_X4_beginClasses, (x_tbm (tt_2 (List.mem_of_getElem? (i := 215) rfl)) rfl), li_X4_beginClasses, lv_X4_beginClasses⟩
theorem fl_X4_28 : x_fl RX4 28 4 4 2 := ⟨RX4, TX4, 7, rfl, by decide, inX4, (x_tbm (tt_1 (List.mem_of_getElem? (i := 111) rfl)) rfl), rfl, by decide⟩
theorem lk_X4_62 : x_lkV RX4 62 yX4_spread cX4_spread 9 (some .int) 2 := ⟨lb_X4_spread, (x_tbm (tt_2 (List.mem_of_getElem? (i := 229) rfl)) rfl), li_X4_spread, lv_X4_spread⟩
theorem fl_X4_31 : x_fl RX4 31 4 5 2 := ⟨RX4, TX4, 7, rfl, by decide, inX4, (x_tbm (tt_1 (List.mem_of_getElem? (i := 112) rfl)) rfl), rfl, by decide⟩
theorem fl_X4_12 : x_fl RX4 12 4 0 2 := ⟨RX4, TX4, 7, rfl, by decide, inX4, (x_tbm (tt_1 (List.mem_of_getElem? (i := 107) rfl)) rfl), rfl, by decide⟩
theorem lk_X4_66 : x_lkV RX4 66 yX0_join cX0_join 6 (some .boolean) 2 := ⟨lb_X0_join, (x_tbm (tt_3 (List.mem_of_getElem? (i := 0) rfl)) rfl), li_X0_join, lv_X0_join⟩
theorem lk_X4_70 : x_lkV RX4 70 yX8_lengthBy cX8_lengthBy 5 (some .int) 4 := ⟨lb_X8_lengthBy, (x_tbm (tt_2 (List.mem_of_getElem? (i := 211) rfl)) rfl), li_X8_lengthBy, lv_X8_lengthBy⟩
theorem lk_X4_76 : x_lkV RX4 76 yX0_begin cX0_begin 3 none 1 := ⟨lb_X0_begin, (x_tbm (tt_2 (List.mem_of_getElem? (i := 219) rfl)) rfl), li_X0_begin, lv_X0_begin⟩
theorem lk_X4_80 : x_lkV RX4 80 yX0_allow cX0_allow 3 none 2 := ⟨lb_X0_allow, (x_tbm (tt_2 (List.mem_of_getElem? (i := 225) rfl)) rfl), li_X0_allow, lv_X0_allow⟩
theorem lk_X4_84 : x_lkV RX4 84 yX8_length cX8_length 1 (some .int) 0 := ⟨lb_X8_length, (x_tbm (tt_2 (List.mem_of_getElem? (i := 233) rfl)) rfl), li_X8_length, lv_X8_length⟩
theorem lk_X4_85 : x_lkV RX4 85 yX8_at cX8_at 2 (some .int) 1 := ⟨lb_X8_at, (x_tbm (tt_2 (List.mem_of_getElem? (i := 237) rfl)) rfl), li_X8_at, lv_X8_at⟩
theorem lk_X4_89 : x_lkSN RX4 "TwoSides" 89 yX11_isUnknown cX11_isUnknown 1 (some .boolean) 1 := ⟨lb_X11_isUnknown, (tt_2 (List.mem_of_getElem? (i := 238) rfl)), ls_X11_isUnknown⟩
theorem lk_X4_93 : x_lkSN RX4 "TwoSides" 93 yX11_unknownOf cX11_unknownOf 1 (some .int) 1 := ⟨lb_X11_unknownOf, (tt_2 (List.mem_of_getElem? (i := 239) rfl)), ls_X11_unknownOf⟩
theorem lk_X4_96 : x_lkV RX4 96 yX0_first cX0_first 2 (some .int) 1 := ⟨lb_X0_first, (x_tbm (tt_3 (List.mem_of_getElem? (i := 8) rfl)) rfl), li_X0_first, lv_X0_first⟩
theorem lk_X4_99 : x_lkV RX4 99 yX0_letters cX0_letters 2 (some .int) 1 := ⟨lb_X0_letters, (x_tbm (tt_3 (List.mem_of_getElem? (i := 12) rfl)) rfl), li_X0_letters, lv_X0_letters⟩
theorem lk_X4_102 : x_lkS RX4 102 yJ6_bitCount_0f7a4 cJ6_bitCount_0f7a4 1 (some .int) 1 := ⟨lb_J6_bitCount_0f7a4, (x_tbm (tt_3 (List.mem_of_getElem? (i := 16) rfl)) rfl), ls_J6_bitCount_0f7a4⟩
theorem lk_X4_107 : x_lkSN RX4 "TwoSides" 107 yX11_isNoneOfFour cX11_isNoneOfFour 1 (some .boolean) 1 := ⟨lb_X11_isNoneOfFour, (tt_3 (List.mem_of_getElem? (i := 30) rfl)), ls_X11_isNoneOfFour⟩
theorem fl_X4_25 : x_fl RX4 25 4 3 2 := ⟨RX4, TX4, 7, rfl, by decide, inX4, (x_tbm (tt_1 (List.mem_of_getElem? (i := 110) rfl)) rfl), rfl, by decide⟩
theorem lk_X4_110 : x_lkS RX4 110 yX4_letterAfter cX4_letterAfter 3 (some .int) 2 := ⟨lb_X4_letterAfter, (x_tbm (tt_3 (List.mem_of_getElem? (i := 31) rfl)) rfl), ls_X4_letterAfter⟩
theorem lk_X4_113 : x_lkSN RX4 "TwoSides" 113 yX11_letterOf cX11_letterOf 3 (some .int) 2 := ⟨lb_X11_letterOf, (tt_3 (List.mem_of_getElem? (i := 96) rfl)), ls_X11_letterOf⟩
theorem co_X4_117 : Cond.constantLong RX4 117 (Int64.ofInt (-1)) ∈ x_tb := (x_tbm (tt_3 (List.mem_of_getElem? (i := 97) (by decide +kernel))) rfl)
theorem lm_X5_3 : Cond.methodLink RX5 3 ⟨"java/lang/Object", "<init>", "()V"⟩ ∈ x_tb := (x_tbm (tt_3 (List.mem_of_getElem? (i := 121) rfl)) rfl)
theorem lc_new_X5_9 : Cond.classLink RX5 9 "TwoSides$Pair" ∈ x_tb := (x_tbm (tt_3 (List.mem_of_getElem? (i := 122) rfl)) rfl)
theorem lk_X5_11 : x_lkIN RX5 "TwoSides" 11 yX6_init cX6_init 1 0 := ⟨lb_X6_init, (tt_3 (List.mem_of_getElem? (i := 124) rfl)), rfl, li_X6_init⟩
theorem fp_X5_12 : x_fp RX5 12 5 0 2 true := ⟨RX5, TX5, 17, tyX5, rfl, by decide, inX5, (x_tbm (tt_3 (List.mem_of_getElem? (i := 147) rfl)) rfl), rfl, by decide, tyX5_ok, nmX5, rfl, Or.inr (Or.inr (Or.inr ⟨rfl, Or.inl ⟨_, rfl⟩⟩)), fun _ => by decide +kernel⟩
theorem fp_X5_18 : x_fp RX5 18 5 1 2 true := ⟨RX5, TX5, 17, tyX5, rfl, by decide, inX5, (x_tbm (tt_3 (List.mem_of_getElem? (i := 148) rfl)) rfl), rfl, by decide, tyX5_ok, nmX5, rfl, Or.inr (Or.inr (Or.inr ⟨rfl, Or.inl ⟨_, rfl⟩⟩)), fun _ => by decide +kernel⟩
theorem fp_X5_21 : x_fp RX5 21 5 2 2 true := ⟨RX5, TX5, 17, tyX5, rfl, by decide, inX5, (x_tbm (tt_3 (List.mem_of_getElem? (i := 149) rfl)) rfl), rfl, by decide, tyX5_ok, nmX5, rfl, Or.inr (Or.inr (Or.inr ⟨rfl, Or.inr ⟨_, rfl⟩⟩)), fun _ => by decide +kernel⟩
theorem fp_X5_25 : x_fp RX5 25 5 3 2 true := ⟨RX5, TX5, 17, tyX5, rfl, by decide, inX5, (x_tbm (tt_3 (List.mem_of_getElem? (i := 150) rfl)) rfl), rfl, by decide, tyX5_ok, nmX5, rfl, Or.inr (Or.inr (Or.inr ⟨rfl, Or.inr ⟨_, rfl⟩⟩)), fun _ => by decide +kernel⟩
theorem fp_X5_29 : x_fp RX5 29 5 4 2 true := ⟨RX5, TX5, 17, tyX5, rfl, by decide, inX5, (x_tbm (tt_3 (List.mem_of_getElem? (i := 151) rfl)) rfl), rfl, by decide, tyX5_ok, nmX5, rfl, Or.inr (Or.inr (Or.inr ⟨rfl, Or.inr ⟨_, rfl⟩⟩)), fun _ => by decide +kernel⟩
theorem fp_X5_32 : x_fp RX5 32 5 5 2 true := ⟨RX5, TX5, 17, tyX5, rfl, by decide, inX5, (x_tbm (tt_3 (List.mem_of_getElem? (i := 152) rfl)) rfl), rfl, by decide, tyX5_ok, nmX5, rfl, Or.inr (Or.inr (Or.inr ⟨rfl, Or.inr ⟨_, rfl⟩⟩)), fun _ => by decide +kernel⟩
theorem fp_X5_35 : x_fp RX5 35 5 6 2 true := ⟨RX5, TX5, 17, tyX5, rfl, by decide, inX5, (x_tbm (tt_3 (List.mem_of_getElem? (i := 153) rfl)) rfl), rfl, by decide, tyX5_ok, nmX5, rfl, Or.inr (Or.inr (Or.inr ⟨rfl, Or.inr ⟨_, rfl⟩⟩)), fun _ => by decide +kernel⟩
theorem fp_X5_39 : x_fp RX5 39 5 7 2 true := ⟨RX5, TX5, 17, tyX5, rfl, by decide, inX5, (x_tbm (tt_3 (List.mem_of_getElem? (i := 154) rfl)) rfl), rfl, by decide, tyX5_ok, nmX5, rfl, Or.inr (Or.inr (Or.inr ⟨rfl, Or.inr ⟨_, rfl⟩⟩)), fun _ => by decide +kernel⟩
theorem fp_X5_42 : x_fp RX5 42 5 8 2 true := ⟨RX5, TX5, 17, tyX5, rfl, by decide, inX5, (x_tbm (tt_3 (List.mem_of_getElem? (i := 155) rfl)) rfl), rfl, by decide, tyX5_ok, nmX5, rfl, Or.inr (Or.inr (Or.inr ⟨rfl, Or.inr ⟨_, rfl⟩⟩)), fun _ => by decide +kernel⟩
theorem fp_X5_45 : x_fp RX5 45 5 9 2 true := ⟨RX5, TX5, 17, tyX5, rfl, by decide, inX5, (x_tbm (tt_3 (List.mem_of_getElem? (i := 156) rfl)) rfl), rfl, by decide, tyX5_ok, nmX5, rfl, Or.inr (Or.inr (Or.inr ⟨rfl, Or.inr ⟨_, rfl⟩⟩)), fun _ => by decide +kernel⟩
theorem fp_X5_48 : x_fp RX5 48 5 10 2 true := ⟨RX5, TX5, 17, tyX5, rfl, by decide, inX5, (x_tbm (tt_3 (List.mem_of_getElem? (i := 157) rfl)) rfl), rfl, by decide, tyX5_ok, nmX5, rfl, Or.inr (Or.inr (Or.inr ⟨rfl, Or.inr ⟨_, rfl⟩⟩)), fun _ => by decide +kernel⟩
theorem fp_X5_51 : x_fp RX5 51 5 11 2 true := ⟨RX5, TX5, 17, tyX5, rfl, by decide, inX5, (x_tbm (tt_3 (List.mem_of_getElem? (i := 158) rfl)) rfl), rfl, by decide, tyX5_ok, nmX5, rfl, Or.inr (Or.inr (Or.inr ⟨rfl, Or.inr ⟨_, rfl⟩⟩)), fun _ => by decide +kernel⟩
theorem fp_X5_54 : x_fp RX5 54 5 12 2 true := ⟨RX5, TX5, 17, tyX5, rfl, by decide, inX5, (x_tbm (tt_3 (List.mem_of_getElem? (i := 159) rfl)) rfl), rfl, by decide, tyX5_ok, nmX5, rfl, Or.inr (Or.inr (Or.inr ⟨rfl, Or.inr ⟨_, rfl⟩⟩)), fun _ => by decide +kernel⟩
theorem fp_X5_57 : x_fp RX5 57 5 13 0 false := ⟨RX5, TX5, 17, tyX5, rfl, by decide, inX5, (x_tbm (tt_3 (List.mem_of_getElem? (i := 160) rfl)) rfl), rfl, by decide, tyX5_ok, nmX5, rfl, Or.inl ⟨rfl, rfl⟩, fun _ => by decide +kernel⟩
theorem fp_X5_61 : x_fp RX5 61 5 14 0 false := ⟨RX5, TX5, 17, tyX5, rfl, by decide, inX5, (x_tbm (tt_3 (List.mem_of_getElem? (i := 161) rfl)) rfl), rfl, by decide, tyX5_ok, nmX5, rfl, Or.inl ⟨rfl, rfl⟩, fun _ => by decide +kernel⟩
theorem fp_X5_64 : x_fp RX5 64 5 15 3 false := ⟨RX5, TX5, 17, tyX5, rfl, by decide, inX5, (x_tbm (tt_3 (List.mem_of_getElem? (i := 162) rfl)) rfl), rfl, by decide, tyX5_ok, nmX5, rfl, Or.inr (Or.inr (Or.inl ⟨rfl, rfl⟩)), fun _ => by decide +kernel⟩
theorem fp_X5_68 : x_fp RX5 68 5 16 3 false := ⟨RX5, TX5, 17, tyX5, rfl, by decide, inX5, (x_tbm (tt_3 (List.mem_of_getElem? (i := 163) rfl)) rfl), rfl, by decide, tyX5_ok, nmX5, rfl, Or.inr (Or.inr (Or.inl ⟨rfl, rfl⟩)), fun _ => by decide +kernel⟩
theorem fl_X5_57 : x_fl RX5 57 5 13 0 := ⟨RX5, TX5, 17, rfl, by decide, inX5, (x_tbm (tt_3 (List.mem_of_getElem? (i := 160) rfl)) rfl), rfl, by decide⟩
theorem fl_X5_64 : x_fl RX5 64 5 15 3 := ⟨RX5, TX5, 17, rfl, by decide, inX5, (x_tbm (tt_3 (List.mem_of_getElem? (i := 162) rfl)) rfl), rfl, by decide⟩
theorem fl_X5_61 : x_fl RX5 61 5 14 0 := ⟨RX5, TX5, 17, rfl, by decide, inX5, (x_tbm (tt_3 (List.mem_of_getElem? (i := 161) rfl)) rfl), rfl, by decide⟩
theorem fl_X5_29 : x_fl RX5 29 5 4 2 := ⟨RX5, TX5, 17, rfl, by decide, inX5, (x_tbm (tt_3 (List.mem_of_getElem? (i := 151) rfl)) rfl), rfl, by decide⟩
theorem lk_X5_71 : x_lkS RX5 71 yJ7_fill_53178 cJ7_fill_53178 4 none 2 := ⟨lb_J7_fill_53178, (x_tbm (tt_3 (List.mem_of_getElem? (i := 204) rfl)) rfl), ls_J7_fill_53178⟩
theorem fl_X5_18 : x_fl RX5 18 5 1 2 := ⟨RX5, TX5, 17, rfl, by decide, inX5, (x_tbm (tt_3 (List.mem_of_getElem? (i := 148) rfl)) rfl), rfl, by decide⟩
theorem lk_X5_77 : x_lkV RX5 77 yX6_read cX6_read 4 none 2 := ⟨lb_X6_read, (x_tbm (tt_3 (List.mem_of_getElem? (i := 205) rfl)) rfl), li_X6_read, lv_X6_read⟩
theorem lk_X5_81 : x_lkV RX5 81 yX6_unknowns cX6_unknowns 4 (some .int) 0 := ⟨lb_X6_unknowns, (x_tbm (tt_3 (List.mem_of_getElem? (i := 219) rfl)) rfl), li_X6_unknowns, lv_X6_unknowns⟩
theorem lk_X5_85 : x_lkV RX5 85 yX6_strike cX6_strike 2 none 0 := ⟨lb_X6_strike, (x_tbm (tt_3 (List.mem_of_getElem? (i := 225) rfl)) rfl), li_X6_strike, lv_X6_strike⟩
theorem lk_X5_88 : x_lkV RX5 88 yX5_meet cX5_meet 7 (some .int) 1 := ⟨lb_X5_meet, (x_tbm (tt_3 (List.mem_of_getElem? (i := 230) rfl)) rfl), li_X5_meet, lv_X5_meet⟩
theorem lk_X5_92 : x_lkV RX5 92 yX5_expand cX5_expand 9 none 1 := ⟨lb_X5_expand, (x_tbm (tt_4 (List.mem_of_getElem? (i := 0) rfl)) rfl), li_X5_expand, lv_X5_expand⟩
theorem fl_X5_12 : x_fl RX5 12 5 0 2 := ⟨RX5, TX5, 17, rfl, by decide, inX5, (x_tbm (tt_3 (List.mem_of_getElem? (i := 147) rfl)) rfl), rfl, by decide⟩
theorem fl_X5_21 : x_fl RX5 21 5 2 2 := ⟨RX5, TX5, 17, rfl, by decide, inX5, (x_tbm (tt_3 (List.mem_of_getElem? (i := 149) rfl)) rfl), rfl, by decide⟩
theorem fl_X5_25 : x_fl RX5 25 5 3 2 := ⟨RX5, TX5, 17, rfl, by decide, inX5, (x_tbm (tt_3 (List.mem_of_getElem? (i := 150) rfl)) rfl), rfl, by decide⟩
theorem lk_X5_96 : x_lkV RX5 96 yX6_unpack cX6_unpack 8 none 2 := ⟨lb_X6_unpack, (x_tbm (tt_4 (List.mem_of_getElem? (i := 4) rfl)) rfl), li_X6_unpack, lv_X6_unpack⟩
theorem lk_X5_100 : x_lkV RX5 100 yX6_puttings cX6_puttings 3 (some .int) 0 := ⟨lb_X6_puttings, (x_tbm (tt_4 (List.mem_of_getElem? (i := 9) rfl)) rfl), li_X6_puttings, lv_X6_puttings⟩
theorem fl_X5_32 : x_fl RX5 32 5 5 2 := ⟨RX5, TX5, 17, rfl, by decide, inX5, (x_tbm (tt_3 (List.mem_of_getElem? (i := 152) rfl)) rfl), rfl, by decide⟩
theorem fl_X5_35 : x_fl RX5 35 5 6 2 := ⟨RX5, TX5, 17, rfl, by decide, inX5, (x_tbm (tt_3 (List.mem_of_getElem? (i := 153) rfl)) rfl), rfl, by decide⟩
theorem lk_X5_103 : x_lkV RX5 103 yX6_unknownPut cX6_unknownPut 4 (some .int) 1 := ⟨lb_X6_unknownPut, (x_tbm (tt_4 (List.mem_of_getElem? (i := 17) rfl)) rfl), li_X6_unknownPut, lv_X6_unknownPut⟩
theorem lk_X5_106 : x_lkV RX5 106 yX6_itemPut cX6_itemPut 2 (some .int) 1 := ⟨lb_X6_itemPut, (x_tbm (tt_4 (List.mem_of_getElem? (i := 21) rfl)) rfl), li_X6_itemPut, lv_X6_itemPut⟩
theorem lk_X5_109 : x_lkV RX5 109 yX6_become cX6_become 7 none 3 := ⟨lb_X6_become, (x_tbm (tt_4 (List.mem_of_getElem? (i := 26) rfl)) rfl), li_X6_become, lv_X6_become⟩
theorem lk_X5_113 : x_lkSN RX5 "TwoSides" 113 yX11_unknownOf cX11_unknownOf 1 (some .int) 1 := ⟨lb_X11_unknownOf, (tt_4 (List.mem_of_getElem? (i := 30) rfl)), ls_X11_unknownOf⟩
theorem lk_X5_116 : x_lkV RX5 116 yX6_pack cX6_pack 4 none 0 := ⟨lb_X6_pack, (x_tbm (tt_3 (List.mem_of_getElem? (i := 234) rfl)) rfl), li_X6_pack, lv_X6_pack⟩
theorem fn_X5_119 : Cond.fieldLinkNest RX5 119 "TwoSides$Pair" "near" "J" "TwoSides" ∈ lw_tbl := (tt_3 (List.mem_of_getElem? (i := 133) rfl))
theorem fn_X5_122 : Cond.fieldLinkNest RX5 122 "TwoSides$Pair" "far" "I" "TwoSides" ∈ lw_tbl := (tt_3 (List.mem_of_getElem? (i := 135) rfl))
theorem co_X5_124 : Cond.constantLong RX5 124 (Int64.ofInt (-7046029254386353131)) ∈ x_tb := (x_tbm (tt_3 (List.mem_of_getElem? (i := 238) (by decide +kernel))) rfl)
theorem co_X5_126 : Cond.constantLong RX5 126 (Int64.ofInt (-4658895280553007687)) ∈ x_tb := (x_tbm (tt_3 (List.mem_of_getElem? (i := 239) (by decide +kernel))) rfl)
theorem fl_X5_39 : x_fl RX5 39 5 7 2 := ⟨RX5, TX5, 17, rfl, by decide, inX5, (x_tbm (tt_3 (List.mem_of_getElem? (i := 154) rfl)) rfl), rfl, by decide⟩
theorem lk_X5_128 : x_lkV RX5 128 yX5_markLeading cX5_markLeading 6 none 0 := ⟨lb_X5_markLeading, (x_tbm (tt_4 (List.mem_of_getElem? (i := 51) rfl)) rfl), li_X5_markLeading, lv_X5_markLeading⟩
theorem fl_X5_68 : x_fl RX5 68 5 16 3 := ⟨RX5, TX5, 17, rfl, by decide, inX5, (x_tbm (tt_3 (List.mem_of_getElem? (i := 163) rfl)) rfl), rfl, by decide⟩
theorem lk_X5_131 : x_lkV RX5 131 yX5_isLeading cX5_isLeading 2 (some .boolean) 1 := ⟨lb_X5_isLeading, (x_tbm (tt_4 (List.mem_of_getElem? (i := 55) rfl)) rfl), li_X5_isLeading, lv_X5_isLeading⟩
theorem lk_X5_135 : x_lkV RX5 135 yX5_hasRing cX5_hasRing 6 (some .boolean) 0 := ⟨lb_X5_hasRing, (x_tbm (tt_4 (List.mem_of_getElem? (i := 59) rfl)) rfl), li_X5_hasRing, lv_X5_hasRing⟩
theorem fl_X5_48 : x_fl RX5 48 5 10 2 := ⟨RX5, TX5, 17, rfl, by decide, inX5, (x_tbm (tt_3 (List.mem_of_getElem? (i := 157) rfl)) rfl), rfl, by decide⟩
theorem fl_X5_42 : x_fl RX5 42 5 8 2 := ⟨RX5, TX5, 17, rfl, by decide, inX5, (x_tbm (tt_3 (List.mem_of_getElem? (i := 155) rfl)) rfl), rfl, by decide⟩
theorem fl_X5_45 : x_fl RX5 45 5 9 2 := ⟨RX5, TX5, 17, rfl, by decide, inX5, (x_tbm (tt_3 (List.mem_of_getElem? (i := 156) rfl)) rfl), rfl, by decide⟩
theorem fl_X5_54 : x_fl RX5 54 5 12 2 := ⟨RX5, TX5, 17, rfl, by decide, inX5, (x_tbm (tt_3 (List.mem_of_getElem? (i := 159) rfl)) rfl), rfl, by decide⟩
theorem fl_X5_51 : x_fl RX5 51 5 11 2 := ⟨RX5, TX5, 17, rfl, by decide, inX5, (x_tbm (tt_3 (List.mem_of_getElem? (i := 158) rfl)) rfl), rfl, by decide⟩
theorem lm_X6_3 : Cond.methodLink RX6 3 ⟨"java/lang/Object", "<init>", "()V"⟩ ∈ x_tb := (x_tbm (tt_3 (List.mem_of_getElem? (i := 127) rfl)) rfl)
theorem lc_multianewarray_X6_11 : Cond.classLink RX6 11 "[[I" ∈ x_tb := (x_tbm (tt_3 (List.mem_of_getElem? (i := 128) rfl)) rfl)
theorem fp_X6_13 : x_fp RX6 13 6 0 2 true := ⟨RX6, TX6, 5, tyX6, rfl, by decide, inX6, (x_tbm (tt_3 (List.mem_of_getElem? (i := 129) rfl)) rfl), rfl, by decide, tyX6_ok, nmX6, rfl, Or.inr (Or.inr (Or.inr ⟨rfl, Or.inr ⟨_, rfl⟩⟩)), fun _ => by decide +kernel⟩
theorem fp_X6_16 : x_fp RX6 16 6 1 2 true := ⟨RX6, TX6, 5, tyX6, rfl, by decide, inX6, (x_tbm (tt_3 (List.mem_of_getElem? (i := 130) rfl)) rfl), rfl, by decide, tyX6_ok, nmX6, rfl, Or.inr (Or.inr (Or.inr ⟨rfl, Or.inr ⟨_, rfl⟩⟩)), fun _ => by decide +kernel⟩
theorem fp_X6_20 : x_fp RX6 20 6 2 0 false := ⟨RX6, TX6, 5, tyX6, rfl, by decide, inX6, (x_tbm (tt_3 (List.mem_of_getElem? (i := 131) rfl)) rfl), rfl, by decide, tyX6_ok, nmX6, rfl, Or.inl ⟨rfl, rfl⟩, fun _ => by decide +kernel⟩
theorem fp_X6_24 : x_fp RX6 24 6 3 1 false := ⟨RX6, TX6, 5, tyX6, rfl, by decide, inX6, (x_tbm (tt_3 (List.mem_of_getElem? (i := 132) rfl)) rfl), rfl, by decide, tyX6_ok, nmX6, rfl, Or.inr (Or.inl ⟨rfl, rfl⟩), fun _ => by decide +kernel⟩
theorem fp_X6_28 : x_fp RX6 28 6 4 0 false := ⟨RX6, TX6, 5, tyX6, rfl, by decide, inX6, (x_tbm (tt_3 (List.mem_of_getElem? (i := 134) rfl)) rfl), rfl, by decide, tyX6_ok, nmX6, rfl, Or.inl ⟨rfl, rfl⟩, fun _ => by decide +kernel⟩
theorem fl_X6_16 : x_fl RX6 16 6 1 2 := ⟨RX6, TX6, 5, rfl, by decide, inX6, (x_tbm (tt_3 (List.mem_of_getElem? (i := 130) rfl)) rfl), rfl, by decide⟩
theorem fl_X6_13 : x_fl RX6 13 6 0 2 := ⟨RX6, TX6, 5, rfl, by decide, inX6, (x_tbm (tt_3 (List.mem_of_getElem? (i := 129) rfl)) rfl), rfl, by decide⟩
theorem lk_X6_31 : x_lkV RX6 31 yX6_begin cX6_begin 1 none 0 := ⟨lb_X6_begin, (x_tbm (tt_3 (List.mem_of_getElem? (i := 209) rfl)) rfl), li_X6_begin, lv_X6_begin⟩
theorem lk_X6_34 : x_lkV RX6 34 yX8_length cX8_length 1 (some .int) 0 := ⟨lb_X8_length, (x_tbm (tt_3 (List.mem_of_getElem? (i := 213) rfl)) rfl), li_X8_length, lv_X8_length⟩
theorem lk_X6_40 : x_lkV RX6 40 yX8_at cX8_at 2 (some .int) 1 := ⟨lb_X8_at, (x_tbm (tt_3 (List.mem_of_getElem? (i := 214) rfl)) rfl), li_X8_at, lv_X8_at⟩
theorem lk_X6_44 : x_lkV RX6 44 yX6_add cX6_add 3 none 2 := ⟨lb_X6_add, (x_tbm (tt_3 (List.mem_of_getElem? (i := 215) rfl)) rfl), li_X6_add, lv_X6_add⟩
theorem lk_X6_48 : x_lkS RX6 48 yJ9_min_7cf53 cJ9_min_7cf53 2 (some .int) 2 := ⟨lb_J9_min_7cf53, (x_tbm (tt_3 (List.mem_of_getElem? (i := 229) rfl)) rfl), ls_J9_min_7cf53⟩
theorem fl_X6_20 : x_fl RX6 20 6 2 0 := ⟨RX6, TX6, 5, rfl, by decide, inX6, (x_tbm (tt_3 (List.mem_of_getElem? (i := 131) rfl)) rfl), rfl, by decide⟩
theorem lk_X6_54 : x_lkSN RX6 "TwoSides" 54 yX11_isUnknown cX11_isUnknown 1 (some .boolean) 1 := ⟨lb_X11_isUnknown, (tt_3 (List.mem_of_getElem? (i := 223) rfl)), ls_X11_isUnknown⟩
theorem lk_X6_58 : x_lkSN RX6 "TwoSides" 58 yX11_unknownOf cX11_unknownOf 1 (some .int) 1 := ⟨lb_X11_unknownOf, (tt_3 (List.mem_of_getElem? (i := 224) rfl)), ls_X11_unknownOf⟩
theorem lk_X6_61 : x_lkV RX6 61 yX6_head cX6_head 2 (some .int) 1 := ⟨lb_X6_head, (x_tbm (tt_4 (List.mem_of_getElem? (i := 13) rfl)) rfl), li_X6_head, lv_X6_head⟩
theorem lk_X6_64 : x_lkV RX6 64 yX6_puttings cX6_puttings 3 (some .int) 0 := ⟨lb_X6_puttings, (x_tbm (tt_4 (List.mem_of_getElem? (i := 25) rfl)) rfl), li_X6_puttings, lv_X6_puttings⟩
theorem fl_X6_24 : x_fl RX6 24 6 3 1 := ⟨RX6, TX6, 5, rfl, by decide, inX6, (x_tbm (tt_3 (List.mem_of_getElem? (i := 132) rfl)) rfl), rfl, by decide⟩
theorem fl_X6_28 : x_fl RX6 28 6 4 0 := ⟨RX6, TX6, 5, rfl, by decide, inX6, (x_tbm (tt_3 (List.mem_of_getElem? (i := 134) rfl)) rfl), rfl, by decide⟩
theorem co_X6_67 : Cond.constantLong RX6 67 (Int64.ofInt (7)) ∈ x_tb := (x_tbm (tt_4 (List.mem_of_getElem? (i := 8) (by decide +kernel))) rfl)
theorem lm_X7_3 : Cond.methodLink RX7 3 ⟨"java/lang/Object", "<init>", "()V"⟩ ∈ x_tb := (x_tbm (tt_1 (List.mem_of_getElem? (i := 223) rfl)) rfl)
theorem lc_multianewarray_X7_11 : Cond.classLink RX7 11 "[[I" ∈ x_tb := (x_tbm (tt_1 (List.mem_of_getElem? (i := 224) rfl)) rfl)
theorem fp_X7_13 : x_fp RX7 13 7 0 2 true := ⟨RX7, TX7, 7, tyX7, rfl, by decide, inX7, (x_tbm (tt_1 (List.mem_of_getElem? (i := 225) rfl)) rfl), rfl, by decide, tyX7_ok, nmX7, rfl, Or.inr (Or.inr (Or.inr ⟨rfl, Or.inr ⟨_, rfl⟩⟩)), fun _ => by decide +kernel⟩
theorem fp_X7_16 : x_fp RX7 16 7 1 2 true := ⟨RX7, TX7, 7, tyX7, rfl, by decide, inX7, (x_tbm (tt_1 (List.mem_of_getElem? (i := 226) rfl)) rfl), rfl, by decide, tyX7_ok, nmX7, rfl, Or.inr (Or.inr (Or.inr ⟨rfl, Or.inr ⟨_, rfl⟩⟩)), fun _ => by decide +kernel⟩
theorem fp_X7_20 : x_fp RX7 20 7 2 2 true := ⟨RX7, TX7, 7, tyX7, rfl, by decide, inX7, (x_tbm (tt_1 (List.mem_of_getElem? (i := 227) rfl)) rfl), rfl, by decide, tyX7_ok, nmX7, rfl, Or.inr (Or.inr (Or.inr ⟨rfl, Or.inr ⟨_, rfl⟩⟩)), fun _ => by decide +kernel⟩
theorem fp_X7_23 : x_fp RX7 23 7 3 2 true := ⟨RX7, TX7, 7, tyX7, rfl, by decide, inX7, (x_tbm (tt_1 (List.mem_of_getElem? (i := 228) rfl)) rfl), rfl, by decide, tyX7_ok, nmX7, rfl, Or.inr (Or.inr (Or.inr ⟨rfl, Or.inr ⟨_, rfl⟩⟩)), fun _ => by decide +kernel⟩
theorem fp_X7_26 : x_fp RX7 26 7 4 0 false := ⟨RX7, TX7, 7, tyX7, rfl, by decide, inX7, (x_tbm (tt_1 (List.mem_of_getElem? (i := 229) rfl)) rfl), rfl, by decide, tyX7_ok, nmX7, rfl, Or.inl ⟨rfl, rfl⟩, fun _ => by decide +kernel⟩
theorem fp_X7_30 : x_fp RX7 30 7 5 0 false := ⟨RX7, TX7, 7, tyX7, rfl, by decide, inX7, (x_tbm (tt_1 (List.mem_of_getElem? (i := 230) rfl)) rfl), rfl, by decide, tyX7_ok, nmX7, rfl, Or.inl ⟨rfl, rfl⟩, fun _ => by decide +kernel⟩
theorem fp_X7_33 : x_fp RX7 33 7 6 3 false := ⟨RX7, TX7, 7, tyX7, rfl, by decide, inX7, (x_tbm (tt_1 (List.mem_of_getElem? (i := 231) rfl)) rfl), rfl, by decide, tyX7_ok, nmX7, rfl, Or.inr (Or.inr (Or.inl ⟨rfl, rfl⟩)), fun _ => by decide +kernel⟩
theorem fl_X7_26 : x_fl RX7 26 7 4 0 := ⟨RX7, TX7, 7, rfl, by decide, inX7, (x_tbm (tt_1 (List.mem_of_getElem? (i := 229) rfl)) rfl), rfl, by decide⟩
theorem fl_X7_16 : x_fl RX7 16 7 1 2 := ⟨RX7, TX7, 7, rfl, by decide, inX7, (x_tbm (tt_1 (List.mem_of_getElem? (i := 226) rfl)) rfl), rfl, by decide⟩
theorem lk_X7_37 : x_lkS RX7 37 yJ9_min_7cf53 cJ9_min_7cf53 2 (some .int) 2 := ⟨lb_J9_min_7cf53, (x_tbm (tt_5 (List.mem_of_getElem? (i := 41) rfl)) rfl), ls_J9_min_7cf53⟩
theorem lk_X7_43 : x_lkS RX7 43 yJ9_max_7cf53 cJ9_max_7cf53 2 (some .int) 2 := ⟨lb_J9_max_7cf53, (x_tbm (tt_5 (List.mem_of_getElem? (i := 42) rfl)) rfl), ls_J9_max_7cf53⟩
theorem fl_X7_13 : x_fl RX7 13 7 0 2 := ⟨RX7, TX7, 7, rfl, by decide, inX7, (x_tbm (tt_1 (List.mem_of_getElem? (i := 225) rfl)) rfl), rfl, by decide⟩
theorem lk_X7_46 : x_lkSN RX7 "TwoSides" 46 yX11_letterOf cX11_letterOf 3 (some .int) 2 := ⟨lb_X11_letterOf, (tt_5 (List.mem_of_getElem? (i := 43) rfl)), ls_X11_letterOf⟩
theorem fl_X7_33 : x_fl RX7 33 7 6 3 := ⟨RX7, TX7, 7, rfl, by decide, inX7, (x_tbm (tt_1 (List.mem_of_getElem? (i := 231) rfl)) rfl), rfl, by decide⟩
theorem lk_X7_50 : x_lkV RX7 50 yX7_seek cX7_seek 4 none 0 := ⟨lb_X7_seek, (x_tbm (tt_5 (List.mem_of_getElem? (i := 64) rfl)) rfl), li_X7_seek, lv_X7_seek⟩
theorem fl_X7_30 : x_fl RX7 30 7 5 0 := ⟨RX7, TX7, 7, rfl, by decide, inX7, (x_tbm (tt_1 (List.mem_of_getElem? (i := 230) rfl)) rfl), rfl, by decide⟩
theorem fl_X7_23 : x_fl RX7 23 7 3 2 := ⟨RX7, TX7, 7, rfl, by decide, inX7, (x_tbm (tt_1 (List.mem_of_getElem? (i := 228) rfl)) rfl), rfl, by decide⟩
theorem lk_X7_53 : x_lkV RX7 53 yX7_makesAll cX7_makesAll 5 (some .boolean) 2 := ⟨lb_X7_makesAll, (x_tbm (tt_5 (List.mem_of_getElem? (i := 68) rfl)) rfl), li_X7_makesAll, lv_X7_makesAll⟩
theorem lk_X7_57 : x_lkV RX7 57 yX7_isTrialAhead cX7_isTrialAhead 2 (some .boolean) 0 := ⟨lb_X7_isTrialAhead, (x_tbm (tt_5 (List.mem_of_getElem? (i := 86) rfl)) rfl), li_X7_isTrialAhead, lv_X7_isTrialAhead⟩
theorem lk_X7_61 : x_lkV RX7 61 yX7_keepTrial cX7_keepTrial 2 none 1 := ⟨lb_X7_keepTrial, (x_tbm (tt_5 (List.mem_of_getElem? (i := 90) rfl)) rfl), li_X7_keepTrial, lv_X7_keepTrial⟩
theorem lk_X7_65 : x_lkS RX7 65 yJ6_bitCount_0f7a4 cJ6_bitCount_0f7a4 1 (some .int) 1 := ⟨lb_J6_bitCount_0f7a4, (x_tbm (tt_5 (List.mem_of_getElem? (i := 72) rfl)) rfl), ls_J6_bitCount_0f7a4⟩
theorem lk_X7_71 : x_lkV RX7 71 yX7_lengthOfX cX7_lengthOfX 5 (some .int) 3 := ⟨lb_X7_lengthOfX, (x_tbm (tt_5 (List.mem_of_getElem? (i := 73) rfl)) rfl), li_X7_lengthOfX, lv_X7_lengthOfX⟩
theorem lk_X7_75 : x_lkV RX7 75 yX7_layTrial cX7_layTrial 7 none 3 := ⟨lb_X7_layTrial, (x_tbm (tt_5 (List.mem_of_getElem? (i := 77) rfl)) rfl), li_X7_layTrial, lv_X7_layTrial⟩
theorem lk_X7_79 : x_lkV RX7 79 yX7_makesOne cX7_makesOne 7 (some .boolean) 3 := ⟨lb_X7_makesOne, (x_tbm (tt_5 (List.mem_of_getElem? (i := 81) rfl)) rfl), li_X7_makesOne, lv_X7_makesOne⟩
theorem fl_X7_20 : x_fl RX7 20 7 2 2 := ⟨RX7, TX7, 7, rfl, by decide, inX7, (x_tbm (tt_1 (List.mem_of_getElem? (i := 227) rfl)) rfl), rfl, by decide⟩
theorem lk_X7_83 : x_lkSN RX7 "TwoSides" 83 yX11_sameStretch cX11_sameStretch 5 (some .boolean) 4 := ⟨lb_X11_sameStretch, (tt_5 (List.mem_of_getElem? (i := 85) rfl)), ls_X11_sameStretch⟩
theorem lm_X7_87 : Cond.methodLink RX7 87 ⟨"java/lang/System", "arraycopy", "(Ljava/lang/Object;ILjava/lang/Object;II)V"⟩ ∈ x_tb := (x_tbm (tt_5 (List.mem_of_getElem? (i := 94) rfl)) rfl)
theorem lm_X8_3 : Cond.methodLink RX8 3 ⟨"java/lang/Object", "<init>", "()V"⟩ ∈ x_tb := (x_tbm (tt_1 (List.mem_of_getElem? (i := 52) rfl)) rfl)
theorem fp_X8_9 : x_fp RX8 9 8 0 2 true := ⟨RX8, TX8, 6, tyX8, rfl, by decide, inX8, (x_tbm (tt_1 (List.mem_of_getElem? (i := 53) rfl)) rfl), rfl, by decide, tyX8_ok, nmX8, rfl, Or.inr (Or.inr (Or.inr ⟨rfl, Or.inr ⟨_, rfl⟩⟩)), fun _ => by decide +kernel⟩
theorem fp_X8_15 : x_fp RX8 15 8 1 2 true := ⟨RX8, TX8, 6, tyX8, rfl, by decide, inX8, (x_tbm (tt_1 (List.mem_of_getElem? (i := 54) rfl)) rfl), rfl, by decide, tyX8_ok, nmX8, rfl, Or.inr (Or.inr (Or.inr ⟨rfl, Or.inr ⟨_, rfl⟩⟩)), fun _ => by decide +kernel⟩
theorem fp_X8_18 : x_fp RX8 18 8 2 2 true := ⟨RX8, TX8, 6, tyX8, rfl, by decide, inX8, (x_tbm (tt_1 (List.mem_of_getElem? (i := 55) rfl)) rfl), rfl, by decide, tyX8_ok, nmX8, rfl, Or.inr (Or.inr (Or.inr ⟨rfl, Or.inr ⟨_, rfl⟩⟩)), fun _ => by decide +kernel⟩
theorem fp_X8_21 : x_fp RX8 21 8 3 2 true := ⟨RX8, TX8, 6, tyX8, rfl, by decide, inX8, (x_tbm (tt_1 (List.mem_of_getElem? (i := 56) rfl)) rfl), rfl, by decide, tyX8_ok, nmX8, rfl, Or.inr (Or.inr (Or.inr ⟨rfl, Or.inr ⟨_, rfl⟩⟩)), fun _ => by decide +kernel⟩
theorem fp_X8_24 : x_fp RX8 24 8 4 0 false := ⟨RX8, TX8, 6, tyX8, rfl, by decide, inX8, (x_tbm (tt_1 (List.mem_of_getElem? (i := 57) rfl)) rfl), rfl, by decide, tyX8_ok, nmX8, rfl, Or.inl ⟨rfl, rfl⟩, fun _ => by decide +kernel⟩
theorem fp_X8_28 : x_fp RX8 28 8 5 0 false := ⟨RX8, TX8, 6, tyX8, rfl, by decide, inX8, (x_tbm (tt_1 (List.mem_of_getElem? (i := 58) rfl)) rfl), rfl, by decide, tyX8_ok, nmX8, rfl, Or.inl ⟨rfl, rfl⟩, fun _ => by decide +kernel⟩
theorem fl_X8_15 : x_fl RX8 15 8 1 2 := ⟨RX8, TX8, 6, rfl, by decide, inX8, (x_tbm (tt_1 (List.mem_of_getElem? (i := 54) rfl)) rfl), rfl, by decide⟩
theorem lk_X8_31 : x_lkS RX8 31 yJ7_fill_53178 cJ7_fill_53178 4 none 2 := ⟨lb_J7_fill_53178, (x_tbm (tt_2 (List.mem_of_getElem? (i := 109) rfl)) rfl), ls_J7_fill_53178⟩
theorem fl_X8_24 : x_fl RX8 24 8 4 0 := ⟨RX8, TX8, 6, rfl, by decide, inX8, (x_tbm (tt_1 (List.mem_of_getElem? (i := 57) rfl)) rfl), rfl, by decide⟩
theorem fl_X8_9 : x_fl RX8 9 8 0 2 := ⟨RX8, TX8, 6, rfl, by decide, inX8, (x_tbm (tt_1 (List.mem_of_getElem? (i := 53) rfl)) rfl), rfl, by decide⟩
theorem lk_X8_37 : x_lkSN RX8 "TwoSides" 37 yX11_isUnknown cX11_isUnknown 1 (some .boolean) 1 := ⟨lb_X11_isUnknown, (tt_2 (List.mem_of_getElem? (i := 116) rfl)), ls_X11_isUnknown⟩
theorem lk_X8_41 : x_lkSN RX8 "TwoSides" 41 yX11_unknownOf cX11_unknownOf 1 (some .int) 1 := ⟨lb_X11_unknownOf, (tt_2 (List.mem_of_getElem? (i := 119) rfl)), ls_X11_unknownOf⟩
theorem fl_X8_28 : x_fl RX8 28 8 5 0 := ⟨RX8, TX8, 6, rfl, by decide, inX8, (x_tbm (tt_1 (List.mem_of_getElem? (i := 58) rfl)) rfl), rfl, by decide⟩
theorem lk_X8_45 : x_lkSN RX8 "TwoSides" 45 yX11_isNoneOfFour cX11_isNoneOfFour 1 (some .boolean) 1 := ⟨lb_X11_isNoneOfFour, (tt_2 (List.mem_of_getElem? (i := 179) rfl)), ls_X11_isNoneOfFour⟩
theorem lk_X8_48 : x_lkV RX8 48 yX8_waysToMake cX8_waysToMake 12 (some .int) 2 := ⟨lb_X8_waysToMake, (x_tbm (tt_5 (List.mem_of_getElem? (i := 28) rfl)) rfl), li_X8_waysToMake, lv_X8_waysToMake⟩
theorem lk_X8_52 : x_lkV RX8 52 yX8_least cX8_least 2 (some .int) 1 := ⟨lb_X8_least, (x_tbm (tt_5 (List.mem_of_getElem? (i := 1) rfl)) rfl), li_X8_least, lv_X8_least⟩
theorem lk_X8_55 : x_lkV RX8 55 yX8_most cX8_most 3 (some .int) 2 := ⟨lb_X8_most, (x_tbm (tt_5 (List.mem_of_getElem? (i := 5) rfl)) rfl), li_X8_most, lv_X8_most⟩
theorem lk_X8_59 : x_lkV RX8 59 yX8_setLengths cX8_setLengths 5 none 4 := ⟨lb_X8_setLengths, (x_tbm (tt_5 (List.mem_of_getElem? (i := 9) rfl)) rfl), li_X8_setLengths, lv_X8_setLengths⟩
theorem lk_X8_63 : x_lkV RX8 63 yX8_reads cX8_reads 6 (some .boolean) 2 := ⟨lb_X8_reads, (x_tbm (tt_5 (List.mem_of_getElem? (i := 13) rfl)) rfl), li_X8_reads, lv_X8_reads⟩
theorem fl_X8_18 : x_fl RX8 18 8 2 2 := ⟨RX8, TX8, 6, rfl, by decide, inX8, (x_tbm (tt_1 (List.mem_of_getElem? (i := 55) rfl)) rfl), rfl, by decide⟩
theorem fl_X8_21 : x_fl RX8 21 8 3 2 := ⟨RX8, TX8, 6, rfl, by decide, inX8, (x_tbm (tt_1 (List.mem_of_getElem? (i := 56) rfl)) rfl), rfl, by decide⟩
theorem lk_X8_67 : x_lkSN RX8 "TwoSides" 67 yX11_sameStretch cX11_sameStretch 5 (some .boolean) 4 := ⟨lb_X11_sameStretch, (tt_5 (List.mem_of_getElem? (i := 17) rfl)), ls_X11_sameStretch⟩
theorem lm_X9_3 : Cond.methodLink RX9 3 ⟨"java/lang/Object", "<init>", "()V"⟩ ∈ x_tb := (x_tbm (tt_1 (List.mem_of_getElem? (i := 31) rfl)) rfl)
theorem fp_X9_9 : x_fp RX9 9 9 0 2 true := ⟨RX9, TX9, 2, tyX9, rfl, by decide, inX9, (x_tbm (tt_1 (List.mem_of_getElem? (i := 32) rfl)) rfl), rfl, by decide, tyX9_ok, nmX9, rfl, Or.inr (Or.inr (Or.inr ⟨rfl, Or.inr ⟨_, rfl⟩⟩)), fun _ => by decide +kernel⟩
theorem fp_X9_15 : x_fp RX9 15 9 1 0 false := ⟨RX9, TX9, 2, tyX9, rfl, by decide, inX9, (x_tbm (tt_1 (List.mem_of_getElem? (i := 33) rfl)) rfl), rfl, by decide, tyX9_ok, nmX9, rfl, Or.inl ⟨rfl, rfl⟩, fun _ => by decide +kernel⟩
theorem fl_X9_15 : x_fl RX9 15 9 1 0 := ⟨RX9, TX9, 2, rfl, by decide, inX9, (x_tbm (tt_1 (List.mem_of_getElem? (i := 33) rfl)) rfl), rfl, by decide⟩
theorem fl_X9_9 : x_fl RX9 9 9 0 2 := ⟨RX9, TX9, 2, rfl, by decide, inX9, (x_tbm (tt_1 (List.mem_of_getElem? (i := 32) rfl)) rfl), rfl, by decide⟩
theorem lk_X9_19 : x_lkS RX9 19 yX9_itemOf cX9_itemOf 1 (some .int) 1 := ⟨lb_X9_itemOf, (x_tbm (tt_2 (List.mem_of_getElem? (i := 78) rfl)) rfl), ls_X9_itemOf⟩
theorem lk_X9_23 : x_lkV RX9 23 yX3_begin cX3_begin 1 none 0 := ⟨lb_X3_begin, (x_tbm (tt_2 (List.mem_of_getElem? (i := 89) rfl)) rfl), li_X3_begin, lv_X3_begin⟩
theorem lk_X9_28 : x_lkV RX9 28 yX3_beginNext cX3_beginNext 1 none 0 := ⟨lb_X3_beginNext, (x_tbm (tt_2 (List.mem_of_getElem? (i := 110) rfl)) rfl), li_X3_beginNext, lv_X3_beginNext⟩
theorem lk_X9_31 : x_lkV RX9 31 yX3_last cX3_last 2 (some (.object "TwoSides$Side")) 1 := ⟨lb_X3_last, (x_tbm (tt_2 (List.mem_of_getElem? (i := 111) rfl)) rfl), li_X3_last, lv_X3_last⟩
theorem lk_X9_35 : x_lkV RX9 35 yX8_add cX8_add 2 none 1 := ⟨lb_X8_add, (x_tbm (tt_2 (List.mem_of_getElem? (i := 112) rfl)) rfl), li_X8_add, lv_X8_add⟩
theorem lk_X9_41 : x_lkV RX9 41 yX8_empty cX8_empty 1 none 0 := ⟨lb_X8_empty, (x_tbm (tt_4 (List.mem_of_getElem? (i := 227) rfl)) rfl), li_X8_empty, lv_X8_empty⟩
theorem lm_X10_3 : Cond.methodLink RX10 3 ⟨"java/lang/Object", "<init>", "()V"⟩ ∈ x_tb := (x_tbm (tt_2 (List.mem_of_getElem? (i := 11) rfl)) rfl)
theorem fp_X10_11 : x_fp RX10 11 10 0 2 true := ⟨RX10, TX10, 2, tyX10, rfl, by decide, inX10, (x_tbm (tt_2 (List.mem_of_getElem? (i := 12) rfl)) rfl), rfl, by decide, tyX10_ok, nmX10, rfl, Or.inr (Or.inr (Or.inr ⟨rfl, Or.inr ⟨_, rfl⟩⟩)), fun _ => by decide +kernel⟩
theorem fp_X10_15 : x_fp RX10 15 10 1 0 false := ⟨RX10, TX10, 2, tyX10, rfl, by decide, inX10, (x_tbm (tt_2 (List.mem_of_getElem? (i := 13) rfl)) rfl), rfl, by decide, tyX10_ok, nmX10, rfl, Or.inl ⟨rfl, rfl⟩, fun _ => by decide +kernel⟩
theorem lk_X10_19 : x_lkS RX10 19 yJ9_min_7cf53 cJ9_min_7cf53 2 (some .int) 2 := ⟨lb_J9_min_7cf53, (x_tbm (tt_4 (List.mem_of_getElem? (i := 125) rfl)) rfl), ls_J9_min_7cf53⟩
theorem lk_X10_25 : x_lkS RX10 25 yJ9_max_7cf53 cJ9_max_7cf53 2 (some .int) 2 := ⟨lb_J9_max_7cf53, (x_tbm (tt_4 (List.mem_of_getElem? (i := 126) rfl)) rfl), ls_J9_max_7cf53⟩
theorem fl_X10_15 : x_fl RX10 15 10 1 0 := ⟨RX10, TX10, 2, rfl, by decide, inX10, (x_tbm (tt_2 (List.mem_of_getElem? (i := 13) rfl)) rfl), rfl, by decide⟩
theorem fl_X10_11 : x_fl RX10 11 10 0 2 := ⟨RX10, TX10, 2, rfl, by decide, inX10, (x_tbm (tt_2 (List.mem_of_getElem? (i := 12) rfl)) rfl), rfl, by decide⟩
theorem lk_X10_28 : x_lkSN RX10 "TwoSides" 28 yX11_letterOf cX11_letterOf 3 (some .int) 2 := ⟨lb_X11_letterOf, (tt_4 (List.mem_of_getElem? (i := 127) rfl)), ls_X11_letterOf⟩
theorem lk_X10_32 : x_lkV RX10 32 yX10_hasPeriod cX10_hasPeriod 3 (some .boolean) 1 := ⟨lb_X10_hasPeriod, (x_tbm (tt_4 (List.mem_of_getElem? (i := 140) rfl)) rfl), li_X10_hasPeriod, lv_X10_hasPeriod⟩
theorem lk_X10_36 : x_lkV RX10 36 yX10_isTurnAhead cX10_isTurnAhead 5 (some .boolean) 2 := ⟨lb_X10_isTurnAhead, (x_tbm (tt_4 (List.mem_of_getElem? (i := 152) rfl)) rfl), li_X10_isTurnAhead, lv_X10_isTurnAhead⟩
theorem lk_X10_40 : x_lkV RX10 40 yX10_turnedLetter cX10_turnedLetter 4 (some .int) 2 := ⟨lb_X10_turnedLetter, (x_tbm (tt_4 (List.mem_of_getElem? (i := 156) rfl)) rfl), li_X10_turnedLetter, lv_X10_turnedLetter⟩
theorem lk_X10_43 : x_lkV RX10 43 yX10_fallingLength cX10_fallingLength 4 (some .int) 1 := ⟨lb_X10_fallingLength, (x_tbm (tt_4 (List.mem_of_getElem? (i := 164) rfl)) rfl), li_X10_fallingLength, lv_X10_fallingLength⟩
theorem lk_X10_47 : x_lkV RX10 47 yX10_isTurn cX10_isTurn 4 (some .boolean) 2 := ⟨lb_X10_isTurn, (x_tbm (tt_4 (List.mem_of_getElem? (i := 196) rfl)) rfl), li_X10_isTurn, lv_X10_isTurn⟩
theorem lk_X10_51 : x_lkV RX10 51 yX8_waysToMake cX8_waysToMake 12 (some .int) 2 := ⟨lb_X8_waysToMake, (x_tbm (tt_4 (List.mem_of_getElem? (i := 237) rfl)) rfl), li_X8_waysToMake, lv_X8_waysToMake⟩
theorem lm_X11_1 : Cond.methodLink RX11 1 ⟨"java/lang/Object", "<init>", "()V"⟩ ∈ x_tb := (x_tbm (tt_1 (List.mem_of_getElem? (i := 23) rfl)) rfl)
theorem lc_new_X11_7 : Cond.classLink RX11 7 "TwoSides$Text" ∈ x_tb := (x_tbm (tt_1 (List.mem_of_getElem? (i := 26) rfl)) rfl)
theorem lk_X11_9 : x_lkIN RX11 "TwoSides" 9 yX9_init cX9_init 1 0 := ⟨lb_X9_init, (tt_1 (List.mem_of_getElem? (i := 28) rfl)), rfl, li_X9_init⟩
theorem fp_X11_10 : x_fp RX11 10 11 0 2 true := ⟨RX11, TX11, 8, tyX11, rfl, by decide, inX11, (x_tbm (tt_2 (List.mem_of_getElem? (i := 20) rfl)) rfl), rfl, by decide, tyX11_ok, nmX11, rfl, Or.inr (Or.inr (Or.inr ⟨rfl, Or.inl ⟨_, rfl⟩⟩)), fun _ => by decide +kernel⟩
theorem lc_new_X11_16 : Cond.classLink RX11 16 "TwoSides$Equations" ∈ x_tb := (x_tbm (tt_1 (List.mem_of_getElem? (i := 40) rfl)) rfl)
theorem lk_X11_18 : x_lkI RX11 18 yX3_init cX3_init 2 0 := ⟨lb_X3_init, (x_tbm (tt_1 (List.mem_of_getElem? (i := 42) rfl)) rfl), rfl, li_X3_init⟩
theorem fp_X11_19 : x_fp RX11 19 11 1 2 true := ⟨RX11, TX11, 8, tyX11, rfl, by decide, inX11, (x_tbm (tt_2 (List.mem_of_getElem? (i := 21) rfl)) rfl), rfl, by decide, tyX11_ok, nmX11, rfl, Or.inr (Or.inr (Or.inr ⟨rfl, Or.inl ⟨_, rfl⟩⟩)), fun _ => by decide +kernel⟩
theorem lc_new_X11_23 : Cond.classLink RX11 23 "TwoSides$Answers" ∈ x_tb := (x_tbm (tt_1 (List.mem_of_getElem? (i := 79) rfl)) rfl)
theorem lk_X11_25 : x_lkI RX11 25 yX1_init cX1_init 1 0 := ⟨lb_X1_init, (x_tbm (tt_1 (List.mem_of_getElem? (i := 81) rfl)) rfl), rfl, li_X1_init⟩
theorem fp_X11_26 : x_fp RX11 26 11 2 2 true := ⟨RX11, TX11, 8, tyX11, rfl, by decide, inX11, (x_tbm (tt_2 (List.mem_of_getElem? (i := 22) rfl)) rfl), rfl, by decide, tyX11_ok, nmX11, rfl, Or.inr (Or.inr (Or.inr ⟨rfl, Or.inl ⟨_, rfl⟩⟩)), fun _ => by decide +kernel⟩
theorem lc_new_X11_30 : Cond.classLink RX11 30 "TwoSides$Chase" ∈ x_tb := (x_tbm (tt_1 (List.mem_of_getElem? (i := 176) rfl)) rfl)
theorem lk_X11_32 : x_lkIN RX11 "TwoSides" 32 yX2_init cX2_init 1 0 := ⟨lb_X2_init, (tt_1 (List.mem_of_getElem? (i := 178) rfl)), rfl, li_X2_init⟩
theorem fp_X11_33 : x_fp RX11 33 11 3 2 true := ⟨RX11, TX11, 8, tyX11, rfl, by decide, inX11, (x_tbm (tt_2 (List.mem_of_getElem? (i := 23) rfl)) rfl), rfl, by decide, tyX11_ok, nmX11, rfl, Or.inr (Or.inr (Or.inr ⟨rfl, Or.inl ⟨_, rfl⟩⟩)), fun _ => by decide +kernel⟩
theorem lc_anewarray_X11_37 : Cond.classLink RX11 37 "TwoSides$Word" ∈ x_tb := (x_tbm (tt_1 (List.mem_of_getElem? (i := 213) rfl)) rfl)
theorem fp_X11_39 : x_fp RX11 39 11 4 2 true := ⟨RX11, TX11, 8, tyX11, rfl, by decide, inX11, (x_tbm (tt_2 (List.mem_of_getElem? (i := 24) rfl)) rfl), rfl, by decide, tyX11_ok, nmX11, rfl, Or.inr (Or.inr (Or.inr ⟨rfl, Or.inr ⟨_, rfl⟩⟩)), fun _ => by decide +kernel⟩
theorem lc_new_X11_43 : Cond.classLink RX11 43 "TwoSides$Alike" ∈ x_tb := (x_tbm (tt_1 (List.mem_of_getElem? (i := 215) rfl)) rfl)
theorem lk_X11_45 : x_lkIN RX11 "TwoSides" 45 yX0_init cX0_init 1 0 := ⟨lb_X0_init, (tt_1 (List.mem_of_getElem? (i := 216) rfl)), rfl, li_X0_init⟩
theorem fp_X11_46 : x_fp RX11 46 11 5 2 true := ⟨RX11, TX11, 8, tyX11, rfl, by decide, inX11, (x_tbm (tt_2 (List.mem_of_getElem? (i := 25) rfl)) rfl), rfl, by decide, tyX11_ok, nmX11, rfl, Or.inr (Or.inr (Or.inr ⟨rfl, Or.inl ⟨_, rfl⟩⟩)), fun _ => by decide +kernel⟩
theorem lc_anewarray_X11_50 : Cond.classLink RX11 50 "TwoSides$Side" ∈ x_tb := (x_tbm (tt_1 (List.mem_of_getElem? (i := 217) rfl)) rfl)
theorem fp_X11_52 : x_fp RX11 52 11 6 2 true := ⟨RX11, TX11, 8, tyX11, rfl, by decide, inX11, (x_tbm (tt_2 (List.mem_of_getElem? (i := 26) rfl)) rfl), rfl, by decide, tyX11_ok, nmX11, rfl, Or.inr (Or.inr (Or.inr ⟨rfl, Or.inr ⟨_, rfl⟩⟩)), fun _ => by decide +kernel⟩
theorem lc_new_X11_56 : Cond.classLink RX11 56 "TwoSides$Samples" ∈ x_tb := (x_tbm (tt_1 (List.mem_of_getElem? (i := 218) rfl)) rfl)
theorem lk_X11_58 : x_lkIN RX11 "TwoSides" 58 yX7_init cX7_init 1 0 := ⟨lb_X7_init, (tt_1 (List.mem_of_getElem? (i := 220) rfl)), rfl, li_X7_init⟩
theorem fp_X11_59 : x_fp RX11 59 11 7 2 true := ⟨RX11, TX11, 8, tyX11, rfl, by decide, inX11, (x_tbm (tt_2 (List.mem_of_getElem? (i := 27) rfl)) rfl), rfl, by decide, tyX11_ok, nmX11, rfl, Or.inr (Or.inr (Or.inr ⟨rfl, Or.inl ⟨_, rfl⟩⟩)), fun _ => by decide +kernel⟩
theorem fl_X11_39 : x_fl RX11 39 11 4 2 := ⟨RX11, TX11, 8, rfl, by decide, inX11, (x_tbm (tt_2 (List.mem_of_getElem? (i := 24) rfl)) rfl), rfl, by decide⟩
theorem lc_new_X11_37 : Cond.classLink RX11 37 "TwoSides$Word" ∈ x_tb := (x_tbm (tt_1 (List.mem_of_getElem? (i := 213) rfl)) rfl)
theorem lk_X11_63 : x_lkIN RX11 "TwoSides" 63 yX10_init cX10_init 1 0 := ⟨lb_X10_init, (tt_2 (List.mem_of_getElem? (i := 8) rfl)), rfl, li_X10_init⟩
theorem fl_X11_52 : x_fl RX11 52 11 6 2 := ⟨RX11, TX11, 8, rfl, by decide, inX11, (x_tbm (tt_2 (List.mem_of_getElem? (i := 26) rfl)) rfl), rfl, by decide⟩
theorem lc_new_X11_50 : Cond.classLink RX11 50 "TwoSides$Side" ∈ x_tb := (x_tbm (tt_1 (List.mem_of_getElem? (i := 217) rfl)) rfl)
theorem lk_X11_64 : x_lkIN RX11 "TwoSides" 64 yX8_init cX8_init 1 0 := ⟨lb_X8_init, (tt_2 (List.mem_of_getElem? (i := 19) rfl)), rfl, li_X8_init⟩
theorem fl_X11_10 : x_fl RX11 10 11 0 2 := ⟨RX11, TX11, 8, rfl, by decide, inX11, (x_tbm (tt_2 (List.mem_of_getElem? (i := 20) rfl)) rfl), rfl, by decide⟩
theorem lk_X11_65 : x_lkV RX11 65 yX9_hasRoomFor cX9_hasRoomFor 2 (some .boolean) 1 := ⟨lb_X9_hasRoomFor, (x_tbm (tt_2 (List.mem_of_getElem? (i := 49) rfl)) rfl), li_X9_hasRoomFor, lv_X9_hasRoomFor⟩
theorem co_X11_69 : Cond.constantLong RX11 69 (Int64.ofInt (255)) ∈ x_tb := (x_tbm (tt_2 (List.mem_of_getElem? (i := 53) (by decide +kernel))) rfl)
theorem lk_X11_71 : x_lkV RX11 71 yX9_add cX9_add 2 none 1 := ⟨lb_X9_add, (x_tbm (tt_2 (List.mem_of_getElem? (i := 54) rfl)) rfl), li_X9_add, lv_X9_add⟩
theorem lk_X11_75 : x_lkV RX11 75 yX9_length cX9_length 1 (some .int) 0 := ⟨lb_X9_length, (x_tbm (tt_2 (List.mem_of_getElem? (i := 58) rfl)) rfl), li_X9_length, lv_X9_length⟩
theorem lk_X11_79 : x_lkV RX11 79 yX9_empty cX9_empty 1 none 0 := ⟨lb_X9_empty, (x_tbm (tt_2 (List.mem_of_getElem? (i := 66) rfl)) rfl), li_X9_empty, lv_X9_empty⟩
theorem lk_X11_82 : x_lkV RX11 82 yX9_firstFault cX9_firstFault 6 (some .int) 0 := ⟨lb_X9_firstFault, (x_tbm (tt_2 (List.mem_of_getElem? (i := 74) rfl)) rfl), li_X9_firstFault, lv_X9_firstFault⟩
theorem fl_X11_19 : x_fl RX11 19 11 1 2 := ⟨RX11, TX11, 8, rfl, by decide, inX11, (x_tbm (tt_2 (List.mem_of_getElem? (i := 21) rfl)) rfl), rfl, by decide⟩
theorem lk_X11_85 : x_lkV RX11 85 yX9_tellEquations cX9_tellEquations 5 none 1 := ⟨lb_X9_tellEquations, (x_tbm (tt_2 (List.mem_of_getElem? (i := 85) rfl)) rfl), li_X9_tellEquations, lv_X9_tellEquations⟩
theorem fl_X11_26 : x_fl RX11 26 11 2 2 := ⟨RX11, TX11, 8, rfl, by decide, inX11, (x_tbm (tt_2 (List.mem_of_getElem? (i := 22) rfl)) rfl), rfl, by decide⟩
theorem lk_X11_89 : x_lkV RX11 89 yX1_forget cX1_forget 1 none 0 := ⟨lb_X1_forget, (x_tbm (tt_2 (List.mem_of_getElem? (i := 122) rfl)) rfl), li_X1_forget, lv_X1_forget⟩
theorem fl_X11_33 : x_fl RX11 33 11 3 2 := ⟨RX11, TX11, 8, rfl, by decide, inX11, (x_tbm (tt_2 (List.mem_of_getElem? (i := 23) rfl)) rfl), rfl, by decide⟩
theorem lk_X11_92 : x_lkV RX11 92 yX2_forget cX2_forget 2 none 0 := ⟨lb_X2_forget, (x_tbm (tt_2 (List.mem_of_getElem? (i := 126) rfl)) rfl), li_X2_forget, lv_X2_forget⟩
theorem lk_X11_93 : x_lkV RX11 93 yX3_length cX3_length 1 (some .int) 0 := ⟨lb_X3_length, (x_tbm (tt_2 (List.mem_of_getElem? (i := 130) rfl)) rfl), li_X3_length, lv_X3_length⟩
theorem lk_X11_94 : x_lkV RX11 94 yX3_has cX3_has 2 (some .boolean) 1 := ⟨lb_X3_has, (x_tbm (tt_2 (List.mem_of_getElem? (i := 138) rfl)) rfl), li_X3_has, lv_X3_has⟩
theorem lk_X11_97 : x_lkV RX11 97 yX3_side cX3_side 4 (some (.object "TwoSides$Side")) 2 := ⟨lb_X3_side, (x_tbm (tt_2 (List.mem_of_getElem? (i := 142) rfl)) rfl), li_X3_side, lv_X3_side⟩
theorem lk_X11_101 : x_lkV RX11 101 yX8_at cX8_at 2 (some .int) 1 := ⟨lb_X8_at, (x_tbm (tt_2 (List.mem_of_getElem? (i := 143) rfl)) rfl), li_X8_at, lv_X8_at⟩
theorem lk_X11_105 : x_lkS RX11 105 yX11_isNoneOfFour cX11_isNoneOfFour 1 (some .boolean) 1 := ⟨lb_X11_isNoneOfFour, (x_tbm (tt_2 (List.mem_of_getElem? (i := 151) rfl)) rfl), ls_X11_isNoneOfFour⟩
theorem lk_X11_108 : x_lkV RX11 108 yX1_limit cX1_limit 5 none 4 := ⟨lb_X1_limit, (x_tbm (tt_2 (List.mem_of_getElem? (i := 154) rfl)) rfl), li_X1_limit, lv_X1_limit⟩
theorem lk_X11_112 : x_lkV RX11 112 yX1_survey cX1_survey 5 none 1 := ⟨lb_X1_survey, (x_tbm (tt_2 (List.mem_of_getElem? (i := 163) rfl)) rfl), li_X1_survey, lv_X1_survey⟩
theorem lk_X11_115 : x_lkV RX11 115 yX1_howMany cX1_howMany 1 (some .long) 0 := ⟨lb_X1_howMany, (x_tbm (tt_3 (List.mem_of_getElem? (i := 34) rfl)) rfl), li_X1_howMany, lv_X1_howMany⟩
theorem lk_X11_119 : x_lkS RX11 119 yX11_capped cX11_capped 2 (some .int) 1 := ⟨lb_X11_capped, (x_tbm (tt_3 (List.mem_of_getElem? (i := 38) rfl)) rfl), ls_X11_capped⟩
theorem co_X11_123 : Cond.constant RX11 123 (Int32.ofInt 999999999) ∈ x_tb := (x_tbm (tt_3 (List.mem_of_getElem? (i := 47) (by decide +kernel))) rfl)
theorem lk_X11_124 : x_lkV RX11 124 yX1_told cX1_told 6 (some .int) 4 := ⟨lb_X1_told, (x_tbm (tt_3 (List.mem_of_getElem? (i := 48) rfl)) rfl), li_X1_told, lv_X1_told⟩
theorem lk_X11_128 : x_lkS RX11 128 yX11_hasNoLetter cX11_hasNoLetter 4 (some .boolean) 2 := ⟨lb_X11_hasNoLetter, (x_tbm (tt_3 (List.mem_of_getElem? (i := 72) rfl)) rfl), ls_X11_hasNoLetter⟩
theorem lk_X11_132 : x_lkV RX11 132 yX1_hear cX1_hear 4 none 3 := ⟨lb_X1_hear, (x_tbm (tt_3 (List.mem_of_getElem? (i := 79) rfl)) rfl), li_X1_hear, lv_X1_hear⟩
theorem lk_X11_136 : x_lkV RX11 136 yX1_rankOfHeard cX1_rankOfHeard 6 (some .long) 1 := ⟨lb_X1_rankOfHeard, (x_tbm (tt_3 (List.mem_of_getElem? (i := 87) rfl)) rfl), li_X1_rankOfHeard, lv_X1_rankOfHeard⟩
theorem lk_X11_140 : x_lkV RX11 140 yX1_sureLetter cX1_sureLetter 4 (some .int) 2 := ⟨lb_X1_sureLetter, (x_tbm (tt_3 (List.mem_of_getElem? (i := 102) rfl)) rfl), li_X1_sureLetter, lv_X1_sureLetter⟩
theorem lk_X11_144 : x_lkV RX11 144 yX2_follow cX2_follow 4 (some .int) 2 := ⟨lb_X2_follow, (x_tbm (tt_3 (List.mem_of_getElem? (i := 110) rfl)) rfl), li_X2_follow, lv_X2_follow⟩
theorem lk_X11_148 : x_lkV RX11 148 yX2_howManyMet cX2_howManyMet 2 (some .int) 1 := ⟨lb_X2_howManyMet, (x_tbm (tt_4 (List.mem_of_getElem? (i := 63) rfl)) rfl), li_X2_howManyMet, lv_X2_howManyMet⟩
theorem lk_X11_151 : x_lkV RX11 151 yX2_fewestPuttings cX2_fewestPuttings 2 (some .int) 1 := ⟨lb_X2_fewestPuttings, (x_tbm (tt_4 (List.mem_of_getElem? (i := 71) rfl)) rfl), li_X2_fewestPuttings, lv_X2_fewestPuttings⟩
theorem lk_X11_154 : x_lkV RX11 154 yX2_ringOrFree cX2_ringOrFree 2 (some .int) 1 := ⟨lb_X2_ringOrFree, (x_tbm (tt_4 (List.mem_of_getElem? (i := 79) rfl)) rfl), li_X2_ringOrFree, lv_X2_ringOrFree⟩
theorem lk_X11_157 : x_lkV RX11 157 yX2_chosen cX2_chosen 3 (some .int) 2 := ⟨lb_X2_chosen, (x_tbm (tt_4 (List.mem_of_getElem? (i := 87) rfl)) rfl), li_X2_chosen, lv_X2_chosen⟩
theorem lk_X11_160 : x_lkV RX11 160 yX2_foundByIt cX2_foundByIt 4 (some .int) 3 := ⟨lb_X2_foundByIt, (x_tbm (tt_4 (List.mem_of_getElem? (i := 95) rfl)) rfl), li_X2_foundByIt, lv_X2_foundByIt⟩
theorem lk_X11_164 : x_lkV RX11 164 yX10_become cX10_become 5 none 2 := ⟨lb_X10_become, (x_tbm (tt_4 (List.mem_of_getElem? (i := 121) rfl)) rfl), li_X10_become, lv_X10_become⟩
theorem lk_X11_168 : x_lkV RX11 168 yX10_length cX10_length 1 (some .int) 0 := ⟨lb_X10_length, (x_tbm (tt_4 (List.mem_of_getElem? (i := 132) rfl)) rfl), li_X10_length, lv_X10_length⟩
theorem lk_X11_169 : x_lkV RX11 169 yX10_rootLength cX10_rootLength 2 (some .int) 0 := ⟨lb_X10_rootLength, (x_tbm (tt_4 (List.mem_of_getElem? (i := 136) rfl)) rfl), li_X10_rootLength, lv_X10_rootLength⟩
theorem lk_X11_172 : x_lkV RX11 172 yX10_leastPeriod cX10_leastPeriod 2 (some .int) 0 := ⟨lb_X10_leastPeriod, (x_tbm (tt_4 (List.mem_of_getElem? (i := 144) rfl)) rfl), li_X10_leastPeriod, lv_X10_leastPeriod⟩
theorem lk_X11_175 : x_lkV RX11 175 yX10_leastTurn cX10_leastTurn 3 (some .int) 0 := ⟨lb_X10_leastTurn, (x_tbm (tt_4 (List.mem_of_getElem? (i := 148) rfl)) rfl), li_X10_leastTurn, lv_X10_leastTurn⟩
theorem lk_X11_178 : x_lkV RX11 178 yX10_fallingParts cX10_fallingParts 3 (some .int) 0 := ⟨lb_X10_fallingParts, (x_tbm (tt_4 (List.mem_of_getElem? (i := 160) rfl)) rfl), li_X10_fallingParts, lv_X10_fallingParts⟩
theorem lk_X11_181 : x_lkV RX11 181 yX10_periods cX10_periods 3 (some .int) 0 := ⟨lb_X10_periods, (x_tbm (tt_4 (List.mem_of_getElem? (i := 168) rfl)) rfl), li_X10_periods, lv_X10_periods⟩
theorem lk_X11_184 : x_lkV RX11 184 yX10_fallingPart cX10_fallingPart 4 (some .int) 1 := ⟨lb_X10_fallingPart, (x_tbm (tt_4 (List.mem_of_getElem? (i := 176) rfl)) rfl), li_X10_fallingPart, lv_X10_fallingPart⟩
theorem lk_X11_187 : x_lkV RX11 187 yX10_agreesWith cX10_agreesWith 6 (some .boolean) 1 := ⟨lb_X10_agreesWith, (x_tbm (tt_4 (List.mem_of_getElem? (i := 184) rfl)) rfl), li_X10_agreesWith, lv_X10_agreesWith⟩
theorem lk_X11_191 : x_lkV RX11 191 yX10_turnInto cX10_turnInto 3 (some .int) 1 := ⟨lb_X10_turnInto, (x_tbm (tt_4 (List.mem_of_getElem? (i := 192) rfl)) rfl), li_X10_turnInto, lv_X10_turnInto⟩
theorem fl_X11_46 : x_fl RX11 46 11 5 2 := ⟨RX11, TX11, 8, rfl, by decide, inX11, (x_tbm (tt_2 (List.mem_of_getElem? (i := 25) rfl)) rfl), rfl, by decide⟩
theorem lk_X11_195 : x_lkV RX11 195 yX0_begin cX0_begin 3 none 1 := ⟨lb_X0_begin, (x_tbm (tt_4 (List.mem_of_getElem? (i := 204) rfl)) rfl), li_X0_begin, lv_X0_begin⟩
theorem lk_X11_198 : x_lkV RX11 198 yX0_joinApart cX0_joinApart 3 none 1 := ⟨lb_X0_joinApart, (x_tbm (tt_4 (List.mem_of_getElem? (i := 205) rfl)) rfl), li_X0_joinApart, lv_X0_joinApart⟩
theorem lk_X11_201 : x_lkV RX11 201 yX0_first cX0_first 2 (some .int) 1 := ⟨lb_X0_first, (x_tbm (tt_4 (List.mem_of_getElem? (i := 210) rfl)) rfl), li_X0_first, lv_X0_first⟩
theorem lk_X11_204 : x_lkV RX11 204 yX0_classesAheadOf cX0_classesAheadOf 4 (some .int) 1 := ⟨lb_X0_classesAheadOf, (x_tbm (tt_4 (List.mem_of_getElem? (i := 211) rfl)) rfl), li_X0_classesAheadOf, lv_X0_classesAheadOf⟩
theorem lk_X11_207 : x_lkV RX11 207 yX9_isOneSide cX9_isOneSide 3 (some .boolean) 0 := ⟨lb_X9_isOneSide, (x_tbm (tt_4 (List.mem_of_getElem? (i := 219) rfl)) rfl), li_X9_isOneSide, lv_X9_isOneSide⟩
theorem lk_X11_211 : x_lkV RX11 211 yX9_tellSide cX9_tellSide 3 none 1 := ⟨lb_X9_tellSide, (x_tbm (tt_4 (List.mem_of_getElem? (i := 223) rfl)) rfl), li_X9_tellSide, lv_X9_tellSide⟩
theorem lk_X11_215 : x_lkV RX11 215 yX8_length cX8_length 1 (some .int) 0 := ⟨lb_X8_length, (x_tbm (tt_4 (List.mem_of_getElem? (i := 228) rfl)) rfl), li_X8_length, lv_X8_length⟩
theorem lk_X11_216 : x_lkV RX11 216 yX10_waysBy cX10_waysBy 2 (some .int) 1 := ⟨lb_X10_waysBy, (x_tbm (tt_4 (List.mem_of_getElem? (i := 233) rfl)) rfl), li_X10_waysBy, lv_X10_waysBy⟩
theorem lk_X11_220 : x_lkV RX11 220 yX8_canBecome cX8_canBecome 2 (some .boolean) 1 := ⟨lb_X8_canBecome, (x_tbm (tt_5 (List.mem_of_getElem? (i := 24) rfl)) rfl), li_X8_canBecome, lv_X8_canBecome⟩
theorem fl_X11_59 : x_fl RX11 59 11 7 2 := ⟨RX11, TX11, 8, rfl, by decide, inX11, (x_tbm (tt_2 (List.mem_of_getElem? (i := 27) rfl)) rfl), rfl, by decide⟩
theorem lk_X11_224 : x_lkV RX11 224 yX7_isFull cX7_isFull 1 (some .boolean) 0 := ⟨lb_X7_isFull, (x_tbm (tt_5 (List.mem_of_getElem? (i := 33) rfl)) rfl), li_X7_isFull, lv_X7_isFull⟩
theorem lk_X11_227 : x_lkV RX11 227 yX7_add cX7_add 4 none 2 := ⟨lb_X7_add, (x_tbm (tt_5 (List.mem_of_getElem? (i := 37) rfl)) rfl), li_X7_add, lv_X7_add⟩
theorem lk_X11_230 : x_lkV RX11 230 yX7_length cX7_length 1 (some .int) 0 := ⟨lb_X7_length, (x_tbm (tt_5 (List.mem_of_getElem? (i := 44) rfl)) rfl), li_X7_length, lv_X7_length⟩
theorem lk_X11_231 : x_lkV RX11 231 yX7_empty cX7_empty 1 none 0 := ⟨lb_X7_empty, (x_tbm (tt_5 (List.mem_of_getElem? (i := 52) rfl)) rfl), li_X7_empty, lv_X7_empty⟩
theorem lk_X11_232 : x_lkV RX11 232 yX7_longestShared cX7_longestShared 2 (some .int) 1 := ⟨lb_X7_longestShared, (x_tbm (tt_5 (List.mem_of_getElem? (i := 60) rfl)) rfl), li_X7_longestShared, lv_X7_longestShared⟩
theorem lk_X11_235 : x_lkV RX11 235 yX3_unknowns cX3_unknowns 3 (some .int) 0 := ⟨lb_X3_unknowns, (x_tbm (tt_5 (List.mem_of_getElem? (i := 99) rfl)) rfl), li_X3_unknowns, lv_X3_unknowns⟩
theorem lk_X11_238 : x_lkV RX11 238 yX11_patternsWithItems cX11_patternsWithItems 3 (some .int) 0 := ⟨lb_X11_patternsWithItems, (x_tbm (tt_5 (List.mem_of_getElem? (i := 104) rfl)) rfl), li_X11_patternsWithItems, lv_X11_patternsWithItems⟩
theorem co_X11_241 : Cond.constantLong RX11 241 (Int64.ofInt (3)) ∈ x_tb := (x_tbm (tt_3 (List.mem_of_getElem? (i := 78) (by decide +kernel))) rfl)
theorem lk_X11_243 : x_lkS RX11 243 yX11_letterOf cX11_letterOf 3 (some .int) 2 := ⟨lb_X11_letterOf, (x_tbm (tt_3 (List.mem_of_getElem? (i := 75) rfl)) rfl), ls_X11_letterOf⟩
theorem co_X11_247 : Cond.constantLong RX11 247 (Int64.ofInt (1000000001)) ∈ x_tb := (x_tbm (tt_3 (List.mem_of_getElem? (i := 41) (by decide +kernel))) rfl)
theorem co_X11_249 : Cond.constant RX11 249 (Int32.ofInt 1000000001) ∈ x_tb := (x_tbm (tt_3 (List.mem_of_getElem? (i := 42) (by decide +kernel))) rfl)
theorem lm_X12_1 : Cond.methodLink RX12 1 ⟨"java/lang/Object", "<init>", "()V"⟩ ∈ x_tb := (x_tbm (tt_5 (List.mem_of_getElem? (i := 113) rfl)) rfl)
theorem fp_X12_7 : x_fp RX12 7 12 0 2 true := ⟨RX12, TX12, 53, tyX12, rfl, by decide, inX12, (x_tbm (tt_5 (List.mem_of_getElem? (i := 115) rfl)) rfl), rfl, by decide, tyX12_ok, nmX12, rfl, Or.inr (Or.inr (Or.inr ⟨rfl, Or.inr ⟨_, rfl⟩⟩)), fun _ => by decide +kernel⟩
theorem fp_X12_13 : x_fp RX12 13 12 2 2 true := ⟨RX12, TX12, 53, tyX12, rfl, by decide, inX12, (x_tbm (tt_5 (List.mem_of_getElem? (i := 117) rfl)) rfl), rfl, by decide, tyX12_ok, nmX12, rfl, Or.inr (Or.inr (Or.inr ⟨rfl, Or.inr ⟨_, rfl⟩⟩)), fun _ => by decide +kernel⟩
theorem fp_X12_16 : x_fp RX12 16 12 3 2 true := ⟨RX12, TX12, 53, tyX12, rfl, by decide, inX12, (x_tbm (tt_5 (List.mem_of_getElem? (i := 118) rfl)) rfl), rfl, by decide, tyX12_ok, nmX12, rfl, Or.inr (Or.inr (Or.inr ⟨rfl, Or.inr ⟨_, rfl⟩⟩)), fun _ => by decide +kernel⟩
theorem fp_X12_19 : x_fp RX12 19 12 6 2 true := ⟨RX12, TX12, 53, tyX12, rfl, by decide, inX12, (x_tbm (tt_5 (List.mem_of_getElem? (i := 121) rfl)) rfl), rfl, by decide, tyX12_ok, nmX12, rfl, Or.inr (Or.inr (Or.inr ⟨rfl, Or.inr ⟨_, rfl⟩⟩)), fun _ => by decide +kernel⟩
theorem fp_X12_22 : x_fp RX12 22 12 7 2 true := ⟨RX12, TX12, 53, tyX12, rfl, by decide, inX12, (x_tbm (tt_5 (List.mem_of_getElem? (i := 122) rfl)) rfl), rfl, by decide, tyX12_ok, nmX12, rfl, Or.inr (Or.inr (Or.inr ⟨rfl, Or.inr ⟨_, rfl⟩⟩)), fun _ => by decide +kernel⟩
theorem fp_X12_25 : x_fp RX12 25 12 8 2 true := ⟨RX12, TX12, 53, tyX12, rfl, by decide, inX12, (x_tbm (tt_5 (List.mem_of_getElem? (i := 123) rfl)) rfl), rfl, by decide, tyX12_ok, nmX12, rfl, Or.inr (Or.inr (Or.inr ⟨rfl, Or.inr ⟨_, rfl⟩⟩)), fun _ => by decide +kernel⟩
theorem fp_X12_28 : x_fp RX12 28 12 9 2 true := ⟨RX12, TX12, 53, tyX12, rfl, by decide, inX12, (x_tbm (tt_5 (List.mem_of_getElem? (i := 124) rfl)) rfl), rfl, by decide, tyX12_ok, nmX12, rfl, Or.inr (Or.inr (Or.inr ⟨rfl, Or.inr ⟨_, rfl⟩⟩)), fun _ => by decide +kernel⟩
theorem fp_X12_31 : x_fp RX12 31 12 10 2 true := ⟨RX12, TX12, 53, tyX12, rfl, by decide, inX12, (x_tbm (tt_5 (List.mem_of_getElem? (i := 125) rfl)) rfl), rfl, by decide, tyX12_ok, nmX12, rfl, Or.inr (Or.inr (Or.inr ⟨rfl, Or.inr ⟨_, rfl⟩⟩)), fun _ => by decide +kernel⟩
theorem fp_X12_34 : x_fp RX12 34 12 11 2 true := ⟨RX12, TX12, 53, tyX12, rfl, by decide, inX12, (x_tbm (tt_5 (List.mem_of_getElem? (i := 126) rfl)) rfl), rfl, by decide, tyX12_ok, nmX12, rfl, Or.inr (Or.inr (Or.inr ⟨rfl, Or.inr ⟨_, rfl⟩⟩)), fun _ => by decide +kernel⟩
theorem fp_X12_37 : x_fp RX12 37 12 12 2 true := ⟨RX12, TX12, 53, tyX12, rfl, by decide, inX12, (x_tbm (tt_5 (List.mem_of_getElem? (i := 127) rfl)) rfl), rfl, by decide, tyX12_ok, nmX12, rfl, Or.inr (Or.inr (Or.inr ⟨rfl, Or.inr ⟨_, rfl⟩⟩)), fun _ => by decide +kernel⟩
theorem fp_X12_40 : x_fp RX12 40 12 13 2 true := ⟨RX12, TX12, 53, tyX12, rfl, by decide, inX12, (x_tbm (tt_5 (List.mem_of_getElem? (i := 128) rfl)) rfl), rfl, by decide, tyX12_ok, nmX12, rfl, Or.inr (Or.inr (Or.inr ⟨rfl, Or.inr ⟨_, rfl⟩⟩)), fun _ => by decide +kernel⟩
theorem fp_X12_43 : x_fp RX12 43 12 14 2 true := ⟨RX12, TX12, 53, tyX12, rfl, by decide, inX12, (x_tbm (tt_5 (List.mem_of_getElem? (i := 129) rfl)) rfl), rfl, by decide, tyX12_ok, nmX12, rfl, Or.inr (Or.inr (Or.inr ⟨rfl, Or.inr ⟨_, rfl⟩⟩)), fun _ => by decide +kernel⟩
theorem fp_X12_46 : x_fp RX12 46 12 15 2 true := ⟨RX12, TX12, 53, tyX12, rfl, by decide, inX12, (x_tbm (tt_5 (List.mem_of_getElem? (i := 130) rfl)) rfl), rfl, by decide, tyX12_ok, nmX12, rfl, Or.inr (Or.inr (Or.inr ⟨rfl, Or.inr ⟨_, rfl⟩⟩)), fun _ => by decide +kernel⟩
theorem fp_X12_49 : x_fp RX12 49 12 16 2 true := ⟨RX12, TX12, 53, tyX12, rfl, by decide, inX12, (x_tbm (tt_5 (List.mem_of_getElem? (i := 131) rfl)) rfl), rfl, by decide, tyX12_ok, nmX12, rfl, Or.inr (Or.inr (Or.inr ⟨rfl, Or.inr ⟨_, rfl⟩⟩)), fun _ => by decide +kernel⟩
theorem fp_X12_52 : x_fp RX12 52 12 18 2 true := ⟨RX12, TX12, 53, tyX12, rfl, by decide, inX12, (x_tbm (tt_5 (List.mem_of_getElem? (i := 133) rfl)) rfl), rfl, by decide, tyX12_ok, nmX12, rfl, Or.inr (Or.inr (Or.inr ⟨rfl, Or.inr ⟨_, rfl⟩⟩)), fun _ => by decide +kernel⟩
theorem fp_X12_55 : x_fp RX12 55 12 19 2 true := ⟨RX12, TX12, 53, tyX12, rfl, by decide, inX12, (x_tbm (tt_5 (List.mem_of_getElem? (i := 134) rfl)) rfl), rfl, by decide, tyX12_ok, nmX12, rfl, Or.inr (Or.inr (Or.inr ⟨rfl, Or.inr ⟨_, rfl⟩⟩)), fun _ => by decide +kernel⟩
theorem fp_X12_58 : x_fp RX12 58 12 20 2 true := ⟨RX12, TX12, 53, tyX12, rfl, by decide, inX12, (x_tbm (tt_5 (List.mem_of_getElem? (i := 135) rfl)) rfl), rfl, by decide, tyX12_ok, nmX12, rfl, Or.inr (Or.inr (Or.inr ⟨rfl, Or.inr ⟨_, rfl⟩⟩)), fun _ => by decide +kernel⟩
theorem fp_X12_61 : x_fp RX12 61 12 21 2 true := ⟨RX12, TX12, 53, tyX12, rfl, by decide, inX12, (x_tbm (tt_5 (List.mem_of_getElem? (i := 136) rfl)) rfl), rfl, by decide, tyX12_ok, nmX12, rfl, Or.inr (Or.inr (Or.inr ⟨rfl, Or.inr ⟨_, rfl⟩⟩)), fun _ => by decide +kernel⟩
theorem fp_X12_64 : x_fp RX12 64 12 23 2 true := ⟨RX12, TX12, 53, tyX12, rfl, by decide, inX12, (x_tbm (tt_5 (List.mem_of_getElem? (i := 138) rfl)) rfl), rfl, by decide, tyX12_ok, nmX12, rfl, Or.inr (Or.inr (Or.inr ⟨rfl, Or.inr ⟨_, rfl⟩⟩)), fun _ => by decide +kernel⟩
theorem fp_X12_67 : x_fp RX12 67 12 24 2 true := ⟨RX12, TX12, 53, tyX12, rfl, by decide, inX12, (x_tbm (tt_5 (List.mem_of_getElem? (i := 139) rfl)) rfl), rfl, by decide, tyX12_ok, nmX12, rfl, Or.inr (Or.inr (Or.inr ⟨rfl, Or.inr ⟨_, rfl⟩⟩)), fun _ => by decide +kernel⟩
theorem co_X12_70 : Cond.constant RX12 70 (Int32.ofInt 36000) ∈ x_tb := (x_tbm (tt_5 (List.mem_of_getElem? (i := 114) (by decide +kernel))) rfl)
theorem fp_X12_71 : x_fp RX12 71 12 26 2 true := ⟨RX12, TX12, 53, tyX12, rfl, by decide, inX12, (x_tbm (tt_5 (List.mem_of_getElem? (i := 141) rfl)) rfl), rfl, by decide, tyX12_ok, nmX12, rfl, Or.inr (Or.inr (Or.inr ⟨rfl, Or.inr ⟨_, rfl⟩⟩)), fun _ => by decide +kernel⟩
theorem fp_X12_74 : x_fp RX12 74 12 27 2 true := ⟨RX12, TX12, 53, tyX12, rfl, by decide, inX12, (x_tbm (tt_5 (List.mem_of_getElem? (i := 142) rfl)) rfl), rfl, by decide, tyX12_ok, nmX12, rfl, Or.inr (Or.inr (Or.inr ⟨rfl, Or.inr ⟨_, rfl⟩⟩)), fun _ => by decide +kernel⟩
theorem fp_X12_77 : x_fp RX12 77 12 28 2 true := ⟨RX12, TX12, 53, tyX12, rfl, by decide, inX12, (x_tbm (tt_5 (List.mem_of_getElem? (i := 143) rfl)) rfl), rfl, by decide, tyX12_ok, nmX12, rfl, Or.inr (Or.inr (Or.inr ⟨rfl, Or.inr ⟨_, rfl⟩⟩)), fun _ => by decide +kernel⟩
theorem fp_X12_80 : x_fp RX12 80 12 29 2 true := ⟨RX12, TX12, 53, tyX12, rfl, by decide, inX12, (x_tbm (tt_5 (List.mem_of_getElem? (i := 144) rfl)) rfl), rfl, by decide, tyX12_ok, nmX12, rfl, Or.inr (Or.inr (Or.inr ⟨rfl, Or.inr ⟨_, rfl⟩⟩)), fun _ => by decide +kernel⟩
theorem fp_X12_83 : x_fp RX12 83 12 30 2 true := ⟨RX12, TX12, 53, tyX12, rfl, by decide, inX12, (x_tbm (tt_5 (List.mem_of_getElem? (i := 145) rfl)) rfl), rfl, by decide, tyX12_ok, nmX12, rfl, Or.inr (Or.inr (Or.inr ⟨rfl, Or.inr ⟨_, rfl⟩⟩)), fun _ => by decide +kernel⟩
theorem fp_X12_87 : x_fp RX12 87 12 31 2 true := ⟨RX12, TX12, 53, tyX12, rfl, by decide, inX12, (x_tbm (tt_5 (List.mem_of_getElem? (i := 146) rfl)) rfl), rfl, by decide, tyX12_ok, nmX12, rfl, Or.inr (Or.inr (Or.inr ⟨rfl, Or.inr ⟨_, rfl⟩⟩)), fun _ => by decide +kernel⟩
theorem fp_X12_90 : x_fp RX12 90 12 32 2 true := ⟨RX12, TX12, 53, tyX12, rfl, by decide, inX12, (x_tbm (tt_5 (List.mem_of_getElem? (i := 147) rfl)) rfl), rfl, by decide, tyX12_ok, nmX12, rfl, Or.inr (Or.inr (Or.inr ⟨rfl, Or.inr ⟨_, rfl⟩⟩)), fun _ => by decide +kernel⟩
theorem fp_X12_93 : x_fp RX12 93 12 35 2 true := ⟨RX12, TX12, 53, tyX12, rfl, by decide, inX12, (x_tbm (tt_5 (List.mem_of_getElem? (i := 150) rfl)) rfl), rfl, by decide, tyX12_ok, nmX12, rfl, Or.inr (Or.inr (Or.inr ⟨rfl, Or.inr ⟨_, rfl⟩⟩)), fun _ => by decide +kernel⟩
theorem fp_X12_96 : x_fp RX12 96 12 36 2 true := ⟨RX12, TX12, 53, tyX12, rfl, by decide, inX12, (x_tbm (tt_5 (List.mem_of_getElem? (i := 151) rfl)) rfl), rfl, by decide, tyX12_ok, nmX12, rfl, Or.inr (Or.inr (Or.inr ⟨rfl, Or.inr ⟨_, rfl⟩⟩)), fun _ => by decide +kernel⟩
theorem fp_X12_99 : x_fp RX12 99 12 41 2 true := ⟨RX12, TX12, 53, tyX12, rfl, by decide, inX12, (x_tbm (tt_5 (List.mem_of_getElem? (i := 156) rfl)) rfl), rfl, by decide, tyX12_ok, nmX12, rfl, Or.inr (Or.inr (Or.inr ⟨rfl, Or.inr ⟨_, rfl⟩⟩)), fun _ => by decide +kernel⟩
theorem fp_X12_102 : x_fp RX12 102 12 42 2 true := ⟨RX12, TX12, 53, tyX12, rfl, by decide, inX12, (x_tbm (tt_5 (List.mem_of_getElem? (i := 157) rfl)) rfl), rfl, by decide, tyX12_ok, nmX12, rfl, Or.inr (Or.inr (Or.inr ⟨rfl, Or.inr ⟨_, rfl⟩⟩)), fun _ => by decide +kernel⟩
theorem fp_X12_105 : x_fp RX12 105 12 43 2 true := ⟨RX12, TX12, 53, tyX12, rfl, by decide, inX12, (x_tbm (tt_5 (List.mem_of_getElem? (i := 158) rfl)) rfl), rfl, by decide, tyX12_ok, nmX12, rfl, Or.inr (Or.inr (Or.inr ⟨rfl, Or.inr ⟨_, rfl⟩⟩)), fun _ => by decide +kernel⟩
theorem fp_X12_108 : x_fp RX12 108 12 44 2 true := ⟨RX12, TX12, 53, tyX12, rfl, by decide, inX12, (x_tbm (tt_5 (List.mem_of_getElem? (i := 159) rfl)) rfl), rfl, by decide, tyX12_ok, nmX12, rfl, Or.inr (Or.inr (Or.inr ⟨rfl, Or.inr ⟨_, rfl⟩⟩)), fun _ => by decide +kernel⟩
theorem fp_X12_111 : x_fp RX12 111 12 45 2 true := ⟨RX12, TX12, 53, tyX12, rfl, by decide, inX12, (x_tbm (tt_5 (List.mem_of_getElem? (i := 160) rfl)) rfl), rfl, by decide, tyX12_ok, nmX12, rfl, Or.inr (Or.inr (Or.inr ⟨rfl, Or.inr ⟨_, rfl⟩⟩)), fun _ => by decide +kernel⟩
theorem fp_X12_114 : x_fp RX12 114 12 46 2 true := ⟨RX12, TX12, 53, tyX12, rfl, by decide, inX12, (x_tbm (tt_5 (List.mem_of_getElem? (i := 161) rfl)) rfl), rfl, by decide, tyX12_ok, nmX12, rfl, Or.inr (Or.inr (Or.inr ⟨rfl, Or.inr ⟨_, rfl⟩⟩)), fun _ => by decide +kernel⟩
theorem fp_X12_117 : x_fp RX12 117 12 47 2 true := ⟨RX12, TX12, 53, tyX12, rfl, by decide, inX12, (x_tbm (tt_5 (List.mem_of_getElem? (i := 162) rfl)) rfl), rfl, by decide, tyX12_ok, nmX12, rfl, Or.inr (Or.inr (Or.inr ⟨rfl, Or.inr ⟨_, rfl⟩⟩)), fun _ => by decide +kernel⟩
theorem fp_X12_120 : x_fp RX12 120 12 49 2 true := ⟨RX12, TX12, 53, tyX12, rfl, by decide, inX12, (x_tbm (tt_5 (List.mem_of_getElem? (i := 164) rfl)) rfl), rfl, by decide, tyX12_ok, nmX12, rfl, Or.inr (Or.inr (Or.inr ⟨rfl, Or.inr ⟨_, rfl⟩⟩)), fun _ => by decide +kernel⟩
theorem fp_X12_123 : x_fp RX12 123 12 51 2 true := ⟨RX12, TX12, 53, tyX12, rfl, by decide, inX12, (x_tbm (tt_5 (List.mem_of_getElem? (i := 166) rfl)) rfl), rfl, by decide, tyX12_ok, nmX12, rfl, Or.inr (Or.inr (Or.inr ⟨rfl, Or.inr ⟨_, rfl⟩⟩)), fun _ => by decide +kernel⟩
theorem fp_X12_126 : x_fp RX12 126 12 52 2 true := ⟨RX12, TX12, 53, tyX12, rfl, by decide, inX12, (x_tbm (tt_5 (List.mem_of_getElem? (i := 167) rfl)) rfl), rfl, by decide, tyX12_ok, nmX12, rfl, Or.inr (Or.inr (Or.inr ⟨rfl, Or.inr ⟨_, rfl⟩⟩)), fun _ => by decide +kernel⟩
theorem co_X12_129 : Cond.constantLong RX12 129 (Int64.ofInt (3)) ∈ x_tb := (x_tbm (tt_6 (List.mem_of_getElem? (i := 75) (by decide +kernel))) rfl)
theorem lk_X12_131 : x_lkS RX12 131 yX12_in cX12_in 6 (some .boolean) 3 := ⟨lb_X12_in, (x_tbm (tt_6 (List.mem_of_getElem? (i := 40) rfl)) rfl), ls_X12_in⟩
theorem co_X12_135 : Cond.constantLong RX12 135 (Int64.ofInt (8)) ∈ x_tb := (x_tbm (tt_6 (List.mem_of_getElem? (i := 39) (by decide +kernel))) rfl)
theorem fl_X12_137 : x_fl RX12 137 12 1 0 := ⟨RX12, TX12, 53, rfl, by decide, inX12, (x_tbm (tt_5 (List.mem_of_getElem? (i := 116) rfl)) rfl), rfl, by decide⟩
theorem fl_X12_7 : x_fl RX12 7 12 0 2 := ⟨RX12, TX12, 53, rfl, by decide, inX12, (x_tbm (tt_5 (List.mem_of_getElem? (i := 115) rfl)) rfl), rfl, by decide⟩
theorem co_X12_141 : Cond.constantLong RX12 141 (Int64.ofInt (255)) ∈ x_tb := (x_tbm (tt_6 (List.mem_of_getElem? (i := 43) (by decide +kernel))) rfl)
theorem fp_X12_137 : x_fp RX12 137 12 1 0 false := ⟨RX12, TX12, 53, tyX12, rfl, by decide, inX12, (x_tbm (tt_5 (List.mem_of_getElem? (i := 116) rfl)) rfl), rfl, by decide, tyX12_ok, nmX12, rfl, Or.inl ⟨rfl, rfl⟩, fun _ => by decide +kernel⟩
theorem fl_X12_55 : x_fl RX12 55 12 19 2 := ⟨RX12, TX12, 53, rfl, by decide, inX12, (x_tbm (tt_5 (List.mem_of_getElem? (i := 134) rfl)) rfl), rfl, by decide⟩
theorem lk_X12_143 : x_lkS RX12 143 yX12_itemOf cX12_itemOf 1 (some .int) 1 := ⟨lb_X12_itemOf, (x_tbm (tt_6 (List.mem_of_getElem? (i := 52) rfl)) rfl), ls_X12_itemOf⟩
theorem fl_X12_52 : x_fl RX12 52 12 18 2 := ⟨RX12, TX12, 53, rfl, by decide, inX12, (x_tbm (tt_5 (List.mem_of_getElem? (i := 133) rfl)) rfl), rfl, by decide⟩
theorem fp_X12_147 : x_fp RX12 147 12 5 0 false := ⟨RX12, TX12, 53, tyX12, rfl, by decide, inX12, (x_tbm (tt_5 (List.mem_of_getElem? (i := 120) rfl)) rfl), rfl, by decide, tyX12_ok, nmX12, rfl, Or.inl ⟨rfl, rfl⟩, fun _ => by decide +kernel⟩
theorem lk_X12_150 : x_lkV RX12 150 yX12_fault cX12_fault 7 (some .int) 0 := ⟨lb_X12_fault, (x_tbm (tt_6 (List.mem_of_getElem? (i := 59) rfl)) rfl), li_X12_fault, lv_X12_fault⟩
theorem fl_X12_147 : x_fl RX12 147 12 5 0 := ⟨RX12, TX12, 53, rfl, by decide, inX12, (x_tbm (tt_5 (List.mem_of_getElem? (i := 120) rfl)) rfl), rfl, by decide⟩
theorem fp_X12_154 : x_fp RX12 154 12 4 0 false := ⟨RX12, TX12, 53, tyX12, rfl, by decide, inX12, (x_tbm (tt_5 (List.mem_of_getElem? (i := 119) rfl)) rfl), rfl, by decide, tyX12_ok, nmX12, rfl, Or.inl ⟨rfl, rfl⟩, fun _ => by decide +kernel⟩
theorem fl_X12_154 : x_fl RX12 154 12 4 0 := ⟨RX12, TX12, 53, rfl, by decide, inX12, (x_tbm (tt_5 (List.mem_of_getElem? (i := 119) rfl)) rfl), rfl, by decide⟩
theorem fl_X12_16 : x_fl RX12 16 12 3 2 := ⟨RX12, TX12, 53, rfl, by decide, inX12, (x_tbm (tt_5 (List.mem_of_getElem? (i := 118) rfl)) rfl), rfl, by decide⟩
theorem fl_X12_13 : x_fl RX12 13 12 2 2 := ⟨RX12, TX12, 53, rfl, by decide, inX12, (x_tbm (tt_5 (List.mem_of_getElem? (i := 117) rfl)) rfl), rfl, by decide⟩
theorem lk_X12_157 : x_lkV RX12 157 yX12_isEquation cX12_isEquation 2 (some .boolean) 1 := ⟨lb_X12_isEquation, (x_tbm (tt_6 (List.mem_of_getElem? (i := 64) rfl)) rfl), li_X12_isEquation, lv_X12_isEquation⟩
theorem lk_X12_161 : x_lkS RX12 161 yX12_isName cX12_isName 1 (some .boolean) 1 := ⟨lb_X12_isName, (x_tbm (tt_6 (List.mem_of_getElem? (i := 72) rfl)) rfl), ls_X12_isName⟩
theorem co_X12_164 : Cond.constantLong RX12 164 (Int64.ofInt (7)) ∈ x_tb := (x_tbm (tt_6 (List.mem_of_getElem? (i := 76) (by decide +kernel))) rfl)
theorem fl_X12_19 : x_fl RX12 19 12 6 2 := ⟨RX12, TX12, 53, rfl, by decide, inX12, (x_tbm (tt_5 (List.mem_of_getElem? (i := 121) rfl)) rfl), rfl, by decide⟩
theorem fl_X12_22 : x_fl RX12 22 12 7 2 := ⟨RX12, TX12, 53, rfl, by decide, inX12, (x_tbm (tt_5 (List.mem_of_getElem? (i := 122) rfl)) rfl), rfl, by decide⟩
theorem fl_X12_25 : x_fl RX12 25 12 8 2 := ⟨RX12, TX12, 53, rfl, by decide, inX12, (x_tbm (tt_5 (List.mem_of_getElem? (i := 123) rfl)) rfl), rfl, by decide⟩
theorem fl_X12_64 : x_fl RX12 64 12 23 2 := ⟨RX12, TX12, 53, rfl, by decide, inX12, (x_tbm (tt_5 (List.mem_of_getElem? (i := 138) rfl)) rfl), rfl, by decide⟩
theorem lk_X12_166 : x_lkV RX12 166 yX12_leadOf cX12_leadOf 3 (some .int) 1 := ⟨lb_X12_leadOf, (x_tbm (tt_6 (List.mem_of_getElem? (i := 105) rfl)) rfl), li_X12_leadOf, lv_X12_leadOf⟩
theorem fl_X12_58 : x_fl RX12 58 12 20 2 := ⟨RX12, TX12, 53, rfl, by decide, inX12, (x_tbm (tt_5 (List.mem_of_getElem? (i := 135) rfl)) rfl), rfl, by decide⟩
theorem fl_X12_61 : x_fl RX12 61 12 21 2 := ⟨RX12, TX12, 53, rfl, by decide, inX12, (x_tbm (tt_5 (List.mem_of_getElem? (i := 136) rfl)) rfl), rfl, by decide⟩
theorem lk_X12_169 : x_lkV RX12 169 yX12_usedNames cX12_usedNames 5 (some .int) 0 := ⟨lb_X12_usedNames, (x_tbm (tt_6 (List.mem_of_getElem? (i := 89) rfl)) rfl), li_X12_usedNames, lv_X12_usedNames⟩
theorem fp_X12_172 : x_fp RX12 172 12 22 0 false := ⟨RX12, TX12, 53, tyX12, rfl, by decide, inX12, (x_tbm (tt_5 (List.mem_of_getElem? (i := 137) rfl)) rfl), rfl, by decide, tyX12_ok, nmX12, rfl, Or.inl ⟨rfl, rfl⟩, fun _ => by decide +kernel⟩
theorem fl_X12_172 : x_fl RX12 172 12 22 0 := ⟨RX12, TX12, 53, rfl, by decide, inX12, (x_tbm (tt_5 (List.mem_of_getElem? (i := 137) rfl)) rfl), rfl, by decide⟩
theorem lk_X12_175 : x_lkV RX12 175 yX12_lengthOf cX12_lengthOf 5 (some .int) 1 := ⟨lb_X12_lengthOf, (x_tbm (tt_6 (List.mem_of_getElem? (i := 93) rfl)) rfl), li_X12_lengthOf, lv_X12_lengthOf⟩
theorem fl_X12_67 : x_fl RX12 67 12 24 2 := ⟨RX12, TX12, 53, rfl, by decide, inX12, (x_tbm (tt_5 (List.mem_of_getElem? (i := 139) rfl)) rfl), rfl, by decide⟩
theorem lk_X12_178 : x_lkV RX12 178 yX12_placeAt cX12_placeAt 8 (some .int) 2 := ⟨lb_X12_placeAt, (x_tbm (tt_6 (List.mem_of_getElem? (i := 97) rfl)) rfl), li_X12_placeAt, lv_X12_placeAt⟩
theorem lk_X12_182 : x_lkV RX12 182 yX12_makeOne cX12_makeOne 5 none 2 := ⟨lb_X12_makeOne, (x_tbm (tt_6 (List.mem_of_getElem? (i := 101) rfl)) rfl), li_X12_makeOne, lv_X12_makeOne⟩
theorem co_X12_186 : Cond.constantLong RX12 186 (Int64.ofInt (1000000001)) ∈ x_tb := (x_tbm (tt_6 (List.mem_of_getElem? (i := 109) (by decide +kernel))) rfl)
theorem fp_X12_188 : x_fp RX12 188 12 25 0 false := ⟨RX12, TX12, 53, tyX12, rfl, by decide, inX12, (x_tbm (tt_5 (List.mem_of_getElem? (i := 140) rfl)) rfl), rfl, by decide, tyX12_ok, nmX12, rfl, Or.inl ⟨rfl, rfl⟩, fun _ => by decide +kernel⟩
theorem fl_X12_188 : x_fl RX12 188 12 25 0 := ⟨RX12, TX12, 53, rfl, by decide, inX12, (x_tbm (tt_5 (List.mem_of_getElem? (i := 140) rfl)) rfl), rfl, by decide⟩
theorem lk_X12_191 : x_lkV RX12 191 yX12_firstLengths cX12_firstLengths 1 none 0 := ⟨lb_X12_firstLengths, (x_tbm (tt_6 (List.mem_of_getElem? (i := 81) rfl)) rfl), li_X12_firstLengths, lv_X12_firstLengths⟩
theorem lk_X12_194 : x_lkV RX12 194 yX12_waysNow cX12_waysNow 6 (some .long) 0 := ⟨lb_X12_waysNow, (x_tbm (tt_6 (List.mem_of_getElem? (i := 85) rfl)) rfl), li_X12_waysNow, lv_X12_waysNow⟩
theorem lk_X12_198 : x_lkV RX12 198 yX12_nextLengths cX12_nextLengths 2 (some .boolean) 0 := ⟨lb_X12_nextLengths, (x_tbm (tt_6 (List.mem_of_getElem? (i := 110) rfl)) rfl), li_X12_nextLengths, lv_X12_nextLengths⟩
theorem lk_X12_202 : x_lkS RX12 202 yX12_pick cX12_pick 5 (some .int) 2 := ⟨lb_X12_pick, (x_tbm (tt_6 (List.mem_of_getElem? (i := 123) rfl)) rfl), ls_X12_pick⟩
theorem co_X12_205 : Cond.constantLong RX12 205 (Int64.ofInt (999999999)) ∈ x_tb := (x_tbm (tt_6 (List.mem_of_getElem? (i := 118) (by decide +kernel))) rfl)
theorem lk_X12_207 : x_lkV RX12 207 yX12_letterOf cX12_letterOf 11 (some .int) 2 := ⟨lb_X12_letterOf, (x_tbm (tt_6 (List.mem_of_getElem? (i := 119) rfl)) rfl), li_X12_letterOf, lv_X12_letterOf⟩
theorem fl_X12_28 : x_fl RX12 28 12 9 2 := ⟨RX12, TX12, 53, rfl, by decide, inX12, (x_tbm (tt_5 (List.mem_of_getElem? (i := 124) rfl)) rfl), rfl, by decide⟩
theorem fl_X12_31 : x_fl RX12 31 12 10 2 := ⟨RX12, TX12, 53, rfl, by decide, inX12, (x_tbm (tt_5 (List.mem_of_getElem? (i := 125) rfl)) rfl), rfl, by decide⟩
theorem lk_X12_211 : x_lkV RX12 211 yX12_areTold cX12_areTold 3 (some .boolean) 0 := ⟨lb_X12_areTold, (x_tbm (tt_6 (List.mem_of_getElem? (i := 134) rfl)) rfl), li_X12_areTold, lv_X12_areTold⟩
theorem lk_X12_214 : x_lkV RX12 214 yX12_rankNow cX12_rankNow 11 (some .int) 1 := ⟨lb_X12_rankNow, (x_tbm (tt_6 (List.mem_of_getElem? (i := 138) rfl)) rfl), li_X12_rankNow, lv_X12_rankNow⟩
theorem lk_X12_218 : x_lkV RX12 218 yX12_toldAt cX12_toldAt 3 (some .int) 1 := ⟨lb_X12_toldAt, (x_tbm (tt_6 (List.mem_of_getElem? (i := 142) rfl)) rfl), li_X12_toldAt, lv_X12_toldAt⟩
theorem co_X12_221 : Cond.constantLong RX12 221 (Int64.ofInt (1000000000)) ∈ x_tb := (x_tbm (tt_6 (List.mem_of_getElem? (i := 146) (by decide +kernel))) rfl)
theorem co_X12_223 : Cond.constant RX12 223 (Int32.ofInt 1000000001) ∈ x_tb := (x_tbm (tt_6 (List.mem_of_getElem? (i := 147) (by decide +kernel))) rfl)
theorem fl_X12_224 : x_fl RX12 224 12 37 0 := ⟨RX12, TX12, 53, rfl, by decide, inX12, (x_tbm (tt_5 (List.mem_of_getElem? (i := 152) rfl)) rfl), rfl, by decide⟩
theorem fl_X12_227 : x_fl RX12 227 12 38 0 := ⟨RX12, TX12, 53, rfl, by decide, inX12, (x_tbm (tt_5 (List.mem_of_getElem? (i := 153) rfl)) rfl), rfl, by decide⟩
theorem fl_X12_93 : x_fl RX12 93 12 35 2 := ⟨RX12, TX12, 53, rfl, by decide, inX12, (x_tbm (tt_5 (List.mem_of_getElem? (i := 150) rfl)) rfl), rfl, by decide⟩
theorem fl_X12_96 : x_fl RX12 96 12 36 2 := ⟨RX12, TX12, 53, rfl, by decide, inX12, (x_tbm (tt_5 (List.mem_of_getElem? (i := 151) rfl)) rfl), rfl, by decide⟩
theorem fp_X12_224 : x_fp RX12 224 12 37 0 false := ⟨RX12, TX12, 53, tyX12, rfl, by decide, inX12, (x_tbm (tt_5 (List.mem_of_getElem? (i := 152) rfl)) rfl), rfl, by decide, tyX12_ok, nmX12, rfl, Or.inl ⟨rfl, rfl⟩, fun _ => by decide +kernel⟩
theorem fp_X12_227 : x_fp RX12 227 12 38 0 false := ⟨RX12, TX12, 53, tyX12, rfl, by decide, inX12, (x_tbm (tt_5 (List.mem_of_getElem? (i := 153) rfl)) rfl), rfl, by decide, tyX12_ok, nmX12, rfl, Or.inl ⟨rfl, rfl⟩, fun _ => by decide +kernel⟩
theorem fl_X12_77 : x_fl RX12 77 12 28 2 := ⟨RX12, TX12, 53, rfl, by decide, inX12, (x_tbm (tt_5 (List.mem_of_getElem? (i := 143) rfl)) rfl), rfl, by decide⟩
theorem fl_X12_71 : x_fl RX12 71 12 26 2 := ⟨RX12, TX12, 53, rfl, by decide, inX12, (x_tbm (tt_5 (List.mem_of_getElem? (i := 141) rfl)) rfl), rfl, by decide⟩
theorem fl_X12_74 : x_fl RX12 74 12 27 2 := ⟨RX12, TX12, 53, rfl, by decide, inX12, (x_tbm (tt_5 (List.mem_of_getElem? (i := 142) rfl)) rfl), rfl, by decide⟩
theorem co_X12_230 : Cond.constant RX12 230 (Int32.ofInt 2147483647) ∈ x_tb := (x_tbm (tt_6 (List.mem_of_getElem? (i := 172) (by decide +kernel))) rfl)
theorem fl_X12_90 : x_fl RX12 90 12 32 2 := ⟨RX12, TX12, 53, rfl, by decide, inX12, (x_tbm (tt_5 (List.mem_of_getElem? (i := 147) rfl)) rfl), rfl, by decide⟩
theorem lk_X12_231 : x_lkV RX12 231 yX12_isMet cX12_isMet 4 (some .boolean) 1 := ⟨lb_X12_isMet, (x_tbm (tt_6 (List.mem_of_getElem? (i := 173) rfl)) rfl), li_X12_isMet, lv_X12_isMet⟩
theorem fl_X12_234 : x_fl RX12 234 12 33 0 := ⟨RX12, TX12, 53, rfl, by decide, inX12, (x_tbm (tt_5 (List.mem_of_getElem? (i := 148) rfl)) rfl), rfl, by decide⟩
theorem fp_X12_234 : x_fp RX12 234 12 33 0 false := ⟨RX12, TX12, 53, tyX12, rfl, by decide, inX12, (x_tbm (tt_5 (List.mem_of_getElem? (i := 148) rfl)) rfl), rfl, by decide, tyX12_ok, nmX12, rfl, Or.inl ⟨rfl, rfl⟩, fun _ => by decide +kernel⟩
theorem fp_X12_237 : x_fp RX12 237 12 40 0 false := ⟨RX12, TX12, 53, tyX12, rfl, by decide, inX12, (x_tbm (tt_5 (List.mem_of_getElem? (i := 155) rfl)) rfl), rfl, by decide, tyX12_ok, nmX12, rfl, Or.inl ⟨rfl, rfl⟩, fun _ => by decide +kernel⟩
theorem fp_X12_240 : x_fp RX12 240 12 39 0 false := ⟨RX12, TX12, 53, tyX12, rfl, by decide, inX12, (x_tbm (tt_5 (List.mem_of_getElem? (i := 154) rfl)) rfl), rfl, by decide, tyX12_ok, nmX12, rfl, Or.inl ⟨rfl, rfl⟩, fun _ => by decide +kernel⟩
theorem fl_X12_240 : x_fl RX12 240 12 39 0 := ⟨RX12, TX12, 53, rfl, by decide, inX12, (x_tbm (tt_5 (List.mem_of_getElem? (i := 154) rfl)) rfl), rfl, by decide⟩
theorem fl_X12_237 : x_fl RX12 237 12 40 0 := ⟨RX12, TX12, 53, rfl, by decide, inX12, (x_tbm (tt_5 (List.mem_of_getElem? (i := 155) rfl)) rfl), rfl, by decide⟩
theorem lk_X12_243 : x_lkV RX12 243 yX12_add cX12_add 3 none 2 := ⟨lb_X12_add, (x_tbm (tt_6 (List.mem_of_getElem? (i := 185) rfl)) rfl), li_X12_add, lv_X12_add⟩
theorem lk_X12_247 : x_lkV RX12 247 yX12_strike cX12_strike 3 none 0 := ⟨lb_X12_strike, (x_tbm (tt_6 (List.mem_of_getElem? (i := 164) rfl)) rfl), li_X12_strike, lv_X12_strike⟩
theorem lk_X12_250 : x_lkV RX12 250 yX12_namesNow cX12_namesNow 3 (some .int) 0 := ⟨lb_X12_namesNow, (x_tbm (tt_6 (List.mem_of_getElem? (i := 160) rfl)) rfl), li_X12_namesNow, lv_X12_namesNow⟩
theorem fp_X12_253 : x_fp RX12 253 12 34 3 false := ⟨RX12, TX12, 53, tyX12, rfl, by decide, inX12, (x_tbm (tt_5 (List.mem_of_getElem? (i := 149) rfl)) rfl), rfl, by decide, tyX12_ok, nmX12, rfl, Or.inr (Or.inr (Or.inl ⟨rfl, rfl⟩)), fun _ => by decide +kernel⟩
theorem lk_X12_257 : x_lkV RX12 257 yX12_numberOf cX12_numberOf 3 (some .int) 0 := ⟨lb_X12_numberOf, (x_tbm (tt_6 (List.mem_of_getElem? (i := 168) rfl)) rfl), li_X12_numberOf, lv_X12_numberOf⟩
theorem fl_X12_80 : x_fl RX12 80 12 29 2 := ⟨RX12, TX12, 53, rfl, by decide, inX12, (x_tbm (tt_5 (List.mem_of_getElem? (i := 144) rfl)) rfl), rfl, by decide⟩
theorem fl_X12_83 : x_fl RX12 83 12 30 2 := ⟨RX12, TX12, 53, rfl, by decide, inX12, (x_tbm (tt_5 (List.mem_of_getElem? (i := 145) rfl)) rfl), rfl, by decide⟩
theorem lk_X12_260 : x_lkV RX12 260 yX12_hasPutting cX12_hasPutting 5 (some .boolean) 2 := ⟨lb_X12_hasPutting, (x_tbm (tt_6 (List.mem_of_getElem? (i := 177) rfl)) rfl), li_X12_hasPutting, lv_X12_hasPutting⟩
theorem lk_X12_264 : x_lkV RX12 264 yX12_layPut cX12_layPut 5 none 1 := ⟨lb_X12_layPut, (x_tbm (tt_6 (List.mem_of_getElem? (i := 181) rfl)) rfl), li_X12_layPut, lv_X12_layPut⟩
theorem lk_X12_268 : x_lkV RX12 268 yX12_namesMet cX12_namesMet 5 (some .int) 1 := ⟨lb_X12_namesMet, (x_tbm (tt_6 (List.mem_of_getElem? (i := 189) rfl)) rfl), li_X12_namesMet, lv_X12_namesMet⟩
theorem lk_X12_271 : x_lkV RX12 271 yX12_layDist cX12_layDist 6 none 0 := ⟨lb_X12_layDist, (x_tbm (tt_6 (List.mem_of_getElem? (i := 193) rfl)) rfl), li_X12_layDist, lv_X12_layDist⟩
theorem fl_X12_87 : x_fl RX12 87 12 31 2 := ⟨RX12, TX12, 53, rfl, by decide, inX12, (x_tbm (tt_5 (List.mem_of_getElem? (i := 146) rfl)) rfl), rfl, by decide⟩
theorem lk_X12_274 : x_lkV RX12 274 yX12_chase cX12_chase 6 (some .int) 1 := ⟨lb_X12_chase, (x_tbm (tt_6 (List.mem_of_getElem? (i := 156) rfl)) rfl), li_X12_chase, lv_X12_chase⟩
theorem fl_X12_253 : x_fl RX12 253 12 34 3 := ⟨RX12, TX12, 53, rfl, by decide, inX12, (x_tbm (tt_5 (List.mem_of_getElem? (i := 149) rfl)) rfl), rfl, by decide⟩
theorem fl_X12_99 : x_fl RX12 99 12 41 2 := ⟨RX12, TX12, 53, rfl, by decide, inX12, (x_tbm (tt_5 (List.mem_of_getElem? (i := 156) rfl)) rfl), rfl, by decide⟩
theorem lk_X12_277 : x_lkV RX12 277 yX12_takeOff cX12_takeOff 4 none 1 := ⟨lb_X12_takeOff, (x_tbm (tt_6 (List.mem_of_getElem? (i := 205) rfl)) rfl), li_X12_takeOff, lv_X12_takeOff⟩
theorem fl_X12_102 : x_fl RX12 102 12 42 2 := ⟨RX12, TX12, 53, rfl, by decide, inX12, (x_tbm (tt_5 (List.mem_of_getElem? (i := 157) rfl)) rfl), rfl, by decide⟩
theorem fl_X12_105 : x_fl RX12 105 12 43 2 := ⟨RX12, TX12, 53, rfl, by decide, inX12, (x_tbm (tt_5 (List.mem_of_getElem? (i := 158) rfl)) rfl), rfl, by decide⟩
theorem lk_X12_280 : x_lkV RX12 280 yX12_layChain cX12_layChain 4 (some .int) 0 := ⟨lb_X12_layChain, (x_tbm (tt_6 (List.mem_of_getElem? (i := 213) rfl)) rfl), li_X12_layChain, lv_X12_layChain⟩
theorem fl_X12_111 : x_fl RX12 111 12 45 2 := ⟨RX12, TX12, 53, rfl, by decide, inX12, (x_tbm (tt_5 (List.mem_of_getElem? (i := 160) rfl)) rfl), rfl, by decide⟩
theorem fl_X12_108 : x_fl RX12 108 12 44 2 := ⟨RX12, TX12, 53, rfl, by decide, inX12, (x_tbm (tt_5 (List.mem_of_getElem? (i := 159) rfl)) rfl), rfl, by decide⟩
theorem lk_X12_283 : x_lkV RX12 283 yX12_putAheadOf cX12_putAheadOf 4 (some .boolean) 1 := ⟨lb_X12_putAheadOf, (x_tbm (tt_6 (List.mem_of_getElem? (i := 221) rfl)) rfl), li_X12_putAheadOf, lv_X12_putAheadOf⟩
theorem lk_X12_286 : x_lkS RX12 286 yX12_isWord cX12_isWord 1 (some .boolean) 1 := ⟨lb_X12_isWord, (x_tbm (tt_6 (List.mem_of_getElem? (i := 229) rfl)) rfl), ls_X12_isWord⟩
theorem co_X12_289 : Cond.constantLong RX12 289 (Int64.ofInt (30)) ∈ x_tb := (x_tbm (tt_6 (List.mem_of_getElem? (i := 232) (by decide +kernel))) rfl)
theorem fl_X12_34 : x_fl RX12 34 12 11 2 := ⟨RX12, TX12, 53, rfl, by decide, inX12, (x_tbm (tt_5 (List.mem_of_getElem? (i := 126) rfl)) rfl), rfl, by decide⟩
theorem fl_X12_37 : x_fl RX12 37 12 12 2 := ⟨RX12, TX12, 53, rfl, by decide, inX12, (x_tbm (tt_5 (List.mem_of_getElem? (i := 127) rfl)) rfl), rfl, by decide⟩
theorem lk_X12_291 : x_lkV RX12 291 yX12_isPeriod cX12_isPeriod 5 (some .boolean) 2 := ⟨lb_X12_isPeriod, (x_tbm (tt_7 (List.mem_of_getElem? (i := 1) rfl)) rfl), li_X12_isPeriod, lv_X12_isPeriod⟩
theorem lk_X12_294 : x_lkV RX12 294 yX12_turnAt cX12_turnAt 4 (some .int) 3 := ⟨lb_X12_turnAt, (x_tbm (tt_7 (List.mem_of_getElem? (i := 9) rfl)) rfl), li_X12_turnAt, lv_X12_turnAt⟩
theorem lk_X12_298 : x_lkV RX12 298 yX12_isAheadOf cX12_isAheadOf 6 (some .boolean) 4 := ⟨lb_X12_isAheadOf, (x_tbm (tt_7 (List.mem_of_getElem? (i := 21) rfl)) rfl), li_X12_isAheadOf, lv_X12_isAheadOf⟩
theorem lk_X12_302 : x_lkV RX12 302 yX12_partFrom cX12_partFrom 7 (some .int) 2 := ⟨lb_X12_partFrom, (x_tbm (tt_7 (List.mem_of_getElem? (i := 17) rfl)) rfl), li_X12_partFrom, lv_X12_partFrom⟩
theorem lk_X12_305 : x_lkV RX12 305 yX12_leastPeriod cX12_leastPeriod 4 (some .int) 2 := ⟨lb_X12_leastPeriod, (x_tbm (tt_6 (List.mem_of_getElem? (i := 237) rfl)) rfl), li_X12_leastPeriod, lv_X12_leastPeriod⟩
theorem lk_X12_309 : x_lkV RX12 309 yX12_leastTurn cX12_leastTurn 5 (some .int) 1 := ⟨lb_X12_leastTurn, (x_tbm (tt_7 (List.mem_of_getElem? (i := 5) rfl)) rfl), li_X12_leastTurn, lv_X12_leastTurn⟩
theorem lk_X12_312 : x_lkV RX12 312 yX12_parts cX12_parts 4 (some .int) 1 := ⟨lb_X12_parts, (x_tbm (tt_7 (List.mem_of_getElem? (i := 13) rfl)) rfl), li_X12_parts, lv_X12_parts⟩
theorem lk_X12_315 : x_lkV RX12 315 yX12_behind cX12_behind 4 (some .int) 3 := ⟨lb_X12_behind, (x_tbm (tt_7 (List.mem_of_getElem? (i := 33) rfl)) rfl), li_X12_behind, lv_X12_behind⟩
theorem co_X12_318 : Cond.constantLong RX12 318 (Int64.ofInt (60)) ∈ x_tb := (x_tbm (tt_7 (List.mem_of_getElem? (i := 45) (by decide +kernel))) rfl)
theorem co_X12_320 : Cond.constantLong RX12 320 (Int64.ofInt (-1)) ∈ x_tb := (x_tbm (tt_7 (List.mem_of_getElem? (i := 46) (by decide +kernel))) rfl)
theorem fl_X12_114 : x_fl RX12 114 12 46 2 := ⟨RX12, TX12, 53, rfl, by decide, inX12, (x_tbm (tt_5 (List.mem_of_getElem? (i := 161) rfl)) rfl), rfl, by decide⟩
theorem lk_X12_322 : x_lkV RX12 322 yX12_lower cX12_lower 3 (some .boolean) 2 := ⟨lb_X12_lower, (x_tbm (tt_7 (List.mem_of_getElem? (i := 47) rfl)) rfl), li_X12_lower, lv_X12_lower⟩
theorem lk_X12_325 : x_lkS RX12 325 yX12_isPattern cX12_isPattern 1 (some .boolean) 1 := ⟨lb_X12_isPattern, (x_tbm (tt_7 (List.mem_of_getElem? (i := 55) rfl)) rfl), ls_X12_isPattern⟩
theorem fl_X12_40 : x_fl RX12 40 12 13 2 := ⟨RX12, TX12, 53, rfl, by decide, inX12, (x_tbm (tt_5 (List.mem_of_getElem? (i := 128) rfl)) rfl), rfl, by decide⟩
theorem fl_X12_43 : x_fl RX12 43 12 14 2 := ⟨RX12, TX12, 53, rfl, by decide, inX12, (x_tbm (tt_5 (List.mem_of_getElem? (i := 129) rfl)) rfl), rfl, by decide⟩
theorem fl_X12_126 : x_fl RX12 126 12 52 2 := ⟨RX12, TX12, 53, rfl, by decide, inX12, (x_tbm (tt_5 (List.mem_of_getElem? (i := 167) rfl)) rfl), rfl, by decide⟩
theorem fl_X12_328 : x_fl RX12 328 12 50 0 := ⟨RX12, TX12, 53, rfl, by decide, inX12, (x_tbm (tt_5 (List.mem_of_getElem? (i := 165) rfl)) rfl), rfl, by decide⟩
theorem fl_X12_120 : x_fl RX12 120 12 49 2 := ⟨RX12, TX12, 53, rfl, by decide, inX12, (x_tbm (tt_5 (List.mem_of_getElem? (i := 164) rfl)) rfl), rfl, by decide⟩
theorem fl_X12_331 : x_fl RX12 331 12 48 0 := ⟨RX12, TX12, 53, rfl, by decide, inX12, (x_tbm (tt_5 (List.mem_of_getElem? (i := 163) rfl)) rfl), rfl, by decide⟩
theorem fl_X12_117 : x_fl RX12 117 12 47 2 := ⟨RX12, TX12, 53, rfl, by decide, inX12, (x_tbm (tt_5 (List.mem_of_getElem? (i := 162) rfl)) rfl), rfl, by decide⟩
theorem fl_X12_123 : x_fl RX12 123 12 51 2 := ⟨RX12, TX12, 53, rfl, by decide, inX12, (x_tbm (tt_5 (List.mem_of_getElem? (i := 166) rfl)) rfl), rfl, by decide⟩
theorem lk_X12_334 : x_lkV RX12 334 yX12_countOf cX12_countOf 4 (some .int) 1 := ⟨lb_X12_countOf, (x_tbm (tt_7 (List.mem_of_getElem? (i := 70) rfl)) rfl), li_X12_countOf, lv_X12_countOf⟩
theorem lk_X12_337 : x_lkV RX12 337 yX12_isGoal cX12_isGoal 6 (some .boolean) 0 := ⟨lb_X12_isGoal, (x_tbm (tt_7 (List.mem_of_getElem? (i := 74) rfl)) rfl), li_X12_isGoal, lv_X12_isGoal⟩
theorem lk_X12_340 : x_lkV RX12 340 yX12_nextPut cX12_nextPut 5 (some .boolean) 2 := ⟨lb_X12_nextPut, (x_tbm (tt_7 (List.mem_of_getElem? (i := 78) rfl)) rfl), li_X12_nextPut, lv_X12_nextPut⟩
theorem fp_X12_328 : x_fp RX12 328 12 50 0 false := ⟨RX12, TX12, 53, tyX12, rfl, by decide, inX12, (x_tbm (tt_5 (List.mem_of_getElem? (i := 165) rfl)) rfl), rfl, by decide, tyX12_ok, nmX12, rfl, Or.inl ⟨rfl, rfl⟩, fun _ => by decide +kernel⟩
theorem lk_X12_343 : x_lkV RX12 343 yX12_layForm cX12_layForm 3 none 1 := ⟨lb_X12_layForm, (x_tbm (tt_7 (List.mem_of_getElem? (i := 62) rfl)) rfl), li_X12_layForm, lv_X12_layForm⟩
theorem fp_X12_331 : x_fp RX12 331 12 48 0 false := ⟨RX12, TX12, 53, tyX12, rfl, by decide, inX12, (x_tbm (tt_5 (List.mem_of_getElem? (i := 163) rfl)) rfl), rfl, by decide, tyX12_ok, nmX12, rfl, Or.inl ⟨rfl, rfl⟩, fun _ => by decide +kernel⟩
theorem lk_X12_346 : x_lkV RX12 346 yX12_waysOf cX12_waysOf 8 (some .int) 0 := ⟨lb_X12_waysOf, (x_tbm (tt_7 (List.mem_of_getElem? (i := 66) rfl)) rfl), li_X12_waysOf, lv_X12_waysOf⟩
theorem fl_X12_349 : x_fl RX12 349 12 17 0 := ⟨RX12, TX12, 53, rfl, by decide, inX12, (x_tbm (tt_5 (List.mem_of_getElem? (i := 132) rfl)) rfl), rfl, by decide⟩
theorem fl_X12_46 : x_fl RX12 46 12 15 2 := ⟨RX12, TX12, 53, rfl, by decide, inX12, (x_tbm (tt_5 (List.mem_of_getElem? (i := 130) rfl)) rfl), rfl, by decide⟩
theorem fl_X12_49 : x_fl RX12 49 12 16 2 := ⟨RX12, TX12, 53, rfl, by decide, inX12, (x_tbm (tt_5 (List.mem_of_getElem? (i := 131) rfl)) rfl), rfl, by decide⟩
theorem fp_X12_349 : x_fp RX12 349 12 17 0 false := ⟨RX12, TX12, 53, tyX12, rfl, by decide, inX12, (x_tbm (tt_5 (List.mem_of_getElem? (i := 132) rfl)) rfl), rfl, by decide, tyX12_ok, nmX12, rfl, Or.inl ⟨rfl, rfl⟩, fun _ => by decide +kernel⟩
theorem lk_X12_352 : x_lkV RX12 352 yX12_makesAll cX12_makesAll 4 (some .boolean) 0 := ⟨lb_X12_makesAll, (x_tbm (tt_7 (List.mem_of_getElem? (i := 98) rfl)) rfl), li_X12_makesAll, lv_X12_makesAll⟩
theorem co_J6_265 : Cond.constant RJ6 265 (Int32.ofInt 1431655765) ∈ x_tb := (x_tbm (tt_3 (List.mem_of_getElem? (i := 19) (by decide +kernel))) rfl)
theorem co_J6_266 : Cond.constant RJ6 266 (Int32.ofInt 858993459) ∈ x_tb := (x_tbm (tt_3 (List.mem_of_getElem? (i := 20) (by decide +kernel))) rfl)
theorem co_J6_267 : Cond.constant RJ6 267 (Int32.ofInt 252645135) ∈ x_tb := (x_tbm (tt_3 (List.mem_of_getElem? (i := 21) (by decide +kernel))) rfl)
theorem lc_new_L_7 : Cond.classLink RL 7 "TwoSides" ∈ x_tb := (x_tbm (tt_1 (List.mem_of_getElem? (i := 18) rfl)) rfl)
theorem lk_L_9 : x_lkI RL 9 yX11_init cX11_init 2 0 := ⟨lb_X11_init, (x_tbm (tt_1 (List.mem_of_getElem? (i := 20) rfl)) rfl), rfl, li_X11_init⟩
theorem lc_new_L_10 : Cond.classLink RL 10 "TwoSidesModel" ∈ x_tb := (x_tbm (tt_5 (List.mem_of_getElem? (i := 108) rfl)) rfl)
theorem lk_L_12 : x_lkI RL 12 yX12_init cX12_init 1 0 := ⟨lb_X12_init, (x_tbm (tt_5 (List.mem_of_getElem? (i := 110) rfl)) rfl), rfl, li_X12_init⟩
theorem co_L_13 : Cond.constantLong RL 13 (Int64.ofInt (4294967295)) ∈ x_tb := (x_tbm (tt_7 (List.mem_of_getElem? (i := 106) (by decide +kernel))) rfl)
theorem lk_L_15 : x_lkV RL 15 yX11_write cX11_write 5 (some .int) 2 := ⟨lb_X11_write, (x_tbm (tt_2 (List.mem_of_getElem? (i := 45) rfl)) rfl), li_X11_write, lv_X11_write⟩
theorem lk_L_19 : x_lkV RL 19 yX12_write cX12_write 5 (some .int) 2 := ⟨lb_X12_write, (x_tbm (tt_6 (List.mem_of_getElem? (i := 35) rfl)) rfl), li_X12_write, lv_X12_write⟩
theorem lk_L_20 : x_lkV RL 20 yX11_erase cX11_erase 2 (some .int) 0 := ⟨lb_X11_erase, (x_tbm (tt_2 (List.mem_of_getElem? (i := 62) rfl)) rfl), li_X11_erase, lv_X11_erase⟩
theorem lk_L_24 : x_lkV RL 24 yX12_erase cX12_erase 2 (some .int) 0 := ⟨lb_X12_erase, (x_tbm (tt_6 (List.mem_of_getElem? (i := 44) rfl)) rfl), li_X12_erase, lv_X12_erase⟩
theorem lk_L_25 : x_lkV RL 25 yX11_fault cX11_fault 1 (some .int) 0 := ⟨lb_X11_fault, (x_tbm (tt_2 (List.mem_of_getElem? (i := 70) rfl)) rfl), li_X11_fault, lv_X11_fault⟩
theorem lk_L_28 : x_lkV RL 28 yX12_fault cX12_fault 7 (some .int) 0 := ⟨lb_X12_fault, (x_tbm (tt_6 (List.mem_of_getElem? (i := 48) rfl)) rfl), li_X12_fault, lv_X12_fault⟩
theorem lk_L_29 : x_lkV RL 29 yX11_take cX11_take 1 (some .int) 0 := ⟨lb_X11_take, (x_tbm (tt_2 (List.mem_of_getElem? (i := 81) rfl)) rfl), li_X11_take, lv_X11_take⟩
theorem lk_L_32 : x_lkV RL 32 yX12_take cX12_take 3 (some .int) 0 := ⟨lb_X12_take, (x_tbm (tt_6 (List.mem_of_getElem? (i := 55) rfl)) rfl), li_X12_take, lv_X12_take⟩
theorem lk_L_33 : x_lkV RL 33 yX11_item cX11_item 4 (some .int) 3 := ⟨lb_X11_item, (x_tbm (tt_2 (List.mem_of_getElem? (i := 134) rfl)) rfl), li_X11_item, lv_X11_item⟩
theorem lk_L_37 : x_lkV RL 37 yX12_item cX12_item 4 (some .int) 3 := ⟨lb_X12_item, (x_tbm (tt_6 (List.mem_of_getElem? (i := 60) rfl)) rfl), li_X12_item, lv_X12_item⟩
theorem lk_L_38 : x_lkV RL 38 yX11_bounds cX11_bounds 5 (some .int) 4 := ⟨lb_X11_bounds, (x_tbm (tt_2 (List.mem_of_getElem? (i := 147) rfl)) rfl), li_X11_bounds, lv_X11_bounds⟩
theorem lk_L_42 : x_lkV RL 42 yX12_bounds cX12_bounds 5 (some .int) 4 := ⟨lb_X12_bounds, (x_tbm (tt_6 (List.mem_of_getElem? (i := 68) rfl)) rfl), li_X12_bounds, lv_X12_bounds⟩
theorem lk_L_43 : x_lkV RL 43 yX11_answers cX11_answers 1 (some .int) 0 := ⟨lb_X11_answers, (x_tbm (tt_2 (List.mem_of_getElem? (i := 159) rfl)) rfl), li_X11_answers, lv_X11_answers⟩
theorem lk_L_46 : x_lkV RL 46 yX12_answers cX12_answers 4 (some .int) 0 := ⟨lb_X12_answers, (x_tbm (tt_6 (List.mem_of_getElem? (i := 77) rfl)) rfl), li_X12_answers, lv_X12_answers⟩
theorem lk_L_47 : x_lkV RL 47 yX11_answer cX11_answer 4 (some .int) 3 := ⟨lb_X11_answer, (x_tbm (tt_3 (List.mem_of_getElem? (i := 43) rfl)) rfl), li_X11_answer, lv_X11_answer⟩
theorem lk_L_50 : x_lkV RL 50 yX12_answer cX12_answer 9 (some .int) 3 := ⟨lb_X12_answer, (x_tbm (tt_6 (List.mem_of_getElem? (i := 114) rfl)) rfl), li_X12_answer, lv_X12_answer⟩
theorem lk_L_51 : x_lkV RL 51 yX11_tell cX11_tell 4 (some .int) 3 := ⟨lb_X11_tell, (x_tbm (tt_3 (List.mem_of_getElem? (i := 68) rfl)) rfl), li_X11_tell, lv_X11_tell⟩
theorem lk_L_54 : x_lkV RL 54 yX12_tell cX12_tell 6 (some .int) 3 := ⟨lb_X12_tell, (x_tbm (tt_6 (List.mem_of_getElem? (i := 126) rfl)) rfl), li_X12_tell, lv_X12_tell⟩
theorem lk_L_55 : x_lkV RL 55 yX11_rank cX11_rank 1 (some .int) 0 := ⟨lb_X11_rank, (x_tbm (tt_3 (List.mem_of_getElem? (i := 83) rfl)) rfl), li_X11_rank, lv_X11_rank⟩
theorem lk_L_58 : x_lkV RL 58 yX12_rank cX12_rank 6 (some .int) 0 := ⟨lb_X12_rank, (x_tbm (tt_6 (List.mem_of_getElem? (i := 130) rfl)) rfl), li_X12_rank, lv_X12_rank⟩
theorem lk_L_59 : x_lkV RL 59 yX11_sure cX11_sure 3 (some .int) 2 := ⟨lb_X11_sure, (x_tbm (tt_3 (List.mem_of_getElem? (i := 98) rfl)) rfl), li_X11_sure, lv_X11_sure⟩
theorem lk_L_63 : x_lkV RL 63 yX12_sure cX12_sure 6 (some .int) 2 := ⟨lb_X12_sure, (x_tbm (tt_6 (List.mem_of_getElem? (i := 148) rfl)) rfl), li_X12_sure, lv_X12_sure⟩
theorem lk_L_64 : x_lkV RL 64 yX11_met cX11_met 3 (some .int) 1 := ⟨lb_X11_met, (x_tbm (tt_3 (List.mem_of_getElem? (i := 106) rfl)) rfl), li_X11_met, lv_X11_met⟩
theorem lk_L_68 : x_lkV RL 68 yX12_met cX12_met 3 (some .int) 1 := ⟨lb_X12_met, (x_tbm (tt_6 (List.mem_of_getElem? (i := 152) rfl)) rfl), li_X12_met, lv_X12_met⟩
theorem lk_L_69 : x_lkV RL 69 yX11_fewest cX11_fewest 3 (some .int) 1 := ⟨lb_X11_fewest, (x_tbm (tt_4 (List.mem_of_getElem? (i := 67) rfl)) rfl), li_X11_fewest, lv_X11_fewest⟩
theorem lk_L_72 : x_lkV RL 72 yX12_fewest cX12_fewest 3 (some .int) 1 := ⟨lb_X12_fewest, (x_tbm (tt_6 (List.mem_of_getElem? (i := 197) rfl)) rfl), li_X12_fewest, lv_X12_fewest⟩
theorem lk_L_73 : x_lkV RL 73 yX11_ring cX11_ring 3 (some .int) 1 := ⟨lb_X11_ring, (x_tbm (tt_4 (List.mem_of_getElem? (i := 75) rfl)) rfl), li_X11_ring, lv_X11_ring⟩
theorem lk_L_76 : x_lkV RL 76 yX12_ring cX12_ring 7 (some .int) 1 := ⟨lb_X12_ring, (x_tbm (tt_6 (List.mem_of_getElem? (i := 201) rfl)) rfl), li_X12_ring, lv_X12_ring⟩
theorem lk_L_77 : x_lkV RL 77 yX11_putting cX11_putting 4 (some .int) 2 := ⟨lb_X11_putting, (x_tbm (tt_4 (List.mem_of_getElem? (i := 83) rfl)) rfl), li_X11_putting, lv_X11_putting⟩
theorem lk_L_80 : x_lkV RL 80 yX12_putting cX12_putting 4 (some .int) 2 := ⟨lb_X12_putting, (x_tbm (tt_6 (List.mem_of_getElem? (i := 209) rfl)) rfl), li_X12_putting, lv_X12_putting⟩
theorem lk_L_81 : x_lkV RL 81 yX11_found cX11_found 5 (some .int) 3 := ⟨lb_X11_found, (x_tbm (tt_4 (List.mem_of_getElem? (i := 91) rfl)) rfl), li_X11_found, lv_X11_found⟩
theorem lk_L_84 : x_lkV RL 84 yX12_found cX12_found 7 (some .int) 3 := ⟨lb_X12_found, (x_tbm (tt_6 (List.mem_of_getElem? (i := 217) rfl)) rfl), li_X12_found, lv_X12_found⟩
theorem lk_L_85 : x_lkV RL 85 yX11_word cX11_word 5 (some .int) 3 := ⟨lb_X11_word, (x_tbm (tt_4 (List.mem_of_getElem? (i := 117) rfl)) rfl), li_X11_word, lv_X11_word⟩
theorem lk_L_89 : x_lkV RL 89 yX12_word cX12_word 7 (some .int) 3 := ⟨lb_X12_word, (x_tbm (tt_6 (List.mem_of_getElem? (i := 225) rfl)) rfl), li_X12_word, lv_X12_word⟩
theorem lk_L_90 : x_lkV RL 90 yX11_of cX11_of 4 (some .int) 2 := ⟨lb_X11_of, (x_tbm (tt_4 (List.mem_of_getElem? (i := 128) rfl)) rfl), li_X11_of, lv_X11_of⟩
theorem lk_L_93 : x_lkV RL 93 yX12_of cX12_of 5 (some .int) 2 := ⟨lb_X12_of, (x_tbm (tt_6 (List.mem_of_getElem? (i := 233) rfl)) rfl), li_X12_of, lv_X12_of⟩
theorem lk_L_94 : x_lkV RL 94 yX11_part cX11_part 3 (some .int) 2 := ⟨lb_X11_part, (x_tbm (tt_4 (List.mem_of_getElem? (i := 172) rfl)) rfl), li_X11_part, lv_X11_part⟩
theorem lk_L_97 : x_lkV RL 97 yX12_part cX12_part 5 (some .int) 2 := ⟨lb_X12_part, (x_tbm (tt_7 (List.mem_of_getElem? (i := 25) rfl)) rfl), li_X12_part, lv_X12_part⟩
theorem lk_L_98 : x_lkV RL 98 yX11_agree cX11_agree 3 (some .int) 2 := ⟨lb_X11_agree, (x_tbm (tt_4 (List.mem_of_getElem? (i := 180) rfl)) rfl), li_X11_agree, lv_X11_agree⟩
theorem lk_L_101 : x_lkV RL 101 yX12_agree cX12_agree 5 (some .int) 2 := ⟨lb_X12_agree, (x_tbm (tt_7 (List.mem_of_getElem? (i := 29) rfl)) rfl), li_X12_agree, lv_X12_agree⟩
theorem lk_L_102 : x_lkV RL 102 yX11_turned cX11_turned 3 (some .int) 2 := ⟨lb_X11_turned, (x_tbm (tt_4 (List.mem_of_getElem? (i := 188) rfl)) rfl), li_X11_turned, lv_X11_turned⟩
theorem lk_L_105 : x_lkV RL 105 yX12_turned cX12_turned 6 (some .int) 2 := ⟨lb_X12_turned, (x_tbm (tt_7 (List.mem_of_getElem? (i := 37) rfl)) rfl), li_X12_turned, lv_X12_turned⟩
theorem lk_L_106 : x_lkV RL 106 yX11_classes cX11_classes 5 (some .int) 4 := ⟨lb_X11_classes, (x_tbm (tt_4 (List.mem_of_getElem? (i := 200) rfl)) rfl), li_X11_classes, lv_X11_classes⟩
theorem lk_L_109 : x_lkV RL 109 yX12_classes cX12_classes 9 (some .int) 4 := ⟨lb_X12_classes, (x_tbm (tt_7 (List.mem_of_getElem? (i := 41) rfl)) rfl), li_X12_classes, lv_X12_classes⟩
theorem lk_L_110 : x_lkV RL 110 yX11_pattern cX11_pattern 2 (some .int) 1 := ⟨lb_X11_pattern, (x_tbm (tt_4 (List.mem_of_getElem? (i := 215) rfl)) rfl), li_X11_pattern, lv_X11_pattern⟩
theorem lk_L_113 : x_lkV RL 113 yX12_pattern cX12_pattern 5 (some .int) 1 := ⟨lb_X12_pattern, (x_tbm (tt_7 (List.mem_of_getElem? (i := 51) rfl)) rfl), li_X12_pattern, lv_X12_pattern⟩
theorem lk_L_114 : x_lkV RL 114 yX11_makes cX11_makes 3 (some .int) 2 := ⟨lb_X11_makes, (x_tbm (tt_4 (List.mem_of_getElem? (i := 229) rfl)) rfl), li_X11_makes, lv_X11_makes⟩
theorem lk_L_117 : x_lkV RL 117 yX12_makes cX12_makes 4 (some .int) 2 := ⟨lb_X12_makes, (x_tbm (tt_7 (List.mem_of_getElem? (i := 58) rfl)) rfl), li_X12_makes, lv_X12_makes⟩
theorem lk_L_118 : x_lkV RL 118 yX11_carries cX11_carries 3 (some .int) 2 := ⟨lb_X11_carries, (x_tbm (tt_5 (List.mem_of_getElem? (i := 20) rfl)) rfl), li_X11_carries, lv_X11_carries⟩
theorem lk_L_121 : x_lkV RL 121 yX12_carries cX12_carries 4 (some .int) 2 := ⟨lb_X12_carries, (x_tbm (tt_7 (List.mem_of_getElem? (i := 82) rfl)) rfl), li_X12_carries, lv_X12_carries⟩
theorem lk_L_122 : x_lkV RL 122 yX11_sample cX11_sample 3 (some .int) 2 := ⟨lb_X11_sample, (x_tbm (tt_5 (List.mem_of_getElem? (i := 29) rfl)) rfl), li_X11_sample, lv_X11_sample⟩
theorem lk_L_125 : x_lkV RL 125 yX12_sample cX12_sample 5 (some .int) 2 := ⟨lb_X12_sample, (x_tbm (tt_7 (List.mem_of_getElem? (i := 86) rfl)) rfl), li_X12_sample, lv_X12_sample⟩
theorem lk_L_126 : x_lkV RL 126 yX11_clear cX11_clear 2 (some .int) 0 := ⟨lb_X11_clear, (x_tbm (tt_5 (List.mem_of_getElem? (i := 48) rfl)) rfl), li_X11_clear, lv_X11_clear⟩
theorem lk_L_129 : x_lkV RL 129 yX12_clear cX12_clear 2 (some .int) 0 := ⟨lb_X12_clear, (x_tbm (tt_7 (List.mem_of_getElem? (i := 90) rfl)) rfl), li_X12_clear, lv_X12_clear⟩
theorem lk_L_130 : x_lkV RL 130 yX11_common cX11_common 2 (some .int) 1 := ⟨lb_X11_common, (x_tbm (tt_5 (List.mem_of_getElem? (i := 56) rfl)) rfl), li_X11_common, lv_X11_common⟩
theorem lk_L_133 : x_lkV RL 133 yX12_common cX12_common 7 (some .int) 1 := ⟨lb_X12_common, (x_tbm (tt_7 (List.mem_of_getElem? (i := 94) rfl)) rfl), li_X12_common, lv_X12_common⟩
theorem lk_L_134 : x_lkV RL 134 yX11_count cX11_count 2 (some .int) 1 := ⟨lb_X11_count, (x_tbm (tt_5 (List.mem_of_getElem? (i := 95) rfl)) rfl), li_X11_count, lv_X11_count⟩
theorem lk_L_137 : x_lkV RL 137 yX12_count cX12_count 4 (some .int) 1 := ⟨lb_X12_count, (x_tbm (tt_7 (List.mem_of_getElem? (i := 102) rfl)) rfl), li_X12_count, lv_X12_count⟩
theorem li_O : Cond.instanceMethod Lib.objectInit ∈ x_tb := (x_tbm (tt_1 (List.mem_of_getElem? (i := 24) rfl)) rfl)
theorem lb_O : Cond.code Lib.objectInit ⟨#[0xb1]⟩ 1 none ∈ x_tb := (x_tbm (tt_1 (List.mem_of_getElem? (i := 25) rfl)) rfl)
theorem ls_cpy : Cond.static arraycopyName ∈ x_tb := (x_tbm (tt_4 (List.mem_of_getElem? (i := 111) rfl)) rfl)
theorem ln_cpy : Cond.native arraycopyName ∈ x_tb := (x_tbm (tt_4 (List.mem_of_getElem? (i := 112) rfl)) rfl)
theorem ln_X11 : Cond.instantiable RX11 8 ∈ x_tb := (x_tbm (tt_1 (List.mem_of_getElem? (i := 19) rfl)) rfl)
theorem ln_X9 : Cond.instantiable RX9 2 ∈ x_tb := (x_tbm (tt_1 (List.mem_of_getElem? (i := 27) rfl)) rfl)
theorem ln_X3 : Cond.instantiable RX3 2 ∈ x_tb := (x_tbm (tt_1 (List.mem_of_getElem? (i := 41) rfl)) rfl)
theorem ln_X8 : Cond.instantiable RX8 6 ∈ x_tb := (x_tbm (tt_1 (List.mem_of_getElem? (i := 48) rfl)) rfl)
theorem ln_X1 : Cond.instantiable RX1 14 ∈ x_tb := (x_tbm (tt_1 (List.mem_of_getElem? (i := 80) rfl)) rfl)
theorem ln_X4 : Cond.instantiable RX4 7 ∈ x_tb := (x_tbm (tt_1 (List.mem_of_getElem? (i := 86) rfl)) rfl)
theorem ln_X0 : Cond.instantiable RX0 3 ∈ x_tb := (x_tbm (tt_1 (List.mem_of_getElem? (i := 92) rfl)) rfl)
theorem ln_X2 : Cond.instantiable RX2 9 ∈ x_tb := (x_tbm (tt_1 (List.mem_of_getElem? (i := 177) rfl)) rfl)
theorem ln_X7 : Cond.instantiable RX7 7 ∈ x_tb := (x_tbm (tt_1 (List.mem_of_getElem? (i := 219) rfl)) rfl)
theorem ln_X10 : Cond.instantiable RX10 2 ∈ x_tb := (x_tbm (tt_2 (List.mem_of_getElem? (i := 7) rfl)) rfl)
theorem ln_X5 : Cond.instantiable RX5 17 ∈ x_tb := (x_tbm (tt_3 (List.mem_of_getElem? (i := 117) rfl)) rfl)
theorem ln_X6 : Cond.instantiable RX6 5 ∈ x_tb := (x_tbm (tt_3 (List.mem_of_getElem? (i := 123) rfl)) rfl)
theorem ln_X12 : Cond.instantiable RX12 53 ∈ x_tb := (x_tbm (tt_5 (List.mem_of_getElem? (i := 109) rfl)) rfl)
theorem lt_L : Cond.initialized RL ∈ x_tb := (x_tbm (tt_1 (List.mem_of_getElem? (i := 0) rfl)) rfl)
theorem lt_X11 : Cond.initialized RX11 ∈ x_tb := (x_tbm (tt_1 (List.mem_of_getElem? (i := 1) rfl)) rfl)
theorem lt_X9 : Cond.initialized RX9 ∈ x_tb := (x_tbm (tt_1 (List.mem_of_getElem? (i := 2) rfl)) rfl)
theorem lt_X3 : Cond.initialized RX3 ∈ x_tb := (x_tbm (tt_1 (List.mem_of_getElem? (i := 3) rfl)) rfl)
theorem lt_X8 : Cond.initialized RX8 ∈ x_tb := (x_tbm (tt_1 (List.mem_of_getElem? (i := 4) rfl)) rfl)
theorem lt_X1 : Cond.initialized RX1 ∈ x_tb := (x_tbm (tt_1 (List.mem_of_getElem? (i := 5) rfl)) rfl)
theorem lt_X4 : Cond.initialized RX4 ∈ x_tb := (x_tbm (tt_1 (List.mem_of_getElem? (i := 6) rfl)) rfl)
theorem lt_X0 : Cond.initialized RX0 ∈ x_tb := (x_tbm (tt_1 (List.mem_of_getElem? (i := 7) rfl)) rfl)
theorem lt_J7 : Cond.initialized RJ7 ∈ x_tb := (x_tbm (tt_1 (List.mem_of_getElem? (i := 8) rfl)) rfl)
theorem lt_X2 : Cond.initialized RX2 ∈ x_tb := (x_tbm (tt_1 (List.mem_of_getElem? (i := 9) rfl)) rfl)
theorem lt_X7 : Cond.initialized RX7 ∈ x_tb := (x_tbm (tt_1 (List.mem_of_getElem? (i := 10) rfl)) rfl)
theorem lt_X10 : Cond.initialized RX10 ∈ x_tb := (x_tbm (tt_1 (List.mem_of_getElem? (i := 11) rfl)) rfl)
theorem lt_X12 : Cond.initialized RX12 ∈ x_tb := (x_tbm (tt_1 (List.mem_of_getElem? (i := 12) rfl)) rfl)
theorem lt_J9 : Cond.initialized RJ9 ∈ x_tb := (x_tbm (tt_1 (List.mem_of_getElem? (i := 13) rfl)) rfl)
theorem lt_J6 : Cond.initialized RJ6 ∈ x_tb := (x_tbm (tt_1 (List.mem_of_getElem? (i := 14) rfl)) rfl)
theorem lt_X5 : Cond.initialized RX5 ∈ x_tb := (x_tbm (tt_1 (List.mem_of_getElem? (i := 15) rfl)) rfl)
theorem lt_X6 : Cond.initialized RX6 ∈ x_tb := (x_tbm (tt_1 (List.mem_of_getElem? (i := 16) rfl)) rfl)
theorem lt_J10 : Cond.initialized RJ10 ∈ x_tb := (x_tbm (tt_1 (List.mem_of_getElem? (i := 17) rfl)) rfl)
