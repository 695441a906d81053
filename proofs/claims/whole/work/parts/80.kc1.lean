/-! THE CONSTRUCTORS, 1: the small ones of the class -/
section Kc1
def ky (c : String) : MethodName := ⟨c, "<init>", "()V"⟩
def kw (y : MethodName) (b : ByteArray) (L : Nat) : List Cond := .code y b L none :: en_all
theorem kw_good {y y' : MethodName} {b b' : ByteArray} {L L' : Nat} (h : Cond.code y' b' L' none ∈ en_all) : GoodIn (kw y b L) (kw y' b' L') := fun w hw => by
  rcases List.mem_cons.mp hw with rfl | hw
  · exact ⟨List.mem_cons_of_mem _ h, en_good _ h⟩
  · exact ⟨List.mem_cons_of_mem _ hw, en_good _ hw⟩
theorem ko_i : Cond.instanceMethod objectInit ∈ en_all := en_all_m 71 (by decide +kernel) (by decide +kernel)
theorem ko_c : Cond.code objectInit ⟨#[0xb1]⟩ 1 none ∈ en_all := en_all_m 72 (by decide +kernel) (by decide +kernel)
theorem ko_ai : Cond.arrayClass .int ∈ en_all := en_all_m 94 (by decide +kernel) (by decide +kernel)
theorem ko_az : Cond.arrayClass .boolean ∈ en_all := en_all_m 808 (by decide +kernel) (by decide +kernel)
theorem en_all_lay (c : Nat) (h : c < 8) (w : Cond) (hw : w ∈ u_ws (en_cn c) (en_Ft c) (en_N c)) : w ∈ en_all := List.mem_filter.mpr (en_lays_ok c h w hw)
theorem ko_bus_o : Cond.methodLink "PluggedBus" 1 objectInit ∈ en_all := en_all_m 70 (by decide +kernel) (by decide +kernel)
theorem ko_bus_c : Cond.code (ky "PluggedBus") prog_1_method_1_code 2 none ∈ en_all := en_all_m 69 (by decide +kernel) (by decide +kernel)
theorem ko_bus_m : Cond.instanceMethod (ky "PluggedBus") ∈ en_all := en_all_m 68 (by decide +kernel) (by decide +kernel)
theorem ko_bus_n : Cond.initialized "PluggedBus" ∈ en_all := en_all_m 57 (by decide +kernel) (by decide +kernel)
theorem ko_bus_t : Cond.instantiable "PluggedBus" 8 ∈ en_all := en_all_m 66 (by decide +kernel) (by decide +kernel)
theorem ko_bus_l (w : Cond) (hw : w ∈ u_ws (en_cn 0) (en_Ft 0) (en_N 0)) : w ∈ en_all := en_all_lay 0 (by omega) w hw
theorem ko_port_o : Cond.methodLink "PluggedBus$Port" 3 objectInit ∈ en_all := en_all_m 116 (by decide +kernel) (by decide +kernel)
theorem ko_port_c : Cond.code (ky "PluggedBus$Port") prog_7_method_1_code 1 none ∈ en_all := en_all_m 115 (by decide +kernel) (by decide +kernel)
theorem ko_port_m : Cond.instanceMethod (ky "PluggedBus$Port") ∈ en_all := en_all_m 114 (by decide +kernel) (by decide +kernel)
theorem ko_port_n : Cond.initialized "PluggedBus$Port" ∈ en_all := en_all_m 60 (by decide +kernel) (by decide +kernel)
theorem ko_port_t : Cond.instantiable "PluggedBus$Port" 13 ∈ en_all := en_all_m 112 (by decide +kernel) (by decide +kernel)
theorem ko_port_l (w : Cond) (hw : w ∈ u_ws (en_cn 1) (en_Ft 1) (en_N 1)) : w ∈ en_all := en_all_lay 1 (by omega) w hw
theorem ko_dev_o : Cond.methodLink "PluggedBus$Device" 3 objectInit ∈ en_all := en_all_m 122 (by decide +kernel) (by decide +kernel)
theorem ko_dev_c : Cond.code (ky "PluggedBus$Device") prog_2_method_1_code 1 none ∈ en_all := en_all_m 121 (by decide +kernel) (by decide +kernel)
theorem ko_dev_m : Cond.instanceMethod (ky "PluggedBus$Device") ∈ en_all := en_all_m 120 (by decide +kernel) (by decide +kernel)
theorem ko_dev_n : Cond.initialized "PluggedBus$Device" ∈ en_all := en_all_m 61 (by decide +kernel) (by decide +kernel)
theorem ko_dev_t : Cond.instantiable "PluggedBus$Device" 13 ∈ en_all := en_all_m 118 (by decide +kernel) (by decide +kernel)
theorem ko_dev_l (w : Cond) (hw : w ∈ u_ws (en_cn 2) (en_Ft 2) (en_N 2)) : w ∈ en_all := en_all_lay 2 (by omega) w hw
theorem ko_disk_o : Cond.methodLink "PluggedBus$Disk" 3 objectInit ∈ en_all := en_all_m 128 (by decide +kernel) (by decide +kernel)
theorem ko_disk_c : Cond.code (ky "PluggedBus$Disk") prog_3_method_1_code 1 none ∈ en_all := en_all_m 127 (by decide +kernel) (by decide +kernel)
theorem ko_disk_m : Cond.instanceMethod (ky "PluggedBus$Disk") ∈ en_all := en_all_m 126 (by decide +kernel) (by decide +kernel)
theorem ko_disk_n : Cond.initialized "PluggedBus$Disk" ∈ en_all := en_all_m 62 (by decide +kernel) (by decide +kernel)
theorem ko_disk_t : Cond.instantiable "PluggedBus$Disk" 7 ∈ en_all := en_all_m 124 (by decide +kernel) (by decide +kernel)
theorem ko_disk_l (w : Cond) (hw : w ∈ u_ws (en_cn 3) (en_Ft 3) (en_N 3)) : w ∈ en_all := en_all_lay 3 (by omega) w hw
theorem ko_ord_o : Cond.methodLink "PluggedBus$Order" 3 objectInit ∈ en_all := en_all_m 261 (by decide +kernel) (by decide +kernel)
theorem ko_ord_c : Cond.code (ky "PluggedBus$Order") prog_6_method_1_code 1 none ∈ en_all := en_all_m 260 (by decide +kernel) (by decide +kernel)
theorem ko_ord_m : Cond.instanceMethod (ky "PluggedBus$Order") ∈ en_all := en_all_m 259 (by decide +kernel) (by decide +kernel)
theorem ko_ord_n : Cond.initialized "PluggedBus$Order" ∈ en_all := en_all_m 63 (by decide +kernel) (by decide +kernel)
theorem ko_ord_t : Cond.instantiable "PluggedBus$Order" 8 ∈ en_all := en_all_m 257 (by decide +kernel) (by decide +kernel)
theorem ko_ord_l (w : Cond) (hw : w ∈ u_ws (en_cn 4) (en_Ft 4) (en_N 4)) : w ∈ en_all := en_all_lay 4 (by omega) w hw
theorem ko_line_o : Cond.methodLink "PluggedBus$Line" 3 objectInit ∈ en_all := en_all_m 82 (by decide +kernel) (by decide +kernel)
theorem ko_line_c : Cond.code (ky "PluggedBus$Line") prog_5_method_1_code 1 none ∈ en_all := en_all_m 81 (by decide +kernel) (by decide +kernel)
theorem ko_line_m : Cond.instanceMethod (ky "PluggedBus$Line") ∈ en_all := en_all_m 80 (by decide +kernel) (by decide +kernel)
theorem ko_line_n : Cond.initialized "PluggedBus$Line" ∈ en_all := en_all_m 58 (by decide +kernel) (by decide +kernel)
theorem ko_line_t : Cond.instantiable "PluggedBus$Line" 3 ∈ en_all := en_all_m 78 (by decide +kernel) (by decide +kernel)
theorem ko_line_l (w : Cond) (hw : w ∈ u_ws (en_cn 5) (en_Ft 5) (en_N 5)) : w ∈ en_all := en_all_lay 5 (by omega) w hw
theorem ko_key_o : Cond.methodLink "PluggedBus$KeyLog" 3 objectInit ∈ en_all := en_all_m 100 (by decide +kernel) (by decide +kernel)
theorem ko_key_c : Cond.code (ky "PluggedBus$KeyLog") prog_4_method_1_code 1 none ∈ en_all := en_all_m 99 (by decide +kernel) (by decide +kernel)
theorem ko_key_m : Cond.instanceMethod (ky "PluggedBus$KeyLog") ∈ en_all := en_all_m 98 (by decide +kernel) (by decide +kernel)
theorem ko_key_n : Cond.initialized "PluggedBus$KeyLog" ∈ en_all := en_all_m 59 (by decide +kernel) (by decide +kernel)
theorem ko_key_t : Cond.instantiable "PluggedBus$KeyLog" 3 ∈ en_all := en_all_m 96 (by decide +kernel) (by decide +kernel)
theorem ko_key_l (w : Cond) (hw : w ∈ u_ws (en_cn 6) (en_Ft 6) (en_N 6)) : w ∈ en_all := en_all_lay 6 (by omega) w hw
theorem ko_mod_o : Cond.methodLink "PluggedBusModel" 1 objectInit ∈ en_all := en_all_m 665 (by decide +kernel) (by decide +kernel)
theorem ko_mod_c : Cond.code (ky "PluggedBusModel") prog_9_method_1_code 1 none ∈ en_all := en_all_m 664 (by decide +kernel) (by decide +kernel)
theorem ko_mod_m : Cond.instanceMethod (ky "PluggedBusModel") ∈ en_all := en_all_m 663 (by decide +kernel) (by decide +kernel)
theorem ko_mod_n : Cond.initialized "PluggedBusModel" ∈ en_all := en_all_m 64 (by decide +kernel) (by decide +kernel)
theorem ko_mod_t : Cond.instantiable "PluggedBusModel" 47 ∈ en_all := en_all_m 661 (by decide +kernel) (by decide +kernel)
theorem ko_mod_l (w : Cond) (hw : w ∈ u_ws (en_cn 7) (en_Ft 7) (en_N 7)) : w ∈ en_all := en_all_lay 7 (by omega) w hw
theorem kf_disk_content : Cond.fieldLink "PluggedBus$Disk" 9 (en_Ft 3 0).1 (en_Ft 3 0).2.1 (en_Ft 3 0).2.2.1 ∈ en_all := en_all_m 129 (by decide +kernel) (by decide +kernel)
theorem kf_disk_work : Cond.fieldLink "PluggedBus$Disk" 15 (en_Ft 3 4).1 (en_Ft 3 4).2.1 (en_Ft 3 4).2.2.1 ∈ en_all := en_all_m 135 (by decide +kernel) (by decide +kernel)
theorem kf_dev_disk : Cond.fieldLink "PluggedBus$Device" 12 (en_Ft 2 0).1 (en_Ft 2 0).2.1 (en_Ft 2 0).2.2.1 ∈ en_all := en_all_m 153 (by decide +kernel) (by decide +kernel)
theorem kf_dev_codes : Cond.fieldLink "PluggedBus$Device" 18 (en_Ft 2 1).1 (en_Ft 2 1).2.1 (en_Ft 2 1).2.2.1 ∈ en_all := en_all_m 156 (by decide +kernel) (by decide +kernel)
theorem kf_dev_kind : Cond.fieldLink "PluggedBus$Device" 22 (en_Ft 2 3).1 (en_Ft 2 3).2.1 (en_Ft 2 3).2.2.1 ∈ en_all := en_all_m 158 (by decide +kernel) (by decide +kernel)
theorem kf_port_device : Cond.fieldLink "PluggedBus$Port" 12 (en_Ft 1 0).1 (en_Ft 1 0).2.1 (en_Ft 1 0).2.2.1 ∈ en_all := en_all_m 206 (by decide +kernel) (by decide +kernel)
theorem kf_port_view : Cond.fieldLink "PluggedBus$Port" 18 (en_Ft 1 3).1 (en_Ft 1 3).2.1 (en_Ft 1 3).2.2.1 ∈ en_all := en_all_m 211 (by decide +kernel) (by decide +kernel)
theorem kf_ord_numbers : Cond.fieldLink "PluggedBus$Order" 9 (en_Ft 4 0).1 (en_Ft 4 0).2.1 (en_Ft 4 0).2.2.1 ∈ en_all := en_all_m 262 (by decide +kernel) (by decide +kernel)
theorem kf_ord_state : Cond.fieldLink "PluggedBus$Order" 15 (en_Ft 4 7).1 (en_Ft 4 7).2.1 (en_Ft 4 7).2.2.1 ∈ en_all := en_all_m 273 (by decide +kernel) (by decide +kernel)
theorem kf_line_losses : Cond.fieldLink "PluggedBus$Line" 9 (en_Ft 5 0).1 (en_Ft 5 0).2.1 (en_Ft 5 0).2.2.1 ∈ en_all := en_all_m 83 (by decide +kernel) (by decide +kernel)
theorem kf_key_recentKeys : Cond.fieldLink "PluggedBus$KeyLog" 9 (en_Ft 6 0).1 (en_Ft 6 0).2.1 (en_Ft 6 0).2.2.1 ∈ en_all := en_all_m 101 (by decide +kernel) (by decide +kernel)
theorem kf_bus_ports : Cond.fieldLink "PluggedBus" 11 (en_Ft 0 0).1 (en_Ft 0 0).2.1 (en_Ft 0 0).2.2.1 ∈ en_all := en_all_m 292 (by decide +kernel) (by decide +kernel)
theorem kf_bus_orders : Cond.fieldLink "PluggedBus" 17 (en_Ft 0 1).1 (en_Ft 0 1).2.1 (en_Ft 0 1).2.2.1 ∈ en_all := en_all_m 293 (by decide +kernel) (by decide +kernel)
theorem kf_bus_line : Cond.fieldLink "PluggedBus" 24 (en_Ft 0 2).1 (en_Ft 0 2).2.1 (en_Ft 0 2).2.2.1 ∈ en_all := en_all_m 294 (by decide +kernel) (by decide +kernel)
theorem kf_bus_keyLog : Cond.fieldLink "PluggedBus" 31 (en_Ft 0 3).1 (en_Ft 0 3).2.1 (en_Ft 0 3).2.2.1 ∈ en_all := en_all_m 295 (by decide +kernel) (by decide +kernel)
theorem kf_bus_servedLast : Cond.fieldLink "PluggedBus" 35 (en_Ft 0 6).1 (en_Ft 0 6).2.1 (en_Ft 0 6).2.2.1 ∈ en_all := en_all_m 298 (by decide +kernel) (by decide +kernel)
theorem kl_dev_disk : Cond.classLink "PluggedBus$Device" 9 "PluggedBus$Disk" ∈ en_all := en_all_m 123 (by decide +kernel) (by decide +kernel)
theorem kl_port_dev : Cond.classLink "PluggedBus$Port" 9 "PluggedBus$Device" ∈ en_all := en_all_m 117 (by decide +kernel) (by decide +kernel)
theorem kl_bus_port : Cond.classLink "PluggedBus" 9 "PluggedBus$Port" ∈ en_all := en_all_m 73 (by decide +kernel) (by decide +kernel)
theorem kl_bus_ord : Cond.classLink "PluggedBus" 15 "PluggedBus$Order" ∈ en_all := en_all_m 75 (by decide +kernel) (by decide +kernel)
theorem kl_bus_line : Cond.classLink "PluggedBus" 21 "PluggedBus$Line" ∈ en_all := en_all_m 77 (by decide +kernel) (by decide +kernel)
theorem kl_bus_key : Cond.classLink "PluggedBus" 28 "PluggedBus$KeyLog" ∈ en_all := en_all_m 95 (by decide +kernel) (by decide +kernel)
/-- what is known of the tables besides: the int arrays' class, the nest mates, the arrays of ports and orders -/
def kp (cI : ClassId) (U : State) : Prop := U.vm.findClass ("[" ++ FieldType.int.toString) = some cI ∧ va_Nw (.methodLinkNest "PluggedBus$Device" 11 (ky "PluggedBus$Disk") "PluggedBus") U ∧ va_Nw (.methodLinkNest "PluggedBus$Port" 11 (ky "PluggedBus$Device") "PluggedBus") U ∧ va_Nw (.methodLinkNest "PluggedBus" 23 (ky "PluggedBus$Line") "PluggedBus") U ∧ va_Nw (.methodLinkNest "PluggedBus" 30 (ky "PluggedBus$KeyLog") "PluggedBus") U ∧ va_Nw (.methodLinkNest "PluggedBus" 39 (ky "PluggedBus$Port") "PluggedBus") U ∧ va_Nw (.methodLinkNest "PluggedBus" 40 (ky "PluggedBus$Order") "PluggedBus") U ∧ va_AO "PluggedBus$Port" U ∧ va_AO "PluggedBus$Order" U
theorem kp_same {cI : ClassId} {u U : State} (h : u.vm = U.vm) (q : kp cI u) : kp cI U := by
  obtain ⟨q0, q1, q2, q3, q4, q5, q6, q7, q8⟩ := q
  exact ⟨by rw [← h]; exact q0, va_Nw.same rfl h q1, va_Nw.same rfl h q2, va_Nw.same rfl h q3, va_Nw.same rfl h q4, va_Nw.same rfl h q5, va_Nw.same rfl h q6, va_AO.moved (h ▸ Vm.Alike.refl u.vm) q7, va_AO.moved (h ▸ Vm.Alike.refl u.vm) q8⟩
theorem kp_warm {cI : ClassId} {s U : State} (hW : s.WarmedH U.vm) (q : kp cI s) : kp cI U := by
  obtain ⟨q0, q1, q2, q3, q4, q5, q6, q7, q8⟩ := q
  exact ⟨by rw [hW.alike.findClass]; exact q0, va_Nw.warmM hW q1, va_Nw.warmM hW q2, va_Nw.warmM hW q3, va_Nw.warmM hW q4, va_Nw.warmM hW q5, va_Nw.warmM hW q6, va_AO.moved hW.alike q7, va_AO.moved hW.alike q8⟩
theorem kd_dev_0 : decode prog_2_method_1_code 0 = .ok (.aload_n 0, 1) := by decide +kernel
theorem kd_dev_1 : decode prog_2_method_1_code 1 = .ok (.invokespecial 3, 3) := by decide +kernel
theorem kd_dev_4 : decode prog_2_method_1_code 4 = .ok (.aload_n 0, 1) := by decide +kernel
theorem kd_dev_5 : decode prog_2_method_1_code 5 = .ok (.new 9, 3) := by decide +kernel
theorem kd_dev_8 : decode prog_2_method_1_code 8 = .ok (.dup, 1) := by decide +kernel
theorem kd_dev_9 : decode prog_2_method_1_code 9 = .ok (.invokespecial 11, 3) := by decide +kernel
theorem kd_dev_12 : decode prog_2_method_1_code 12 = .ok (.putfield 12, 3) := by decide +kernel
theorem kd_dev_15 : decode prog_2_method_1_code 15 = .ok (.aload_n 0, 1) := by decide +kernel
theorem kd_dev_16 : decode prog_2_method_1_code 16 = .ok (.iconst 4, 1) := by decide +kernel
theorem kd_dev_17 : decode prog_2_method_1_code 17 = .ok (.newarray .int, 2) := by decide +kernel
theorem kd_dev_19 : decode prog_2_method_1_code 19 = .ok (.putfield 18, 3) := by decide +kernel
theorem kd_dev_22 : decode prog_2_method_1_code 22 = .ok (.aload_n 0, 1) := by decide +kernel
theorem kd_dev_23 : decode prog_2_method_1_code 23 = .ok (.iconst 0, 1) := by decide +kernel
theorem kd_dev_24 : decode prog_2_method_1_code 24 = .ok (.putfield 22, 3) := by decide +kernel
theorem kd_dev_27 : decode prog_2_method_1_code 27 = .ok (.return_, 1) := by decide +kernel
theorem kd_disk_0 : decode prog_3_method_1_code 0 = .ok (.aload_n 0, 1) := by decide +kernel
theorem kd_disk_1 : decode prog_3_method_1_code 1 = .ok (.invokespecial 3, 3) := by decide +kernel
theorem kd_disk_4 : decode prog_3_method_1_code 4 = .ok (.aload_n 0, 1) := by decide +kernel
theorem kd_disk_5 : decode prog_3_method_1_code 5 = .ok (.bipush 8, 2) := by decide +kernel
theorem kd_disk_7 : decode prog_3_method_1_code 7 = .ok (.newarray .int, 2) := by decide +kernel
theorem kd_disk_9 : decode prog_3_method_1_code 9 = .ok (.putfield 9, 3) := by decide +kernel
theorem kd_disk_12 : decode prog_3_method_1_code 12 = .ok (.aload_n 0, 1) := by decide +kernel
theorem kd_disk_13 : decode prog_3_method_1_code 13 = .ok (.iconst 0, 1) := by decide +kernel
theorem kd_disk_14 : decode prog_3_method_1_code 14 = .ok (.putfield 15, 3) := by decide +kernel
theorem kd_disk_17 : decode prog_3_method_1_code 17 = .ok (.return_, 1) := by decide +kernel
theorem kd_key_0 : decode prog_4_method_1_code 0 = .ok (.aload_n 0, 1) := by decide +kernel
theorem kd_key_1 : decode prog_4_method_1_code 1 = .ok (.invokespecial 3, 3) := by decide +kernel
theorem kd_key_4 : decode prog_4_method_1_code 4 = .ok (.aload_n 0, 1) := by decide +kernel
theorem kd_key_5 : decode prog_4_method_1_code 5 = .ok (.bipush 8, 2) := by decide +kernel
theorem kd_key_7 : decode prog_4_method_1_code 7 = .ok (.newarray .int, 2) := by decide +kernel
theorem kd_key_9 : decode prog_4_method_1_code 9 = .ok (.putfield 9, 3) := by decide +kernel
theorem kd_key_12 : decode prog_4_method_1_code 12 = .ok (.return_, 1) := by decide +kernel
theorem kd_line_0 : decode prog_5_method_1_code 0 = .ok (.aload_n 0, 1) := by decide +kernel
theorem kd_line_1 : decode prog_5_method_1_code 1 = .ok (.invokespecial 3, 3) := by decide +kernel
theorem kd_line_4 : decode prog_5_method_1_code 4 = .ok (.aload_n 0, 1) := by decide +kernel
theorem kd_line_5 : decode prog_5_method_1_code 5 = .ok (.bipush 40, 2) := by decide +kernel
theorem kd_line_7 : decode prog_5_method_1_code 7 = .ok (.newarray .int, 2) := by decide +kernel
theorem kd_line_9 : decode prog_5_method_1_code 9 = .ok (.putfield 9, 3) := by decide +kernel
theorem kd_line_12 : decode prog_5_method_1_code 12 = .ok (.return_, 1) := by decide +kernel
theorem kd_ord_0 : decode prog_6_method_1_code 0 = .ok (.aload_n 0, 1) := by decide +kernel
theorem kd_ord_1 : decode prog_6_method_1_code 1 = .ok (.invokespecial 3, 3) := by decide +kernel
theorem kd_ord_4 : decode prog_6_method_1_code 4 = .ok (.aload_n 0, 1) := by decide +kernel
theorem kd_ord_5 : decode prog_6_method_1_code 5 = .ok (.iconst 4, 1) := by decide +kernel
theorem kd_ord_6 : decode prog_6_method_1_code 6 = .ok (.newarray .int, 2) := by decide +kernel
theorem kd_ord_8 : decode prog_6_method_1_code 8 = .ok (.putfield 9, 3) := by decide +kernel
theorem kd_ord_11 : decode prog_6_method_1_code 11 = .ok (.aload_n 0, 1) := by decide +kernel
theorem kd_ord_12 : decode prog_6_method_1_code 12 = .ok (.iconst 0, 1) := by decide +kernel
theorem kd_ord_13 : decode prog_6_method_1_code 13 = .ok (.putfield 15, 3) := by decide +kernel
theorem kd_ord_16 : decode prog_6_method_1_code 16 = .ok (.return_, 1) := by decide +kernel
theorem kd_port_0 : decode prog_7_method_1_code 0 = .ok (.aload_n 0, 1) := by decide +kernel
theorem kd_port_1 : decode prog_7_method_1_code 1 = .ok (.invokespecial 3, 3) := by decide +kernel
theorem kd_port_4 : decode prog_7_method_1_code 4 = .ok (.aload_n 0, 1) := by decide +kernel
theorem kd_port_5 : decode prog_7_method_1_code 5 = .ok (.new 9, 3) := by decide +kernel
theorem kd_port_8 : decode prog_7_method_1_code 8 = .ok (.dup, 1) := by decide +kernel
theorem kd_port_9 : decode prog_7_method_1_code 9 = .ok (.invokespecial 11, 3) := by decide +kernel
theorem kd_port_12 : decode prog_7_method_1_code 12 = .ok (.putfield 12, 3) := by decide +kernel
theorem kd_port_15 : decode prog_7_method_1_code 15 = .ok (.aload_n 0, 1) := by decide +kernel
theorem kd_port_16 : decode prog_7_method_1_code 16 = .ok (.iconst 0, 1) := by decide +kernel
theorem kd_port_17 : decode prog_7_method_1_code 17 = .ok (.putfield 18, 3) := by decide +kernel
theorem kd_port_20 : decode prog_7_method_1_code 20 = .ok (.return_, 1) := by decide +kernel
theorem kd_bus_0 : decode prog_1_method_1_code 0 = .ok (.aload_n 0, 1) := by decide +kernel
theorem kd_bus_1 : decode prog_1_method_1_code 1 = .ok (.invokespecial 1, 3) := by decide +kernel
theorem kd_bus_4 : decode prog_1_method_1_code 4 = .ok (.aload_n 0, 1) := by decide +kernel
theorem kd_bus_5 : decode prog_1_method_1_code 5 = .ok (.bipush 6, 2) := by decide +kernel
theorem kd_bus_7 : decode prog_1_method_1_code 7 = .ok (.anewarray 9, 3) := by decide +kernel
theorem kd_bus_10 : decode prog_1_method_1_code 10 = .ok (.putfield 11, 3) := by decide +kernel
theorem kd_bus_13 : decode prog_1_method_1_code 13 = .ok (.aload_n 0, 1) := by decide +kernel
theorem kd_bus_14 : decode prog_1_method_1_code 14 = .ok (.bipush 16, 2) := by decide +kernel
theorem kd_bus_16 : decode prog_1_method_1_code 16 = .ok (.anewarray 15, 3) := by decide +kernel
theorem kd_bus_19 : decode prog_1_method_1_code 19 = .ok (.putfield 17, 3) := by decide +kernel
theorem kd_bus_22 : decode prog_1_method_1_code 22 = .ok (.aload_n 0, 1) := by decide +kernel
theorem kd_bus_23 : decode prog_1_method_1_code 23 = .ok (.new 21, 3) := by decide +kernel
theorem kd_bus_26 : decode prog_1_method_1_code 26 = .ok (.dup, 1) := by decide +kernel
theorem kd_bus_27 : decode prog_1_method_1_code 27 = .ok (.invokespecial 23, 3) := by decide +kernel
theorem kd_bus_30 : decode prog_1_method_1_code 30 = .ok (.putfield 24, 3) := by decide +kernel
theorem kd_bus_33 : decode prog_1_method_1_code 33 = .ok (.aload_n 0, 1) := by decide +kernel
theorem kd_bus_34 : decode prog_1_method_1_code 34 = .ok (.new 28, 3) := by decide +kernel
theorem kd_bus_37 : decode prog_1_method_1_code 37 = .ok (.dup, 1) := by decide +kernel
theorem kd_bus_38 : decode prog_1_method_1_code 38 = .ok (.invokespecial 30, 3) := by decide +kernel
theorem kd_bus_41 : decode prog_1_method_1_code 41 = .ok (.putfield 31, 3) := by decide +kernel
theorem kd_bus_44 : decode prog_1_method_1_code 44 = .ok (.aload_n 0, 1) := by decide +kernel
theorem kd_bus_45 : decode prog_1_method_1_code 45 = .ok (.iconst 5, 1) := by decide +kernel
theorem kd_bus_46 : decode prog_1_method_1_code 46 = .ok (.putfield 35, 3) := by decide +kernel
theorem kd_bus_49 : decode prog_1_method_1_code 49 = .ok (.iconst 0, 1) := by decide +kernel
theorem kd_bus_50 : decode prog_1_method_1_code 50 = .ok (.istore_n 1, 1) := by decide +kernel
theorem kd_bus_51 : decode prog_1_method_1_code 51 = .ok (.iload_n 1, 1) := by decide +kernel
theorem kd_bus_52 : decode prog_1_method_1_code 52 = .ok (.bipush 6, 2) := by decide +kernel
theorem kd_bus_54 : decode prog_1_method_1_code 54 = .ok (.if_icmp .ge 22, 3) := by decide +kernel
theorem kd_bus_57 : decode prog_1_method_1_code 57 = .ok (.aload_n 0, 1) := by decide +kernel
theorem kd_bus_58 : decode prog_1_method_1_code 58 = .ok (.getfield 11, 3) := by decide +kernel
theorem kd_bus_61 : decode prog_1_method_1_code 61 = .ok (.iload_n 1, 1) := by decide +kernel
theorem kd_bus_62 : decode prog_1_method_1_code 62 = .ok (.new 9, 3) := by decide +kernel
theorem kd_bus_65 : decode prog_1_method_1_code 65 = .ok (.dup, 1) := by decide +kernel
theorem kd_bus_66 : decode prog_1_method_1_code 66 = .ok (.invokespecial 39, 3) := by decide +kernel
theorem kd_bus_69 : decode prog_1_method_1_code 69 = .ok (.aastore, 1) := by decide +kernel
theorem kd_bus_70 : decode prog_1_method_1_code 70 = .ok (.iinc 1 1, 3) := by decide +kernel
theorem kd_bus_73 : decode prog_1_method_1_code 73 = .ok (.goto (-22), 3) := by decide +kernel
theorem kd_bus_76 : decode prog_1_method_1_code 76 = .ok (.iconst 0, 1) := by decide +kernel
theorem kd_bus_77 : decode prog_1_method_1_code 77 = .ok (.istore_n 1, 1) := by decide +kernel
theorem kd_bus_78 : decode prog_1_method_1_code 78 = .ok (.iload_n 1, 1) := by decide +kernel
theorem kd_bus_79 : decode prog_1_method_1_code 79 = .ok (.bipush 16, 2) := by decide +kernel
theorem kd_bus_81 : decode prog_1_method_1_code 81 = .ok (.if_icmp .ge 22, 3) := by decide +kernel
theorem kd_bus_84 : decode prog_1_method_1_code 84 = .ok (.aload_n 0, 1) := by decide +kernel
theorem kd_bus_85 : decode prog_1_method_1_code 85 = .ok (.getfield 17, 3) := by decide +kernel
theorem kd_bus_88 : decode prog_1_method_1_code 88 = .ok (.iload_n 1, 1) := by decide +kernel
theorem kd_bus_89 : decode prog_1_method_1_code 89 = .ok (.new 15, 3) := by decide +kernel
theorem kd_bus_92 : decode prog_1_method_1_code 92 = .ok (.dup, 1) := by decide +kernel
theorem kd_bus_93 : decode prog_1_method_1_code 93 = .ok (.invokespecial 40, 3) := by decide +kernel
theorem kd_bus_96 : decode prog_1_method_1_code 96 = .ok (.aastore, 1) := by decide +kernel
theorem kd_bus_97 : decode prog_1_method_1_code 97 = .ok (.iinc 1 1, 3) := by decide +kernel
theorem kd_bus_100 : decode prog_1_method_1_code 100 = .ok (.goto (-22), 3) := by decide +kernel
theorem kd_bus_103 : decode prog_1_method_1_code 103 = .ok (.return_, 1) := by decide +kernel
theorem kz_disk : ∀ j, j < 7 → defaultValue (en_ty 3 j) = vp_V [.null, .int 0, .int 0, .int 0, .int 0, .int 0, .int 0] j := by
  intro j hj
  rcases (show j = 0 ∨ j = 1 ∨ j = 2 ∨ j = 3 ∨ j = 4 ∨ j = 5 ∨ j = 6 by omega) with rfl | rfl | rfl | rfl | rfl | rfl | rfl <;> rfl
theorem kz_dev : ∀ j, j < 13 → defaultValue (en_ty 2 j) = vp_V [.null, .null, .int 0, .int 0, .int 0, .int 0, .int 0, .int 0, .int 0, .int 0, .int 0, .int 0, .int 0] j := by
  intro j hj
  rcases (show j = 0 ∨ j = 1 ∨ j = 2 ∨ j = 3 ∨ j = 4 ∨ j = 5 ∨ j = 6 ∨ j = 7 ∨ j = 8 ∨ j = 9 ∨ j = 10 ∨ j = 11 ∨ j = 12 by omega) with rfl | rfl | rfl | rfl | rfl | rfl | rfl | rfl | rfl | rfl | rfl | rfl | rfl <;> rfl
theorem kz_port : ∀ j, j < 13 → defaultValue (en_ty 1 j) = vp_V [.null, .int 0, .int 0, .int 0, .int 0, .int 0, .int 0, .int 0, .int 0, .int 0, .int 0, .int 0, .int 0] j := by
  intro j hj
  rcases (show j = 0 ∨ j = 1 ∨ j = 2 ∨ j = 3 ∨ j = 4 ∨ j = 5 ∨ j = 6 ∨ j = 7 ∨ j = 8 ∨ j = 9 ∨ j = 10 ∨ j = 11 ∨ j = 12 by omega) with rfl | rfl | rfl | rfl | rfl | rfl | rfl | rfl | rfl | rfl | rfl | rfl | rfl <;> rfl
theorem kz_ord : ∀ j, j < 8 → defaultValue (en_ty 4 j) = vp_V [.null, .int 0, .int 0, .int 0, .int 0, .int 0, .int 0, .int 0] j := by
  intro j hj
  rcases (show j = 0 ∨ j = 1 ∨ j = 2 ∨ j = 3 ∨ j = 4 ∨ j = 5 ∨ j = 6 ∨ j = 7 by omega) with rfl | rfl | rfl | rfl | rfl | rfl | rfl | rfl <;> rfl
theorem kz_line : ∀ j, j < 3 → defaultValue (en_ty 5 j) = vp_V [.null, .int 0, .int 0] j := by
  intro j hj
  rcases (show j = 0 ∨ j = 1 ∨ j = 2 by omega) with rfl | rfl | rfl <;> rfl
theorem kz_key : ∀ j, j < 3 → defaultValue (en_ty 6 j) = vp_V [.null, .int 0, .int 0] j := by
  intro j hj
  rcases (show j = 0 ∨ j = 1 ∨ j = 2 by omega) with rfl | rfl | rfl <;> rfl
set_option maxHeartbeats 4000000 in
set_option maxRecDepth 100000 in
theorem k_disk (l : Launch) (D : va_G) (cI : ClassId) (h0 sz : Nat) : Met l (ky "PluggedBus$Disk") (kw (ky "PluggedBus$Disk") prog_3_method_1_code 1) ({ frames := 1, cells := 1, slots := 8, locals := 12 }) (va_Pc [.ref h0] (fun U => U.heap.size = sz ∧ va_P D en_cl [(h0, .inr (3, [.null, .int 0, .int 0, .int 0, .int 0, .int 0, .int 0]))] U.heap ∧ va_K D en_cl [] U ∧ va_D (fun _ => True) [(h0, .inr (3, [.null, .int 0, .int 0, .int 0, .int 0, .int 0, .int 0]))] ∧ kp cI U)) (va_Qv (fun _ : Nat => True) (fun v t => va_P D en_cl [(h0, .inr (3, [.ref v, .int 0, .int 0, .int 0, .int 0, .int 0, .int 0])), (v, .inl (cI, 8, .inl (fun _ => 0)))] t.heap ∧ va_K D en_cl [(cI, .int)] t ∧ va_D (va_A [(h0, .inr (3, [.null, .int 0, .int 0, .int 0, .int 0, .int 0, .int 0]))] sz) [(h0, .inr (3, [.ref v, .int 0, .int 0, .int 0, .int 0, .int 0, .int 0])), (v, .inl (cI, 8, .inl (fun _ => 0)))]) (va_A [(h0, .inr (3, [.null, .int 0, .int 0, .int 0, .int 0, .int 0, .int 0]))] sz)) 1 8 (va_A [(h0, .inr (3, [.null, .int 0, .int 0, .int 0, .int 0, .int 0, .int 0]))] sz) := by
  refine Met.ofW (cc := prog_3_method_1_code) (maxL := 1) (ret := none) (by decide) rfl ?_
  intro p e s m args below meth c s₁ B hml hv
  obtain ⟨rfl, hsz, hP, hK, hD0, hF⟩ := hv
  have hx := B.exec
  have hb := B.bytes
  have hr := B.returns
  have hts := atoms_spec (ws := kw (ky "PluggedBus$Disk") prog_3_method_1_code 1) B.pre
  have hall : ∀ w ∈ en_all, w.before ([Value.ref h0]).toArray s = true := fun w hw => hts w (List.mem_cons_of_mem _ hw)
  have hown : s.vm.findClass "PluggedBus$Disk" = some m.cls := findClass_of_methodNamed B.named
  have hin : meth.name = "<init>" := (name_of_methodNamed B.named B.method).1
  subst hsz
  have hD := hD0.self (sz := s.heap.size)
  generalize hAe : va_A [(h0, .inr (3, [.null, .int 0, .int 0, .int 0, .int 0, .int 0, .int 0]))] s.heap.size = A at hD ⊢
  have hA : ∀ q : Nat, s.heap.size ≤ q → A q := fun q h => by rw [← hAe]; exact Or.inr h
  have hS : va_S A s.heap s.heap [] := va_S.rf
  have hP : va_P D en_cl [(h0, .inr (3, [.null, .int 0, .int 0, .int 0, .int 0, .int 0, .int 0]))] s.heap := hP
  have hl := lv_entry ([.ref h0]) (n := 1) (Nat.le_of_ble_eq_true rfl)
  rw [lg_entry_eq]
  generalize (lg_sl ([.ref h0]) ++ List.replicate (1 - (lg_sl ([.ref h0])).length) Slot.unset).toArray = ls at hl ⊢
  have hl : lv_has ls 1 [(0, .ref h0)] := hl
  refine lv_aload_n hx hb kd_disk_0 rfl (lv_at hl 0 rfl) ?_
  refine W.objInit hx hb hown (hall _ ko_disk_o) (hall _ ko_i) (hall _ ko_c) rfl (by rw [hml]; exact hl.1) rfl kd_disk_1 (Nat.le_of_ble_eq_true rfl) (Nat.le_of_ble_eq_true rfl) ?_
  refine W.eq (g2 := F0 m 4 ls []) rfl ?_
  refine lv_aload_n hx hb kd_disk_4 rfl (lv_at hl 0 rfl) ?_
  refine lv_bipush (v := 8) hx hb kd_disk_5 (by decide) ?_
  refine va_newa (atype := .int) (ty := .int) (N' := 8) (a0 := (8, .inl (fun _ => 0))) hx hb (hall _ ko_ai) rfl hK hP hD hS hA (fun _ => rfl) (by decide) rfl (by decide) (show 1 ≤ 1 by decide) (show 8 ≤ 8 by decide) kd_disk_7 (fun v cA H hK2 hP hD hS => ?_)
  have ec : cI = cA := Option.some.inj (hF.1.symm.trans (hK2.2 0 _ rfl).2)
  subst ec
  have hK : va_K D en_cl [(cI, .int)] s := hK2
  have hP : va_P D en_cl [(h0, .inr (3, [.null, .int 0, .int 0, .int 0, .int 0, .int 0, .int 0])), (v, .inl (cI, 8, .inl (fun _ => 0)))] H := hP
  have hD : va_D A [(h0, .inr (3, [.null, .int 0, .int 0, .int 0, .int 0, .int 0, .int 0])), (v, .inl (cI, 8, .inl (fun _ => 0)))] := hD
  refine W.widen (k := 1) (n := 8) (by decide) (by decide) ?_
  refine va_putF (D := D) (ci := 3) (v := .ref v) (ty := .array .int) (C := en_cn 3) (T := en_Ft 3) (N := en_N 3) hx hb hts (fun w hw => List.mem_cons_of_mem _ (ko_disk_l w hw)) (en_ty 3) (en_ty_all 3 (by omega)) (en_nm_all 3 (by omega)) hown hK hP hD hS 0 rfl rfl 0 (by decide) (hall _ kf_disk_content) (fun _ h9 => h9) rfl hin rfl (by decide +kernel) rfl rfl (Nat.le_of_ble_eq_true rfl) kd_disk_9 (fun H locs hP hD hS => ?_)
  have hP : va_P D en_cl [(h0, .inr (3, [.ref v, .int 0, .int 0, .int 0, .int 0, .int 0, .int 0])), (v, .inl (cI, 8, .inl (fun _ => 0)))] H := hP
  have hD : va_D A [(h0, .inr (3, [.ref v, .int 0, .int 0, .int 0, .int 0, .int 0, .int 0])), (v, .inl (cI, 8, .inl (fun _ => 0)))] := hD
  refine lv_aload_n hx hb kd_disk_12 rfl (lv_at hl 0 rfl) ?_
  refine lv_iconst (v := 0) hx hb kd_disk_13 (by decide) ?_
  refine va_put (D := D) (ci := 3) (v := .int 0) (ty := .int) (C := en_cn 3) (T := en_Ft 3) (N := en_N 3) hx hb hts (fun w hw => List.mem_cons_of_mem _ (ko_disk_l w hw)) (en_ty 3) (en_ty_all 3 (by omega)) (en_nm_all 3 (by omega)) hown hK hP hD hS 0 rfl rfl 4 (by decide) (hall _ kf_disk_work) (fun _ h9 => h9) rfl (by decide +kernel) rfl rfl (Nat.le_of_ble_eq_true rfl) kd_disk_14 (fun H locs hP hD hS => ?_)
  have hP : va_P D en_cl [(h0, .inr (3, [.ref v, .int 0, .int 0, .int 0, .int 0, .int 0, .int 0])), (v, .inl (cI, 8, .inl (fun _ => 0)))] H := hP
  have hD : va_D A [(h0, .inr (3, [.ref v, .int 0, .int 0, .int 0, .int 0, .int 0, .int 0])), (v, .inl (cI, 8, .inl (fun _ => 0)))] := hD
  have hK9 : va_K D en_cl [(cI, .int)] s := hK
  exact W.vret hx hb hr (fun t ht hW => ⟨⟨v, rfl, trivial, by rw [ht]; exact hP, va_K.moved hW.alike hK9, hD⟩, hS.F ht⟩) hS.2.2 kd_disk_17
set_option maxHeartbeats 4000000 in
set_option maxRecDepth 100000 in
theorem k_ord (l : Launch) (D : va_G) (cI : ClassId) (h0 sz : Nat) : Met l (ky "PluggedBus$Order") (kw (ky "PluggedBus$Order") prog_6_method_1_code 1) ({ frames := 1, cells := 1, slots := 4, locals := 12 }) (va_Pc [.ref h0] (fun U => U.heap.size = sz ∧ va_P D en_cl [(h0, .inr (4, [.null, .int 0, .int 0, .int 0, .int 0, .int 0, .int 0, .int 0]))] U.heap ∧ va_K D en_cl [] U ∧ va_D (fun _ => True) [(h0, .inr (4, [.null, .int 0, .int 0, .int 0, .int 0, .int 0, .int 0, .int 0]))] ∧ kp cI U)) (va_Qv (fun _ : Nat => True) (fun v t => va_P D en_cl [(h0, .inr (4, [.ref v, .int 0, .int 0, .int 0, .int 0, .int 0, .int 0, .int 0])), (v, .inl (cI, 4, .inl (fun _ => 0)))] t.heap ∧ va_K D en_cl [(cI, .int)] t ∧ va_D (va_A [(h0, .inr (4, [.null, .int 0, .int 0, .int 0, .int 0, .int 0, .int 0, .int 0]))] sz) [(h0, .inr (4, [.ref v, .int 0, .int 0, .int 0, .int 0, .int 0, .int 0, .int 0])), (v, .inl (cI, 4, .inl (fun _ => 0)))]) (va_A [(h0, .inr (4, [.null, .int 0, .int 0, .int 0, .int 0, .int 0, .int 0, .int 0]))] sz)) 1 4 (va_A [(h0, .inr (4, [.null, .int 0, .int 0, .int 0, .int 0, .int 0, .int 0, .int 0]))] sz) := by
  refine Met.ofW (cc := prog_6_method_1_code) (maxL := 1) (ret := none) (by decide) rfl ?_
  intro p e s m args below meth c s₁ B hml hv
  obtain ⟨rfl, hsz, hP, hK, hD0, hF⟩ := hv
  have hx := B.exec
  have hb := B.bytes
  have hr := B.returns
  have hts := atoms_spec (ws := kw (ky "PluggedBus$Order") prog_6_method_1_code 1) B.pre
  have hall : ∀ w ∈ en_all, w.before ([Value.ref h0]).toArray s = true := fun w hw => hts w (List.mem_cons_of_mem _ hw)
  have hown : s.vm.findClass "PluggedBus$Order" = some m.cls := findClass_of_methodNamed B.named
  have hin : meth.name = "<init>" := (name_of_methodNamed B.named B.method).1
  subst hsz
  have hD := hD0.self (sz := s.heap.size)
  generalize hAe : va_A [(h0, .inr (4, [.null, .int 0, .int 0, .int 0, .int 0, .int 0, .int 0, .int 0]))] s.heap.size = A at hD ⊢
  have hA : ∀ q : Nat, s.heap.size ≤ q → A q := fun q h => by rw [← hAe]; exact Or.inr h
  have hS : va_S A s.heap s.heap [] := va_S.rf
  have hP : va_P D en_cl [(h0, .inr (4, [.null, .int 0, .int 0, .int 0, .int 0, .int 0, .int 0, .int 0]))] s.heap := hP
  have hl := lv_entry ([.ref h0]) (n := 1) (Nat.le_of_ble_eq_true rfl)
  rw [lg_entry_eq]
  generalize (lg_sl ([.ref h0]) ++ List.replicate (1 - (lg_sl ([.ref h0])).length) Slot.unset).toArray = ls at hl ⊢
  have hl : lv_has ls 1 [(0, .ref h0)] := hl
  refine lv_aload_n hx hb kd_ord_0 rfl (lv_at hl 0 rfl) ?_
  refine W.objInit hx hb hown (hall _ ko_ord_o) (hall _ ko_i) (hall _ ko_c) rfl (by rw [hml]; exact hl.1) rfl kd_ord_1 (Nat.le_of_ble_eq_true rfl) (Nat.le_of_ble_eq_true rfl) ?_
  refine W.eq (g2 := F0 m 4 ls []) rfl ?_
  refine lv_aload_n hx hb kd_ord_4 rfl (lv_at hl 0 rfl) ?_
  refine lv_iconst (v := 4) hx hb kd_ord_5 (by decide) ?_
  refine va_newa (atype := .int) (ty := .int) (N' := 4) (a0 := (4, .inl (fun _ => 0))) hx hb (hall _ ko_ai) rfl hK hP hD hS hA (fun _ => rfl) (by decide) rfl (by decide) (show 1 ≤ 1 by decide) (show 4 ≤ 4 by decide) kd_ord_6 (fun v cA H hK2 hP hD hS => ?_)
  have ec : cI = cA := Option.some.inj (hF.1.symm.trans (hK2.2 0 _ rfl).2)
  subst ec
  have hK : va_K D en_cl [(cI, .int)] s := hK2
  have hP : va_P D en_cl [(h0, .inr (4, [.null, .int 0, .int 0, .int 0, .int 0, .int 0, .int 0, .int 0])), (v, .inl (cI, 4, .inl (fun _ => 0)))] H := hP
  have hD : va_D A [(h0, .inr (4, [.null, .int 0, .int 0, .int 0, .int 0, .int 0, .int 0, .int 0])), (v, .inl (cI, 4, .inl (fun _ => 0)))] := hD
  refine W.widen (k := 1) (n := 4) (by decide) (by decide) ?_
  refine va_putF (D := D) (ci := 4) (v := .ref v) (ty := .array .int) (C := en_cn 4) (T := en_Ft 4) (N := en_N 4) hx hb hts (fun w hw => List.mem_cons_of_mem _ (ko_ord_l w hw)) (en_ty 4) (en_ty_all 4 (by omega)) (en_nm_all 4 (by omega)) hown hK hP hD hS 0 rfl rfl 0 (by decide) (hall _ kf_ord_numbers) (fun _ h9 => h9) rfl hin rfl (by decide +kernel) rfl rfl (Nat.le_of_ble_eq_true rfl) kd_ord_8 (fun H locs hP hD hS => ?_)
  have hP : va_P D en_cl [(h0, .inr (4, [.ref v, .int 0, .int 0, .int 0, .int 0, .int 0, .int 0, .int 0])), (v, .inl (cI, 4, .inl (fun _ => 0)))] H := hP
  have hD : va_D A [(h0, .inr (4, [.ref v, .int 0, .int 0, .int 0, .int 0, .int 0, .int 0, .int 0])), (v, .inl (cI, 4, .inl (fun _ => 0)))] := hD
  refine lv_aload_n hx hb kd_ord_11 rfl (lv_at hl 0 rfl) ?_
  refine lv_iconst (v := 0) hx hb kd_ord_12 (by decide) ?_
  refine va_put (D := D) (ci := 4) (v := .int 0) (ty := .int) (C := en_cn 4) (T := en_Ft 4) (N := en_N 4) hx hb hts (fun w hw => List.mem_cons_of_mem _ (ko_ord_l w hw)) (en_ty 4) (en_ty_all 4 (by omega)) (en_nm_all 4 (by omega)) hown hK hP hD hS 0 rfl rfl 7 (by decide) (hall _ kf_ord_state) (fun _ h9 => h9) rfl (by decide +kernel) rfl rfl (Nat.le_of_ble_eq_true rfl) kd_ord_13 (fun H locs hP hD hS => ?_)
  have hP : va_P D en_cl [(h0, .inr (4, [.ref v, .int 0, .int 0, .int 0, .int 0, .int 0, .int 0, .int 0])), (v, .inl (cI, 4, .inl (fun _ => 0)))] H := hP
  have hD : va_D A [(h0, .inr (4, [.ref v, .int 0, .int 0, .int 0, .int 0, .int 0, .int 0, .int 0])), (v, .inl (cI, 4, .inl (fun _ => 0)))] := hD
  have hK9 : va_K D en_cl [(cI, .int)] s := hK
  exact W.vret hx hb hr (fun t ht hW => ⟨⟨v, rfl, trivial, by rw [ht]; exact hP, va_K.moved hW.alike hK9, hD⟩, hS.F ht⟩) hS.2.2 kd_ord_16
set_option maxHeartbeats 4000000 in
set_option maxRecDepth 100000 in
theorem k_line (l : Launch) (D : va_G) (cI : ClassId) (h0 sz : Nat) : Met l (ky "PluggedBus$Line") (kw (ky "PluggedBus$Line") prog_5_method_1_code 1) ({ frames := 1, cells := 1, slots := 40, locals := 12 }) (va_Pc [.ref h0] (fun U => U.heap.size = sz ∧ va_P D en_cl [(h0, .inr (5, [.null, .int 0, .int 0]))] U.heap ∧ va_K D en_cl [] U ∧ va_D (fun _ => True) [(h0, .inr (5, [.null, .int 0, .int 0]))] ∧ kp cI U)) (va_Qv (fun _ : Nat => True) (fun v t => va_P D en_cl [(h0, .inr (5, [.ref v, .int 0, .int 0])), (v, .inl (cI, 40, .inl (fun _ => 0)))] t.heap ∧ va_K D en_cl [(cI, .int)] t ∧ va_D (va_A [(h0, .inr (5, [.null, .int 0, .int 0]))] sz) [(h0, .inr (5, [.ref v, .int 0, .int 0])), (v, .inl (cI, 40, .inl (fun _ => 0)))]) (va_A [(h0, .inr (5, [.null, .int 0, .int 0]))] sz)) 1 40 (va_A [(h0, .inr (5, [.null, .int 0, .int 0]))] sz) := by
  refine Met.ofW (cc := prog_5_method_1_code) (maxL := 1) (ret := none) (by decide) rfl ?_
  intro p e s m args below meth c s₁ B hml hv
  obtain ⟨rfl, hsz, hP, hK, hD0, hF⟩ := hv
  have hx := B.exec
  have hb := B.bytes
  have hr := B.returns
  have hts := atoms_spec (ws := kw (ky "PluggedBus$Line") prog_5_method_1_code 1) B.pre
  have hall : ∀ w ∈ en_all, w.before ([Value.ref h0]).toArray s = true := fun w hw => hts w (List.mem_cons_of_mem _ hw)
  have hown : s.vm.findClass "PluggedBus$Line" = some m.cls := findClass_of_methodNamed B.named
  have hin : meth.name = "<init>" := (name_of_methodNamed B.named B.method).1
  subst hsz
  have hD := hD0.self (sz := s.heap.size)
  generalize hAe : va_A [(h0, .inr (5, [.null, .int 0, .int 0]))] s.heap.size = A at hD ⊢
  have hA : ∀ q : Nat, s.heap.size ≤ q → A q := fun q h => by rw [← hAe]; exact Or.inr h
  have hS : va_S A s.heap s.heap [] := va_S.rf
  have hP : va_P D en_cl [(h0, .inr (5, [.null, .int 0, .int 0]))] s.heap := hP
  have hl := lv_entry ([.ref h0]) (n := 1) (Nat.le_of_ble_eq_true rfl)
  rw [lg_entry_eq]
  generalize (lg_sl ([.ref h0]) ++ List.replicate (1 - (lg_sl ([.ref h0])).length) Slot.unset).toArray = ls at hl ⊢
  have hl : lv_has ls 1 [(0, .ref h0)] := hl
  refine lv_aload_n hx hb kd_line_0 rfl (lv_at hl 0 rfl) ?_
  refine W.objInit hx hb hown (hall _ ko_line_o) (hall _ ko_i) (hall _ ko_c) rfl (by rw [hml]; exact hl.1) rfl kd_line_1 (Nat.le_of_ble_eq_true rfl) (Nat.le_of_ble_eq_true rfl) ?_
  refine W.eq (g2 := F0 m 4 ls []) rfl ?_
  refine lv_aload_n hx hb kd_line_4 rfl (lv_at hl 0 rfl) ?_
  refine lv_bipush (v := 40) hx hb kd_line_5 (by decide) ?_
  refine va_newa (atype := .int) (ty := .int) (N' := 40) (a0 := (40, .inl (fun _ => 0))) hx hb (hall _ ko_ai) rfl hK hP hD hS hA (fun _ => rfl) (by decide) rfl (by decide) (show 1 ≤ 1 by decide) (show 40 ≤ 40 by decide) kd_line_7 (fun v cA H hK2 hP hD hS => ?_)
  have ec : cI = cA := Option.some.inj (hF.1.symm.trans (hK2.2 0 _ rfl).2)
  subst ec
  have hK : va_K D en_cl [(cI, .int)] s := hK2
  have hP : va_P D en_cl [(h0, .inr (5, [.null, .int 0, .int 0])), (v, .inl (cI, 40, .inl (fun _ => 0)))] H := hP
  have hD : va_D A [(h0, .inr (5, [.null, .int 0, .int 0])), (v, .inl (cI, 40, .inl (fun _ => 0)))] := hD
  refine W.widen (k := 1) (n := 40) (by decide) (by decide) ?_
  refine va_putF (D := D) (ci := 5) (v := .ref v) (ty := .array .int) (C := en_cn 5) (T := en_Ft 5) (N := en_N 5) hx hb hts (fun w hw => List.mem_cons_of_mem _ (ko_line_l w hw)) (en_ty 5) (en_ty_all 5 (by omega)) (en_nm_all 5 (by omega)) hown hK hP hD hS 0 rfl rfl 0 (by decide) (hall _ kf_line_losses) (fun _ h9 => h9) rfl hin rfl (by decide +kernel) rfl rfl (Nat.le_of_ble_eq_true rfl) kd_line_9 (fun H locs hP hD hS => ?_)
  have hP : va_P D en_cl [(h0, .inr (5, [.ref v, .int 0, .int 0])), (v, .inl (cI, 40, .inl (fun _ => 0)))] H := hP
  have hD : va_D A [(h0, .inr (5, [.ref v, .int 0, .int 0])), (v, .inl (cI, 40, .inl (fun _ => 0)))] := hD
  have hK9 : va_K D en_cl [(cI, .int)] s := hK
  exact W.vret hx hb hr (fun t ht hW => ⟨⟨v, rfl, trivial, by rw [ht]; exact hP, va_K.moved hW.alike hK9, hD⟩, hS.F ht⟩) hS.2.2 kd_line_12
set_option maxHeartbeats 4000000 in
set_option maxRecDepth 100000 in
theorem k_key (l : Launch) (D : va_G) (cI : ClassId) (h0 sz : Nat) : Met l (ky "PluggedBus$KeyLog") (kw (ky "PluggedBus$KeyLog") prog_4_method_1_code 1) ({ frames := 1, cells := 1, slots := 8, locals := 12 }) (va_Pc [.ref h0] (fun U => U.heap.size = sz ∧ va_P D en_cl [(h0, .inr (6, [.null, .int 0, .int 0]))] U.heap ∧ va_K D en_cl [] U ∧ va_D (fun _ => True) [(h0, .inr (6, [.null, .int 0, .int 0]))] ∧ kp cI U)) (va_Qv (fun _ : Nat => True) (fun v t => va_P D en_cl [(h0, .inr (6, [.ref v, .int 0, .int 0])), (v, .inl (cI, 8, .inl (fun _ => 0)))] t.heap ∧ va_K D en_cl [(cI, .int)] t ∧ va_D (va_A [(h0, .inr (6, [.null, .int 0, .int 0]))] sz) [(h0, .inr (6, [.ref v, .int 0, .int 0])), (v, .inl (cI, 8, .inl (fun _ => 0)))]) (va_A [(h0, .inr (6, [.null, .int 0, .int 0]))] sz)) 1 8 (va_A [(h0, .inr (6, [.null, .int 0, .int 0]))] sz) := by
  refine Met.ofW (cc := prog_4_method_1_code) (maxL := 1) (ret := none) (by decide) rfl ?_
  intro p e s m args below meth c s₁ B hml hv
  obtain ⟨rfl, hsz, hP, hK, hD0, hF⟩ := hv
  have hx := B.exec
  have hb := B.bytes
  have hr := B.returns
  have hts := atoms_spec (ws := kw (ky "PluggedBus$KeyLog") prog_4_method_1_code 1) B.pre
  have hall : ∀ w ∈ en_all, w.before ([Value.ref h0]).toArray s = true := fun w hw => hts w (List.mem_cons_of_mem _ hw)
  have hown : s.vm.findClass "PluggedBus$KeyLog" = some m.cls := findClass_of_methodNamed B.named
  have hin : meth.name = "<init>" := (name_of_methodNamed B.named B.method).1
  subst hsz
  have hD := hD0.self (sz := s.heap.size)
  generalize hAe : va_A [(h0, .inr (6, [.null, .int 0, .int 0]))] s.heap.size = A at hD ⊢
  have hA : ∀ q : Nat, s.heap.size ≤ q → A q := fun q h => by rw [← hAe]; exact Or.inr h
  have hS : va_S A s.heap s.heap [] := va_S.rf
  have hP : va_P D en_cl [(h0, .inr (6, [.null, .int 0, .int 0]))] s.heap := hP
  have hl := lv_entry ([.ref h0]) (n := 1) (Nat.le_of_ble_eq_true rfl)
  rw [lg_entry_eq]
  generalize (lg_sl ([.ref h0]) ++ List.replicate (1 - (lg_sl ([.ref h0])).length) Slot.unset).toArray = ls at hl ⊢
  have hl : lv_has ls 1 [(0, .ref h0)] := hl
  refine lv_aload_n hx hb kd_key_0 rfl (lv_at hl 0 rfl) ?_
  refine W.objInit hx hb hown (hall _ ko_key_o) (hall _ ko_i) (hall _ ko_c) rfl (by rw [hml]; exact hl.1) rfl kd_key_1 (Nat.le_of_ble_eq_true rfl) (Nat.le_of_ble_eq_true rfl) ?_
  refine W.eq (g2 := F0 m 4 ls []) rfl ?_
  refine lv_aload_n hx hb kd_key_4 rfl (lv_at hl 0 rfl) ?_
  refine lv_bipush (v := 8) hx hb kd_key_5 (by decide) ?_
  refine va_newa (atype := .int) (ty := .int) (N' := 8) (a0 := (8, .inl (fun _ => 0))) hx hb (hall _ ko_ai) rfl hK hP hD hS hA (fun _ => rfl) (by decide) rfl (by decide) (show 1 ≤ 1 by decide) (show 8 ≤ 8 by decide) kd_key_7 (fun v cA H hK2 hP hD hS => ?_)
  have ec : cI = cA := Option.some.inj (hF.1.symm.trans (hK2.2 0 _ rfl).2)
  subst ec
  have hK : va_K D en_cl [(cI, .int)] s := hK2
  have hP : va_P D en_cl [(h0, .inr (6, [.null, .int 0, .int 0])), (v, .inl (cI, 8, .inl (fun _ => 0)))] H := hP
  have hD : va_D A [(h0, .inr (6, [.null, .int 0, .int 0])), (v, .inl (cI, 8, .inl (fun _ => 0)))] := hD
  refine W.widen (k := 1) (n := 8) (by decide) (by decide) ?_
  refine va_putF (D := D) (ci := 6) (v := .ref v) (ty := .array .int) (C := en_cn 6) (T := en_Ft 6) (N := en_N 6) hx hb hts (fun w hw => List.mem_cons_of_mem _ (ko_key_l w hw)) (en_ty 6) (en_ty_all 6 (by omega)) (en_nm_all 6 (by omega)) hown hK hP hD hS 0 rfl rfl 0 (by decide) (hall _ kf_key_recentKeys) (fun _ h9 => h9) rfl hin rfl (by decide +kernel) rfl rfl (Nat.le_of_ble_eq_true rfl) kd_key_9 (fun H locs hP hD hS => ?_)
  have hP : va_P D en_cl [(h0, .inr (6, [.ref v, .int 0, .int 0])), (v, .inl (cI, 8, .inl (fun _ => 0)))] H := hP
  have hD : va_D A [(h0, .inr (6, [.ref v, .int 0, .int 0])), (v, .inl (cI, 8, .inl (fun _ => 0)))] := hD
  have hK9 : va_K D en_cl [(cI, .int)] s := hK
  exact W.vret hx hb hr (fun t ht hW => ⟨⟨v, rfl, trivial, by rw [ht]; exact hP, va_K.moved hW.alike hK9, hD⟩, hS.F ht⟩) hS.2.2 kd_key_12
set_option maxHeartbeats 4000000 in
set_option maxRecDepth 100000 in
theorem k_dev (l : Launch) (D : va_G) (cI : ClassId) (h0 sz : Nat) : Met l (ky "PluggedBus$Device") (kw (ky "PluggedBus$Device") prog_2_method_1_code 1) ({ frames := 2, cells := 3, slots := 19, locals := 32 }) (va_Pc [.ref h0] (fun U => U.heap.size = sz ∧ va_P D en_cl [(h0, .inr (2, [.null, .null, .int 0, .int 0, .int 0, .int 0, .int 0, .int 0, .int 0, .int 0, .int 0, .int 0, .int 0]))] U.heap ∧ va_K D en_cl [] U ∧ va_D (fun _ => True) [(h0, .inr (2, [.null, .null, .int 0, .int 0, .int 0, .int 0, .int 0, .int 0, .int 0, .int 0, .int 0, .int 0, .int 0]))] ∧ kp cI U)) (va_Qv (fun _ : (Nat → Nat) => True) (fun v t => va_P D en_cl [(h0, .inr (2, [.ref (v 5), .ref (v 7), .int 0, .int 0, .int 0, .int 0, .int 0, .int 0, .int 0, .int 0, .int 0, .int 0, .int 0])), (v 5, .inr (3, [.ref (v 6), .int 0, .int 0, .int 0, .int 0, .int 0, .int 0])), (v 6, .inl (cI, 8, .inl (fun _ => 0))), (v 7, .inl (cI, 4, .inl (fun _ => 0)))] t.heap ∧ va_K D en_cl [(cI, .int)] t ∧ va_D (va_A [(h0, .inr (2, [.null, .null, .int 0, .int 0, .int 0, .int 0, .int 0, .int 0, .int 0, .int 0, .int 0, .int 0, .int 0]))] sz) [(h0, .inr (2, [.ref (v 5), .ref (v 7), .int 0, .int 0, .int 0, .int 0, .int 0, .int 0, .int 0, .int 0, .int 0, .int 0, .int 0])), (v 5, .inr (3, [.ref (v 6), .int 0, .int 0, .int 0, .int 0, .int 0, .int 0])), (v 6, .inl (cI, 8, .inl (fun _ => 0))), (v 7, .inl (cI, 4, .inl (fun _ => 0)))]) (va_A [(h0, .inr (2, [.null, .null, .int 0, .int 0, .int 0, .int 0, .int 0, .int 0, .int 0, .int 0, .int 0, .int 0, .int 0]))] sz)) 3 19 (va_A [(h0, .inr (2, [.null, .null, .int 0, .int 0, .int 0, .int 0, .int 0, .int 0, .int 0, .int 0, .int 0, .int 0, .int 0]))] sz) := by
  refine Met.ofW (cc := prog_2_method_1_code) (maxL := 1) (ret := none) (by decide) rfl ?_
  intro p e s m args below meth c s₁ B hml hv
  obtain ⟨rfl, hsz, hP, hK, hD0, hF⟩ := hv
  have hx := B.exec
  have hb := B.bytes
  have hr := B.returns
  have hts := atoms_spec (ws := kw (ky "PluggedBus$Device") prog_2_method_1_code 1) B.pre
  have hall : ∀ w ∈ en_all, w.before ([Value.ref h0]).toArray s = true := fun w hw => hts w (List.mem_cons_of_mem _ hw)
  have hown : s.vm.findClass "PluggedBus$Device" = some m.cls := findClass_of_methodNamed B.named
  have hin : meth.name = "<init>" := (name_of_methodNamed B.named B.method).1
  subst hsz
  have hD := hD0.self (sz := s.heap.size)
  generalize hAe : va_A [(h0, .inr (2, [.null, .null, .int 0, .int 0, .int 0, .int 0, .int 0, .int 0, .int 0, .int 0, .int 0, .int 0, .int 0]))] s.heap.size = A at hD ⊢
  have hA : ∀ q : Nat, s.heap.size ≤ q → A q := fun q h => by rw [← hAe]; exact Or.inr h
  have hS : va_S A s.heap s.heap [] := va_S.rf
  have hP : va_P D en_cl [(h0, .inr (2, [.null, .null, .int 0, .int 0, .int 0, .int 0, .int 0, .int 0, .int 0, .int 0, .int 0, .int 0, .int 0]))] s.heap := hP
  have hl := lv_entry ([.ref h0]) (n := 1) (Nat.le_of_ble_eq_true rfl)
  rw [lg_entry_eq]
  generalize (lg_sl ([.ref h0]) ++ List.replicate (1 - (lg_sl ([.ref h0])).length) Slot.unset).toArray = ls at hl ⊢
  have hl : lv_has ls 1 [(0, .ref h0)] := hl
  refine lv_aload_n hx hb kd_dev_0 rfl (lv_at hl 0 rfl) ?_
  refine W.objInit hx hb hown (hall _ ko_dev_o) (hall _ ko_i) (hall _ ko_c) rfl (by rw [hml]; exact hl.1) rfl kd_dev_1 (Nat.le_of_ble_eq_true rfl) (Nat.le_of_ble_eq_true rfl) ?_
  refine W.eq (g2 := F0 m 4 ls []) rfl ?_
  refine lv_aload_n hx hb kd_dev_4 rfl (lv_at hl 0 rfl) ?_
  refine va_new (ci := 3) (fs := [.null, .int 0, .int 0, .int 0, .int 0, .int 0, .int 0]) (C := en_cn 3) (T := en_Ft 3) (N := en_N 3) hx hb hts (fun w hw => List.mem_cons_of_mem _ (ko_disk_l w hw)) (en_ty 3) (en_ty_all 3 (by omega)) hown (hall _ kl_dev_disk) (hall _ ko_disk_t) (hall _ ko_disk_n) hK hP hD hS hA rfl (kz_disk) (show 1 ≤ 3 by decide) (show 7 ≤ 19 by decide) kd_dev_5 (fun q5 H hP hD hS => ?_)
  have hP : va_P D en_cl [(h0, .inr (2, [.null, .null, .int 0, .int 0, .int 0, .int 0, .int 0, .int 0, .int 0, .int 0, .int 0, .int 0, .int 0])), (q5, .inr (3, [.null, .int 0, .int 0, .int 0, .int 0, .int 0, .int 0]))] H := hP
  have hD : va_D A [(h0, .inr (2, [.null, .null, .int 0, .int 0, .int 0, .int 0, .int 0, .int 0, .int 0, .int 0, .int 0, .int 0, .int 0])), (q5, .inr (3, [.null, .int 0, .int 0, .int 0, .int 0, .int 0, .int 0]))] := hD
  refine W.widen (k := 1) (n := 7) (by decide) (by decide) ?_
  refine lv_dup hx hb kd_dev_8 rfl ?_
  have hPc := hP.sub (ws' := [(q5, .inr (3, [.null, .int 0, .int 0, .int 0, .int 0, .int 0, .int 0]))]) [1] rfl
  have hDc := hD.sub (ws' := [(q5, .inr (3, [.null, .int 0, .int 0, .int 0, .int 0, .int 0, .int 0]))]) [1] (by decide) rfl
  have hKc := hK.sub (tys' := []) [] rfl
  have hFc := va_free (wc := [(q5, .inr (3, [.null, .int 0, .int 0, .int 0, .int 0, .int 0, .int 0]))]) hD hS hA [1] rfl
  refine va_callv (va_runIN (As := []) (rest := [.ref q5, .ref h0]) ⟨hx, hb, hml, hown, hts⟩ (k_disk l D cI q5 H.size) ⟨va_cnB 0 hts (kw_good ko_disk_c) rfl rfl rfl hF.2.1 (hall _ ko_disk_n) (by decide +kernel) ⟨Nat.le_of_ble_eq_true rfl, Nat.le_of_ble_eq_true rfl⟩, rfl, hall _ ko_disk_m⟩ ⟨fun a U g mk q => by obtain ⟨q0, q1, qP, qK, qD, qF⟩ := q; exact ⟨q0, q1, qP, va_K.moved (u := U) (U := U.calling g mk a) (Vm.Alike.refl U.vm) qK, qD, kp_same (u := U) (U := U.calling g mk a) rfl qF⟩, fun U hU hW => ⟨rfl, by rw [hU], by rw [hU]; exact hPc, va_K.moved hW.alike hKc, hDc.weaken (fun _ _ _ _ => trivial), kp_warm hW hF⟩⟩ rfl rfl hl.1 rfl (lv_room (Nat.le_of_ble_eq_true rfl)) kd_dev_9 ⟨show 2 ≤ 3 by decide, show 15 ≤ 19 by decide⟩) hS (fun q _ h => hFc q h) hFc (fun q6 t H1 locs ht hvm _ hB hz1 hk1 hS => ?_)
  obtain ⟨hP1, hK1, hD1⟩ := hB
  rw [ht] at hP1
  have hK1 := va_K.moved hvm.symm hK1
  obtain ⟨hP, hD⟩ := va_join (wr := [(h0, .inr (2, [.null, .null, .int 0, .int 0, .int 0, .int 0, .int 0, .int 0, .int 0, .int 0, .int 0, .int 0, .int 0]))]) (w1 := [(q5, .inr (3, [.ref q6, .int 0, .int 0, .int 0, .int 0, .int 0, .int 0])), (q6, .inl (cI, 8, .inl (fun _ => 0)))]) hP hD [1] [0] rfl rfl (by decide) (by decide) hk1 hFc hP1 hD1
  have hK : va_K D en_cl [(cI, .int)] s := (hK.sub (tys' := []) [] rfl).app hK1
  generalize H1 = H at hP hS ⊢
  have hP : va_P D en_cl [(h0, .inr (2, [.null, .null, .int 0, .int 0, .int 0, .int 0, .int 0, .int 0, .int 0, .int 0, .int 0, .int 0, .int 0])), (q5, .inr (3, [.ref q6, .int 0, .int 0, .int 0, .int 0, .int 0, .int 0])), (q6, .inl (cI, 8, .inl (fun _ => 0)))] H := hP
  have hD : va_D A [(h0, .inr (2, [.null, .null, .int 0, .int 0, .int 0, .int 0, .int 0, .int 0, .int 0, .int 0, .int 0, .int 0, .int 0])), (q5, .inr (3, [.ref q6, .int 0, .int 0, .int 0, .int 0, .int 0, .int 0])), (q6, .inl (cI, 8, .inl (fun _ => 0)))] := hD
  refine W.widen (k := 2) (n := 15) (by decide) (by decide) ?_
  refine va_putF (D := D) (ci := 2) (v := .ref q5) (ty := .object "PluggedBus$Disk") (C := en_cn 2) (T := en_Ft 2) (N := en_N 2) hx hb hts (fun w hw => List.mem_cons_of_mem _ (ko_dev_l w hw)) (en_ty 2) (en_ty_all 2 (by omega)) (en_nm_all 2 (by omega)) hown hK hP hD hS 0 rfl rfl 0 (by decide) (hall _ kf_dev_disk) (fun _ h9 => h9) rfl hin rfl (by decide +kernel) rfl rfl (Nat.le_of_ble_eq_true rfl) kd_dev_12 (fun H locs hP hD hS => ?_)
  have hP : va_P D en_cl [(h0, .inr (2, [.ref q5, .null, .int 0, .int 0, .int 0, .int 0, .int 0, .int 0, .int 0, .int 0, .int 0, .int 0, .int 0])), (q5, .inr (3, [.ref q6, .int 0, .int 0, .int 0, .int 0, .int 0, .int 0])), (q6, .inl (cI, 8, .inl (fun _ => 0)))] H := hP
  have hD : va_D A [(h0, .inr (2, [.ref q5, .null, .int 0, .int 0, .int 0, .int 0, .int 0, .int 0, .int 0, .int 0, .int 0, .int 0, .int 0])), (q5, .inr (3, [.ref q6, .int 0, .int 0, .int 0, .int 0, .int 0, .int 0])), (q6, .inl (cI, 8, .inl (fun _ => 0)))] := hD
  refine lv_aload_n hx hb kd_dev_15 rfl (lv_at hl 0 rfl) ?_
  refine lv_iconst (v := 4) hx hb kd_dev_16 (by decide) ?_
  refine va_newa (atype := .int) (ty := .int) (N' := 4) (a0 := (4, .inl (fun _ => 0))) hx hb (hall _ ko_ai) rfl hK hP hD hS hA (fun _ => rfl) (by decide) rfl (by decide) (show 3 ≤ 3 by decide) (show 19 ≤ 19 by decide) kd_dev_17 (fun q7 cA H hK2 hP hD hS => ?_)
  have ec : cI = cA := Option.some.inj (hF.1.symm.trans (hK2.2 1 _ rfl).2)
  subst ec
  have hK := hK2.sub (tys' := [(cI, .int)]) [0] rfl
  have hP : va_P D en_cl [(h0, .inr (2, [.ref q5, .null, .int 0, .int 0, .int 0, .int 0, .int 0, .int 0, .int 0, .int 0, .int 0, .int 0, .int 0])), (q5, .inr (3, [.ref q6, .int 0, .int 0, .int 0, .int 0, .int 0, .int 0])), (q6, .inl (cI, 8, .inl (fun _ => 0))), (q7, .inl (cI, 4, .inl (fun _ => 0)))] H := hP
  have hD : va_D A [(h0, .inr (2, [.ref q5, .null, .int 0, .int 0, .int 0, .int 0, .int 0, .int 0, .int 0, .int 0, .int 0, .int 0, .int 0])), (q5, .inr (3, [.ref q6, .int 0, .int 0, .int 0, .int 0, .int 0, .int 0])), (q6, .inl (cI, 8, .inl (fun _ => 0))), (q7, .inl (cI, 4, .inl (fun _ => 0)))] := hD
  refine W.widen (k := 3) (n := 19) (by decide) (by decide) ?_
  refine va_putF (D := D) (ci := 2) (v := .ref q7) (ty := .array .int) (C := en_cn 2) (T := en_Ft 2) (N := en_N 2) hx hb hts (fun w hw => List.mem_cons_of_mem _ (ko_dev_l w hw)) (en_ty 2) (en_ty_all 2 (by omega)) (en_nm_all 2 (by omega)) hown hK hP hD hS 0 rfl rfl 1 (by decide) (hall _ kf_dev_codes) (fun _ h9 => h9) rfl hin rfl (by decide +kernel) rfl rfl (Nat.le_of_ble_eq_true rfl) kd_dev_19 (fun H locs hP hD hS => ?_)
  have hP : va_P D en_cl [(h0, .inr (2, [.ref q5, .ref q7, .int 0, .int 0, .int 0, .int 0, .int 0, .int 0, .int 0, .int 0, .int 0, .int 0, .int 0])), (q5, .inr (3, [.ref q6, .int 0, .int 0, .int 0, .int 0, .int 0, .int 0])), (q6, .inl (cI, 8, .inl (fun _ => 0))), (q7, .inl (cI, 4, .inl (fun _ => 0)))] H := hP
  have hD : va_D A [(h0, .inr (2, [.ref q5, .ref q7, .int 0, .int 0, .int 0, .int 0, .int 0, .int 0, .int 0, .int 0, .int 0, .int 0, .int 0])), (q5, .inr (3, [.ref q6, .int 0, .int 0, .int 0, .int 0, .int 0, .int 0])), (q6, .inl (cI, 8, .inl (fun _ => 0))), (q7, .inl (cI, 4, .inl (fun _ => 0)))] := hD
  refine lv_aload_n hx hb kd_dev_22 rfl (lv_at hl 0 rfl) ?_
  refine lv_iconst (v := 0) hx hb kd_dev_23 (by decide) ?_
  refine va_put (D := D) (ci := 2) (v := .int 0) (ty := .int) (C := en_cn 2) (T := en_Ft 2) (N := en_N 2) hx hb hts (fun w hw => List.mem_cons_of_mem _ (ko_dev_l w hw)) (en_ty 2) (en_ty_all 2 (by omega)) (en_nm_all 2 (by omega)) hown hK hP hD hS 0 rfl rfl 3 (by decide) (hall _ kf_dev_kind) (fun _ h9 => h9) rfl (by decide +kernel) rfl rfl (Nat.le_of_ble_eq_true rfl) kd_dev_24 (fun H locs hP hD hS => ?_)
  have hP : va_P D en_cl [(h0, .inr (2, [.ref q5, .ref q7, .int 0, .int 0, .int 0, .int 0, .int 0, .int 0, .int 0, .int 0, .int 0, .int 0, .int 0])), (q5, .inr (3, [.ref q6, .int 0, .int 0, .int 0, .int 0, .int 0, .int 0])), (q6, .inl (cI, 8, .inl (fun _ => 0))), (q7, .inl (cI, 4, .inl (fun _ => 0)))] H := hP
  have hD : va_D A [(h0, .inr (2, [.ref q5, .ref q7, .int 0, .int 0, .int 0, .int 0, .int 0, .int 0, .int 0, .int 0, .int 0, .int 0, .int 0])), (q5, .inr (3, [.ref q6, .int 0, .int 0, .int 0, .int 0, .int 0, .int 0])), (q6, .inl (cI, 8, .inl (fun _ => 0))), (q7, .inl (cI, 4, .inl (fun _ => 0)))] := hD
  have hK9 : va_K D en_cl [(cI, .int)] s := hK
  exact W.vret hx hb hr (fun t ht hW => ⟨⟨fun k => if k = 5 then q5 else if k = 6 then q6 else q7, rfl, trivial, by rw [ht]; exact hP, va_K.moved hW.alike hK9, hD⟩, hS.F ht⟩) hS.2.2 kd_dev_27
set_option maxHeartbeats 4000000 in
set_option maxRecDepth 100000 in
theorem k_port (l : Launch) (D : va_G) (cI : ClassId) (h0 sz : Nat) : Met l (ky "PluggedBus$Port") (kw (ky "PluggedBus$Port") prog_7_method_1_code 1) ({ frames := 3, cells := 4, slots := 32, locals := 52 }) (va_Pc [.ref h0] (fun U => U.heap.size = sz ∧ va_P D en_cl [(h0, .inr (1, [.null, .int 0, .int 0, .int 0, .int 0, .int 0, .int 0, .int 0, .int 0, .int 0, .int 0, .int 0, .int 0]))] U.heap ∧ va_K D en_cl [] U ∧ va_D (fun _ => True) [(h0, .inr (1, [.null, .int 0, .int 0, .int 0, .int 0, .int 0, .int 0, .int 0, .int 0, .int 0, .int 0, .int 0, .int 0]))] ∧ kp cI U)) (va_Qv (fun _ : (Nat → Nat) => True) (fun v t => va_P D en_cl [(h0, .inr (1, [.ref (v 4), .int 0, .int 0, .int 0, .int 0, .int 0, .int 0, .int 0, .int 0, .int 0, .int 0, .int 0, .int 0])), (v 4, .inr (2, [.ref (v 5), .ref (v 7), .int 0, .int 0, .int 0, .int 0, .int 0, .int 0, .int 0, .int 0, .int 0, .int 0, .int 0])), (v 5, .inr (3, [.ref (v 6), .int 0, .int 0, .int 0, .int 0, .int 0, .int 0])), (v 6, .inl (cI, 8, .inl (fun _ => 0))), (v 7, .inl (cI, 4, .inl (fun _ => 0)))] t.heap ∧ va_K D en_cl [(cI, .int)] t ∧ va_D (va_A [(h0, .inr (1, [.null, .int 0, .int 0, .int 0, .int 0, .int 0, .int 0, .int 0, .int 0, .int 0, .int 0, .int 0, .int 0]))] sz) [(h0, .inr (1, [.ref (v 4), .int 0, .int 0, .int 0, .int 0, .int 0, .int 0, .int 0, .int 0, .int 0, .int 0, .int 0, .int 0])), (v 4, .inr (2, [.ref (v 5), .ref (v 7), .int 0, .int 0, .int 0, .int 0, .int 0, .int 0, .int 0, .int 0, .int 0, .int 0, .int 0])), (v 5, .inr (3, [.ref (v 6), .int 0, .int 0, .int 0, .int 0, .int 0, .int 0])), (v 6, .inl (cI, 8, .inl (fun _ => 0))), (v 7, .inl (cI, 4, .inl (fun _ => 0)))]) (va_A [(h0, .inr (1, [.null, .int 0, .int 0, .int 0, .int 0, .int 0, .int 0, .int 0, .int 0, .int 0, .int 0, .int 0, .int 0]))] sz)) 4 32 (va_A [(h0, .inr (1, [.null, .int 0, .int 0, .int 0, .int 0, .int 0, .int 0, .int 0, .int 0, .int 0, .int 0, .int 0, .int 0]))] sz) := by
  refine Met.ofW (cc := prog_7_method_1_code) (maxL := 1) (ret := none) (by decide) rfl ?_
  intro p e s m args below meth c s₁ B hml hv
  obtain ⟨rfl, hsz, hP, hK, hD0, hF⟩ := hv
  have hx := B.exec
  have hb := B.bytes
  have hr := B.returns
  have hts := atoms_spec (ws := kw (ky "PluggedBus$Port") prog_7_method_1_code 1) B.pre
  have hall : ∀ w ∈ en_all, w.before ([Value.ref h0]).toArray s = true := fun w hw => hts w (List.mem_cons_of_mem _ hw)
  have hown : s.vm.findClass "PluggedBus$Port" = some m.cls := findClass_of_methodNamed B.named
  have hin : meth.name = "<init>" := (name_of_methodNamed B.named B.method).1
  subst hsz
  have hD := hD0.self (sz := s.heap.size)
  generalize hAe : va_A [(h0, .inr (1, [.null, .int 0, .int 0, .int 0, .int 0, .int 0, .int 0, .int 0, .int 0, .int 0, .int 0, .int 0, .int 0]))] s.heap.size = A at hD ⊢
  have hA : ∀ q : Nat, s.heap.size ≤ q → A q := fun q h => by rw [← hAe]; exact Or.inr h
  have hS : va_S A s.heap s.heap [] := va_S.rf
  have hP : va_P D en_cl [(h0, .inr (1, [.null, .int 0, .int 0, .int 0, .int 0, .int 0, .int 0, .int 0, .int 0, .int 0, .int 0, .int 0, .int 0]))] s.heap := hP
  have hl := lv_entry ([.ref h0]) (n := 1) (Nat.le_of_ble_eq_true rfl)
  rw [lg_entry_eq]
  generalize (lg_sl ([.ref h0]) ++ List.replicate (1 - (lg_sl ([.ref h0])).length) Slot.unset).toArray = ls at hl ⊢
  have hl : lv_has ls 1 [(0, .ref h0)] := hl
  refine lv_aload_n hx hb kd_port_0 rfl (lv_at hl 0 rfl) ?_
  refine W.objInit hx hb hown (hall _ ko_port_o) (hall _ ko_i) (hall _ ko_c) rfl (by rw [hml]; exact hl.1) rfl kd_port_1 (Nat.le_of_ble_eq_true rfl) (Nat.le_of_ble_eq_true rfl) ?_
  refine W.eq (g2 := F0 m 4 ls []) rfl ?_
  refine lv_aload_n hx hb kd_port_4 rfl (lv_at hl 0 rfl) ?_
  refine va_new (ci := 2) (fs := [.null, .null, .int 0, .int 0, .int 0, .int 0, .int 0, .int 0, .int 0, .int 0, .int 0, .int 0, .int 0]) (C := en_cn 2) (T := en_Ft 2) (N := en_N 2) hx hb hts (fun w hw => List.mem_cons_of_mem _ (ko_dev_l w hw)) (en_ty 2) (en_ty_all 2 (by omega)) hown (hall _ kl_port_dev) (hall _ ko_dev_t) (hall _ ko_dev_n) hK hP hD hS hA rfl (kz_dev) (show 1 ≤ 4 by decide) (show 13 ≤ 32 by decide) kd_port_5 (fun q4 H hP hD hS => ?_)
  have hP : va_P D en_cl [(h0, .inr (1, [.null, .int 0, .int 0, .int 0, .int 0, .int 0, .int 0, .int 0, .int 0, .int 0, .int 0, .int 0, .int 0])), (q4, .inr (2, [.null, .null, .int 0, .int 0, .int 0, .int 0, .int 0, .int 0, .int 0, .int 0, .int 0, .int 0, .int 0]))] H := hP
  have hD : va_D A [(h0, .inr (1, [.null, .int 0, .int 0, .int 0, .int 0, .int 0, .int 0, .int 0, .int 0, .int 0, .int 0, .int 0, .int 0])), (q4, .inr (2, [.null, .null, .int 0, .int 0, .int 0, .int 0, .int 0, .int 0, .int 0, .int 0, .int 0, .int 0, .int 0]))] := hD
  refine W.widen (k := 1) (n := 13) (by decide) (by decide) ?_
  refine lv_dup hx hb kd_port_8 rfl ?_
  have hPc := hP.sub (ws' := [(q4, .inr (2, [.null, .null, .int 0, .int 0, .int 0, .int 0, .int 0, .int 0, .int 0, .int 0, .int 0, .int 0, .int 0]))]) [1] rfl
  have hDc := hD.sub (ws' := [(q4, .inr (2, [.null, .null, .int 0, .int 0, .int 0, .int 0, .int 0, .int 0, .int 0, .int 0, .int 0, .int 0, .int 0]))]) [1] (by decide) rfl
  have hKc := hK.sub (tys' := []) [] rfl
  have hFc := va_free (wc := [(q4, .inr (2, [.null, .null, .int 0, .int 0, .int 0, .int 0, .int 0, .int 0, .int 0, .int 0, .int 0, .int 0, .int 0]))]) hD hS hA [1] rfl
  refine va_callv (va_runIN (As := []) (rest := [.ref q4, .ref h0]) ⟨hx, hb, hml, hown, hts⟩ (k_dev l D cI q4 H.size) ⟨va_cnB 0 hts (kw_good ko_dev_c) rfl rfl rfl hF.2.2.1 (hall _ ko_dev_n) (by decide +kernel) ⟨Nat.le_of_ble_eq_true rfl, Nat.le_of_ble_eq_true rfl⟩, rfl, hall _ ko_dev_m⟩ ⟨fun a U g mk q => by obtain ⟨q0, q1, qP, qK, qD, qF⟩ := q; exact ⟨q0, q1, qP, va_K.moved (u := U) (U := U.calling g mk a) (Vm.Alike.refl U.vm) qK, qD, kp_same (u := U) (U := U.calling g mk a) rfl qF⟩, fun U hU hW => ⟨rfl, by rw [hU], by rw [hU]; exact hPc, va_K.moved hW.alike hKc, hDc.weaken (fun _ _ _ _ => trivial), kp_warm hW hF⟩⟩ rfl rfl hl.1 rfl (lv_room (Nat.le_of_ble_eq_true rfl)) kd_port_9 ⟨show 4 ≤ 4 by decide, show 32 ≤ 32 by decide⟩) hS (fun q _ h => hFc q h) hFc (fun v t H1 locs ht hvm _ hB hz1 hk1 hS => ?_)
  obtain ⟨hP1, hK1, hD1⟩ := hB
  rw [ht] at hP1
  have hK1 := va_K.moved hvm.symm hK1
  obtain ⟨hP, hD⟩ := va_join (wr := [(h0, .inr (1, [.null, .int 0, .int 0, .int 0, .int 0, .int 0, .int 0, .int 0, .int 0, .int 0, .int 0, .int 0, .int 0]))]) (w1 := [(q4, .inr (2, [.ref (v 5), .ref (v 7), .int 0, .int 0, .int 0, .int 0, .int 0, .int 0, .int 0, .int 0, .int 0, .int 0, .int 0])), (v 5, .inr (3, [.ref (v 6), .int 0, .int 0, .int 0, .int 0, .int 0, .int 0])), (v 6, .inl (cI, 8, .inl (fun _ => 0))), (v 7, .inl (cI, 4, .inl (fun _ => 0)))]) hP hD [1] [0] rfl rfl (by decide) (by decide) hk1 hFc hP1 hD1
  have hK : va_K D en_cl [(cI, .int)] s := (hK.sub (tys' := []) [] rfl).app hK1
  generalize H1 = H at hP hS ⊢
  have hP : va_P D en_cl [(h0, .inr (1, [.null, .int 0, .int 0, .int 0, .int 0, .int 0, .int 0, .int 0, .int 0, .int 0, .int 0, .int 0, .int 0])), (q4, .inr (2, [.ref (v 5), .ref (v 7), .int 0, .int 0, .int 0, .int 0, .int 0, .int 0, .int 0, .int 0, .int 0, .int 0, .int 0])), (v 5, .inr (3, [.ref (v 6), .int 0, .int 0, .int 0, .int 0, .int 0, .int 0])), (v 6, .inl (cI, 8, .inl (fun _ => 0))), (v 7, .inl (cI, 4, .inl (fun _ => 0)))] H := hP
  have hD : va_D A [(h0, .inr (1, [.null, .int 0, .int 0, .int 0, .int 0, .int 0, .int 0, .int 0, .int 0, .int 0, .int 0, .int 0, .int 0])), (q4, .inr (2, [.ref (v 5), .ref (v 7), .int 0, .int 0, .int 0, .int 0, .int 0, .int 0, .int 0, .int 0, .int 0, .int 0, .int 0])), (v 5, .inr (3, [.ref (v 6), .int 0, .int 0, .int 0, .int 0, .int 0, .int 0])), (v 6, .inl (cI, 8, .inl (fun _ => 0))), (v 7, .inl (cI, 4, .inl (fun _ => 0)))] := hD
  refine W.widen (k := 4) (n := 32) (by decide) (by decide) ?_
  refine va_putF (D := D) (ci := 1) (v := .ref q4) (ty := .object "PluggedBus$Device") (C := en_cn 1) (T := en_Ft 1) (N := en_N 1) hx hb hts (fun w hw => List.mem_cons_of_mem _ (ko_port_l w hw)) (en_ty 1) (en_ty_all 1 (by omega)) (en_nm_all 1 (by omega)) hown hK hP hD hS 0 rfl rfl 0 (by decide) (hall _ kf_port_device) (fun _ h9 => h9) rfl hin rfl (by decide +kernel) rfl rfl (Nat.le_of_ble_eq_true rfl) kd_port_12 (fun H locs hP hD hS => ?_)
  have hP : va_P D en_cl [(h0, .inr (1, [.ref q4, .int 0, .int 0, .int 0, .int 0, .int 0, .int 0, .int 0, .int 0, .int 0, .int 0, .int 0, .int 0])), (q4, .inr (2, [.ref (v 5), .ref (v 7), .int 0, .int 0, .int 0, .int 0, .int 0, .int 0, .int 0, .int 0, .int 0, .int 0, .int 0])), (v 5, .inr (3, [.ref (v 6), .int 0, .int 0, .int 0, .int 0, .int 0, .int 0])), (v 6, .inl (cI, 8, .inl (fun _ => 0))), (v 7, .inl (cI, 4, .inl (fun _ => 0)))] H := hP
  have hD : va_D A [(h0, .inr (1, [.ref q4, .int 0, .int 0, .int 0, .int 0, .int 0, .int 0, .int 0, .int 0, .int 0, .int 0, .int 0, .int 0])), (q4, .inr (2, [.ref (v 5), .ref (v 7), .int 0, .int 0, .int 0, .int 0, .int 0, .int 0, .int 0, .int 0, .int 0, .int 0, .int 0])), (v 5, .inr (3, [.ref (v 6), .int 0, .int 0, .int 0, .int 0, .int 0, .int 0])), (v 6, .inl (cI, 8, .inl (fun _ => 0))), (v 7, .inl (cI, 4, .inl (fun _ => 0)))] := hD
  refine lv_aload_n hx hb kd_port_15 rfl (lv_at hl 0 rfl) ?_
  refine lv_iconst (v := 0) hx hb kd_port_16 (by decide) ?_
  refine va_put (D := D) (ci := 1) (v := .int 0) (ty := .int) (C := en_cn 1) (T := en_Ft 1) (N := en_N 1) hx hb hts (fun w hw => List.mem_cons_of_mem _ (ko_port_l w hw)) (en_ty 1) (en_ty_all 1 (by omega)) (en_nm_all 1 (by omega)) hown hK hP hD hS 0 rfl rfl 3 (by decide) (hall _ kf_port_view) (fun _ h9 => h9) rfl (by decide +kernel) rfl rfl (Nat.le_of_ble_eq_true rfl) kd_port_17 (fun H locs hP hD hS => ?_)
  have hP : va_P D en_cl [(h0, .inr (1, [.ref q4, .int 0, .int 0, .int 0, .int 0, .int 0, .int 0, .int 0, .int 0, .int 0, .int 0, .int 0, .int 0])), (q4, .inr (2, [.ref (v 5), .ref (v 7), .int 0, .int 0, .int 0, .int 0, .int 0, .int 0, .int 0, .int 0, .int 0, .int 0, .int 0])), (v 5, .inr (3, [.ref (v 6), .int 0, .int 0, .int 0, .int 0, .int 0, .int 0])), (v 6, .inl (cI, 8, .inl (fun _ => 0))), (v 7, .inl (cI, 4, .inl (fun _ => 0)))] H := hP
  have hD : va_D A [(h0, .inr (1, [.ref q4, .int 0, .int 0, .int 0, .int 0, .int 0, .int 0, .int 0, .int 0, .int 0, .int 0, .int 0, .int 0])), (q4, .inr (2, [.ref (v 5), .ref (v 7), .int 0, .int 0, .int 0, .int 0, .int 0, .int 0, .int 0, .int 0, .int 0, .int 0, .int 0])), (v 5, .inr (3, [.ref (v 6), .int 0, .int 0, .int 0, .int 0, .int 0, .int 0])), (v 6, .inl (cI, 8, .inl (fun _ => 0))), (v 7, .inl (cI, 4, .inl (fun _ => 0)))] := hD
  have hK9 : va_K D en_cl [(cI, .int)] s := hK
  exact W.vret hx hb hr (fun t ht hW => ⟨⟨fun k => if k = 4 then q4 else v k, rfl, trivial, by rw [ht]; exact hP, va_K.moved hW.alike hK9, hD⟩, hS.F ht⟩) hS.2.2 kd_port_20
end Kc1
