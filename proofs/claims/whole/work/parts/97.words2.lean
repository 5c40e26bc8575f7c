/-! words of making and throwing -/
theorem wi_De : Cond.instantiable "FormatDesk$Decimal" 5 ∈ ax_big := ax_in 177 (by decide +kernel) (by decide +kernel)
theorem wi_Di : Cond.instantiable "FormatDesk$Directive" 12 ∈ ax_big := ax_in 96 (by decide +kernel) (by decide +kernel)
theorem wi_Fo : Cond.instantiable "FormatDesk$Format" 2 ∈ ax_big := ax_in 80 (by decide +kernel) (by decide +kernel)
theorem wi_Pi : Cond.instantiable "FormatDesk$Piece" 3 ∈ ax_big := ax_in 159 (by decide +kernel) (by decide +kernel)
theorem wi_Wr : Cond.instantiable "FormatDesk$Writer" 2 ∈ ax_big := ax_in 153 (by decide +kernel) (by decide +kernel)
theorem wi_Fd : Cond.instantiable "FormatDesk" 10 ∈ ax_big := ax_in 72 (by decide +kernel) (by decide +kernel)
theorem wi_Mo : Cond.instantiable "FormatDeskModel" 30 ∈ ax_big := ax_in 740 (by decide +kernel) (by decide +kernel)
theorem wa_int : Cond.arrayClass FieldType.int ∈ ax_big := ax_in 836 (by decide +kernel) (by decide +kernel)
theorem wa_byte : Cond.arrayClass FieldType.byte ∈ ax_big := ax_in 94 (by decide +kernel) (by decide +kernel)
theorem wa_long : Cond.arrayClass FieldType.long ∈ ax_big := ax_in 151 (by decide +kernel) (by decide +kernel)
theorem wo_i : Cond.instanceMethod Lib.objectInit ∈ ax_big := ax_in 77 (by decide +kernel) (by decide +kernel)
theorem wo_c : Cond.code Lib.objectInit ⟨#[0xb1]⟩ 1 none ∈ ax_big := ax_in 78 (by decide +kernel) (by decide +kernel)
theorem kh_La_text : Cond.codeWith y_La_text c_La_text 5 (some FieldType.int) [(0, 9, 12, 13)] ∈ ax_big := ax_in 248 (by decide +kernel) (by decide +kernel)
theorem kh_La_argument : Cond.codeWith y_La_argument c_La_argument 5 (some FieldType.int) [(0, 9, 12, 13)] ∈ ax_big := ax_in 329 (by decide +kernel) (by decide +kernel)
theorem kh_La_run : Cond.codeWith y_La_run c_La_run 3 (some FieldType.int) [(0, 8, 11, 22), (0, 8, 14, 24)] ∈ ax_big := ax_in 336 (by decide +kernel) (by decide +kernel)
theorem kh_La_letters : Cond.codeWith y_La_letters c_La_letters 4 (some FieldType.int) [(0, 8, 11, 13)] ∈ ax_big := ax_in 727 (by decide +kernel) (by decide +kernel)
theorem kh_La_count : Cond.codeWith y_La_count c_La_count 4 (some FieldType.int) [(0, 9, 12, 22)] ∈ ax_big := ax_in 734 (by decide +kernel) (by decide +kernel)
theorem wx_IO : Cond.initialized "java/lang/IndexOutOfBoundsException" ∈ ax_big := ax_in 61 (by decide +kernel) (by decide +kernel)
set_option maxRecDepth 20000 in
theorem wt_IO : ∀ w ∈ vx_at0 "FormatDesk" 63 "java/lang/IndexOutOfBoundsException" ["java/lang/RuntimeException", "java/lang/Exception"], w ∈ ax_big ∨ w ∈ ax_oth := by decide +kernel
set_option maxRecDepth 20000 in
theorem wg_IO : ∀ w ∈ Cond.classLink "FormatDesk" 61 "java/lang/IndexOutOfBoundsException" :: Cond.initialized "java/lang/IndexOutOfBoundsException" :: vx_at0 "FormatDesk" 63 "java/lang/IndexOutOfBoundsException" ["java/lang/RuntimeException", "java/lang/Exception"], vx_ot w = true := by decide +kernel
theorem wx_IA : Cond.initialized "java/lang/IllegalArgumentException" ∈ ax_big := ax_in 68 (by decide +kernel) (by decide +kernel)
set_option maxRecDepth 20000 in
theorem wt_IA : ∀ w ∈ vx_at0 "FormatDesk" 77 "java/lang/IllegalArgumentException" ["java/lang/RuntimeException", "java/lang/Exception"], w ∈ ax_big ∨ w ∈ ax_oth := by decide +kernel
set_option maxRecDepth 20000 in
theorem wg_IA : ∀ w ∈ Cond.classLink "FormatDesk" 75 "java/lang/IllegalArgumentException" :: Cond.initialized "java/lang/IllegalArgumentException" :: vx_at0 "FormatDesk" 77 "java/lang/IllegalArgumentException" ["java/lang/RuntimeException", "java/lang/Exception"], vx_ot w = true := by decide +kernel
theorem wx_UO : Cond.initialized "java/lang/UnsupportedOperationException" ∈ ax_big := ax_in 69 (by decide +kernel) (by decide +kernel)
set_option maxRecDepth 20000 in
theorem wt_UO : ∀ w ∈ vx_at0 "FormatDesk" 84 "java/lang/UnsupportedOperationException" ["java/lang/RuntimeException", "java/lang/Exception"], w ∈ ax_big ∨ w ∈ ax_oth := by decide +kernel
set_option maxRecDepth 20000 in
theorem wg_UO : ∀ w ∈ Cond.classLink "FormatDesk" 82 "java/lang/UnsupportedOperationException" :: Cond.initialized "java/lang/UnsupportedOperationException" :: vx_at0 "FormatDesk" 84 "java/lang/UnsupportedOperationException" ["java/lang/RuntimeException", "java/lang/Exception"], vx_ot w = true := by decide +kernel
theorem wf_n : ∀ n ∈ ["java/lang/RuntimeException", "java/lang/Exception"], Bundle.fit n = true := by decide +kernel
theorem ax_kn {news : List Nat} (h : news.all (fun i => decide (i < 100)) = true) : ∀ i, 100 ≤ i → i ∉ news := fun i hi hm => by
  have := List.all_eq_true.mp h i hm
  have := of_decide_eq_true this
  omega
