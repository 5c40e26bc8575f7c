/-! MY NAMES: classes, fields, the words (all good ones of the tables), the nest's words -/
def ax_big : List Cond := lw_tbl.filter goodWord
theorem ax_in (i : Nat) {w : Cond} (h : lw_tbl[i]? = some w) (g : goodWord w = true) : w ∈ ax_big := List.mem_filter.mpr ⟨List.mem_of_getElem? h, g⟩
theorem ax_good : ∀ w ∈ ax_big, goodWord w = true := fun _ h => (List.mem_filter.mp h).2
theorem ax_big_tbl : ∀ w ∈ ax_big, w ∈ lw_tbl := fun _ h => (List.mem_filter.mp h).1
def ax_isN : Cond → Bool
  | .fieldLinkNest _ _ _ _ _ _ => true
  | .methodLinkNest _ _ _ _ => true
  | _ => false
def ax_nest : List Cond := lw_tbl.filter ax_isN
theorem ax_inN (i : Nat) {w : Cond} (h : lw_tbl[i]? = some w) (g : ax_isN w = true) : w ∈ ax_nest := List.mem_filter.mpr ⟨List.mem_of_getElem? h, g⟩
theorem ax_nest_warm {s U : State} (hW : s.WarmedH U.vm) (h : ∀ w ∈ ax_nest, va_Nw w s) : ∀ w ∈ ax_nest, va_Nw w U := by
  intro w hw
  have h1 := h w hw
  have h2 := (List.mem_filter.mp hw).2
  cases w with
  | fieldLinkNest a i b n d k => exact va_Nw.warmF hW h1
  | methodLinkNest a i x k => exact va_Nw.warmM hW h1
  | _ => simp [ax_isN] at h2
theorem ax_nest_same {u U : State} (hv : u.vm = U.vm) (h : ∀ w ∈ ax_nest, va_Nw w u) : ∀ w ∈ ax_nest, va_Nw w U := by
  intro w hw
  have h1 := h w hw
  have h2 := (List.mem_filter.mp hw).2
  cases w with
  | fieldLinkNest a i b n d k => exact va_Nw.same rfl hv h1
  | methodLinkNest a i x k => exact va_Nw.same rfl hv h1
  | _ => simp [ax_isN] at h2
def R_De : String := "FormatDesk$Decimal"
def T_De : u_T := fun k => match k with
  | 0 => ("FormatDesk$Decimal", "limbs", "[J", true)
  | 1 => ("FormatDesk$Decimal", "limbCount", "I", false)
  | 2 => ("FormatDesk$Decimal", "digits", "[B", true)
  | 3 => ("FormatDesk$Decimal", "digitCount", "I", false)
  | _ => ("FormatDesk$Decimal", "point", "I", false)
def t_De : Nat → FieldType := fun k => match k with
  | 0 => .array .long
  | 1 => .int
  | 2 => .array .byte
  | 3 => .int
  | _ => .int
theorem n_De : ∀ a, a < 5 → ∀ b, b < 5 → a ≠ b → (T_De a).2.1 ≠ (T_De b).2.1 := by decide +kernel
theorem t_De_ok : ∀ k, k < 5 → parseFieldDescriptor (T_De k).2.2.1 = some (t_De k) := by decide +kernel
theorem i_De : ∀ w ∈ u_ws R_De T_De 5, w ∈ ax_big := by decide +kernel
def R_Di : String := "FormatDesk$Directive"
def T_Di : u_T := fun k => match k with
  | 0 => ("FormatDesk$Directive", "left", "Z", false)
  | 1 => ("FormatDesk$Directive", "plus", "Z", false)
  | 2 => ("FormatDesk$Directive", "blank", "Z", false)
  | 3 => ("FormatDesk$Directive", "hash", "Z", false)
  | 4 => ("FormatDesk$Directive", "zero", "Z", false)
  | 5 => ("FormatDesk$Directive", "width", "I", false)
  | 6 => ("FormatDesk$Directive", "widthIsTaken", "Z", false)
  | 7 => ("FormatDesk$Directive", "precision", "I", false)
  | 8 => ("FormatDesk$Directive", "precisionIsTaken", "Z", false)
  | 9 => ("FormatDesk$Directive", "kind", "I", false)
  | 10 => ("FormatDesk$Directive", "great", "Z", false)
  | _ => ("FormatDesk$Directive", "at", "I", false)
def t_Di : Nat → FieldType := fun k => match k with
  | 0 => .boolean
  | 1 => .boolean
  | 2 => .boolean
  | 3 => .boolean
  | 4 => .boolean
  | 5 => .int
  | 6 => .boolean
  | 7 => .int
  | 8 => .boolean
  | 9 => .int
  | 10 => .boolean
  | _ => .int
theorem n_Di : ∀ a, a < 12 → ∀ b, b < 12 → a ≠ b → (T_Di a).2.1 ≠ (T_Di b).2.1 := by decide +kernel
theorem t_Di_ok : ∀ k, k < 12 → parseFieldDescriptor (T_Di k).2.2.1 = some (t_Di k) := by decide +kernel
theorem i_Di : ∀ w ∈ u_ws R_Di T_Di 12, w ∈ ax_big := by decide +kernel
def R_Fo : String := "FormatDesk$Format"
def T_Fo : u_T := fun k => match k with
  | 0 => ("FormatDesk$Format", "row", "[B", true)
  | _ => ("FormatDesk$Format", "size", "I", false)
def t_Fo : Nat → FieldType := fun k => match k with
  | 0 => .array .byte
  | _ => .int
theorem n_Fo : ∀ a, a < 2 → ∀ b, b < 2 → a ≠ b → (T_Fo a).2.1 ≠ (T_Fo b).2.1 := by decide +kernel
theorem t_Fo_ok : ∀ k, k < 2 → parseFieldDescriptor (T_Fo k).2.2.1 = some (t_Fo k) := by decide +kernel
theorem i_Fo : ∀ w ∈ u_ws R_Fo T_Fo 2, w ∈ ax_big := by decide +kernel
def R_Pi : String := "FormatDesk$Piece"
def T_Pi : u_T := fun k => match k with
  | 0 => ("FormatDesk$Piece", "row", "[B", true)
  | 1 => ("FormatDesk$Piece", "size", "I", false)
  | _ => ("FormatDesk$Piece", "zeroPlace", "I", false)
def t_Pi : Nat → FieldType := fun k => match k with
  | 0 => .array .byte
  | 1 => .int
  | _ => .int
theorem n_Pi : ∀ a, a < 3 → ∀ b, b < 3 → a ≠ b → (T_Pi a).2.1 ≠ (T_Pi b).2.1 := by decide +kernel
theorem t_Pi_ok : ∀ k, k < 3 → parseFieldDescriptor (T_Pi k).2.2.1 = some (t_Pi k) := by decide +kernel
theorem i_Pi : ∀ w ∈ u_ws R_Pi T_Pi 3, w ∈ ax_big := by decide +kernel
def R_Wr : String := "FormatDesk$Writer"
def T_Wr : u_T := fun k => match k with
  | 0 => ("FormatDesk$Writer", "piece", "LFormatDesk$Piece;", true)
  | _ => ("FormatDesk$Writer", "decimal", "LFormatDesk$Decimal;", true)
def t_Wr : Nat → FieldType := fun k => match k with
  | 0 => .object "FormatDesk$Piece"
  | _ => .object "FormatDesk$Decimal"
theorem n_Wr : ∀ a, a < 2 → ∀ b, b < 2 → a ≠ b → (T_Wr a).2.1 ≠ (T_Wr b).2.1 := by decide +kernel
theorem t_Wr_ok : ∀ k, k < 2 → parseFieldDescriptor (T_Wr k).2.2.1 = some (t_Wr k) := by decide +kernel
theorem i_Wr : ∀ w ∈ u_ws R_Wr T_Wr 2, w ∈ ax_big := by decide +kernel
def R_Fd : String := "FormatDesk"
def T_Fd : u_T := fun k => match k with
  | 0 => ("FormatDesk", "format", "LFormatDesk$Format;", true)
  | 1 => ("FormatDesk", "arguments", "[J", true)
  | 2 => ("FormatDesk", "argumentCount", "I", false)
  | 3 => ("FormatDesk", "out", "[B", true)
  | 4 => ("FormatDesk", "outCount", "I", false)
  | 5 => ("FormatDesk", "wrongAt", "I", false)
  | 6 => ("FormatDesk", "taken", "I", false)
  | 7 => ("FormatDesk", "directivesDone", "I", false)
  | 8 => ("FormatDesk", "directive", "LFormatDesk$Directive;", true)
  | _ => ("FormatDesk", "writer", "LFormatDesk$Writer;", true)
def t_Fd : Nat → FieldType := fun k => match k with
  | 0 => .object "FormatDesk$Format"
  | 1 => .array .long
  | 2 => .int
  | 3 => .array .byte
  | 4 => .int
  | 5 => .int
  | 6 => .int
  | 7 => .int
  | 8 => .object "FormatDesk$Directive"
  | _ => .object "FormatDesk$Writer"
theorem n_Fd : ∀ a, a < 10 → ∀ b, b < 10 → a ≠ b → (T_Fd a).2.1 ≠ (T_Fd b).2.1 := by decide +kernel
theorem t_Fd_ok : ∀ k, k < 10 → parseFieldDescriptor (T_Fd k).2.2.1 = some (t_Fd k) := by decide +kernel
theorem i_Fd : ∀ w ∈ u_ws R_Fd T_Fd 10, w ∈ ax_big := by decide +kernel
def R_Mo : String := "FormatDeskModel"
def T_Mo : u_T := fun k => match k with
  | 0 => ("FormatDeskModel", "err", "I", false)
  | 1 => ("FormatDeskModel", "letters", "I", false)
  | 2 => ("FormatDeskModel", "many", "I", false)
  | 3 => ("FormatDeskModel", "out", "I", false)
  | 4 => ("FormatDeskModel", "taken", "I", false)
  | 5 => ("FormatDeskModel", "did", "I", false)
  | 6 => ("FormatDeskModel", "wrong", "I", false)
  | 7 => ("FormatDeskModel", "format", "[I", true)
  | 8 => ("FormatDeskModel", "put", "[I", true)
  | 9 => ("FormatDeskModel", "argument", "[J", true)
  | 10 => ("FormatDeskModel", "at", "I", false)
  | 11 => ("FormatDeskModel", "width", "I", false)
  | 12 => ("FormatDeskModel", "precision", "I", false)
  | 13 => ("FormatDeskModel", "left", "Z", false)
  | 14 => ("FormatDeskModel", "plus", "Z", false)
  | 15 => ("FormatDeskModel", "blank", "Z", false)
  | 16 => ("FormatDeskModel", "hash", "Z", false)
  | 17 => ("FormatDeskModel", "zero", "Z", false)
  | 18 => ("FormatDeskModel", "widthTaken", "Z", false)
  | 19 => ("FormatDeskModel", "precisionTaken", "Z", false)
  | 20 => ("FormatDeskModel", "front", "[I", true)
  | 21 => ("FormatDeskModel", "body", "[I", true)
  | 22 => ("FormatDeskModel", "fronts", "I", false)
  | 23 => ("FormatDeskModel", "size", "I", false)
  | 24 => ("FormatDeskModel", "zeros", "Z", false)
  | 25 => ("FormatDeskModel", "row", "[I", true)
  | 26 => ("FormatDeskModel", "digits", "[I", true)
  | 27 => ("FormatDeskModel", "other", "[I", true)
  | 28 => ("FormatDeskModel", "count", "I", false)
  | _ => ("FormatDeskModel", "point", "I", false)
def t_Mo : Nat → FieldType := fun k => match k with
  | 0 => .int
  | 1 => .int
  | 2 => .int
  | 3 => .int
  | 4 => .int
  | 5 => .int
  | 6 => .int
  | 7 => .array .int
  | 8 => .array .int
  | 9 => .array .long
  | 10 => .int
  | 11 => .int
  | 12 => .int
  | 13 => .boolean
  | 14 => .boolean
  | 15 => .boolean
  | 16 => .boolean
  | 17 => .boolean
  | 18 => .boolean
  | 19 => .boolean
  | 20 => .array .int
  | 21 => .array .int
  | 22 => .int
  | 23 => .int
  | 24 => .boolean
  | 25 => .array .int
  | 26 => .array .int
  | 27 => .array .int
  | 28 => .int
  | _ => .int
theorem n_Mo : ∀ a, a < 30 → ∀ b, b < 30 → a ≠ b → (T_Mo a).2.1 ≠ (T_Mo b).2.1 := by decide +kernel
theorem t_Mo_ok : ∀ k, k < 30 → parseFieldDescriptor (T_Mo k).2.2.1 = some (t_Mo k) := by decide +kernel
theorem i_Mo : ∀ w ∈ u_ws R_Mo T_Mo 30, w ∈ ax_big := by decide +kernel
abbrev ax_cl : List vw_C := [(R_De, T_De, 5), (R_Di, T_Di, 12), (R_Fo, T_Fo, 2), (R_Pi, T_Pi, 3), (R_Wr, T_Wr, 2), (R_Fd, T_Fd, 10), (R_Mo, T_Mo, 30)]
def ax_ty (ci : Nat) : Nat → FieldType := match ci with
  | 0 => t_De
  | 1 => t_Di
  | 2 => t_Fo
  | 3 => t_Pi
  | 4 => t_Wr
  | 5 => t_Fd
  | _ => t_Mo
theorem ax_tyok {ci : Nat} {C : String} {T : u_T} {N : Nat} (hc : ax_cl[ci]? = some (C, T, N)) : ∀ k, k < N → parseFieldDescriptor (T k).2.2.1 = some (ax_ty ci k) := by
  match ci, hc with
  | 0, hc => cases hc; exact t_De_ok
  | 1, hc => cases hc; exact t_Di_ok
  | 2, hc => cases hc; exact t_Fo_ok
  | 3, hc => cases hc; exact t_Pi_ok
  | 4, hc => cases hc; exact t_Wr_ok
  | 5, hc => cases hc; exact t_Fd_ok
  | 6, hc => cases hc; exact t_Mo_ok
  | n + 7, hc => simp [ax_cl] at hc
theorem ax_names {ci : Nat} {C : String} {T : u_T} {N : Nat} (hc : ax_cl[ci]? = some (C, T, N)) : ∀ a, a < N → ∀ b, b < N → a ≠ b → (T a).2.1 ≠ (T b).2.1 := by
  match ci, hc with
  | 0, hc => cases hc; exact n_De
  | 1, hc => cases hc; exact n_Di
  | 2, hc => cases hc; exact n_Fo
  | 3, hc => cases hc; exact n_Pi
  | 4, hc => cases hc; exact n_Wr
  | 5, hc => cases hc; exact n_Fd
  | 6, hc => cases hc; exact n_Mo
  | n + 7, hc => simp [ax_cl] at hc
theorem ax_laysB {ci : Nat} {C : String} {T : u_T} {N : Nat} (hc : ax_cl[ci]? = some (C, T, N)) : ∀ w ∈ u_ws C T N, w ∈ ax_big := by
  match ci, hc with
  | 0, hc => cases hc; exact i_De
  | 1, hc => cases hc; exact i_Di
  | 2, hc => cases hc; exact i_Fo
  | 3, hc => cases hc; exact i_Pi
  | 4, hc => cases hc; exact i_Wr
  | 5, hc => cases hc; exact i_Fd
  | 6, hc => cases hc; exact i_Mo
  | n + 7, hc => simp [ax_cl] at hc
