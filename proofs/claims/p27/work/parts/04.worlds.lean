/-! THE CELLS. The class: six houses of 38 cells (0 now, 38 snapshot, 76.. the history's), then the object itself and its helpers. The reference: its object at 0, its rows behind. -/
def kxYs (Y : Nat) : Nat → hb_k
  | 0 => .inl (4, [none, none, none, some (Y + 1), some (Y + 2), some (Y + 3), some (Y + 4), some (Y + 5)])
  | 1 => .inr (.inl (.int, 8))
  | 2 => .inr (.inl (.int, 8))
  | 3 => .inr (.inl (.int, 20))
  | 4 => .inr (.inl (.int, 16))
  | _ => .inr (.inl (.int, 16))
def kxHs (B : Nat) : Nat → hb_k
  | 0 => .inl (2, [none, some (B + 1), some (B + 2), some (B + 3), some (B + 4), some (B + 5), some (B + 6), none, none, some (B + 8), none, some (B + 7)])
  | 1 => .inr (.inl (.int, 8))
  | 2 => .inr (.inl (.int, 20))
  | 3 => .inr (.inl (.int, 20))
  | 4 => .inr (.inl (.int, 20))
  | 5 => .inr (.inl (.int, 20))
  | 6 => .inr (.inl (.boolean, 20))
  | 7 => .inr (.inr (.inr ("HeatBills$Year", [B + 14, B + 20, B + 26, B + 32])))
  | r + 8 => kxYs (B + 8 + 6 * (r / 6)) (r % 6)
def kdX (k : Nat) : hb_k := if k < 228 then kxHs (38 * (k / 38)) (k % 38) else match k with
  | 228 => .inl (5, [some 0, some 38, none, some 229, some 231, some 235])
  | 229 => .inl (1, [some 230, none, none])
  | 230 => .inr (.inr (.inr ("HeatBills$House", [76, 114, 152, 190])))
  | 231 => .inl (3, [some 232, none, none, none, none, some 233, some 234])
  | 232 => .inr (.inl (.char, 60))
  | 233 => .inr (.inl (.int, 15))
  | 234 => .inr (.inl (.int, 15))
  | 235 => .inl (0, [some 236, some 237, some 238, some 239, some 240])
  | 239 => .inr (.inl (.int, 16))
  | 240 => .inr (.inr (.inl 8))
  | _ => .inr (.inl (.int, 8))
def kdM (k : Nat) : hb_k := match k with
  | 0 => .inl (6, [some 1, some 2, none, some 3, none, some 4, none, some 5, some 6, some 7, some 8, some 9, some 10, none, some 11, none])
  | 1 => .inr (.inl (.int, 415))
  | 2 => .inr (.inl (.int, 1660))
  | 3 => .inr (.inl (.int, 415))
  | 4 => .inr (.inl (.char, 60))
  | 7 => .inr (.inr (.inl 8))
  | 11 => .inr (.inl (.int, 64))
  | _ => .inr (.inl (.int, 8))
def hx_H (B : Nat) : Prop := ∃ j, j < 6 ∧ B = 38 * j
def hx_Y (Y : Nat) : Prop := ∃ j y, j < 6 ∧ y < 5 ∧ Y = 38 * j + 8 + 6 * y
def hx_n (a : Nat) : Nat := match kdX a with
  | .inr (.inl (_, n)) => n
  | _ => 0
def hm_n (a : Nat) : Nat := match kdM a with
  | .inr (.inl (_, n)) => n
  | _ => 0
def hx_I (a : Nat) : Prop := a < 241 ∧ kdX a = .inr (.inl (.int, hx_n a))
def hm_I (a : Nat) : Prop := a < 12 ∧ kdM a = .inr (.inl (.int, hm_n a))
theorem hx_no {a n : Nat} {ty : FieldType} (h : a < 241 ∧ kdX a = .inr (.inl (ty, n))) : hx_n a = n := by unfold hx_n; rw [h.2]
theorem hm_no {a n : Nat} {ty : FieldType} (h : a < 12 ∧ kdM a = .inr (.inl (ty, n))) : hm_n a = n := by unfold hm_n; rw [h.2]
theorem hx_Io {a n : Nat} (h : a < 241 ∧ kdX a = .inr (.inl (.int, n))) : hx_I a := ⟨h.1, by rw [hx_no h]; exact h.2⟩
theorem hm_Io {a n : Nat} (h : a < 12 ∧ kdM a = .inr (.inl (.int, n))) : hm_I a := ⟨h.1, by rw [hm_no h]; exact h.2⟩
theorem hx_H0 : hx_H 0 := ⟨0, by omega, rfl⟩
theorem hx_H1 : hx_H 38 := ⟨1, by omega, rfl⟩
theorem hx_Hs {i : Nat} (h : i < 4) : hx_H (76 + 38 * i) := ⟨i + 2, by omega, by omega⟩
theorem hx_Yo {B : Nat} (h : hx_H B) : hx_Y (B + 8) := by
  obtain ⟨j, hj, rfl⟩ := h
  exact ⟨j, 0, hj, by omega, by omega⟩
theorem hx_Yc {B i : Nat} (h : hx_H B) (hi : i < 4) : hx_Y (B + 14 + 6 * i) := by
  obtain ⟨j, hj, rfl⟩ := h
  exact ⟨j, i + 1, hj, by omega, by omega⟩
theorem kxH {B : Nat} (h : hx_H B) : B < 241 ∧ kdX B = .inl (2, [none, some (B + 1), some (B + 2), some (B + 3), some (B + 4), some (B + 5), some (B + 6), none, none, some (B + 8), none, some (B + 7)]) := by
  obtain ⟨j, hj, rfl⟩ := h
  rcases (show j = 0 ∨ j = 1 ∨ j = 2 ∨ j = 3 ∨ j = 4 ∨ j = 5 by omega) with rfl | rfl | rfl | rfl | rfl | rfl <;> exact ⟨by decide, rfl⟩
theorem kxH1 {B : Nat} (h : hx_H B) : (B + 1) < 241 ∧ kdX (B + 1) = .inr (.inl (.int, 8)) := by
  obtain ⟨j, hj, rfl⟩ := h
  rcases (show j = 0 ∨ j = 1 ∨ j = 2 ∨ j = 3 ∨ j = 4 ∨ j = 5 by omega) with rfl | rfl | rfl | rfl | rfl | rfl <;> exact ⟨by decide, rfl⟩
theorem kxH2 {B : Nat} (h : hx_H B) : (B + 2) < 241 ∧ kdX (B + 2) = .inr (.inl (.int, 20)) := by
  obtain ⟨j, hj, rfl⟩ := h
  rcases (show j = 0 ∨ j = 1 ∨ j = 2 ∨ j = 3 ∨ j = 4 ∨ j = 5 by omega) with rfl | rfl | rfl | rfl | rfl | rfl <;> exact ⟨by decide, rfl⟩
theorem kxH3 {B : Nat} (h : hx_H B) : (B + 3) < 241 ∧ kdX (B + 3) = .inr (.inl (.int, 20)) := by
  obtain ⟨j, hj, rfl⟩ := h
  rcases (show j = 0 ∨ j = 1 ∨ j = 2 ∨ j = 3 ∨ j = 4 ∨ j = 5 by omega) with rfl | rfl | rfl | rfl | rfl | rfl <;> exact ⟨by decide, rfl⟩
theorem kxH4 {B : Nat} (h : hx_H B) : (B + 4) < 241 ∧ kdX (B + 4) = .inr (.inl (.int, 20)) := by
  obtain ⟨j, hj, rfl⟩ := h
  rcases (show j = 0 ∨ j = 1 ∨ j = 2 ∨ j = 3 ∨ j = 4 ∨ j = 5 by omega) with rfl | rfl | rfl | rfl | rfl | rfl <;> exact ⟨by decide, rfl⟩
theorem kxH5 {B : Nat} (h : hx_H B) : (B + 5) < 241 ∧ kdX (B + 5) = .inr (.inl (.int, 20)) := by
  obtain ⟨j, hj, rfl⟩ := h
  rcases (show j = 0 ∨ j = 1 ∨ j = 2 ∨ j = 3 ∨ j = 4 ∨ j = 5 by omega) with rfl | rfl | rfl | rfl | rfl | rfl <;> exact ⟨by decide, rfl⟩
theorem kxH6 {B : Nat} (h : hx_H B) : (B + 6) < 241 ∧ kdX (B + 6) = .inr (.inl (.boolean, 20)) := by
  obtain ⟨j, hj, rfl⟩ := h
  rcases (show j = 0 ∨ j = 1 ∨ j = 2 ∨ j = 3 ∨ j = 4 ∨ j = 5 by omega) with rfl | rfl | rfl | rfl | rfl | rfl <;> exact ⟨by decide, rfl⟩
theorem kxH7 {B : Nat} (h : hx_H B) : (B + 7) < 241 ∧ kdX (B + 7) = .inr (.inr (.inr ("HeatBills$Year", [B + 14, B + 20, B + 26, B + 32]))) := by
  obtain ⟨j, hj, rfl⟩ := h
  rcases (show j = 0 ∨ j = 1 ∨ j = 2 ∨ j = 3 ∨ j = 4 ∨ j = 5 by omega) with rfl | rfl | rfl | rfl | rfl | rfl <;> exact ⟨by decide, rfl⟩
theorem kxH7c (B : Nat) : ∀ j, j < 4 → [B + 14, B + 20, B + 26, B + 32][j]? = some ((fun j => B + 14 + 6 * j) j) := by
  intro j hj
  rcases (show j = 0 ∨ j = 1 ∨ j = 2 ∨ j = 3 by omega) with rfl | rfl | rfl | rfl <;> rfl
theorem kx230c : ∀ j, j < 4 → [76, 114, 152, 190][j]? = some ((fun j => 76 + 38 * j) j) := by decide
theorem kxY {Y : Nat} (h : hx_Y Y) : Y < 241 ∧ kdX Y = .inl (4, [none, none, none, some (Y + 1), some (Y + 2), some (Y + 3), some (Y + 4), some (Y + 5)]) := by
  obtain ⟨j, y, hj, hy, rfl⟩ := h
  rcases (show j = 0 ∨ j = 1 ∨ j = 2 ∨ j = 3 ∨ j = 4 ∨ j = 5 by omega) with rfl | rfl | rfl | rfl | rfl | rfl <;> rcases (show y = 0 ∨ y = 1 ∨ y = 2 ∨ y = 3 ∨ y = 4 by omega) with rfl | rfl | rfl | rfl | rfl <;> exact ⟨by decide, rfl⟩
theorem kxY1 {Y : Nat} (h : hx_Y Y) : (Y + 1) < 241 ∧ kdX (Y + 1) = .inr (.inl (.int, 8)) := by
  obtain ⟨j, y, hj, hy, rfl⟩ := h
  rcases (show j = 0 ∨ j = 1 ∨ j = 2 ∨ j = 3 ∨ j = 4 ∨ j = 5 by omega) with rfl | rfl | rfl | rfl | rfl | rfl <;> rcases (show y = 0 ∨ y = 1 ∨ y = 2 ∨ y = 3 ∨ y = 4 by omega) with rfl | rfl | rfl | rfl | rfl <;> exact ⟨by decide, rfl⟩
theorem kxY2 {Y : Nat} (h : hx_Y Y) : (Y + 2) < 241 ∧ kdX (Y + 2) = .inr (.inl (.int, 8)) := by
  obtain ⟨j, y, hj, hy, rfl⟩ := h
  rcases (show j = 0 ∨ j = 1 ∨ j = 2 ∨ j = 3 ∨ j = 4 ∨ j = 5 by omega) with rfl | rfl | rfl | rfl | rfl | rfl <;> rcases (show y = 0 ∨ y = 1 ∨ y = 2 ∨ y = 3 ∨ y = 4 by omega) with rfl | rfl | rfl | rfl | rfl <;> exact ⟨by decide, rfl⟩
theorem kxY3 {Y : Nat} (h : hx_Y Y) : (Y + 3) < 241 ∧ kdX (Y + 3) = .inr (.inl (.int, 20)) := by
  obtain ⟨j, y, hj, hy, rfl⟩ := h
  rcases (show j = 0 ∨ j = 1 ∨ j = 2 ∨ j = 3 ∨ j = 4 ∨ j = 5 by omega) with rfl | rfl | rfl | rfl | rfl | rfl <;> rcases (show y = 0 ∨ y = 1 ∨ y = 2 ∨ y = 3 ∨ y = 4 by omega) with rfl | rfl | rfl | rfl | rfl <;> exact ⟨by decide, rfl⟩
theorem kxY4 {Y : Nat} (h : hx_Y Y) : (Y + 4) < 241 ∧ kdX (Y + 4) = .inr (.inl (.int, 16)) := by
  obtain ⟨j, y, hj, hy, rfl⟩ := h
  rcases (show j = 0 ∨ j = 1 ∨ j = 2 ∨ j = 3 ∨ j = 4 ∨ j = 5 by omega) with rfl | rfl | rfl | rfl | rfl | rfl <;> rcases (show y = 0 ∨ y = 1 ∨ y = 2 ∨ y = 3 ∨ y = 4 by omega) with rfl | rfl | rfl | rfl | rfl <;> exact ⟨by decide, rfl⟩
theorem kxY5 {Y : Nat} (h : hx_Y Y) : (Y + 5) < 241 ∧ kdX (Y + 5) = .inr (.inl (.int, 16)) := by
  obtain ⟨j, y, hj, hy, rfl⟩ := h
  rcases (show j = 0 ∨ j = 1 ∨ j = 2 ∨ j = 3 ∨ j = 4 ∨ j = 5 by omega) with rfl | rfl | rfl | rfl | rfl | rfl <;> rcases (show y = 0 ∨ y = 1 ∨ y = 2 ∨ y = 3 ∨ y = 4 by omega) with rfl | rfl | rfl | rfl | rfl <;> exact ⟨by decide, rfl⟩
theorem kx228 : 228 < 241 ∧ kdX 228 = .inl (5, [some 0, some 38, none, some 229, some 231, some 235]) := ⟨by decide, rfl⟩
theorem kx229 : 229 < 241 ∧ kdX 229 = .inl (1, [some 230, none, none]) := ⟨by decide, rfl⟩
theorem kx230 : 230 < 241 ∧ kdX 230 = .inr (.inr (.inr ("HeatBills$House", [76, 114, 152, 190]))) := ⟨by decide, rfl⟩
theorem kx231 : 231 < 241 ∧ kdX 231 = .inl (3, [some 232, none, none, none, none, some 233, some 234]) := ⟨by decide, rfl⟩
theorem kx232 : 232 < 241 ∧ kdX 232 = .inr (.inl (.char, 60)) := ⟨by decide, rfl⟩
theorem kx233 : 233 < 241 ∧ kdX 233 = .inr (.inl (.int, 15)) := ⟨by decide, rfl⟩
theorem kx234 : 234 < 241 ∧ kdX 234 = .inr (.inl (.int, 15)) := ⟨by decide, rfl⟩
theorem kx235 : 235 < 241 ∧ kdX 235 = .inl (0, [some 236, some 237, some 238, some 239, some 240]) := ⟨by decide, rfl⟩
theorem kx236 : 236 < 241 ∧ kdX 236 = .inr (.inl (.int, 8)) := ⟨by decide, rfl⟩
theorem kx237 : 237 < 241 ∧ kdX 237 = .inr (.inl (.int, 8)) := ⟨by decide, rfl⟩
theorem kx238 : 238 < 241 ∧ kdX 238 = .inr (.inl (.int, 8)) := ⟨by decide, rfl⟩
theorem kx239 : 239 < 241 ∧ kdX 239 = .inr (.inl (.int, 16)) := ⟨by decide, rfl⟩
theorem kx240 : 240 < 241 ∧ kdX 240 = .inr (.inr (.inl 8)) := ⟨by decide, rfl⟩
theorem km0 : 0 < 12 ∧ kdM 0 = .inl (6, [some 1, some 2, none, some 3, none, some 4, none, some 5, some 6, some 7, some 8, some 9, some 10, none, some 11, none]) := ⟨by decide, rfl⟩
theorem km1 : 1 < 12 ∧ kdM 1 = .inr (.inl (.int, 415)) := ⟨by decide, rfl⟩
theorem km2 : 2 < 12 ∧ kdM 2 = .inr (.inl (.int, 1660)) := ⟨by decide, rfl⟩
theorem km3 : 3 < 12 ∧ kdM 3 = .inr (.inl (.int, 415)) := ⟨by decide, rfl⟩
theorem km4 : 4 < 12 ∧ kdM 4 = .inr (.inl (.char, 60)) := ⟨by decide, rfl⟩
theorem km5 : 5 < 12 ∧ kdM 5 = .inr (.inl (.int, 8)) := ⟨by decide, rfl⟩
theorem km6 : 6 < 12 ∧ kdM 6 = .inr (.inl (.int, 8)) := ⟨by decide, rfl⟩
theorem km7 : 7 < 12 ∧ kdM 7 = .inr (.inr (.inl 8)) := ⟨by decide, rfl⟩
theorem km8 : 8 < 12 ∧ kdM 8 = .inr (.inl (.int, 8)) := ⟨by decide, rfl⟩
theorem km9 : 9 < 12 ∧ kdM 9 = .inr (.inl (.int, 8)) := ⟨by decide, rfl⟩
theorem km10 : 10 < 12 ∧ kdM 10 = .inr (.inl (.int, 8)) := ⟨by decide, rfl⟩
theorem km11 : 11 < 12 ∧ kdM 11 = .inr (.inl (.int, 64)) := ⟨by decide, rfl⟩
def tbX1f : Nat → Int32 := fun j => match j with
  | 0 => 99999
  | 1 => 100
  | _ => 1
def tbX2f : Nat → Int32 := fun j => match j with
  | 0 => 170
  | 1 => 150
  | 2 => 130
  | 3 => 80
  | 4 => 40
  | 5 => 13
  | 6 => 13
  | 7 => 14
  | 8 => 30
  | 9 => 80
  | 10 => 120
  | _ => 160
abbrev tbX1q (t : Nat) : hb_tb := ("HeatBills", "SETTING_LIMITS", "[I", t, 3, tbX1f)
abbrev tbX2q (t : Nat) : hb_tb := ("HeatBills", "MONTH_WEIGHTS", "[I", t, 12, tbX2f)
abbrev tbX (t1 t2 : Nat) : List hb_tb := [tbX1q t1, tbX2q t2]
theorem tbX1m (t1 t2 : Nat) : tbX1q t1 ∈ tbX t1 t2 := List.mem_cons_self
theorem tbX2m (t1 t2 : Nat) : tbX2q t2 ∈ tbX t1 t2 := List.mem_cons_of_mem _ List.mem_cons_self
abbrev nwX : List hb_nw := [("HeatBills$Accounts", 61, yX5_sumOf, "HeatBills"), ("HeatBills$Accounts", 89, yX5_tenantOf, "HeatBills"), ("HeatBills$House", 81, yX5_sumOf, "HeatBills"), ("HeatBills$Year", 49, yX5_weightsAhead, "HeatBills")]
theorem nwX_0 : (("HeatBills$Accounts", 61, yX5_sumOf, "HeatBills") : hb_nw) ∈ nwX := List.mem_of_getElem? (i := 0) rfl
theorem nwX_1 : (("HeatBills$Accounts", 89, yX5_tenantOf, "HeatBills") : hb_nw) ∈ nwX := List.mem_of_getElem? (i := 1) rfl
theorem nwX_2 : (("HeatBills$House", 81, yX5_sumOf, "HeatBills") : hb_nw) ∈ nwX := List.mem_of_getElem? (i := 2) rfl
theorem nwX_3 : (("HeatBills$Year", 49, yX5_weightsAhead, "HeatBills") : hb_nw) ∈ nwX := List.mem_of_getElem? (i := 3) rfl
