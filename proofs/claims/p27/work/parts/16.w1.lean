/-! THE WORLD behind the class's constructor -/
def xA (b a0 a1 : Nat) (h1 h2 i1 i2 i3 i4 : hS) (tx ac : Nat → Nat) : Nat → Nat := fun k => if k < 228 then ([h1, h2, i1, i2, i3, i4].getD (k / 38) h1).1 (k % 38) else if k < 231 then [b, a0, a1].getD (k - 228) 0 else if k < 235 then tx (k - 231) else ac (k - 235)
def xU (h1 h2 i1 i2 i3 i4 : hS) : Nat → Nat → Int32 := fun k => if k < 228 then ([h1, h2, i1, i2, i3, i4].getD (k / 38) h1).2.1 (k % 38) else fun _ => 0
def xPos : Nat → Nat := fun k => if k < 228 then [203, 165, 127, 89, 51, 13].getD (k / 38) 0 + k % 38 else [0, 11, 12, 7, 8, 9, 10, 1, 2, 3, 4, 5, 6].getD (k - 228) 0
set_option maxRecDepth 100000 in
theorem xw_0 {cI cZ cC cJ cY cH : ClassId} {b a0 a1 : Nat} {h1 h2 i1 i2 i3 i4 : hS} {rw : Nat → Option Nat} {tx ac : Nat → Nat} : (xW cI cZ cC cJ cY cH (b, (h1, h2), ((a0, a1), (i1, i2, i3, i4), rw), tx, ac))[203]? = some ((xA b a0 a1 h1 h2 i1 i2 i3 i4 tx ac) 0, (hb_E0 (xA b a0 a1 h1 h2 i1 i2 i3 i4 tx ac) (bD cI cZ cC cJ cY cH kdX) kdX (xU h1 h2 i1 i2 i3 i4) (fun _ _ => 0)) 0) := rfl
set_option maxRecDepth 100000 in
theorem xw_1 {cI cZ cC cJ cY cH : ClassId} {b a0 a1 : Nat} {h1 h2 i1 i2 i3 i4 : hS} {rw : Nat → Option Nat} {tx ac : Nat → Nat} : (xW cI cZ cC cJ cY cH (b, (h1, h2), ((a0, a1), (i1, i2, i3, i4), rw), tx, ac))[204]? = some ((xA b a0 a1 h1 h2 i1 i2 i3 i4 tx ac) 1, (hb_E0 (xA b a0 a1 h1 h2 i1 i2 i3 i4 tx ac) (bD cI cZ cC cJ cY cH kdX) kdX (xU h1 h2 i1 i2 i3 i4) (fun _ _ => 0)) 1) := rfl
set_option maxRecDepth 100000 in
theorem xw_2 {cI cZ cC cJ cY cH : ClassId} {b a0 a1 : Nat} {h1 h2 i1 i2 i3 i4 : hS} {rw : Nat → Option Nat} {tx ac : Nat → Nat} : (xW cI cZ cC cJ cY cH (b, (h1, h2), ((a0, a1), (i1, i2, i3, i4), rw), tx, ac))[205]? = some ((xA b a0 a1 h1 h2 i1 i2 i3 i4 tx ac) 2, (hb_E0 (xA b a0 a1 h1 h2 i1 i2 i3 i4 tx ac) (bD cI cZ cC cJ cY cH kdX) kdX (xU h1 h2 i1 i2 i3 i4) (fun _ _ => 0)) 2) := rfl
set_option maxRecDepth 100000 in
theorem xw_3 {cI cZ cC cJ cY cH : ClassId} {b a0 a1 : Nat} {h1 h2 i1 i2 i3 i4 : hS} {rw : Nat → Option Nat} {tx ac : Nat → Nat} : (xW cI cZ cC cJ cY cH (b, (h1, h2), ((a0, a1), (i1, i2, i3, i4), rw), tx, ac))[206]? = some ((xA b a0 a1 h1 h2 i1 i2 i3 i4 tx ac) 3, (hb_E0 (xA b a0 a1 h1 h2 i1 i2 i3 i4 tx ac) (bD cI cZ cC cJ cY cH kdX) kdX (xU h1 h2 i1 i2 i3 i4) (fun _ _ => 0)) 3) := rfl
set_option maxRecDepth 100000 in
theorem xw_4 {cI cZ cC cJ cY cH : ClassId} {b a0 a1 : Nat} {h1 h2 i1 i2 i3 i4 : hS} {rw : Nat → Option Nat} {tx ac : Nat → Nat} : (xW cI cZ cC cJ cY cH (b, (h1, h2), ((a0, a1), (i1, i2, i3, i4), rw), tx, ac))[207]? = some ((xA b a0 a1 h1 h2 i1 i2 i3 i4 tx ac) 4, (hb_E0 (xA b a0 a1 h1 h2 i1 i2 i3 i4 tx ac) (bD cI cZ cC cJ cY cH kdX) kdX (xU h1 h2 i1 i2 i3 i4) (fun _ _ => 0)) 4) := rfl
set_option maxRecDepth 100000 in
theorem xw_5 {cI cZ cC cJ cY cH : ClassId} {b a0 a1 : Nat} {h1 h2 i1 i2 i3 i4 : hS} {rw : Nat → Option Nat} {tx ac : Nat → Nat} : (xW cI cZ cC cJ cY cH (b, (h1, h2), ((a0, a1), (i1, i2, i3, i4), rw), tx, ac))[208]? = some ((xA b a0 a1 h1 h2 i1 i2 i3 i4 tx ac) 5, (hb_E0 (xA b a0 a1 h1 h2 i1 i2 i3 i4 tx ac) (bD cI cZ cC cJ cY cH kdX) kdX (xU h1 h2 i1 i2 i3 i4) (fun _ _ => 0)) 5) := rfl
set_option maxRecDepth 100000 in
theorem xw_6 {cI cZ cC cJ cY cH : ClassId} {b a0 a1 : Nat} {h1 h2 i1 i2 i3 i4 : hS} {rw : Nat → Option Nat} {tx ac : Nat → Nat} : (xW cI cZ cC cJ cY cH (b, (h1, h2), ((a0, a1), (i1, i2, i3, i4), rw), tx, ac))[209]? = some ((xA b a0 a1 h1 h2 i1 i2 i3 i4 tx ac) 6, (hb_E0 (xA b a0 a1 h1 h2 i1 i2 i3 i4 tx ac) (bD cI cZ cC cJ cY cH kdX) kdX (xU h1 h2 i1 i2 i3 i4) (fun _ _ => 0)) 6) := rfl
set_option maxRecDepth 100000 in
theorem xw_7 {cI cZ cC cJ cY cH : ClassId} {b a0 a1 : Nat} {h1 h2 i1 i2 i3 i4 : hS} {rw : Nat → Option Nat} {tx ac : Nat → Nat} (h : h1.2.2 = fun j => ([14, 20, 26, 32][j]?).map h1.1) : (xW cI cZ cC cJ cY cH (b, (h1, h2), ((a0, a1), (i1, i2, i3, i4), rw), tx, ac))[210]? = some ((xA b a0 a1 h1 h2 i1 i2 i3 i4 tx ac) 7, (hb_E0 (xA b a0 a1 h1 h2 i1 i2 i3 i4 tx ac) (bD cI cZ cC cJ cY cH kdX) kdX (xU h1 h2 i1 i2 i3 i4) (fun _ _ => 0)) 7) := by
  rw [show (xW cI cZ cC cJ cY cH (b, (h1, h2), ((a0, a1), (i1, i2, i3, i4), rw), tx, ac))[210]? = some ((xA b a0 a1 h1 h2 i1 i2 i3 i4 tx ac) 7, .inl (cY, 4, .inr (.inr (.inr (.inr h1.2.2))))) from rfl, h]
  rw [show (fun j => ([14, 20, 26, 32][j]?).map h1.1) = fun j => ([14, 20, 26, 32][j]?).map (xA b a0 a1 h1 h2 i1 i2 i3 i4 tx ac) from funext (fun j => match j with
    | 0 => rfl
    | 1 => rfl
    | 2 => rfl
    | 3 => rfl
    | j + 4 => rfl)]
  rfl
set_option maxRecDepth 100000 in
theorem xw_8 {cI cZ cC cJ cY cH : ClassId} {b a0 a1 : Nat} {h1 h2 i1 i2 i3 i4 : hS} {rw : Nat → Option Nat} {tx ac : Nat → Nat} : (xW cI cZ cC cJ cY cH (b, (h1, h2), ((a0, a1), (i1, i2, i3, i4), rw), tx, ac))[211]? = some ((xA b a0 a1 h1 h2 i1 i2 i3 i4 tx ac) 8, (hb_E0 (xA b a0 a1 h1 h2 i1 i2 i3 i4 tx ac) (bD cI cZ cC cJ cY cH kdX) kdX (xU h1 h2 i1 i2 i3 i4) (fun _ _ => 0)) 8) := rfl
set_option maxRecDepth 100000 in
theorem xw_9 {cI cZ cC cJ cY cH : ClassId} {b a0 a1 : Nat} {h1 h2 i1 i2 i3 i4 : hS} {rw : Nat → Option Nat} {tx ac : Nat → Nat} : (xW cI cZ cC cJ cY cH (b, (h1, h2), ((a0, a1), (i1, i2, i3, i4), rw), tx, ac))[212]? = some ((xA b a0 a1 h1 h2 i1 i2 i3 i4 tx ac) 9, (hb_E0 (xA b a0 a1 h1 h2 i1 i2 i3 i4 tx ac) (bD cI cZ cC cJ cY cH kdX) kdX (xU h1 h2 i1 i2 i3 i4) (fun _ _ => 0)) 9) := rfl
set_option maxRecDepth 100000 in
theorem xw_10 {cI cZ cC cJ cY cH : ClassId} {b a0 a1 : Nat} {h1 h2 i1 i2 i3 i4 : hS} {rw : Nat → Option Nat} {tx ac : Nat → Nat} : (xW cI cZ cC cJ cY cH (b, (h1, h2), ((a0, a1), (i1, i2, i3, i4), rw), tx, ac))[213]? = some ((xA b a0 a1 h1 h2 i1 i2 i3 i4 tx ac) 10, (hb_E0 (xA b a0 a1 h1 h2 i1 i2 i3 i4 tx ac) (bD cI cZ cC cJ cY cH kdX) kdX (xU h1 h2 i1 i2 i3 i4) (fun _ _ => 0)) 10) := rfl
set_option maxRecDepth 100000 in
theorem xw_11 {cI cZ cC cJ cY cH : ClassId} {b a0 a1 : Nat} {h1 h2 i1 i2 i3 i4 : hS} {rw : Nat → Option Nat} {tx ac : Nat → Nat} : (xW cI cZ cC cJ cY cH (b, (h1, h2), ((a0, a1), (i1, i2, i3, i4), rw), tx, ac))[214]? = some ((xA b a0 a1 h1 h2 i1 i2 i3 i4 tx ac) 11, (hb_E0 (xA b a0 a1 h1 h2 i1 i2 i3 i4 tx ac) (bD cI cZ cC cJ cY cH kdX) kdX (xU h1 h2 i1 i2 i3 i4) (fun _ _ => 0)) 11) := rfl
set_option maxRecDepth 100000 in
theorem xw_12 {cI cZ cC cJ cY cH : ClassId} {b a0 a1 : Nat} {h1 h2 i1 i2 i3 i4 : hS} {rw : Nat → Option Nat} {tx ac : Nat → Nat} : (xW cI cZ cC cJ cY cH (b, (h1, h2), ((a0, a1), (i1, i2, i3, i4), rw), tx, ac))[215]? = some ((xA b a0 a1 h1 h2 i1 i2 i3 i4 tx ac) 12, (hb_E0 (xA b a0 a1 h1 h2 i1 i2 i3 i4 tx ac) (bD cI cZ cC cJ cY cH kdX) kdX (xU h1 h2 i1 i2 i3 i4) (fun _ _ => 0)) 12) := rfl
set_option maxRecDepth 100000 in
theorem xw_13 {cI cZ cC cJ cY cH : ClassId} {b a0 a1 : Nat} {h1 h2 i1 i2 i3 i4 : hS} {rw : Nat → Option Nat} {tx ac : Nat → Nat} : (xW cI cZ cC cJ cY cH (b, (h1, h2), ((a0, a1), (i1, i2, i3, i4), rw), tx, ac))[216]? = some ((xA b a0 a1 h1 h2 i1 i2 i3 i4 tx ac) 13, (hb_E0 (xA b a0 a1 h1 h2 i1 i2 i3 i4 tx ac) (bD cI cZ cC cJ cY cH kdX) kdX (xU h1 h2 i1 i2 i3 i4) (fun _ _ => 0)) 13) := rfl
set_option maxRecDepth 100000 in
theorem xw_14 {cI cZ cC cJ cY cH : ClassId} {b a0 a1 : Nat} {h1 h2 i1 i2 i3 i4 : hS} {rw : Nat → Option Nat} {tx ac : Nat → Nat} : (xW cI cZ cC cJ cY cH (b, (h1, h2), ((a0, a1), (i1, i2, i3, i4), rw), tx, ac))[217]? = some ((xA b a0 a1 h1 h2 i1 i2 i3 i4 tx ac) 14, (hb_E0 (xA b a0 a1 h1 h2 i1 i2 i3 i4 tx ac) (bD cI cZ cC cJ cY cH kdX) kdX (xU h1 h2 i1 i2 i3 i4) (fun _ _ => 0)) 14) := rfl
set_option maxRecDepth 100000 in
theorem xw_15 {cI cZ cC cJ cY cH : ClassId} {b a0 a1 : Nat} {h1 h2 i1 i2 i3 i4 : hS} {rw : Nat → Option Nat} {tx ac : Nat → Nat} : (xW cI cZ cC cJ cY cH (b, (h1, h2), ((a0, a1), (i1, i2, i3, i4), rw), tx, ac))[218]? = some ((xA b a0 a1 h1 h2 i1 i2 i3 i4 tx ac) 15, (hb_E0 (xA b a0 a1 h1 h2 i1 i2 i3 i4 tx ac) (bD cI cZ cC cJ cY cH kdX) kdX (xU h1 h2 i1 i2 i3 i4) (fun _ _ => 0)) 15) := rfl
set_option maxRecDepth 100000 in
theorem xw_16 {cI cZ cC cJ cY cH : ClassId} {b a0 a1 : Nat} {h1 h2 i1 i2 i3 i4 : hS} {rw : Nat → Option Nat} {tx ac : Nat → Nat} : (xW cI cZ cC cJ cY cH (b, (h1, h2), ((a0, a1), (i1, i2, i3, i4), rw), tx, ac))[219]? = some ((xA b a0 a1 h1 h2 i1 i2 i3 i4 tx ac) 16, (hb_E0 (xA b a0 a1 h1 h2 i1 i2 i3 i4 tx ac) (bD cI cZ cC cJ cY cH kdX) kdX (xU h1 h2 i1 i2 i3 i4) (fun _ _ => 0)) 16) := rfl
set_option maxRecDepth 100000 in
theorem xw_17 {cI cZ cC cJ cY cH : ClassId} {b a0 a1 : Nat} {h1 h2 i1 i2 i3 i4 : hS} {rw : Nat → Option Nat} {tx ac : Nat → Nat} : (xW cI cZ cC cJ cY cH (b, (h1, h2), ((a0, a1), (i1, i2, i3, i4), rw), tx, ac))[220]? = some ((xA b a0 a1 h1 h2 i1 i2 i3 i4 tx ac) 17, (hb_E0 (xA b a0 a1 h1 h2 i1 i2 i3 i4 tx ac) (bD cI cZ cC cJ cY cH kdX) kdX (xU h1 h2 i1 i2 i3 i4) (fun _ _ => 0)) 17) := rfl
set_option maxRecDepth 100000 in
theorem xw_18 {cI cZ cC cJ cY cH : ClassId} {b a0 a1 : Nat} {h1 h2 i1 i2 i3 i4 : hS} {rw : Nat → Option Nat} {tx ac : Nat → Nat} : (xW cI cZ cC cJ cY cH (b, (h1, h2), ((a0, a1), (i1, i2, i3, i4), rw), tx, ac))[221]? = some ((xA b a0 a1 h1 h2 i1 i2 i3 i4 tx ac) 18, (hb_E0 (xA b a0 a1 h1 h2 i1 i2 i3 i4 tx ac) (bD cI cZ cC cJ cY cH kdX) kdX (xU h1 h2 i1 i2 i3 i4) (fun _ _ => 0)) 18) := rfl
set_option maxRecDepth 100000 in
theorem xw_19 {cI cZ cC cJ cY cH : ClassId} {b a0 a1 : Nat} {h1 h2 i1 i2 i3 i4 : hS} {rw : Nat → Option Nat} {tx ac : Nat → Nat} : (xW cI cZ cC cJ cY cH (b, (h1, h2), ((a0, a1), (i1, i2, i3, i4), rw), tx, ac))[222]? = some ((xA b a0 a1 h1 h2 i1 i2 i3 i4 tx ac) 19, (hb_E0 (xA b a0 a1 h1 h2 i1 i2 i3 i4 tx ac) (bD cI cZ cC cJ cY cH kdX) kdX (xU h1 h2 i1 i2 i3 i4) (fun _ _ => 0)) 19) := rfl
set_option maxRecDepth 100000 in
theorem xw_20 {cI cZ cC cJ cY cH : ClassId} {b a0 a1 : Nat} {h1 h2 i1 i2 i3 i4 : hS} {rw : Nat → Option Nat} {tx ac : Nat → Nat} : (xW cI cZ cC cJ cY cH (b, (h1, h2), ((a0, a1), (i1, i2, i3, i4), rw), tx, ac))[223]? = some ((xA b a0 a1 h1 h2 i1 i2 i3 i4 tx ac) 20, (hb_E0 (xA b a0 a1 h1 h2 i1 i2 i3 i4 tx ac) (bD cI cZ cC cJ cY cH kdX) kdX (xU h1 h2 i1 i2 i3 i4) (fun _ _ => 0)) 20) := rfl
set_option maxRecDepth 100000 in
theorem xw_21 {cI cZ cC cJ cY cH : ClassId} {b a0 a1 : Nat} {h1 h2 i1 i2 i3 i4 : hS} {rw : Nat → Option Nat} {tx ac : Nat → Nat} : (xW cI cZ cC cJ cY cH (b, (h1, h2), ((a0, a1), (i1, i2, i3, i4), rw), tx, ac))[224]? = some ((xA b a0 a1 h1 h2 i1 i2 i3 i4 tx ac) 21, (hb_E0 (xA b a0 a1 h1 h2 i1 i2 i3 i4 tx ac) (bD cI cZ cC cJ cY cH kdX) kdX (xU h1 h2 i1 i2 i3 i4) (fun _ _ => 0)) 21) := rfl
set_option maxRecDepth 100000 in
theorem xw_22 {cI cZ cC cJ cY cH : ClassId} {b a0 a1 : Nat} {h1 h2 i1 i2 i3 i4 : hS} {rw : Nat → Option Nat} {tx ac : Nat → Nat} : (xW cI cZ cC cJ cY cH (b, (h1, h2), ((a0, a1), (i1, i2, i3, i4), rw), tx, ac))[225]? = some ((xA b a0 a1 h1 h2 i1 i2 i3 i4 tx ac) 22, (hb_E0 (xA b a0 a1 h1 h2 i1 i2 i3 i4 tx ac) (bD cI cZ cC cJ cY cH kdX) kdX (xU h1 h2 i1 i2 i3 i4) (fun _ _ => 0)) 22) := rfl
set_option maxRecDepth 100000 in
theorem xw_23 {cI cZ cC cJ cY cH : ClassId} {b a0 a1 : Nat} {h1 h2 i1 i2 i3 i4 : hS} {rw : Nat → Option Nat} {tx ac : Nat → Nat} : (xW cI cZ cC cJ cY cH (b, (h1, h2), ((a0, a1), (i1, i2, i3, i4), rw), tx, ac))[226]? = some ((xA b a0 a1 h1 h2 i1 i2 i3 i4 tx ac) 23, (hb_E0 (xA b a0 a1 h1 h2 i1 i2 i3 i4 tx ac) (bD cI cZ cC cJ cY cH kdX) kdX (xU h1 h2 i1 i2 i3 i4) (fun _ _ => 0)) 23) := rfl
set_option maxRecDepth 100000 in
theorem xw_24 {cI cZ cC cJ cY cH : ClassId} {b a0 a1 : Nat} {h1 h2 i1 i2 i3 i4 : hS} {rw : Nat → Option Nat} {tx ac : Nat → Nat} : (xW cI cZ cC cJ cY cH (b, (h1, h2), ((a0, a1), (i1, i2, i3, i4), rw), tx, ac))[227]? = some ((xA b a0 a1 h1 h2 i1 i2 i3 i4 tx ac) 24, (hb_E0 (xA b a0 a1 h1 h2 i1 i2 i3 i4 tx ac) (bD cI cZ cC cJ cY cH kdX) kdX (xU h1 h2 i1 i2 i3 i4) (fun _ _ => 0)) 24) := rfl
set_option maxRecDepth 100000 in
theorem xw_25 {cI cZ cC cJ cY cH : ClassId} {b a0 a1 : Nat} {h1 h2 i1 i2 i3 i4 : hS} {rw : Nat → Option Nat} {tx ac : Nat → Nat} : (xW cI cZ cC cJ cY cH (b, (h1, h2), ((a0, a1), (i1, i2, i3, i4), rw), tx, ac))[228]? = some ((xA b a0 a1 h1 h2 i1 i2 i3 i4 tx ac) 25, (hb_E0 (xA b a0 a1 h1 h2 i1 i2 i3 i4 tx ac) (bD cI cZ cC cJ cY cH kdX) kdX (xU h1 h2 i1 i2 i3 i4) (fun _ _ => 0)) 25) := rfl
set_option maxRecDepth 100000 in
theorem xw_26 {cI cZ cC cJ cY cH : ClassId} {b a0 a1 : Nat} {h1 h2 i1 i2 i3 i4 : hS} {rw : Nat → Option Nat} {tx ac : Nat → Nat} : (xW cI cZ cC cJ cY cH (b, (h1, h2), ((a0, a1), (i1, i2, i3, i4), rw), tx, ac))[229]? = some ((xA b a0 a1 h1 h2 i1 i2 i3 i4 tx ac) 26, (hb_E0 (xA b a0 a1 h1 h2 i1 i2 i3 i4 tx ac) (bD cI cZ cC cJ cY cH kdX) kdX (xU h1 h2 i1 i2 i3 i4) (fun _ _ => 0)) 26) := rfl
set_option maxRecDepth 100000 in
theorem xw_27 {cI cZ cC cJ cY cH : ClassId} {b a0 a1 : Nat} {h1 h2 i1 i2 i3 i4 : hS} {rw : Nat → Option Nat} {tx ac : Nat → Nat} : (xW cI cZ cC cJ cY cH (b, (h1, h2), ((a0, a1), (i1, i2, i3, i4), rw), tx, ac))[230]? = some ((xA b a0 a1 h1 h2 i1 i2 i3 i4 tx ac) 27, (hb_E0 (xA b a0 a1 h1 h2 i1 i2 i3 i4 tx ac) (bD cI cZ cC cJ cY cH kdX) kdX (xU h1 h2 i1 i2 i3 i4) (fun _ _ => 0)) 27) := rfl
set_option maxRecDepth 100000 in
theorem xw_28 {cI cZ cC cJ cY cH : ClassId} {b a0 a1 : Nat} {h1 h2 i1 i2 i3 i4 : hS} {rw : Nat → Option Nat} {tx ac : Nat → Nat} : (xW cI cZ cC cJ cY cH (b, (h1, h2), ((a0, a1), (i1, i2, i3, i4), rw), tx, ac))[231]? = some ((xA b a0 a1 h1 h2 i1 i2 i3 i4 tx ac) 28, (hb_E0 (xA b a0 a1 h1 h2 i1 i2 i3 i4 tx ac) (bD cI cZ cC cJ cY cH kdX) kdX (xU h1 h2 i1 i2 i3 i4) (fun _ _ => 0)) 28) := rfl
set_option maxRecDepth 100000 in
theorem xw_29 {cI cZ cC cJ cY cH : ClassId} {b a0 a1 : Nat} {h1 h2 i1 i2 i3 i4 : hS} {rw : Nat → Option Nat} {tx ac : Nat → Nat} : (xW cI cZ cC cJ cY cH (b, (h1, h2), ((a0, a1), (i1, i2, i3, i4), rw), tx, ac))[232]? = some ((xA b a0 a1 h1 h2 i1 i2 i3 i4 tx ac) 29, (hb_E0 (xA b a0 a1 h1 h2 i1 i2 i3 i4 tx ac) (bD cI cZ cC cJ cY cH kdX) kdX (xU h1 h2 i1 i2 i3 i4) (fun _ _ => 0)) 29) := rfl
set_option maxRecDepth 100000 in
theorem xw_30 {cI cZ cC cJ cY cH : ClassId} {b a0 a1 : Nat} {h1 h2 i1 i2 i3 i4 : hS} {rw : Nat → Option Nat} {tx ac : Nat → Nat} : (xW cI cZ cC cJ cY cH (b, (h1, h2), ((a0, a1), (i1, i2, i3, i4), rw), tx, ac))[233]? = some ((xA b a0 a1 h1 h2 i1 i2 i3 i4 tx ac) 30, (hb_E0 (xA b a0 a1 h1 h2 i1 i2 i3 i4 tx ac) (bD cI cZ cC cJ cY cH kdX) kdX (xU h1 h2 i1 i2 i3 i4) (fun _ _ => 0)) 30) := rfl
set_option maxRecDepth 100000 in
theorem xw_31 {cI cZ cC cJ cY cH : ClassId} {b a0 a1 : Nat} {h1 h2 i1 i2 i3 i4 : hS} {rw : Nat → Option Nat} {tx ac : Nat → Nat} : (xW cI cZ cC cJ cY cH (b, (h1, h2), ((a0, a1), (i1, i2, i3, i4), rw), tx, ac))[234]? = some ((xA b a0 a1 h1 h2 i1 i2 i3 i4 tx ac) 31, (hb_E0 (xA b a0 a1 h1 h2 i1 i2 i3 i4 tx ac) (bD cI cZ cC cJ cY cH kdX) kdX (xU h1 h2 i1 i2 i3 i4) (fun _ _ => 0)) 31) := rfl
set_option maxRecDepth 100000 in
theorem xw_32 {cI cZ cC cJ cY cH : ClassId} {b a0 a1 : Nat} {h1 h2 i1 i2 i3 i4 : hS} {rw : Nat → Option Nat} {tx ac : Nat → Nat} : (xW cI cZ cC cJ cY cH (b, (h1, h2), ((a0, a1), (i1, i2, i3, i4), rw), tx, ac))[235]? = some ((xA b a0 a1 h1 h2 i1 i2 i3 i4 tx ac) 32, (hb_E0 (xA b a0 a1 h1 h2 i1 i2 i3 i4 tx ac) (bD cI cZ cC cJ cY cH kdX) kdX (xU h1 h2 i1 i2 i3 i4) (fun _ _ => 0)) 32) := rfl
set_option maxRecDepth 100000 in
theorem xw_33 {cI cZ cC cJ cY cH : ClassId} {b a0 a1 : Nat} {h1 h2 i1 i2 i3 i4 : hS} {rw : Nat → Option Nat} {tx ac : Nat → Nat} : (xW cI cZ cC cJ cY cH (b, (h1, h2), ((a0, a1), (i1, i2, i3, i4), rw), tx, ac))[236]? = some ((xA b a0 a1 h1 h2 i1 i2 i3 i4 tx ac) 33, (hb_E0 (xA b a0 a1 h1 h2 i1 i2 i3 i4 tx ac) (bD cI cZ cC cJ cY cH kdX) kdX (xU h1 h2 i1 i2 i3 i4) (fun _ _ => 0)) 33) := rfl
set_option maxRecDepth 100000 in
theorem xw_34 {cI cZ cC cJ cY cH : ClassId} {b a0 a1 : Nat} {h1 h2 i1 i2 i3 i4 : hS} {rw : Nat → Option Nat} {tx ac : Nat → Nat} : (xW cI cZ cC cJ cY cH (b, (h1, h2), ((a0, a1), (i1, i2, i3, i4), rw), tx, ac))[237]? = some ((xA b a0 a1 h1 h2 i1 i2 i3 i4 tx ac) 34, (hb_E0 (xA b a0 a1 h1 h2 i1 i2 i3 i4 tx ac) (bD cI cZ cC cJ cY cH kdX) kdX (xU h1 h2 i1 i2 i3 i4) (fun _ _ => 0)) 34) := rfl
set_option maxRecDepth 100000 in
theorem xw_35 {cI cZ cC cJ cY cH : ClassId} {b a0 a1 : Nat} {h1 h2 i1 i2 i3 i4 : hS} {rw : Nat → Option Nat} {tx ac : Nat → Nat} : (xW cI cZ cC cJ cY cH (b, (h1, h2), ((a0, a1), (i1, i2, i3, i4), rw), tx, ac))[238]? = some ((xA b a0 a1 h1 h2 i1 i2 i3 i4 tx ac) 35, (hb_E0 (xA b a0 a1 h1 h2 i1 i2 i3 i4 tx ac) (bD cI cZ cC cJ cY cH kdX) kdX (xU h1 h2 i1 i2 i3 i4) (fun _ _ => 0)) 35) := rfl
set_option maxRecDepth 100000 in
theorem xw_36 {cI cZ cC cJ cY cH : ClassId} {b a0 a1 : Nat} {h1 h2 i1 i2 i3 i4 : hS} {rw : Nat → Option Nat} {tx ac : Nat → Nat} : (xW cI cZ cC cJ cY cH (b, (h1, h2), ((a0, a1), (i1, i2, i3, i4), rw), tx, ac))[239]? = some ((xA b a0 a1 h1 h2 i1 i2 i3 i4 tx ac) 36, (hb_E0 (xA b a0 a1 h1 h2 i1 i2 i3 i4 tx ac) (bD cI cZ cC cJ cY cH kdX) kdX (xU h1 h2 i1 i2 i3 i4) (fun _ _ => 0)) 36) := rfl
set_option maxRecDepth 100000 in
theorem xw_37 {cI cZ cC cJ cY cH : ClassId} {b a0 a1 : Nat} {h1 h2 i1 i2 i3 i4 : hS} {rw : Nat → Option Nat} {tx ac : Nat → Nat} : (xW cI cZ cC cJ cY cH (b, (h1, h2), ((a0, a1), (i1, i2, i3, i4), rw), tx, ac))[240]? = some ((xA b a0 a1 h1 h2 i1 i2 i3 i4 tx ac) 37, (hb_E0 (xA b a0 a1 h1 h2 i1 i2 i3 i4 tx ac) (bD cI cZ cC cJ cY cH kdX) kdX (xU h1 h2 i1 i2 i3 i4) (fun _ _ => 0)) 37) := rfl
set_option maxRecDepth 100000 in
theorem xw_38 {cI cZ cC cJ cY cH : ClassId} {b a0 a1 : Nat} {h1 h2 i1 i2 i3 i4 : hS} {rw : Nat → Option Nat} {tx ac : Nat → Nat} : (xW cI cZ cC cJ cY cH (b, (h1, h2), ((a0, a1), (i1, i2, i3, i4), rw), tx, ac))[165]? = some ((xA b a0 a1 h1 h2 i1 i2 i3 i4 tx ac) 38, (hb_E0 (xA b a0 a1 h1 h2 i1 i2 i3 i4 tx ac) (bD cI cZ cC cJ cY cH kdX) kdX (xU h1 h2 i1 i2 i3 i4) (fun _ _ => 0)) 38) := rfl
set_option maxRecDepth 100000 in
theorem xw_39 {cI cZ cC cJ cY cH : ClassId} {b a0 a1 : Nat} {h1 h2 i1 i2 i3 i4 : hS} {rw : Nat → Option Nat} {tx ac : Nat → Nat} : (xW cI cZ cC cJ cY cH (b, (h1, h2), ((a0, a1), (i1, i2, i3, i4), rw), tx, ac))[166]? = some ((xA b a0 a1 h1 h2 i1 i2 i3 i4 tx ac) 39, (hb_E0 (xA b a0 a1 h1 h2 i1 i2 i3 i4 tx ac) (bD cI cZ cC cJ cY cH kdX) kdX (xU h1 h2 i1 i2 i3 i4) (fun _ _ => 0)) 39) := rfl
set_option maxRecDepth 100000 in
theorem xw_40 {cI cZ cC cJ cY cH : ClassId} {b a0 a1 : Nat} {h1 h2 i1 i2 i3 i4 : hS} {rw : Nat → Option Nat} {tx ac : Nat → Nat} : (xW cI cZ cC cJ cY cH (b, (h1, h2), ((a0, a1), (i1, i2, i3, i4), rw), tx, ac))[167]? = some ((xA b a0 a1 h1 h2 i1 i2 i3 i4 tx ac) 40, (hb_E0 (xA b a0 a1 h1 h2 i1 i2 i3 i4 tx ac) (bD cI cZ cC cJ cY cH kdX) kdX (xU h1 h2 i1 i2 i3 i4) (fun _ _ => 0)) 40) := rfl
set_option maxRecDepth 100000 in
theorem xw_41 {cI cZ cC cJ cY cH : ClassId} {b a0 a1 : Nat} {h1 h2 i1 i2 i3 i4 : hS} {rw : Nat → Option Nat} {tx ac : Nat → Nat} : (xW cI cZ cC cJ cY cH (b, (h1, h2), ((a0, a1), (i1, i2, i3, i4), rw), tx, ac))[168]? = some ((xA b a0 a1 h1 h2 i1 i2 i3 i4 tx ac) 41, (hb_E0 (xA b a0 a1 h1 h2 i1 i2 i3 i4 tx ac) (bD cI cZ cC cJ cY cH kdX) kdX (xU h1 h2 i1 i2 i3 i4) (fun _ _ => 0)) 41) := rfl
set_option maxRecDepth 100000 in
theorem xw_42 {cI cZ cC cJ cY cH : ClassId} {b a0 a1 : Nat} {h1 h2 i1 i2 i3 i4 : hS} {rw : Nat → Option Nat} {tx ac : Nat → Nat} : (xW cI cZ cC cJ cY cH (b, (h1, h2), ((a0, a1), (i1, i2, i3, i4), rw), tx, ac))[169]? = some ((xA b a0 a1 h1 h2 i1 i2 i3 i4 tx ac) 42, (hb_E0 (xA b a0 a1 h1 h2 i1 i2 i3 i4 tx ac) (bD cI cZ cC cJ cY cH kdX) kdX (xU h1 h2 i1 i2 i3 i4) (fun _ _ => 0)) 42) := rfl
set_option maxRecDepth 100000 in
theorem xw_43 {cI cZ cC cJ cY cH : ClassId} {b a0 a1 : Nat} {h1 h2 i1 i2 i3 i4 : hS} {rw : Nat → Option Nat} {tx ac : Nat → Nat} : (xW cI cZ cC cJ cY cH (b, (h1, h2), ((a0, a1), (i1, i2, i3, i4), rw), tx, ac))[170]? = some ((xA b a0 a1 h1 h2 i1 i2 i3 i4 tx ac) 43, (hb_E0 (xA b a0 a1 h1 h2 i1 i2 i3 i4 tx ac) (bD cI cZ cC cJ cY cH kdX) kdX (xU h1 h2 i1 i2 i3 i4) (fun _ _ => 0)) 43) := rfl
set_option maxRecDepth 100000 in
theorem xw_44 {cI cZ cC cJ cY cH : ClassId} {b a0 a1 : Nat} {h1 h2 i1 i2 i3 i4 : hS} {rw : Nat → Option Nat} {tx ac : Nat → Nat} : (xW cI cZ cC cJ cY cH (b, (h1, h2), ((a0, a1), (i1, i2, i3, i4), rw), tx, ac))[171]? = some ((xA b a0 a1 h1 h2 i1 i2 i3 i4 tx ac) 44, (hb_E0 (xA b a0 a1 h1 h2 i1 i2 i3 i4 tx ac) (bD cI cZ cC cJ cY cH kdX) kdX (xU h1 h2 i1 i2 i3 i4) (fun _ _ => 0)) 44) := rfl
set_option maxRecDepth 100000 in
theorem xw_45 {cI cZ cC cJ cY cH : ClassId} {b a0 a1 : Nat} {h1 h2 i1 i2 i3 i4 : hS} {rw : Nat → Option Nat} {tx ac : Nat → Nat} (h : h2.2.2 = fun j => ([14, 20, 26, 32][j]?).map h2.1) : (xW cI cZ cC cJ cY cH (b, (h1, h2), ((a0, a1), (i1, i2, i3, i4), rw), tx, ac))[172]? = some ((xA b a0 a1 h1 h2 i1 i2 i3 i4 tx ac) 45, (hb_E0 (xA b a0 a1 h1 h2 i1 i2 i3 i4 tx ac) (bD cI cZ cC cJ cY cH kdX) kdX (xU h1 h2 i1 i2 i3 i4) (fun _ _ => 0)) 45) := by
  rw [show (xW cI cZ cC cJ cY cH (b, (h1, h2), ((a0, a1), (i1, i2, i3, i4), rw), tx, ac))[172]? = some ((xA b a0 a1 h1 h2 i1 i2 i3 i4 tx ac) 45, .inl (cY, 4, .inr (.inr (.inr (.inr h2.2.2))))) from rfl, h]
  rw [show (fun j => ([14, 20, 26, 32][j]?).map h2.1) = fun j => ([52, 58, 64, 70][j]?).map (xA b a0 a1 h1 h2 i1 i2 i3 i4 tx ac) from funext (fun j => match j with
    | 0 => rfl
    | 1 => rfl
    | 2 => rfl
    | 3 => rfl
    | j + 4 => rfl)]
  rfl
set_option maxRecDepth 100000 in
theorem xw_46 {cI cZ cC cJ cY cH : ClassId} {b a0 a1 : Nat} {h1 h2 i1 i2 i3 i4 : hS} {rw : Nat → Option Nat} {tx ac : Nat → Nat} : (xW cI cZ cC cJ cY cH (b, (h1, h2), ((a0, a1), (i1, i2, i3, i4), rw), tx, ac))[173]? = some ((xA b a0 a1 h1 h2 i1 i2 i3 i4 tx ac) 46, (hb_E0 (xA b a0 a1 h1 h2 i1 i2 i3 i4 tx ac) (bD cI cZ cC cJ cY cH kdX) kdX (xU h1 h2 i1 i2 i3 i4) (fun _ _ => 0)) 46) := rfl
set_option maxRecDepth 100000 in
theorem xw_47 {cI cZ cC cJ cY cH : ClassId} {b a0 a1 : Nat} {h1 h2 i1 i2 i3 i4 : hS} {rw : Nat → Option Nat} {tx ac : Nat → Nat} : (xW cI cZ cC cJ cY cH (b, (h1, h2), ((a0, a1), (i1, i2, i3, i4), rw), tx, ac))[174]? = some ((xA b a0 a1 h1 h2 i1 i2 i3 i4 tx ac) 47, (hb_E0 (xA b a0 a1 h1 h2 i1 i2 i3 i4 tx ac) (bD cI cZ cC cJ cY cH kdX) kdX (xU h1 h2 i1 i2 i3 i4) (fun _ _ => 0)) 47) := rfl
set_option maxRecDepth 100000 in
theorem xw_48 {cI cZ cC cJ cY cH : ClassId} {b a0 a1 : Nat} {h1 h2 i1 i2 i3 i4 : hS} {rw : Nat → Option Nat} {tx ac : Nat → Nat} : (xW cI cZ cC cJ cY cH (b, (h1, h2), ((a0, a1), (i1, i2, i3, i4), rw), tx, ac))[175]? = some ((xA b a0 a1 h1 h2 i1 i2 i3 i4 tx ac) 48, (hb_E0 (xA b a0 a1 h1 h2 i1 i2 i3 i4 tx ac) (bD cI cZ cC cJ cY cH kdX) kdX (xU h1 h2 i1 i2 i3 i4) (fun _ _ => 0)) 48) := rfl
set_option maxRecDepth 100000 in
theorem xw_49 {cI cZ cC cJ cY cH : ClassId} {b a0 a1 : Nat} {h1 h2 i1 i2 i3 i4 : hS} {rw : Nat → Option Nat} {tx ac : Nat → Nat} : (xW cI cZ cC cJ cY cH (b, (h1, h2), ((a0, a1), (i1, i2, i3, i4), rw), tx, ac))[176]? = some ((xA b a0 a1 h1 h2 i1 i2 i3 i4 tx ac) 49, (hb_E0 (xA b a0 a1 h1 h2 i1 i2 i3 i4 tx ac) (bD cI cZ cC cJ cY cH kdX) kdX (xU h1 h2 i1 i2 i3 i4) (fun _ _ => 0)) 49) := rfl
set_option maxRecDepth 100000 in
theorem xw_50 {cI cZ cC cJ cY cH : ClassId} {b a0 a1 : Nat} {h1 h2 i1 i2 i3 i4 : hS} {rw : Nat → Option Nat} {tx ac : Nat → Nat} : (xW cI cZ cC cJ cY cH (b, (h1, h2), ((a0, a1), (i1, i2, i3, i4), rw), tx, ac))[177]? = some ((xA b a0 a1 h1 h2 i1 i2 i3 i4 tx ac) 50, (hb_E0 (xA b a0 a1 h1 h2 i1 i2 i3 i4 tx ac) (bD cI cZ cC cJ cY cH kdX) kdX (xU h1 h2 i1 i2 i3 i4) (fun _ _ => 0)) 50) := rfl
set_option maxRecDepth 100000 in
theorem xw_51 {cI cZ cC cJ cY cH : ClassId} {b a0 a1 : Nat} {h1 h2 i1 i2 i3 i4 : hS} {rw : Nat → Option Nat} {tx ac : Nat → Nat} : (xW cI cZ cC cJ cY cH (b, (h1, h2), ((a0, a1), (i1, i2, i3, i4), rw), tx, ac))[178]? = some ((xA b a0 a1 h1 h2 i1 i2 i3 i4 tx ac) 51, (hb_E0 (xA b a0 a1 h1 h2 i1 i2 i3 i4 tx ac) (bD cI cZ cC cJ cY cH kdX) kdX (xU h1 h2 i1 i2 i3 i4) (fun _ _ => 0)) 51) := rfl
set_option maxRecDepth 100000 in
theorem xw_52 {cI cZ cC cJ cY cH : ClassId} {b a0 a1 : Nat} {h1 h2 i1 i2 i3 i4 : hS} {rw : Nat → Option Nat} {tx ac : Nat → Nat} : (xW cI cZ cC cJ cY cH (b, (h1, h2), ((a0, a1), (i1, i2, i3, i4), rw), tx, ac))[179]? = some ((xA b a0 a1 h1 h2 i1 i2 i3 i4 tx ac) 52, (hb_E0 (xA b a0 a1 h1 h2 i1 i2 i3 i4 tx ac) (bD cI cZ cC cJ cY cH kdX) kdX (xU h1 h2 i1 i2 i3 i4) (fun _ _ => 0)) 52) := rfl
set_option maxRecDepth 100000 in
theorem xw_53 {cI cZ cC cJ cY cH : ClassId} {b a0 a1 : Nat} {h1 h2 i1 i2 i3 i4 : hS} {rw : Nat → Option Nat} {tx ac : Nat → Nat} : (xW cI cZ cC cJ cY cH (b, (h1, h2), ((a0, a1), (i1, i2, i3, i4), rw), tx, ac))[180]? = some ((xA b a0 a1 h1 h2 i1 i2 i3 i4 tx ac) 53, (hb_E0 (xA b a0 a1 h1 h2 i1 i2 i3 i4 tx ac) (bD cI cZ cC cJ cY cH kdX) kdX (xU h1 h2 i1 i2 i3 i4) (fun _ _ => 0)) 53) := rfl
set_option maxRecDepth 100000 in
theorem xw_54 {cI cZ cC cJ cY cH : ClassId} {b a0 a1 : Nat} {h1 h2 i1 i2 i3 i4 : hS} {rw : Nat → Option Nat} {tx ac : Nat → Nat} : (xW cI cZ cC cJ cY cH (b, (h1, h2), ((a0, a1), (i1, i2, i3, i4), rw), tx, ac))[181]? = some ((xA b a0 a1 h1 h2 i1 i2 i3 i4 tx ac) 54, (hb_E0 (xA b a0 a1 h1 h2 i1 i2 i3 i4 tx ac) (bD cI cZ cC cJ cY cH kdX) kdX (xU h1 h2 i1 i2 i3 i4) (fun _ _ => 0)) 54) := rfl
set_option maxRecDepth 100000 in
theorem xw_55 {cI cZ cC cJ cY cH : ClassId} {b a0 a1 : Nat} {h1 h2 i1 i2 i3 i4 : hS} {rw : Nat → Option Nat} {tx ac : Nat → Nat} : (xW cI cZ cC cJ cY cH (b, (h1, h2), ((a0, a1), (i1, i2, i3, i4), rw), tx, ac))[182]? = some ((xA b a0 a1 h1 h2 i1 i2 i3 i4 tx ac) 55, (hb_E0 (xA b a0 a1 h1 h2 i1 i2 i3 i4 tx ac) (bD cI cZ cC cJ cY cH kdX) kdX (xU h1 h2 i1 i2 i3 i4) (fun _ _ => 0)) 55) := rfl
set_option maxRecDepth 100000 in
theorem xw_56 {cI cZ cC cJ cY cH : ClassId} {b a0 a1 : Nat} {h1 h2 i1 i2 i3 i4 : hS} {rw : Nat → Option Nat} {tx ac : Nat → Nat} : (xW cI cZ cC cJ cY cH (b, (h1, h2), ((a0, a1), (i1, i2, i3, i4), rw), tx, ac))[183]? = some ((xA b a0 a1 h1 h2 i1 i2 i3 i4 tx ac) 56, (hb_E0 (xA b a0 a1 h1 h2 i1 i2 i3 i4 tx ac) (bD cI cZ cC cJ cY cH kdX) kdX (xU h1 h2 i1 i2 i3 i4) (fun _ _ => 0)) 56) := rfl
set_option maxRecDepth 100000 in
theorem xw_57 {cI cZ cC cJ cY cH : ClassId} {b a0 a1 : Nat} {h1 h2 i1 i2 i3 i4 : hS} {rw : Nat → Option Nat} {tx ac : Nat → Nat} : (xW cI cZ cC cJ cY cH (b, (h1, h2), ((a0, a1), (i1, i2, i3, i4), rw), tx, ac))[184]? = some ((xA b a0 a1 h1 h2 i1 i2 i3 i4 tx ac) 57, (hb_E0 (xA b a0 a1 h1 h2 i1 i2 i3 i4 tx ac) (bD cI cZ cC cJ cY cH kdX) kdX (xU h1 h2 i1 i2 i3 i4) (fun _ _ => 0)) 57) := rfl
set_option maxRecDepth 100000 in
theorem xw_58 {cI cZ cC cJ cY cH : ClassId} {b a0 a1 : Nat} {h1 h2 i1 i2 i3 i4 : hS} {rw : Nat → Option Nat} {tx ac : Nat → Nat} : (xW cI cZ cC cJ cY cH (b, (h1, h2), ((a0, a1), (i1, i2, i3, i4), rw), tx, ac))[185]? = some ((xA b a0 a1 h1 h2 i1 i2 i3 i4 tx ac) 58, (hb_E0 (xA b a0 a1 h1 h2 i1 i2 i3 i4 tx ac) (bD cI cZ cC cJ cY cH kdX) kdX (xU h1 h2 i1 i2 i3 i4) (fun _ _ => 0)) 58) := rfl
set_option maxRecDepth 100000 in
theorem xw_59 {cI cZ cC cJ cY cH : ClassId} {b a0 a1 : Nat} {h1 h2 i1 i2 i3 i4 : hS} {rw : Nat → Option Nat} {tx ac : Nat → Nat} : (xW cI cZ cC cJ cY cH (b, (h1, h2), ((a0, a1), (i1, i2, i3, i4), rw), tx, ac))[186]? = some ((xA b a0 a1 h1 h2 i1 i2 i3 i4 tx ac) 59, (hb_E0 (xA b a0 a1 h1 h2 i1 i2 i3 i4 tx ac) (bD cI cZ cC cJ cY cH kdX) kdX (xU h1 h2 i1 i2 i3 i4) (fun _ _ => 0)) 59) := rfl
set_option maxRecDepth 100000 in
theorem xw_60 {cI cZ cC cJ cY cH : ClassId} {b a0 a1 : Nat} {h1 h2 i1 i2 i3 i4 : hS} {rw : Nat → Option Nat} {tx ac : Nat → Nat} : (xW cI cZ cC cJ cY cH (b, (h1, h2), ((a0, a1), (i1, i2, i3, i4), rw), tx, ac))[187]? = some ((xA b a0 a1 h1 h2 i1 i2 i3 i4 tx ac) 60, (hb_E0 (xA b a0 a1 h1 h2 i1 i2 i3 i4 tx ac) (bD cI cZ cC cJ cY cH kdX) kdX (xU h1 h2 i1 i2 i3 i4) (fun _ _ => 0)) 60) := rfl
set_option maxRecDepth 100000 in
theorem xw_61 {cI cZ cC cJ cY cH : ClassId} {b a0 a1 : Nat} {h1 h2 i1 i2 i3 i4 : hS} {rw : Nat → Option Nat} {tx ac : Nat → Nat} : (xW cI cZ cC cJ cY cH (b, (h1, h2), ((a0, a1), (i1, i2, i3, i4), rw), tx, ac))[188]? = some ((xA b a0 a1 h1 h2 i1 i2 i3 i4 tx ac) 61, (hb_E0 (xA b a0 a1 h1 h2 i1 i2 i3 i4 tx ac) (bD cI cZ cC cJ cY cH kdX) kdX (xU h1 h2 i1 i2 i3 i4) (fun _ _ => 0)) 61) := rfl
set_option maxRecDepth 100000 in
theorem xw_62 {cI cZ cC cJ cY cH : ClassId} {b a0 a1 : Nat} {h1 h2 i1 i2 i3 i4 : hS} {rw : Nat → Option Nat} {tx ac : Nat → Nat} : (xW cI cZ cC cJ cY cH (b, (h1, h2), ((a0, a1), (i1, i2, i3, i4), rw), tx, ac))[189]? = some ((xA b a0 a1 h1 h2 i1 i2 i3 i4 tx ac) 62, (hb_E0 (xA b a0 a1 h1 h2 i1 i2 i3 i4 tx ac) (bD cI cZ cC cJ cY cH kdX) kdX (xU h1 h2 i1 i2 i3 i4) (fun _ _ => 0)) 62) := rfl
set_option maxRecDepth 100000 in
theorem xw_63 {cI cZ cC cJ cY cH : ClassId} {b a0 a1 : Nat} {h1 h2 i1 i2 i3 i4 : hS} {rw : Nat → Option Nat} {tx ac : Nat → Nat} : (xW cI cZ cC cJ cY cH (b, (h1, h2), ((a0, a1), (i1, i2, i3, i4), rw), tx, ac))[190]? = some ((xA b a0 a1 h1 h2 i1 i2 i3 i4 tx ac) 63, (hb_E0 (xA b a0 a1 h1 h2 i1 i2 i3 i4 tx ac) (bD cI cZ cC cJ cY cH kdX) kdX (xU h1 h2 i1 i2 i3 i4) (fun _ _ => 0)) 63) := rfl
set_option maxRecDepth 100000 in
theorem xw_64 {cI cZ cC cJ cY cH : ClassId} {b a0 a1 : Nat} {h1 h2 i1 i2 i3 i4 : hS} {rw : Nat → Option Nat} {tx ac : Nat → Nat} : (xW cI cZ cC cJ cY cH (b, (h1, h2), ((a0, a1), (i1, i2, i3, i4), rw), tx, ac))[191]? = some ((xA b a0 a1 h1 h2 i1 i2 i3 i4 tx ac) 64, (hb_E0 (xA b a0 a1 h1 h2 i1 i2 i3 i4 tx ac) (bD cI cZ cC cJ cY cH kdX) kdX (xU h1 h2 i1 i2 i3 i4) (fun _ _ => 0)) 64) := rfl
set_option maxRecDepth 100000 in
theorem xw_65 {cI cZ cC cJ cY cH : ClassId} {b a0 a1 : Nat} {h1 h2 i1 i2 i3 i4 : hS} {rw : Nat → Option Nat} {tx ac : Nat → Nat} : (xW cI cZ cC cJ cY cH (b, (h1, h2), ((a0, a1), (i1, i2, i3, i4), rw), tx, ac))[192]? = some ((xA b a0 a1 h1 h2 i1 i2 i3 i4 tx ac) 65, (hb_E0 (xA b a0 a1 h1 h2 i1 i2 i3 i4 tx ac) (bD cI cZ cC cJ cY cH kdX) kdX (xU h1 h2 i1 i2 i3 i4) (fun _ _ => 0)) 65) := rfl
set_option maxRecDepth 100000 in
theorem xw_66 {cI cZ cC cJ cY cH : ClassId} {b a0 a1 : Nat} {h1 h2 i1 i2 i3 i4 : hS} {rw : Nat → Option Nat} {tx ac : Nat → Nat} : (xW cI cZ cC cJ cY cH (b, (h1, h2), ((a0, a1), (i1, i2, i3, i4), rw), tx, ac))[193]? = some ((xA b a0 a1 h1 h2 i1 i2 i3 i4 tx ac) 66, (hb_E0 (xA b a0 a1 h1 h2 i1 i2 i3 i4 tx ac) (bD cI cZ cC cJ cY cH kdX) kdX (xU h1 h2 i1 i2 i3 i4) (fun _ _ => 0)) 66) := rfl
set_option maxRecDepth 100000 in
theorem xw_67 {cI cZ cC cJ cY cH : ClassId} {b a0 a1 : Nat} {h1 h2 i1 i2 i3 i4 : hS} {rw : Nat → Option Nat} {tx ac : Nat → Nat} : (xW cI cZ cC cJ cY cH (b, (h1, h2), ((a0, a1), (i1, i2, i3, i4), rw), tx, ac))[194]? = some ((xA b a0 a1 h1 h2 i1 i2 i3 i4 tx ac) 67, (hb_E0 (xA b a0 a1 h1 h2 i1 i2 i3 i4 tx ac) (bD cI cZ cC cJ cY cH kdX) kdX (xU h1 h2 i1 i2 i3 i4) (fun _ _ => 0)) 67) := rfl
set_option maxRecDepth 100000 in
theorem xw_68 {cI cZ cC cJ cY cH : ClassId} {b a0 a1 : Nat} {h1 h2 i1 i2 i3 i4 : hS} {rw : Nat → Option Nat} {tx ac : Nat → Nat} : (xW cI cZ cC cJ cY cH (b, (h1, h2), ((a0, a1), (i1, i2, i3, i4), rw), tx, ac))[195]? = some ((xA b a0 a1 h1 h2 i1 i2 i3 i4 tx ac) 68, (hb_E0 (xA b a0 a1 h1 h2 i1 i2 i3 i4 tx ac) (bD cI cZ cC cJ cY cH kdX) kdX (xU h1 h2 i1 i2 i3 i4) (fun _ _ => 0)) 68) := rfl
set_option maxRecDepth 100000 in
theorem xw_69 {cI cZ cC cJ cY cH : ClassId} {b a0 a1 : Nat} {h1 h2 i1 i2 i3 i4 : hS} {rw : Nat → Option Nat} {tx ac : Nat → Nat} : (xW cI cZ cC cJ cY cH (b, (h1, h2), ((a0, a1), (i1, i2, i3, i4), rw), tx, ac))[196]? = some ((xA b a0 a1 h1 h2 i1 i2 i3 i4 tx ac) 69, (hb_E0 (xA b a0 a1 h1 h2 i1 i2 i3 i4 tx ac) (bD cI cZ cC cJ cY cH kdX) kdX (xU h1 h2 i1 i2 i3 i4) (fun _ _ => 0)) 69) := rfl
set_option maxRecDepth 100000 in
theorem xw_70 {cI cZ cC cJ cY cH : ClassId} {b a0 a1 : Nat} {h1 h2 i1 i2 i3 i4 : hS} {rw : Nat → Option Nat} {tx ac : Nat → Nat} : (xW cI cZ cC cJ cY cH (b, (h1, h2), ((a0, a1), (i1, i2, i3, i4), rw), tx, ac))[197]? = some ((xA b a0 a1 h1 h2 i1 i2 i3 i4 tx ac) 70, (hb_E0 (xA b a0 a1 h1 h2 i1 i2 i3 i4 tx ac) (bD cI cZ cC cJ cY cH kdX) kdX (xU h1 h2 i1 i2 i3 i4) (fun _ _ => 0)) 70) := rfl
set_option maxRecDepth 100000 in
theorem xw_71 {cI cZ cC cJ cY cH : ClassId} {b a0 a1 : Nat} {h1 h2 i1 i2 i3 i4 : hS} {rw : Nat → Option Nat} {tx ac : Nat → Nat} : (xW cI cZ cC cJ cY cH (b, (h1, h2), ((a0, a1), (i1, i2, i3, i4), rw), tx, ac))[198]? = some ((xA b a0 a1 h1 h2 i1 i2 i3 i4 tx ac) 71, (hb_E0 (xA b a0 a1 h1 h2 i1 i2 i3 i4 tx ac) (bD cI cZ cC cJ cY cH kdX) kdX (xU h1 h2 i1 i2 i3 i4) (fun _ _ => 0)) 71) := rfl
set_option maxRecDepth 100000 in
theorem xw_72 {cI cZ cC cJ cY cH : ClassId} {b a0 a1 : Nat} {h1 h2 i1 i2 i3 i4 : hS} {rw : Nat → Option Nat} {tx ac : Nat → Nat} : (xW cI cZ cC cJ cY cH (b, (h1, h2), ((a0, a1), (i1, i2, i3, i4), rw), tx, ac))[199]? = some ((xA b a0 a1 h1 h2 i1 i2 i3 i4 tx ac) 72, (hb_E0 (xA b a0 a1 h1 h2 i1 i2 i3 i4 tx ac) (bD cI cZ cC cJ cY cH kdX) kdX (xU h1 h2 i1 i2 i3 i4) (fun _ _ => 0)) 72) := rfl
set_option maxRecDepth 100000 in
theorem xw_73 {cI cZ cC cJ cY cH : ClassId} {b a0 a1 : Nat} {h1 h2 i1 i2 i3 i4 : hS} {rw : Nat → Option Nat} {tx ac : Nat → Nat} : (xW cI cZ cC cJ cY cH (b, (h1, h2), ((a0, a1), (i1, i2, i3, i4), rw), tx, ac))[200]? = some ((xA b a0 a1 h1 h2 i1 i2 i3 i4 tx ac) 73, (hb_E0 (xA b a0 a1 h1 h2 i1 i2 i3 i4 tx ac) (bD cI cZ cC cJ cY cH kdX) kdX (xU h1 h2 i1 i2 i3 i4) (fun _ _ => 0)) 73) := rfl
set_option maxRecDepth 100000 in
theorem xw_74 {cI cZ cC cJ cY cH : ClassId} {b a0 a1 : Nat} {h1 h2 i1 i2 i3 i4 : hS} {rw : Nat → Option Nat} {tx ac : Nat → Nat} : (xW cI cZ cC cJ cY cH (b, (h1, h2), ((a0, a1), (i1, i2, i3, i4), rw), tx, ac))[201]? = some ((xA b a0 a1 h1 h2 i1 i2 i3 i4 tx ac) 74, (hb_E0 (xA b a0 a1 h1 h2 i1 i2 i3 i4 tx ac) (bD cI cZ cC cJ cY cH kdX) kdX (xU h1 h2 i1 i2 i3 i4) (fun _ _ => 0)) 74) := rfl
set_option maxRecDepth 100000 in
theorem xw_75 {cI cZ cC cJ cY cH : ClassId} {b a0 a1 : Nat} {h1 h2 i1 i2 i3 i4 : hS} {rw : Nat → Option Nat} {tx ac : Nat → Nat} : (xW cI cZ cC cJ cY cH (b, (h1, h2), ((a0, a1), (i1, i2, i3, i4), rw), tx, ac))[202]? = some ((xA b a0 a1 h1 h2 i1 i2 i3 i4 tx ac) 75, (hb_E0 (xA b a0 a1 h1 h2 i1 i2 i3 i4 tx ac) (bD cI cZ cC cJ cY cH kdX) kdX (xU h1 h2 i1 i2 i3 i4) (fun _ _ => 0)) 75) := rfl
set_option maxRecDepth 100000 in
theorem xw_76 {cI cZ cC cJ cY cH : ClassId} {b a0 a1 : Nat} {h1 h2 i1 i2 i3 i4 : hS} {rw : Nat → Option Nat} {tx ac : Nat → Nat} : (xW cI cZ cC cJ cY cH (b, (h1, h2), ((a0, a1), (i1, i2, i3, i4), rw), tx, ac))[127]? = some ((xA b a0 a1 h1 h2 i1 i2 i3 i4 tx ac) 76, (hb_E0 (xA b a0 a1 h1 h2 i1 i2 i3 i4 tx ac) (bD cI cZ cC cJ cY cH kdX) kdX (xU h1 h2 i1 i2 i3 i4) (fun _ _ => 0)) 76) := rfl
set_option maxRecDepth 100000 in
theorem xw_77 {cI cZ cC cJ cY cH : ClassId} {b a0 a1 : Nat} {h1 h2 i1 i2 i3 i4 : hS} {rw : Nat → Option Nat} {tx ac : Nat → Nat} : (xW cI cZ cC cJ cY cH (b, (h1, h2), ((a0, a1), (i1, i2, i3, i4), rw), tx, ac))[128]? = some ((xA b a0 a1 h1 h2 i1 i2 i3 i4 tx ac) 77, (hb_E0 (xA b a0 a1 h1 h2 i1 i2 i3 i4 tx ac) (bD cI cZ cC cJ cY cH kdX) kdX (xU h1 h2 i1 i2 i3 i4) (fun _ _ => 0)) 77) := rfl
set_option maxRecDepth 100000 in
theorem xw_78 {cI cZ cC cJ cY cH : ClassId} {b a0 a1 : Nat} {h1 h2 i1 i2 i3 i4 : hS} {rw : Nat → Option Nat} {tx ac : Nat → Nat} : (xW cI cZ cC cJ cY cH (b, (h1, h2), ((a0, a1), (i1, i2, i3, i4), rw), tx, ac))[129]? = some ((xA b a0 a1 h1 h2 i1 i2 i3 i4 tx ac) 78, (hb_E0 (xA b a0 a1 h1 h2 i1 i2 i3 i4 tx ac) (bD cI cZ cC cJ cY cH kdX) kdX (xU h1 h2 i1 i2 i3 i4) (fun _ _ => 0)) 78) := rfl
set_option maxRecDepth 100000 in
theorem xw_79 {cI cZ cC cJ cY cH : ClassId} {b a0 a1 : Nat} {h1 h2 i1 i2 i3 i4 : hS} {rw : Nat → Option Nat} {tx ac : Nat → Nat} : (xW cI cZ cC cJ cY cH (b, (h1, h2), ((a0, a1), (i1, i2, i3, i4), rw), tx, ac))[130]? = some ((xA b a0 a1 h1 h2 i1 i2 i3 i4 tx ac) 79, (hb_E0 (xA b a0 a1 h1 h2 i1 i2 i3 i4 tx ac) (bD cI cZ cC cJ cY cH kdX) kdX (xU h1 h2 i1 i2 i3 i4) (fun _ _ => 0)) 79) := rfl
set_option maxRecDepth 100000 in
theorem xw_80 {cI cZ cC cJ cY cH : ClassId} {b a0 a1 : Nat} {h1 h2 i1 i2 i3 i4 : hS} {rw : Nat → Option Nat} {tx ac : Nat → Nat} : (xW cI cZ cC cJ cY cH (b, (h1, h2), ((a0, a1), (i1, i2, i3, i4), rw), tx, ac))[131]? = some ((xA b a0 a1 h1 h2 i1 i2 i3 i4 tx ac) 80, (hb_E0 (xA b a0 a1 h1 h2 i1 i2 i3 i4 tx ac) (bD cI cZ cC cJ cY cH kdX) kdX (xU h1 h2 i1 i2 i3 i4) (fun _ _ => 0)) 80) := rfl
set_option maxRecDepth 100000 in
theorem xw_81 {cI cZ cC cJ cY cH : ClassId} {b a0 a1 : Nat} {h1 h2 i1 i2 i3 i4 : hS} {rw : Nat → Option Nat} {tx ac : Nat → Nat} : (xW cI cZ cC cJ cY cH (b, (h1, h2), ((a0, a1), (i1, i2, i3, i4), rw), tx, ac))[132]? = some ((xA b a0 a1 h1 h2 i1 i2 i3 i4 tx ac) 81, (hb_E0 (xA b a0 a1 h1 h2 i1 i2 i3 i4 tx ac) (bD cI cZ cC cJ cY cH kdX) kdX (xU h1 h2 i1 i2 i3 i4) (fun _ _ => 0)) 81) := rfl
set_option maxRecDepth 100000 in
theorem xw_82 {cI cZ cC cJ cY cH : ClassId} {b a0 a1 : Nat} {h1 h2 i1 i2 i3 i4 : hS} {rw : Nat → Option Nat} {tx ac : Nat → Nat} : (xW cI cZ cC cJ cY cH (b, (h1, h2), ((a0, a1), (i1, i2, i3, i4), rw), tx, ac))[133]? = some ((xA b a0 a1 h1 h2 i1 i2 i3 i4 tx ac) 82, (hb_E0 (xA b a0 a1 h1 h2 i1 i2 i3 i4 tx ac) (bD cI cZ cC cJ cY cH kdX) kdX (xU h1 h2 i1 i2 i3 i4) (fun _ _ => 0)) 82) := rfl
set_option maxRecDepth 100000 in
theorem xw_83 {cI cZ cC cJ cY cH : ClassId} {b a0 a1 : Nat} {h1 h2 i1 i2 i3 i4 : hS} {rw : Nat → Option Nat} {tx ac : Nat → Nat} (h : i1.2.2 = fun j => ([14, 20, 26, 32][j]?).map i1.1) : (xW cI cZ cC cJ cY cH (b, (h1, h2), ((a0, a1), (i1, i2, i3, i4), rw), tx, ac))[134]? = some ((xA b a0 a1 h1 h2 i1 i2 i3 i4 tx ac) 83, (hb_E0 (xA b a0 a1 h1 h2 i1 i2 i3 i4 tx ac) (bD cI cZ cC cJ cY cH kdX) kdX (xU h1 h2 i1 i2 i3 i4) (fun _ _ => 0)) 83) := by
  rw [show (xW cI cZ cC cJ cY cH (b, (h1, h2), ((a0, a1), (i1, i2, i3, i4), rw), tx, ac))[134]? = some ((xA b a0 a1 h1 h2 i1 i2 i3 i4 tx ac) 83, .inl (cY, 4, .inr (.inr (.inr (.inr i1.2.2))))) from rfl, h]
  rw [show (fun j => ([14, 20, 26, 32][j]?).map i1.1) = fun j => ([90, 96, 102, 108][j]?).map (xA b a0 a1 h1 h2 i1 i2 i3 i4 tx ac) from funext (fun j => match j with
    | 0 => rfl
    | 1 => rfl
    | 2 => rfl
    | 3 => rfl
    | j + 4 => rfl)]
  rfl
set_option maxRecDepth 100000 in
theorem xw_84 {cI cZ cC cJ cY cH : ClassId} {b a0 a1 : Nat} {h1 h2 i1 i2 i3 i4 : hS} {rw : Nat → Option Nat} {tx ac : Nat → Nat} : (xW cI cZ cC cJ cY cH (b, (h1, h2), ((a0, a1), (i1, i2, i3, i4), rw), tx, ac))[135]? = some ((xA b a0 a1 h1 h2 i1 i2 i3 i4 tx ac) 84, (hb_E0 (xA b a0 a1 h1 h2 i1 i2 i3 i4 tx ac) (bD cI cZ cC cJ cY cH kdX) kdX (xU h1 h2 i1 i2 i3 i4) (fun _ _ => 0)) 84) := rfl
set_option maxRecDepth 100000 in
theorem xw_85 {cI cZ cC cJ cY cH : ClassId} {b a0 a1 : Nat} {h1 h2 i1 i2 i3 i4 : hS} {rw : Nat → Option Nat} {tx ac : Nat → Nat} : (xW cI cZ cC cJ cY cH (b, (h1, h2), ((a0, a1), (i1, i2, i3, i4), rw), tx, ac))[136]? = some ((xA b a0 a1 h1 h2 i1 i2 i3 i4 tx ac) 85, (hb_E0 (xA b a0 a1 h1 h2 i1 i2 i3 i4 tx ac) (bD cI cZ cC cJ cY cH kdX) kdX (xU h1 h2 i1 i2 i3 i4) (fun _ _ => 0)) 85) := rfl
set_option maxRecDepth 100000 in
theorem xw_86 {cI cZ cC cJ cY cH : ClassId} {b a0 a1 : Nat} {h1 h2 i1 i2 i3 i4 : hS} {rw : Nat → Option Nat} {tx ac : Nat → Nat} : (xW cI cZ cC cJ cY cH (b, (h1, h2), ((a0, a1), (i1, i2, i3, i4), rw), tx, ac))[137]? = some ((xA b a0 a1 h1 h2 i1 i2 i3 i4 tx ac) 86, (hb_E0 (xA b a0 a1 h1 h2 i1 i2 i3 i4 tx ac) (bD cI cZ cC cJ cY cH kdX) kdX (xU h1 h2 i1 i2 i3 i4) (fun _ _ => 0)) 86) := rfl
set_option maxRecDepth 100000 in
theorem xw_87 {cI cZ cC cJ cY cH : ClassId} {b a0 a1 : Nat} {h1 h2 i1 i2 i3 i4 : hS} {rw : Nat → Option Nat} {tx ac : Nat → Nat} : (xW cI cZ cC cJ cY cH (b, (h1, h2), ((a0, a1), (i1, i2, i3, i4), rw), tx, ac))[138]? = some ((xA b a0 a1 h1 h2 i1 i2 i3 i4 tx ac) 87, (hb_E0 (xA b a0 a1 h1 h2 i1 i2 i3 i4 tx ac) (bD cI cZ cC cJ cY cH kdX) kdX (xU h1 h2 i1 i2 i3 i4) (fun _ _ => 0)) 87) := rfl
set_option maxRecDepth 100000 in
theorem xw_88 {cI cZ cC cJ cY cH : ClassId} {b a0 a1 : Nat} {h1 h2 i1 i2 i3 i4 : hS} {rw : Nat → Option Nat} {tx ac : Nat → Nat} : (xW cI cZ cC cJ cY cH (b, (h1, h2), ((a0, a1), (i1, i2, i3, i4), rw), tx, ac))[139]? = some ((xA b a0 a1 h1 h2 i1 i2 i3 i4 tx ac) 88, (hb_E0 (xA b a0 a1 h1 h2 i1 i2 i3 i4 tx ac) (bD cI cZ cC cJ cY cH kdX) kdX (xU h1 h2 i1 i2 i3 i4) (fun _ _ => 0)) 88) := rfl
set_option maxRecDepth 100000 in
theorem xw_89 {cI cZ cC cJ cY cH : ClassId} {b a0 a1 : Nat} {h1 h2 i1 i2 i3 i4 : hS} {rw : Nat → Option Nat} {tx ac : Nat → Nat} : (xW cI cZ cC cJ cY cH (b, (h1, h2), ((a0, a1), (i1, i2, i3, i4), rw), tx, ac))[140]? = some ((xA b a0 a1 h1 h2 i1 i2 i3 i4 tx ac) 89, (hb_E0 (xA b a0 a1 h1 h2 i1 i2 i3 i4 tx ac) (bD cI cZ cC cJ cY cH kdX) kdX (xU h1 h2 i1 i2 i3 i4) (fun _ _ => 0)) 89) := rfl
set_option maxRecDepth 100000 in
theorem xw_90 {cI cZ cC cJ cY cH : ClassId} {b a0 a1 : Nat} {h1 h2 i1 i2 i3 i4 : hS} {rw : Nat → Option Nat} {tx ac : Nat → Nat} : (xW cI cZ cC cJ cY cH (b, (h1, h2), ((a0, a1), (i1, i2, i3, i4), rw), tx, ac))[141]? = some ((xA b a0 a1 h1 h2 i1 i2 i3 i4 tx ac) 90, (hb_E0 (xA b a0 a1 h1 h2 i1 i2 i3 i4 tx ac) (bD cI cZ cC cJ cY cH kdX) kdX (xU h1 h2 i1 i2 i3 i4) (fun _ _ => 0)) 90) := rfl
set_option maxRecDepth 100000 in
theorem xw_91 {cI cZ cC cJ cY cH : ClassId} {b a0 a1 : Nat} {h1 h2 i1 i2 i3 i4 : hS} {rw : Nat → Option Nat} {tx ac : Nat → Nat} : (xW cI cZ cC cJ cY cH (b, (h1, h2), ((a0, a1), (i1, i2, i3, i4), rw), tx, ac))[142]? = some ((xA b a0 a1 h1 h2 i1 i2 i3 i4 tx ac) 91, (hb_E0 (xA b a0 a1 h1 h2 i1 i2 i3 i4 tx ac) (bD cI cZ cC cJ cY cH kdX) kdX (xU h1 h2 i1 i2 i3 i4) (fun _ _ => 0)) 91) := rfl
set_option maxRecDepth 100000 in
theorem xw_92 {cI cZ cC cJ cY cH : ClassId} {b a0 a1 : Nat} {h1 h2 i1 i2 i3 i4 : hS} {rw : Nat → Option Nat} {tx ac : Nat → Nat} : (xW cI cZ cC cJ cY cH (b, (h1, h2), ((a0, a1), (i1, i2, i3, i4), rw), tx, ac))[143]? = some ((xA b a0 a1 h1 h2 i1 i2 i3 i4 tx ac) 92, (hb_E0 (xA b a0 a1 h1 h2 i1 i2 i3 i4 tx ac) (bD cI cZ cC cJ cY cH kdX) kdX (xU h1 h2 i1 i2 i3 i4) (fun _ _ => 0)) 92) := rfl
set_option maxRecDepth 100000 in
theorem xw_93 {cI cZ cC cJ cY cH : ClassId} {b a0 a1 : Nat} {h1 h2 i1 i2 i3 i4 : hS} {rw : Nat → Option Nat} {tx ac : Nat → Nat} : (xW cI cZ cC cJ cY cH (b, (h1, h2), ((a0, a1), (i1, i2, i3, i4), rw), tx, ac))[144]? = some ((xA b a0 a1 h1 h2 i1 i2 i3 i4 tx ac) 93, (hb_E0 (xA b a0 a1 h1 h2 i1 i2 i3 i4 tx ac) (bD cI cZ cC cJ cY cH kdX) kdX (xU h1 h2 i1 i2 i3 i4) (fun _ _ => 0)) 93) := rfl
set_option maxRecDepth 100000 in
theorem xw_94 {cI cZ cC cJ cY cH : ClassId} {b a0 a1 : Nat} {h1 h2 i1 i2 i3 i4 : hS} {rw : Nat → Option Nat} {tx ac : Nat → Nat} : (xW cI cZ cC cJ cY cH (b, (h1, h2), ((a0, a1), (i1, i2, i3, i4), rw), tx, ac))[145]? = some ((xA b a0 a1 h1 h2 i1 i2 i3 i4 tx ac) 94, (hb_E0 (xA b a0 a1 h1 h2 i1 i2 i3 i4 tx ac) (bD cI cZ cC cJ cY cH kdX) kdX (xU h1 h2 i1 i2 i3 i4) (fun _ _ => 0)) 94) := rfl
set_option maxRecDepth 100000 in
theorem xw_95 {cI cZ cC cJ cY cH : ClassId} {b a0 a1 : Nat} {h1 h2 i1 i2 i3 i4 : hS} {rw : Nat → Option Nat} {tx ac : Nat → Nat} : (xW cI cZ cC cJ cY cH (b, (h1, h2), ((a0, a1), (i1, i2, i3, i4), rw), tx, ac))[146]? = some ((xA b a0 a1 h1 h2 i1 i2 i3 i4 tx ac) 95, (hb_E0 (xA b a0 a1 h1 h2 i1 i2 i3 i4 tx ac) (bD cI cZ cC cJ cY cH kdX) kdX (xU h1 h2 i1 i2 i3 i4) (fun _ _ => 0)) 95) := rfl
set_option maxRecDepth 100000 in
theorem xw_96 {cI cZ cC cJ cY cH : ClassId} {b a0 a1 : Nat} {h1 h2 i1 i2 i3 i4 : hS} {rw : Nat → Option Nat} {tx ac : Nat → Nat} : (xW cI cZ cC cJ cY cH (b, (h1, h2), ((a0, a1), (i1, i2, i3, i4), rw), tx, ac))[147]? = some ((xA b a0 a1 h1 h2 i1 i2 i3 i4 tx ac) 96, (hb_E0 (xA b a0 a1 h1 h2 i1 i2 i3 i4 tx ac) (bD cI cZ cC cJ cY cH kdX) kdX (xU h1 h2 i1 i2 i3 i4) (fun _ _ => 0)) 96) := rfl
set_option maxRecDepth 100000 in
theorem xw_97 {cI cZ cC cJ cY cH : ClassId} {b a0 a1 : Nat} {h1 h2 i1 i2 i3 i4 : hS} {rw : Nat → Option Nat} {tx ac : Nat → Nat} : (xW cI cZ cC cJ cY cH (b, (h1, h2), ((a0, a1), (i1, i2, i3, i4), rw), tx, ac))[148]? = some ((xA b a0 a1 h1 h2 i1 i2 i3 i4 tx ac) 97, (hb_E0 (xA b a0 a1 h1 h2 i1 i2 i3 i4 tx ac) (bD cI cZ cC cJ cY cH kdX) kdX (xU h1 h2 i1 i2 i3 i4) (fun _ _ => 0)) 97) := rfl
set_option maxRecDepth 100000 in
theorem xw_98 {cI cZ cC cJ cY cH : ClassId} {b a0 a1 : Nat} {h1 h2 i1 i2 i3 i4 : hS} {rw : Nat → Option Nat} {tx ac : Nat → Nat} : (xW cI cZ cC cJ cY cH (b, (h1, h2), ((a0, a1), (i1, i2, i3, i4), rw), tx, ac))[149]? = some ((xA b a0 a1 h1 h2 i1 i2 i3 i4 tx ac) 98, (hb_E0 (xA b a0 a1 h1 h2 i1 i2 i3 i4 tx ac) (bD cI cZ cC cJ cY cH kdX) kdX (xU h1 h2 i1 i2 i3 i4) (fun _ _ => 0)) 98) := rfl
set_option maxRecDepth 100000 in
theorem xw_99 {cI cZ cC cJ cY cH : ClassId} {b a0 a1 : Nat} {h1 h2 i1 i2 i3 i4 : hS} {rw : Nat → Option Nat} {tx ac : Nat → Nat} : (xW cI cZ cC cJ cY cH (b, (h1, h2), ((a0, a1), (i1, i2, i3, i4), rw), tx, ac))[150]? = some ((xA b a0 a1 h1 h2 i1 i2 i3 i4 tx ac) 99, (hb_E0 (xA b a0 a1 h1 h2 i1 i2 i3 i4 tx ac) (bD cI cZ cC cJ cY cH kdX) kdX (xU h1 h2 i1 i2 i3 i4) (fun _ _ => 0)) 99) := rfl
set_option maxRecDepth 100000 in
theorem xw_100 {cI cZ cC cJ cY cH : ClassId} {b a0 a1 : Nat} {h1 h2 i1 i2 i3 i4 : hS} {rw : Nat → Option Nat} {tx ac : Nat → Nat} : (xW cI cZ cC cJ cY cH (b, (h1, h2), ((a0, a1), (i1, i2, i3, i4), rw), tx, ac))[151]? = some ((xA b a0 a1 h1 h2 i1 i2 i3 i4 tx ac) 100, (hb_E0 (xA b a0 a1 h1 h2 i1 i2 i3 i4 tx ac) (bD cI cZ cC cJ cY cH kdX) kdX (xU h1 h2 i1 i2 i3 i4) (fun _ _ => 0)) 100) := rfl
set_option maxRecDepth 100000 in
theorem xw_101 {cI cZ cC cJ cY cH : ClassId} {b a0 a1 : Nat} {h1 h2 i1 i2 i3 i4 : hS} {rw : Nat → Option Nat} {tx ac : Nat → Nat} : (xW cI cZ cC cJ cY cH (b, (h1, h2), ((a0, a1), (i1, i2, i3, i4), rw), tx, ac))[152]? = some ((xA b a0 a1 h1 h2 i1 i2 i3 i4 tx ac) 101, (hb_E0 (xA b a0 a1 h1 h2 i1 i2 i3 i4 tx ac) (bD cI cZ cC cJ cY cH kdX) kdX (xU h1 h2 i1 i2 i3 i4) (fun _ _ => 0)) 101) := rfl
set_option maxRecDepth 100000 in
theorem xw_102 {cI cZ cC cJ cY cH : ClassId} {b a0 a1 : Nat} {h1 h2 i1 i2 i3 i4 : hS} {rw : Nat → Option Nat} {tx ac : Nat → Nat} : (xW cI cZ cC cJ cY cH (b, (h1, h2), ((a0, a1), (i1, i2, i3, i4), rw), tx, ac))[153]? = some ((xA b a0 a1 h1 h2 i1 i2 i3 i4 tx ac) 102, (hb_E0 (xA b a0 a1 h1 h2 i1 i2 i3 i4 tx ac) (bD cI cZ cC cJ cY cH kdX) kdX (xU h1 h2 i1 i2 i3 i4) (fun _ _ => 0)) 102) := rfl
set_option maxRecDepth 100000 in
theorem xw_103 {cI cZ cC cJ cY cH : ClassId} {b a0 a1 : Nat} {h1 h2 i1 i2 i3 i4 : hS} {rw : Nat → Option Nat} {tx ac : Nat → Nat} : (xW cI cZ cC cJ cY cH (b, (h1, h2), ((a0, a1), (i1, i2, i3, i4), rw), tx, ac))[154]? = some ((xA b a0 a1 h1 h2 i1 i2 i3 i4 tx ac) 103, (hb_E0 (xA b a0 a1 h1 h2 i1 i2 i3 i4 tx ac) (bD cI cZ cC cJ cY cH kdX) kdX (xU h1 h2 i1 i2 i3 i4) (fun _ _ => 0)) 103) := rfl
set_option maxRecDepth 100000 in
theorem xw_104 {cI cZ cC cJ cY cH : ClassId} {b a0 a1 : Nat} {h1 h2 i1 i2 i3 i4 : hS} {rw : Nat → Option Nat} {tx ac : Nat → Nat} : (xW cI cZ cC cJ cY cH (b, (h1, h2), ((a0, a1), (i1, i2, i3, i4), rw), tx, ac))[155]? = some ((xA b a0 a1 h1 h2 i1 i2 i3 i4 tx ac) 104, (hb_E0 (xA b a0 a1 h1 h2 i1 i2 i3 i4 tx ac) (bD cI cZ cC cJ cY cH kdX) kdX (xU h1 h2 i1 i2 i3 i4) (fun _ _ => 0)) 104) := rfl
set_option maxRecDepth 100000 in
theorem xw_105 {cI cZ cC cJ cY cH : ClassId} {b a0 a1 : Nat} {h1 h2 i1 i2 i3 i4 : hS} {rw : Nat → Option Nat} {tx ac : Nat → Nat} : (xW cI cZ cC cJ cY cH (b, (h1, h2), ((a0, a1), (i1, i2, i3, i4), rw), tx, ac))[156]? = some ((xA b a0 a1 h1 h2 i1 i2 i3 i4 tx ac) 105, (hb_E0 (xA b a0 a1 h1 h2 i1 i2 i3 i4 tx ac) (bD cI cZ cC cJ cY cH kdX) kdX (xU h1 h2 i1 i2 i3 i4) (fun _ _ => 0)) 105) := rfl
set_option maxRecDepth 100000 in
theorem xw_106 {cI cZ cC cJ cY cH : ClassId} {b a0 a1 : Nat} {h1 h2 i1 i2 i3 i4 : hS} {rw : Nat → Option Nat} {tx ac : Nat → Nat} : (xW cI cZ cC cJ cY cH (b, (h1, h2), ((a0, a1), (i1, i2, i3, i4), rw), tx, ac))[157]? = some ((xA b a0 a1 h1 h2 i1 i2 i3 i4 tx ac) 106, (hb_E0 (xA b a0 a1 h1 h2 i1 i2 i3 i4 tx ac) (bD cI cZ cC cJ cY cH kdX) kdX (xU h1 h2 i1 i2 i3 i4) (fun _ _ => 0)) 106) := rfl
set_option maxRecDepth 100000 in
theorem xw_107 {cI cZ cC cJ cY cH : ClassId} {b a0 a1 : Nat} {h1 h2 i1 i2 i3 i4 : hS} {rw : Nat → Option Nat} {tx ac : Nat → Nat} : (xW cI cZ cC cJ cY cH (b, (h1, h2), ((a0, a1), (i1, i2, i3, i4), rw), tx, ac))[158]? = some ((xA b a0 a1 h1 h2 i1 i2 i3 i4 tx ac) 107, (hb_E0 (xA b a0 a1 h1 h2 i1 i2 i3 i4 tx ac) (bD cI cZ cC cJ cY cH kdX) kdX (xU h1 h2 i1 i2 i3 i4) (fun _ _ => 0)) 107) := rfl
set_option maxRecDepth 100000 in
theorem xw_108 {cI cZ cC cJ cY cH : ClassId} {b a0 a1 : Nat} {h1 h2 i1 i2 i3 i4 : hS} {rw : Nat → Option Nat} {tx ac : Nat → Nat} : (xW cI cZ cC cJ cY cH (b, (h1, h2), ((a0, a1), (i1, i2, i3, i4), rw), tx, ac))[159]? = some ((xA b a0 a1 h1 h2 i1 i2 i3 i4 tx ac) 108, (hb_E0 (xA b a0 a1 h1 h2 i1 i2 i3 i4 tx ac) (bD cI cZ cC cJ cY cH kdX) kdX (xU h1 h2 i1 i2 i3 i4) (fun _ _ => 0)) 108) := rfl
set_option maxRecDepth 100000 in
theorem xw_109 {cI cZ cC cJ cY cH : ClassId} {b a0 a1 : Nat} {h1 h2 i1 i2 i3 i4 : hS} {rw : Nat → Option Nat} {tx ac : Nat → Nat} : (xW cI cZ cC cJ cY cH (b, (h1, h2), ((a0, a1), (i1, i2, i3, i4), rw), tx, ac))[160]? = some ((xA b a0 a1 h1 h2 i1 i2 i3 i4 tx ac) 109, (hb_E0 (xA b a0 a1 h1 h2 i1 i2 i3 i4 tx ac) (bD cI cZ cC cJ cY cH kdX) kdX (xU h1 h2 i1 i2 i3 i4) (fun _ _ => 0)) 109) := rfl
set_option maxRecDepth 100000 in
theorem xw_110 {cI cZ cC cJ cY cH : ClassId} {b a0 a1 : Nat} {h1 h2 i1 i2 i3 i4 : hS} {rw : Nat → Option Nat} {tx ac : Nat → Nat} : (xW cI cZ cC cJ cY cH (b, (h1, h2), ((a0, a1), (i1, i2, i3, i4), rw), tx, ac))[161]? = some ((xA b a0 a1 h1 h2 i1 i2 i3 i4 tx ac) 110, (hb_E0 (xA b a0 a1 h1 h2 i1 i2 i3 i4 tx ac) (bD cI cZ cC cJ cY cH kdX) kdX (xU h1 h2 i1 i2 i3 i4) (fun _ _ => 0)) 110) := rfl
set_option maxRecDepth 100000 in
theorem xw_111 {cI cZ cC cJ cY cH : ClassId} {b a0 a1 : Nat} {h1 h2 i1 i2 i3 i4 : hS} {rw : Nat → Option Nat} {tx ac : Nat → Nat} : (xW cI cZ cC cJ cY cH (b, (h1, h2), ((a0, a1), (i1, i2, i3, i4), rw), tx, ac))[162]? = some ((xA b a0 a1 h1 h2 i1 i2 i3 i4 tx ac) 111, (hb_E0 (xA b a0 a1 h1 h2 i1 i2 i3 i4 tx ac) (bD cI cZ cC cJ cY cH kdX) kdX (xU h1 h2 i1 i2 i3 i4) (fun _ _ => 0)) 111) := rfl
set_option maxRecDepth 100000 in
theorem xw_112 {cI cZ cC cJ cY cH : ClassId} {b a0 a1 : Nat} {h1 h2 i1 i2 i3 i4 : hS} {rw : Nat → Option Nat} {tx ac : Nat → Nat} : (xW cI cZ cC cJ cY cH (b, (h1, h2), ((a0, a1), (i1, i2, i3, i4), rw), tx, ac))[163]? = some ((xA b a0 a1 h1 h2 i1 i2 i3 i4 tx ac) 112, (hb_E0 (xA b a0 a1 h1 h2 i1 i2 i3 i4 tx ac) (bD cI cZ cC cJ cY cH kdX) kdX (xU h1 h2 i1 i2 i3 i4) (fun _ _ => 0)) 112) := rfl
set_option maxRecDepth 100000 in
theorem xw_113 {cI cZ cC cJ cY cH : ClassId} {b a0 a1 : Nat} {h1 h2 i1 i2 i3 i4 : hS} {rw : Nat → Option Nat} {tx ac : Nat → Nat} : (xW cI cZ cC cJ cY cH (b, (h1, h2), ((a0, a1), (i1, i2, i3, i4), rw), tx, ac))[164]? = some ((xA b a0 a1 h1 h2 i1 i2 i3 i4 tx ac) 113, (hb_E0 (xA b a0 a1 h1 h2 i1 i2 i3 i4 tx ac) (bD cI cZ cC cJ cY cH kdX) kdX (xU h1 h2 i1 i2 i3 i4) (fun _ _ => 0)) 113) := rfl
set_option maxRecDepth 100000 in
theorem xw_114 {cI cZ cC cJ cY cH : ClassId} {b a0 a1 : Nat} {h1 h2 i1 i2 i3 i4 : hS} {rw : Nat → Option Nat} {tx ac : Nat → Nat} : (xW cI cZ cC cJ cY cH (b, (h1, h2), ((a0, a1), (i1, i2, i3, i4), rw), tx, ac))[89]? = some ((xA b a0 a1 h1 h2 i1 i2 i3 i4 tx ac) 114, (hb_E0 (xA b a0 a1 h1 h2 i1 i2 i3 i4 tx ac) (bD cI cZ cC cJ cY cH kdX) kdX (xU h1 h2 i1 i2 i3 i4) (fun _ _ => 0)) 114) := rfl
set_option maxRecDepth 100000 in
theorem xw_115 {cI cZ cC cJ cY cH : ClassId} {b a0 a1 : Nat} {h1 h2 i1 i2 i3 i4 : hS} {rw : Nat → Option Nat} {tx ac : Nat → Nat} : (xW cI cZ cC cJ cY cH (b, (h1, h2), ((a0, a1), (i1, i2, i3, i4), rw), tx, ac))[90]? = some ((xA b a0 a1 h1 h2 i1 i2 i3 i4 tx ac) 115, (hb_E0 (xA b a0 a1 h1 h2 i1 i2 i3 i4 tx ac) (bD cI cZ cC cJ cY cH kdX) kdX (xU h1 h2 i1 i2 i3 i4) (fun _ _ => 0)) 115) := rfl
set_option maxRecDepth 100000 in
theorem xw_116 {cI cZ cC cJ cY cH : ClassId} {b a0 a1 : Nat} {h1 h2 i1 i2 i3 i4 : hS} {rw : Nat → Option Nat} {tx ac : Nat → Nat} : (xW cI cZ cC cJ cY cH (b, (h1, h2), ((a0, a1), (i1, i2, i3, i4), rw), tx, ac))[91]? = some ((xA b a0 a1 h1 h2 i1 i2 i3 i4 tx ac) 116, (hb_E0 (xA b a0 a1 h1 h2 i1 i2 i3 i4 tx ac) (bD cI cZ cC cJ cY cH kdX) kdX (xU h1 h2 i1 i2 i3 i4) (fun _ _ => 0)) 116) := rfl
set_option maxRecDepth 100000 in
theorem xw_117 {cI cZ cC cJ cY cH : ClassId} {b a0 a1 : Nat} {h1 h2 i1 i2 i3 i4 : hS} {rw : Nat → Option Nat} {tx ac : Nat → Nat} : (xW cI cZ cC cJ cY cH (b, (h1, h2), ((a0, a1), (i1, i2, i3, i4), rw), tx, ac))[92]? = some ((xA b a0 a1 h1 h2 i1 i2 i3 i4 tx ac) 117, (hb_E0 (xA b a0 a1 h1 h2 i1 i2 i3 i4 tx ac) (bD cI cZ cC cJ cY cH kdX) kdX (xU h1 h2 i1 i2 i3 i4) (fun _ _ => 0)) 117) := rfl
set_option maxRecDepth 100000 in
theorem xw_118 {cI cZ cC cJ cY cH : ClassId} {b a0 a1 : Nat} {h1 h2 i1 i2 i3 i4 : hS} {rw : Nat → Option Nat} {tx ac : Nat → Nat} : (xW cI cZ cC cJ cY cH (b, (h1, h2), ((a0, a1), (i1, i2, i3, i4), rw), tx, ac))[93]? = some ((xA b a0 a1 h1 h2 i1 i2 i3 i4 tx ac) 118, (hb_E0 (xA b a0 a1 h1 h2 i1 i2 i3 i4 tx ac) (bD cI cZ cC cJ cY cH kdX) kdX (xU h1 h2 i1 i2 i3 i4) (fun _ _ => 0)) 118) := rfl
set_option maxRecDepth 100000 in
theorem xw_119 {cI cZ cC cJ cY cH : ClassId} {b a0 a1 : Nat} {h1 h2 i1 i2 i3 i4 : hS} {rw : Nat → Option Nat} {tx ac : Nat → Nat} : (xW cI cZ cC cJ cY cH (b, (h1, h2), ((a0, a1), (i1, i2, i3, i4), rw), tx, ac))[94]? = some ((xA b a0 a1 h1 h2 i1 i2 i3 i4 tx ac) 119, (hb_E0 (xA b a0 a1 h1 h2 i1 i2 i3 i4 tx ac) (bD cI cZ cC cJ cY cH kdX) kdX (xU h1 h2 i1 i2 i3 i4) (fun _ _ => 0)) 119) := rfl
set_option maxRecDepth 100000 in
theorem xw_120 {cI cZ cC cJ cY cH : ClassId} {b a0 a1 : Nat} {h1 h2 i1 i2 i3 i4 : hS} {rw : Nat → Option Nat} {tx ac : Nat → Nat} : (xW cI cZ cC cJ cY cH (b, (h1, h2), ((a0, a1), (i1, i2, i3, i4), rw), tx, ac))[95]? = some ((xA b a0 a1 h1 h2 i1 i2 i3 i4 tx ac) 120, (hb_E0 (xA b a0 a1 h1 h2 i1 i2 i3 i4 tx ac) (bD cI cZ cC cJ cY cH kdX) kdX (xU h1 h2 i1 i2 i3 i4) (fun _ _ => 0)) 120) := rfl
set_option maxRecDepth 100000 in
theorem xw_121 {cI cZ cC cJ cY cH : ClassId} {b a0 a1 : Nat} {h1 h2 i1 i2 i3 i4 : hS} {rw : Nat → Option Nat} {tx ac : Nat → Nat} (h : i2.2.2 = fun j => ([14, 20, 26, 32][j]?).map i2.1) : (xW cI cZ cC cJ cY cH (b, (h1, h2), ((a0, a1), (i1, i2, i3, i4), rw), tx, ac))[96]? = some ((xA b a0 a1 h1 h2 i1 i2 i3 i4 tx ac) 121, (hb_E0 (xA b a0 a1 h1 h2 i1 i2 i3 i4 tx ac) (bD cI cZ cC cJ cY cH kdX) kdX (xU h1 h2 i1 i2 i3 i4) (fun _ _ => 0)) 121) := by
  rw [show (xW cI cZ cC cJ cY cH (b, (h1, h2), ((a0, a1), (i1, i2, i3, i4), rw), tx, ac))[96]? = some ((xA b a0 a1 h1 h2 i1 i2 i3 i4 tx ac) 121, .inl (cY, 4, .inr (.inr (.inr (.inr i2.2.2))))) from rfl, h]
  rw [show (fun j => ([14, 20, 26, 32][j]?).map i2.1) = fun j => ([128, 134, 140, 146][j]?).map (xA b a0 a1 h1 h2 i1 i2 i3 i4 tx ac) from funext (fun j => match j with
    | 0 => rfl
    | 1 => rfl
    | 2 => rfl
    | 3 => rfl
    | j + 4 => rfl)]
  rfl
set_option maxRecDepth 100000 in
theorem xw_122 {cI cZ cC cJ cY cH : ClassId} {b a0 a1 : Nat} {h1 h2 i1 i2 i3 i4 : hS} {rw : Nat → Option Nat} {tx ac : Nat → Nat} : (xW cI cZ cC cJ cY cH (b, (h1, h2), ((a0, a1), (i1, i2, i3, i4), rw), tx, ac))[97]? = some ((xA b a0 a1 h1 h2 i1 i2 i3 i4 tx ac) 122, (hb_E0 (xA b a0 a1 h1 h2 i1 i2 i3 i4 tx ac) (bD cI cZ cC cJ cY cH kdX) kdX (xU h1 h2 i1 i2 i3 i4) (fun _ _ => 0)) 122) := rfl
set_option maxRecDepth 100000 in
theorem xw_123 {cI cZ cC cJ cY cH : ClassId} {b a0 a1 : Nat} {h1 h2 i1 i2 i3 i4 : hS} {rw : Nat → Option Nat} {tx ac : Nat → Nat} : (xW cI cZ cC cJ cY cH (b, (h1, h2), ((a0, a1), (i1, i2, i3, i4), rw), tx, ac))[98]? = some ((xA b a0 a1 h1 h2 i1 i2 i3 i4 tx ac) 123, (hb_E0 (xA b a0 a1 h1 h2 i1 i2 i3 i4 tx ac) (bD cI cZ cC cJ cY cH kdX) kdX (xU h1 h2 i1 i2 i3 i4) (fun _ _ => 0)) 123) := rfl
set_option maxRecDepth 100000 in
theorem xw_124 {cI cZ cC cJ cY cH : ClassId} {b a0 a1 : Nat} {h1 h2 i1 i2 i3 i4 : hS} {rw : Nat → Option Nat} {tx ac : Nat → Nat} : (xW cI cZ cC cJ cY cH (b, (h1, h2), ((a0, a1), (i1, i2, i3, i4), rw), tx, ac))[99]? = some ((xA b a0 a1 h1 h2 i1 i2 i3 i4 tx ac) 124, (hb_E0 (xA b a0 a1 h1 h2 i1 i2 i3 i4 tx ac) (bD cI cZ cC cJ cY cH kdX) kdX (xU h1 h2 i1 i2 i3 i4) (fun _ _ => 0)) 124) := rfl
set_option maxRecDepth 100000 in
theorem xw_125 {cI cZ cC cJ cY cH : ClassId} {b a0 a1 : Nat} {h1 h2 i1 i2 i3 i4 : hS} {rw : Nat → Option Nat} {tx ac : Nat → Nat} : (xW cI cZ cC cJ cY cH (b, (h1, h2), ((a0, a1), (i1, i2, i3, i4), rw), tx, ac))[100]? = some ((xA b a0 a1 h1 h2 i1 i2 i3 i4 tx ac) 125, (hb_E0 (xA b a0 a1 h1 h2 i1 i2 i3 i4 tx ac) (bD cI cZ cC cJ cY cH kdX) kdX (xU h1 h2 i1 i2 i3 i4) (fun _ _ => 0)) 125) := rfl
set_option maxRecDepth 100000 in
theorem xw_126 {cI cZ cC cJ cY cH : ClassId} {b a0 a1 : Nat} {h1 h2 i1 i2 i3 i4 : hS} {rw : Nat → Option Nat} {tx ac : Nat → Nat} : (xW cI cZ cC cJ cY cH (b, (h1, h2), ((a0, a1), (i1, i2, i3, i4), rw), tx, ac))[101]? = some ((xA b a0 a1 h1 h2 i1 i2 i3 i4 tx ac) 126, (hb_E0 (xA b a0 a1 h1 h2 i1 i2 i3 i4 tx ac) (bD cI cZ cC cJ cY cH kdX) kdX (xU h1 h2 i1 i2 i3 i4) (fun _ _ => 0)) 126) := rfl
set_option maxRecDepth 100000 in
theorem xw_127 {cI cZ cC cJ cY cH : ClassId} {b a0 a1 : Nat} {h1 h2 i1 i2 i3 i4 : hS} {rw : Nat → Option Nat} {tx ac : Nat → Nat} : (xW cI cZ cC cJ cY cH (b, (h1, h2), ((a0, a1), (i1, i2, i3, i4), rw), tx, ac))[102]? = some ((xA b a0 a1 h1 h2 i1 i2 i3 i4 tx ac) 127, (hb_E0 (xA b a0 a1 h1 h2 i1 i2 i3 i4 tx ac) (bD cI cZ cC cJ cY cH kdX) kdX (xU h1 h2 i1 i2 i3 i4) (fun _ _ => 0)) 127) := rfl
set_option maxRecDepth 100000 in
theorem xw_128 {cI cZ cC cJ cY cH : ClassId} {b a0 a1 : Nat} {h1 h2 i1 i2 i3 i4 : hS} {rw : Nat → Option Nat} {tx ac : Nat → Nat} : (xW cI cZ cC cJ cY cH (b, (h1, h2), ((a0, a1), (i1, i2, i3, i4), rw), tx, ac))[103]? = some ((xA b a0 a1 h1 h2 i1 i2 i3 i4 tx ac) 128, (hb_E0 (xA b a0 a1 h1 h2 i1 i2 i3 i4 tx ac) (bD cI cZ cC cJ cY cH kdX) kdX (xU h1 h2 i1 i2 i3 i4) (fun _ _ => 0)) 128) := rfl
set_option maxRecDepth 100000 in
theorem xw_129 {cI cZ cC cJ cY cH : ClassId} {b a0 a1 : Nat} {h1 h2 i1 i2 i3 i4 : hS} {rw : Nat → Option Nat} {tx ac : Nat → Nat} : (xW cI cZ cC cJ cY cH (b, (h1, h2), ((a0, a1), (i1, i2, i3, i4), rw), tx, ac))[104]? = some ((xA b a0 a1 h1 h2 i1 i2 i3 i4 tx ac) 129, (hb_E0 (xA b a0 a1 h1 h2 i1 i2 i3 i4 tx ac) (bD cI cZ cC cJ cY cH kdX) kdX (xU h1 h2 i1 i2 i3 i4) (fun _ _ => 0)) 129) := rfl
set_option maxRecDepth 100000 in
theorem xw_130 {cI cZ cC cJ cY cH : ClassId} {b a0 a1 : Nat} {h1 h2 i1 i2 i3 i4 : hS} {rw : Nat → Option Nat} {tx ac : Nat → Nat} : (xW cI cZ cC cJ cY cH (b, (h1, h2), ((a0, a1), (i1, i2, i3, i4), rw), tx, ac))[105]? = some ((xA b a0 a1 h1 h2 i1 i2 i3 i4 tx ac) 130, (hb_E0 (xA b a0 a1 h1 h2 i1 i2 i3 i4 tx ac) (bD cI cZ cC cJ cY cH kdX) kdX (xU h1 h2 i1 i2 i3 i4) (fun _ _ => 0)) 130) := rfl
set_option maxRecDepth 100000 in
theorem xw_131 {cI cZ cC cJ cY cH : ClassId} {b a0 a1 : Nat} {h1 h2 i1 i2 i3 i4 : hS} {rw : Nat → Option Nat} {tx ac : Nat → Nat} : (xW cI cZ cC cJ cY cH (b, (h1, h2), ((a0, a1), (i1, i2, i3, i4), rw), tx, ac))[106]? = some ((xA b a0 a1 h1 h2 i1 i2 i3 i4 tx ac) 131, (hb_E0 (xA b a0 a1 h1 h2 i1 i2 i3 i4 tx ac) (bD cI cZ cC cJ cY cH kdX) kdX (xU h1 h2 i1 i2 i3 i4) (fun _ _ => 0)) 131) := rfl
set_option maxRecDepth 100000 in
theorem xw_132 {cI cZ cC cJ cY cH : ClassId} {b a0 a1 : Nat} {h1 h2 i1 i2 i3 i4 : hS} {rw : Nat → Option Nat} {tx ac : Nat → Nat} : (xW cI cZ cC cJ cY cH (b, (h1, h2), ((a0, a1), (i1, i2, i3, i4), rw), tx, ac))[107]? = some ((xA b a0 a1 h1 h2 i1 i2 i3 i4 tx ac) 132, (hb_E0 (xA b a0 a1 h1 h2 i1 i2 i3 i4 tx ac) (bD cI cZ cC cJ cY cH kdX) kdX (xU h1 h2 i1 i2 i3 i4) (fun _ _ => 0)) 132) := rfl
set_option maxRecDepth 100000 in
theorem xw_133 {cI cZ cC cJ cY cH : ClassId} {b a0 a1 : Nat} {h1 h2 i1 i2 i3 i4 : hS} {rw : Nat → Option Nat} {tx ac : Nat → Nat} : (xW cI cZ cC cJ cY cH (b, (h1, h2), ((a0, a1), (i1, i2, i3, i4), rw), tx, ac))[108]? = some ((xA b a0 a1 h1 h2 i1 i2 i3 i4 tx ac) 133, (hb_E0 (xA b a0 a1 h1 h2 i1 i2 i3 i4 tx ac) (bD cI cZ cC cJ cY cH kdX) kdX (xU h1 h2 i1 i2 i3 i4) (fun _ _ => 0)) 133) := rfl
set_option maxRecDepth 100000 in
theorem xw_134 {cI cZ cC cJ cY cH : ClassId} {b a0 a1 : Nat} {h1 h2 i1 i2 i3 i4 : hS} {rw : Nat → Option Nat} {tx ac : Nat → Nat} : (xW cI cZ cC cJ cY cH (b, (h1, h2), ((a0, a1), (i1, i2, i3, i4), rw), tx, ac))[109]? = some ((xA b a0 a1 h1 h2 i1 i2 i3 i4 tx ac) 134, (hb_E0 (xA b a0 a1 h1 h2 i1 i2 i3 i4 tx ac) (bD cI cZ cC cJ cY cH kdX) kdX (xU h1 h2 i1 i2 i3 i4) (fun _ _ => 0)) 134) := rfl
set_option maxRecDepth 100000 in
theorem xw_135 {cI cZ cC cJ cY cH : ClassId} {b a0 a1 : Nat} {h1 h2 i1 i2 i3 i4 : hS} {rw : Nat → Option Nat} {tx ac : Nat → Nat} : (xW cI cZ cC cJ cY cH (b, (h1, h2), ((a0, a1), (i1, i2, i3, i4), rw), tx, ac))[110]? = some ((xA b a0 a1 h1 h2 i1 i2 i3 i4 tx ac) 135, (hb_E0 (xA b a0 a1 h1 h2 i1 i2 i3 i4 tx ac) (bD cI cZ cC cJ cY cH kdX) kdX (xU h1 h2 i1 i2 i3 i4) (fun _ _ => 0)) 135) := rfl
set_option maxRecDepth 100000 in
theorem xw_136 {cI cZ cC cJ cY cH : ClassId} {b a0 a1 : Nat} {h1 h2 i1 i2 i3 i4 : hS} {rw : Nat → Option Nat} {tx ac : Nat → Nat} : (xW cI cZ cC cJ cY cH (b, (h1, h2), ((a0, a1), (i1, i2, i3, i4), rw), tx, ac))[111]? = some ((xA b a0 a1 h1 h2 i1 i2 i3 i4 tx ac) 136, (hb_E0 (xA b a0 a1 h1 h2 i1 i2 i3 i4 tx ac) (bD cI cZ cC cJ cY cH kdX) kdX (xU h1 h2 i1 i2 i3 i4) (fun _ _ => 0)) 136) := rfl
set_option maxRecDepth 100000 in
theorem xw_137 {cI cZ cC cJ cY cH : ClassId} {b a0 a1 : Nat} {h1 h2 i1 i2 i3 i4 : hS} {rw : Nat → Option Nat} {tx ac : Nat → Nat} : (xW cI cZ cC cJ cY cH (b, (h1, h2), ((a0, a1), (i1, i2, i3, i4), rw), tx, ac))[112]? = some ((xA b a0 a1 h1 h2 i1 i2 i3 i4 tx ac) 137, (hb_E0 (xA b a0 a1 h1 h2 i1 i2 i3 i4 tx ac) (bD cI cZ cC cJ cY cH kdX) kdX (xU h1 h2 i1 i2 i3 i4) (fun _ _ => 0)) 137) := rfl
set_option maxRecDepth 100000 in
theorem xw_138 {cI cZ cC cJ cY cH : ClassId} {b a0 a1 : Nat} {h1 h2 i1 i2 i3 i4 : hS} {rw : Nat → Option Nat} {tx ac : Nat → Nat} : (xW cI cZ cC cJ cY cH (b, (h1, h2), ((a0, a1), (i1, i2, i3, i4), rw), tx, ac))[113]? = some ((xA b a0 a1 h1 h2 i1 i2 i3 i4 tx ac) 138, (hb_E0 (xA b a0 a1 h1 h2 i1 i2 i3 i4 tx ac) (bD cI cZ cC cJ cY cH kdX) kdX (xU h1 h2 i1 i2 i3 i4) (fun _ _ => 0)) 138) := rfl
set_option maxRecDepth 100000 in
theorem xw_139 {cI cZ cC cJ cY cH : ClassId} {b a0 a1 : Nat} {h1 h2 i1 i2 i3 i4 : hS} {rw : Nat → Option Nat} {tx ac : Nat → Nat} : (xW cI cZ cC cJ cY cH (b, (h1, h2), ((a0, a1), (i1, i2, i3, i4), rw), tx, ac))[114]? = some ((xA b a0 a1 h1 h2 i1 i2 i3 i4 tx ac) 139, (hb_E0 (xA b a0 a1 h1 h2 i1 i2 i3 i4 tx ac) (bD cI cZ cC cJ cY cH kdX) kdX (xU h1 h2 i1 i2 i3 i4) (fun _ _ => 0)) 139) := rfl
set_option maxRecDepth 100000 in
theorem xw_140 {cI cZ cC cJ cY cH : ClassId} {b a0 a1 : Nat} {h1 h2 i1 i2 i3 i4 : hS} {rw : Nat → Option Nat} {tx ac : Nat → Nat} : (xW cI cZ cC cJ cY cH (b, (h1, h2), ((a0, a1), (i1, i2, i3, i4), rw), tx, ac))[115]? = some ((xA b a0 a1 h1 h2 i1 i2 i3 i4 tx ac) 140, (hb_E0 (xA b a0 a1 h1 h2 i1 i2 i3 i4 tx ac) (bD cI cZ cC cJ cY cH kdX) kdX (xU h1 h2 i1 i2 i3 i4) (fun _ _ => 0)) 140) := rfl
set_option maxRecDepth 100000 in
theorem xw_141 {cI cZ cC cJ cY cH : ClassId} {b a0 a1 : Nat} {h1 h2 i1 i2 i3 i4 : hS} {rw : Nat → Option Nat} {tx ac : Nat → Nat} : (xW cI cZ cC cJ cY cH (b, (h1, h2), ((a0, a1), (i1, i2, i3, i4), rw), tx, ac))[116]? = some ((xA b a0 a1 h1 h2 i1 i2 i3 i4 tx ac) 141, (hb_E0 (xA b a0 a1 h1 h2 i1 i2 i3 i4 tx ac) (bD cI cZ cC cJ cY cH kdX) kdX (xU h1 h2 i1 i2 i3 i4) (fun _ _ => 0)) 141) := rfl
set_option maxRecDepth 100000 in
theorem xw_142 {cI cZ cC cJ cY cH : ClassId} {b a0 a1 : Nat} {h1 h2 i1 i2 i3 i4 : hS} {rw : Nat → Option Nat} {tx ac : Nat → Nat} : (xW cI cZ cC cJ cY cH (b, (h1, h2), ((a0, a1), (i1, i2, i3, i4), rw), tx, ac))[117]? = some ((xA b a0 a1 h1 h2 i1 i2 i3 i4 tx ac) 142, (hb_E0 (xA b a0 a1 h1 h2 i1 i2 i3 i4 tx ac) (bD cI cZ cC cJ cY cH kdX) kdX (xU h1 h2 i1 i2 i3 i4) (fun _ _ => 0)) 142) := rfl
set_option maxRecDepth 100000 in
theorem xw_143 {cI cZ cC cJ cY cH : ClassId} {b a0 a1 : Nat} {h1 h2 i1 i2 i3 i4 : hS} {rw : Nat → Option Nat} {tx ac : Nat → Nat} : (xW cI cZ cC cJ cY cH (b, (h1, h2), ((a0, a1), (i1, i2, i3, i4), rw), tx, ac))[118]? = some ((xA b a0 a1 h1 h2 i1 i2 i3 i4 tx ac) 143, (hb_E0 (xA b a0 a1 h1 h2 i1 i2 i3 i4 tx ac) (bD cI cZ cC cJ cY cH kdX) kdX (xU h1 h2 i1 i2 i3 i4) (fun _ _ => 0)) 143) := rfl
set_option maxRecDepth 100000 in
theorem xw_144 {cI cZ cC cJ cY cH : ClassId} {b a0 a1 : Nat} {h1 h2 i1 i2 i3 i4 : hS} {rw : Nat → Option Nat} {tx ac : Nat → Nat} : (xW cI cZ cC cJ cY cH (b, (h1, h2), ((a0, a1), (i1, i2, i3, i4), rw), tx, ac))[119]? = some ((xA b a0 a1 h1 h2 i1 i2 i3 i4 tx ac) 144, (hb_E0 (xA b a0 a1 h1 h2 i1 i2 i3 i4 tx ac) (bD cI cZ cC cJ cY cH kdX) kdX (xU h1 h2 i1 i2 i3 i4) (fun _ _ => 0)) 144) := rfl
set_option maxRecDepth 100000 in
theorem xw_145 {cI cZ cC cJ cY cH : ClassId} {b a0 a1 : Nat} {h1 h2 i1 i2 i3 i4 : hS} {rw : Nat → Option Nat} {tx ac : Nat → Nat} : (xW cI cZ cC cJ cY cH (b, (h1, h2), ((a0, a1), (i1, i2, i3, i4), rw), tx, ac))[120]? = some ((xA b a0 a1 h1 h2 i1 i2 i3 i4 tx ac) 145, (hb_E0 (xA b a0 a1 h1 h2 i1 i2 i3 i4 tx ac) (bD cI cZ cC cJ cY cH kdX) kdX (xU h1 h2 i1 i2 i3 i4) (fun _ _ => 0)) 145) := rfl
set_option maxRecDepth 100000 in
theorem xw_146 {cI cZ cC cJ cY cH : ClassId} {b a0 a1 : Nat} {h1 h2 i1 i2 i3 i4 : hS} {rw : Nat → Option Nat} {tx ac : Nat → Nat} : (xW cI cZ cC cJ cY cH (b, (h1, h2), ((a0, a1), (i1, i2, i3, i4), rw), tx, ac))[121]? = some ((xA b a0 a1 h1 h2 i1 i2 i3 i4 tx ac) 146, (hb_E0 (xA b a0 a1 h1 h2 i1 i2 i3 i4 tx ac) (bD cI cZ cC cJ cY cH kdX) kdX (xU h1 h2 i1 i2 i3 i4) (fun _ _ => 0)) 146) := rfl
set_option maxRecDepth 100000 in
theorem xw_147 {cI cZ cC cJ cY cH : ClassId} {b a0 a1 : Nat} {h1 h2 i1 i2 i3 i4 : hS} {rw : Nat → Option Nat} {tx ac : Nat → Nat} : (xW cI cZ cC cJ cY cH (b, (h1, h2), ((a0, a1), (i1, i2, i3, i4), rw), tx, ac))[122]? = some ((xA b a0 a1 h1 h2 i1 i2 i3 i4 tx ac) 147, (hb_E0 (xA b a0 a1 h1 h2 i1 i2 i3 i4 tx ac) (bD cI cZ cC cJ cY cH kdX) kdX (xU h1 h2 i1 i2 i3 i4) (fun _ _ => 0)) 147) := rfl
set_option maxRecDepth 100000 in
theorem xw_148 {cI cZ cC cJ cY cH : ClassId} {b a0 a1 : Nat} {h1 h2 i1 i2 i3 i4 : hS} {rw : Nat → Option Nat} {tx ac : Nat → Nat} : (xW cI cZ cC cJ cY cH (b, (h1, h2), ((a0, a1), (i1, i2, i3, i4), rw), tx, ac))[123]? = some ((xA b a0 a1 h1 h2 i1 i2 i3 i4 tx ac) 148, (hb_E0 (xA b a0 a1 h1 h2 i1 i2 i3 i4 tx ac) (bD cI cZ cC cJ cY cH kdX) kdX (xU h1 h2 i1 i2 i3 i4) (fun _ _ => 0)) 148) := rfl
set_option maxRecDepth 100000 in
theorem xw_149 {cI cZ cC cJ cY cH : ClassId} {b a0 a1 : Nat} {h1 h2 i1 i2 i3 i4 : hS} {rw : Nat → Option Nat} {tx ac : Nat → Nat} : (xW cI cZ cC cJ cY cH (b, (h1, h2), ((a0, a1), (i1, i2, i3, i4), rw), tx, ac))[124]? = some ((xA b a0 a1 h1 h2 i1 i2 i3 i4 tx ac) 149, (hb_E0 (xA b a0 a1 h1 h2 i1 i2 i3 i4 tx ac) (bD cI cZ cC cJ cY cH kdX) kdX (xU h1 h2 i1 i2 i3 i4) (fun _ _ => 0)) 149) := rfl
set_option maxRecDepth 100000 in
theorem xw_150 {cI cZ cC cJ cY cH : ClassId} {b a0 a1 : Nat} {h1 h2 i1 i2 i3 i4 : hS} {rw : Nat → Option Nat} {tx ac : Nat → Nat} : (xW cI cZ cC cJ cY cH (b, (h1, h2), ((a0, a1), (i1, i2, i3, i4), rw), tx, ac))[125]? = some ((xA b a0 a1 h1 h2 i1 i2 i3 i4 tx ac) 150, (hb_E0 (xA b a0 a1 h1 h2 i1 i2 i3 i4 tx ac) (bD cI cZ cC cJ cY cH kdX) kdX (xU h1 h2 i1 i2 i3 i4) (fun _ _ => 0)) 150) := rfl
set_option maxRecDepth 100000 in
theorem xw_151 {cI cZ cC cJ cY cH : ClassId} {b a0 a1 : Nat} {h1 h2 i1 i2 i3 i4 : hS} {rw : Nat → Option Nat} {tx ac : Nat → Nat} : (xW cI cZ cC cJ cY cH (b, (h1, h2), ((a0, a1), (i1, i2, i3, i4), rw), tx, ac))[126]? = some ((xA b a0 a1 h1 h2 i1 i2 i3 i4 tx ac) 151, (hb_E0 (xA b a0 a1 h1 h2 i1 i2 i3 i4 tx ac) (bD cI cZ cC cJ cY cH kdX) kdX (xU h1 h2 i1 i2 i3 i4) (fun _ _ => 0)) 151) := rfl
set_option maxRecDepth 100000 in
theorem xw_152 {cI cZ cC cJ cY cH : ClassId} {b a0 a1 : Nat} {h1 h2 i1 i2 i3 i4 : hS} {rw : Nat → Option Nat} {tx ac : Nat → Nat} : (xW cI cZ cC cJ cY cH (b, (h1, h2), ((a0, a1), (i1, i2, i3, i4), rw), tx, ac))[51]? = some ((xA b a0 a1 h1 h2 i1 i2 i3 i4 tx ac) 152, (hb_E0 (xA b a0 a1 h1 h2 i1 i2 i3 i4 tx ac) (bD cI cZ cC cJ cY cH kdX) kdX (xU h1 h2 i1 i2 i3 i4) (fun _ _ => 0)) 152) := rfl
set_option maxRecDepth 100000 in
theorem xw_153 {cI cZ cC cJ cY cH : ClassId} {b a0 a1 : Nat} {h1 h2 i1 i2 i3 i4 : hS} {rw : Nat → Option Nat} {tx ac : Nat → Nat} : (xW cI cZ cC cJ cY cH (b, (h1, h2), ((a0, a1), (i1, i2, i3, i4), rw), tx, ac))[52]? = some ((xA b a0 a1 h1 h2 i1 i2 i3 i4 tx ac) 153, (hb_E0 (xA b a0 a1 h1 h2 i1 i2 i3 i4 tx ac) (bD cI cZ cC cJ cY cH kdX) kdX (xU h1 h2 i1 i2 i3 i4) (fun _ _ => 0)) 153) := rfl
set_option maxRecDepth 100000 in
theorem xw_154 {cI cZ cC cJ cY cH : ClassId} {b a0 a1 : Nat} {h1 h2 i1 i2 i3 i4 : hS} {rw : Nat → Option Nat} {tx ac : Nat → Nat} : (xW cI cZ cC cJ cY cH (b, (h1, h2), ((a0, a1), (i1, i2, i3, i4), rw), tx, ac))[53]? = some ((xA b a0 a1 h1 h2 i1 i2 i3 i4 tx ac) 154, (hb_E0 (xA b a0 a1 h1 h2 i1 i2 i3 i4 tx ac) (bD cI cZ cC cJ cY cH kdX) kdX (xU h1 h2 i1 i2 i3 i4) (fun _ _ => 0)) 154) := rfl
set_option maxRecDepth 100000 in
theorem xw_155 {cI cZ cC cJ cY cH : ClassId} {b a0 a1 : Nat} {h1 h2 i1 i2 i3 i4 : hS} {rw : Nat → Option Nat} {tx ac : Nat → Nat} : (xW cI cZ cC cJ cY cH (b, (h1, h2), ((a0, a1), (i1, i2, i3, i4), rw), tx, ac))[54]? = some ((xA b a0 a1 h1 h2 i1 i2 i3 i4 tx ac) 155, (hb_E0 (xA b a0 a1 h1 h2 i1 i2 i3 i4 tx ac) (bD cI cZ cC cJ cY cH kdX) kdX (xU h1 h2 i1 i2 i3 i4) (fun _ _ => 0)) 155) := rfl
set_option maxRecDepth 100000 in
theorem xw_156 {cI cZ cC cJ cY cH : ClassId} {b a0 a1 : Nat} {h1 h2 i1 i2 i3 i4 : hS} {rw : Nat → Option Nat} {tx ac : Nat → Nat} : (xW cI cZ cC cJ cY cH (b, (h1, h2), ((a0, a1), (i1, i2, i3, i4), rw), tx, ac))[55]? = some ((xA b a0 a1 h1 h2 i1 i2 i3 i4 tx ac) 156, (hb_E0 (xA b a0 a1 h1 h2 i1 i2 i3 i4 tx ac) (bD cI cZ cC cJ cY cH kdX) kdX (xU h1 h2 i1 i2 i3 i4) (fun _ _ => 0)) 156) := rfl
set_option maxRecDepth 100000 in
theorem xw_157 {cI cZ cC cJ cY cH : ClassId} {b a0 a1 : Nat} {h1 h2 i1 i2 i3 i4 : hS} {rw : Nat → Option Nat} {tx ac : Nat → Nat} : (xW cI cZ cC cJ cY cH (b, (h1, h2), ((a0, a1), (i1, i2, i3, i4), rw), tx, ac))[56]? = some ((xA b a0 a1 h1 h2 i1 i2 i3 i4 tx ac) 157, (hb_E0 (xA b a0 a1 h1 h2 i1 i2 i3 i4 tx ac) (bD cI cZ cC cJ cY cH kdX) kdX (xU h1 h2 i1 i2 i3 i4) (fun _ _ => 0)) 157) := rfl
set_option maxRecDepth 100000 in
theorem xw_158 {cI cZ cC cJ cY cH : ClassId} {b a0 a1 : Nat} {h1 h2 i1 i2 i3 i4 : hS} {rw : Nat → Option Nat} {tx ac : Nat → Nat} : (xW cI cZ cC cJ cY cH (b, (h1, h2), ((a0, a1), (i1, i2, i3, i4), rw), tx, ac))[57]? = some ((xA b a0 a1 h1 h2 i1 i2 i3 i4 tx ac) 158, (hb_E0 (xA b a0 a1 h1 h2 i1 i2 i3 i4 tx ac) (bD cI cZ cC cJ cY cH kdX) kdX (xU h1 h2 i1 i2 i3 i4) (fun _ _ => 0)) 158) := rfl
set_option maxRecDepth 100000 in
theorem xw_159 {cI cZ cC cJ cY cH : ClassId} {b a0 a1 : Nat} {h1 h2 i1 i2 i3 i4 : hS} {rw : Nat → Option Nat} {tx ac : Nat → Nat} (h : i3.2.2 = fun j => ([14, 20, 26, 32][j]?).map i3.1) : (xW cI cZ cC cJ cY cH (b, (h1, h2), ((a0, a1), (i1, i2, i3, i4), rw), tx, ac))[58]? = some ((xA b a0 a1 h1 h2 i1 i2 i3 i4 tx ac) 159, (hb_E0 (xA b a0 a1 h1 h2 i1 i2 i3 i4 tx ac) (bD cI cZ cC cJ cY cH kdX) kdX (xU h1 h2 i1 i2 i3 i4) (fun _ _ => 0)) 159) := by
  rw [show (xW cI cZ cC cJ cY cH (b, (h1, h2), ((a0, a1), (i1, i2, i3, i4), rw), tx, ac))[58]? = some ((xA b a0 a1 h1 h2 i1 i2 i3 i4 tx ac) 159, .inl (cY, 4, .inr (.inr (.inr (.inr i3.2.2))))) from rfl, h]
  rw [show (fun j => ([14, 20, 26, 32][j]?).map i3.1) = fun j => ([166, 172, 178, 184][j]?).map (xA b a0 a1 h1 h2 i1 i2 i3 i4 tx ac) from funext (fun j => match j with
    | 0 => rfl
    | 1 => rfl
    | 2 => rfl
    | 3 => rfl
    | j + 4 => rfl)]
  rfl
set_option maxRecDepth 100000 in
theorem xw_160 {cI cZ cC cJ cY cH : ClassId} {b a0 a1 : Nat} {h1 h2 i1 i2 i3 i4 : hS} {rw : Nat → Option Nat} {tx ac : Nat → Nat} : (xW cI cZ cC cJ cY cH (b, (h1, h2), ((a0, a1), (i1, i2, i3, i4), rw), tx, ac))[59]? = some ((xA b a0 a1 h1 h2 i1 i2 i3 i4 tx ac) 160, (hb_E0 (xA b a0 a1 h1 h2 i1 i2 i3 i4 tx ac) (bD cI cZ cC cJ cY cH kdX) kdX (xU h1 h2 i1 i2 i3 i4) (fun _ _ => 0)) 160) := rfl
set_option maxRecDepth 100000 in
theorem xw_161 {cI cZ cC cJ cY cH : ClassId} {b a0 a1 : Nat} {h1 h2 i1 i2 i3 i4 : hS} {rw : Nat → Option Nat} {tx ac : Nat → Nat} : (xW cI cZ cC cJ cY cH (b, (h1, h2), ((a0, a1), (i1, i2, i3, i4), rw), tx, ac))[60]? = some ((xA b a0 a1 h1 h2 i1 i2 i3 i4 tx ac) 161, (hb_E0 (xA b a0 a1 h1 h2 i1 i2 i3 i4 tx ac) (bD cI cZ cC cJ cY cH kdX) kdX (xU h1 h2 i1 i2 i3 i4) (fun _ _ => 0)) 161) := rfl
set_option maxRecDepth 100000 in
theorem xw_162 {cI cZ cC cJ cY cH : ClassId} {b a0 a1 : Nat} {h1 h2 i1 i2 i3 i4 : hS} {rw : Nat → Option Nat} {tx ac : Nat → Nat} : (xW cI cZ cC cJ cY cH (b, (h1, h2), ((a0, a1), (i1, i2, i3, i4), rw), tx, ac))[61]? = some ((xA b a0 a1 h1 h2 i1 i2 i3 i4 tx ac) 162, (hb_E0 (xA b a0 a1 h1 h2 i1 i2 i3 i4 tx ac) (bD cI cZ cC cJ cY cH kdX) kdX (xU h1 h2 i1 i2 i3 i4) (fun _ _ => 0)) 162) := rfl
set_option maxRecDepth 100000 in
theorem xw_163 {cI cZ cC cJ cY cH : ClassId} {b a0 a1 : Nat} {h1 h2 i1 i2 i3 i4 : hS} {rw : Nat → Option Nat} {tx ac : Nat → Nat} : (xW cI cZ cC cJ cY cH (b, (h1, h2), ((a0, a1), (i1, i2, i3, i4), rw), tx, ac))[62]? = some ((xA b a0 a1 h1 h2 i1 i2 i3 i4 tx ac) 163, (hb_E0 (xA b a0 a1 h1 h2 i1 i2 i3 i4 tx ac) (bD cI cZ cC cJ cY cH kdX) kdX (xU h1 h2 i1 i2 i3 i4) (fun _ _ => 0)) 163) := rfl
set_option maxRecDepth 100000 in
theorem xw_164 {cI cZ cC cJ cY cH : ClassId} {b a0 a1 : Nat} {h1 h2 i1 i2 i3 i4 : hS} {rw : Nat → Option Nat} {tx ac : Nat → Nat} : (xW cI cZ cC cJ cY cH (b, (h1, h2), ((a0, a1), (i1, i2, i3, i4), rw), tx, ac))[63]? = some ((xA b a0 a1 h1 h2 i1 i2 i3 i4 tx ac) 164, (hb_E0 (xA b a0 a1 h1 h2 i1 i2 i3 i4 tx ac) (bD cI cZ cC cJ cY cH kdX) kdX (xU h1 h2 i1 i2 i3 i4) (fun _ _ => 0)) 164) := rfl
set_option maxRecDepth 100000 in
theorem xw_165 {cI cZ cC cJ cY cH : ClassId} {b a0 a1 : Nat} {h1 h2 i1 i2 i3 i4 : hS} {rw : Nat → Option Nat} {tx ac : Nat → Nat} : (xW cI cZ cC cJ cY cH (b, (h1, h2), ((a0, a1), (i1, i2, i3, i4), rw), tx, ac))[64]? = some ((xA b a0 a1 h1 h2 i1 i2 i3 i4 tx ac) 165, (hb_E0 (xA b a0 a1 h1 h2 i1 i2 i3 i4 tx ac) (bD cI cZ cC cJ cY cH kdX) kdX (xU h1 h2 i1 i2 i3 i4) (fun _ _ => 0)) 165) := rfl
set_option maxRecDepth 100000 in
theorem xw_166 {cI cZ cC cJ cY cH : ClassId} {b a0 a1 : Nat} {h1 h2 i1 i2 i3 i4 : hS} {rw : Nat → Option Nat} {tx ac : Nat → Nat} : (xW cI cZ cC cJ cY cH (b, (h1, h2), ((a0, a1), (i1, i2, i3, i4), rw), tx, ac))[65]? = some ((xA b a0 a1 h1 h2 i1 i2 i3 i4 tx ac) 166, (hb_E0 (xA b a0 a1 h1 h2 i1 i2 i3 i4 tx ac) (bD cI cZ cC cJ cY cH kdX) kdX (xU h1 h2 i1 i2 i3 i4) (fun _ _ => 0)) 166) := rfl
set_option maxRecDepth 100000 in
theorem xw_167 {cI cZ cC cJ cY cH : ClassId} {b a0 a1 : Nat} {h1 h2 i1 i2 i3 i4 : hS} {rw : Nat → Option Nat} {tx ac : Nat → Nat} : (xW cI cZ cC cJ cY cH (b, (h1, h2), ((a0, a1), (i1, i2, i3, i4), rw), tx, ac))[66]? = some ((xA b a0 a1 h1 h2 i1 i2 i3 i4 tx ac) 167, (hb_E0 (xA b a0 a1 h1 h2 i1 i2 i3 i4 tx ac) (bD cI cZ cC cJ cY cH kdX) kdX (xU h1 h2 i1 i2 i3 i4) (fun _ _ => 0)) 167) := rfl
set_option maxRecDepth 100000 in
theorem xw_168 {cI cZ cC cJ cY cH : ClassId} {b a0 a1 : Nat} {h1 h2 i1 i2 i3 i4 : hS} {rw : Nat → Option Nat} {tx ac : Nat → Nat} : (xW cI cZ cC cJ cY cH (b, (h1, h2), ((a0, a1), (i1, i2, i3, i4), rw), tx, ac))[67]? = some ((xA b a0 a1 h1 h2 i1 i2 i3 i4 tx ac) 168, (hb_E0 (xA b a0 a1 h1 h2 i1 i2 i3 i4 tx ac) (bD cI cZ cC cJ cY cH kdX) kdX (xU h1 h2 i1 i2 i3 i4) (fun _ _ => 0)) 168) := rfl
set_option maxRecDepth 100000 in
theorem xw_169 {cI cZ cC cJ cY cH : ClassId} {b a0 a1 : Nat} {h1 h2 i1 i2 i3 i4 : hS} {rw : Nat → Option Nat} {tx ac : Nat → Nat} : (xW cI cZ cC cJ cY cH (b, (h1, h2), ((a0, a1), (i1, i2, i3, i4), rw), tx, ac))[68]? = some ((xA b a0 a1 h1 h2 i1 i2 i3 i4 tx ac) 169, (hb_E0 (xA b a0 a1 h1 h2 i1 i2 i3 i4 tx ac) (bD cI cZ cC cJ cY cH kdX) kdX (xU h1 h2 i1 i2 i3 i4) (fun _ _ => 0)) 169) := rfl
set_option maxRecDepth 100000 in
theorem xw_170 {cI cZ cC cJ cY cH : ClassId} {b a0 a1 : Nat} {h1 h2 i1 i2 i3 i4 : hS} {rw : Nat → Option Nat} {tx ac : Nat → Nat} : (xW cI cZ cC cJ cY cH (b, (h1, h2), ((a0, a1), (i1, i2, i3, i4), rw), tx, ac))[69]? = some ((xA b a0 a1 h1 h2 i1 i2 i3 i4 tx ac) 170, (hb_E0 (xA b a0 a1 h1 h2 i1 i2 i3 i4 tx ac) (bD cI cZ cC cJ cY cH kdX) kdX (xU h1 h2 i1 i2 i3 i4) (fun _ _ => 0)) 170) := rfl
set_option maxRecDepth 100000 in
theorem xw_171 {cI cZ cC cJ cY cH : ClassId} {b a0 a1 : Nat} {h1 h2 i1 i2 i3 i4 : hS} {rw : Nat → Option Nat} {tx ac : Nat → Nat} : (xW cI cZ cC cJ cY cH (b, (h1, h2), ((a0, a1), (i1, i2, i3, i4), rw), tx, ac))[70]? = some ((xA b a0 a1 h1 h2 i1 i2 i3 i4 tx ac) 171, (hb_E0 (xA b a0 a1 h1 h2 i1 i2 i3 i4 tx ac) (bD cI cZ cC cJ cY cH kdX) kdX (xU h1 h2 i1 i2 i3 i4) (fun _ _ => 0)) 171) := rfl
set_option maxRecDepth 100000 in
theorem xw_172 {cI cZ cC cJ cY cH : ClassId} {b a0 a1 : Nat} {h1 h2 i1 i2 i3 i4 : hS} {rw : Nat → Option Nat} {tx ac : Nat → Nat} : (xW cI cZ cC cJ cY cH (b, (h1, h2), ((a0, a1), (i1, i2, i3, i4), rw), tx, ac))[71]? = some ((xA b a0 a1 h1 h2 i1 i2 i3 i4 tx ac) 172, (hb_E0 (xA b a0 a1 h1 h2 i1 i2 i3 i4 tx ac) (bD cI cZ cC cJ cY cH kdX) kdX (xU h1 h2 i1 i2 i3 i4) (fun _ _ => 0)) 172) := rfl
set_option maxRecDepth 100000 in
theorem xw_173 {cI cZ cC cJ cY cH : ClassId} {b a0 a1 : Nat} {h1 h2 i1 i2 i3 i4 : hS} {rw : Nat → Option Nat} {tx ac : Nat → Nat} : (xW cI cZ cC cJ cY cH (b, (h1, h2), ((a0, a1), (i1, i2, i3, i4), rw), tx, ac))[72]? = some ((xA b a0 a1 h1 h2 i1 i2 i3 i4 tx ac) 173, (hb_E0 (xA b a0 a1 h1 h2 i1 i2 i3 i4 tx ac) (bD cI cZ cC cJ cY cH kdX) kdX (xU h1 h2 i1 i2 i3 i4) (fun _ _ => 0)) 173) := rfl
set_option maxRecDepth 100000 in
theorem xw_174 {cI cZ cC cJ cY cH : ClassId} {b a0 a1 : Nat} {h1 h2 i1 i2 i3 i4 : hS} {rw : Nat → Option Nat} {tx ac : Nat → Nat} : (xW cI cZ cC cJ cY cH (b, (h1, h2), ((a0, a1), (i1, i2, i3, i4), rw), tx, ac))[73]? = some ((xA b a0 a1 h1 h2 i1 i2 i3 i4 tx ac) 174, (hb_E0 (xA b a0 a1 h1 h2 i1 i2 i3 i4 tx ac) (bD cI cZ cC cJ cY cH kdX) kdX (xU h1 h2 i1 i2 i3 i4) (fun _ _ => 0)) 174) := rfl
set_option maxRecDepth 100000 in
theorem xw_175 {cI cZ cC cJ cY cH : ClassId} {b a0 a1 : Nat} {h1 h2 i1 i2 i3 i4 : hS} {rw : Nat → Option Nat} {tx ac : Nat → Nat} : (xW cI cZ cC cJ cY cH (b, (h1, h2), ((a0, a1), (i1, i2, i3, i4), rw), tx, ac))[74]? = some ((xA b a0 a1 h1 h2 i1 i2 i3 i4 tx ac) 175, (hb_E0 (xA b a0 a1 h1 h2 i1 i2 i3 i4 tx ac) (bD cI cZ cC cJ cY cH kdX) kdX (xU h1 h2 i1 i2 i3 i4) (fun _ _ => 0)) 175) := rfl
set_option maxRecDepth 100000 in
theorem xw_176 {cI cZ cC cJ cY cH : ClassId} {b a0 a1 : Nat} {h1 h2 i1 i2 i3 i4 : hS} {rw : Nat → Option Nat} {tx ac : Nat → Nat} : (xW cI cZ cC cJ cY cH (b, (h1, h2), ((a0, a1), (i1, i2, i3, i4), rw), tx, ac))[75]? = some ((xA b a0 a1 h1 h2 i1 i2 i3 i4 tx ac) 176, (hb_E0 (xA b a0 a1 h1 h2 i1 i2 i3 i4 tx ac) (bD cI cZ cC cJ cY cH kdX) kdX (xU h1 h2 i1 i2 i3 i4) (fun _ _ => 0)) 176) := rfl
set_option maxRecDepth 100000 in
theorem xw_177 {cI cZ cC cJ cY cH : ClassId} {b a0 a1 : Nat} {h1 h2 i1 i2 i3 i4 : hS} {rw : Nat → Option Nat} {tx ac : Nat → Nat} : (xW cI cZ cC cJ cY cH (b, (h1, h2), ((a0, a1), (i1, i2, i3, i4), rw), tx, ac))[76]? = some ((xA b a0 a1 h1 h2 i1 i2 i3 i4 tx ac) 177, (hb_E0 (xA b a0 a1 h1 h2 i1 i2 i3 i4 tx ac) (bD cI cZ cC cJ cY cH kdX) kdX (xU h1 h2 i1 i2 i3 i4) (fun _ _ => 0)) 177) := rfl
set_option maxRecDepth 100000 in
theorem xw_178 {cI cZ cC cJ cY cH : ClassId} {b a0 a1 : Nat} {h1 h2 i1 i2 i3 i4 : hS} {rw : Nat → Option Nat} {tx ac : Nat → Nat} : (xW cI cZ cC cJ cY cH (b, (h1, h2), ((a0, a1), (i1, i2, i3, i4), rw), tx, ac))[77]? = some ((xA b a0 a1 h1 h2 i1 i2 i3 i4 tx ac) 178, (hb_E0 (xA b a0 a1 h1 h2 i1 i2 i3 i4 tx ac) (bD cI cZ cC cJ cY cH kdX) kdX (xU h1 h2 i1 i2 i3 i4) (fun _ _ => 0)) 178) := rfl
set_option maxRecDepth 100000 in
theorem xw_179 {cI cZ cC cJ cY cH : ClassId} {b a0 a1 : Nat} {h1 h2 i1 i2 i3 i4 : hS} {rw : Nat → Option Nat} {tx ac : Nat → Nat} : (xW cI cZ cC cJ cY cH (b, (h1, h2), ((a0, a1), (i1, i2, i3, i4), rw), tx, ac))[78]? = some ((xA b a0 a1 h1 h2 i1 i2 i3 i4 tx ac) 179, (hb_E0 (xA b a0 a1 h1 h2 i1 i2 i3 i4 tx ac) (bD cI cZ cC cJ cY cH kdX) kdX (xU h1 h2 i1 i2 i3 i4) (fun _ _ => 0)) 179) := rfl
set_option maxRecDepth 100000 in
theorem xw_180 {cI cZ cC cJ cY cH : ClassId} {b a0 a1 : Nat} {h1 h2 i1 i2 i3 i4 : hS} {rw : Nat → Option Nat} {tx ac : Nat → Nat} : (xW cI cZ cC cJ cY cH (b, (h1, h2), ((a0, a1), (i1, i2, i3, i4), rw), tx, ac))[79]? = some ((xA b a0 a1 h1 h2 i1 i2 i3 i4 tx ac) 180, (hb_E0 (xA b a0 a1 h1 h2 i1 i2 i3 i4 tx ac) (bD cI cZ cC cJ cY cH kdX) kdX (xU h1 h2 i1 i2 i3 i4) (fun _ _ => 0)) 180) := rfl
set_option maxRecDepth 100000 in
theorem xw_181 {cI cZ cC cJ cY cH : ClassId} {b a0 a1 : Nat} {h1 h2 i1 i2 i3 i4 : hS} {rw : Nat → Option Nat} {tx ac : Nat → Nat} : (xW cI cZ cC cJ cY cH (b, (h1, h2), ((a0, a1), (i1, i2, i3, i4), rw), tx, ac))[80]? = some ((xA b a0 a1 h1 h2 i1 i2 i3 i4 tx ac) 181, (hb_E0 (xA b a0 a1 h1 h2 i1 i2 i3 i4 tx ac) (bD cI cZ cC cJ cY cH kdX) kdX (xU h1 h2 i1 i2 i3 i4) (fun _ _ => 0)) 181) := rfl
set_option maxRecDepth 100000 in
theorem xw_182 {cI cZ cC cJ cY cH : ClassId} {b a0 a1 : Nat} {h1 h2 i1 i2 i3 i4 : hS} {rw : Nat → Option Nat} {tx ac : Nat → Nat} : (xW cI cZ cC cJ cY cH (b, (h1, h2), ((a0, a1), (i1, i2, i3, i4), rw), tx, ac))[81]? = some ((xA b a0 a1 h1 h2 i1 i2 i3 i4 tx ac) 182, (hb_E0 (xA b a0 a1 h1 h2 i1 i2 i3 i4 tx ac) (bD cI cZ cC cJ cY cH kdX) kdX (xU h1 h2 i1 i2 i3 i4) (fun _ _ => 0)) 182) := rfl
set_option maxRecDepth 100000 in
theorem xw_183 {cI cZ cC cJ cY cH : ClassId} {b a0 a1 : Nat} {h1 h2 i1 i2 i3 i4 : hS} {rw : Nat → Option Nat} {tx ac : Nat → Nat} : (xW cI cZ cC cJ cY cH (b, (h1, h2), ((a0, a1), (i1, i2, i3, i4), rw), tx, ac))[82]? = some ((xA b a0 a1 h1 h2 i1 i2 i3 i4 tx ac) 183, (hb_E0 (xA b a0 a1 h1 h2 i1 i2 i3 i4 tx ac) (bD cI cZ cC cJ cY cH kdX) kdX (xU h1 h2 i1 i2 i3 i4) (fun _ _ => 0)) 183) := rfl
set_option maxRecDepth 100000 in
theorem xw_184 {cI cZ cC cJ cY cH : ClassId} {b a0 a1 : Nat} {h1 h2 i1 i2 i3 i4 : hS} {rw : Nat → Option Nat} {tx ac : Nat → Nat} : (xW cI cZ cC cJ cY cH (b, (h1, h2), ((a0, a1), (i1, i2, i3, i4), rw), tx, ac))[83]? = some ((xA b a0 a1 h1 h2 i1 i2 i3 i4 tx ac) 184, (hb_E0 (xA b a0 a1 h1 h2 i1 i2 i3 i4 tx ac) (bD cI cZ cC cJ cY cH kdX) kdX (xU h1 h2 i1 i2 i3 i4) (fun _ _ => 0)) 184) := rfl
set_option maxRecDepth 100000 in
theorem xw_185 {cI cZ cC cJ cY cH : ClassId} {b a0 a1 : Nat} {h1 h2 i1 i2 i3 i4 : hS} {rw : Nat → Option Nat} {tx ac : Nat → Nat} : (xW cI cZ cC cJ cY cH (b, (h1, h2), ((a0, a1), (i1, i2, i3, i4), rw), tx, ac))[84]? = some ((xA b a0 a1 h1 h2 i1 i2 i3 i4 tx ac) 185, (hb_E0 (xA b a0 a1 h1 h2 i1 i2 i3 i4 tx ac) (bD cI cZ cC cJ cY cH kdX) kdX (xU h1 h2 i1 i2 i3 i4) (fun _ _ => 0)) 185) := rfl
set_option maxRecDepth 100000 in
theorem xw_186 {cI cZ cC cJ cY cH : ClassId} {b a0 a1 : Nat} {h1 h2 i1 i2 i3 i4 : hS} {rw : Nat → Option Nat} {tx ac : Nat → Nat} : (xW cI cZ cC cJ cY cH (b, (h1, h2), ((a0, a1), (i1, i2, i3, i4), rw), tx, ac))[85]? = some ((xA b a0 a1 h1 h2 i1 i2 i3 i4 tx ac) 186, (hb_E0 (xA b a0 a1 h1 h2 i1 i2 i3 i4 tx ac) (bD cI cZ cC cJ cY cH kdX) kdX (xU h1 h2 i1 i2 i3 i4) (fun _ _ => 0)) 186) := rfl
set_option maxRecDepth 100000 in
theorem xw_187 {cI cZ cC cJ cY cH : ClassId} {b a0 a1 : Nat} {h1 h2 i1 i2 i3 i4 : hS} {rw : Nat → Option Nat} {tx ac : Nat → Nat} : (xW cI cZ cC cJ cY cH (b, (h1, h2), ((a0, a1), (i1, i2, i3, i4), rw), tx, ac))[86]? = some ((xA b a0 a1 h1 h2 i1 i2 i3 i4 tx ac) 187, (hb_E0 (xA b a0 a1 h1 h2 i1 i2 i3 i4 tx ac) (bD cI cZ cC cJ cY cH kdX) kdX (xU h1 h2 i1 i2 i3 i4) (fun _ _ => 0)) 187) := rfl
set_option maxRecDepth 100000 in
theorem xw_188 {cI cZ cC cJ cY cH : ClassId} {b a0 a1 : Nat} {h1 h2 i1 i2 i3 i4 : hS} {rw : Nat → Option Nat} {tx ac : Nat → Nat} : (xW cI cZ cC cJ cY cH (b, (h1, h2), ((a0, a1), (i1, i2, i3, i4), rw), tx, ac))[87]? = some ((xA b a0 a1 h1 h2 i1 i2 i3 i4 tx ac) 188, (hb_E0 (xA b a0 a1 h1 h2 i1 i2 i3 i4 tx ac) (bD cI cZ cC cJ cY cH kdX) kdX (xU h1 h2 i1 i2 i3 i4) (fun _ _ => 0)) 188) := rfl
set_option maxRecDepth 100000 in
theorem xw_189 {cI cZ cC cJ cY cH : ClassId} {b a0 a1 : Nat} {h1 h2 i1 i2 i3 i4 : hS} {rw : Nat → Option Nat} {tx ac : Nat → Nat} : (xW cI cZ cC cJ cY cH (b, (h1, h2), ((a0, a1), (i1, i2, i3, i4), rw), tx, ac))[88]? = some ((xA b a0 a1 h1 h2 i1 i2 i3 i4 tx ac) 189, (hb_E0 (xA b a0 a1 h1 h2 i1 i2 i3 i4 tx ac) (bD cI cZ cC cJ cY cH kdX) kdX (xU h1 h2 i1 i2 i3 i4) (fun _ _ => 0)) 189) := rfl
set_option maxRecDepth 100000 in
theorem xw_190 {cI cZ cC cJ cY cH : ClassId} {b a0 a1 : Nat} {h1 h2 i1 i2 i3 i4 : hS} {rw : Nat → Option Nat} {tx ac : Nat → Nat} : (xW cI cZ cC cJ cY cH (b, (h1, h2), ((a0, a1), (i1, i2, i3, i4), rw), tx, ac))[13]? = some ((xA b a0 a1 h1 h2 i1 i2 i3 i4 tx ac) 190, (hb_E0 (xA b a0 a1 h1 h2 i1 i2 i3 i4 tx ac) (bD cI cZ cC cJ cY cH kdX) kdX (xU h1 h2 i1 i2 i3 i4) (fun _ _ => 0)) 190) := rfl
set_option maxRecDepth 100000 in
theorem xw_191 {cI cZ cC cJ cY cH : ClassId} {b a0 a1 : Nat} {h1 h2 i1 i2 i3 i4 : hS} {rw : Nat → Option Nat} {tx ac : Nat → Nat} : (xW cI cZ cC cJ cY cH (b, (h1, h2), ((a0, a1), (i1, i2, i3, i4), rw), tx, ac))[14]? = some ((xA b a0 a1 h1 h2 i1 i2 i3 i4 tx ac) 191, (hb_E0 (xA b a0 a1 h1 h2 i1 i2 i3 i4 tx ac) (bD cI cZ cC cJ cY cH kdX) kdX (xU h1 h2 i1 i2 i3 i4) (fun _ _ => 0)) 191) := rfl
set_option maxRecDepth 100000 in
theorem xw_192 {cI cZ cC cJ cY cH : ClassId} {b a0 a1 : Nat} {h1 h2 i1 i2 i3 i4 : hS} {rw : Nat → Option Nat} {tx ac : Nat → Nat} : (xW cI cZ cC cJ cY cH (b, (h1, h2), ((a0, a1), (i1, i2, i3, i4), rw), tx, ac))[15]? = some ((xA b a0 a1 h1 h2 i1 i2 i3 i4 tx ac) 192, (hb_E0 (xA b a0 a1 h1 h2 i1 i2 i3 i4 tx ac) (bD cI cZ cC cJ cY cH kdX) kdX (xU h1 h2 i1 i2 i3 i4) (fun _ _ => 0)) 192) := rfl
set_option maxRecDepth 100000 in
theorem xw_193 {cI cZ cC cJ cY cH : ClassId} {b a0 a1 : Nat} {h1 h2 i1 i2 i3 i4 : hS} {rw : Nat → Option Nat} {tx ac : Nat → Nat} : (xW cI cZ cC cJ cY cH (b, (h1, h2), ((a0, a1), (i1, i2, i3, i4), rw), tx, ac))[16]? = some ((xA b a0 a1 h1 h2 i1 i2 i3 i4 tx ac) 193, (hb_E0 (xA b a0 a1 h1 h2 i1 i2 i3 i4 tx ac) (bD cI cZ cC cJ cY cH kdX) kdX (xU h1 h2 i1 i2 i3 i4) (fun _ _ => 0)) 193) := rfl
set_option maxRecDepth 100000 in
theorem xw_194 {cI cZ cC cJ cY cH : ClassId} {b a0 a1 : Nat} {h1 h2 i1 i2 i3 i4 : hS} {rw : Nat → Option Nat} {tx ac : Nat → Nat} : (xW cI cZ cC cJ cY cH (b, (h1, h2), ((a0, a1), (i1, i2, i3, i4), rw), tx, ac))[17]? = some ((xA b a0 a1 h1 h2 i1 i2 i3 i4 tx ac) 194, (hb_E0 (xA b a0 a1 h1 h2 i1 i2 i3 i4 tx ac) (bD cI cZ cC cJ cY cH kdX) kdX (xU h1 h2 i1 i2 i3 i4) (fun _ _ => 0)) 194) := rfl
set_option maxRecDepth 100000 in
theorem xw_195 {cI cZ cC cJ cY cH : ClassId} {b a0 a1 : Nat} {h1 h2 i1 i2 i3 i4 : hS} {rw : Nat → Option Nat} {tx ac : Nat → Nat} : (xW cI cZ cC cJ cY cH (b, (h1, h2), ((a0, a1), (i1, i2, i3, i4), rw), tx, ac))[18]? = some ((xA b a0 a1 h1 h2 i1 i2 i3 i4 tx ac) 195, (hb_E0 (xA b a0 a1 h1 h2 i1 i2 i3 i4 tx ac) (bD cI cZ cC cJ cY cH kdX) kdX (xU h1 h2 i1 i2 i3 i4) (fun _ _ => 0)) 195) := rfl
set_option maxRecDepth 100000 in
theorem xw_196 {cI cZ cC cJ cY cH : ClassId} {b a0 a1 : Nat} {h1 h2 i1 i2 i3 i4 : hS} {rw : Nat → Option Nat} {tx ac : Nat → Nat} : (xW cI cZ cC cJ cY cH (b, (h1, h2), ((a0, a1), (i1, i2, i3, i4), rw), tx, ac))[19]? = some ((xA b a0 a1 h1 h2 i1 i2 i3 i4 tx ac) 196, (hb_E0 (xA b a0 a1 h1 h2 i1 i2 i3 i4 tx ac) (bD cI cZ cC cJ cY cH kdX) kdX (xU h1 h2 i1 i2 i3 i4) (fun _ _ => 0)) 196) := rfl
set_option maxRecDepth 100000 in
theorem xw_197 {cI cZ cC cJ cY cH : ClassId} {b a0 a1 : Nat} {h1 h2 i1 i2 i3 i4 : hS} {rw : Nat → Option Nat} {tx ac : Nat → Nat} (h : i4.2.2 = fun j => ([14, 20, 26, 32][j]?).map i4.1) : (xW cI cZ cC cJ cY cH (b, (h1, h2), ((a0, a1), (i1, i2, i3, i4), rw), tx, ac))[20]? = some ((xA b a0 a1 h1 h2 i1 i2 i3 i4 tx ac) 197, (hb_E0 (xA b a0 a1 h1 h2 i1 i2 i3 i4 tx ac) (bD cI cZ cC cJ cY cH kdX) kdX (xU h1 h2 i1 i2 i3 i4) (fun _ _ => 0)) 197) := by
  rw [show (xW cI cZ cC cJ cY cH (b, (h1, h2), ((a0, a1), (i1, i2, i3, i4), rw), tx, ac))[20]? = some ((xA b a0 a1 h1 h2 i1 i2 i3 i4 tx ac) 197, .inl (cY, 4, .inr (.inr (.inr (.inr i4.2.2))))) from rfl, h]
  rw [show (fun j => ([14, 20, 26, 32][j]?).map i4.1) = fun j => ([204, 210, 216, 222][j]?).map (xA b a0 a1 h1 h2 i1 i2 i3 i4 tx ac) from funext (fun j => match j with
    | 0 => rfl
    | 1 => rfl
    | 2 => rfl
    | 3 => rfl
    | j + 4 => rfl)]
  rfl
set_option maxRecDepth 100000 in
theorem xw_198 {cI cZ cC cJ cY cH : ClassId} {b a0 a1 : Nat} {h1 h2 i1 i2 i3 i4 : hS} {rw : Nat → Option Nat} {tx ac : Nat → Nat} : (xW cI cZ cC cJ cY cH (b, (h1, h2), ((a0, a1), (i1, i2, i3, i4), rw), tx, ac))[21]? = some ((xA b a0 a1 h1 h2 i1 i2 i3 i4 tx ac) 198, (hb_E0 (xA b a0 a1 h1 h2 i1 i2 i3 i4 tx ac) (bD cI cZ cC cJ cY cH kdX) kdX (xU h1 h2 i1 i2 i3 i4) (fun _ _ => 0)) 198) := rfl
set_option maxRecDepth 100000 in
theorem xw_199 {cI cZ cC cJ cY cH : ClassId} {b a0 a1 : Nat} {h1 h2 i1 i2 i3 i4 : hS} {rw : Nat → Option Nat} {tx ac : Nat → Nat} : (xW cI cZ cC cJ cY cH (b, (h1, h2), ((a0, a1), (i1, i2, i3, i4), rw), tx, ac))[22]? = some ((xA b a0 a1 h1 h2 i1 i2 i3 i4 tx ac) 199, (hb_E0 (xA b a0 a1 h1 h2 i1 i2 i3 i4 tx ac) (bD cI cZ cC cJ cY cH kdX) kdX (xU h1 h2 i1 i2 i3 i4) (fun _ _ => 0)) 199) := rfl
set_option maxRecDepth 100000 in
theorem xw_200 {cI cZ cC cJ cY cH : ClassId} {b a0 a1 : Nat} {h1 h2 i1 i2 i3 i4 : hS} {rw : Nat → Option Nat} {tx ac : Nat → Nat} : (xW cI cZ cC cJ cY cH (b, (h1, h2), ((a0, a1), (i1, i2, i3, i4), rw), tx, ac))[23]? = some ((xA b a0 a1 h1 h2 i1 i2 i3 i4 tx ac) 200, (hb_E0 (xA b a0 a1 h1 h2 i1 i2 i3 i4 tx ac) (bD cI cZ cC cJ cY cH kdX) kdX (xU h1 h2 i1 i2 i3 i4) (fun _ _ => 0)) 200) := rfl
set_option maxRecDepth 100000 in
theorem xw_201 {cI cZ cC cJ cY cH : ClassId} {b a0 a1 : Nat} {h1 h2 i1 i2 i3 i4 : hS} {rw : Nat → Option Nat} {tx ac : Nat → Nat} : (xW cI cZ cC cJ cY cH (b, (h1, h2), ((a0, a1), (i1, i2, i3, i4), rw), tx, ac))[24]? = some ((xA b a0 a1 h1 h2 i1 i2 i3 i4 tx ac) 201, (hb_E0 (xA b a0 a1 h1 h2 i1 i2 i3 i4 tx ac) (bD cI cZ cC cJ cY cH kdX) kdX (xU h1 h2 i1 i2 i3 i4) (fun _ _ => 0)) 201) := rfl
set_option maxRecDepth 100000 in
theorem xw_202 {cI cZ cC cJ cY cH : ClassId} {b a0 a1 : Nat} {h1 h2 i1 i2 i3 i4 : hS} {rw : Nat → Option Nat} {tx ac : Nat → Nat} : (xW cI cZ cC cJ cY cH (b, (h1, h2), ((a0, a1), (i1, i2, i3, i4), rw), tx, ac))[25]? = some ((xA b a0 a1 h1 h2 i1 i2 i3 i4 tx ac) 202, (hb_E0 (xA b a0 a1 h1 h2 i1 i2 i3 i4 tx ac) (bD cI cZ cC cJ cY cH kdX) kdX (xU h1 h2 i1 i2 i3 i4) (fun _ _ => 0)) 202) := rfl
set_option maxRecDepth 100000 in
theorem xw_203 {cI cZ cC cJ cY cH : ClassId} {b a0 a1 : Nat} {h1 h2 i1 i2 i3 i4 : hS} {rw : Nat → Option Nat} {tx ac : Nat → Nat} : (xW cI cZ cC cJ cY cH (b, (h1, h2), ((a0, a1), (i1, i2, i3, i4), rw), tx, ac))[26]? = some ((xA b a0 a1 h1 h2 i1 i2 i3 i4 tx ac) 203, (hb_E0 (xA b a0 a1 h1 h2 i1 i2 i3 i4 tx ac) (bD cI cZ cC cJ cY cH kdX) kdX (xU h1 h2 i1 i2 i3 i4) (fun _ _ => 0)) 203) := rfl
set_option maxRecDepth 100000 in
theorem xw_204 {cI cZ cC cJ cY cH : ClassId} {b a0 a1 : Nat} {h1 h2 i1 i2 i3 i4 : hS} {rw : Nat → Option Nat} {tx ac : Nat → Nat} : (xW cI cZ cC cJ cY cH (b, (h1, h2), ((a0, a1), (i1, i2, i3, i4), rw), tx, ac))[27]? = some ((xA b a0 a1 h1 h2 i1 i2 i3 i4 tx ac) 204, (hb_E0 (xA b a0 a1 h1 h2 i1 i2 i3 i4 tx ac) (bD cI cZ cC cJ cY cH kdX) kdX (xU h1 h2 i1 i2 i3 i4) (fun _ _ => 0)) 204) := rfl
set_option maxRecDepth 100000 in
theorem xw_205 {cI cZ cC cJ cY cH : ClassId} {b a0 a1 : Nat} {h1 h2 i1 i2 i3 i4 : hS} {rw : Nat → Option Nat} {tx ac : Nat → Nat} : (xW cI cZ cC cJ cY cH (b, (h1, h2), ((a0, a1), (i1, i2, i3, i4), rw), tx, ac))[28]? = some ((xA b a0 a1 h1 h2 i1 i2 i3 i4 tx ac) 205, (hb_E0 (xA b a0 a1 h1 h2 i1 i2 i3 i4 tx ac) (bD cI cZ cC cJ cY cH kdX) kdX (xU h1 h2 i1 i2 i3 i4) (fun _ _ => 0)) 205) := rfl
set_option maxRecDepth 100000 in
theorem xw_206 {cI cZ cC cJ cY cH : ClassId} {b a0 a1 : Nat} {h1 h2 i1 i2 i3 i4 : hS} {rw : Nat → Option Nat} {tx ac : Nat → Nat} : (xW cI cZ cC cJ cY cH (b, (h1, h2), ((a0, a1), (i1, i2, i3, i4), rw), tx, ac))[29]? = some ((xA b a0 a1 h1 h2 i1 i2 i3 i4 tx ac) 206, (hb_E0 (xA b a0 a1 h1 h2 i1 i2 i3 i4 tx ac) (bD cI cZ cC cJ cY cH kdX) kdX (xU h1 h2 i1 i2 i3 i4) (fun _ _ => 0)) 206) := rfl
set_option maxRecDepth 100000 in
theorem xw_207 {cI cZ cC cJ cY cH : ClassId} {b a0 a1 : Nat} {h1 h2 i1 i2 i3 i4 : hS} {rw : Nat → Option Nat} {tx ac : Nat → Nat} : (xW cI cZ cC cJ cY cH (b, (h1, h2), ((a0, a1), (i1, i2, i3, i4), rw), tx, ac))[30]? = some ((xA b a0 a1 h1 h2 i1 i2 i3 i4 tx ac) 207, (hb_E0 (xA b a0 a1 h1 h2 i1 i2 i3 i4 tx ac) (bD cI cZ cC cJ cY cH kdX) kdX (xU h1 h2 i1 i2 i3 i4) (fun _ _ => 0)) 207) := rfl
set_option maxRecDepth 100000 in
theorem xw_208 {cI cZ cC cJ cY cH : ClassId} {b a0 a1 : Nat} {h1 h2 i1 i2 i3 i4 : hS} {rw : Nat → Option Nat} {tx ac : Nat → Nat} : (xW cI cZ cC cJ cY cH (b, (h1, h2), ((a0, a1), (i1, i2, i3, i4), rw), tx, ac))[31]? = some ((xA b a0 a1 h1 h2 i1 i2 i3 i4 tx ac) 208, (hb_E0 (xA b a0 a1 h1 h2 i1 i2 i3 i4 tx ac) (bD cI cZ cC cJ cY cH kdX) kdX (xU h1 h2 i1 i2 i3 i4) (fun _ _ => 0)) 208) := rfl
set_option maxRecDepth 100000 in
theorem xw_209 {cI cZ cC cJ cY cH : ClassId} {b a0 a1 : Nat} {h1 h2 i1 i2 i3 i4 : hS} {rw : Nat → Option Nat} {tx ac : Nat → Nat} : (xW cI cZ cC cJ cY cH (b, (h1, h2), ((a0, a1), (i1, i2, i3, i4), rw), tx, ac))[32]? = some ((xA b a0 a1 h1 h2 i1 i2 i3 i4 tx ac) 209, (hb_E0 (xA b a0 a1 h1 h2 i1 i2 i3 i4 tx ac) (bD cI cZ cC cJ cY cH kdX) kdX (xU h1 h2 i1 i2 i3 i4) (fun _ _ => 0)) 209) := rfl
set_option maxRecDepth 100000 in
theorem xw_210 {cI cZ cC cJ cY cH : ClassId} {b a0 a1 : Nat} {h1 h2 i1 i2 i3 i4 : hS} {rw : Nat → Option Nat} {tx ac : Nat → Nat} : (xW cI cZ cC cJ cY cH (b, (h1, h2), ((a0, a1), (i1, i2, i3, i4), rw), tx, ac))[33]? = some ((xA b a0 a1 h1 h2 i1 i2 i3 i4 tx ac) 210, (hb_E0 (xA b a0 a1 h1 h2 i1 i2 i3 i4 tx ac) (bD cI cZ cC cJ cY cH kdX) kdX (xU h1 h2 i1 i2 i3 i4) (fun _ _ => 0)) 210) := rfl
set_option maxRecDepth 100000 in
theorem xw_211 {cI cZ cC cJ cY cH : ClassId} {b a0 a1 : Nat} {h1 h2 i1 i2 i3 i4 : hS} {rw : Nat → Option Nat} {tx ac : Nat → Nat} : (xW cI cZ cC cJ cY cH (b, (h1, h2), ((a0, a1), (i1, i2, i3, i4), rw), tx, ac))[34]? = some ((xA b a0 a1 h1 h2 i1 i2 i3 i4 tx ac) 211, (hb_E0 (xA b a0 a1 h1 h2 i1 i2 i3 i4 tx ac) (bD cI cZ cC cJ cY cH kdX) kdX (xU h1 h2 i1 i2 i3 i4) (fun _ _ => 0)) 211) := rfl
set_option maxRecDepth 100000 in
theorem xw_212 {cI cZ cC cJ cY cH : ClassId} {b a0 a1 : Nat} {h1 h2 i1 i2 i3 i4 : hS} {rw : Nat → Option Nat} {tx ac : Nat → Nat} : (xW cI cZ cC cJ cY cH (b, (h1, h2), ((a0, a1), (i1, i2, i3, i4), rw), tx, ac))[35]? = some ((xA b a0 a1 h1 h2 i1 i2 i3 i4 tx ac) 212, (hb_E0 (xA b a0 a1 h1 h2 i1 i2 i3 i4 tx ac) (bD cI cZ cC cJ cY cH kdX) kdX (xU h1 h2 i1 i2 i3 i4) (fun _ _ => 0)) 212) := rfl
set_option maxRecDepth 100000 in
theorem xw_213 {cI cZ cC cJ cY cH : ClassId} {b a0 a1 : Nat} {h1 h2 i1 i2 i3 i4 : hS} {rw : Nat → Option Nat} {tx ac : Nat → Nat} : (xW cI cZ cC cJ cY cH (b, (h1, h2), ((a0, a1), (i1, i2, i3, i4), rw), tx, ac))[36]? = some ((xA b a0 a1 h1 h2 i1 i2 i3 i4 tx ac) 213, (hb_E0 (xA b a0 a1 h1 h2 i1 i2 i3 i4 tx ac) (bD cI cZ cC cJ cY cH kdX) kdX (xU h1 h2 i1 i2 i3 i4) (fun _ _ => 0)) 213) := rfl
set_option maxRecDepth 100000 in
theorem xw_214 {cI cZ cC cJ cY cH : ClassId} {b a0 a1 : Nat} {h1 h2 i1 i2 i3 i4 : hS} {rw : Nat → Option Nat} {tx ac : Nat → Nat} : (xW cI cZ cC cJ cY cH (b, (h1, h2), ((a0, a1), (i1, i2, i3, i4), rw), tx, ac))[37]? = some ((xA b a0 a1 h1 h2 i1 i2 i3 i4 tx ac) 214, (hb_E0 (xA b a0 a1 h1 h2 i1 i2 i3 i4 tx ac) (bD cI cZ cC cJ cY cH kdX) kdX (xU h1 h2 i1 i2 i3 i4) (fun _ _ => 0)) 214) := rfl
set_option maxRecDepth 100000 in
theorem xw_215 {cI cZ cC cJ cY cH : ClassId} {b a0 a1 : Nat} {h1 h2 i1 i2 i3 i4 : hS} {rw : Nat → Option Nat} {tx ac : Nat → Nat} : (xW cI cZ cC cJ cY cH (b, (h1, h2), ((a0, a1), (i1, i2, i3, i4), rw), tx, ac))[38]? = some ((xA b a0 a1 h1 h2 i1 i2 i3 i4 tx ac) 215, (hb_E0 (xA b a0 a1 h1 h2 i1 i2 i3 i4 tx ac) (bD cI cZ cC cJ cY cH kdX) kdX (xU h1 h2 i1 i2 i3 i4) (fun _ _ => 0)) 215) := rfl
set_option maxRecDepth 100000 in
theorem xw_216 {cI cZ cC cJ cY cH : ClassId} {b a0 a1 : Nat} {h1 h2 i1 i2 i3 i4 : hS} {rw : Nat → Option Nat} {tx ac : Nat → Nat} : (xW cI cZ cC cJ cY cH (b, (h1, h2), ((a0, a1), (i1, i2, i3, i4), rw), tx, ac))[39]? = some ((xA b a0 a1 h1 h2 i1 i2 i3 i4 tx ac) 216, (hb_E0 (xA b a0 a1 h1 h2 i1 i2 i3 i4 tx ac) (bD cI cZ cC cJ cY cH kdX) kdX (xU h1 h2 i1 i2 i3 i4) (fun _ _ => 0)) 216) := rfl
set_option maxRecDepth 100000 in
theorem xw_217 {cI cZ cC cJ cY cH : ClassId} {b a0 a1 : Nat} {h1 h2 i1 i2 i3 i4 : hS} {rw : Nat → Option Nat} {tx ac : Nat → Nat} : (xW cI cZ cC cJ cY cH (b, (h1, h2), ((a0, a1), (i1, i2, i3, i4), rw), tx, ac))[40]? = some ((xA b a0 a1 h1 h2 i1 i2 i3 i4 tx ac) 217, (hb_E0 (xA b a0 a1 h1 h2 i1 i2 i3 i4 tx ac) (bD cI cZ cC cJ cY cH kdX) kdX (xU h1 h2 i1 i2 i3 i4) (fun _ _ => 0)) 217) := rfl
set_option maxRecDepth 100000 in
theorem xw_218 {cI cZ cC cJ cY cH : ClassId} {b a0 a1 : Nat} {h1 h2 i1 i2 i3 i4 : hS} {rw : Nat → Option Nat} {tx ac : Nat → Nat} : (xW cI cZ cC cJ cY cH (b, (h1, h2), ((a0, a1), (i1, i2, i3, i4), rw), tx, ac))[41]? = some ((xA b a0 a1 h1 h2 i1 i2 i3 i4 tx ac) 218, (hb_E0 (xA b a0 a1 h1 h2 i1 i2 i3 i4 tx ac) (bD cI cZ cC cJ cY cH kdX) kdX (xU h1 h2 i1 i2 i3 i4) (fun _ _ => 0)) 218) := rfl
set_option maxRecDepth 100000 in
theorem xw_219 {cI cZ cC cJ cY cH : ClassId} {b a0 a1 : Nat} {h1 h2 i1 i2 i3 i4 : hS} {rw : Nat → Option Nat} {tx ac : Nat → Nat} : (xW cI cZ cC cJ cY cH (b, (h1, h2), ((a0, a1), (i1, i2, i3, i4), rw), tx, ac))[42]? = some ((xA b a0 a1 h1 h2 i1 i2 i3 i4 tx ac) 219, (hb_E0 (xA b a0 a1 h1 h2 i1 i2 i3 i4 tx ac) (bD cI cZ cC cJ cY cH kdX) kdX (xU h1 h2 i1 i2 i3 i4) (fun _ _ => 0)) 219) := rfl
set_option maxRecDepth 100000 in
theorem xw_220 {cI cZ cC cJ cY cH : ClassId} {b a0 a1 : Nat} {h1 h2 i1 i2 i3 i4 : hS} {rw : Nat → Option Nat} {tx ac : Nat → Nat} : (xW cI cZ cC cJ cY cH (b, (h1, h2), ((a0, a1), (i1, i2, i3, i4), rw), tx, ac))[43]? = some ((xA b a0 a1 h1 h2 i1 i2 i3 i4 tx ac) 220, (hb_E0 (xA b a0 a1 h1 h2 i1 i2 i3 i4 tx ac) (bD cI cZ cC cJ cY cH kdX) kdX (xU h1 h2 i1 i2 i3 i4) (fun _ _ => 0)) 220) := rfl
set_option maxRecDepth 100000 in
theorem xw_221 {cI cZ cC cJ cY cH : ClassId} {b a0 a1 : Nat} {h1 h2 i1 i2 i3 i4 : hS} {rw : Nat → Option Nat} {tx ac : Nat → Nat} : (xW cI cZ cC cJ cY cH (b, (h1, h2), ((a0, a1), (i1, i2, i3, i4), rw), tx, ac))[44]? = some ((xA b a0 a1 h1 h2 i1 i2 i3 i4 tx ac) 221, (hb_E0 (xA b a0 a1 h1 h2 i1 i2 i3 i4 tx ac) (bD cI cZ cC cJ cY cH kdX) kdX (xU h1 h2 i1 i2 i3 i4) (fun _ _ => 0)) 221) := rfl
set_option maxRecDepth 100000 in
theorem xw_222 {cI cZ cC cJ cY cH : ClassId} {b a0 a1 : Nat} {h1 h2 i1 i2 i3 i4 : hS} {rw : Nat → Option Nat} {tx ac : Nat → Nat} : (xW cI cZ cC cJ cY cH (b, (h1, h2), ((a0, a1), (i1, i2, i3, i4), rw), tx, ac))[45]? = some ((xA b a0 a1 h1 h2 i1 i2 i3 i4 tx ac) 222, (hb_E0 (xA b a0 a1 h1 h2 i1 i2 i3 i4 tx ac) (bD cI cZ cC cJ cY cH kdX) kdX (xU h1 h2 i1 i2 i3 i4) (fun _ _ => 0)) 222) := rfl
set_option maxRecDepth 100000 in
theorem xw_223 {cI cZ cC cJ cY cH : ClassId} {b a0 a1 : Nat} {h1 h2 i1 i2 i3 i4 : hS} {rw : Nat → Option Nat} {tx ac : Nat → Nat} : (xW cI cZ cC cJ cY cH (b, (h1, h2), ((a0, a1), (i1, i2, i3, i4), rw), tx, ac))[46]? = some ((xA b a0 a1 h1 h2 i1 i2 i3 i4 tx ac) 223, (hb_E0 (xA b a0 a1 h1 h2 i1 i2 i3 i4 tx ac) (bD cI cZ cC cJ cY cH kdX) kdX (xU h1 h2 i1 i2 i3 i4) (fun _ _ => 0)) 223) := rfl
set_option maxRecDepth 100000 in
theorem xw_224 {cI cZ cC cJ cY cH : ClassId} {b a0 a1 : Nat} {h1 h2 i1 i2 i3 i4 : hS} {rw : Nat → Option Nat} {tx ac : Nat → Nat} : (xW cI cZ cC cJ cY cH (b, (h1, h2), ((a0, a1), (i1, i2, i3, i4), rw), tx, ac))[47]? = some ((xA b a0 a1 h1 h2 i1 i2 i3 i4 tx ac) 224, (hb_E0 (xA b a0 a1 h1 h2 i1 i2 i3 i4 tx ac) (bD cI cZ cC cJ cY cH kdX) kdX (xU h1 h2 i1 i2 i3 i4) (fun _ _ => 0)) 224) := rfl
set_option maxRecDepth 100000 in
theorem xw_225 {cI cZ cC cJ cY cH : ClassId} {b a0 a1 : Nat} {h1 h2 i1 i2 i3 i4 : hS} {rw : Nat → Option Nat} {tx ac : Nat → Nat} : (xW cI cZ cC cJ cY cH (b, (h1, h2), ((a0, a1), (i1, i2, i3, i4), rw), tx, ac))[48]? = some ((xA b a0 a1 h1 h2 i1 i2 i3 i4 tx ac) 225, (hb_E0 (xA b a0 a1 h1 h2 i1 i2 i3 i4 tx ac) (bD cI cZ cC cJ cY cH kdX) kdX (xU h1 h2 i1 i2 i3 i4) (fun _ _ => 0)) 225) := rfl
set_option maxRecDepth 100000 in
theorem xw_226 {cI cZ cC cJ cY cH : ClassId} {b a0 a1 : Nat} {h1 h2 i1 i2 i3 i4 : hS} {rw : Nat → Option Nat} {tx ac : Nat → Nat} : (xW cI cZ cC cJ cY cH (b, (h1, h2), ((a0, a1), (i1, i2, i3, i4), rw), tx, ac))[49]? = some ((xA b a0 a1 h1 h2 i1 i2 i3 i4 tx ac) 226, (hb_E0 (xA b a0 a1 h1 h2 i1 i2 i3 i4 tx ac) (bD cI cZ cC cJ cY cH kdX) kdX (xU h1 h2 i1 i2 i3 i4) (fun _ _ => 0)) 226) := rfl
set_option maxRecDepth 100000 in
theorem xw_227 {cI cZ cC cJ cY cH : ClassId} {b a0 a1 : Nat} {h1 h2 i1 i2 i3 i4 : hS} {rw : Nat → Option Nat} {tx ac : Nat → Nat} : (xW cI cZ cC cJ cY cH (b, (h1, h2), ((a0, a1), (i1, i2, i3, i4), rw), tx, ac))[50]? = some ((xA b a0 a1 h1 h2 i1 i2 i3 i4 tx ac) 227, (hb_E0 (xA b a0 a1 h1 h2 i1 i2 i3 i4 tx ac) (bD cI cZ cC cJ cY cH kdX) kdX (xU h1 h2 i1 i2 i3 i4) (fun _ _ => 0)) 227) := rfl
set_option maxRecDepth 100000 in
theorem xw_228 {cI cZ cC cJ cY cH : ClassId} {b a0 a1 : Nat} {h1 h2 i1 i2 i3 i4 : hS} {rw : Nat → Option Nat} {tx ac : Nat → Nat} : (xW cI cZ cC cJ cY cH (b, (h1, h2), ((a0, a1), (i1, i2, i3, i4), rw), tx, ac))[0]? = some ((xA b a0 a1 h1 h2 i1 i2 i3 i4 tx ac) 228, (hb_E0 (xA b a0 a1 h1 h2 i1 i2 i3 i4 tx ac) (bD cI cZ cC cJ cY cH kdX) kdX (xU h1 h2 i1 i2 i3 i4) (fun _ _ => 0)) 228) := rfl
set_option maxRecDepth 100000 in
theorem xw_229 {cI cZ cC cJ cY cH : ClassId} {b a0 a1 : Nat} {h1 h2 i1 i2 i3 i4 : hS} {rw : Nat → Option Nat} {tx ac : Nat → Nat} : (xW cI cZ cC cJ cY cH (b, (h1, h2), ((a0, a1), (i1, i2, i3, i4), rw), tx, ac))[11]? = some ((xA b a0 a1 h1 h2 i1 i2 i3 i4 tx ac) 229, (hb_E0 (xA b a0 a1 h1 h2 i1 i2 i3 i4 tx ac) (bD cI cZ cC cJ cY cH kdX) kdX (xU h1 h2 i1 i2 i3 i4) (fun _ _ => 0)) 229) := rfl
set_option maxRecDepth 100000 in
theorem xw_230 {cI cZ cC cJ cY cH : ClassId} {b a0 a1 : Nat} {h1 h2 i1 i2 i3 i4 : hS} {rw : Nat → Option Nat} {tx ac : Nat → Nat} (h : rw = fun j => [i1.1 0, i2.1 0, i3.1 0, i4.1 0][j]?) : (xW cI cZ cC cJ cY cH (b, (h1, h2), ((a0, a1), (i1, i2, i3, i4), rw), tx, ac))[12]? = some ((xA b a0 a1 h1 h2 i1 i2 i3 i4 tx ac) 230, (hb_E0 (xA b a0 a1 h1 h2 i1 i2 i3 i4 tx ac) (bD cI cZ cC cJ cY cH kdX) kdX (xU h1 h2 i1 i2 i3 i4) (fun _ _ => 0)) 230) := by
  rw [show (xW cI cZ cC cJ cY cH (b, (h1, h2), ((a0, a1), (i1, i2, i3, i4), rw), tx, ac))[12]? = some ((xA b a0 a1 h1 h2 i1 i2 i3 i4 tx ac) 230, .inl (cH, 4, .inr (.inr (.inr (.inr rw))))) from rfl, h]
  rw [show (fun j => [i1.1 0, i2.1 0, i3.1 0, i4.1 0][j]?) = fun j => ([76, 114, 152, 190][j]?).map (xA b a0 a1 h1 h2 i1 i2 i3 i4 tx ac) from funext (fun j => match j with
    | 0 => rfl
    | 1 => rfl
    | 2 => rfl
    | 3 => rfl
    | j + 4 => rfl)]
  rfl
set_option maxRecDepth 100000 in
theorem xw_231 {cI cZ cC cJ cY cH : ClassId} {b a0 a1 : Nat} {h1 h2 i1 i2 i3 i4 : hS} {rw : Nat → Option Nat} {tx ac : Nat → Nat} : (xW cI cZ cC cJ cY cH (b, (h1, h2), ((a0, a1), (i1, i2, i3, i4), rw), tx, ac))[7]? = some ((xA b a0 a1 h1 h2 i1 i2 i3 i4 tx ac) 231, (hb_E0 (xA b a0 a1 h1 h2 i1 i2 i3 i4 tx ac) (bD cI cZ cC cJ cY cH kdX) kdX (xU h1 h2 i1 i2 i3 i4) (fun _ _ => 0)) 231) := rfl
set_option maxRecDepth 100000 in
theorem xw_232 {cI cZ cC cJ cY cH : ClassId} {b a0 a1 : Nat} {h1 h2 i1 i2 i3 i4 : hS} {rw : Nat → Option Nat} {tx ac : Nat → Nat} : (xW cI cZ cC cJ cY cH (b, (h1, h2), ((a0, a1), (i1, i2, i3, i4), rw), tx, ac))[8]? = some ((xA b a0 a1 h1 h2 i1 i2 i3 i4 tx ac) 232, (hb_E0 (xA b a0 a1 h1 h2 i1 i2 i3 i4 tx ac) (bD cI cZ cC cJ cY cH kdX) kdX (xU h1 h2 i1 i2 i3 i4) (fun _ _ => 0)) 232) := rfl
set_option maxRecDepth 100000 in
theorem xw_233 {cI cZ cC cJ cY cH : ClassId} {b a0 a1 : Nat} {h1 h2 i1 i2 i3 i4 : hS} {rw : Nat → Option Nat} {tx ac : Nat → Nat} : (xW cI cZ cC cJ cY cH (b, (h1, h2), ((a0, a1), (i1, i2, i3, i4), rw), tx, ac))[9]? = some ((xA b a0 a1 h1 h2 i1 i2 i3 i4 tx ac) 233, (hb_E0 (xA b a0 a1 h1 h2 i1 i2 i3 i4 tx ac) (bD cI cZ cC cJ cY cH kdX) kdX (xU h1 h2 i1 i2 i3 i4) (fun _ _ => 0)) 233) := rfl
set_option maxRecDepth 100000 in
theorem xw_234 {cI cZ cC cJ cY cH : ClassId} {b a0 a1 : Nat} {h1 h2 i1 i2 i3 i4 : hS} {rw : Nat → Option Nat} {tx ac : Nat → Nat} : (xW cI cZ cC cJ cY cH (b, (h1, h2), ((a0, a1), (i1, i2, i3, i4), rw), tx, ac))[10]? = some ((xA b a0 a1 h1 h2 i1 i2 i3 i4 tx ac) 234, (hb_E0 (xA b a0 a1 h1 h2 i1 i2 i3 i4 tx ac) (bD cI cZ cC cJ cY cH kdX) kdX (xU h1 h2 i1 i2 i3 i4) (fun _ _ => 0)) 234) := rfl
set_option maxRecDepth 100000 in
theorem xw_235 {cI cZ cC cJ cY cH : ClassId} {b a0 a1 : Nat} {h1 h2 i1 i2 i3 i4 : hS} {rw : Nat → Option Nat} {tx ac : Nat → Nat} : (xW cI cZ cC cJ cY cH (b, (h1, h2), ((a0, a1), (i1, i2, i3, i4), rw), tx, ac))[1]? = some ((xA b a0 a1 h1 h2 i1 i2 i3 i4 tx ac) 235, (hb_E0 (xA b a0 a1 h1 h2 i1 i2 i3 i4 tx ac) (bD cI cZ cC cJ cY cH kdX) kdX (xU h1 h2 i1 i2 i3 i4) (fun _ _ => 0)) 235) := rfl
set_option maxRecDepth 100000 in
theorem xw_236 {cI cZ cC cJ cY cH : ClassId} {b a0 a1 : Nat} {h1 h2 i1 i2 i3 i4 : hS} {rw : Nat → Option Nat} {tx ac : Nat → Nat} : (xW cI cZ cC cJ cY cH (b, (h1, h2), ((a0, a1), (i1, i2, i3, i4), rw), tx, ac))[2]? = some ((xA b a0 a1 h1 h2 i1 i2 i3 i4 tx ac) 236, (hb_E0 (xA b a0 a1 h1 h2 i1 i2 i3 i4 tx ac) (bD cI cZ cC cJ cY cH kdX) kdX (xU h1 h2 i1 i2 i3 i4) (fun _ _ => 0)) 236) := rfl
set_option maxRecDepth 100000 in
theorem xw_237 {cI cZ cC cJ cY cH : ClassId} {b a0 a1 : Nat} {h1 h2 i1 i2 i3 i4 : hS} {rw : Nat → Option Nat} {tx ac : Nat → Nat} : (xW cI cZ cC cJ cY cH (b, (h1, h2), ((a0, a1), (i1, i2, i3, i4), rw), tx, ac))[3]? = some ((xA b a0 a1 h1 h2 i1 i2 i3 i4 tx ac) 237, (hb_E0 (xA b a0 a1 h1 h2 i1 i2 i3 i4 tx ac) (bD cI cZ cC cJ cY cH kdX) kdX (xU h1 h2 i1 i2 i3 i4) (fun _ _ => 0)) 237) := rfl
set_option maxRecDepth 100000 in
theorem xw_238 {cI cZ cC cJ cY cH : ClassId} {b a0 a1 : Nat} {h1 h2 i1 i2 i3 i4 : hS} {rw : Nat → Option Nat} {tx ac : Nat → Nat} : (xW cI cZ cC cJ cY cH (b, (h1, h2), ((a0, a1), (i1, i2, i3, i4), rw), tx, ac))[4]? = some ((xA b a0 a1 h1 h2 i1 i2 i3 i4 tx ac) 238, (hb_E0 (xA b a0 a1 h1 h2 i1 i2 i3 i4 tx ac) (bD cI cZ cC cJ cY cH kdX) kdX (xU h1 h2 i1 i2 i3 i4) (fun _ _ => 0)) 238) := rfl
set_option maxRecDepth 100000 in
theorem xw_239 {cI cZ cC cJ cY cH : ClassId} {b a0 a1 : Nat} {h1 h2 i1 i2 i3 i4 : hS} {rw : Nat → Option Nat} {tx ac : Nat → Nat} : (xW cI cZ cC cJ cY cH (b, (h1, h2), ((a0, a1), (i1, i2, i3, i4), rw), tx, ac))[5]? = some ((xA b a0 a1 h1 h2 i1 i2 i3 i4 tx ac) 239, (hb_E0 (xA b a0 a1 h1 h2 i1 i2 i3 i4 tx ac) (bD cI cZ cC cJ cY cH kdX) kdX (xU h1 h2 i1 i2 i3 i4) (fun _ _ => 0)) 239) := rfl
set_option maxRecDepth 100000 in
theorem xw_240 {cI cZ cC cJ cY cH : ClassId} {b a0 a1 : Nat} {h1 h2 i1 i2 i3 i4 : hS} {rw : Nat → Option Nat} {tx ac : Nat → Nat} : (xW cI cZ cC cJ cY cH (b, (h1, h2), ((a0, a1), (i1, i2, i3, i4), rw), tx, ac))[6]? = some ((xA b a0 a1 h1 h2 i1 i2 i3 i4 tx ac) 240, (hb_E0 (xA b a0 a1 h1 h2 i1 i2 i3 i4 tx ac) (bD cI cZ cC cJ cY cH kdX) kdX (xU h1 h2 i1 i2 i3 i4) (fun _ _ => 0)) 240) := rfl
theorem xwH_0 {cI cZ cC cJ cY cH : ClassId} {b a0 a1 : Nat} {h1 h2 i1 i2 i3 i4 : hS} {rw : Nat → Option Nat} {tx ac : Nat → Nat} (r : h1.2.2 = fun j => ([14, 20, 26, 32][j]?).map h1.1) : ∀ k, k < 38 → (xW cI cZ cC cJ cY cH (b, (h1, h2), ((a0, a1), (i1, i2, i3, i4), rw), tx, ac))[203 + k]? = some ((xA b a0 a1 h1 h2 i1 i2 i3 i4 tx ac) (0 + k), (hb_E0 (xA b a0 a1 h1 h2 i1 i2 i3 i4 tx ac) (bD cI cZ cC cJ cY cH kdX) kdX (xU h1 h2 i1 i2 i3 i4) (fun _ _ => 0)) (0 + k)) := by
  intro k hk
  rcases (show k = 0 ∨ k = 1 ∨ k = 2 ∨ k = 3 ∨ k = 4 ∨ k = 5 ∨ k = 6 ∨ k = 7 ∨ k = 8 ∨ k = 9 ∨ k = 10 ∨ k = 11 ∨ k = 12 ∨ k = 13 ∨ k = 14 ∨ k = 15 ∨ k = 16 ∨ k = 17 ∨ k = 18 ∨ k = 19 ∨ k = 20 ∨ k = 21 ∨ k = 22 ∨ k = 23 ∨ k = 24 ∨ k = 25 ∨ k = 26 ∨ k = 27 ∨ k = 28 ∨ k = 29 ∨ k = 30 ∨ k = 31 ∨ k = 32 ∨ k = 33 ∨ k = 34 ∨ k = 35 ∨ k = 36 ∨ k = 37 by omega) with rfl | rfl | rfl | rfl | rfl | rfl | rfl | rfl | rfl | rfl | rfl | rfl | rfl | rfl | rfl | rfl | rfl | rfl | rfl | rfl | rfl | rfl | rfl | rfl | rfl | rfl | rfl | rfl | rfl | rfl | rfl | rfl | rfl | rfl | rfl | rfl | rfl | rfl
  · exact xw_0
  · exact xw_1
  · exact xw_2
  · exact xw_3
  · exact xw_4
  · exact xw_5
  · exact xw_6
  · exact xw_7 r
  · exact xw_8
  · exact xw_9
  · exact xw_10
  · exact xw_11
  · exact xw_12
  · exact xw_13
  · exact xw_14
  · exact xw_15
  · exact xw_16
  · exact xw_17
  · exact xw_18
  · exact xw_19
  · exact xw_20
  · exact xw_21
  · exact xw_22
  · exact xw_23
  · exact xw_24
  · exact xw_25
  · exact xw_26
  · exact xw_27
  · exact xw_28
  · exact xw_29
  · exact xw_30
  · exact xw_31
  · exact xw_32
  · exact xw_33
  · exact xw_34
  · exact xw_35
  · exact xw_36
  · exact xw_37
theorem xwH_1 {cI cZ cC cJ cY cH : ClassId} {b a0 a1 : Nat} {h1 h2 i1 i2 i3 i4 : hS} {rw : Nat → Option Nat} {tx ac : Nat → Nat} (r : h2.2.2 = fun j => ([14, 20, 26, 32][j]?).map h2.1) : ∀ k, k < 38 → (xW cI cZ cC cJ cY cH (b, (h1, h2), ((a0, a1), (i1, i2, i3, i4), rw), tx, ac))[165 + k]? = some ((xA b a0 a1 h1 h2 i1 i2 i3 i4 tx ac) (38 + k), (hb_E0 (xA b a0 a1 h1 h2 i1 i2 i3 i4 tx ac) (bD cI cZ cC cJ cY cH kdX) kdX (xU h1 h2 i1 i2 i3 i4) (fun _ _ => 0)) (38 + k)) := by
  intro k hk
  rcases (show k = 0 ∨ k = 1 ∨ k = 2 ∨ k = 3 ∨ k = 4 ∨ k = 5 ∨ k = 6 ∨ k = 7 ∨ k = 8 ∨ k = 9 ∨ k = 10 ∨ k = 11 ∨ k = 12 ∨ k = 13 ∨ k = 14 ∨ k = 15 ∨ k = 16 ∨ k = 17 ∨ k = 18 ∨ k = 19 ∨ k = 20 ∨ k = 21 ∨ k = 22 ∨ k = 23 ∨ k = 24 ∨ k = 25 ∨ k = 26 ∨ k = 27 ∨ k = 28 ∨ k = 29 ∨ k = 30 ∨ k = 31 ∨ k = 32 ∨ k = 33 ∨ k = 34 ∨ k = 35 ∨ k = 36 ∨ k = 37 by omega) with rfl | rfl | rfl | rfl | rfl | rfl | rfl | rfl | rfl | rfl | rfl | rfl | rfl | rfl | rfl | rfl | rfl | rfl | rfl | rfl | rfl | rfl | rfl | rfl | rfl | rfl | rfl | rfl | rfl | rfl | rfl | rfl | rfl | rfl | rfl | rfl | rfl | rfl
  · exact xw_38
  · exact xw_39
  · exact xw_40
  · exact xw_41
  · exact xw_42
  · exact xw_43
  · exact xw_44
  · exact xw_45 r
  · exact xw_46
  · exact xw_47
  · exact xw_48
  · exact xw_49
  · exact xw_50
  · exact xw_51
  · exact xw_52
  · exact xw_53
  · exact xw_54
  · exact xw_55
  · exact xw_56
  · exact xw_57
  · exact xw_58
  · exact xw_59
  · exact xw_60
  · exact xw_61
  · exact xw_62
  · exact xw_63
  · exact xw_64
  · exact xw_65
  · exact xw_66
  · exact xw_67
  · exact xw_68
  · exact xw_69
  · exact xw_70
  · exact xw_71
  · exact xw_72
  · exact xw_73
  · exact xw_74
  · exact xw_75
theorem xwH_2 {cI cZ cC cJ cY cH : ClassId} {b a0 a1 : Nat} {h1 h2 i1 i2 i3 i4 : hS} {rw : Nat → Option Nat} {tx ac : Nat → Nat} (r : i1.2.2 = fun j => ([14, 20, 26, 32][j]?).map i1.1) : ∀ k, k < 38 → (xW cI cZ cC cJ cY cH (b, (h1, h2), ((a0, a1), (i1, i2, i3, i4), rw), tx, ac))[127 + k]? = some ((xA b a0 a1 h1 h2 i1 i2 i3 i4 tx ac) (76 + k), (hb_E0 (xA b a0 a1 h1 h2 i1 i2 i3 i4 tx ac) (bD cI cZ cC cJ cY cH kdX) kdX (xU h1 h2 i1 i2 i3 i4) (fun _ _ => 0)) (76 + k)) := by
  intro k hk
  rcases (show k = 0 ∨ k = 1 ∨ k = 2 ∨ k = 3 ∨ k = 4 ∨ k = 5 ∨ k = 6 ∨ k = 7 ∨ k = 8 ∨ k = 9 ∨ k = 10 ∨ k = 11 ∨ k = 12 ∨ k = 13 ∨ k = 14 ∨ k = 15 ∨ k = 16 ∨ k = 17 ∨ k = 18 ∨ k = 19 ∨ k = 20 ∨ k = 21 ∨ k = 22 ∨ k = 23 ∨ k = 24 ∨ k = 25 ∨ k = 26 ∨ k = 27 ∨ k = 28 ∨ k = 29 ∨ k = 30 ∨ k = 31 ∨ k = 32 ∨ k = 33 ∨ k = 34 ∨ k = 35 ∨ k = 36 ∨ k = 37 by omega) with rfl | rfl | rfl | rfl | rfl | rfl | rfl | rfl | rfl | rfl | rfl | rfl | rfl | rfl | rfl | rfl | rfl | rfl | rfl | rfl | rfl | rfl | rfl | rfl | rfl | rfl | rfl | rfl | rfl | rfl | rfl | rfl | rfl | rfl | rfl | rfl | rfl | rfl
  · exact xw_76
  · exact xw_77
  · exact xw_78
  · exact xw_79
  · exact xw_80
  · exact xw_81
  · exact xw_82
  · exact xw_83 r
  · exact xw_84
  · exact xw_85
  · exact xw_86
  · exact xw_87
  · exact xw_88
  · exact xw_89
  · exact xw_90
  · exact xw_91
  · exact xw_92
  · exact xw_93
  · exact xw_94
  · exact xw_95
  · exact xw_96
  · exact xw_97
  · exact xw_98
  · exact xw_99
  · exact xw_100
  · exact xw_101
  · exact xw_102
  · exact xw_103
  · exact xw_104
  · exact xw_105
  · exact xw_106
  · exact xw_107
  · exact xw_108
  · exact xw_109
  · exact xw_110
  · exact xw_111
  · exact xw_112
  · exact xw_113
theorem xwH_3 {cI cZ cC cJ cY cH : ClassId} {b a0 a1 : Nat} {h1 h2 i1 i2 i3 i4 : hS} {rw : Nat → Option Nat} {tx ac : Nat → Nat} (r : i2.2.2 = fun j => ([14, 20, 26, 32][j]?).map i2.1) : ∀ k, k < 38 → (xW cI cZ cC cJ cY cH (b, (h1, h2), ((a0, a1), (i1, i2, i3, i4), rw), tx, ac))[89 + k]? = some ((xA b a0 a1 h1 h2 i1 i2 i3 i4 tx ac) (114 + k), (hb_E0 (xA b a0 a1 h1 h2 i1 i2 i3 i4 tx ac) (bD cI cZ cC cJ cY cH kdX) kdX (xU h1 h2 i1 i2 i3 i4) (fun _ _ => 0)) (114 + k)) := by
  intro k hk
  rcases (show k = 0 ∨ k = 1 ∨ k = 2 ∨ k = 3 ∨ k = 4 ∨ k = 5 ∨ k = 6 ∨ k = 7 ∨ k = 8 ∨ k = 9 ∨ k = 10 ∨ k = 11 ∨ k = 12 ∨ k = 13 ∨ k = 14 ∨ k = 15 ∨ k = 16 ∨ k = 17 ∨ k = 18 ∨ k = 19 ∨ k = 20 ∨ k = 21 ∨ k = 22 ∨ k = 23 ∨ k = 24 ∨ k = 25 ∨ k = 26 ∨ k = 27 ∨ k = 28 ∨ k = 29 ∨ k = 30 ∨ k = 31 ∨ k = 32 ∨ k = 33 ∨ k = 34 ∨ k = 35 ∨ k = 36 ∨ k = 37 by omega) with rfl | rfl | rfl | rfl | rfl | rfl | rfl | rfl | rfl | rfl | rfl | rfl | rfl | rfl | rfl | rfl | rfl | rfl | rfl | rfl | rfl | rfl | rfl | rfl | rfl | rfl | rfl | rfl | rfl | rfl | rfl | rfl | rfl | rfl | rfl | rfl | rfl | rfl
  · exact xw_114
  · exact xw_115
  · exact xw_116
  · exact xw_117
  · exact xw_118
  · exact xw_119
  · exact xw_120
  · exact xw_121 r
  · exact xw_122
  · exact xw_123
  · exact xw_124
  · exact xw_125
  · exact xw_126
  · exact xw_127
  · exact xw_128
  · exact xw_129
  · exact xw_130
  · exact xw_131
  · exact xw_132
  · exact xw_133
  · exact xw_134
  · exact xw_135
  · exact xw_136
  · exact xw_137
  · exact xw_138
  · exact xw_139
  · exact xw_140
  · exact xw_141
  · exact xw_142
  · exact xw_143
  · exact xw_144
  · exact xw_145
  · exact xw_146
  · exact xw_147
  · exact xw_148
  · exact xw_149
  · exact xw_150
  · exact xw_151
theorem xwH_4 {cI cZ cC cJ cY cH : ClassId} {b a0 a1 : Nat} {h1 h2 i1 i2 i3 i4 : hS} {rw : Nat → Option Nat} {tx ac : Nat → Nat} (r : i3.2.2 = fun j => ([14, 20, 26, 32][j]?).map i3.1) : ∀ k, k < 38 → (xW cI cZ cC cJ cY cH (b, (h1, h2), ((a0, a1), (i1, i2, i3, i4), rw), tx, ac))[51 + k]? = some ((xA b a0 a1 h1 h2 i1 i2 i3 i4 tx ac) (152 + k), (hb_E0 (xA b a0 a1 h1 h2 i1 i2 i3 i4 tx ac) (bD cI cZ cC cJ cY cH kdX) kdX (xU h1 h2 i1 i2 i3 i4) (fun _ _ => 0)) (152 + k)) := by
  intro k hk
  rcases (show k = 0 ∨ k = 1 ∨ k = 2 ∨ k = 3 ∨ k = 4 ∨ k = 5 ∨ k = 6 ∨ k = 7 ∨ k = 8 ∨ k = 9 ∨ k = 10 ∨ k = 11 ∨ k = 12 ∨ k = 13 ∨ k = 14 ∨ k = 15 ∨ k = 16 ∨ k = 17 ∨ k = 18 ∨ k = 19 ∨ k = 20 ∨ k = 21 ∨ k = 22 ∨ k = 23 ∨ k = 24 ∨ k = 25 ∨ k = 26 ∨ k = 27 ∨ k = 28 ∨ k = 29 ∨ k = 30 ∨ k = 31 ∨ k = 32 ∨ k = 33 ∨ k = 34 ∨ k = 35 ∨ k = 36 ∨ k = 37 by omega) with rfl | rfl | rfl | rfl | rfl | rfl | rfl | rfl | rfl | rfl | rfl | rfl | rfl | rfl | rfl | rfl | rfl | rfl | rfl | rfl | rfl | rfl | rfl | rfl | rfl | rfl | rfl | rfl | rfl | rfl | rfl | rfl | rfl | rfl | rfl | rfl | rfl | rfl
  · exact xw_152
  · exact xw_153
  · exact xw_154
  · exact xw_155
  · exact xw_156
  · exact xw_157
  · exact xw_158
  · exact xw_159 r
  · exact xw_160
  · exact xw_161
  · exact xw_162
  · exact xw_163
  · exact xw_164
  · exact xw_165
  · exact xw_166
  · exact xw_167
  · exact xw_168
  · exact xw_169
  · exact xw_170
  · exact xw_171
  · exact xw_172
  · exact xw_173
  · exact xw_174
  · exact xw_175
  · exact xw_176
  · exact xw_177
  · exact xw_178
  · exact xw_179
  · exact xw_180
  · exact xw_181
  · exact xw_182
  · exact xw_183
  · exact xw_184
  · exact xw_185
  · exact xw_186
  · exact xw_187
  · exact xw_188
  · exact xw_189
theorem xwH_5 {cI cZ cC cJ cY cH : ClassId} {b a0 a1 : Nat} {h1 h2 i1 i2 i3 i4 : hS} {rw : Nat → Option Nat} {tx ac : Nat → Nat} (r : i4.2.2 = fun j => ([14, 20, 26, 32][j]?).map i4.1) : ∀ k, k < 38 → (xW cI cZ cC cJ cY cH (b, (h1, h2), ((a0, a1), (i1, i2, i3, i4), rw), tx, ac))[13 + k]? = some ((xA b a0 a1 h1 h2 i1 i2 i3 i4 tx ac) (190 + k), (hb_E0 (xA b a0 a1 h1 h2 i1 i2 i3 i4 tx ac) (bD cI cZ cC cJ cY cH kdX) kdX (xU h1 h2 i1 i2 i3 i4) (fun _ _ => 0)) (190 + k)) := by
  intro k hk
  rcases (show k = 0 ∨ k = 1 ∨ k = 2 ∨ k = 3 ∨ k = 4 ∨ k = 5 ∨ k = 6 ∨ k = 7 ∨ k = 8 ∨ k = 9 ∨ k = 10 ∨ k = 11 ∨ k = 12 ∨ k = 13 ∨ k = 14 ∨ k = 15 ∨ k = 16 ∨ k = 17 ∨ k = 18 ∨ k = 19 ∨ k = 20 ∨ k = 21 ∨ k = 22 ∨ k = 23 ∨ k = 24 ∨ k = 25 ∨ k = 26 ∨ k = 27 ∨ k = 28 ∨ k = 29 ∨ k = 30 ∨ k = 31 ∨ k = 32 ∨ k = 33 ∨ k = 34 ∨ k = 35 ∨ k = 36 ∨ k = 37 by omega) with rfl | rfl | rfl | rfl | rfl | rfl | rfl | rfl | rfl | rfl | rfl | rfl | rfl | rfl | rfl | rfl | rfl | rfl | rfl | rfl | rfl | rfl | rfl | rfl | rfl | rfl | rfl | rfl | rfl | rfl | rfl | rfl | rfl | rfl | rfl | rfl | rfl | rfl
  · exact xw_190
  · exact xw_191
  · exact xw_192
  · exact xw_193
  · exact xw_194
  · exact xw_195
  · exact xw_196
  · exact xw_197 r
  · exact xw_198
  · exact xw_199
  · exact xw_200
  · exact xw_201
  · exact xw_202
  · exact xw_203
  · exact xw_204
  · exact xw_205
  · exact xw_206
  · exact xw_207
  · exact xw_208
  · exact xw_209
  · exact xw_210
  · exact xw_211
  · exact xw_212
  · exact xw_213
  · exact xw_214
  · exact xw_215
  · exact xw_216
  · exact xw_217
  · exact xw_218
  · exact xw_219
  · exact xw_220
  · exact xw_221
  · exact xw_222
  · exact xw_223
  · exact xw_224
  · exact xw_225
  · exact xw_226
  · exact xw_227
theorem xw_by {cI cZ cC cJ cY cH : ClassId} {b a0 a1 : Nat} {h1 h2 i1 i2 i3 i4 : hS} {rw : Nat → Option Nat} {tx ac : Nat → Nat} (r0 : h1.2.2 = fun j => ([14, 20, 26, 32][j]?).map h1.1) (r1 : h2.2.2 = fun j => ([14, 20, 26, 32][j]?).map h2.1) (r2 : i1.2.2 = fun j => ([14, 20, 26, 32][j]?).map i1.1) (r3 : i2.2.2 = fun j => ([14, 20, 26, 32][j]?).map i2.1) (r4 : i3.2.2 = fun j => ([14, 20, 26, 32][j]?).map i3.1) (r5 : i4.2.2 = fun j => ([14, 20, 26, 32][j]?).map i4.1) (r6 : rw = fun j => [i1.1 0, i2.1 0, i3.1 0, i4.1 0][j]?) (k : Nat) (q : Nat × va_E) (hq : (hb_L 241 (xA b a0 a1 h1 h2 i1 i2 i3 i4 tx ac) (hb_E0 (xA b a0 a1 h1 h2 i1 i2 i3 i4 tx ac) (bD cI cZ cC cJ cY cH kdX) kdX (xU h1 h2 i1 i2 i3 i4) (fun _ _ => 0)))[k]? = some q) : (xW cI cZ cC cJ cY cH (b, (h1, h2), ((a0, a1), (i1, i2, i3, i4), rw), tx, ac))[xPos k]? = some q := by
  obtain ⟨hk, rfl⟩ := hb_L_at hq
  by_cases h228 : k < 228
  · by_cases c0 : k < 38
    · obtain ⟨i, rfl⟩ : ∃ i, k = 0 + i := ⟨k - 0, by omega⟩
      rw [show xPos (0 + i) = 203 + i by unfold xPos; rw [if_pos h228, show (0 + i) / 38 = 0 by omega, show (0 + i) % 38 = i by omega]; rfl]
      exact xwH_0 r0 i (by omega)
    by_cases c1 : k < 76
    · obtain ⟨i, rfl⟩ : ∃ i, k = 38 + i := ⟨k - 38, by omega⟩
      rw [show xPos (38 + i) = 165 + i by unfold xPos; rw [if_pos h228, show (38 + i) / 38 = 1 by omega, show (38 + i) % 38 = i by omega]; rfl]
      exact xwH_1 r1 i (by omega)
    by_cases c2 : k < 114
    · obtain ⟨i, rfl⟩ : ∃ i, k = 76 + i := ⟨k - 76, by omega⟩
      rw [show xPos (76 + i) = 127 + i by unfold xPos; rw [if_pos h228, show (76 + i) / 38 = 2 by omega, show (76 + i) % 38 = i by omega]; rfl]
      exact xwH_2 r2 i (by omega)
    by_cases c3 : k < 152
    · obtain ⟨i, rfl⟩ : ∃ i, k = 114 + i := ⟨k - 114, by omega⟩
      rw [show xPos (114 + i) = 89 + i by unfold xPos; rw [if_pos h228, show (114 + i) / 38 = 3 by omega, show (114 + i) % 38 = i by omega]; rfl]
      exact xwH_3 r3 i (by omega)
    by_cases c4 : k < 190
    · obtain ⟨i, rfl⟩ : ∃ i, k = 152 + i := ⟨k - 152, by omega⟩
      rw [show xPos (152 + i) = 51 + i by unfold xPos; rw [if_pos h228, show (152 + i) / 38 = 4 by omega, show (152 + i) % 38 = i by omega]; rfl]
      exact xwH_4 r4 i (by omega)
    obtain ⟨i, rfl⟩ : ∃ i, k = 190 + i := ⟨k - 190, by omega⟩
    rw [show xPos (190 + i) = 13 + i by unfold xPos; rw [if_pos h228, show (190 + i) / 38 = 5 by omega, show (190 + i) % 38 = i by omega]; rfl]
    exact xwH_5 r5 i (by omega)
  · rcases (show k = 228 ∨ k = 229 ∨ k = 230 ∨ k = 231 ∨ k = 232 ∨ k = 233 ∨ k = 234 ∨ k = 235 ∨ k = 236 ∨ k = 237 ∨ k = 238 ∨ k = 239 ∨ k = 240 by omega) with rfl | rfl | rfl | rfl | rfl | rfl | rfl | rfl | rfl | rfl | rfl | rfl | rfl
    · exact xw_228
    · exact xw_229
    · exact xw_230 r6
    · exact xw_231
    · exact xw_232
    · exact xw_233
    · exact xw_234
    · exact xw_235
    · exact xw_236
    · exact xw_237
    · exact xw_238
    · exact xw_239
    · exact xw_240
theorem xw_inj0 : ∀ i, i < 241 → ∀ j, j < 241 → xPos i = xPos j → i = j := by decide +kernel
