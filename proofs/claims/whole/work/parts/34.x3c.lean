/-! X3_act -/
def f_X3_act (mu : kM) (p0 : Int32) (p1 : Int32) : kM :=
  if (p1 &&& 15) = 0 then (if ((kup mu 39 p0.toNatClampNeg 2) 34 29) ≤ 0 then (kup (kup mu 39 p0.toNatClampNeg 2) 40 p0.toNatClampNeg ((mu 40 p0.toNatClampNeg) + 1)) else (kup (kup mu 39 p0.toNatClampNeg 2) 40 p0.toNatClampNeg ((kup mu 39 p0.toNatClampNeg 2) 40 p0.toNatClampNeg))) else if (6 : Int32) ≤ (p1 &&& 15) then (if (8 : Int32) ≤ (p1 &&& 15) then (if (11 : Int32) ≤ (p1 &&& 15) then (if (p1 &&& 15) = 11 then (if ((f_X3_send mu p0 ((p1 >>> ((4 : Int32) &&& 31)) &&& 3) ((p1 >>> ((6 : Int32) &&& 31)) &&& 3) (p1 >>> ((8 : Int32) &&& 31))) 34 29) ≤ 0 then (kup (f_X3_send mu p0 ((p1 >>> ((4 : Int32) &&& 31)) &&& 3) ((p1 >>> ((6 : Int32) &&& 31)) &&& 3) (p1 >>> ((8 : Int32) &&& 31))) 40 p0.toNatClampNeg ((mu 40 p0.toNatClampNeg) + 1)) else (kup (f_X3_send mu p0 ((p1 >>> ((4 : Int32) &&& 31)) &&& 3) ((p1 >>> ((6 : Int32) &&& 31)) &&& 3) (p1 >>> ((8 : Int32) &&& 31))) 40 p0.toNatClampNeg ((f_X3_send mu p0 ((p1 >>> ((4 : Int32) &&& 31)) &&& 3) ((p1 >>> ((6 : Int32) &&& 31)) &&& 3) (p1 >>> ((8 : Int32) &&& 31))) 40 p0.toNatClampNeg))) else if (p1 &&& 15) = 12 then (if ((f_X3_take mu p0 ((p1 >>> ((4 : Int32) &&& 31)) &&& 3) ((p1 >>> ((6 : Int32) &&& 31)) &&& 3) (p1 >>> ((8 : Int32) &&& 31))) 34 29) ≤ 0 then (kup (f_X3_take mu p0 ((p1 >>> ((4 : Int32) &&& 31)) &&& 3) ((p1 >>> ((6 : Int32) &&& 31)) &&& 3) (p1 >>> ((8 : Int32) &&& 31))) 40 p0.toNatClampNeg ((mu 40 p0.toNatClampNeg) + 1)) else (kup (f_X3_take mu p0 ((p1 >>> ((4 : Int32) &&& 31)) &&& 3) ((p1 >>> ((6 : Int32) &&& 31)) &&& 3) (p1 >>> ((8 : Int32) &&& 31))) 40 p0.toNatClampNeg ((f_X3_take mu p0 ((p1 >>> ((4 : Int32) &&& 31)) &&& 3) ((p1 >>> ((6 : Int32) &&& 31)) &&& 3) (p1 >>> ((8 : Int32) &&& 31))) 40 p0.toNatClampNeg))) else if (p1 &&& 15) = 13 then (if ((kup mu 34 27 1) 34 29) ≤ 0 then (kup (kup mu 34 27 1) 40 p0.toNatClampNeg ((mu 40 p0.toNatClampNeg) + 1)) else (kup (kup mu 34 27 1) 40 p0.toNatClampNeg ((kup mu 34 27 1) 40 p0.toNatClampNeg))) else if (p1 &&& 15) = 14 then (if ((kup mu 41 (((4 : Int32) * p0) + ((p1 >>> ((4 : Int32) &&& 31)) &&& 3)).toNatClampNeg (mu 42 p0.toNatClampNeg)) 34 29) ≤ 0 then (kup (kup mu 41 (((4 : Int32) * p0) + ((p1 >>> ((4 : Int32) &&& 31)) &&& 3)).toNatClampNeg (mu 42 p0.toNatClampNeg)) 40 p0.toNatClampNeg ((mu 40 p0.toNatClampNeg) + 1)) else (kup (kup mu 41 (((4 : Int32) * p0) + ((p1 >>> ((4 : Int32) &&& 31)) &&& 3)).toNatClampNeg (mu 42 p0.toNatClampNeg)) 40 p0.toNatClampNeg ((kup mu 41 (((4 : Int32) * p0) + ((p1 >>> ((4 : Int32) &&& 31)) &&& 3)).toNatClampNeg (mu 42 p0.toNatClampNeg)) 40 p0.toNatClampNeg))) else (kup (kup mu 34 29 4) 40 p0.toNatClampNeg ((kup mu 34 29 4) 40 p0.toNatClampNeg))) else if (p1 &&& 15) = 8 then (if (mu 41 (((4 : Int32) * p0) + ((p1 >>> ((4 : Int32) &&& 31)) &&& 3)).toNatClampNeg) = 0 then (if (mu 34 29) ≤ 0 then (kup mu 40 p0.toNatClampNeg (((mu 40 p0.toNatClampNeg) + 1) + (p1 >>> ((8 : Int32) &&& 31)))) else (kup mu 40 p0.toNatClampNeg (mu 40 p0.toNatClampNeg))) else if (mu 34 29) ≤ 0 then (kup mu 40 p0.toNatClampNeg ((mu 40 p0.toNatClampNeg) + 1)) else (kup mu 40 p0.toNatClampNeg (mu 40 p0.toNatClampNeg))) else if (p1 &&& 15) = 9 then (if (0 : Int32) ≤ (mu 41 (((4 : Int32) * p0) + ((p1 >>> ((4 : Int32) &&& 31)) &&& 3)).toNatClampNeg) then (if (mu 34 29) ≤ 0 then (kup mu 40 p0.toNatClampNeg ((mu 40 p0.toNatClampNeg) + 1)) else (kup mu 40 p0.toNatClampNeg (mu 40 p0.toNatClampNeg))) else if (mu 34 29) ≤ 0 then (kup mu 40 p0.toNatClampNeg (((mu 40 p0.toNatClampNeg) + 1) + (p1 >>> ((8 : Int32) &&& 31)))) else (kup mu 40 p0.toNatClampNeg (mu 40 p0.toNatClampNeg))) else if (mu 34 29) ≤ 0 then (kup mu 40 p0.toNatClampNeg (mu 41 (((4 : Int32) * p0) + ((p1 >>> ((4 : Int32) &&& 31)) &&& 3)).toNatClampNeg)) else (kup mu 40 p0.toNatClampNeg (mu 40 p0.toNatClampNeg))) else if (f_X3_noWord mu p0 ((mu 41 (((4 : Int32) * p0) + ((p1 >>> ((6 : Int32) &&& 31)) &&& 3)).toNatClampNeg) + (p1 >>> ((8 : Int32) &&& 31)))) = 0 then (if (p1 &&& 15) = 6 then (if ((kup mu 41 (((4 : Int32) * p0) + ((p1 >>> ((4 : Int32) &&& 31)) &&& 3)).toNatClampNeg (mu 35 ((mu 36 p0.toNatClampNeg) + ((mu 41 (((4 : Int32) * p0) + ((p1 >>> ((6 : Int32) &&& 31)) &&& 3)).toNatClampNeg) + (p1 >>> ((8 : Int32) &&& 31)))).toNatClampNeg)) 34 29) ≤ 0 then (kup (kup mu 41 (((4 : Int32) * p0) + ((p1 >>> ((4 : Int32) &&& 31)) &&& 3)).toNatClampNeg (mu 35 ((mu 36 p0.toNatClampNeg) + ((mu 41 (((4 : Int32) * p0) + ((p1 >>> ((6 : Int32) &&& 31)) &&& 3)).toNatClampNeg) + (p1 >>> ((8 : Int32) &&& 31)))).toNatClampNeg)) 40 p0.toNatClampNeg ((mu 40 p0.toNatClampNeg) + 1)) else (kup (kup mu 41 (((4 : Int32) * p0) + ((p1 >>> ((4 : Int32) &&& 31)) &&& 3)).toNatClampNeg (mu 35 ((mu 36 p0.toNatClampNeg) + ((mu 41 (((4 : Int32) * p0) + ((p1 >>> ((6 : Int32) &&& 31)) &&& 3)).toNatClampNeg) + (p1 >>> ((8 : Int32) &&& 31)))).toNatClampNeg)) 40 p0.toNatClampNeg ((kup mu 41 (((4 : Int32) * p0) + ((p1 >>> ((4 : Int32) &&& 31)) &&& 3)).toNatClampNeg (mu 35 ((mu 36 p0.toNatClampNeg) + ((mu 41 (((4 : Int32) * p0) + ((p1 >>> ((6 : Int32) &&& 31)) &&& 3)).toNatClampNeg) + (p1 >>> ((8 : Int32) &&& 31)))).toNatClampNeg)) 40 p0.toNatClampNeg))) else if ((kup mu 35 ((mu 36 p0.toNatClampNeg) + ((mu 41 (((4 : Int32) * p0) + ((p1 >>> ((6 : Int32) &&& 31)) &&& 3)).toNatClampNeg) + (p1 >>> ((8 : Int32) &&& 31)))).toNatClampNeg (mu 41 (((4 : Int32) * p0) + ((p1 >>> ((4 : Int32) &&& 31)) &&& 3)).toNatClampNeg)) 34 29) ≤ 0 then (kup (kup mu 35 ((mu 36 p0.toNatClampNeg) + ((mu 41 (((4 : Int32) * p0) + ((p1 >>> ((6 : Int32) &&& 31)) &&& 3)).toNatClampNeg) + (p1 >>> ((8 : Int32) &&& 31)))).toNatClampNeg (mu 41 (((4 : Int32) * p0) + ((p1 >>> ((4 : Int32) &&& 31)) &&& 3)).toNatClampNeg)) 40 p0.toNatClampNeg ((mu 40 p0.toNatClampNeg) + 1)) else (kup (kup mu 35 ((mu 36 p0.toNatClampNeg) + ((mu 41 (((4 : Int32) * p0) + ((p1 >>> ((6 : Int32) &&& 31)) &&& 3)).toNatClampNeg) + (p1 >>> ((8 : Int32) &&& 31)))).toNatClampNeg (mu 41 (((4 : Int32) * p0) + ((p1 >>> ((4 : Int32) &&& 31)) &&& 3)).toNatClampNeg)) 40 p0.toNatClampNeg ((kup mu 35 ((mu 36 p0.toNatClampNeg) + ((mu 41 (((4 : Int32) * p0) + ((p1 >>> ((6 : Int32) &&& 31)) &&& 3)).toNatClampNeg) + (p1 >>> ((8 : Int32) &&& 31)))).toNatClampNeg (mu 41 (((4 : Int32) * p0) + ((p1 >>> ((4 : Int32) &&& 31)) &&& 3)).toNatClampNeg)) 40 p0.toNatClampNeg))) else (kup (kup mu 34 29 2) 40 p0.toNatClampNeg ((kup mu 34 29 2) 40 p0.toNatClampNeg))) else if (p1 &&& 15) = 1 then (if ((kup mu 41 (((4 : Int32) * p0) + ((p1 >>> ((4 : Int32) &&& 31)) &&& 3)).toNatClampNeg (p1 >>> ((8 : Int32) &&& 31))) 34 29) ≤ 0 then (kup (kup mu 41 (((4 : Int32) * p0) + ((p1 >>> ((4 : Int32) &&& 31)) &&& 3)).toNatClampNeg (p1 >>> ((8 : Int32) &&& 31))) 40 p0.toNatClampNeg ((mu 40 p0.toNatClampNeg) + 1)) else (kup (kup mu 41 (((4 : Int32) * p0) + ((p1 >>> ((4 : Int32) &&& 31)) &&& 3)).toNatClampNeg (p1 >>> ((8 : Int32) &&& 31))) 40 p0.toNatClampNeg ((kup mu 41 (((4 : Int32) * p0) + ((p1 >>> ((4 : Int32) &&& 31)) &&& 3)).toNatClampNeg (p1 >>> ((8 : Int32) &&& 31))) 40 p0.toNatClampNeg))) else if (p1 &&& 15) = 2 then (if ((kup mu 41 (((4 : Int32) * p0) + ((p1 >>> ((4 : Int32) &&& 31)) &&& 3)).toNatClampNeg ((mu 41 (((4 : Int32) * p0) + ((p1 >>> ((4 : Int32) &&& 31)) &&& 3)).toNatClampNeg) + (mu 41 (((4 : Int32) * p0) + ((p1 >>> ((6 : Int32) &&& 31)) &&& 3)).toNatClampNeg))) 34 29) ≤ 0 then (kup (kup mu 41 (((4 : Int32) * p0) + ((p1 >>> ((4 : Int32) &&& 31)) &&& 3)).toNatClampNeg ((mu 41 (((4 : Int32) * p0) + ((p1 >>> ((4 : Int32) &&& 31)) &&& 3)).toNatClampNeg) + (mu 41 (((4 : Int32) * p0) + ((p1 >>> ((6 : Int32) &&& 31)) &&& 3)).toNatClampNeg))) 40 p0.toNatClampNeg ((mu 40 p0.toNatClampNeg) + 1)) else (kup (kup mu 41 (((4 : Int32) * p0) + ((p1 >>> ((4 : Int32) &&& 31)) &&& 3)).toNatClampNeg ((mu 41 (((4 : Int32) * p0) + ((p1 >>> ((4 : Int32) &&& 31)) &&& 3)).toNatClampNeg) + (mu 41 (((4 : Int32) * p0) + ((p1 >>> ((6 : Int32) &&& 31)) &&& 3)).toNatClampNeg))) 40 p0.toNatClampNeg ((kup mu 41 (((4 : Int32) * p0) + ((p1 >>> ((4 : Int32) &&& 31)) &&& 3)).toNatClampNeg ((mu 41 (((4 : Int32) * p0) + ((p1 >>> ((4 : Int32) &&& 31)) &&& 3)).toNatClampNeg) + (mu 41 (((4 : Int32) * p0) + ((p1 >>> ((6 : Int32) &&& 31)) &&& 3)).toNatClampNeg))) 40 p0.toNatClampNeg))) else if (p1 &&& 15) = 3 then (if ((kup mu 41 (((4 : Int32) * p0) + ((p1 >>> ((4 : Int32) &&& 31)) &&& 3)).toNatClampNeg ((mu 41 (((4 : Int32) * p0) + ((p1 >>> ((4 : Int32) &&& 31)) &&& 3)).toNatClampNeg) - (mu 41 (((4 : Int32) * p0) + ((p1 >>> ((6 : Int32) &&& 31)) &&& 3)).toNatClampNeg))) 34 29) ≤ 0 then (kup (kup mu 41 (((4 : Int32) * p0) + ((p1 >>> ((4 : Int32) &&& 31)) &&& 3)).toNatClampNeg ((mu 41 (((4 : Int32) * p0) + ((p1 >>> ((4 : Int32) &&& 31)) &&& 3)).toNatClampNeg) - (mu 41 (((4 : Int32) * p0) + ((p1 >>> ((6 : Int32) &&& 31)) &&& 3)).toNatClampNeg))) 40 p0.toNatClampNeg ((mu 40 p0.toNatClampNeg) + 1)) else (kup (kup mu 41 (((4 : Int32) * p0) + ((p1 >>> ((4 : Int32) &&& 31)) &&& 3)).toNatClampNeg ((mu 41 (((4 : Int32) * p0) + ((p1 >>> ((4 : Int32) &&& 31)) &&& 3)).toNatClampNeg) - (mu 41 (((4 : Int32) * p0) + ((p1 >>> ((6 : Int32) &&& 31)) &&& 3)).toNatClampNeg))) 40 p0.toNatClampNeg ((kup mu 41 (((4 : Int32) * p0) + ((p1 >>> ((4 : Int32) &&& 31)) &&& 3)).toNatClampNeg ((mu 41 (((4 : Int32) * p0) + ((p1 >>> ((4 : Int32) &&& 31)) &&& 3)).toNatClampNeg) - (mu 41 (((4 : Int32) * p0) + ((p1 >>> ((6 : Int32) &&& 31)) &&& 3)).toNatClampNeg))) 40 p0.toNatClampNeg))) else if (p1 &&& 15) = 4 then (if ((kup mu 41 (((4 : Int32) * p0) + ((p1 >>> ((4 : Int32) &&& 31)) &&& 3)).toNatClampNeg ((mu 41 (((4 : Int32) * p0) + ((p1 >>> ((4 : Int32) &&& 31)) &&& 3)).toNatClampNeg) * (mu 41 (((4 : Int32) * p0) + ((p1 >>> ((6 : Int32) &&& 31)) &&& 3)).toNatClampNeg))) 34 29) ≤ 0 then (kup (kup mu 41 (((4 : Int32) * p0) + ((p1 >>> ((4 : Int32) &&& 31)) &&& 3)).toNatClampNeg ((mu 41 (((4 : Int32) * p0) + ((p1 >>> ((4 : Int32) &&& 31)) &&& 3)).toNatClampNeg) * (mu 41 (((4 : Int32) * p0) + ((p1 >>> ((6 : Int32) &&& 31)) &&& 3)).toNatClampNeg))) 40 p0.toNatClampNeg ((mu 40 p0.toNatClampNeg) + 1)) else (kup (kup mu 41 (((4 : Int32) * p0) + ((p1 >>> ((4 : Int32) &&& 31)) &&& 3)).toNatClampNeg ((mu 41 (((4 : Int32) * p0) + ((p1 >>> ((4 : Int32) &&& 31)) &&& 3)).toNatClampNeg) * (mu 41 (((4 : Int32) * p0) + ((p1 >>> ((6 : Int32) &&& 31)) &&& 3)).toNatClampNeg))) 40 p0.toNatClampNeg ((kup mu 41 (((4 : Int32) * p0) + ((p1 >>> ((4 : Int32) &&& 31)) &&& 3)).toNatClampNeg ((mu 41 (((4 : Int32) * p0) + ((p1 >>> ((4 : Int32) &&& 31)) &&& 3)).toNatClampNeg) * (mu 41 (((4 : Int32) * p0) + ((p1 >>> ((6 : Int32) &&& 31)) &&& 3)).toNatClampNeg))) 40 p0.toNatClampNeg))) else if ((kup mu 41 (((4 : Int32) * p0) + ((p1 >>> ((4 : Int32) &&& 31)) &&& 3)).toNatClampNeg ((mu 41 (((4 : Int32) * p0) + ((p1 >>> ((4 : Int32) &&& 31)) &&& 3)).toNatClampNeg) ^^^ (mu 41 (((4 : Int32) * p0) + ((p1 >>> ((6 : Int32) &&& 31)) &&& 3)).toNatClampNeg))) 34 29) ≤ 0 then (kup (kup mu 41 (((4 : Int32) * p0) + ((p1 >>> ((4 : Int32) &&& 31)) &&& 3)).toNatClampNeg ((mu 41 (((4 : Int32) * p0) + ((p1 >>> ((4 : Int32) &&& 31)) &&& 3)).toNatClampNeg) ^^^ (mu 41 (((4 : Int32) * p0) + ((p1 >>> ((6 : Int32) &&& 31)) &&& 3)).toNatClampNeg))) 40 p0.toNatClampNeg ((mu 40 p0.toNatClampNeg) + 1)) else (kup (kup mu 41 (((4 : Int32) * p0) + ((p1 >>> ((4 : Int32) &&& 31)) &&& 3)).toNatClampNeg ((mu 41 (((4 : Int32) * p0) + ((p1 >>> ((4 : Int32) &&& 31)) &&& 3)).toNatClampNeg) ^^^ (mu 41 (((4 : Int32) * p0) + ((p1 >>> ((6 : Int32) &&& 31)) &&& 3)).toNatClampNeg))) 40 p0.toNatClampNeg ((kup mu 41 (((4 : Int32) * p0) + ((p1 >>> ((4 : Int32) &&& 31)) &&& 3)).toNatClampNeg ((mu 41 (((4 : Int32) * p0) + ((p1 >>> ((4 : Int32) &&& 31)) &&& 3)).toNatClampNeg) ^^^ (mu 41 (((4 : Int32) * p0) + ((p1 >>> ((6 : Int32) &&& 31)) &&& 3)).toNatClampNeg))) 40 p0.toNatClampNeg))
set_option maxHeartbeats 4000000 in
set_option maxRecDepth 100000 in
theorem c_X3_act (l : Launch) (D : va_G) (A : Nat → Nat) (C : Nat → ClassId) (ka mu : kM) (o : Int32) (sz : Nat) (hA : kinj A) (p0 : Int32) (p1 : Int32) (hp : vp_in p0 6) (hB : mB mu p0.toNatClampNeg) (hC : mC mu) : kMv l yX3_act (.code yX3_act cX3_act 12 none) ({ frames := 1, cells := 0, slots := 0, locals := 25 }) D A C ka mu o sz [.ref (A 34), .int p0, .int p1]  ka (f_X3_act mu p0 p1) o := by
  refine kMv_of hA (by decide) (Nat.le_of_ble_eq_true rfl) (fun p e s m args below meth c G hr hlocks hP hS ls hl => ?_)
  have hl : lv_has ls 12 [(0, .ref (A 34)), (1, .int p0), (2, .int p1)] := hl
  refine lv_iload_n G.1 G.2.1 dX3_act_0 rfl (lv_at hl 2 rfl) ?_
  refine lv_bipush (v := 15) G.1 G.2.1 dX3_act_1 (by decide) ?_
  refine lv_iand G.1 G.2.1 dX3_act_3 ?_
  refine lv_istore_n (lv' := [(3, .int (p1 &&& 15)), (0, .ref (A 34)), (1, .int p0), (2, .int p1)]) G.1 G.2.1 dX3_act_4 rfl hl (by decide) rfl (fun ls hl => ?_)
  refine lv_iload_n G.1 G.2.1 dX3_act_5 rfl (lv_at hl 3 rfl) ?_
  refine lv_iconst (v := 4) G.1 G.2.1 dX3_act_6 (by decide) ?_
  refine lv_ishr G.1 G.2.1 dX3_act_7 ?_
  refine lv_iconst (v := 3) G.1 G.2.1 dX3_act_8 (by decide) ?_
  refine lv_iand G.1 G.2.1 dX3_act_9 ?_
  refine lv_istore (lv' := [(4, .int ((p1 >>> ((4 : Int32) &&& 31)) &&& 3)), (3, .int (p1 &&& 15)), (0, .ref (A 34)), (1, .int p0), (2, .int p1)]) G.1 G.2.1 dX3_act_10 hl (by decide) rfl (fun ls hl => ?_)
  refine lv_iload_n G.1 G.2.1 dX3_act_12 rfl (lv_at hl 4 rfl) ?_
  refine lv_bipush (v := 6) G.1 G.2.1 dX3_act_13 (by decide) ?_
  refine lv_ishr G.1 G.2.1 dX3_act_15 ?_
  refine lv_iconst (v := 3) G.1 G.2.1 dX3_act_16 (by decide) ?_
  refine lv_iand G.1 G.2.1 dX3_act_17 ?_
  refine lv_istore (lv' := [(5, .int ((p1 >>> ((6 : Int32) &&& 31)) &&& 3)), (4, .int ((p1 >>> ((4 : Int32) &&& 31)) &&& 3)), (3, .int (p1 &&& 15)), (0, .ref (A 34)), (1, .int p0), (2, .int p1)]) G.1 G.2.1 dX3_act_18 hl (by decide) rfl (fun ls hl => ?_)
  refine lv_iload_n G.1 G.2.1 dX3_act_20 rfl (lv_at hl 5 rfl) ?_
  refine lv_bipush (v := 8) G.1 G.2.1 dX3_act_21 (by decide) ?_
  refine lv_ishr G.1 G.2.1 dX3_act_23 ?_
  refine lv_istore (lv' := [(6, .int (p1 >>> ((8 : Int32) &&& 31))), (5, .int ((p1 >>> ((6 : Int32) &&& 31)) &&& 3)), (4, .int ((p1 >>> ((4 : Int32) &&& 31)) &&& 3)), (3, .int (p1 &&& 15)), (0, .ref (A 34)), (1, .int p0), (2, .int p1)]) G.1 G.2.1 dX3_act_24 hl (by decide) rfl (fun ls hl => ?_)
  refine lv_aload_n G.1 G.2.1 dX3_act_26 rfl (lv_at hl 4 rfl) ?_
  refine k3_getr G hP 7 41 (by decide) (fun _ _ => rfl) kq_516 rfl dX3_act_27 ?_
  refine lv_iconst (v := 4) G.1 G.2.1 dX3_act_30 (by decide) ?_
  refine lv_iload_n G.1 G.2.1 dX3_act_31 rfl (lv_at hl 5 rfl) ?_
  refine lv_imul G.1 G.2.1 dX3_act_32 ?_
  refine lv_iload G.1 G.2.1 dX3_act_33 (lv_at hl 2 rfl) ?_
  refine lv_iadd G.1 G.2.1 dX3_act_35 ?_
  refine kM_ald (r := 41) G hP kI_41 (by decide) (kin4 hp (kin_and3 _)) dX3_act_36 ?_
  refine lv_istore (lv' := [(7, .int (mu 41 (((4 : Int32) * p0) + ((p1 >>> ((4 : Int32) &&& 31)) &&& 3)).toNatClampNeg)), (6, .int (p1 >>> ((8 : Int32) &&& 31))), (5, .int ((p1 >>> ((6 : Int32) &&& 31)) &&& 3)), (4, .int ((p1 >>> ((4 : Int32) &&& 31)) &&& 3)), (3, .int (p1 &&& 15)), (0, .ref (A 34)), (1, .int p0), (2, .int p1)]) G.1 G.2.1 dX3_act_37 hl (by decide) rfl (fun ls hl => ?_)
  refine lv_aload_n G.1 G.2.1 dX3_act_39 rfl (lv_at hl 5 rfl) ?_
  refine k3_getr G hP 7 41 (by decide) (fun _ _ => rfl) kq_516 rfl dX3_act_40 ?_
  refine lv_iconst (v := 4) G.1 G.2.1 dX3_act_43 (by decide) ?_
  refine lv_iload_n G.1 G.2.1 dX3_act_44 rfl (lv_at hl 6 rfl) ?_
  refine lv_imul G.1 G.2.1 dX3_act_45 ?_
  refine lv_iload G.1 G.2.1 dX3_act_46 (lv_at hl 2 rfl) ?_
  refine lv_iadd G.1 G.2.1 dX3_act_48 ?_
  refine kM_ald (r := 41) G hP kI_41 (by decide) (kin4 hp (kin_and3 _)) dX3_act_49 ?_
  refine lv_istore (lv' := [(8, .int (mu 41 (((4 : Int32) * p0) + ((p1 >>> ((6 : Int32) &&& 31)) &&& 3)).toNatClampNeg)), (7, .int (mu 41 (((4 : Int32) * p0) + ((p1 >>> ((4 : Int32) &&& 31)) &&& 3)).toNatClampNeg)), (6, .int (p1 >>> ((8 : Int32) &&& 31))), (5, .int ((p1 >>> ((6 : Int32) &&& 31)) &&& 3)), (4, .int ((p1 >>> ((4 : Int32) &&& 31)) &&& 3)), (3, .int (p1 &&& 15)), (0, .ref (A 34)), (1, .int p0), (2, .int p1)]) G.1 G.2.1 dX3_act_50 hl (by decide) rfl (fun ls hl => ?_)
  refine lv_aload_n G.1 G.2.1 dX3_act_52 rfl (lv_at hl 6 rfl) ?_
  refine k3_getr G hP 6 40 (by decide) (fun _ _ => rfl) kq_515 rfl dX3_act_53 ?_
  refine lv_iload_n G.1 G.2.1 dX3_act_56 rfl (lv_at hl 7 rfl) ?_
  refine kM_ald (r := 40) G hP kI_40 (by decide) hp dX3_act_57 ?_
  refine lv_iconst (v := 1) G.1 G.2.1 dX3_act_58 (by decide) ?_
  refine lv_iadd G.1 G.2.1 dX3_act_59 ?_
  refine lv_istore (lv' := [(9, .int ((mu 40 p0.toNatClampNeg) + 1)), (8, .int (mu 41 (((4 : Int32) * p0) + ((p1 >>> ((6 : Int32) &&& 31)) &&& 3)).toNatClampNeg)), (7, .int (mu 41 (((4 : Int32) * p0) + ((p1 >>> ((4 : Int32) &&& 31)) &&& 3)).toNatClampNeg)), (6, .int (p1 >>> ((8 : Int32) &&& 31))), (5, .int ((p1 >>> ((6 : Int32) &&& 31)) &&& 3)), (4, .int ((p1 >>> ((4 : Int32) &&& 31)) &&& 3)), (3, .int (p1 &&& 15)), (0, .ref (A 34)), (1, .int p0), (2, .int p1)]) G.1 G.2.1 dX3_act_60 hl (by decide) rfl (fun ls hl => ?_)
  refine lv_iload G.1 G.2.1 dX3_act_62 (lv_at hl 1 rfl) ?_
  refine lv_iload G.1 G.2.1 dX3_act_64 (lv_at hl 3 rfl) ?_
  refine lv_iadd G.1 G.2.1 dX3_act_66 ?_
  refine lv_istore (lv' := [(10, .int ((mu 41 (((4 : Int32) * p0) + ((p1 >>> ((6 : Int32) &&& 31)) &&& 3)).toNatClampNeg) + (p1 >>> ((8 : Int32) &&& 31)))), (9, .int ((mu 40 p0.toNatClampNeg) + 1)), (8, .int (mu 41 (((4 : Int32) * p0) + ((p1 >>> ((6 : Int32) &&& 31)) &&& 3)).toNatClampNeg)), (7, .int (mu 41 (((4 : Int32) * p0) + ((p1 >>> ((4 : Int32) &&& 31)) &&& 3)).toNatClampNeg)), (6, .int (p1 >>> ((8 : Int32) &&& 31))), (5, .int ((p1 >>> ((6 : Int32) &&& 31)) &&& 3)), (4, .int ((p1 >>> ((4 : Int32) &&& 31)) &&& 3)), (3, .int (p1 &&& 15)), (0, .ref (A 34)), (1, .int p0), (2, .int p1)]) G.1 G.2.1 dX3_act_67 hl (by decide) rfl (fun ls hl => ?_)
  refine lv_iload_n G.1 G.2.1 dX3_act_69 rfl (lv_at hl 7 rfl) ?_
  refine lv_if_ne (tgt := 83) G.1 G.2.1 dX3_act_70 (by decide) (fun c_70 => ?_) (fun c_70 => ?_)
  · refine lv_iload_n G.1 G.2.1 dX3_act_83 rfl (lv_at hl 7 rfl) ?_
    refine lv_bipush (v := 6) G.1 G.2.1 dX3_act_84 (by decide) ?_
    refine lv_icmp_ge (tgt := 161) G.1 G.2.1 dX3_act_86 (by decide) (fun c_86 => ?_) (fun c_86 => ?_)
    · refine lv_iload_n G.1 G.2.1 dX3_act_161 rfl (lv_at hl 7 rfl) ?_
      refine lv_bipush (v := 8) G.1 G.2.1 dX3_act_162 (by decide) ?_
      refine lv_icmp_ge (tgt := 238) G.1 G.2.1 dX3_act_164 (by decide) (fun c_164 => ?_) (fun c_164 => ?_)
      · refine lv_iload_n G.1 G.2.1 dX3_act_238 rfl (lv_at hl 7 rfl) ?_
        refine lv_bipush (v := 11) G.1 G.2.1 dX3_act_239 (by decide) ?_
        refine lv_icmp_ge (tgt := 299) G.1 G.2.1 dX3_act_241 (by decide) (fun c_241 => ?_) (fun c_241 => ?_)
        · refine lv_iload_n G.1 G.2.1 dX3_act_299 rfl (lv_at hl 7 rfl) ?_
          refine lv_bipush (v := 11) G.1 G.2.1 dX3_act_300 (by decide) ?_
          refine lv_icmp_ne (tgt := 319) G.1 G.2.1 dX3_act_302 (by decide) (fun c_302 => ?_) (fun c_302 => ?_)
          · refine lv_iload_n G.1 G.2.1 dX3_act_319 rfl (lv_at hl 7 rfl) ?_
            refine lv_bipush (v := 12) G.1 G.2.1 dX3_act_320 (by decide) ?_
            refine lv_icmp_ne (tgt := 339) G.1 G.2.1 dX3_act_322 (by decide) (fun c_322 => ?_) (fun c_322 => ?_)
            · refine lv_iload_n G.1 G.2.1 dX3_act_339 rfl (lv_at hl 7 rfl) ?_
              refine lv_bipush (v := 13) G.1 G.2.1 dX3_act_340 (by decide) ?_
              refine lv_icmp_ne (tgt := 353) G.1 G.2.1 dX3_act_342 (by decide) (fun c_342 => ?_) (fun c_342 => ?_)
              · refine lv_iload_n G.1 G.2.1 dX3_act_353 rfl (lv_at hl 7 rfl) ?_
                refine lv_bipush (v := 14) G.1 G.2.1 dX3_act_354 (by decide) ?_
                refine lv_icmp_ne (tgt := 379) G.1 G.2.1 dX3_act_356 (by decide) (fun c_356 => ?_) (fun c_356 => ?_)
                · refine lv_aload_n G.1 G.2.1 dX3_act_379 rfl (lv_at hl 8 rfl) ?_
                  refine lv_iconst (v := 4) G.1 G.2.1 dX3_act_380 (by decide) ?_
                  refine k3_puti G hP hS 29 (by unfold k3i; decide) (by decide) kq_538 rfl rfl rfl rfl dX3_act_381 (fun H locs hP hS => ?_)
                  refine lv_aload_n G.1 G.2.1 dX3_act_384 rfl (lv_at hl 8 rfl) ?_
                  refine k3_getr G hP 6 40 (by decide) (fun _ _ => rfl) kq_515 rfl dX3_act_385 ?_
                  refine lv_iload_n G.1 G.2.1 dX3_act_388 rfl (lv_at hl 9 rfl) ?_
                  refine lv_aload_n G.1 G.2.1 dX3_act_389 rfl (lv_at hl 8 rfl) ?_
                  refine k3_getw (v := 4) G hP 29 (by unfold k3i; decide) (by decide) kq_538 rfl (by rw [kup_at]) dX3_act_390 ?_
                  refine lv_if_le (tgt := 405) G.1 G.2.1 dX3_act_393 (by decide) (fun c => absurd c (by decide)) (fun _ => ?_)
                  refine lv_aload_n G.1 G.2.1 dX3_act_396 rfl (lv_at hl 8 rfl) ?_
                  refine k3_getr G hP 6 40 (by decide) (fun _ _ => rfl) kq_515 rfl dX3_act_397 ?_
                  refine lv_iload_n G.1 G.2.1 dX3_act_400 rfl (lv_at hl 9 rfl) ?_
                  refine kM_ald (r := 40) G hP kI_40 (by decide) hp dX3_act_401 ?_
                  refine lv_goto (tgt := 407) G.1 G.2.1 dX3_act_402 (by decide) ?_
                  refine kM_ast (r := 40) G hP hS kI_40 (by decide) hp dX3_act_407 (fun H locs hP hS => ?_)
                  exact k_vret G hr hlocks hP hS rfl (by rw [f_X3_act, if_neg c_70, if_pos c_86, if_pos c_164, if_pos c_241, if_neg c_302, if_neg c_322, if_neg c_342, if_neg c_356]) rfl dX3_act_408
                · refine lv_aload_n G.1 G.2.1 dX3_act_359 rfl (lv_at hl 8 rfl) ?_
                  refine k3_getr G hP 7 41 (by decide) (fun _ _ => rfl) kq_516 rfl dX3_act_360 ?_
                  refine lv_iconst (v := 4) G.1 G.2.1 dX3_act_363 (by decide) ?_
                  refine lv_iload_n G.1 G.2.1 dX3_act_364 rfl (lv_at hl 9 rfl) ?_
                  refine lv_imul G.1 G.2.1 dX3_act_365 ?_
                  refine lv_iload G.1 G.2.1 dX3_act_366 (lv_at hl 6 rfl) ?_
                  refine lv_iadd G.1 G.2.1 dX3_act_368 ?_
                  refine lv_aload_n G.1 G.2.1 dX3_act_369 rfl (lv_at hl 8 rfl) ?_
                  refine k3_getr G hP 8 42 (by decide) (fun _ _ => rfl) kq_517 rfl dX3_act_370 ?_
                  refine lv_iload_n G.1 G.2.1 dX3_act_373 rfl (lv_at hl 9 rfl) ?_
                  refine kM_ald (r := 42) G hP kI_42 (by decide) hp dX3_act_374 ?_
                  refine kM_ast (r := 41) G hP hS kI_41 (by decide) (kin4 hp (kin_and3 _)) dX3_act_375 (fun H locs hP hS => ?_)
                  refine lv_goto (tgt := 384) G.1 G.2.1 dX3_act_376 (by decide) ?_
                  refine lv_aload_n G.1 G.2.1 dX3_act_384 rfl (lv_at hl 8 rfl) ?_
                  refine k3_getr G hP 6 40 (by decide) (fun _ _ => rfl) kq_515 rfl dX3_act_385 ?_
                  refine lv_iload_n G.1 G.2.1 dX3_act_388 rfl (lv_at hl 9 rfl) ?_
                  refine lv_aload_n G.1 G.2.1 dX3_act_389 rfl (lv_at hl 8 rfl) ?_
                  refine k3_geti G hP 29 (by unfold k3i; decide) (by decide) kq_538 rfl dX3_act_390 ?_
                  refine lv_if_le (tgt := 405) G.1 G.2.1 dX3_act_393 (by decide) (fun c_393 => ?_) (fun c_393 => ?_)
                  · refine lv_iload G.1 G.2.1 dX3_act_405 (lv_at hl 1 rfl) ?_
                    refine kM_ast (r := 40) G hP hS kI_40 (by decide) hp dX3_act_407 (fun H locs hP hS => ?_)
                    exact k_vret G hr hlocks hP hS rfl (by rw [f_X3_act, if_neg c_70, if_pos c_86, if_pos c_164, if_pos c_241, if_neg c_302, if_neg c_322, if_neg c_342, if_pos c_356, if_pos c_393]) rfl dX3_act_408
                  · refine lv_aload_n G.1 G.2.1 dX3_act_396 rfl (lv_at hl 8 rfl) ?_
                    refine k3_getr G hP 6 40 (by decide) (fun _ _ => rfl) kq_515 rfl dX3_act_397 ?_
                    refine lv_iload_n G.1 G.2.1 dX3_act_400 rfl (lv_at hl 9 rfl) ?_
                    refine kM_ald (r := 40) G hP kI_40 (by decide) hp dX3_act_401 ?_
                    refine lv_goto (tgt := 407) G.1 G.2.1 dX3_act_402 (by decide) ?_
                    refine kM_ast (r := 40) G hP hS kI_40 (by decide) hp dX3_act_407 (fun H locs hP hS => ?_)
                    exact k_vret G hr hlocks hP hS rfl (by rw [f_X3_act, if_neg c_70, if_pos c_86, if_pos c_164, if_pos c_241, if_neg c_302, if_neg c_322, if_neg c_342, if_pos c_356, if_neg c_393]) rfl dX3_act_408
              · refine lv_aload_n G.1 G.2.1 dX3_act_345 rfl (lv_at hl 8 rfl) ?_
                refine lv_iconst (v := 1) G.1 G.2.1 dX3_act_346 (by decide) ?_
                refine k3_puti G hP hS 27 (by unfold k3i; decide) (by decide) kq_536 rfl rfl (by decide) (by decide) dX3_act_347 (fun H locs hP hS => ?_)
                refine lv_goto (tgt := 384) G.1 G.2.1 dX3_act_350 (by decide) ?_
                refine lv_aload_n G.1 G.2.1 dX3_act_384 rfl (lv_at hl 8 rfl) ?_
                refine k3_getr G hP 6 40 (by decide) (fun _ _ => rfl) kq_515 rfl dX3_act_385 ?_
                refine lv_iload_n G.1 G.2.1 dX3_act_388 rfl (lv_at hl 9 rfl) ?_
                refine lv_aload_n G.1 G.2.1 dX3_act_389 rfl (lv_at hl 8 rfl) ?_
                refine k3_geti G hP 29 (by unfold k3i; decide) (by decide) kq_538 rfl dX3_act_390 ?_
                refine lv_if_le (tgt := 405) G.1 G.2.1 dX3_act_393 (by decide) (fun c_393 => ?_) (fun c_393 => ?_)
                · refine lv_iload G.1 G.2.1 dX3_act_405 (lv_at hl 1 rfl) ?_
                  refine kM_ast (r := 40) G hP hS kI_40 (by decide) hp dX3_act_407 (fun H locs hP hS => ?_)
                  exact k_vret G hr hlocks hP hS rfl (by rw [f_X3_act, if_neg c_70, if_pos c_86, if_pos c_164, if_pos c_241, if_neg c_302, if_neg c_322, if_pos c_342, if_pos c_393]) rfl dX3_act_408
                · refine lv_aload_n G.1 G.2.1 dX3_act_396 rfl (lv_at hl 8 rfl) ?_
                  refine k3_getr G hP 6 40 (by decide) (fun _ _ => rfl) kq_515 rfl dX3_act_397 ?_
                  refine lv_iload_n G.1 G.2.1 dX3_act_400 rfl (lv_at hl 9 rfl) ?_
                  refine kM_ald (r := 40) G hP kI_40 (by decide) hp dX3_act_401 ?_
                  refine lv_goto (tgt := 407) G.1 G.2.1 dX3_act_402 (by decide) ?_
                  refine kM_ast (r := 40) G hP hS kI_40 (by decide) hp dX3_act_407 (fun H locs hP hS => ?_)
                  exact k_vret G hr hlocks hP hS rfl (by rw [f_X3_act, if_neg c_70, if_pos c_86, if_pos c_164, if_pos c_241, if_neg c_302, if_neg c_322, if_pos c_342, if_neg c_393]) rfl dX3_act_408
            · refine lv_aload_n G.1 G.2.1 dX3_act_325 rfl (lv_at hl 8 rfl) ?_
              refine lv_iload_n G.1 G.2.1 dX3_act_326 rfl (lv_at hl 9 rfl) ?_
              refine lv_iload G.1 G.2.1 dX3_act_327 (lv_at hl 6 rfl) ?_
              refine lv_iload G.1 G.2.1 dX3_act_329 (lv_at hl 5 rfl) ?_
              refine lv_iload G.1 G.2.1 dX3_act_331 (lv_at hl 4 rfl) ?_
              refine k_Vv (As := [.int p0, .int ((p1 >>> ((4 : Int32) &&& 31)) &&& 3), .int ((p1 >>> ((6 : Int32) &&& 31)) &&& 3), .int (p1 >>> ((8 : Int32) &&& 31))]) (rest := []) G hP hS hl.1 kl_X3_109 yk_X3_take (c_X3_take l D A C _ _ _ _ G.2.2.2.2.2.2 p0 ((p1 >>> ((4 : Int32) &&& 31)) &&& 3) ((p1 >>> ((6 : Int32) &&& 31)) &&& 3) (p1 >>> ((8 : Int32) &&& 31)) hp (kin_and3 _) (kin_and3 _) hC) (kr3 G hP) (by decide) (by decide) rfl (Nat.le_of_ble_eq_true rfl) dX3_act_333 (fun H locs hP hS => ?_)
              refine lv_goto (tgt := 384) G.1 G.2.1 dX3_act_336 (by decide) ?_
              refine lv_aload_n G.1 G.2.1 dX3_act_384 rfl (lv_at hl 8 rfl) ?_
              refine k3_getr G hP 6 40 (by decide) (fun _ _ => rfl) kq_515 rfl dX3_act_385 ?_
              refine lv_iload_n G.1 G.2.1 dX3_act_388 rfl (lv_at hl 9 rfl) ?_
              refine lv_aload_n G.1 G.2.1 dX3_act_389 rfl (lv_at hl 8 rfl) ?_
              refine k3_geti G hP 29 (by unfold k3i; decide) (by decide) kq_538 rfl dX3_act_390 ?_
              refine lv_if_le (tgt := 405) G.1 G.2.1 dX3_act_393 (by decide) (fun c_393 => ?_) (fun c_393 => ?_)
              · refine lv_iload G.1 G.2.1 dX3_act_405 (lv_at hl 1 rfl) ?_
                refine kM_ast (r := 40) G hP hS kI_40 (by decide) hp dX3_act_407 (fun H locs hP hS => ?_)
                exact k_vret G hr hlocks hP hS rfl (by rw [f_X3_act, if_neg c_70, if_pos c_86, if_pos c_164, if_pos c_241, if_neg c_302, if_pos c_322, if_pos c_393]) rfl dX3_act_408
              · refine lv_aload_n G.1 G.2.1 dX3_act_396 rfl (lv_at hl 8 rfl) ?_
                refine k3_getr G hP 6 40 (by decide) (fun _ _ => rfl) kq_515 rfl dX3_act_397 ?_
                refine lv_iload_n G.1 G.2.1 dX3_act_400 rfl (lv_at hl 9 rfl) ?_
                refine kM_ald (r := 40) G hP kI_40 (by decide) hp dX3_act_401 ?_
                refine lv_goto (tgt := 407) G.1 G.2.1 dX3_act_402 (by decide) ?_
                refine kM_ast (r := 40) G hP hS kI_40 (by decide) hp dX3_act_407 (fun H locs hP hS => ?_)
                exact k_vret G hr hlocks hP hS rfl (by rw [f_X3_act, if_neg c_70, if_pos c_86, if_pos c_164, if_pos c_241, if_neg c_302, if_pos c_322, if_neg c_393]) rfl dX3_act_408
          · refine lv_aload_n G.1 G.2.1 dX3_act_305 rfl (lv_at hl 8 rfl) ?_
            refine lv_iload_n G.1 G.2.1 dX3_act_306 rfl (lv_at hl 9 rfl) ?_
            refine lv_iload G.1 G.2.1 dX3_act_307 (lv_at hl 6 rfl) ?_
            refine lv_iload G.1 G.2.1 dX3_act_309 (lv_at hl 5 rfl) ?_
            refine lv_iload G.1 G.2.1 dX3_act_311 (lv_at hl 4 rfl) ?_
            refine k_Vv (As := [.int p0, .int ((p1 >>> ((4 : Int32) &&& 31)) &&& 3), .int ((p1 >>> ((6 : Int32) &&& 31)) &&& 3), .int (p1 >>> ((8 : Int32) &&& 31))]) (rest := []) G hP hS hl.1 kl_X3_105 yk_X3_send (c_X3_send l D A C _ _ _ _ G.2.2.2.2.2.2 p0 ((p1 >>> ((4 : Int32) &&& 31)) &&& 3) ((p1 >>> ((6 : Int32) &&& 31)) &&& 3) (p1 >>> ((8 : Int32) &&& 31)) hp (kin_and3 _) (kin_and3 _) hC) (kr3 G hP) (by decide) (by decide) rfl (Nat.le_of_ble_eq_true rfl) dX3_act_313 (fun H locs hP hS => ?_)
            refine lv_goto (tgt := 384) G.1 G.2.1 dX3_act_316 (by decide) ?_
            refine lv_aload_n G.1 G.2.1 dX3_act_384 rfl (lv_at hl 8 rfl) ?_
            refine k3_getr G hP 6 40 (by decide) (fun _ _ => rfl) kq_515 rfl dX3_act_385 ?_
            refine lv_iload_n G.1 G.2.1 dX3_act_388 rfl (lv_at hl 9 rfl) ?_
            refine lv_aload_n G.1 G.2.1 dX3_act_389 rfl (lv_at hl 8 rfl) ?_
            refine k3_geti G hP 29 (by unfold k3i; decide) (by decide) kq_538 rfl dX3_act_390 ?_
            refine lv_if_le (tgt := 405) G.1 G.2.1 dX3_act_393 (by decide) (fun c_393 => ?_) (fun c_393 => ?_)
            · refine lv_iload G.1 G.2.1 dX3_act_405 (lv_at hl 1 rfl) ?_
              refine kM_ast (r := 40) G hP hS kI_40 (by decide) hp dX3_act_407 (fun H locs hP hS => ?_)
              exact k_vret G hr hlocks hP hS rfl (by rw [f_X3_act, if_neg c_70, if_pos c_86, if_pos c_164, if_pos c_241, if_pos c_302, if_pos c_393]) rfl dX3_act_408
            · refine lv_aload_n G.1 G.2.1 dX3_act_396 rfl (lv_at hl 8 rfl) ?_
              refine k3_getr G hP 6 40 (by decide) (fun _ _ => rfl) kq_515 rfl dX3_act_397 ?_
              refine lv_iload_n G.1 G.2.1 dX3_act_400 rfl (lv_at hl 9 rfl) ?_
              refine kM_ald (r := 40) G hP kI_40 (by decide) hp dX3_act_401 ?_
              refine lv_goto (tgt := 407) G.1 G.2.1 dX3_act_402 (by decide) ?_
              refine kM_ast (r := 40) G hP hS kI_40 (by decide) hp dX3_act_407 (fun H locs hP hS => ?_)
              exact k_vret G hr hlocks hP hS rfl (by rw [f_X3_act, if_neg c_70, if_pos c_86, if_pos c_164, if_pos c_241, if_pos c_302, if_neg c_393]) rfl dX3_act_408
        · refine lv_iload_n G.1 G.2.1 dX3_act_244 rfl (lv_at hl 7 rfl) ?_
          refine lv_bipush (v := 8) G.1 G.2.1 dX3_act_245 (by decide) ?_
          refine lv_icmp_ne (tgt := 268) G.1 G.2.1 dX3_act_247 (by decide) (fun c_247 => ?_) (fun c_247 => ?_)
          · refine lv_iload_n G.1 G.2.1 dX3_act_268 rfl (lv_at hl 7 rfl) ?_
            refine lv_bipush (v := 9) G.1 G.2.1 dX3_act_269 (by decide) ?_
            refine lv_icmp_ne (tgt := 292) G.1 G.2.1 dX3_act_271 (by decide) (fun c_271 => ?_) (fun c_271 => ?_)
            · refine lv_iload G.1 G.2.1 dX3_act_292 (lv_at hl 3 rfl) ?_
              refine lv_istore (lv' := [(9, .int (mu 41 (((4 : Int32) * p0) + ((p1 >>> ((4 : Int32) &&& 31)) &&& 3)).toNatClampNeg)), (10, .int ((mu 41 (((4 : Int32) * p0) + ((p1 >>> ((6 : Int32) &&& 31)) &&& 3)).toNatClampNeg) + (p1 >>> ((8 : Int32) &&& 31)))), (8, .int (mu 41 (((4 : Int32) * p0) + ((p1 >>> ((6 : Int32) &&& 31)) &&& 3)).toNatClampNeg)), (7, .int (mu 41 (((4 : Int32) * p0) + ((p1 >>> ((4 : Int32) &&& 31)) &&& 3)).toNatClampNeg)), (6, .int (p1 >>> ((8 : Int32) &&& 31))), (5, .int ((p1 >>> ((6 : Int32) &&& 31)) &&& 3)), (4, .int ((p1 >>> ((4 : Int32) &&& 31)) &&& 3)), (3, .int (p1 &&& 15)), (0, .ref (A 34)), (1, .int p0), (2, .int p1)]) G.1 G.2.1 dX3_act_294 hl (by decide) rfl (fun ls hl => ?_)
              refine lv_goto (tgt := 384) G.1 G.2.1 dX3_act_296 (by decide) ?_
              refine lv_aload_n G.1 G.2.1 dX3_act_384 rfl (lv_at hl 8 rfl) ?_
              refine k3_getr G hP 6 40 (by decide) (fun _ _ => rfl) kq_515 rfl dX3_act_385 ?_
              refine lv_iload_n G.1 G.2.1 dX3_act_388 rfl (lv_at hl 9 rfl) ?_
              refine lv_aload_n G.1 G.2.1 dX3_act_389 rfl (lv_at hl 8 rfl) ?_
              refine k3_geti G hP 29 (by unfold k3i; decide) (by decide) kq_538 rfl dX3_act_390 ?_
              refine lv_if_le (tgt := 405) G.1 G.2.1 dX3_act_393 (by decide) (fun c_393 => ?_) (fun c_393 => ?_)
              · refine lv_iload G.1 G.2.1 dX3_act_405 (lv_at hl 0 rfl) ?_
                refine kM_ast (r := 40) G hP hS kI_40 (by decide) hp dX3_act_407 (fun H locs hP hS => ?_)
                exact k_vret G hr hlocks hP hS rfl (by rw [f_X3_act, if_neg c_70, if_pos c_86, if_pos c_164, if_neg c_241, if_neg c_247, if_neg c_271, if_pos c_393]) rfl dX3_act_408
              · refine lv_aload_n G.1 G.2.1 dX3_act_396 rfl (lv_at hl 8 rfl) ?_
                refine k3_getr G hP 6 40 (by decide) (fun _ _ => rfl) kq_515 rfl dX3_act_397 ?_
                refine lv_iload_n G.1 G.2.1 dX3_act_400 rfl (lv_at hl 9 rfl) ?_
                refine kM_ald (r := 40) G hP kI_40 (by decide) hp dX3_act_401 ?_
                refine lv_goto (tgt := 407) G.1 G.2.1 dX3_act_402 (by decide) ?_
                refine kM_ast (r := 40) G hP hS kI_40 (by decide) hp dX3_act_407 (fun H locs hP hS => ?_)
                exact k_vret G hr hlocks hP hS rfl (by rw [f_X3_act, if_neg c_70, if_pos c_86, if_pos c_164, if_neg c_241, if_neg c_247, if_neg c_271, if_neg c_393]) rfl dX3_act_408
            · refine lv_iload G.1 G.2.1 dX3_act_274 (lv_at hl 3 rfl) ?_
              refine lv_if_ge (tgt := 287) G.1 G.2.1 dX3_act_276 (by decide) (fun c_276 => ?_) (fun c_276 => ?_)
              · refine lv_iload G.1 G.2.1 dX3_act_287 (lv_at hl 1 rfl) ?_
                refine lv_goto (tgt := 294) G.1 G.2.1 dX3_act_289 (by decide) ?_
                refine lv_istore (lv' := [(9, .int ((mu 40 p0.toNatClampNeg) + 1)), (10, .int ((mu 41 (((4 : Int32) * p0) + ((p1 >>> ((6 : Int32) &&& 31)) &&& 3)).toNatClampNeg) + (p1 >>> ((8 : Int32) &&& 31)))), (8, .int (mu 41 (((4 : Int32) * p0) + ((p1 >>> ((6 : Int32) &&& 31)) &&& 3)).toNatClampNeg)), (7, .int (mu 41 (((4 : Int32) * p0) + ((p1 >>> ((4 : Int32) &&& 31)) &&& 3)).toNatClampNeg)), (6, .int (p1 >>> ((8 : Int32) &&& 31))), (5, .int ((p1 >>> ((6 : Int32) &&& 31)) &&& 3)), (4, .int ((p1 >>> ((4 : Int32) &&& 31)) &&& 3)), (3, .int (p1 &&& 15)), (0, .ref (A 34)), (1, .int p0), (2, .int p1)]) G.1 G.2.1 dX3_act_294 hl (by decide) rfl (fun ls hl => ?_)
                refine lv_goto (tgt := 384) G.1 G.2.1 dX3_act_296 (by decide) ?_
                refine lv_aload_n G.1 G.2.1 dX3_act_384 rfl (lv_at hl 8 rfl) ?_
                refine k3_getr G hP 6 40 (by decide) (fun _ _ => rfl) kq_515 rfl dX3_act_385 ?_
                refine lv_iload_n G.1 G.2.1 dX3_act_388 rfl (lv_at hl 9 rfl) ?_
                refine lv_aload_n G.1 G.2.1 dX3_act_389 rfl (lv_at hl 8 rfl) ?_
                refine k3_geti G hP 29 (by unfold k3i; decide) (by decide) kq_538 rfl dX3_act_390 ?_
                refine lv_if_le (tgt := 405) G.1 G.2.1 dX3_act_393 (by decide) (fun c_393 => ?_) (fun c_393 => ?_)
                · refine lv_iload G.1 G.2.1 dX3_act_405 (lv_at hl 0 rfl) ?_
                  refine kM_ast (r := 40) G hP hS kI_40 (by decide) hp dX3_act_407 (fun H locs hP hS => ?_)
                  exact k_vret G hr hlocks hP hS rfl (by rw [f_X3_act, if_neg c_70, if_pos c_86, if_pos c_164, if_neg c_241, if_neg c_247, if_pos c_271, if_pos c_276, if_pos c_393]) rfl dX3_act_408
                · refine lv_aload_n G.1 G.2.1 dX3_act_396 rfl (lv_at hl 8 rfl) ?_
                  refine k3_getr G hP 6 40 (by decide) (fun _ _ => rfl) kq_515 rfl dX3_act_397 ?_
                  refine lv_iload_n G.1 G.2.1 dX3_act_400 rfl (lv_at hl 9 rfl) ?_
                  refine kM_ald (r := 40) G hP kI_40 (by decide) hp dX3_act_401 ?_
                  refine lv_goto (tgt := 407) G.1 G.2.1 dX3_act_402 (by decide) ?_
                  refine kM_ast (r := 40) G hP hS kI_40 (by decide) hp dX3_act_407 (fun H locs hP hS => ?_)
                  exact k_vret G hr hlocks hP hS rfl (by rw [f_X3_act, if_neg c_70, if_pos c_86, if_pos c_164, if_neg c_241, if_neg c_247, if_pos c_271, if_pos c_276, if_neg c_393]) rfl dX3_act_408
              · refine lv_iload G.1 G.2.1 dX3_act_279 (lv_at hl 1 rfl) ?_
                refine lv_iload G.1 G.2.1 dX3_act_281 (lv_at hl 4 rfl) ?_
                refine lv_iadd G.1 G.2.1 dX3_act_283 ?_
                refine lv_goto (tgt := 294) G.1 G.2.1 dX3_act_284 (by decide) ?_
                refine lv_istore (lv' := [(9, .int (((mu 40 p0.toNatClampNeg) + 1) + (p1 >>> ((8 : Int32) &&& 31)))), (10, .int ((mu 41 (((4 : Int32) * p0) + ((p1 >>> ((6 : Int32) &&& 31)) &&& 3)).toNatClampNeg) + (p1 >>> ((8 : Int32) &&& 31)))), (8, .int (mu 41 (((4 : Int32) * p0) + ((p1 >>> ((6 : Int32) &&& 31)) &&& 3)).toNatClampNeg)), (7, .int (mu 41 (((4 : Int32) * p0) + ((p1 >>> ((4 : Int32) &&& 31)) &&& 3)).toNatClampNeg)), (6, .int (p1 >>> ((8 : Int32) &&& 31))), (5, .int ((p1 >>> ((6 : Int32) &&& 31)) &&& 3)), (4, .int ((p1 >>> ((4 : Int32) &&& 31)) &&& 3)), (3, .int (p1 &&& 15)), (0, .ref (A 34)), (1, .int p0), (2, .int p1)]) G.1 G.2.1 dX3_act_294 hl (by decide) rfl (fun ls hl => ?_)
                refine lv_goto (tgt := 384) G.1 G.2.1 dX3_act_296 (by decide) ?_
                refine lv_aload_n G.1 G.2.1 dX3_act_384 rfl (lv_at hl 8 rfl) ?_
                refine k3_getr G hP 6 40 (by decide) (fun _ _ => rfl) kq_515 rfl dX3_act_385 ?_
                refine lv_iload_n G.1 G.2.1 dX3_act_388 rfl (lv_at hl 9 rfl) ?_
                refine lv_aload_n G.1 G.2.1 dX3_act_389 rfl (lv_at hl 8 rfl) ?_
                refine k3_geti G hP 29 (by unfold k3i; decide) (by decide) kq_538 rfl dX3_act_390 ?_
                refine lv_if_le (tgt := 405) G.1 G.2.1 dX3_act_393 (by decide) (fun c_393 => ?_) (fun c_393 => ?_)
                · refine lv_iload G.1 G.2.1 dX3_act_405 (lv_at hl 0 rfl) ?_
                  refine kM_ast (r := 40) G hP hS kI_40 (by decide) hp dX3_act_407 (fun H locs hP hS => ?_)
                  exact k_vret G hr hlocks hP hS rfl (by rw [f_X3_act, if_neg c_70, if_pos c_86, if_pos c_164, if_neg c_241, if_neg c_247, if_pos c_271, if_neg c_276, if_pos c_393]) rfl dX3_act_408
                · refine lv_aload_n G.1 G.2.1 dX3_act_396 rfl (lv_at hl 8 rfl) ?_
                  refine k3_getr G hP 6 40 (by decide) (fun _ _ => rfl) kq_515 rfl dX3_act_397 ?_
                  refine lv_iload_n G.1 G.2.1 dX3_act_400 rfl (lv_at hl 9 rfl) ?_
                  refine kM_ald (r := 40) G hP kI_40 (by decide) hp dX3_act_401 ?_
                  refine lv_goto (tgt := 407) G.1 G.2.1 dX3_act_402 (by decide) ?_
                  refine kM_ast (r := 40) G hP hS kI_40 (by decide) hp dX3_act_407 (fun H locs hP hS => ?_)
                  exact k_vret G hr hlocks hP hS rfl (by rw [f_X3_act, if_neg c_70, if_pos c_86, if_pos c_164, if_neg c_241, if_neg c_247, if_pos c_271, if_neg c_276, if_neg c_393]) rfl dX3_act_408
          · refine lv_iload G.1 G.2.1 dX3_act_250 (lv_at hl 3 rfl) ?_
            refine lv_if_ne (tgt := 263) G.1 G.2.1 dX3_act_252 (by decide) (fun c_252 => ?_) (fun c_252 => ?_)
            · refine lv_iload G.1 G.2.1 dX3_act_263 (lv_at hl 1 rfl) ?_
              refine lv_goto (tgt := 294) G.1 G.2.1 dX3_act_265 (by decide) ?_
              refine lv_istore (lv' := [(9, .int ((mu 40 p0.toNatClampNeg) + 1)), (10, .int ((mu 41 (((4 : Int32) * p0) + ((p1 >>> ((6 : Int32) &&& 31)) &&& 3)).toNatClampNeg) + (p1 >>> ((8 : Int32) &&& 31)))), (8, .int (mu 41 (((4 : Int32) * p0) + ((p1 >>> ((6 : Int32) &&& 31)) &&& 3)).toNatClampNeg)), (7, .int (mu 41 (((4 : Int32) * p0) + ((p1 >>> ((4 : Int32) &&& 31)) &&& 3)).toNatClampNeg)), (6, .int (p1 >>> ((8 : Int32) &&& 31))), (5, .int ((p1 >>> ((6 : Int32) &&& 31)) &&& 3)), (4, .int ((p1 >>> ((4 : Int32) &&& 31)) &&& 3)), (3, .int (p1 &&& 15)), (0, .ref (A 34)), (1, .int p0), (2, .int p1)]) G.1 G.2.1 dX3_act_294 hl (by decide) rfl (fun ls hl => ?_)
              refine lv_goto (tgt := 384) G.1 G.2.1 dX3_act_296 (by decide) ?_
              refine lv_aload_n G.1 G.2.1 dX3_act_384 rfl (lv_at hl 8 rfl) ?_
              refine k3_getr G hP 6 40 (by decide) (fun _ _ => rfl) kq_515 rfl dX3_act_385 ?_
              refine lv_iload_n G.1 G.2.1 dX3_act_388 rfl (lv_at hl 9 rfl) ?_
              refine lv_aload_n G.1 G.2.1 dX3_act_389 rfl (lv_at hl 8 rfl) ?_
              refine k3_geti G hP 29 (by unfold k3i; decide) (by decide) kq_538 rfl dX3_act_390 ?_
              refine lv_if_le (tgt := 405) G.1 G.2.1 dX3_act_393 (by decide) (fun c_393 => ?_) (fun c_393 => ?_)
              · refine lv_iload G.1 G.2.1 dX3_act_405 (lv_at hl 0 rfl) ?_
                refine kM_ast (r := 40) G hP hS kI_40 (by decide) hp dX3_act_407 (fun H locs hP hS => ?_)
                exact k_vret G hr hlocks hP hS rfl (by rw [f_X3_act, if_neg c_70, if_pos c_86, if_pos c_164, if_neg c_241, if_pos c_247, if_neg c_252, if_pos c_393]) rfl dX3_act_408
              · refine lv_aload_n G.1 G.2.1 dX3_act_396 rfl (lv_at hl 8 rfl) ?_
                refine k3_getr G hP 6 40 (by decide) (fun _ _ => rfl) kq_515 rfl dX3_act_397 ?_
                refine lv_iload_n G.1 G.2.1 dX3_act_400 rfl (lv_at hl 9 rfl) ?_
                refine kM_ald (r := 40) G hP kI_40 (by decide) hp dX3_act_401 ?_
                refine lv_goto (tgt := 407) G.1 G.2.1 dX3_act_402 (by decide) ?_
                refine kM_ast (r := 40) G hP hS kI_40 (by decide) hp dX3_act_407 (fun H locs hP hS => ?_)
                exact k_vret G hr hlocks hP hS rfl (by rw [f_X3_act, if_neg c_70, if_pos c_86, if_pos c_164, if_neg c_241, if_pos c_247, if_neg c_252, if_neg c_393]) rfl dX3_act_408
            · refine lv_iload G.1 G.2.1 dX3_act_255 (lv_at hl 1 rfl) ?_
              refine lv_iload G.1 G.2.1 dX3_act_257 (lv_at hl 4 rfl) ?_
              refine lv_iadd G.1 G.2.1 dX3_act_259 ?_
              refine lv_goto (tgt := 294) G.1 G.2.1 dX3_act_260 (by decide) ?_
              refine lv_istore (lv' := [(9, .int (((mu 40 p0.toNatClampNeg) + 1) + (p1 >>> ((8 : Int32) &&& 31)))), (10, .int ((mu 41 (((4 : Int32) * p0) + ((p1 >>> ((6 : Int32) &&& 31)) &&& 3)).toNatClampNeg) + (p1 >>> ((8 : Int32) &&& 31)))), (8, .int (mu 41 (((4 : Int32) * p0) + ((p1 >>> ((6 : Int32) &&& 31)) &&& 3)).toNatClampNeg)), (7, .int (mu 41 (((4 : Int32) * p0) + ((p1 >>> ((4 : Int32) &&& 31)) &&& 3)).toNatClampNeg)), (6, .int (p1 >>> ((8 : Int32) &&& 31))), (5, .int ((p1 >>> ((6 : Int32) &&& 31)) &&& 3)), (4, .int ((p1 >>> ((4 : Int32) &&& 31)) &&& 3)), (3, .int (p1 &&& 15)), (0, .ref (A 34)), (1, .int p0), (2, .int p1)]) G.1 G.2.1 dX3_act_294 hl (by decide) rfl (fun ls hl => ?_)
              refine lv_goto (tgt := 384) G.1 G.2.1 dX3_act_296 (by decide) ?_
              refine lv_aload_n G.1 G.2.1 dX3_act_384 rfl (lv_at hl 8 rfl) ?_
              refine k3_getr G hP 6 40 (by decide) (fun _ _ => rfl) kq_515 rfl dX3_act_385 ?_
              refine lv_iload_n G.1 G.2.1 dX3_act_388 rfl (lv_at hl 9 rfl) ?_
              refine lv_aload_n G.1 G.2.1 dX3_act_389 rfl (lv_at hl 8 rfl) ?_
              refine k3_geti G hP 29 (by unfold k3i; decide) (by decide) kq_538 rfl dX3_act_390 ?_
              refine lv_if_le (tgt := 405) G.1 G.2.1 dX3_act_393 (by decide) (fun c_393 => ?_) (fun c_393 => ?_)
              · refine lv_iload G.1 G.2.1 dX3_act_405 (lv_at hl 0 rfl) ?_
                refine kM_ast (r := 40) G hP hS kI_40 (by decide) hp dX3_act_407 (fun H locs hP hS => ?_)
                exact k_vret G hr hlocks hP hS rfl (by rw [f_X3_act, if_neg c_70, if_pos c_86, if_pos c_164, if_neg c_241, if_pos c_247, if_pos c_252, if_pos c_393]) rfl dX3_act_408
              · refine lv_aload_n G.1 G.2.1 dX3_act_396 rfl (lv_at hl 8 rfl) ?_
                refine k3_getr G hP 6 40 (by decide) (fun _ _ => rfl) kq_515 rfl dX3_act_397 ?_
                refine lv_iload_n G.1 G.2.1 dX3_act_400 rfl (lv_at hl 9 rfl) ?_
                refine kM_ald (r := 40) G hP kI_40 (by decide) hp dX3_act_401 ?_
                refine lv_goto (tgt := 407) G.1 G.2.1 dX3_act_402 (by decide) ?_
                refine kM_ast (r := 40) G hP hS kI_40 (by decide) hp dX3_act_407 (fun H locs hP hS => ?_)
                exact k_vret G hr hlocks hP hS rfl (by rw [f_X3_act, if_neg c_70, if_pos c_86, if_pos c_164, if_neg c_241, if_pos c_247, if_pos c_252, if_neg c_393]) rfl dX3_act_408
      · refine lv_aload_n G.1 G.2.1 dX3_act_167 rfl (lv_at hl 8 rfl) ?_
        refine lv_iload_n G.1 G.2.1 dX3_act_168 rfl (lv_at hl 9 rfl) ?_
        refine lv_iload G.1 G.2.1 dX3_act_169 (lv_at hl 0 rfl) ?_
        refine k_Vi (As := [.int p0, .int ((mu 41 (((4 : Int32) * p0) + ((p1 >>> ((6 : Int32) &&& 31)) &&& 3)).toNatClampNeg) + (p1 >>> ((8 : Int32) &&& 31)))]) (rest := []) G hP hS hl.1 kl_X3_96 yk_X3_noWord (c_X3_noWord l D A C _ _ _ _ G.2.2.2.2.2.2 p0 ((mu 41 (((4 : Int32) * p0) + ((p1 >>> ((6 : Int32) &&& 31)) &&& 3)).toNatClampNeg) + (p1 >>> ((8 : Int32) &&& 31))) hp) (kr3 G hP) (by decide) (by decide) rfl (Nat.le_of_ble_eq_true rfl) dX3_act_171 (fun H locs hP hS => ?_)
        refine lv_if_eq (tgt := 185) G.1 G.2.1 dX3_act_174 (by decide) (fun c_174 => ?_) (fun c_174 => ?_)
        · refine lv_iload_n G.1 G.2.1 dX3_act_185 rfl (lv_at hl 7 rfl) ?_
          refine lv_bipush (v := 6) G.1 G.2.1 dX3_act_186 (by decide) ?_
          refine lv_icmp_ne (tgt := 219) G.1 G.2.1 dX3_act_188 (by decide) (fun c_188 => ?_) (fun c_188 => ?_)
          · refine lv_aload_n G.1 G.2.1 dX3_act_219 rfl (lv_at hl 8 rfl) ?_
            refine k3_getr G hP 1 35 (by decide) (fun _ _ => rfl) kq_510 rfl dX3_act_220 ?_
            refine lv_aload_n G.1 G.2.1 dX3_act_223 rfl (lv_at hl 8 rfl) ?_
            refine k3_getr G hP 2 36 (by decide) (fun _ _ => rfl) kq_511 rfl dX3_act_224 ?_
            refine lv_iload_n G.1 G.2.1 dX3_act_227 rfl (lv_at hl 9 rfl) ?_
            refine kM_ald (r := 36) G hP kI_36 (by decide) hp dX3_act_228 ?_
            refine lv_iload G.1 G.2.1 dX3_act_229 (lv_at hl 0 rfl) ?_
            refine lv_iadd G.1 G.2.1 dX3_act_231 ?_
            refine lv_iload G.1 G.2.1 dX3_act_232 (lv_at hl 3 rfl) ?_
            refine kM_ast (r := 35) G hP hS kI_35 (by decide) (m_memB hB c_174) dX3_act_234 (fun H locs hP hS => ?_)
            refine lv_goto (tgt := 384) G.1 G.2.1 dX3_act_235 (by decide) ?_
            refine lv_aload_n G.1 G.2.1 dX3_act_384 rfl (lv_at hl 8 rfl) ?_
            refine k3_getr G hP 6 40 (by decide) (fun _ _ => rfl) kq_515 rfl dX3_act_385 ?_
            refine lv_iload_n G.1 G.2.1 dX3_act_388 rfl (lv_at hl 9 rfl) ?_
            refine lv_aload_n G.1 G.2.1 dX3_act_389 rfl (lv_at hl 8 rfl) ?_
            refine k3_geti G hP 29 (by unfold k3i; decide) (by decide) kq_538 rfl dX3_act_390 ?_
            refine lv_if_le (tgt := 405) G.1 G.2.1 dX3_act_393 (by decide) (fun c_393 => ?_) (fun c_393 => ?_)
            · refine lv_iload G.1 G.2.1 dX3_act_405 (lv_at hl 1 rfl) ?_
              refine kM_ast (r := 40) G hP hS kI_40 (by decide) hp dX3_act_407 (fun H locs hP hS => ?_)
              exact k_vret G hr hlocks hP hS rfl (by rw [f_X3_act, if_neg c_70, if_pos c_86, if_neg c_164, if_pos c_174, if_neg c_188, if_pos c_393]) rfl dX3_act_408
            · refine lv_aload_n G.1 G.2.1 dX3_act_396 rfl (lv_at hl 8 rfl) ?_
              refine k3_getr G hP 6 40 (by decide) (fun _ _ => rfl) kq_515 rfl dX3_act_397 ?_
              refine lv_iload_n G.1 G.2.1 dX3_act_400 rfl (lv_at hl 9 rfl) ?_
              refine kM_ald (r := 40) G hP kI_40 (by decide) hp dX3_act_401 ?_
              refine lv_goto (tgt := 407) G.1 G.2.1 dX3_act_402 (by decide) ?_
              refine kM_ast (r := 40) G hP hS kI_40 (by decide) hp dX3_act_407 (fun H locs hP hS => ?_)
              exact k_vret G hr hlocks hP hS rfl (by rw [f_X3_act, if_neg c_70, if_pos c_86, if_neg c_164, if_pos c_174, if_neg c_188, if_neg c_393]) rfl dX3_act_408
          · refine lv_aload_n G.1 G.2.1 dX3_act_191 rfl (lv_at hl 8 rfl) ?_
            refine k3_getr G hP 7 41 (by decide) (fun _ _ => rfl) kq_516 rfl dX3_act_192 ?_
            refine lv_iconst (v := 4) G.1 G.2.1 dX3_act_195 (by decide) ?_
            refine lv_iload_n G.1 G.2.1 dX3_act_196 rfl (lv_at hl 9 rfl) ?_
            refine lv_imul G.1 G.2.1 dX3_act_197 ?_
            refine lv_iload G.1 G.2.1 dX3_act_198 (lv_at hl 6 rfl) ?_
            refine lv_iadd G.1 G.2.1 dX3_act_200 ?_
            refine lv_aload_n G.1 G.2.1 dX3_act_201 rfl (lv_at hl 8 rfl) ?_
            refine k3_getr G hP 1 35 (by decide) (fun _ _ => rfl) kq_510 rfl dX3_act_202 ?_
            refine lv_aload_n G.1 G.2.1 dX3_act_205 rfl (lv_at hl 8 rfl) ?_
            refine k3_getr G hP 2 36 (by decide) (fun _ _ => rfl) kq_511 rfl dX3_act_206 ?_
            refine lv_iload_n G.1 G.2.1 dX3_act_209 rfl (lv_at hl 9 rfl) ?_
            refine kM_ald (r := 36) G hP kI_36 (by decide) hp dX3_act_210 ?_
            refine lv_iload G.1 G.2.1 dX3_act_211 (lv_at hl 0 rfl) ?_
            refine lv_iadd G.1 G.2.1 dX3_act_213 ?_
            refine kM_ald (r := 35) G hP kI_35 (by decide) (m_memB hB c_174) dX3_act_214 ?_
            refine kM_ast (r := 41) G hP hS kI_41 (by decide) (kin4 hp (kin_and3 _)) dX3_act_215 (fun H locs hP hS => ?_)
            refine lv_goto (tgt := 384) G.1 G.2.1 dX3_act_216 (by decide) ?_
            refine lv_aload_n G.1 G.2.1 dX3_act_384 rfl (lv_at hl 8 rfl) ?_
            refine k3_getr G hP 6 40 (by decide) (fun _ _ => rfl) kq_515 rfl dX3_act_385 ?_
            refine lv_iload_n G.1 G.2.1 dX3_act_388 rfl (lv_at hl 9 rfl) ?_
            refine lv_aload_n G.1 G.2.1 dX3_act_389 rfl (lv_at hl 8 rfl) ?_
            refine k3_geti G hP 29 (by unfold k3i; decide) (by decide) kq_538 rfl dX3_act_390 ?_
            refine lv_if_le (tgt := 405) G.1 G.2.1 dX3_act_393 (by decide) (fun c_393 => ?_) (fun c_393 => ?_)
            · refine lv_iload G.1 G.2.1 dX3_act_405 (lv_at hl 1 rfl) ?_
              refine kM_ast (r := 40) G hP hS kI_40 (by decide) hp dX3_act_407 (fun H locs hP hS => ?_)
              exact k_vret G hr hlocks hP hS rfl (by rw [f_X3_act, if_neg c_70, if_pos c_86, if_neg c_164, if_pos c_174, if_pos c_188, if_pos c_393]) rfl dX3_act_408
            · refine lv_aload_n G.1 G.2.1 dX3_act_396 rfl (lv_at hl 8 rfl) ?_
              refine k3_getr G hP 6 40 (by decide) (fun _ _ => rfl) kq_515 rfl dX3_act_397 ?_
              refine lv_iload_n G.1 G.2.1 dX3_act_400 rfl (lv_at hl 9 rfl) ?_
              refine kM_ald (r := 40) G hP kI_40 (by decide) hp dX3_act_401 ?_
              refine lv_goto (tgt := 407) G.1 G.2.1 dX3_act_402 (by decide) ?_
              refine kM_ast (r := 40) G hP hS kI_40 (by decide) hp dX3_act_407 (fun H locs hP hS => ?_)
              exact k_vret G hr hlocks hP hS rfl (by rw [f_X3_act, if_neg c_70, if_pos c_86, if_neg c_164, if_pos c_174, if_pos c_188, if_neg c_393]) rfl dX3_act_408
        · refine lv_aload_n G.1 G.2.1 dX3_act_177 rfl (lv_at hl 8 rfl) ?_
          refine lv_iconst (v := 2) G.1 G.2.1 dX3_act_178 (by decide) ?_
          refine k3_puti G hP hS 29 (by unfold k3i; decide) (by decide) kq_538 rfl rfl rfl rfl dX3_act_179 (fun H locs hP hS => ?_)
          refine lv_goto (tgt := 384) G.1 G.2.1 dX3_act_182 (by decide) ?_
          refine lv_aload_n G.1 G.2.1 dX3_act_384 rfl (lv_at hl 8 rfl) ?_
          refine k3_getr G hP 6 40 (by decide) (fun _ _ => rfl) kq_515 rfl dX3_act_385 ?_
          refine lv_iload_n G.1 G.2.1 dX3_act_388 rfl (lv_at hl 9 rfl) ?_
          refine lv_aload_n G.1 G.2.1 dX3_act_389 rfl (lv_at hl 8 rfl) ?_
          refine k3_getw (v := 2) G hP 29 (by unfold k3i; decide) (by decide) kq_538 rfl (by rw [kup_at]) dX3_act_390 ?_
          refine lv_if_le (tgt := 405) G.1 G.2.1 dX3_act_393 (by decide) (fun c => absurd c (by decide)) (fun _ => ?_)
          refine lv_aload_n G.1 G.2.1 dX3_act_396 rfl (lv_at hl 8 rfl) ?_
          refine k3_getr G hP 6 40 (by decide) (fun _ _ => rfl) kq_515 rfl dX3_act_397 ?_
          refine lv_iload_n G.1 G.2.1 dX3_act_400 rfl (lv_at hl 9 rfl) ?_
          refine kM_ald (r := 40) G hP kI_40 (by decide) hp dX3_act_401 ?_
          refine lv_goto (tgt := 407) G.1 G.2.1 dX3_act_402 (by decide) ?_
          refine kM_ast (r := 40) G hP hS kI_40 (by decide) hp dX3_act_407 (fun H locs hP hS => ?_)
          exact k_vret G hr hlocks hP hS rfl (by rw [f_X3_act, if_neg c_70, if_pos c_86, if_neg c_164, if_neg c_174]) rfl dX3_act_408
    · refine lv_iload_n G.1 G.2.1 dX3_act_89 rfl (lv_at hl 7 rfl) ?_
      refine lv_iconst (v := 1) G.1 G.2.1 dX3_act_90 (by decide) ?_
      refine lv_icmp_ne (tgt := 99) G.1 G.2.1 dX3_act_91 (by decide) (fun c_91 => ?_) (fun c_91 => ?_)
      · refine lv_iload_n G.1 G.2.1 dX3_act_99 rfl (lv_at hl 7 rfl) ?_
        refine lv_iconst (v := 2) G.1 G.2.1 dX3_act_100 (by decide) ?_
        refine lv_icmp_ne (tgt := 112) G.1 G.2.1 dX3_act_101 (by decide) (fun c_101 => ?_) (fun c_101 => ?_)
        · refine lv_iload_n G.1 G.2.1 dX3_act_112 rfl (lv_at hl 7 rfl) ?_
          refine lv_iconst (v := 3) G.1 G.2.1 dX3_act_113 (by decide) ?_
          refine lv_icmp_ne (tgt := 125) G.1 G.2.1 dX3_act_114 (by decide) (fun c_114 => ?_) (fun c_114 => ?_)
          · refine lv_iload_n G.1 G.2.1 dX3_act_125 rfl (lv_at hl 7 rfl) ?_
            refine lv_iconst (v := 4) G.1 G.2.1 dX3_act_126 (by decide) ?_
            refine lv_icmp_ne (tgt := 138) G.1 G.2.1 dX3_act_127 (by decide) (fun c_127 => ?_) (fun c_127 => ?_)
            · refine lv_iload G.1 G.2.1 dX3_act_138 (lv_at hl 3 rfl) ?_
              refine lv_iload G.1 G.2.1 dX3_act_140 (lv_at hl 2 rfl) ?_
              refine lv_ixor G.1 G.2.1 dX3_act_142 ?_
              refine lv_istore (lv' := [(11, .int ((mu 41 (((4 : Int32) * p0) + ((p1 >>> ((4 : Int32) &&& 31)) &&& 3)).toNatClampNeg) ^^^ (mu 41 (((4 : Int32) * p0) + ((p1 >>> ((6 : Int32) &&& 31)) &&& 3)).toNatClampNeg))), (10, .int ((mu 41 (((4 : Int32) * p0) + ((p1 >>> ((6 : Int32) &&& 31)) &&& 3)).toNatClampNeg) + (p1 >>> ((8 : Int32) &&& 31)))), (9, .int ((mu 40 p0.toNatClampNeg) + 1)), (8, .int (mu 41 (((4 : Int32) * p0) + ((p1 >>> ((6 : Int32) &&& 31)) &&& 3)).toNatClampNeg)), (7, .int (mu 41 (((4 : Int32) * p0) + ((p1 >>> ((4 : Int32) &&& 31)) &&& 3)).toNatClampNeg)), (6, .int (p1 >>> ((8 : Int32) &&& 31))), (5, .int ((p1 >>> ((6 : Int32) &&& 31)) &&& 3)), (4, .int ((p1 >>> ((4 : Int32) &&& 31)) &&& 3)), (3, .int (p1 &&& 15)), (0, .ref (A 34)), (1, .int p0), (2, .int p1)]) G.1 G.2.1 dX3_act_143 hl (by decide) rfl (fun ls hl => ?_)
              refine lv_aload_n G.1 G.2.1 dX3_act_145 rfl (lv_at hl 9 rfl) ?_
              refine k3_getr G hP 7 41 (by decide) (fun _ _ => rfl) kq_516 rfl dX3_act_146 ?_
              refine lv_iconst (v := 4) G.1 G.2.1 dX3_act_149 (by decide) ?_
              refine lv_iload_n G.1 G.2.1 dX3_act_150 rfl (lv_at hl 10 rfl) ?_
              refine lv_imul G.1 G.2.1 dX3_act_151 ?_
              refine lv_iload G.1 G.2.1 dX3_act_152 (lv_at hl 7 rfl) ?_
              refine lv_iadd G.1 G.2.1 dX3_act_154 ?_
              refine lv_iload G.1 G.2.1 dX3_act_155 (lv_at hl 0 rfl) ?_
              refine kM_ast (r := 41) G hP hS kI_41 (by decide) (kin4 hp (kin_and3 _)) dX3_act_157 (fun H locs hP hS => ?_)
              refine lv_goto (tgt := 384) G.1 G.2.1 dX3_act_158 (by decide) ?_
              refine lv_aload_n G.1 G.2.1 dX3_act_384 rfl (lv_at hl 9 rfl) ?_
              refine k3_getr G hP 6 40 (by decide) (fun _ _ => rfl) kq_515 rfl dX3_act_385 ?_
              refine lv_iload_n G.1 G.2.1 dX3_act_388 rfl (lv_at hl 10 rfl) ?_
              refine lv_aload_n G.1 G.2.1 dX3_act_389 rfl (lv_at hl 9 rfl) ?_
              refine k3_geti G hP 29 (by unfold k3i; decide) (by decide) kq_538 rfl dX3_act_390 ?_
              refine lv_if_le (tgt := 405) G.1 G.2.1 dX3_act_393 (by decide) (fun c_393 => ?_) (fun c_393 => ?_)
              · refine lv_iload G.1 G.2.1 dX3_act_405 (lv_at hl 2 rfl) ?_
                refine kM_ast (r := 40) G hP hS kI_40 (by decide) hp dX3_act_407 (fun H locs hP hS => ?_)
                exact k_vret G hr hlocks hP hS rfl (by rw [f_X3_act, if_neg c_70, if_neg c_86, if_neg c_91, if_neg c_101, if_neg c_114, if_neg c_127, if_pos c_393]) rfl dX3_act_408
              · refine lv_aload_n G.1 G.2.1 dX3_act_396 rfl (lv_at hl 9 rfl) ?_
                refine k3_getr G hP 6 40 (by decide) (fun _ _ => rfl) kq_515 rfl dX3_act_397 ?_
                refine lv_iload_n G.1 G.2.1 dX3_act_400 rfl (lv_at hl 10 rfl) ?_
                refine kM_ald (r := 40) G hP kI_40 (by decide) hp dX3_act_401 ?_
                refine lv_goto (tgt := 407) G.1 G.2.1 dX3_act_402 (by decide) ?_
                refine kM_ast (r := 40) G hP hS kI_40 (by decide) hp dX3_act_407 (fun H locs hP hS => ?_)
                exact k_vret G hr hlocks hP hS rfl (by rw [f_X3_act, if_neg c_70, if_neg c_86, if_neg c_91, if_neg c_101, if_neg c_114, if_neg c_127, if_neg c_393]) rfl dX3_act_408
            · refine lv_iload G.1 G.2.1 dX3_act_130 (lv_at hl 3 rfl) ?_
              refine lv_iload G.1 G.2.1 dX3_act_132 (lv_at hl 2 rfl) ?_
              refine lv_imul G.1 G.2.1 dX3_act_134 ?_
              refine lv_goto (tgt := 143) G.1 G.2.1 dX3_act_135 (by decide) ?_
              refine lv_istore (lv' := [(11, .int ((mu 41 (((4 : Int32) * p0) + ((p1 >>> ((4 : Int32) &&& 31)) &&& 3)).toNatClampNeg) * (mu 41 (((4 : Int32) * p0) + ((p1 >>> ((6 : Int32) &&& 31)) &&& 3)).toNatClampNeg))), (10, .int ((mu 41 (((4 : Int32) * p0) + ((p1 >>> ((6 : Int32) &&& 31)) &&& 3)).toNatClampNeg) + (p1 >>> ((8 : Int32) &&& 31)))), (9, .int ((mu 40 p0.toNatClampNeg) + 1)), (8, .int (mu 41 (((4 : Int32) * p0) + ((p1 >>> ((6 : Int32) &&& 31)) &&& 3)).toNatClampNeg)), (7, .int (mu 41 (((4 : Int32) * p0) + ((p1 >>> ((4 : Int32) &&& 31)) &&& 3)).toNatClampNeg)), (6, .int (p1 >>> ((8 : Int32) &&& 31))), (5, .int ((p1 >>> ((6 : Int32) &&& 31)) &&& 3)), (4, .int ((p1 >>> ((4 : Int32) &&& 31)) &&& 3)), (3, .int (p1 &&& 15)), (0, .ref (A 34)), (1, .int p0), (2, .int p1)]) G.1 G.2.1 dX3_act_143 hl (by decide) rfl (fun ls hl => ?_)
              refine lv_aload_n G.1 G.2.1 dX3_act_145 rfl (lv_at hl 9 rfl) ?_
              refine k3_getr G hP 7 41 (by decide) (fun _ _ => rfl) kq_516 rfl dX3_act_146 ?_
              refine lv_iconst (v := 4) G.1 G.2.1 dX3_act_149 (by decide) ?_
              refine lv_iload_n G.1 G.2.1 dX3_act_150 rfl (lv_at hl 10 rfl) ?_
              refine lv_imul G.1 G.2.1 dX3_act_151 ?_
              refine lv_iload G.1 G.2.1 dX3_act_152 (lv_at hl 7 rfl) ?_
              refine lv_iadd G.1 G.2.1 dX3_act_154 ?_
              refine lv_iload G.1 G.2.1 dX3_act_155 (lv_at hl 0 rfl) ?_
              refine kM_ast (r := 41) G hP hS kI_41 (by decide) (kin4 hp (kin_and3 _)) dX3_act_157 (fun H locs hP hS => ?_)
              refine lv_goto (tgt := 384) G.1 G.2.1 dX3_act_158 (by decide) ?_
              refine lv_aload_n G.1 G.2.1 dX3_act_384 rfl (lv_at hl 9 rfl) ?_
              refine k3_getr G hP 6 40 (by decide) (fun _ _ => rfl) kq_515 rfl dX3_act_385 ?_
              refine lv_iload_n G.1 G.2.1 dX3_act_388 rfl (lv_at hl 10 rfl) ?_
              refine lv_aload_n G.1 G.2.1 dX3_act_389 rfl (lv_at hl 9 rfl) ?_
              refine k3_geti G hP 29 (by unfold k3i; decide) (by decide) kq_538 rfl dX3_act_390 ?_
              refine lv_if_le (tgt := 405) G.1 G.2.1 dX3_act_393 (by decide) (fun c_393 => ?_) (fun c_393 => ?_)
              · refine lv_iload G.1 G.2.1 dX3_act_405 (lv_at hl 2 rfl) ?_
                refine kM_ast (r := 40) G hP hS kI_40 (by decide) hp dX3_act_407 (fun H locs hP hS => ?_)
                exact k_vret G hr hlocks hP hS rfl (by rw [f_X3_act, if_neg c_70, if_neg c_86, if_neg c_91, if_neg c_101, if_neg c_114, if_pos c_127, if_pos c_393]) rfl dX3_act_408
              · refine lv_aload_n G.1 G.2.1 dX3_act_396 rfl (lv_at hl 9 rfl) ?_
                refine k3_getr G hP 6 40 (by decide) (fun _ _ => rfl) kq_515 rfl dX3_act_397 ?_
                refine lv_iload_n G.1 G.2.1 dX3_act_400 rfl (lv_at hl 10 rfl) ?_
                refine kM_ald (r := 40) G hP kI_40 (by decide) hp dX3_act_401 ?_
                refine lv_goto (tgt := 407) G.1 G.2.1 dX3_act_402 (by decide) ?_
                refine kM_ast (r := 40) G hP hS kI_40 (by decide) hp dX3_act_407 (fun H locs hP hS => ?_)
                exact k_vret G hr hlocks hP hS rfl (by rw [f_X3_act, if_neg c_70, if_neg c_86, if_neg c_91, if_neg c_101, if_neg c_114, if_pos c_127, if_neg c_393]) rfl dX3_act_408
          · refine lv_iload G.1 G.2.1 dX3_act_117 (lv_at hl 3 rfl) ?_
            refine lv_iload G.1 G.2.1 dX3_act_119 (lv_at hl 2 rfl) ?_
            refine lv_isub G.1 G.2.1 dX3_act_121 ?_
            refine lv_goto (tgt := 143) G.1 G.2.1 dX3_act_122 (by decide) ?_
            refine lv_istore (lv' := [(11, .int ((mu 41 (((4 : Int32) * p0) + ((p1 >>> ((4 : Int32) &&& 31)) &&& 3)).toNatClampNeg) - (mu 41 (((4 : Int32) * p0) + ((p1 >>> ((6 : Int32) &&& 31)) &&& 3)).toNatClampNeg))), (10, .int ((mu 41 (((4 : Int32) * p0) + ((p1 >>> ((6 : Int32) &&& 31)) &&& 3)).toNatClampNeg) + (p1 >>> ((8 : Int32) &&& 31)))), (9, .int ((mu 40 p0.toNatClampNeg) + 1)), (8, .int (mu 41 (((4 : Int32) * p0) + ((p1 >>> ((6 : Int32) &&& 31)) &&& 3)).toNatClampNeg)), (7, .int (mu 41 (((4 : Int32) * p0) + ((p1 >>> ((4 : Int32) &&& 31)) &&& 3)).toNatClampNeg)), (6, .int (p1 >>> ((8 : Int32) &&& 31))), (5, .int ((p1 >>> ((6 : Int32) &&& 31)) &&& 3)), (4, .int ((p1 >>> ((4 : Int32) &&& 31)) &&& 3)), (3, .int (p1 &&& 15)), (0, .ref (A 34)), (1, .int p0), (2, .int p1)]) G.1 G.2.1 dX3_act_143 hl (by decide) rfl (fun ls hl => ?_)
            refine lv_aload_n G.1 G.2.1 dX3_act_145 rfl (lv_at hl 9 rfl) ?_
            refine k3_getr G hP 7 41 (by decide) (fun _ _ => rfl) kq_516 rfl dX3_act_146 ?_
            refine lv_iconst (v := 4) G.1 G.2.1 dX3_act_149 (by decide) ?_
            refine lv_iload_n G.1 G.2.1 dX3_act_150 rfl (lv_at hl 10 rfl) ?_
            refine lv_imul G.1 G.2.1 dX3_act_151 ?_
            refine lv_iload G.1 G.2.1 dX3_act_152 (lv_at hl 7 rfl) ?_
            refine lv_iadd G.1 G.2.1 dX3_act_154 ?_
            refine lv_iload G.1 G.2.1 dX3_act_155 (lv_at hl 0 rfl) ?_
            refine kM_ast (r := 41) G hP hS kI_41 (by decide) (kin4 hp (kin_and3 _)) dX3_act_157 (fun H locs hP hS => ?_)
            refine lv_goto (tgt := 384) G.1 G.2.1 dX3_act_158 (by decide) ?_
            refine lv_aload_n G.1 G.2.1 dX3_act_384 rfl (lv_at hl 9 rfl) ?_
            refine k3_getr G hP 6 40 (by decide) (fun _ _ => rfl) kq_515 rfl dX3_act_385 ?_
            refine lv_iload_n G.1 G.2.1 dX3_act_388 rfl (lv_at hl 10 rfl) ?_
            refine lv_aload_n G.1 G.2.1 dX3_act_389 rfl (lv_at hl 9 rfl) ?_
            refine k3_geti G hP 29 (by unfold k3i; decide) (by decide) kq_538 rfl dX3_act_390 ?_
            refine lv_if_le (tgt := 405) G.1 G.2.1 dX3_act_393 (by decide) (fun c_393 => ?_) (fun c_393 => ?_)
            · refine lv_iload G.1 G.2.1 dX3_act_405 (lv_at hl 2 rfl) ?_
              refine kM_ast (r := 40) G hP hS kI_40 (by decide) hp dX3_act_407 (fun H locs hP hS => ?_)
              exact k_vret G hr hlocks hP hS rfl (by rw [f_X3_act, if_neg c_70, if_neg c_86, if_neg c_91, if_neg c_101, if_pos c_114, if_pos c_393]) rfl dX3_act_408
            · refine lv_aload_n G.1 G.2.1 dX3_act_396 rfl (lv_at hl 9 rfl) ?_
              refine k3_getr G hP 6 40 (by decide) (fun _ _ => rfl) kq_515 rfl dX3_act_397 ?_
              refine lv_iload_n G.1 G.2.1 dX3_act_400 rfl (lv_at hl 10 rfl) ?_
              refine kM_ald (r := 40) G hP kI_40 (by decide) hp dX3_act_401 ?_
              refine lv_goto (tgt := 407) G.1 G.2.1 dX3_act_402 (by decide) ?_
              refine kM_ast (r := 40) G hP hS kI_40 (by decide) hp dX3_act_407 (fun H locs hP hS => ?_)
              exact k_vret G hr hlocks hP hS rfl (by rw [f_X3_act, if_neg c_70, if_neg c_86, if_neg c_91, if_neg c_101, if_pos c_114, if_neg c_393]) rfl dX3_act_408
        · refine lv_iload G.1 G.2.1 dX3_act_104 (lv_at hl 3 rfl) ?_
          refine lv_iload G.1 G.2.1 dX3_act_106 (lv_at hl 2 rfl) ?_
          refine lv_iadd G.1 G.2.1 dX3_act_108 ?_
          refine lv_goto (tgt := 143) G.1 G.2.1 dX3_act_109 (by decide) ?_
          refine lv_istore (lv' := [(11, .int ((mu 41 (((4 : Int32) * p0) + ((p1 >>> ((4 : Int32) &&& 31)) &&& 3)).toNatClampNeg) + (mu 41 (((4 : Int32) * p0) + ((p1 >>> ((6 : Int32) &&& 31)) &&& 3)).toNatClampNeg))), (10, .int ((mu 41 (((4 : Int32) * p0) + ((p1 >>> ((6 : Int32) &&& 31)) &&& 3)).toNatClampNeg) + (p1 >>> ((8 : Int32) &&& 31)))), (9, .int ((mu 40 p0.toNatClampNeg) + 1)), (8, .int (mu 41 (((4 : Int32) * p0) + ((p1 >>> ((6 : Int32) &&& 31)) &&& 3)).toNatClampNeg)), (7, .int (mu 41 (((4 : Int32) * p0) + ((p1 >>> ((4 : Int32) &&& 31)) &&& 3)).toNatClampNeg)), (6, .int (p1 >>> ((8 : Int32) &&& 31))), (5, .int ((p1 >>> ((6 : Int32) &&& 31)) &&& 3)), (4, .int ((p1 >>> ((4 : Int32) &&& 31)) &&& 3)), (3, .int (p1 &&& 15)), (0, .ref (A 34)), (1, .int p0), (2, .int p1)]) G.1 G.2.1 dX3_act_143 hl (by decide) rfl (fun ls hl => ?_)
          refine lv_aload_n G.1 G.2.1 dX3_act_145 rfl (lv_at hl 9 rfl) ?_
          refine k3_getr G hP 7 41 (by decide) (fun _ _ => rfl) kq_516 rfl dX3_act_146 ?_
          refine lv_iconst (v := 4) G.1 G.2.1 dX3_act_149 (by decide) ?_
          refine lv_iload_n G.1 G.2.1 dX3_act_150 rfl (lv_at hl 10 rfl) ?_
          refine lv_imul G.1 G.2.1 dX3_act_151 ?_
          refine lv_iload G.1 G.2.1 dX3_act_152 (lv_at hl 7 rfl) ?_
          refine lv_iadd G.1 G.2.1 dX3_act_154 ?_
          refine lv_iload G.1 G.2.1 dX3_act_155 (lv_at hl 0 rfl) ?_
          refine kM_ast (r := 41) G hP hS kI_41 (by decide) (kin4 hp (kin_and3 _)) dX3_act_157 (fun H locs hP hS => ?_)
          refine lv_goto (tgt := 384) G.1 G.2.1 dX3_act_158 (by decide) ?_
          refine lv_aload_n G.1 G.2.1 dX3_act_384 rfl (lv_at hl 9 rfl) ?_
          refine k3_getr G hP 6 40 (by decide) (fun _ _ => rfl) kq_515 rfl dX3_act_385 ?_
          refine lv_iload_n G.1 G.2.1 dX3_act_388 rfl (lv_at hl 10 rfl) ?_
          refine lv_aload_n G.1 G.2.1 dX3_act_389 rfl (lv_at hl 9 rfl) ?_
          refine k3_geti G hP 29 (by unfold k3i; decide) (by decide) kq_538 rfl dX3_act_390 ?_
          refine lv_if_le (tgt := 405) G.1 G.2.1 dX3_act_393 (by decide) (fun c_393 => ?_) (fun c_393 => ?_)
          · refine lv_iload G.1 G.2.1 dX3_act_405 (lv_at hl 2 rfl) ?_
            refine kM_ast (r := 40) G hP hS kI_40 (by decide) hp dX3_act_407 (fun H locs hP hS => ?_)
            exact k_vret G hr hlocks hP hS rfl (by rw [f_X3_act, if_neg c_70, if_neg c_86, if_neg c_91, if_pos c_101, if_pos c_393]) rfl dX3_act_408
          · refine lv_aload_n G.1 G.2.1 dX3_act_396 rfl (lv_at hl 9 rfl) ?_
            refine k3_getr G hP 6 40 (by decide) (fun _ _ => rfl) kq_515 rfl dX3_act_397 ?_
            refine lv_iload_n G.1 G.2.1 dX3_act_400 rfl (lv_at hl 10 rfl) ?_
            refine kM_ald (r := 40) G hP kI_40 (by decide) hp dX3_act_401 ?_
            refine lv_goto (tgt := 407) G.1 G.2.1 dX3_act_402 (by decide) ?_
            refine kM_ast (r := 40) G hP hS kI_40 (by decide) hp dX3_act_407 (fun H locs hP hS => ?_)
            exact k_vret G hr hlocks hP hS rfl (by rw [f_X3_act, if_neg c_70, if_neg c_86, if_neg c_91, if_pos c_101, if_neg c_393]) rfl dX3_act_408
      · refine lv_iload G.1 G.2.1 dX3_act_94 (lv_at hl 4 rfl) ?_
        refine lv_goto (tgt := 143) G.1 G.2.1 dX3_act_96 (by decide) ?_
        refine lv_istore (lv' := [(11, .int (p1 >>> ((8 : Int32) &&& 31))), (10, .int ((mu 41 (((4 : Int32) * p0) + ((p1 >>> ((6 : Int32) &&& 31)) &&& 3)).toNatClampNeg) + (p1 >>> ((8 : Int32) &&& 31)))), (9, .int ((mu 40 p0.toNatClampNeg) + 1)), (8, .int (mu 41 (((4 : Int32) * p0) + ((p1 >>> ((6 : Int32) &&& 31)) &&& 3)).toNatClampNeg)), (7, .int (mu 41 (((4 : Int32) * p0) + ((p1 >>> ((4 : Int32) &&& 31)) &&& 3)).toNatClampNeg)), (6, .int (p1 >>> ((8 : Int32) &&& 31))), (5, .int ((p1 >>> ((6 : Int32) &&& 31)) &&& 3)), (4, .int ((p1 >>> ((4 : Int32) &&& 31)) &&& 3)), (3, .int (p1 &&& 15)), (0, .ref (A 34)), (1, .int p0), (2, .int p1)]) G.1 G.2.1 dX3_act_143 hl (by decide) rfl (fun ls hl => ?_)
        refine lv_aload_n G.1 G.2.1 dX3_act_145 rfl (lv_at hl 9 rfl) ?_
        refine k3_getr G hP 7 41 (by decide) (fun _ _ => rfl) kq_516 rfl dX3_act_146 ?_
        refine lv_iconst (v := 4) G.1 G.2.1 dX3_act_149 (by decide) ?_
        refine lv_iload_n G.1 G.2.1 dX3_act_150 rfl (lv_at hl 10 rfl) ?_
        refine lv_imul G.1 G.2.1 dX3_act_151 ?_
        refine lv_iload G.1 G.2.1 dX3_act_152 (lv_at hl 7 rfl) ?_
        refine lv_iadd G.1 G.2.1 dX3_act_154 ?_
        refine lv_iload G.1 G.2.1 dX3_act_155 (lv_at hl 0 rfl) ?_
        refine kM_ast (r := 41) G hP hS kI_41 (by decide) (kin4 hp (kin_and3 _)) dX3_act_157 (fun H locs hP hS => ?_)
        refine lv_goto (tgt := 384) G.1 G.2.1 dX3_act_158 (by decide) ?_
        refine lv_aload_n G.1 G.2.1 dX3_act_384 rfl (lv_at hl 9 rfl) ?_
        refine k3_getr G hP 6 40 (by decide) (fun _ _ => rfl) kq_515 rfl dX3_act_385 ?_
        refine lv_iload_n G.1 G.2.1 dX3_act_388 rfl (lv_at hl 10 rfl) ?_
        refine lv_aload_n G.1 G.2.1 dX3_act_389 rfl (lv_at hl 9 rfl) ?_
        refine k3_geti G hP 29 (by unfold k3i; decide) (by decide) kq_538 rfl dX3_act_390 ?_
        refine lv_if_le (tgt := 405) G.1 G.2.1 dX3_act_393 (by decide) (fun c_393 => ?_) (fun c_393 => ?_)
        · refine lv_iload G.1 G.2.1 dX3_act_405 (lv_at hl 2 rfl) ?_
          refine kM_ast (r := 40) G hP hS kI_40 (by decide) hp dX3_act_407 (fun H locs hP hS => ?_)
          exact k_vret G hr hlocks hP hS rfl (by rw [f_X3_act, if_neg c_70, if_neg c_86, if_pos c_91, if_pos c_393]) rfl dX3_act_408
        · refine lv_aload_n G.1 G.2.1 dX3_act_396 rfl (lv_at hl 9 rfl) ?_
          refine k3_getr G hP 6 40 (by decide) (fun _ _ => rfl) kq_515 rfl dX3_act_397 ?_
          refine lv_iload_n G.1 G.2.1 dX3_act_400 rfl (lv_at hl 10 rfl) ?_
          refine kM_ald (r := 40) G hP kI_40 (by decide) hp dX3_act_401 ?_
          refine lv_goto (tgt := 407) G.1 G.2.1 dX3_act_402 (by decide) ?_
          refine kM_ast (r := 40) G hP hS kI_40 (by decide) hp dX3_act_407 (fun H locs hP hS => ?_)
          exact k_vret G hr hlocks hP hS rfl (by rw [f_X3_act, if_neg c_70, if_neg c_86, if_pos c_91, if_neg c_393]) rfl dX3_act_408
  · refine lv_aload_n G.1 G.2.1 dX3_act_73 rfl (lv_at hl 8 rfl) ?_
    refine k3_getr G hP 5 39 (by decide) (fun _ _ => rfl) kq_514 rfl dX3_act_74 ?_
    refine lv_iload_n G.1 G.2.1 dX3_act_77 rfl (lv_at hl 9 rfl) ?_
    refine lv_iconst (v := 2) G.1 G.2.1 dX3_act_78 (by decide) ?_
    refine kM_ast (r := 39) G hP hS kI_39 (by decide) hp dX3_act_79 (fun H locs hP hS => ?_)
    refine lv_goto (tgt := 384) G.1 G.2.1 dX3_act_80 (by decide) ?_
    refine lv_aload_n G.1 G.2.1 dX3_act_384 rfl (lv_at hl 8 rfl) ?_
    refine k3_getr G hP 6 40 (by decide) (fun _ _ => rfl) kq_515 rfl dX3_act_385 ?_
    refine lv_iload_n G.1 G.2.1 dX3_act_388 rfl (lv_at hl 9 rfl) ?_
    refine lv_aload_n G.1 G.2.1 dX3_act_389 rfl (lv_at hl 8 rfl) ?_
    refine k3_geti G hP 29 (by unfold k3i; decide) (by decide) kq_538 rfl dX3_act_390 ?_
    refine lv_if_le (tgt := 405) G.1 G.2.1 dX3_act_393 (by decide) (fun c_393 => ?_) (fun c_393 => ?_)
    · refine lv_iload G.1 G.2.1 dX3_act_405 (lv_at hl 1 rfl) ?_
      refine kM_ast (r := 40) G hP hS kI_40 (by decide) hp dX3_act_407 (fun H locs hP hS => ?_)
      exact k_vret G hr hlocks hP hS rfl (by rw [f_X3_act, if_pos c_70, if_pos c_393]) rfl dX3_act_408
    · refine lv_aload_n G.1 G.2.1 dX3_act_396 rfl (lv_at hl 8 rfl) ?_
      refine k3_getr G hP 6 40 (by decide) (fun _ _ => rfl) kq_515 rfl dX3_act_397 ?_
      refine lv_iload_n G.1 G.2.1 dX3_act_400 rfl (lv_at hl 9 rfl) ?_
      refine kM_ald (r := 40) G hP kI_40 (by decide) hp dX3_act_401 ?_
      refine lv_goto (tgt := 407) G.1 G.2.1 dX3_act_402 (by decide) ?_
      refine kM_ast (r := 40) G hP hS kI_40 (by decide) hp dX3_act_407 (fun H locs hP hS => ?_)
      exact k_vret G hr hlocks hP hS rfl (by rw [f_X3_act, if_pos c_70, if_neg c_393]) rfl dX3_act_408
/-! X3_instruction -/
def f_X3_instruction (mu : kM) (p0 : Int32) : kM :=
  if (f_X3_noWord (kup mu 34 29 0) p0 ((kup mu 34 29 0) 40 p0.toNatClampNeg)) = 0 then (if ((f_X3_act (kup mu 34 29 0) p0 ((kup mu 34 29 0) 35 (((kup mu 34 29 0) 36 p0.toNatClampNeg) + ((kup mu 34 29 0) 40 p0.toNatClampNeg)).toNatClampNeg)) 34 29) = 0 then (kup (f_X3_act (kup mu 34 29 0) p0 ((kup mu 34 29 0) 35 (((kup mu 34 29 0) 36 p0.toNatClampNeg) + ((kup mu 34 29 0) 40 p0.toNatClampNeg)).toNatClampNeg)) 42 p0.toNatClampNeg (((f_X3_act (kup mu 34 29 0) p0 ((kup mu 34 29 0) 35 (((kup mu 34 29 0) 36 p0.toNatClampNeg) + ((kup mu 34 29 0) 40 p0.toNatClampNeg)).toNatClampNeg)) 42 p0.toNatClampNeg) + 1)) else if ((kup (kup (f_X3_act (kup mu 34 29 0) p0 ((kup mu 34 29 0) 35 (((kup mu 34 29 0) 36 p0.toNatClampNeg) + ((kup mu 34 29 0) 40 p0.toNatClampNeg)).toNatClampNeg)) 44 p0.toNatClampNeg ((f_X3_act (kup mu 34 29 0) p0 ((kup mu 34 29 0) 35 (((kup mu 34 29 0) 36 p0.toNatClampNeg) + ((kup mu 34 29 0) 40 p0.toNatClampNeg)).toNatClampNeg)) 34 29)) 45 p0.toNatClampNeg (((kup (f_X3_act (kup mu 34 29 0) p0 ((kup mu 34 29 0) 35 (((kup mu 34 29 0) 36 p0.toNatClampNeg) + ((kup mu 34 29 0) 40 p0.toNatClampNeg)).toNatClampNeg)) 44 p0.toNatClampNeg ((f_X3_act (kup mu 34 29 0) p0 ((kup mu 34 29 0) 35 (((kup mu 34 29 0) 36 p0.toNatClampNeg) + ((kup mu 34 29 0) 40 p0.toNatClampNeg)).toNatClampNeg)) 34 29)) 45 p0.toNatClampNeg) + 1)) 43 p0.toNatClampNeg) = 0 then (kup (kup (kup (f_X3_act (kup mu 34 29 0) p0 ((kup mu 34 29 0) 35 (((kup mu 34 29 0) 36 p0.toNatClampNeg) + ((kup mu 34 29 0) 40 p0.toNatClampNeg)).toNatClampNeg)) 44 p0.toNatClampNeg ((f_X3_act (kup mu 34 29 0) p0 ((kup mu 34 29 0) 35 (((kup mu 34 29 0) 36 p0.toNatClampNeg) + ((kup mu 34 29 0) 40 p0.toNatClampNeg)).toNatClampNeg)) 34 29)) 45 p0.toNatClampNeg (((kup (f_X3_act (kup mu 34 29 0) p0 ((kup mu 34 29 0) 35 (((kup mu 34 29 0) 36 p0.toNatClampNeg) + ((kup mu 34 29 0) 40 p0.toNatClampNeg)).toNatClampNeg)) 44 p0.toNatClampNeg ((f_X3_act (kup mu 34 29 0) p0 ((kup mu 34 29 0) 35 (((kup mu 34 29 0) 36 p0.toNatClampNeg) + ((kup mu 34 29 0) 40 p0.toNatClampNeg)).toNatClampNeg)) 34 29)) 45 p0.toNatClampNeg) + 1)) 39 p0.toNatClampNeg 3) else (kup (kup (kup (kup (kup (kup (kup (kup (kup (f_X3_act (kup mu 34 29 0) p0 ((kup mu 34 29 0) 35 (((kup mu 34 29 0) 36 p0.toNatClampNeg) + ((kup mu 34 29 0) 40 p0.toNatClampNeg)).toNatClampNeg)) 44 p0.toNatClampNeg ((f_X3_act (kup mu 34 29 0) p0 ((kup mu 34 29 0) 35 (((kup mu 34 29 0) 36 p0.toNatClampNeg) + ((kup mu 34 29 0) 40 p0.toNatClampNeg)).toNatClampNeg)) 34 29)) 45 p0.toNatClampNeg (((kup (f_X3_act (kup mu 34 29 0) p0 ((kup mu 34 29 0) 35 (((kup mu 34 29 0) 36 p0.toNatClampNeg) + ((kup mu 34 29 0) 40 p0.toNatClampNeg)).toNatClampNeg)) 44 p0.toNatClampNeg ((f_X3_act (kup mu 34 29 0) p0 ((kup mu 34 29 0) 35 (((kup mu 34 29 0) 36 p0.toNatClampNeg) + ((kup mu 34 29 0) 40 p0.toNatClampNeg)).toNatClampNeg)) 34 29)) 45 p0.toNatClampNeg) + 1)) 43 p0.toNatClampNeg (((kup (kup (f_X3_act (kup mu 34 29 0) p0 ((kup mu 34 29 0) 35 (((kup mu 34 29 0) 36 p0.toNatClampNeg) + ((kup mu 34 29 0) 40 p0.toNatClampNeg)).toNatClampNeg)) 44 p0.toNatClampNeg ((f_X3_act (kup mu 34 29 0) p0 ((kup mu 34 29 0) 35 (((kup mu 34 29 0) 36 p0.toNatClampNeg) + ((kup mu 34 29 0) 40 p0.toNatClampNeg)).toNatClampNeg)) 34 29)) 45 p0.toNatClampNeg (((kup (f_X3_act (kup mu 34 29 0) p0 ((kup mu 34 29 0) 35 (((kup mu 34 29 0) 36 p0.toNatClampNeg) + ((kup mu 34 29 0) 40 p0.toNatClampNeg)).toNatClampNeg)) 44 p0.toNatClampNeg ((f_X3_act (kup mu 34 29 0) p0 ((kup mu 34 29 0) 35 (((kup mu 34 29 0) 36 p0.toNatClampNeg) + ((kup mu 34 29 0) 40 p0.toNatClampNeg)).toNatClampNeg)) 34 29)) 45 p0.toNatClampNeg) + 1)) 43 p0.toNatClampNeg) - 1)) 41 (((4 : Int32) * p0) + 0).toNatClampNeg 0) 41 (((4 : Int32) * p0) + 1).toNatClampNeg 0) 41 (((4 : Int32) * p0) + 2).toNatClampNeg 0) 41 (((4 : Int32) * p0) + 3).toNatClampNeg 0) 40 p0.toNatClampNeg ((kup (kup (kup (kup (kup (kup (kup (f_X3_act (kup mu 34 29 0) p0 ((kup mu 34 29 0) 35 (((kup mu 34 29 0) 36 p0.toNatClampNeg) + ((kup mu 34 29 0) 40 p0.toNatClampNeg)).toNatClampNeg)) 44 p0.toNatClampNeg ((f_X3_act (kup mu 34 29 0) p0 ((kup mu 34 29 0) 35 (((kup mu 34 29 0) 36 p0.toNatClampNeg) + ((kup mu 34 29 0) 40 p0.toNatClampNeg)).toNatClampNeg)) 34 29)) 45 p0.toNatClampNeg (((kup (f_X3_act (kup mu 34 29 0) p0 ((kup mu 34 29 0) 35 (((kup mu 34 29 0) 36 p0.toNatClampNeg) + ((kup mu 34 29 0) 40 p0.toNatClampNeg)).toNatClampNeg)) 44 p0.toNatClampNeg ((f_X3_act (kup mu 34 29 0) p0 ((kup mu 34 29 0) 35 (((kup mu 34 29 0) 36 p0.toNatClampNeg) + ((kup mu 34 29 0) 40 p0.toNatClampNeg)).toNatClampNeg)) 34 29)) 45 p0.toNatClampNeg) + 1)) 43 p0.toNatClampNeg (((kup (kup (f_X3_act (kup mu 34 29 0) p0 ((kup mu 34 29 0) 35 (((kup mu 34 29 0) 36 p0.toNatClampNeg) + ((kup mu 34 29 0) 40 p0.toNatClampNeg)).toNatClampNeg)) 44 p0.toNatClampNeg ((f_X3_act (kup mu 34 29 0) p0 ((kup mu 34 29 0) 35 (((kup mu 34 29 0) 36 p0.toNatClampNeg) + ((kup mu 34 29 0) 40 p0.toNatClampNeg)).toNatClampNeg)) 34 29)) 45 p0.toNatClampNeg (((kup (f_X3_act (kup mu 34 29 0) p0 ((kup mu 34 29 0) 35 (((kup mu 34 29 0) 36 p0.toNatClampNeg) + ((kup mu 34 29 0) 40 p0.toNatClampNeg)).toNatClampNeg)) 44 p0.toNatClampNeg ((f_X3_act (kup mu 34 29 0) p0 ((kup mu 34 29 0) 35 (((kup mu 34 29 0) 36 p0.toNatClampNeg) + ((kup mu 34 29 0) 40 p0.toNatClampNeg)).toNatClampNeg)) 34 29)) 45 p0.toNatClampNeg) + 1)) 43 p0.toNatClampNeg) - 1)) 41 (((4 : Int32) * p0) + 0).toNatClampNeg 0) 41 (((4 : Int32) * p0) + 1).toNatClampNeg 0) 41 (((4 : Int32) * p0) + 2).toNatClampNeg 0) 41 (((4 : Int32) * p0) + 3).toNatClampNeg 0) 38 p0.toNatClampNeg)) 34 27 1)) else if ((kup (kup (kup (kup mu 34 29 0) 34 29 1) 44 p0.toNatClampNeg 1) 45 p0.toNatClampNeg (((kup (kup (kup mu 34 29 0) 34 29 1) 44 p0.toNatClampNeg 1) 45 p0.toNatClampNeg) + 1)) 43 p0.toNatClampNeg) = 0 then (kup (kup (kup (kup (kup mu 34 29 0) 34 29 1) 44 p0.toNatClampNeg 1) 45 p0.toNatClampNeg (((kup (kup (kup mu 34 29 0) 34 29 1) 44 p0.toNatClampNeg 1) 45 p0.toNatClampNeg) + 1)) 39 p0.toNatClampNeg 3) else (kup (kup (kup (kup (kup (kup (kup (kup (kup (kup (kup mu 34 29 0) 34 29 1) 44 p0.toNatClampNeg 1) 45 p0.toNatClampNeg (((kup (kup (kup mu 34 29 0) 34 29 1) 44 p0.toNatClampNeg 1) 45 p0.toNatClampNeg) + 1)) 43 p0.toNatClampNeg (((kup (kup (kup (kup mu 34 29 0) 34 29 1) 44 p0.toNatClampNeg 1) 45 p0.toNatClampNeg (((kup (kup (kup mu 34 29 0) 34 29 1) 44 p0.toNatClampNeg 1) 45 p0.toNatClampNeg) + 1)) 43 p0.toNatClampNeg) - 1)) 41 (((4 : Int32) * p0) + 0).toNatClampNeg 0) 41 (((4 : Int32) * p0) + 1).toNatClampNeg 0) 41 (((4 : Int32) * p0) + 2).toNatClampNeg 0) 41 (((4 : Int32) * p0) + 3).toNatClampNeg 0) 40 p0.toNatClampNeg ((kup (kup (kup (kup (kup (kup (kup (kup (kup mu 34 29 0) 34 29 1) 44 p0.toNatClampNeg 1) 45 p0.toNatClampNeg (((kup (kup (kup mu 34 29 0) 34 29 1) 44 p0.toNatClampNeg 1) 45 p0.toNatClampNeg) + 1)) 43 p0.toNatClampNeg (((kup (kup (kup (kup mu 34 29 0) 34 29 1) 44 p0.toNatClampNeg 1) 45 p0.toNatClampNeg (((kup (kup (kup mu 34 29 0) 34 29 1) 44 p0.toNatClampNeg 1) 45 p0.toNatClampNeg) + 1)) 43 p0.toNatClampNeg) - 1)) 41 (((4 : Int32) * p0) + 0).toNatClampNeg 0) 41 (((4 : Int32) * p0) + 1).toNatClampNeg 0) 41 (((4 : Int32) * p0) + 2).toNatClampNeg 0) 41 (((4 : Int32) * p0) + 3).toNatClampNeg 0) 38 p0.toNatClampNeg)) 34 27 1)
set_option maxHeartbeats 4000000 in
set_option maxRecDepth 100000 in
theorem c_X3_instruction (l : Launch) (D : va_G) (A : Nat → Nat) (C : Nat → ClassId) (ka mu : kM) (o : Int32) (sz : Nat) (hA : kinj A) (p0 : Int32) (hp : vp_in p0 6) (hB : mB mu p0.toNatClampNeg) (hC : mC mu) : kMv l yX3_instruction (.code yX3_instruction cX3_instruction 3 none) ({ frames := 2, cells := 0, slots := 0, locals := 56 }) D A C ka mu o sz [.ref (A 34), .int p0]  ka (f_X3_instruction mu p0) o := by
  refine kMv_of hA (by decide) (Nat.le_of_ble_eq_true rfl) (fun p e s m args below meth c G hr hlocks hP hS ls hl => ?_)
  have hl : lv_has ls 3 [(0, .ref (A 34)), (1, .int p0)] := hl
  refine lv_aload_n G.1 G.2.1 dX3_instruction_0 rfl (lv_at hl 0 rfl) ?_
  refine lv_iconst (v := 0) G.1 G.2.1 dX3_instruction_1 (by decide) ?_
  refine k3_puti G hP hS 29 (by unfold k3i; decide) (by decide) kq_538 rfl rfl rfl rfl dX3_instruction_2 (fun H locs hP hS => ?_)
  refine lv_aload_n G.1 G.2.1 dX3_instruction_5 rfl (lv_at hl 0 rfl) ?_
  refine lv_iload_n G.1 G.2.1 dX3_instruction_6 rfl (lv_at hl 1 rfl) ?_
  refine lv_aload_n G.1 G.2.1 dX3_instruction_7 rfl (lv_at hl 0 rfl) ?_
  refine k3_getr G hP 6 40 (by decide) (fun _ _ => rfl) kq_515 rfl dX3_instruction_8 ?_
  refine lv_iload_n G.1 G.2.1 dX3_instruction_11 rfl (lv_at hl 1 rfl) ?_
  refine kM_ald (r := 40) G hP kI_40 (by decide) hp dX3_instruction_12 ?_
  refine k_Vi (As := [.int p0, .int ((kup mu 34 29 0) 40 p0.toNatClampNeg)]) (rest := []) G hP hS hl.1 kl_X3_96 yk_X3_noWord (c_X3_noWord l D A C _ _ _ _ G.2.2.2.2.2.2 p0 ((kup mu 34 29 0) 40 p0.toNatClampNeg) hp) (kr3 G hP) (by decide) (by decide) rfl (Nat.le_of_ble_eq_true rfl) dX3_instruction_13 (fun H locs hP hS => ?_)
  refine lv_if_eq (tgt := 27) G.1 G.2.1 dX3_instruction_16 (by decide) (fun c_16 => ?_) (fun c_16 => ?_)
  · refine lv_aload_n G.1 G.2.1 dX3_instruction_27 rfl (lv_at hl 0 rfl) ?_
    refine lv_iload_n G.1 G.2.1 dX3_instruction_28 rfl (lv_at hl 1 rfl) ?_
    refine lv_aload_n G.1 G.2.1 dX3_instruction_29 rfl (lv_at hl 0 rfl) ?_
    refine k3_getr G hP 1 35 (by decide) (fun _ _ => rfl) kq_510 rfl dX3_instruction_30 ?_
    refine lv_aload_n G.1 G.2.1 dX3_instruction_33 rfl (lv_at hl 0 rfl) ?_
    refine k3_getr G hP 2 36 (by decide) (fun _ _ => rfl) kq_511 rfl dX3_instruction_34 ?_
    refine lv_iload_n G.1 G.2.1 dX3_instruction_37 rfl (lv_at hl 1 rfl) ?_
    refine kM_ald (r := 36) G hP kI_36 (by decide) hp dX3_instruction_38 ?_
    refine lv_aload_n G.1 G.2.1 dX3_instruction_39 rfl (lv_at hl 0 rfl) ?_
    refine k3_getr G hP 6 40 (by decide) (fun _ _ => rfl) kq_515 rfl dX3_instruction_40 ?_
    refine lv_iload_n G.1 G.2.1 dX3_instruction_43 rfl (lv_at hl 1 rfl) ?_
    refine kM_ald (r := 40) G hP kI_40 (by decide) hp dX3_instruction_44 ?_
    refine lv_iadd G.1 G.2.1 dX3_instruction_45 ?_
    refine kM_ald (r := 35) G hP kI_35 (by decide) (m_memB (mB_up34 hB) c_16) dX3_instruction_46 ?_
    refine k_Vv (As := [.int p0, .int ((kup mu 34 29 0) 35 (((kup mu 34 29 0) 36 p0.toNatClampNeg) + ((kup mu 34 29 0) 40 p0.toNatClampNeg)).toNatClampNeg)]) (rest := []) G hP hS hl.1 kl_X3_115 yk_X3_act (c_X3_act l D A C _ _ _ _ G.2.2.2.2.2.2 p0 ((kup mu 34 29 0) 35 (((kup mu 34 29 0) 36 p0.toNatClampNeg) + ((kup mu 34 29 0) 40 p0.toNatClampNeg)).toNatClampNeg) hp (mB_up34 hB) (mC_up34 hC)) (kr3 G hP) (by decide) (by decide) rfl (Nat.le_of_ble_eq_true rfl) dX3_instruction_47 (fun H locs hP hS => ?_)
    refine lv_aload_n G.1 G.2.1 dX3_instruction_50 rfl (lv_at hl 0 rfl) ?_
    refine k3_geti G hP 29 (by unfold k3i; decide) (by decide) kq_538 rfl dX3_instruction_51 ?_
    refine lv_if_ne (tgt := 68) G.1 G.2.1 dX3_instruction_54 (by decide) (fun c_54 => ?_) (fun c_54 => ?_)
    · refine lv_aload_n G.1 G.2.1 dX3_instruction_68 rfl (lv_at hl 0 rfl) ?_
      refine k3_getr G hP 10 44 (by decide) (fun _ _ => rfl) kq_519 rfl dX3_instruction_69 ?_
      refine lv_iload_n G.1 G.2.1 dX3_instruction_72 rfl (lv_at hl 1 rfl) ?_
      refine lv_aload_n G.1 G.2.1 dX3_instruction_73 rfl (lv_at hl 0 rfl) ?_
      refine k3_geti G hP 29 (by unfold k3i; decide) (by decide) kq_538 rfl dX3_instruction_74 ?_
      refine kM_ast (r := 44) G hP hS kI_44 (by decide) hp dX3_instruction_77 (fun H locs hP hS => ?_)
      refine lv_aload_n G.1 G.2.1 dX3_instruction_78 rfl (lv_at hl 0 rfl) ?_
      refine k3_getr G hP 11 45 (by decide) (fun _ _ => rfl) kq_520 rfl dX3_instruction_79 ?_
      refine lv_iload_n G.1 G.2.1 dX3_instruction_82 rfl (lv_at hl 1 rfl) ?_
      refine lv_dup2_11 G.1 G.2.1 dX3_instruction_83 rfl rfl ?_
      refine kM_ald (r := 45) G hP kI_45 (by decide) hp dX3_instruction_84 ?_
      refine lv_iconst (v := 1) G.1 G.2.1 dX3_instruction_85 (by decide) ?_
      refine lv_iadd G.1 G.2.1 dX3_instruction_86 ?_
      refine kM_ast (r := 45) G hP hS kI_45 (by decide) hp dX3_instruction_87 (fun H locs hP hS => ?_)
      refine lv_aload_n G.1 G.2.1 dX3_instruction_88 rfl (lv_at hl 0 rfl) ?_
      refine k3_getr G hP 9 43 (by decide) (fun _ _ => rfl) kq_518 rfl dX3_instruction_89 ?_
      refine lv_iload_n G.1 G.2.1 dX3_instruction_92 rfl (lv_at hl 1 rfl) ?_
      refine kM_ald (r := 43) G hP kI_43 (by decide) hp dX3_instruction_93 ?_
      refine lv_if_ne (tgt := 105) G.1 G.2.1 dX3_instruction_94 (by decide) (fun c_94 => ?_) (fun c_94 => ?_)
      · refine lv_aload_n G.1 G.2.1 dX3_instruction_105 rfl (lv_at hl 0 rfl) ?_
        refine k3_getr G hP 9 43 (by decide) (fun _ _ => rfl) kq_518 rfl dX3_instruction_106 ?_
        refine lv_iload_n G.1 G.2.1 dX3_instruction_109 rfl (lv_at hl 1 rfl) ?_
        refine lv_dup2_11 G.1 G.2.1 dX3_instruction_110 rfl rfl ?_
        refine kM_ald (r := 43) G hP kI_43 (by decide) hp dX3_instruction_111 ?_
        refine lv_iconst (v := 1) G.1 G.2.1 dX3_instruction_112 (by decide) ?_
        refine lv_isub G.1 G.2.1 dX3_instruction_113 ?_
        refine kM_ast (r := 43) G hP hS kI_43 (by decide) hp dX3_instruction_114 (fun H locs hP hS => ?_)
        refine lv_iconst (v := 0) G.1 G.2.1 dX3_instruction_115 (by decide) ?_
        refine lv_istore_n (lv' := [(2, .int 0), (0, .ref (A 34)), (1, .int p0)]) G.1 G.2.1 dX3_instruction_116 rfl hl (by decide) rfl (fun ls hl => ?_)
        refine lv_iload_n G.1 G.2.1 dX3_instruction_117 rfl (lv_at hl 0 rfl) ?_
        refine lv_iconst (v := 4) G.1 G.2.1 dX3_instruction_118 (by decide) ?_
        refine lv_icmp_ge (tgt := 139) G.1 G.2.1 dX3_instruction_119 (by decide) (fun c => absurd c (by decide)) (fun _ => ?_)
        refine lv_aload_n G.1 G.2.1 dX3_instruction_122 rfl (lv_at hl 1 rfl) ?_
        refine k3_getr G hP 7 41 (by decide) (fun _ _ => rfl) kq_516 rfl dX3_instruction_123 ?_
        refine lv_iconst (v := 4) G.1 G.2.1 dX3_instruction_126 (by decide) ?_
        refine lv_iload_n G.1 G.2.1 dX3_instruction_127 rfl (lv_at hl 2 rfl) ?_
        refine lv_imul G.1 G.2.1 dX3_instruction_128 ?_
        refine lv_iload_n G.1 G.2.1 dX3_instruction_129 rfl (lv_at hl 0 rfl) ?_
        refine lv_iadd G.1 G.2.1 dX3_instruction_130 ?_
        refine lv_iconst (v := 0) G.1 G.2.1 dX3_instruction_131 (by decide) ?_
        refine kM_ast (r := 41) G hP hS kI_41 (by decide) (kin4 hp (by unfold vp_in; decide)) dX3_instruction_132 (fun H locs hP hS => ?_)
        refine lv_iinc (v := 1) (lv' := [(2, .int 1), (0, .ref (A 34)), (1, .int p0)]) G.1 G.2.1 dX3_instruction_133 hl (k := 0) rfl (by decide) (by decide) rfl (fun ls hl => ?_)
        refine lv_goto (tgt := 117) G.1 G.2.1 dX3_instruction_136 (by decide) ?_
        refine lv_iload_n G.1 G.2.1 dX3_instruction_117 rfl (lv_at hl 0 rfl) ?_
        refine lv_iconst (v := 4) G.1 G.2.1 dX3_instruction_118 (by decide) ?_
        refine lv_icmp_ge (tgt := 139) G.1 G.2.1 dX3_instruction_119 (by decide) (fun c => absurd c (by decide)) (fun _ => ?_)
        refine lv_aload_n G.1 G.2.1 dX3_instruction_122 rfl (lv_at hl 1 rfl) ?_
        refine k3_getr G hP 7 41 (by decide) (fun _ _ => rfl) kq_516 rfl dX3_instruction_123 ?_
        refine lv_iconst (v := 4) G.1 G.2.1 dX3_instruction_126 (by decide) ?_
        refine lv_iload_n G.1 G.2.1 dX3_instruction_127 rfl (lv_at hl 2 rfl) ?_
        refine lv_imul G.1 G.2.1 dX3_instruction_128 ?_
        refine lv_iload_n G.1 G.2.1 dX3_instruction_129 rfl (lv_at hl 0 rfl) ?_
        refine lv_iadd G.1 G.2.1 dX3_instruction_130 ?_
        refine lv_iconst (v := 0) G.1 G.2.1 dX3_instruction_131 (by decide) ?_
        refine kM_ast (r := 41) G hP hS kI_41 (by decide) (kin4 hp (by unfold vp_in; decide)) dX3_instruction_132 (fun H locs hP hS => ?_)
        refine lv_iinc (v := 2) (lv' := [(2, .int 2), (0, .ref (A 34)), (1, .int p0)]) G.1 G.2.1 dX3_instruction_133 hl (k := 0) rfl (by decide) (by decide) rfl (fun ls hl => ?_)
        refine lv_goto (tgt := 117) G.1 G.2.1 dX3_instruction_136 (by decide) ?_
        refine lv_iload_n G.1 G.2.1 dX3_instruction_117 rfl (lv_at hl 0 rfl) ?_
        refine lv_iconst (v := 4) G.1 G.2.1 dX3_instruction_118 (by decide) ?_
        refine lv_icmp_ge (tgt := 139) G.1 G.2.1 dX3_instruction_119 (by decide) (fun c => absurd c (by decide)) (fun _ => ?_)
        refine lv_aload_n G.1 G.2.1 dX3_instruction_122 rfl (lv_at hl 1 rfl) ?_
        refine k3_getr G hP 7 41 (by decide) (fun _ _ => rfl) kq_516 rfl dX3_instruction_123 ?_
        refine lv_iconst (v := 4) G.1 G.2.1 dX3_instruction_126 (by decide) ?_
        refine lv_iload_n G.1 G.2.1 dX3_instruction_127 rfl (lv_at hl 2 rfl) ?_
        refine lv_imul G.1 G.2.1 dX3_instruction_128 ?_
        refine lv_iload_n G.1 G.2.1 dX3_instruction_129 rfl (lv_at hl 0 rfl) ?_
        refine lv_iadd G.1 G.2.1 dX3_instruction_130 ?_
        refine lv_iconst (v := 0) G.1 G.2.1 dX3_instruction_131 (by decide) ?_
        refine kM_ast (r := 41) G hP hS kI_41 (by decide) (kin4 hp (by unfold vp_in; decide)) dX3_instruction_132 (fun H locs hP hS => ?_)
        refine lv_iinc (v := 3) (lv' := [(2, .int 3), (0, .ref (A 34)), (1, .int p0)]) G.1 G.2.1 dX3_instruction_133 hl (k := 0) rfl (by decide) (by decide) rfl (fun ls hl => ?_)
        refine lv_goto (tgt := 117) G.1 G.2.1 dX3_instruction_136 (by decide) ?_
        refine lv_iload_n G.1 G.2.1 dX3_instruction_117 rfl (lv_at hl 0 rfl) ?_
        refine lv_iconst (v := 4) G.1 G.2.1 dX3_instruction_118 (by decide) ?_
        refine lv_icmp_ge (tgt := 139) G.1 G.2.1 dX3_instruction_119 (by decide) (fun c => absurd c (by decide)) (fun _ => ?_)
        refine lv_aload_n G.1 G.2.1 dX3_instruction_122 rfl (lv_at hl 1 rfl) ?_
        refine k3_getr G hP 7 41 (by decide) (fun _ _ => rfl) kq_516 rfl dX3_instruction_123 ?_
        refine lv_iconst (v := 4) G.1 G.2.1 dX3_instruction_126 (by decide) ?_
        refine lv_iload_n G.1 G.2.1 dX3_instruction_127 rfl (lv_at hl 2 rfl) ?_
        refine lv_imul G.1 G.2.1 dX3_instruction_128 ?_
        refine lv_iload_n G.1 G.2.1 dX3_instruction_129 rfl (lv_at hl 0 rfl) ?_
        refine lv_iadd G.1 G.2.1 dX3_instruction_130 ?_
        refine lv_iconst (v := 0) G.1 G.2.1 dX3_instruction_131 (by decide) ?_
        refine kM_ast (r := 41) G hP hS kI_41 (by decide) (kin4 hp (by unfold vp_in; decide)) dX3_instruction_132 (fun H locs hP hS => ?_)
        refine lv_iinc (v := 4) (lv' := [(2, .int 4), (0, .ref (A 34)), (1, .int p0)]) G.1 G.2.1 dX3_instruction_133 hl (k := 0) rfl (by decide) (by decide) rfl (fun ls hl => ?_)
        refine lv_goto (tgt := 117) G.1 G.2.1 dX3_instruction_136 (by decide) ?_
        refine lv_iload_n G.1 G.2.1 dX3_instruction_117 rfl (lv_at hl 0 rfl) ?_
        refine lv_iconst (v := 4) G.1 G.2.1 dX3_instruction_118 (by decide) ?_
        refine lv_icmp_ge (tgt := 139) G.1 G.2.1 dX3_instruction_119 (by decide) (fun _ => ?_) (fun c => absurd c (by decide))
        refine lv_aload_n G.1 G.2.1 dX3_instruction_139 rfl (lv_at hl 1 rfl) ?_
        refine k3_getr G hP 6 40 (by decide) (fun _ _ => rfl) kq_515 rfl dX3_instruction_140 ?_
        refine lv_iload_n G.1 G.2.1 dX3_instruction_143 rfl (lv_at hl 2 rfl) ?_
        refine lv_aload_n G.1 G.2.1 dX3_instruction_144 rfl (lv_at hl 1 rfl) ?_
        refine k3_getr G hP 4 38 (by decide) (fun _ _ => rfl) kq_513 rfl dX3_instruction_145 ?_
        refine lv_iload_n G.1 G.2.1 dX3_instruction_148 rfl (lv_at hl 2 rfl) ?_
        refine kM_ald (r := 38) G hP kI_38 (by decide) hp dX3_instruction_149 ?_
        refine kM_ast (r := 40) G hP hS kI_40 (by decide) hp dX3_instruction_150 (fun H locs hP hS => ?_)
        refine lv_aload_n G.1 G.2.1 dX3_instruction_151 rfl (lv_at hl 1 rfl) ?_
        refine lv_iconst (v := 1) G.1 G.2.1 dX3_instruction_152 (by decide) ?_
        refine k3_puti G hP hS 27 (by unfold k3i; decide) (by decide) kq_536 rfl rfl (by decide) (by decide) dX3_instruction_153 (fun H locs hP hS => ?_)
        exact k_vret G hr hlocks hP hS rfl (by rw [f_X3_instruction, if_pos c_16, if_neg c_54, if_neg c_94]) rfl dX3_instruction_156
      · refine lv_aload_n G.1 G.2.1 dX3_instruction_97 rfl (lv_at hl 0 rfl) ?_
        refine k3_getr G hP 5 39 (by decide) (fun _ _ => rfl) kq_514 rfl dX3_instruction_98 ?_
        refine lv_iload_n G.1 G.2.1 dX3_instruction_101 rfl (lv_at hl 1 rfl) ?_
        refine lv_iconst (v := 3) G.1 G.2.1 dX3_instruction_102 (by decide) ?_
        refine kM_ast (r := 39) G hP hS kI_39 (by decide) hp dX3_instruction_103 (fun H locs hP hS => ?_)
        exact k_vret G hr hlocks hP hS rfl (by rw [f_X3_instruction, if_pos c_16, if_neg c_54, if_pos c_94]) rfl dX3_instruction_104
    · refine lv_aload_n G.1 G.2.1 dX3_instruction_57 rfl (lv_at hl 0 rfl) ?_
      refine k3_getr G hP 8 42 (by decide) (fun _ _ => rfl) kq_517 rfl dX3_instruction_58 ?_
      refine lv_iload_n G.1 G.2.1 dX3_instruction_61 rfl (lv_at hl 1 rfl) ?_
      refine lv_dup2_11 G.1 G.2.1 dX3_instruction_62 rfl rfl ?_
      refine kM_ald (r := 42) G hP kI_42 (by decide) hp dX3_instruction_63 ?_
      refine lv_iconst (v := 1) G.1 G.2.1 dX3_instruction_64 (by decide) ?_
      refine lv_iadd G.1 G.2.1 dX3_instruction_65 ?_
      refine kM_ast (r := 42) G hP hS kI_42 (by decide) hp dX3_instruction_66 (fun H locs hP hS => ?_)
      exact k_vret G hr hlocks hP hS rfl (by rw [f_X3_instruction, if_pos c_16, if_pos c_54]) rfl dX3_instruction_67
  · refine lv_aload_n G.1 G.2.1 dX3_instruction_19 rfl (lv_at hl 0 rfl) ?_
    refine lv_iconst (v := 1) G.1 G.2.1 dX3_instruction_20 (by decide) ?_
    refine k3_puti G hP hS 29 (by unfold k3i; decide) (by decide) kq_538 rfl rfl rfl rfl dX3_instruction_21 (fun H locs hP hS => ?_)
    refine lv_goto (tgt := 50) G.1 G.2.1 dX3_instruction_24 (by decide) ?_
    refine lv_aload_n G.1 G.2.1 dX3_instruction_50 rfl (lv_at hl 0 rfl) ?_
    refine k3_getw (v := 1) G hP 29 (by unfold k3i; decide) (by decide) kq_538 rfl (by rw [kup_at]) dX3_instruction_51 ?_
    refine lv_if_ne (tgt := 68) G.1 G.2.1 dX3_instruction_54 (by decide) (fun _ => ?_) (fun c => absurd c (by decide))
    refine lv_aload_n G.1 G.2.1 dX3_instruction_68 rfl (lv_at hl 0 rfl) ?_
    refine k3_getr G hP 10 44 (by decide) (fun _ _ => rfl) kq_519 rfl dX3_instruction_69 ?_
    refine lv_iload_n G.1 G.2.1 dX3_instruction_72 rfl (lv_at hl 1 rfl) ?_
    refine lv_aload_n G.1 G.2.1 dX3_instruction_73 rfl (lv_at hl 0 rfl) ?_
    refine k3_getw (v := 1) G hP 29 (by unfold k3i; decide) (by decide) kq_538 rfl (by rw [kup_at]) dX3_instruction_74 ?_
    refine kM_ast (r := 44) G hP hS kI_44 (by decide) hp dX3_instruction_77 (fun H locs hP hS => ?_)
    refine lv_aload_n G.1 G.2.1 dX3_instruction_78 rfl (lv_at hl 0 rfl) ?_
    refine k3_getr G hP 11 45 (by decide) (fun _ _ => rfl) kq_520 rfl dX3_instruction_79 ?_
    refine lv_iload_n G.1 G.2.1 dX3_instruction_82 rfl (lv_at hl 1 rfl) ?_
    refine lv_dup2_11 G.1 G.2.1 dX3_instruction_83 rfl rfl ?_
    refine kM_ald (r := 45) G hP kI_45 (by decide) hp dX3_instruction_84 ?_
    refine lv_iconst (v := 1) G.1 G.2.1 dX3_instruction_85 (by decide) ?_
    refine lv_iadd G.1 G.2.1 dX3_instruction_86 ?_
    refine kM_ast (r := 45) G hP hS kI_45 (by decide) hp dX3_instruction_87 (fun H locs hP hS => ?_)
    refine lv_aload_n G.1 G.2.1 dX3_instruction_88 rfl (lv_at hl 0 rfl) ?_
    refine k3_getr G hP 9 43 (by decide) (fun _ _ => rfl) kq_518 rfl dX3_instruction_89 ?_
    refine lv_iload_n G.1 G.2.1 dX3_instruction_92 rfl (lv_at hl 1 rfl) ?_
    refine kM_ald (r := 43) G hP kI_43 (by decide) hp dX3_instruction_93 ?_
    refine lv_if_ne (tgt := 105) G.1 G.2.1 dX3_instruction_94 (by decide) (fun c_94 => ?_) (fun c_94 => ?_)
    · refine lv_aload_n G.1 G.2.1 dX3_instruction_105 rfl (lv_at hl 0 rfl) ?_
      refine k3_getr G hP 9 43 (by decide) (fun _ _ => rfl) kq_518 rfl dX3_instruction_106 ?_
      refine lv_iload_n G.1 G.2.1 dX3_instruction_109 rfl (lv_at hl 1 rfl) ?_
      refine lv_dup2_11 G.1 G.2.1 dX3_instruction_110 rfl rfl ?_
      refine kM_ald (r := 43) G hP kI_43 (by decide) hp dX3_instruction_111 ?_
      refine lv_iconst (v := 1) G.1 G.2.1 dX3_instruction_112 (by decide) ?_
      refine lv_isub G.1 G.2.1 dX3_instruction_113 ?_
      refine kM_ast (r := 43) G hP hS kI_43 (by decide) hp dX3_instruction_114 (fun H locs hP hS => ?_)
      refine lv_iconst (v := 0) G.1 G.2.1 dX3_instruction_115 (by decide) ?_
      refine lv_istore_n (lv' := [(2, .int 0), (0, .ref (A 34)), (1, .int p0)]) G.1 G.2.1 dX3_instruction_116 rfl hl (by decide) rfl (fun ls hl => ?_)
      refine lv_iload_n G.1 G.2.1 dX3_instruction_117 rfl (lv_at hl 0 rfl) ?_
      refine lv_iconst (v := 4) G.1 G.2.1 dX3_instruction_118 (by decide) ?_
      refine lv_icmp_ge (tgt := 139) G.1 G.2.1 dX3_instruction_119 (by decide) (fun c => absurd c (by decide)) (fun _ => ?_)
      refine lv_aload_n G.1 G.2.1 dX3_instruction_122 rfl (lv_at hl 1 rfl) ?_
      refine k3_getr G hP 7 41 (by decide) (fun _ _ => rfl) kq_516 rfl dX3_instruction_123 ?_
      refine lv_iconst (v := 4) G.1 G.2.1 dX3_instruction_126 (by decide) ?_
      refine lv_iload_n G.1 G.2.1 dX3_instruction_127 rfl (lv_at hl 2 rfl) ?_
      refine lv_imul G.1 G.2.1 dX3_instruction_128 ?_
      refine lv_iload_n G.1 G.2.1 dX3_instruction_129 rfl (lv_at hl 0 rfl) ?_
      refine lv_iadd G.1 G.2.1 dX3_instruction_130 ?_
      refine lv_iconst (v := 0) G.1 G.2.1 dX3_instruction_131 (by decide) ?_
      refine kM_ast (r := 41) G hP hS kI_41 (by decide) (kin4 hp (by unfold vp_in; decide)) dX3_instruction_132 (fun H locs hP hS => ?_)
      refine lv_iinc (v := 1) (lv' := [(2, .int 1), (0, .ref (A 34)), (1, .int p0)]) G.1 G.2.1 dX3_instruction_133 hl (k := 0) rfl (by decide) (by decide) rfl (fun ls hl => ?_)
      refine lv_goto (tgt := 117) G.1 G.2.1 dX3_instruction_136 (by decide) ?_
      refine lv_iload_n G.1 G.2.1 dX3_instruction_117 rfl (lv_at hl 0 rfl) ?_
      refine lv_iconst (v := 4) G.1 G.2.1 dX3_instruction_118 (by decide) ?_
      refine lv_icmp_ge (tgt := 139) G.1 G.2.1 dX3_instruction_119 (by decide) (fun c => absurd c (by decide)) (fun _ => ?_)
      refine lv_aload_n G.1 G.2.1 dX3_instruction_122 rfl (lv_at hl 1 rfl) ?_
      refine k3_getr G hP 7 41 (by decide) (fun _ _ => rfl) kq_516 rfl dX3_instruction_123 ?_
      refine lv_iconst (v := 4) G.1 G.2.1 dX3_instruction_126 (by decide) ?_
      refine lv_iload_n G.1 G.2.1 dX3_instruction_127 rfl (lv_at hl 2 rfl) ?_
      refine lv_imul G.1 G.2.1 dX3_instruction_128 ?_
      refine lv_iload_n G.1 G.2.1 dX3_instruction_129 rfl (lv_at hl 0 rfl) ?_
      refine lv_iadd G.1 G.2.1 dX3_instruction_130 ?_
      refine lv_iconst (v := 0) G.1 G.2.1 dX3_instruction_131 (by decide) ?_
      refine kM_ast (r := 41) G hP hS kI_41 (by decide) (kin4 hp (by unfold vp_in; decide)) dX3_instruction_132 (fun H locs hP hS => ?_)
      refine lv_iinc (v := 2) (lv' := [(2, .int 2), (0, .ref (A 34)), (1, .int p0)]) G.1 G.2.1 dX3_instruction_133 hl (k := 0) rfl (by decide) (by decide) rfl (fun ls hl => ?_)
      refine lv_goto (tgt := 117) G.1 G.2.1 dX3_instruction_136 (by decide) ?_
      refine lv_iload_n G.1 G.2.1 dX3_instruction_117 rfl (lv_at hl 0 rfl) ?_
      refine lv_iconst (v := 4) G.1 G.2.1 dX3_instruction_118 (by decide) ?_
      refine lv_icmp_ge (tgt := 139) G.1 G.2.1 dX3_instruction_119 (by decide) (fun c => absurd c (by decide)) (fun _ => ?_)
      refine lv_aload_n G.1 G.2.1 dX3_instruction_122 rfl (lv_at hl 1 rfl) ?_
      refine k3_getr G hP 7 41 (by decide) (fun _ _ => rfl) kq_516 rfl dX3_instruction_123 ?_
      refine lv_iconst (v := 4) G.1 G.2.1 dX3_instruction_126 (by decide) ?_
      refine lv_iload_n G.1 G.2.1 dX3_instruction_127 rfl (lv_at hl 2 rfl) ?_
      refine lv_imul G.1 G.2.1 dX3_instruction_128 ?_
      refine lv_iload_n G.1 G.2.1 dX3_instruction_129 rfl (lv_at hl 0 rfl) ?_
      refine lv_iadd G.1 G.2.1 dX3_instruction_130 ?_
      refine lv_iconst (v := 0) G.1 G.2.1 dX3_instruction_131 (by decide) ?_
      refine kM_ast (r := 41) G hP hS kI_41 (by decide) (kin4 hp (by unfold vp_in; decide)) dX3_instruction_132 (fun H locs hP hS => ?_)
      refine lv_iinc (v := 3) (lv' := [(2, .int 3), (0, .ref (A 34)), (1, .int p0)]) G.1 G.2.1 dX3_instruction_133 hl (k := 0) rfl (by decide) (by decide) rfl (fun ls hl => ?_)
      refine lv_goto (tgt := 117) G.1 G.2.1 dX3_instruction_136 (by decide) ?_
      refine lv_iload_n G.1 G.2.1 dX3_instruction_117 rfl (lv_at hl 0 rfl) ?_
      refine lv_iconst (v := 4) G.1 G.2.1 dX3_instruction_118 (by decide) ?_
      refine lv_icmp_ge (tgt := 139) G.1 G.2.1 dX3_instruction_119 (by decide) (fun c => absurd c (by decide)) (fun _ => ?_)
      refine lv_aload_n G.1 G.2.1 dX3_instruction_122 rfl (lv_at hl 1 rfl) ?_
      refine k3_getr G hP 7 41 (by decide) (fun _ _ => rfl) kq_516 rfl dX3_instruction_123 ?_
      refine lv_iconst (v := 4) G.1 G.2.1 dX3_instruction_126 (by decide) ?_
      refine lv_iload_n G.1 G.2.1 dX3_instruction_127 rfl (lv_at hl 2 rfl) ?_
      refine lv_imul G.1 G.2.1 dX3_instruction_128 ?_
      refine lv_iload_n G.1 G.2.1 dX3_instruction_129 rfl (lv_at hl 0 rfl) ?_
      refine lv_iadd G.1 G.2.1 dX3_instruction_130 ?_
      refine lv_iconst (v := 0) G.1 G.2.1 dX3_instruction_131 (by decide) ?_
      refine kM_ast (r := 41) G hP hS kI_41 (by decide) (kin4 hp (by unfold vp_in; decide)) dX3_instruction_132 (fun H locs hP hS => ?_)
      refine lv_iinc (v := 4) (lv' := [(2, .int 4), (0, .ref (A 34)), (1, .int p0)]) G.1 G.2.1 dX3_instruction_133 hl (k := 0) rfl (by decide) (by decide) rfl (fun ls hl => ?_)
      refine lv_goto (tgt := 117) G.1 G.2.1 dX3_instruction_136 (by decide) ?_
      refine lv_iload_n G.1 G.2.1 dX3_instruction_117 rfl (lv_at hl 0 rfl) ?_
      refine lv_iconst (v := 4) G.1 G.2.1 dX3_instruction_118 (by decide) ?_
      refine lv_icmp_ge (tgt := 139) G.1 G.2.1 dX3_instruction_119 (by decide) (fun _ => ?_) (fun c => absurd c (by decide))
      refine lv_aload_n G.1 G.2.1 dX3_instruction_139 rfl (lv_at hl 1 rfl) ?_
      refine k3_getr G hP 6 40 (by decide) (fun _ _ => rfl) kq_515 rfl dX3_instruction_140 ?_
      refine lv_iload_n G.1 G.2.1 dX3_instruction_143 rfl (lv_at hl 2 rfl) ?_
      refine lv_aload_n G.1 G.2.1 dX3_instruction_144 rfl (lv_at hl 1 rfl) ?_
      refine k3_getr G hP 4 38 (by decide) (fun _ _ => rfl) kq_513 rfl dX3_instruction_145 ?_
      refine lv_iload_n G.1 G.2.1 dX3_instruction_148 rfl (lv_at hl 2 rfl) ?_
      refine kM_ald (r := 38) G hP kI_38 (by decide) hp dX3_instruction_149 ?_
      refine kM_ast (r := 40) G hP hS kI_40 (by decide) hp dX3_instruction_150 (fun H locs hP hS => ?_)
      refine lv_aload_n G.1 G.2.1 dX3_instruction_151 rfl (lv_at hl 1 rfl) ?_
      refine lv_iconst (v := 1) G.1 G.2.1 dX3_instruction_152 (by decide) ?_
      refine k3_puti G hP hS 27 (by unfold k3i; decide) (by decide) kq_536 rfl rfl (by decide) (by decide) dX3_instruction_153 (fun H locs hP hS => ?_)
      exact k_vret G hr hlocks hP hS rfl (by rw [f_X3_instruction, if_neg c_16, if_neg c_94]) rfl dX3_instruction_156
    · refine lv_aload_n G.1 G.2.1 dX3_instruction_97 rfl (lv_at hl 0 rfl) ?_
      refine k3_getr G hP 5 39 (by decide) (fun _ _ => rfl) kq_514 rfl dX3_instruction_98 ?_
      refine lv_iload_n G.1 G.2.1 dX3_instruction_101 rfl (lv_at hl 1 rfl) ?_
      refine lv_iconst (v := 3) G.1 G.2.1 dX3_instruction_102 (by decide) ?_
      refine kM_ast (r := 39) G hP hS kI_39 (by decide) hp dX3_instruction_103 (fun H locs hP hS => ?_)
      exact k_vret G hr hlocks hP hS rfl (by rw [f_X3_instruction, if_neg c_16, if_pos c_94]) rfl dX3_instruction_104
